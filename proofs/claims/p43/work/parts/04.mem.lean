theorem am_good {ws : List Cond} (h : ∀ w ∈ ws, w ∈ am_gw) : GoodIn am_gw ws := fun w hw => ⟨h w hw, good_of_word (List.mem_filter.mp (h w hw)).2⟩
def am_cl (ci : Nat) (C : String) (T : u_T) (N : Nat) (tyf : Nat → FieldType) : Prop := ci < 9 ∧ vwCl[ci]? = some (C, T, N) ∧ (∀ w ∈ u_ws C T N, w ∈ am_gw) ∧ (∀ k, k < N → parseFieldDescriptor (T k).2.2.1 = some (tyf k)) ∧ (∀ a, a < N → ∀ b, b < N → a ≠ b → (T a).2.1 ≠ (T b).2.1)
def am_fl (own : String) (idx ci k : Nat) (ty : FieldType) (fin : Bool) : Prop := ∃ (C : String) (T : u_T) (N : Nat) (tyf : Nat → FieldType), am_cl ci C T N tyf ∧ k < N ∧ tyf k = ty ∧ (T k).2.2.2 = fin ∧ (T k).1 = C ∧ Cond.fieldLink own idx C (T k).2.1 (T k).2.2.1 ∈ am_gw
def am_ok (ty : FieldType) (v : Value) : Prop := ∀ (ro : Nat → Nat) (as : List Nat) (c : Value), am_VR ro as v c → narrow ty c = c ∧ fits ty c = true
theorem am_ok_int (x : Int32) : am_ok .int (.int x) := fun _ _ _ h => by cases h; exact ⟨rfl, rfl⟩
theorem am_ok_z0 : am_ok .boolean (.int 0) := fun _ _ _ h => by cases h; exact ⟨rfl, rfl⟩
theorem am_ok_z1 : am_ok .boolean (.int 1) := fun _ _ _ h => by cases h; exact ⟨rfl, rfl⟩
theorem am_ok_obj (C : String) (k : Nat) : am_ok (.object C) (.ref k) := fun _ _ _ h => by obtain ⟨a, -, rfl⟩ := h; exact ⟨rfl, rfl⟩
theorem am_ok_arr (t : FieldType) (k : Nat) : am_ok (.array t) (.ref k) := fun _ _ _ h => by obtain ⟨a, -, rfl⟩ := h; exact ⟨rfl, rfl⟩
theorem am_ok_objN (C : String) : am_ok (.object C) .null := fun _ _ _ h => by cases h; exact ⟨rfl, rfl⟩
def am_ix (i : Int32) (j : Nat) : Prop := ¬ i < 0 ∧ i.toNatClampNeg = j
theorem am_ix.in {i : Int32} {j n : Nat} (h : am_ix i j) (hj : j < n) : vp_in i n := fun q => by
  rcases q with q | q
  · exact h.1 q
  · rw [h.2] at q; omega
theorem am_ix_nI {j : Nat} (h : j < 2 ^ 31) : am_ix (nI j) j := ⟨nI_pos h, nI_clamp h⟩
theorem am_obj {ro : Nat → Nat} {cA : Nat → ClassId} {n : Nat} {h : am_H} {ws : va_W} (H : am_HR ro cA n h ws) {k ci : Nat} {vs : List Value} (hci : ci < 9) (hc : h k = some (.inr (ci, vs))) : ∃ (a : Nat) (fs : List Value), ws[k]? = some (a, .inr (ci, fs)) ∧ am_LR ro (am_as ws) vs fs ∧ am_ad ro (am_as ws) k = some a := by
  obtain ⟨a, e, h1, h2, h3⟩ := am_at H hc
  rcases h2 with ⟨-, fs, rfl, h4⟩ | ⟨h4, -, -⟩
  · exact ⟨a, fs, h1, h4, h3⟩
  · omega
theorem am_arr {ro : Nat → Nat} {cA : Nat → ClassId} {n : Nat} {h : am_H} {ws : va_W} (H : am_HR ro cA n h ws) {k t : Nat} {xs : List Int32} (hc : h k = some (.inl (t, xs))) : ∃ (a : Nat) (f : Nat → Int32), ws[k]? = some (a, .inl (cA t, xs.length, .inl f)) ∧ (∀ (j : Nat) (x : Int32), xs[j]? = some x → f j = x) ∧ am_ad ro (am_as ws) k = some a ∧ t < 3 := by
  obtain ⟨a, e, h1, h2, h3⟩ := am_at H hc
  obtain ⟨h4, f, rfl, h5⟩ := h2
  exact ⟨a, f, h1, h5, h3, h4⟩
theorem am_rar {ro : Nat → Nat} {cA : Nat → ClassId} {n : Nat} {h : am_H} {ws : va_W} (H : am_HR ro cA n h ws) {k t : Nat} {vs : List Value} (ht : 9 ≤ t) (hc : h k = some (.inr (t, vs))) : ∃ (a : Nat) (f : Nat → Option Nat), ws[k]? = some (a, .inl (cA (t - 10), vs.length, .inr (.inr (.inr (.inr f))))) ∧ (∀ (j : Nat) (v : Value), vs[j]? = some v → am_VR ro (am_as ws) v (va_rf (f j))) ∧ am_ad ro (am_as ws) k = some a ∧ 13 ≤ t ∧ t < 16 := by
  obtain ⟨a, e, h1, h2, h3⟩ := am_at H hc
  rcases h2 with ⟨h4, -⟩ | ⟨h4, h6, f, rfl, h5⟩
  · omega
  · exact ⟨a, f, h1, h5, h3, h4, h6⟩
theorem am_ad.fn {ro : Nat → Nat} {as : List Nat} {k a b : Nat} (h : am_ad ro as k = some a) (h2 : am_ad ro as k = some b) : b = a := Option.some.inj (h2.symm.trans h)
theorem am_St.same {n0 : Nat} {X : List Int32} {ro : Nat → Nat} {u U : State} {H : Heap} (hv : U.vm = u.vm) (h : am_St n0 X ro u H) : am_St n0 X ro U H := by
  have ha : u.vm.Alike U.vm := by rw [hv]; exact Vm.Alike.refl _
  obtain ⟨h1, h2, h3, h4, h5, h6, h7, h8, h9, h10, h11⟩ := h
  refine ⟨va_T.moved ha h1, va_Z.moved ha h2, va_T.moved ha h3, va_Z.moved ha h4, ?_, vk_S.moved ha h6, fun i q hq => vk_R.same hv (h7 i q hq), fun w hw => ?_, va_AO.moved ha h9, va_AO.moved ha h10, va_AO.moved ha h11⟩
  · rcases h5 with h5 | h5
    · exact Or.inl (va_Z.moved ha h5)
    · exact Or.inr (va_Z.moved ha h5)
  · have hz := h8 w hw
    have hN := (List.mem_filter.mp hw).2
    cases w <;> first | (simp [am_isN] at hN; done) | exact va_Nw.same rfl hv.symm hz
theorem am_St.move {n0 : Nat} {X : List Int32} {ro : Nat → Nat} {s U : State} {H : Heap} (hW : s.WarmedH U.vm) (hq : ∀ a : Nat, a < s.heap.size → ¬ n0 ≤ a → H[a]? = s.heap[a]?) (h : am_St n0 X ro s s.heap) : am_St n0 X ro U H := by
  have ha : s.vm.Alike U.vm := hW.alike
  obtain ⟨h1, h2, h3, h4, h5, h6, h7, h8, h9, h10, h11⟩ := h
  refine ⟨(va_T.moved ha h1).kept hq, (va_Z.moved ha h2).kept hq, (va_T.moved ha h3).kept hq, (va_Z.moved ha h4).kept hq, ?_, (vk_S.moved ha h6).kept hq, fun i q hq2 => vk_R.warm hW (h7 i q hq2), fun w hw => ?_, va_AO.moved ha h9, va_AO.moved ha h10, va_AO.moved ha h11⟩
  · rcases h5 with h5 | h5
    · exact Or.inl ((va_Z.moved ha h5).kept hq)
    · exact Or.inr ((va_Z.moved ha h5).kept hq)
  · have hz := h8 w hw
    have hN := (List.mem_filter.mp hw).2
    cases w <;> first | (simp [am_isN] at hN; done) | exact va_Nw.warmM hW hz
section AMM
variable {X : List Int32} {M : am_MD} {d rc rs pc npc : Nat} {L L' : am_L} {S S' : List Value} {n : Nat} {h h' : am_H} {Q : am_Q}
theorem aw_get {idx ci k0 a : Nat} {ty : FieldType} {fin : Bool} {fs : List Value} {v : Value} (hd : decode M.2.1 pc = .ok (.getfield idx, 3)) (hn : pc + 3 = npc) (hF : am_fl M.1.cls idx ci k0 ty fin) (ha : h a = some (.inr (ci, fs))) (hv : fs[k0]? = some v) (k : AW X M d rc rs npc L (v :: S) n h Q) : AW X M d rc rs pc L (.ref a :: S) n h Q := by
  subst hn
  intro n0 ro D cA p l e R s m args below meth c C hf hl ws H locs cells slots ls st QQ hW hL hS hc hs2 hQ
  obtain ⟨_, st, rfl, ⟨a1, h1, rfl⟩, hS⟩ := hS
  obtain ⟨C0, T, N, tyf, ⟨g1, g2, g3, g4, g5⟩, g6, g7, g8, g9, g10⟩ := hF
  obtain ⟨a2, gs, q1, q2, q3⟩ := am_obj hW.1 g1 ha
  cases h1.symm.trans q3
  obtain ⟨cv, q4, q5⟩ := q2.at hv
  exact va_get C.1 C.2.1 C.2.2.2.2.2.1 g3 C.2.2.2.2.1 C.2.2.2.2.2.2.2.2.1 hW.2.1 a q1 g2 k0 g6 (C.2.2.2.2.2.1 _ g10) (fun x hx => by rw [← g9]; exact hx) q4 hd (k n0 ro D cA p l e R s m args below meth c C hf hl ws H locs cells slots ls (cv :: st) QQ hW hL (hS.cons q5) hc hs2 hQ)
theorem aw_put {idx ci k0 a : Nat} {ty : FieldType} {fs : List Value} {v : Value} (hd : decode M.2.1 pc = .ok (.putfield idx, 3)) (hn : pc + 3 = npc) (hF : am_fl M.1.cls idx ci k0 ty false) (ha : h a = some (.inr (ci, fs))) (hk : k0 < fs.length) (hv : am_ok ty v) (hh : am_up h a (.inr (ci, fs.set k0 v)) = h') (k : AW X M d rc rs npc L S n h' Q) : AW X M d rc rs pc L (v :: .ref a :: S) n h Q := by
  subst hn; subst hh
  intro n0 ro D cA p l e R s m args below meth c C hf hl ws H locs cells slots ls st QQ hW hL hS hc hs2 hQ
  obtain ⟨cv, st, rfl, q5, _, st, rfl, ⟨a1, h1, rfl⟩, hS⟩ := hS
  obtain ⟨C0, T, N, tyf, ⟨g1, g2, g3, g4, g5⟩, g6, g7, g8, g9, g10⟩ := hF
  obtain ⟨a2, gs, q1, q2, q3⟩ := am_obj hW.1 g1 ha
  cases h1.symm.trans q3
  obtain ⟨v1, v2⟩ := hv ro _ _ q5
  exact va_put C.1 C.2.1 C.2.2.2.2.2.1 g3 tyf g4 g5 C.2.2.2.2.1 C.2.2.2.2.2.2.2.2.1 hW.2.1 hW.2.2.1 hW.2.2.2 a q1 g2 k0 g6 (C.2.2.2.2.2.1 _ g10) (fun x hx => by rw [← g9]; exact hx) g8 (g4 k0 g6) (by rw [g7]; exact v1) (by rw [g7]; exact v2) (by rw [q2.len]; exact hk) hd (fun H1 locs1 p1 p2 p3 => k n0 ro D cA p l e R s m args below meth c C hf hl (ws.set a (a1, .inr (ci, gs.set k0 cv))) H1 locs1 cells slots ls st QQ ⟨hW.1.set q1 (Or.inl ⟨g1, _, rfl, q2.set q5⟩), p1, p2, p3⟩ (by rw [am_as_set q1]; exact hL) (by rw [am_as_set q1]; exact hS) hc hs2 (by rw [am_as_set q1]; exact hQ))
theorem aw_putF {idx ci k0 a : Nat} {ty : FieldType} {fs : List Value} {v : Value} (hd : decode M.2.1 pc = .ok (.putfield idx, 3)) (hn : pc + 3 = npc) (hi9 : M.1.name = "<init>") (ho9 : ∀ (C : String) (T : u_T) (N : Nat), vwCl[ci]? = some (C, T, N) → C = M.1.cls) (hF : am_fl M.1.cls idx ci k0 ty true) (ha : h a = some (.inr (ci, fs))) (hk : k0 < fs.length) (hv : am_ok ty v) (hh : am_up h a (.inr (ci, fs.set k0 v)) = h') (k : AW X M d rc rs npc L S n h' Q) : AW X M d rc rs pc L (v :: .ref a :: S) n h Q := by
  subst hn; subst hh
  intro n0 ro D cA p l e R s m args below meth c C hf hl ws H locs cells slots ls st QQ hW hL hS hc hs2 hQ
  obtain ⟨cv, st, rfl, q5, _, st, rfl, ⟨a1, h1, rfl⟩, hS⟩ := hS
  obtain ⟨C0, T, N, tyf, ⟨g1, g2, g3, g4, g5⟩, g6, g7, g8, g9, g10⟩ := hF
  obtain ⟨a2, gs, q1, q2, q3⟩ := am_obj hW.1 g1 ha
  cases h1.symm.trans q3
  obtain ⟨v1, v2⟩ := hv ro _ _ q5
  exact va_putF C.1 C.2.1 C.2.2.2.2.2.1 g3 tyf g4 g5 C.2.2.2.2.1 C.2.2.2.2.2.2.2.2.1 hW.2.1 hW.2.2.1 hW.2.2.2 a q1 g2 k0 g6 (C.2.2.2.2.2.1 _ g10) (fun x hx => by rw [← g9]; exact hx) g8 (C.2.2.2.2.2.2.2.1 hi9) (g9.trans (ho9 _ _ _ g2)) (g4 k0 g6) (by rw [g7]; exact v1) (by rw [g7]; exact v2) (by rw [q2.len]; exact hk) hd (fun H1 locs1 p1 p2 p3 => k n0 ro D cA p l e R s m args below meth c C hf hl (ws.set a (a1, .inr (ci, gs.set k0 cv))) H1 locs1 cells slots ls st QQ ⟨hW.1.set q1 (Or.inl ⟨g1, _, rfl, q2.set q5⟩), p1, p2, p3⟩ (by rw [am_as_set q1]; exact hL) (by rw [am_as_set q1]; exact hS) hc hs2 (by rw [am_as_set q1]; exact hQ))
theorem aw_iald {a j : Nat} {i x : Int32} {xs : List Int32} (hd : decode M.2.1 pc = .ok (.iaload, 1)) (hn : pc + 1 = npc) (ha : h a = some (.inl (0, xs))) (hi : am_ix i j) (hx : xs[j]? = some x) (k : AW X M d rc rs npc L (.int x :: S) n h Q) : AW X M d rc rs pc L (.int i :: .ref a :: S) n h Q := by
  subst hn
  intro n0 ro D cA p l e R s m args below meth c C hf hl ws H locs cells slots ls st QQ hW hL hS hc hs2 hQ
  obtain ⟨_, st, rfl, rfl, _, st, rfl, ⟨a1, h1, rfl⟩, hS⟩ := hS
  obtain ⟨a2, f, q1, q2, q3, -⟩ := am_arr hW.1 ha
  cases h1.symm.trans q3
  refine va_iald C.1 C.2.1 C.2.2.2.2.2.2.2.2.1 hW.2.1 a 0 q1 rfl (hi.in (List.getElem?_eq_some_iff.mp hx).1) hd ?_
  rw [hi.2, q2 j x hx]
  exact k n0 ro D cA p l e R s m args below meth c C hf hl ws H locs cells slots ls (.int x :: st) QQ hW hL hS.int hc hs2 hQ
theorem aw_zald {a j : Nat} {i x : Int32} {xs : List Int32} (hd : decode M.2.1 pc = .ok (.baload, 1)) (hn : pc + 1 = npc) (ha : h a = some (.inl (1, xs))) (hi : am_ix i j) (hx : xs[j]? = some x) (k : AW X M d rc rs npc L (.int x :: S) n h Q) : AW X M d rc rs pc L (.int i :: .ref a :: S) n h Q := by
  subst hn
  intro n0 ro D cA p l e R s m args below meth c C hf hl ws H locs cells slots ls st QQ hW hL hS hc hs2 hQ
  obtain ⟨_, st, rfl, rfl, _, st, rfl, ⟨a1, h1, rfl⟩, hS⟩ := hS
  obtain ⟨a2, f, q1, q2, q3, -⟩ := am_arr hW.1 ha
  cases h1.symm.trans q3
  refine va_zald C.1 C.2.1 C.2.2.2.2.2.2.2.2.1 hW.2.1 a 1 q1 rfl (hi.in (List.getElem?_eq_some_iff.mp hx).1) hd ?_
  rw [hi.2, q2 j x hx]
  exact k n0 ro D cA p l e R s m args below meth c C hf hl ws H locs cells slots ls (.int x :: st) QQ hW hL hS.int hc hs2 hQ
theorem aw_cald {a j : Nat} {i x : Int32} {xs : List Int32} (hd : decode M.2.1 pc = .ok (.caload, 1)) (hn : pc + 1 = npc) (ha : h a = some (.inl (2, xs))) (hi : am_ix i j) (hx : xs[j]? = some x) (k : AW X M d rc rs npc L (.int x :: S) n h Q) : AW X M d rc rs pc L (.int i :: .ref a :: S) n h Q := by
  subst hn
  intro n0 ro D cA p l e R s m args below meth c C hf hl ws H locs cells slots ls st QQ hW hL hS hc hs2 hQ
  obtain ⟨_, st, rfl, rfl, _, st, rfl, ⟨a1, h1, rfl⟩, hS⟩ := hS
  obtain ⟨a2, f, q1, q2, q3, -⟩ := am_arr hW.1 ha
  cases h1.symm.trans q3
  refine va_cald C.1 C.2.1 C.2.2.2.2.2.2.2.2.1 hW.2.1 a 2 q1 rfl (hi.in (List.getElem?_eq_some_iff.mp hx).1) hd ?_
  rw [hi.2, q2 j x hx]
  exact k n0 ro D cA p l e R s m args below meth c C hf hl ws H locs cells slots ls (.int x :: st) QQ hW hL hS.int hc hs2 hQ
theorem aw_iast {a j : Nat} {i x : Int32} {xs : List Int32} (hd : decode M.2.1 pc = .ok (.iastore, 1)) (hn : pc + 1 = npc) (ha : h a = some (.inl (0, xs))) (hi : am_ix i j) (hj : j < xs.length) (hh : am_up h a (.inl (0, xs.set j x)) = h') (k : AW X M d rc rs npc L S n h' Q) : AW X M d rc rs pc L (.int x :: .int i :: .ref a :: S) n h Q := by
  subst hn; subst hh
  intro n0 ro D cA p l e R s m args below meth c C hf hl ws H locs cells slots ls st QQ hW hL hS hc hs2 hQ
  obtain ⟨_, st, rfl, rfl, _, st, rfl, rfl, _, st, rfl, ⟨a1, h1, rfl⟩, hS⟩ := hS
  obtain ⟨a2, f, q1, q2, q3, -⟩ := am_arr hW.1 ha
  cases h1.symm.trans q3
  refine va_iast C.1 C.2.1 C.2.2.2.2.2.2.2.2.1 hW.2.1 hW.2.2.1 hW.2.2.2 a 0 q1 rfl (hi.in hj) hd (fun H1 locs1 p1 p2 p3 => ?_)
  rw [hi.2] at p1 p2
  have e1 : ∀ e9 : va_E, am_as (ws.set a (a1, e9)) = am_as ws := fun e9 => am_as_set q1
  refine k n0 ro D cA p l e R s m args below meth c C hf hl _ H1 locs1 cells slots ls st QQ ⟨hW.1.set q1 ?_, p1, p2, p3⟩ (by rw [e1]; exact hL) (by rw [e1]; exact hS) hc hs2 (by rw [e1]; exact hQ)
  refine ⟨by decide, _, by rw [List.length_set], fun j2 x2 hx2 => ?_⟩
  by_cases hjj : j2 = j
  · subst hjj
    rw [List.getElem?_set_self hj] at hx2
    cases hx2
    simp [upd]
  · rw [List.getElem?_set_ne (Ne.symm hjj)] at hx2
    simp only [upd, if_neg hjj]
    exact q2 j2 x2 hx2
theorem aw_zast {a j : Nat} {i x y : Int32} {xs : List Int32} (hd : decode M.2.1 pc = .ok (.bastore, 1)) (hn : pc + 1 = npc) (ha : h a = some (.inl (1, xs))) (hi : am_ix i j) (hj : j < xs.length) (hy : vp_nar .boolean x = y) (hh : am_up h a (.inl (1, xs.set j y)) = h') (k : AW X M d rc rs npc L S n h' Q) : AW X M d rc rs pc L (.int x :: .int i :: .ref a :: S) n h Q := by
  subst hn; subst hh; subst hy
  intro n0 ro D cA p l e R s m args below meth c C hf hl ws H locs cells slots ls st QQ hW hL hS hc hs2 hQ
  obtain ⟨_, st, rfl, rfl, _, st, rfl, rfl, _, st, rfl, ⟨a1, h1, rfl⟩, hS⟩ := hS
  obtain ⟨a2, f, q1, q2, q3, -⟩ := am_arr hW.1 ha
  cases h1.symm.trans q3
  refine va_zast C.1 C.2.1 C.2.2.2.2.2.2.2.2.1 hW.2.1 hW.2.2.1 hW.2.2.2 a 1 q1 rfl (hi.in hj) hd (fun H1 locs1 p1 p2 p3 => ?_)
  rw [hi.2] at p1 p2
  have e1 : ∀ e9 : va_E, am_as (ws.set a (a1, e9)) = am_as ws := fun e9 => am_as_set q1
  refine k n0 ro D cA p l e R s m args below meth c C hf hl _ H1 locs1 cells slots ls st QQ ⟨hW.1.set q1 ?_, p1, p2, p3⟩ (by rw [e1]; exact hL) (by rw [e1]; exact hS) hc hs2 (by rw [e1]; exact hQ)
  refine ⟨by decide, _, by rw [List.length_set], fun j2 x2 hx2 => ?_⟩
  by_cases hjj : j2 = j
  · subst hjj
    rw [List.getElem?_set_self hj] at hx2
    cases hx2
    simp [upd]
  · rw [List.getElem?_set_ne (Ne.symm hjj)] at hx2
    simp only [upd, if_neg hjj]
    exact q2 j2 x2 hx2
theorem aw_cast {a j : Nat} {i x y : Int32} {xs : List Int32} (hd : decode M.2.1 pc = .ok (.castore, 1)) (hn : pc + 1 = npc) (ha : h a = some (.inl (2, xs))) (hi : am_ix i j) (hj : j < xs.length) (hy : vp_nar .char x = y) (hh : am_up h a (.inl (2, xs.set j y)) = h') (k : AW X M d rc rs npc L S n h' Q) : AW X M d rc rs pc L (.int x :: .int i :: .ref a :: S) n h Q := by
  subst hn; subst hh; subst hy
  intro n0 ro D cA p l e R s m args below meth c C hf hl ws H locs cells slots ls st QQ hW hL hS hc hs2 hQ
  obtain ⟨_, st, rfl, rfl, _, st, rfl, rfl, _, st, rfl, ⟨a1, h1, rfl⟩, hS⟩ := hS
  obtain ⟨a2, f, q1, q2, q3, -⟩ := am_arr hW.1 ha
  cases h1.symm.trans q3
  refine va_cast C.1 C.2.1 C.2.2.2.2.2.2.2.2.1 hW.2.1 hW.2.2.1 hW.2.2.2 a 2 q1 rfl (hi.in hj) hd (fun H1 locs1 p1 p2 p3 => ?_)
  rw [hi.2] at p1 p2
  have e1 : ∀ e9 : va_E, am_as (ws.set a (a1, e9)) = am_as ws := fun e9 => am_as_set q1
  refine k n0 ro D cA p l e R s m args below meth c C hf hl _ H1 locs1 cells slots ls st QQ ⟨hW.1.set q1 ?_, p1, p2, p3⟩ (by rw [e1]; exact hL) (by rw [e1]; exact hS) hc hs2 (by rw [e1]; exact hQ)
  refine ⟨by decide, _, by rw [List.length_set], fun j2 x2 hx2 => ?_⟩
  by_cases hjj : j2 = j
  · subst hjj
    rw [List.getElem?_set_self hj] at hx2
    cases hx2
    simp [upd]
  · rw [List.getElem?_set_ne (Ne.symm hjj)] at hx2
    simp only [upd, if_neg hjj]
    exact q2 j2 x2 hx2
theorem aw_alen {a t : Nat} {v : Int32} {xs : List Int32} (hd : decode M.2.1 pc = .ok (.arraylength, 1)) (hn : pc + 1 = npc) (ha : h a = some (.inl (t, xs))) (hv : Int32.ofNat xs.length = v) (k : AW X M d rc rs npc L (.int v :: S) n h Q) : AW X M d rc rs pc L (.ref a :: S) n h Q := by
  subst hn
  intro n0 ro D cA p l e R s m args below meth c C hf hl ws H locs cells slots ls st QQ hW hL hS hc hs2 hQ
  obtain ⟨_, st, rfl, ⟨a1, h1, rfl⟩, hS⟩ := hS
  obtain ⟨a2, f, q1, q2, q3, q4⟩ := am_arr hW.1 ha
  cases h1.symm.trans q3
  obtain ⟨ty, hty⟩ : ∃ ty, (am_tys cA)[t]? = some (cA t, ty) := by
    rcases (show t = 0 ∨ t = 1 ∨ t = 2 by omega) with rfl | rfl | rfl <;> exact ⟨_, rfl⟩
  exact va_alen C.1 C.2.1 C.2.2.2.2.2.2.2.2.1 hW.2.1 a t q1 hty hv hd (k n0 ro D cA p l e R s m args below meth c C hf hl ws H locs cells slots ls (.int v :: st) QQ hW hL hS.int hc hs2 hQ)
theorem am_tyr {cA : Nat → ClassId} {t : Nat} (h1 : 13 ≤ t) (h2 : t < 16) : ∃ C : String, (am_tys cA)[t - 10]? = some (cA (t - 10), .object C) := by
  rcases (show t = 13 ∨ t = 14 ∨ t = 15 by omega) with rfl | rfl | rfl <;> exact ⟨_, rfl⟩
theorem am_rf_ok {ro : Nat → Nat} {as : List Nat} {v : Value} {r : Option Nat} (h : am_VR ro as v (va_rf r)) : (r = none ∧ v = .null) ∨ ∃ k a, r = some a ∧ v = .ref k ∧ am_ad ro as k = some a := by
  cases r with
  | none =>
    cases v with
    | null => exact Or.inl ⟨rfl, rfl⟩
    | ref k => obtain ⟨a, -, h2⟩ := h; cases h2
    | int x => cases h
    | long x => cases h
    | _ => exact h.elim
  | some b =>
    cases v with
    | null => cases h
    | ref k => obtain ⟨a, h1, h2⟩ := h; cases h2; exact Or.inr ⟨k, _, rfl, rfl, h1⟩
    | int x => cases h
    | long x => cases h
    | _ => exact h.elim
theorem aw_aald {a j t : Nat} {i : Int32} {v : Value} {vs : List Value} (hd : decode M.2.1 pc = .ok (.aaload, 1)) (hn : pc + 1 = npc) (ht : 9 ≤ t) (ha : h a = some (.inr (t, vs))) (hi : am_ix i j) (hx : vs[j]? = some v) (k : AW X M d rc rs npc L (v :: S) n h Q) : AW X M d rc rs pc L (.int i :: .ref a :: S) n h Q := by
  subst hn
  intro n0 ro D cA p l e R s m args below meth c C hf hl ws H locs cells slots ls st QQ hW hL hS hc hs2 hQ
  obtain ⟨_, st, rfl, rfl, _, st, rfl, ⟨a1, h1, rfl⟩, hS⟩ := hS
  obtain ⟨a2, f, q1, q2, q3, q4, q5⟩ := am_rar hW.1 ht ha
  cases h1.symm.trans q3
  obtain ⟨C0, hC0⟩ := am_tyr (cA := cA) q4 q5
  refine va_aldq C.1 C.2.1 C.2.2.2.2.2.2.2.2.1 hW.2.1 a (t - 10) q1 hC0 (hi.in (List.getElem?_eq_some_iff.mp hx).1) hd ?_
  rw [hi.2]
  exact k n0 ro D cA p l e R s m args below meth c C hf hl ws H locs cells slots ls _ QQ hW hL (hS.cons (q2 j v hx)) hc hs2 hQ
theorem aw_aast {a b j t ci : Nat} {i : Int32} {vs fs : List Value} (hd : decode M.2.1 pc = .ok (.aastore, 1)) (hn : pc + 1 = npc) (ha : h a = some (.inr (t, vs))) (hb : h b = some (.inr (ci, fs))) (hci : (t = 13 ∧ ci = 2) ∨ (t = 14 ∧ ci = 3) ∨ (t = 15 ∧ ci = 5)) (hi : am_ix i j) (hj : j < vs.length) (hh : am_up h a (.inr (t, vs.set j (.ref b))) = h') (k : AW X M d rc rs npc L S n h' Q) : AW X M d rc rs pc L (.ref b :: .int i :: .ref a :: S) n h Q := by
  subst hn; subst hh
  intro n0 ro D cA p l e R s m args below meth c C hf hl ws H locs cells slots ls st QQ hW hL hS hc hs2 hQ
  obtain ⟨_, st, rfl, ⟨b1, h2, rfl⟩, _, st, rfl, rfl, _, st, rfl, ⟨a1, h1, rfl⟩, hS⟩ := hS
  obtain ⟨a2, f, q1, q2, q3, q4, q5⟩ := am_rar hW.1 (by omega) ha
  cases h1.symm.trans q3
  obtain ⟨b2, gs, r1, r2, r3⟩ := am_obj hW.1 (ci := ci) (by omega) hb
  cases h2.symm.trans r3
  obtain ⟨r, hr1, hr2⟩ : ∃ r : vw_C, vwCl[ci]? = some r ∧ (am_tys cA)[t - 10]? = some (cA (t - 10), .object r.1) := by
    rcases hci with ⟨rfl, rfl⟩ | ⟨rfl, rfl⟩ | ⟨rfl, rfl⟩ <;> exact ⟨_, rfl, rfl⟩
  refine va_astq C.1 C.2.1 C.2.2.2.2.2.2.2.2.1 hW.2.1 hW.2.2.1 hW.2.2.2 a (t - 10) b ci q1 hr2 r1 hr1 (hi.in hj) hd (fun H1 locs1 p1 p2 p3 => ?_)
  rw [hi.2] at p1 p2
  have e1 : ∀ e9 : va_E, am_as (ws.set a (a1, e9)) = am_as ws := fun e9 => am_as_set q1
  refine k n0 ro D cA p l e R s m args below meth c C hf hl _ H1 locs1 cells slots ls st QQ ⟨hW.1.set q1 ?_, p1, p2, p3⟩ (by rw [e1]; exact hL) (by rw [e1]; exact hS) hc hs2 (by rw [e1]; exact hQ)
  refine Or.inr ⟨q4, q5, _, by rw [List.length_set], fun j2 x2 hx2 => ?_⟩
  by_cases hjj : j2 = j
  · subst hjj
    rw [List.getElem?_set_self hj] at hx2
    cases hx2
    simp only [va_up, if_true]
    exact ⟨b1, h2, rfl⟩
  · rw [List.getElem?_set_ne (Ne.symm hjj)] at hx2
    simp only [va_up, if_neg hjj]
    exact q2 j2 x2 hx2
theorem aw_aastN {a j t : Nat} {i : Int32} {vs : List Value} (hd : decode M.2.1 pc = .ok (.aastore, 1)) (hn : pc + 1 = npc) (ht : 9 ≤ t) (ha : h a = some (.inr (t, vs))) (hi : am_ix i j) (hj : j < vs.length) (hh : am_up h a (.inr (t, vs.set j .null)) = h') (k : AW X M d rc rs npc L S n h' Q) : AW X M d rc rs pc L (.null :: .int i :: .ref a :: S) n h Q := by
  subst hn; subst hh
  intro n0 ro D cA p l e R s m args below meth c C hf hl ws H locs cells slots ls st QQ hW hL hS hc hs2 hQ
  obtain ⟨_, st, rfl, rfl, _, st, rfl, rfl, _, st, rfl, ⟨a1, h1, rfl⟩, hS⟩ := hS
  obtain ⟨a2, f, q1, q2, q3, q4, q5⟩ := am_rar hW.1 ht ha
  cases h1.symm.trans q3
  obtain ⟨C0, hC0⟩ := am_tyr (cA := cA) q4 q5
  refine va_astqN C.1 C.2.1 C.2.2.2.2.2.2.2.2.1 hW.2.1 hW.2.2.1 hW.2.2.2 a (t - 10) q1 hC0 (hi.in hj) hd (fun H1 locs1 p1 p2 p3 => ?_)
  rw [hi.2] at p1 p2
  have e1 : ∀ e9 : va_E, am_as (ws.set a (a1, e9)) = am_as ws := fun e9 => am_as_set q1
  refine k n0 ro D cA p l e R s m args below meth c C hf hl _ H1 locs1 cells slots ls st QQ ⟨hW.1.set q1 ?_, p1, p2, p3⟩ (by rw [e1]; exact hL) (by rw [e1]; exact hS) hc hs2 (by rw [e1]; exact hQ)
  refine Or.inr ⟨q4, q5, _, by rw [List.length_set], fun j2 x2 hx2 => ?_⟩
  by_cases hjj : j2 = j
  · subst hjj
    rw [List.getElem?_set_self hj] at hx2
    cases hx2
    simp only [va_up, if_true]
    rfl
  · rw [List.getElem?_set_ne (Ne.symm hjj)] at hx2
    simp only [va_up, if_neg hjj]
    exact q2 j2 x2 hx2
theorem am_nref {ro : Nat → Nat} {ws : va_W} {n q : Nat} {e : va_E} (h : ws.length = n) (hn : n < 1000000) : am_VR ro (am_as (ws ++ [(q, e)])) (.ref n) (.ref q) := by
  refine ⟨q, ?_, rfl⟩
  unfold am_ad
  rw [if_pos hn, List.getElem?_map, ← h]
  simp
def am_nwf (own : String) (idx ci : Nat) (fs : List Value) : Prop := ∃ (C : String) (T : u_T) (N : Nat) (tyf : Nat → FieldType), am_cl ci C T N tyf ∧ Cond.classLink own idx C ∈ am_gw ∧ Cond.instantiable C N ∈ am_gw ∧ Cond.initialized C ∈ am_gw ∧ fs.length = N ∧ (∀ j, j < N → defaultValue (tyf j) = vp_V fs j) ∧ ∀ v ∈ fs, v = .null ∨ ∃ x, v = .int x
theorem am_LR.plain {ro : Nat → Nat} {as : List Nat} : ∀ {fs : List Value}, (∀ v ∈ fs, v = .null ∨ ∃ x, v = .int x) → am_LR ro as fs fs
  | [], _ => rfl
  | v :: fs, h => by
    refine am_LR.cons ?_ (am_LR.plain (fun u hu => h u (List.mem_cons_of_mem _ hu)))
    rcases h v List.mem_cons_self with rfl | ⟨x, rfl⟩ <;> rfl
theorem aw_new {idx ci rc' rs' : Nat} {fs : List Value} (hd : decode M.2.1 pc = .ok (.new idx, 3)) (hn : pc + 3 = npc) (hF : am_nwf M.1.cls idx ci fs) (hlt : n < 1000000) (hrc : rc' + 1 = rc) (hrs : rs' + fs.length = rs) (hh : am_up h n (.inr (ci, fs)) = h') (k : AW X M d rc' rs' npc L (.ref n :: S) (n + 1) h' Q) : AW X M d rc rs pc L S n h Q := by
  subst hn; subst hh; subst hrc; subst hrs
  intro n0 ro D cA p l e R s m args below meth c C hf hl ws H locs cells slots ls st QQ hW hL hS hc hs2 hQ
  obtain ⟨C0, T, N, tyf, ⟨g1, g2, g3, g4, g5⟩, g6, g7, g8, rfl, g10, g11⟩ := hF
  refine va_new C.1 C.2.1 C.2.2.2.2.2.1 g3 tyf g4 C.2.2.2.2.1 (C.2.2.2.2.2.1 _ g6) (C.2.2.2.2.2.1 _ g7) (C.2.2.2.2.2.1 _ g8) C.2.2.2.2.2.2.2.2.1 hW.2.1 hW.2.2.1 hW.2.2.2 (fun q hq => Nat.le_trans C.2.2.2.2.2.2.2.2.2.2 hq) g2 g10 (by omega) (by omega) hd (fun q H1 p1 p2 p3 => ?_)
  exact k n0 ro D cA p l e R s m args below meth c C hf hl _ H1 locs (cells + 1) (slots + fs.length) ls _ QQ ⟨hW.1.push hlt (Or.inl ⟨g1, _, rfl, am_LR.plain g11⟩), p1, p2, p3⟩ (hL.mono am_pf.push) ((hS.mono am_pf.push).cons (am_nref hW.1.1 hlt)) (by omega) (by omega) (fun r9 n9 h9 ws9 H9 locs9 cells9 slots9 pc9 ls9 st9 x1 x2 => hQ r9 n9 h9 ws9 H9 locs9 cells9 slots9 pc9 ls9 st9 x1 (am_pf.push.tr x2))
theorem aw_newi {rc' rs' N : Nat} {i : Int32} (hd : decode M.2.1 pc = .ok (.newarray .int, 2)) (hn : pc + 2 = npc) (hw9 : Cond.arrayClass .int ∈ am_gw) (hi : am_ix i N) (hN : N * 4 ≤ 536870912) (hlt : n < 1000000) (hrc : rc' + 1 = rc) (hrs : rs' + N = rs) (hh : am_up h n (.inl (0, List.replicate N 0)) = h') (k : AW X M d rc' rs' npc L (.ref n :: S) (n + 1) h' Q) : AW X M d rc rs pc L (.int i :: S) n h Q := by
  subst hn; subst hh; subst hrc; subst hrs
  intro n0 ro D cA p l e R s m args below meth c C hf hl ws H locs cells slots ls st QQ hW hL hS hc hs2 hQ
  obtain ⟨_, st, rfl, rfl, hS⟩ := hS
  refine va_newa (atype := .int) C.1 C.2.1 (C.2.2.2.2.2.1 _ hw9) (ty := .int) rfl C.2.2.2.2.2.2.2.2.1 hW.2.1 hW.2.2.1 hW.2.2.2 (fun q hq => Nat.le_trans C.2.2.2.2.2.2.2.2.2.2 hq) (a0 := (N, .inl (fun _ => 0))) (fun _ => rfl) hi.1 hi.2 (by simp only [componentBytes]; omega) (by omega) (by omega) hd (fun q cA9 H1 p0 p1 p2 p3 => ?_)
  have e9 : cA9 = cA 0 := by
    have z1 := (p0.2 6 (cA9, .int) rfl).2
    have z2 := (C.2.2.2.2.2.2.2.2.1.2 0 (cA 0, .int) rfl).2
    exact Option.some.inj (z1.symm.trans z2)
  subst e9
  exact k n0 ro D cA p l e R s m args below meth c C hf hl _ H1 locs (cells + 1) (slots + N) ls _ QQ ⟨hW.1.push hlt ⟨by decide, _, by rw [List.length_replicate], fun j x hx => by simp [List.getElem?_replicate] at hx; exact hx.2⟩, p1, p2, p3⟩ (hL.mono am_pf.push) ((hS.mono am_pf.push).cons (am_nref hW.1.1 hlt)) (by omega) (by omega) (fun r9 n9 h9 ws9 H9 locs9 cells9 slots9 pc9 ls9 st9 x1 x2 => hQ r9 n9 h9 ws9 H9 locs9 cells9 slots9 pc9 ls9 st9 x1 (am_pf.push.tr x2))
theorem aw_newz {rc' rs' N : Nat} {i : Int32} (hd : decode M.2.1 pc = .ok (.newarray .boolean, 2)) (hn : pc + 2 = npc) (hw9 : Cond.arrayClass .boolean ∈ am_gw) (hi : am_ix i N) (hN : N * 4 ≤ 536870912) (hlt : n < 1000000) (hrc : rc' + 1 = rc) (hrs : rs' + N = rs) (hh : am_up h n (.inl (1, List.replicate N 0)) = h') (k : AW X M d rc' rs' npc L (.ref n :: S) (n + 1) h' Q) : AW X M d rc rs pc L (.int i :: S) n h Q := by
  subst hn; subst hh; subst hrc; subst hrs
  intro n0 ro D cA p l e R s m args below meth c C hf hl ws H locs cells slots ls st QQ hW hL hS hc hs2 hQ
  obtain ⟨_, st, rfl, rfl, hS⟩ := hS
  refine va_newa (atype := .boolean) C.1 C.2.1 (C.2.2.2.2.2.1 _ hw9) (ty := .boolean) rfl C.2.2.2.2.2.2.2.2.1 hW.2.1 hW.2.2.1 hW.2.2.2 (fun q hq => Nat.le_trans C.2.2.2.2.2.2.2.2.2.2 hq) (a0 := (N, .inl (fun _ => 0))) (fun _ => rfl) hi.1 hi.2 (by simp only [componentBytes]; omega) (by omega) (by omega) hd (fun q cA9 H1 p0 p1 p2 p3 => ?_)
  have e9 : cA9 = cA 1 := by
    have z1 := (p0.2 6 (cA9, .boolean) rfl).2
    have z2 := (C.2.2.2.2.2.2.2.2.1.2 1 (cA 1, .boolean) rfl).2
    exact Option.some.inj (z1.symm.trans z2)
  subst e9
  exact k n0 ro D cA p l e R s m args below meth c C hf hl _ H1 locs (cells + 1) (slots + N) ls _ QQ ⟨hW.1.push hlt ⟨by decide, _, by rw [List.length_replicate], fun j x hx => by simp [List.getElem?_replicate] at hx; exact hx.2⟩, p1, p2, p3⟩ (hL.mono am_pf.push) ((hS.mono am_pf.push).cons (am_nref hW.1.1 hlt)) (by omega) (by omega) (fun r9 n9 h9 ws9 H9 locs9 cells9 slots9 pc9 ls9 st9 x1 x2 => hQ r9 n9 h9 ws9 H9 locs9 cells9 slots9 pc9 ls9 st9 x1 (am_pf.push.tr x2))
theorem aw_newc {rc' rs' N : Nat} {i : Int32} (hd : decode M.2.1 pc = .ok (.newarray .char, 2)) (hn : pc + 2 = npc) (hw9 : Cond.arrayClass .char ∈ am_gw) (hi : am_ix i N) (hN : N * 4 ≤ 536870912) (hlt : n < 1000000) (hrc : rc' + 1 = rc) (hrs : rs' + N = rs) (hh : am_up h n (.inl (2, List.replicate N 0)) = h') (k : AW X M d rc' rs' npc L (.ref n :: S) (n + 1) h' Q) : AW X M d rc rs pc L (.int i :: S) n h Q := by
  subst hn; subst hh; subst hrc; subst hrs
  intro n0 ro D cA p l e R s m args below meth c C hf hl ws H locs cells slots ls st QQ hW hL hS hc hs2 hQ
  obtain ⟨_, st, rfl, rfl, hS⟩ := hS
  refine va_newa (atype := .char) C.1 C.2.1 (C.2.2.2.2.2.1 _ hw9) (ty := .char) rfl C.2.2.2.2.2.2.2.2.1 hW.2.1 hW.2.2.1 hW.2.2.2 (fun q hq => Nat.le_trans C.2.2.2.2.2.2.2.2.2.2 hq) (a0 := (N, .inl (fun _ => 0))) (fun _ => rfl) hi.1 hi.2 (by simp only [componentBytes]; omega) (by omega) (by omega) hd (fun q cA9 H1 p0 p1 p2 p3 => ?_)
  have e9 : cA9 = cA 2 := by
    have z1 := (p0.2 6 (cA9, .char) rfl).2
    have z2 := (C.2.2.2.2.2.2.2.2.1.2 2 (cA 2, .char) rfl).2
    exact Option.some.inj (z1.symm.trans z2)
  subst e9
  exact k n0 ro D cA p l e R s m args below meth c C hf hl _ H1 locs (cells + 1) (slots + N) ls _ QQ ⟨hW.1.push hlt ⟨by decide, _, by rw [List.length_replicate], fun j x hx => by simp [List.getElem?_replicate] at hx; exact hx.2⟩, p1, p2, p3⟩ (hL.mono am_pf.push) ((hS.mono am_pf.push).cons (am_nref hW.1.1 hlt)) (by omega) (by omega) (fun r9 n9 h9 ws9 H9 locs9 cells9 slots9 pc9 ls9 st9 x1 x2 => hQ r9 n9 h9 ws9 H9 locs9 cells9 slots9 pc9 ls9 st9 x1 (am_pf.push.tr x2))
def am_rC (t : Nat) : String := if t = 13 then RX2 else if t = 14 then RX3 else RX5
theorem aw_newq {rc' rs' N t idx : Nat} {i : Int32} (hd : decode M.2.1 pc = .ok (.anewarray idx, 3)) (hn : pc + 3 = npc) (ht1 : 13 ≤ t) (ht2 : t < 16) (hw9 : Cond.classLink M.1.cls idx (am_rC t) ∈ am_gw) (hi : am_ix i N) (hN : N * 4 ≤ 536870912) (hlt : n < 1000000) (hrc : rc' + 1 = rc) (hrs : rs' + N = rs) (hh : am_up h n (.inr (t, List.replicate N .null)) = h') (k : AW X M d rc' rs' npc L (.ref n :: S) (n + 1) h' Q) : AW X M d rc rs pc L (.int i :: S) n h Q := by
  subst hn; subst hh; subst hrc; subst hrs
  intro n0 ro D cA p l e R s m args below meth c C hf hl ws H locs cells slots ls st QQ hW hL hS hc hs2 hQ
  obtain ⟨_, st, rfl, rfl, hS⟩ := hS
  have hov : va_AO (am_rC t) s := by
    obtain ⟨-, -, -, -, -, -, -, -, h9, h10, h11⟩ := C.2.2.2.2.2.2.2.2.2.1
    rcases (show t = 13 ∨ t = 14 ∨ t = 15 by omega) with rfl | rfl | rfl <;> assumption
  refine va_newq C.1 C.2.1 C.2.2.2.2.1 (C.2.2.2.2.2.1 _ hw9) hov C.2.2.2.2.2.2.2.2.1 hW.2.1 hW.2.2.1 hW.2.2.2 (fun q hq => Nat.le_trans C.2.2.2.2.2.2.2.2.2.2 hq) hi.1 hi.2 hN (by omega) (by omega) hd (fun q cA9 H1 p0 p1 p2 p3 => ?_)
  have e9 : cA9 = cA (t - 10) := by
    have z1 := (p0.2 6 (cA9, .object (am_rC t)) rfl).2
    have z2 := (C.2.2.2.2.2.2.2.2.1.2 (t - 10) (cA (t - 10), .object (am_rC t)) (by rcases (show t = 13 ∨ t = 14 ∨ t = 15 by omega) with rfl | rfl | rfl <;> rfl)).2
    obtain ⟨_, _, _, _, _, y1⟩ := z1
    obtain ⟨_, _, _, _, _, y2⟩ := z2
    exact Option.some.inj (y1.symm.trans y2)
  subst e9
  exact k n0 ro D cA p l e R s m args below meth c C hf hl _ H1 locs (cells + 1) (slots + N) ls _ QQ ⟨hW.1.push hlt (Or.inr ⟨ht1, ht2, _, by rw [List.length_replicate], fun j x hx => by simp [List.getElem?_replicate] at hx; rw [← hx.2]; rfl⟩), p1, p2, p3⟩ (hL.mono am_pf.push) ((hS.mono am_pf.push).cons (am_nref hW.1.1 hlt)) (by omega) (by omega) (fun r9 n9 h9 ws9 H9 locs9 cells9 slots9 pc9 ls9 st9 x1 x2 => hQ r9 n9 h9 ws9 H9 locs9 cells9 slots9 pc9 ls9 st9 x1 (am_pf.push.tr x2))
theorem aw_vret (hr : M.2.2.2 = none) (hd : decode M.2.1 pc = .ok (.return_, 1)) (hq : Q (none) n h) : AW X M d rc rs pc L ([]) n h Q := by
  intro n0 ro D cA p l e R s m args below meth c C hf hl ws H locs cells slots ls st QQ hW hL hS hc hs2 hQ
  exact hQ _ n h ws H locs cells slots pc ls st hq am_pf.rf hW (by omega) (by omega) ⟨hd, hr⟩ hS
theorem aw_iret {x : Int32} (hr : M.2.2.2 = some .int) (hd : decode M.2.1 pc = .ok (.ireturn, 1)) (hq : Q (some (.int x)) n h) : AW X M d rc rs pc L ([.int x]) n h Q := by
  intro n0 ro D cA p l e R s m args below meth c C hf hl ws H locs cells slots ls st QQ hW hL hS hc hs2 hQ
  exact hQ _ n h ws H locs cells slots pc ls st hq am_pf.rf hW (by omega) (by omega) ⟨hd, _, hr, rfl⟩ hS
theorem aw_zret {x : Int32} {ty : FieldType} (hr : M.2.2.2 = some ty) (hx : narrow ty (.int x) = .int x) (hd : decode M.2.1 pc = .ok (.ireturn, 1)) (hq : Q (some (.int x)) n h) : AW X M d rc rs pc L ([.int x]) n h Q := by
  intro n0 ro D cA p l e R s m args below meth c C hf hl ws H locs cells slots ls st QQ hW hL hS hc hs2 hQ
  exact hQ _ n h ws H locs cells slots pc ls st hq am_pf.rf hW (by omega) (by omega) ⟨hd, _, hr, hx⟩ hS
theorem aw_lret {x : Int64} (hr : M.2.2.2 = some .long) (hd : decode M.2.1 pc = .ok (.lreturn, 1)) (hq : Q (some (.long x)) n h) : AW X M d rc rs pc L ([.long x]) n h Q := by
  intro n0 ro D cA p l e R s m args below meth c C hf hl ws H locs cells slots ls st QQ hW hL hS hc hs2 hQ
  exact hQ _ n h ws H locs cells slots pc ls st hq am_pf.rf hW (by omega) (by omega) ⟨hd, hr⟩ hS
theorem aw_aret {x : Nat} {ty : FieldType} (hr : M.2.2.2 = some ty) (hx : (∃ n, ty = .object n) ∨ ∃ t, ty = .array t) (hd : decode M.2.1 pc = .ok (.areturn, 1)) (hq : Q (some (.ref x)) n h) : AW X M d rc rs pc L ([.ref x]) n h Q := by
  intro n0 ro D cA p l e R s m args below meth c C hf hl ws H locs cells slots ls st QQ hW hL hS hc hs2 hQ
  exact hQ _ n h ws H locs cells slots pc ls st hq am_pf.rf hW (by omega) (by omega) ⟨hd, _, hr, hx⟩ hS
theorem aw_aretN {ty : FieldType} (hr : M.2.2.2 = some ty) (hx : (∃ n, ty = .object n) ∨ ∃ t, ty = .array t) (hd : decode M.2.1 pc = .ok (.areturn, 1)) (hq : Q (some .null) n h) : AW X M d rc rs pc L ([.null]) n h Q := by
  intro n0 ro D cA p l e R s m args below meth c C hf hl ws H locs cells slots ls st QQ hW hL hS hc hs2 hQ
  exact hQ _ n h ws H locs cells slots pc ls st hq am_pf.rf hW (by omega) (by omega) ⟨hd, _, hr, hx⟩ hS
theorem aw_obj {idx v : Nat} (hd : decode M.2.1 pc = .ok (.invokespecial idx, 3)) (hn : pc + 3 = npc) (h1 : Cond.methodLink M.1.cls idx Lib.objectInit ∈ am_gw) (h2 : Cond.instanceMethod Lib.objectInit ∈ am_gw) (h3 : Cond.code Lib.objectInit ⟨#[0xb1]⟩ 1 none ∈ am_gw) (hr : (S.map fun v => v.category).sum ≤ 8) (k : AW X M (d + 1) rc rs npc L S n h Q) : AW X M (d + 1) rc rs pc L (.ref v :: S) n h Q := by
  subst hn
  intro n0 ro D cA p l e R s m args below meth c C hf hl ws H locs cells slots ls st QQ hW hL hS hc hs2 hQ
  obtain ⟨_, st, rfl, ⟨a1, g1, rfl⟩, hS⟩ := hS
  have hr2 : 2 * (F0 m pc ls st).monitorRoom + (st.map fun v => v.category).sum ≤ 8 := lv_room (by rw [hS.cat]; exact hr)
  refine W.objInit C.1 C.2.1 C.2.2.2.2.1 (C.2.2.2.2.2.1 _ h1) (C.2.2.2.2.2.1 _ h2) (C.2.2.2.2.2.1 _ h3) rfl (hL.1.trans C.2.2.2.1.symm) rfl hd (by omega) (by have z : 2 * (F0 m pc ls st).monitorRoom = 2 * (F0 m pc ls (.ref a1 :: st)).monitorRoom := rfl; omega) ?_
  exact W.eq (g2 := F0 m (pc + 3) ls st) rfl (k n0 ro D cA p l e R s m args below meth c C hf hl ws H locs cells slots ls st QQ hW hL hS hc hs2 hQ)
theorem aw_mmin {idx : Nat} {x y : Int32} (hd : decode M.2.1 pc = .ok (.invokestatic idx, 3)) (hn : pc + 3 = npc) (h1 : Cond.methodLink M.1.cls idx Lib.Math.min.name ∈ am_gw) (h2 : Cond.static Lib.Math.min.name ∈ am_gw ∧ Cond.initialized "java/lang/Math" ∈ am_gw ∧ Cond.code Lib.Math.min.name Lib.Math.min.code 2 (some .int) ∈ am_gw) (hr : (S.map fun v => v.category).sum ≤ 8) (k : AW X M (d + 1) rc rs npc L (.int (if y < x then y else x) :: S) n h Q) : AW X M (d + 1) rc rs pc L (.int y :: .int x :: S) n h Q := by
  subst hn
  intro n0 ro D cA p l e R s m args below meth c C hf hl ws H locs cells slots ls st QQ hW hL hS hc hs2 hQ
  obtain ⟨_, st, rfl, rfl, _, st, rfl, rfl, hS⟩ := hS
  refine va_mmin C.1 C.2.1 (C.2.2.2.1.trans hL.1.symm) C.2.2.2.2.1 (C.2.2.2.2.2.1 _ h1) (C.2.2.2.2.2.1 _ h2.1) (C.2.2.2.2.2.1 _ h2.2.1) (C.2.2.2.2.2.1 _ h2.2.2) (by omega) (by rw [hS.cat]; omega) (by omega) (by omega) hd ?_
  exact k n0 ro D cA p l e R s m args below meth c C hf hl ws H locs cells slots ls _ QQ hW hL hS.int hc hs2 hQ
theorem aw_mmax {idx : Nat} {x y : Int32} (hd : decode M.2.1 pc = .ok (.invokestatic idx, 3)) (hn : pc + 3 = npc) (h1 : Cond.methodLink M.1.cls idx Lib.Math.max.name ∈ am_gw) (h2 : Cond.static Lib.Math.max.name ∈ am_gw ∧ Cond.initialized "java/lang/Math" ∈ am_gw ∧ Cond.code Lib.Math.max.name Lib.Math.max.code 2 (some .int) ∈ am_gw) (hr : (S.map fun v => v.category).sum ≤ 8) (k : AW X M (d + 1) rc rs npc L (.int (if x < y then y else x) :: S) n h Q) : AW X M (d + 1) rc rs pc L (.int y :: .int x :: S) n h Q := by
  subst hn
  intro n0 ro D cA p l e R s m args below meth c C hf hl ws H locs cells slots ls st QQ hW hL hS hc hs2 hQ
  obtain ⟨_, st, rfl, rfl, _, st, rfl, rfl, hS⟩ := hS
  refine va_mmax C.1 C.2.1 (C.2.2.2.1.trans hL.1.symm) C.2.2.2.2.1 (C.2.2.2.2.2.1 _ h1) (C.2.2.2.2.2.1 _ h2.1) (C.2.2.2.2.2.1 _ h2.2.1) (C.2.2.2.2.2.1 _ h2.2.2) (by omega) (by rw [hS.cat]; omega) (by omega) (by omega) hd ?_
  exact k n0 ro D cA p l e R s m args below meth c C hf hl ws H locs cells slots ls _ QQ hW hL hS.int hc hs2 hQ
theorem aw_mabs {idx : Nat} {x : Int32} (hd : decode M.2.1 pc = .ok (.invokestatic idx, 3)) (hn : pc + 3 = npc) (h1 : Cond.methodLink M.1.cls idx Lib.Math.abs.name ∈ am_gw) (h2 : Cond.static Lib.Math.abs.name ∈ am_gw ∧ Cond.initialized "java/lang/Math" ∈ am_gw ∧ Cond.code Lib.Math.abs.name Lib.Math.abs.code 1 (some .int) ∈ am_gw) (hr : (S.map fun v => v.category).sum ≤ 8) (k : AW X M (d + 1) rc rs npc L (.int (if 0 ≤ x then x else 0 - x) :: S) n h Q) : AW X M (d + 1) rc rs pc L (.int x :: S) n h Q := by
  subst hn
  intro n0 ro D cA p l e R s m args below meth c C hf hl ws H locs cells slots ls st QQ hW hL hS hc hs2 hQ
  obtain ⟨_, st, rfl, rfl, hS⟩ := hS
  refine va_mabs C.1 C.2.1 (C.2.2.2.1.trans hL.1.symm) C.2.2.2.2.1 (C.2.2.2.2.2.1 _ h1) (C.2.2.2.2.2.1 _ h2.1) (C.2.2.2.2.2.1 _ h2.2.1) (C.2.2.2.2.2.1 _ h2.2.2) (by omega) (by rw [hS.cat]; omega) (by omega) (by omega) hd ?_
  exact k n0 ro D cA p l e R s m args below meth c C hf hl ws H locs cells slots ls _ QQ hW hL hS.int hc hs2 hQ
end AMM
