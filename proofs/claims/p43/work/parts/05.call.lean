def am_pad (A : List Value) (nL : Nat) : am_L := A.map some ++ List.replicate (nL - A.length) none
def am_c1 (A : List Value) : Bool := A.all (fun v => v.category == 1)
theorem am_c1.cons {v : Value} {A : List Value} (h : am_c1 (v :: A) = true) : v.category = 1 ∧ am_c1 A = true := by
  simp only [am_c1, List.all_cons, Bool.and_eq_true, beq_iff_eq] at h
  exact h
theorem am_sl {ro : Nat → Nat} {as : List Nat} : ∀ {A vs : List Value}, am_LR ro as A vs → am_c1 A = true → (lg_sl vs).length = A.length
  | [], _, h, _ => by cases h; rfl
  | v :: A, _, h, hc => by
    obtain ⟨c, st', rfl, h2, h3⟩ := h
    have hc2 := am_c1.cons hc
    have e1 : ¬ c.category = 2 := by rw [h2.cat, hc2.1]; decide
    have e2 := am_sl h3 hc2.2
    simp only [lg_sl, List.flatMap_cons, if_neg e1, List.length_append, List.length_cons, List.length_nil] at e2 ⊢
    omega
theorem am_la {ro : Nat → Nat} {as : List Nat} : ∀ {A vs : List Value} (i : Nat), am_LR ro as A vs → am_c1 A = true → ∀ (j : Nat) (v : Value), A[j]? = some v → ∃ c, (i + j, c) ∈ lv_args i vs ∧ am_VR ro as v c
  | [], _, _, _, _, _, _, h => by simp at h
  | u :: A, _, i, h, hc, 0, v, hv => by
    obtain ⟨c, st', rfl, h2, h3⟩ := h
    simp only [List.getElem?_cons_zero, Option.some.injEq] at hv
    subst hv
    exact ⟨c, by simp [lv_args], h2⟩
  | u :: A, _, i, h, hc, j + 1, v, hv => by
    obtain ⟨c, st', rfl, h2, h3⟩ := h
    have hc2 := am_c1.cons hc
    have e1 : ¬ c.category = 2 := by rw [h2.cat, hc2.1]; decide
    rw [List.getElem?_cons_succ] at hv
    obtain ⟨c2, q1, q2⟩ := am_la (i + 1) h3 hc2.2 j v hv
    refine ⟨c2, ?_, q2⟩
    simp only [lv_args, if_neg e1]
    refine List.mem_cons_of_mem _ ?_
    rw [show i + (j + 1) = i + 1 + j by omega]
    exact q1
theorem am_pad_at {A : List Value} {nL i : Nat} {v : Value} (h : (am_pad A nL)[i]? = some (some v)) : A[i]? = some v := by
  unfold am_pad at h
  by_cases hi : i < A.length
  · rw [List.getElem?_append_left (by simpa using hi), List.getElem?_map] at h
    cases hA : A[i]? with
    | none => rw [hA] at h; cases h
    | some u => rw [hA] at h; cases h; rfl
  · rw [List.getElem?_append_right (by simpa using hi)] at h
    simp [List.getElem?_replicate] at h
def am_Pc (n0 : Nat) (X : List Int32) (ro : Nat → Nat) (D : va_G) (cA : Nat → ClassId) (n : Nat) (h : am_H) (ws : va_W) (vs : List Value) : Array Value → State → Prop := fun v U =>
  v = vs.toArray ∧ n0 ≤ U.heap.size ∧ am_HR ro cA n h ws ∧ va_P D vwCl ws U.heap ∧ va_D (fun q => n0 ≤ q) ws ∧ va_K D vwCl (am_tys cA) U ∧ am_St n0 X ro U U.heap
def am_Qc (n0 : Nat) (ro : Nat → Nat) (D : va_G) (cA : Nat → ClassId) (ws : va_W) (Q : am_Q) : Array Value → State → Outcome → State → Prop := fun _ st oc t =>
  (∃ (r : Option Value) (n' : Nat) (h' : am_H) (ws' : va_W) (cr : Option Value), oc = .returned cr ∧ Q r n' h' ∧ am_pf (am_as ws) (am_as ws') ∧ am_HR ro cA n' h' ws' ∧ va_P D vwCl ws' t.heap ∧ va_D (fun q => n0 ≤ q) ws' ∧ am_LR ro (am_as ws') r.toList cr.toList) ∧ va_F (fun q => n0 ≤ q) st t
theorem am_Pc.blind {n0 : Nat} {X : List Int32} {ro : Nat → Nat} {D : va_G} {cA : Nat → ClassId} {n : Nat} {h : am_H} {ws : va_W} {vs : List Value} : FrameBlind (am_Pc n0 X ro D cA n h ws vs) := by
  intro a U g mk hp
  obtain ⟨h1, h2, h3, h4, h5, h6, h7⟩ := hp
  exact ⟨h1, h2, h3, h4, h5, va_K.moved (u := U) (U := U.calling g mk a) (Vm.Alike.refl U.vm) h6, am_St.same (u := U) (U := U.calling g mk a) rfl h7⟩
abbrev am_ws (N : am_MD) : List Cond := Cond.code N.1 N.2.1 N.2.2.1 N.2.2.2 :: am_gw
abbrev am_rm (d mc ms : Nat) : Room := { frames := d, cells := mc, slots := ms, locals := 50 * d }
theorem am_met {l : Launch} {X : List Int32} {N : am_MD} {d mc ms n : Nat} {h : am_H} {Q : am_Q} {A : List Value} (hp : plainName N.1.cls = true) (hA : A.length ≤ N.2.2.1) (hc1 : am_c1 A = true) (k : AW X N d mc ms 0 (am_pad A N.2.2.1) [] n h Q) {n0 : Nat} {ro : Nat → Nat} {D : va_G} {cA : Nat → ClassId} {ws : va_W} {vs : List Value} (hvs : am_LR ro (am_as ws) A vs) :
    Met l N.1 (am_ws N) (am_rm d mc ms) (am_Pc n0 X ro D cA n h ws vs) (am_Qc n0 ro D cA ws Q) mc ms (fun q => n0 ≤ q) := by
  refine Met.ofW (cc := N.2.1) (maxL := N.2.2.1) (ret := N.2.2.2) hp rfl ?_
  intro p e s m args below meth c s₁ B hml hv
  obtain ⟨rfl, hn0, hR, hP, hD, hK, hSt⟩ := hv
  have hts := atoms_spec (ws := am_ws N) B.pre
  have C : am_Cx n0 X ro D cA N p s m vs.toArray meth c := ⟨B.exec, B.bytes, B.returns, hml, findClass_of_methodNamed B.named, fun w hw => hts w (List.mem_cons_of_mem _ hw), B.notSynchronized, fun h9 => (name_of_methodNamed B.named B.method).1.trans h9, hK, hSt, hn0⟩
  have hlen : (lg_sl vs).length ≤ N.2.2.1 := by rw [am_sl hvs hc1]; exact hA
  have hl := lv_entry vs (n := N.2.2.1) hlen
  rw [lg_entry_eq]
  generalize (lg_sl vs ++ List.replicate (N.2.2.1 - (lg_sl vs).length) Slot.unset).toArray = ls at hl ⊢
  refine k n0 ro D cA p l e _ s m vs.toArray below meth c C (Nat.le_refl _) (Nat.le_refl _) ws s.heap [] 0 0 ls [] _ ⟨hR, hP, hD, va_S.rf⟩ ⟨hl.1, hl.2.1, fun i v hv => ?_⟩ rfl (Nat.zero_add _) (Nat.zero_add _) ?_
  · obtain ⟨c9, q1, q2⟩ := am_la 0 hvs hc1 i v (am_pad_at hv)
    rw [Nat.zero_add] at q1
    exact ⟨c9, hl.2.2 _ q1, q2⟩
  · intro r n' h' ws' H' locs' cells' slots' pc' ls' st' hq hpf hW hc hs hRt hRo
    have hlocks := B.notSynchronized
    refine W.widen (k := mc) (n := ms) hc hs ?_
    have hfin : ∀ (cr : Option Value), am_LR ro (am_as ws') r.toList cr.toList → ∀ t : State, t.heap = H' → s.WarmedH t.vm → am_Qc n0 ro D cA ws Q vs.toArray s (.returned cr) t := fun cr hcr t ht hWm =>
      ⟨⟨r, n', h', ws', cr, rfl, hq, hpf, hW.1, by rw [ht]; exact hW.2.1, hW.2.2.1, hcr⟩, hW.2.2.2.F ht⟩
    cases r with
    | none =>
      cases hRo
      exact W.vret B.exec B.bytes (B.returns.trans hRt.2) (hfin none rfl) hW.2.2.2.2.2 hRt.1
    | some v =>
      obtain ⟨cv, _, rfl, hcv, hnil⟩ := hRo
      cases hnil
      have hf9 := hfin (some cv) (am_LR.cons hcv rfl)
      cases v with
      | int x =>
        cases hcv
        obtain ⟨g1, ty, g2, g3⟩ := hRt
        exact W.zret B.exec B.bytes (B.returns.trans g2) g3 hf9 hW.2.2.2.2.2 g1
      | long x =>
        cases hcv
        exact W.lret B.exec B.bytes (B.returns.trans hRt.2) hf9 hW.2.2.2.2.2 hRt.1
      | null =>
        cases hcv
        obtain ⟨g1, ty, g2, g3⟩ := hRt
        exact W.aret B.exec B.bytes (B.returns.trans g2) g3 (Or.inl rfl) hf9 hW.2.2.2.2.2 g1
      | ref x =>
        obtain ⟨g1, ty, g2, g3⟩ := hRt
        obtain ⟨a9, g4, rfl⟩ := hcv
        exact W.aret B.exec B.bytes (B.returns.trans g2) g3 (Or.inr ⟨_, rfl⟩) hf9 hW.2.2.2.2.2 g1
      | _ => exact hcv.elim
def am_mf (N : am_MD) (np : Nat) : Prop := plainName N.1.cls = true ∧ N.2.2.1 ≤ 31 ∧ Cond.initialized N.1.cls ∈ am_gw ∧ Cond.code N.1 N.2.1 N.2.2.1 N.2.2.2 ∈ am_gw ∧ N.1.cls ≠ "java/lang/invoke/MethodHandle" ∧ N.1.cls ≠ "java/lang/invoke/VarHandle" ∧ (parseMethodDescriptor N.1.desc).map (fun d => d.parameters.length) = some np
section AMC
variable {X : List Int32} {M N : am_MD} {d rc rs pc npc : Nat} {L L0 : am_L} {S S0 : List Value} {n : Nat} {h h' : am_H} {Q : am_Q}
theorem am_ret {p : Program} {l : Launch} {e : Env} {R : Room} {s : State} {m : MethodId} {args : Array Value} {below : List Frame} {meth : Method} {c : Code} {H : Heap} {locs : List Loc} {cells slots mc ms : Nat} {QQ : State → Prop} {n0 : Nat} {ro : Nat → Nat} {D : va_G} {cA : Nat → ClassId} {ws : va_W} {a : Array Value} {ls : Array Slot} {st0 rest : List Value} {Q9 : am_Q}
    (hr : va_Run p l e R s m args below meth c H locs cells slots mc ms (F0 m pc ls st0) rest (am_Qc n0 ro D cA ws Q9 a) (fun q => n0 ≤ q)) (hS : va_S (fun q => n0 ≤ q) s.heap H locs)
    (kk : ∀ (r : Option Value) (n' : Nat) (h' : am_H) (ws' : va_W) (cr : Option Value) (H1 : Heap) (locs1 : List Loc), Q9 r n' h' → am_pf (am_as ws) (am_as ws') → am_Wd n0 ro D cA s.heap n' h' ws' H1 locs1 → am_LR ro (am_as ws') r.toList cr.toList → W p l e R s m args below meth c H1 locs1 (cells + mc) (slots + ms) QQ (F0 m (pc + 3) ls (cr.toList ++ rest))) : W p l e R s m args below meth c H locs cells slots QQ (F0 m pc ls st0) := by
  intro T hT Y
  obtain ⟨v, st₀, t, T', Lx, h0, Y', hLx, e1, e2, ⟨⟨r, n', h', ws', cr, hv, q1, q2, q3, q4, q5, q6⟩, hz, hk⟩, stp⟩ := hr T hT Y
  cases hv
  rw [h0] at hz hk
  have e1' : t.heap = T'.heap := e1.symm
  rw [e1'] at hz hk q4
  obtain ⟨t2, a1, b1⟩ := kk r n' h' ws' v T'.heap (locs ++ Lx) q1 q2 ⟨q3, q4, q5, ⟨Nat.le_trans hS.1 hz, fun q h1 h2 => by rw [hk q (Nat.lt_of_lt_of_le h1 hS.1) h2]; exact hS.2.1 q h1 h2, fun q hq => by
      rcases List.mem_append.mp hq with h | h
      · exact hS.2.2 q h
      · exact hLx q h⟩⟩ q6 T' rfl Y'
  exact ⟨t2, stp t2 a1, b1⟩
theorem am_pre {s U : State} {n0 : Nat} {ro : Nat → Nat} {D : va_G} {cA : Nat → ClassId} {ws : va_W} {H : Heap} {locs : List Loc} {vs : List Value} (hn0 : n0 ≤ s.heap.size) (hK : va_K D vwCl (am_tys cA) s) (hSt : am_St n0 X ro s s.heap) (hW : am_Wd n0 ro D cA s.heap n h ws H locs) (hU : U.heap = H) (hWm : s.WarmedH U.vm) : am_Pc n0 X ro D cA n h ws vs vs.toArray U := by
  refine ⟨rfl, ?_, hW.1, by rw [hU]; exact hW.2.1, hW.2.2.1, va_K.moved hWm.alike hK, ?_⟩
  · rw [hU]; exact Nat.le_trans hn0 hW.2.2.2.1
  · rw [hU]; exact am_St.move hWm hW.2.2.2.2.1 hSt

theorem aw_callV {idx np mc ms rc' rs' b ci : Nat} {A fs : List Value} (hd : decode M.2.1 pc = .ok (.invokevirtual idx, 3)) (hn : pc + 3 = npc) (hM : am_mf N np) (hl9 : Cond.methodLink M.1.cls idx N.1 ∈ am_gw ∧ Cond.instanceMethod N.1 ∈ am_gw ∧ Cond.selects N.1.cls N.1 N.1 ∈ am_gw) (hb : h b = some (.inr (ci, fs))) (hci : ci < 9 ∧ (vwCl[ci]?).map (fun q => q.1) = some N.1.cls) (hS0 : S0 = A.reverse ++ .ref b :: S) (hnp : A.length = np ∧ np < N.2.2.1) (hc1 : am_c1 A = true) (hr : (S.map fun v => v.category).sum ≤ 8) (hrc : mc + rc' = rc) (hrs : ms + rs' = rs) (hL0 : am_pad (.ref b :: A) N.2.2.1 = L0) (k : AW X N d mc ms 0 L0 [] n h (fun r n' h' => AW X M (d + 1) rc' rs' npc L (r.toList ++ S) n' h' Q)) : AW X M (d + 1) rc rs pc L S0 n h Q := by
  subst hn; subst hS0; subst hL0; subst hrc; subst hrs
  intro n0 ro D cA p l e R s m args below meth c C hf hl ws H locs cells slots ls st QQ hW hL hS hc hs2 hQ
  obtain ⟨a0, st, rfl, hA0, hT9⟩ := hS.app
  clear hS
  obtain ⟨_, st, rfl, ⟨b1, g1, rfl⟩, hS⟩ := hT9
  obtain ⟨b2, gs, r1, r2, r3⟩ := am_obj hW.1 hci.1 hb
  cases g1.symm.trans r3
  have hA1 := hA0.rev
  rw [List.reverse_reverse] at hA1
  obtain ⟨r, hr1, hr2⟩ : ∃ r : vw_C, vwCl[ci]? = some r ∧ r.1 = N.1.cls := by
    cases hq : vwCl[ci]? with
    | none => rw [hq] at hci; cases hci.2
    | some r => rw [hq] at hci; exact ⟨r, rfl, Option.some.inj hci.2⟩
  have hmet := am_met (l := l) (A := .ref b :: A) hM.1 (by simp only [List.length_cons]; omega) (by simp only [am_c1, List.all_cons, Value.category] at hc1 ⊢; exact hc1) k (n0 := n0) (D := D) (cA := cA) (am_LR.cons (v := .ref b) ⟨b1, g1, rfl⟩ hA1)
  refine am_ret (va_runV (bytes := N.2.1) (maxL := N.2.2.1) (ret := N.2.2.2) (C := N.1.cls) (As := a0.reverse) (rest := st) (Ts := am_gw) (own := M.1.cls) ⟨C.1, C.2.1, C.2.2.2.1, C.2.2.2.2.1, C.2.2.2.2.2.1⟩ hmet (cwV np C.2.2.2.2.2.1 (am_good (fun w hw => ?_)) rfl rfl rfl ⟨rfl, hM.2.2.2.2.1, hM.2.2.2.2.2.1, hM.2.2.2.2.2.2⟩ ⟨hf, by have z : N.2.2.1 ≤ 31 := hM.2.1; show 8 + (N.2.2.1 + 11) + 50 * d ≤ R.locals; omega⟩) ⟨am_Pc.blind, ?_, fun U hU hWm => am_pre C.2.2.2.2.2.2.2.2.2.2 C.2.2.2.2.2.2.2.2.1 C.2.2.2.2.2.2.2.2.2.1 hW hU hWm⟩ rfl ?_ hL.1 (by rw [List.reverse_reverse]) (lv_room (by rw [hS.cat]; exact hr)) hd ⟨by omega, by omega⟩) hW.2.2.2 (fun r n' h' ws' cr H1 locs1 q1 q2 q3 q4 => ?_)
  · simp only [wsV, List.mem_append, List.mem_cons, List.not_mem_nil, or_false] at hw
    rcases hw with (rfl | rfl | rfl | rfl) | rfl | hw
    · exact hl9.1
    · exact hl9.2.1
    · exact hl9.2.2
    · exact hM.2.2.1
    · exact hM.2.2.2.1
    · exact hw
  · obtain ⟨cell, z1, z2, z3⟩ := va_recv C.2.2.2.2.2.2.2.2.1 hW.2.1 (ci := ci) (q0 := b) hr1 r1
    exact ⟨cell, z1, z2, by rw [← hr2]; exact z3⟩
  · rw [List.length_reverse, hA0.len, List.length_reverse]; exact hnp.1
  · exact q1 n0 ro D cA p l e R s m args below meth c C hf hl ws' H1 locs1 (cells + mc) (slots + ms) ls (cr.toList ++ st) QQ q3 (hL.mono q2) (am_LR.join q4 (hS.mono q2)) (by omega) (by omega) (fun r9 n9 h9 ws9 H9 locs9 cells9 slots9 pc9 ls9 st9 x1 x2 => hQ r9 n9 h9 ws9 H9 locs9 cells9 slots9 pc9 ls9 st9 x1 (q2.tr x2))
theorem aw_callS {idx np mc ms rc' rs' : Nat} {A : List Value} (hd : decode M.2.1 pc = .ok (.invokestatic idx, 3)) (hn : pc + 3 = npc) (hM : am_mf N np) (hl9 : (Cond.methodLink M.1.cls idx N.1 ∈ am_gw) ∧ Cond.static N.1 ∈ am_gw) (hS0 : S0 = A.reverse ++ S) (hnp : A.length = np ∧ np ≤ N.2.2.1) (hc1 : am_c1 A = true) (hr : (S.map fun v => v.category).sum ≤ 8) (hrc : mc + rc' = rc) (hrs : ms + rs' = rs) (hL0 : am_pad A N.2.2.1 = L0) (k : AW X N d mc ms 0 L0 [] n h (fun r n' h' => AW X M (d + 1) rc' rs' npc L (r.toList ++ S) n' h' Q)) : AW X M (d + 1) rc rs pc L S0 n h Q := by
  subst hn; subst hS0; subst hL0; subst hrc; subst hrs
  intro n0 ro D cA p l e R s m args below meth c C hf hl ws H locs cells slots ls st QQ hW hL hS hc hs2 hQ
  obtain ⟨a0, st, rfl, hA0, hT9⟩ := hS.app
  clear hS
  have hS := hT9
  have hA1 := hA0.rev
  rw [List.reverse_reverse] at hA1
  have hmet := am_met (l := l) (A := A) hM.1 (by omega) hc1 k (n0 := n0) (D := D) (cA := cA) hA1
  refine am_ret (va_runS (bytes := N.2.1) (maxL := N.2.2.1) (ret := N.2.2.2) (As := a0.reverse) (rest := st) (Ts := am_gw) (own := M.1.cls) ⟨C.1, C.2.1, C.2.2.2.1, C.2.2.2.2.1, C.2.2.2.2.2.1⟩ hmet ⟨(callB_of np C.2.2.2.2.2.1 (am_good (fun w hw => (List.mem_cons.mp hw).elim (fun e => e ▸ hM.2.2.2.1) id)) rfl rfl rfl (C.2.2.2.2.2.1 _ hM.2.2.1) (C.2.2.2.2.2.1 _ hl9.1) ⟨hM.2.2.2.2.1, hM.2.2.2.2.2.1, hM.2.2.2.2.2.2⟩ ⟨hf, by have z : N.2.2.1 ≤ 31 := hM.2.1; show 8 + (N.2.2.1 + 11) + 50 * d ≤ R.locals; omega⟩), C.2.2.2.2.2.1 _ hl9.2⟩ ⟨am_Pc.blind, fun U hU hWm => am_pre C.2.2.2.2.2.2.2.2.2.2 C.2.2.2.2.2.2.2.2.1 C.2.2.2.2.2.2.2.2.2.1 hW hU hWm⟩ rfl ?_ hL.1 (by rw [List.reverse_reverse]) (lv_room (by rw [hS.cat]; exact hr)) hd ⟨by omega, by omega⟩) hW.2.2.2 (fun r n' h' ws' cr H1 locs1 q1 q2 q3 q4 => ?_)
  · rw [List.length_reverse, hA0.len, List.length_reverse]; exact hnp.1
  · exact q1 n0 ro D cA p l e R s m args below meth c C hf hl ws' H1 locs1 (cells + mc) (slots + ms) ls (cr.toList ++ st) QQ q3 (hL.mono q2) (am_LR.join q4 (hS.mono q2)) (by omega) (by omega) (fun r9 n9 h9 ws9 H9 locs9 cells9 slots9 pc9 ls9 st9 x1 x2 => hQ r9 n9 h9 ws9 H9 locs9 cells9 slots9 pc9 ls9 st9 x1 (q2.tr x2))
theorem aw_callSN {idx np mc ms rc' rs' : Nat} {A : List Value} (hd : decode M.2.1 pc = .ok (.invokestatic idx, 3)) (hn : pc + 3 = npc) (hM : am_mf N np) (hl9 : (∃ host, Cond.methodLinkNest M.1.cls idx N.1 host ∈ am_nw) ∧ Cond.static N.1 ∈ am_gw) (hS0 : S0 = A.reverse ++ S) (hnp : A.length = np ∧ np ≤ N.2.2.1) (hc1 : am_c1 A = true) (hr : (S.map fun v => v.category).sum ≤ 8) (hrc : mc + rc' = rc) (hrs : ms + rs' = rs) (hL0 : am_pad A N.2.2.1 = L0) (k : AW X N d mc ms 0 L0 [] n h (fun r n' h' => AW X M (d + 1) rc' rs' npc L (r.toList ++ S) n' h' Q)) : AW X M (d + 1) rc rs pc L S0 n h Q := by
  subst hn; subst hS0; subst hL0; subst hrc; subst hrs
  intro n0 ro D cA p l e R s m args below meth c C hf hl ws H locs cells slots ls st QQ hW hL hS hc hs2 hQ
  obtain ⟨a0, st, rfl, hA0, hT9⟩ := hS.app
  clear hS
  have hS := hT9
  have hA1 := hA0.rev
  rw [List.reverse_reverse] at hA1
  obtain ⟨⟨host, hln⟩, hl9⟩ := (show _ ∧ _ from hl9)
  have hl9 := And.intro trivial hl9
  have hmet := am_met (l := l) (A := A) hM.1 (by omega) hc1 k (n0 := n0) (D := D) (cA := cA) hA1
  refine am_ret (va_runSN (bytes := N.2.1) (maxL := N.2.2.1) (ret := N.2.2.2) (As := a0.reverse) (rest := st) (Ts := am_gw) (own := M.1.cls) ⟨C.1, C.2.1, C.2.2.2.1, C.2.2.2.2.1, C.2.2.2.2.2.1⟩ hmet ⟨(va_cnB np C.2.2.2.2.2.1 (am_good (fun w hw => (List.mem_cons.mp hw).elim (fun e => e ▸ hM.2.2.2.1) id)) rfl rfl rfl (C.2.2.2.2.2.2.2.2.2.1.2.2.2.2.2.2.2.1 _ hln) (C.2.2.2.2.2.1 _ hM.2.2.1) ⟨hM.2.2.2.2.1, hM.2.2.2.2.2.1, hM.2.2.2.2.2.2⟩ ⟨hf, by have z : N.2.2.1 ≤ 31 := hM.2.1; show 8 + (N.2.2.1 + 11) + 50 * d ≤ R.locals; omega⟩), C.2.2.2.2.2.1 _ hl9.2, trivial⟩ ⟨am_Pc.blind, fun U hU hWm => am_pre C.2.2.2.2.2.2.2.2.2.2 C.2.2.2.2.2.2.2.2.1 C.2.2.2.2.2.2.2.2.2.1 hW hU hWm⟩ rfl ?_ hL.1 (by rw [List.reverse_reverse]) (lv_room (by rw [hS.cat]; exact hr)) hd ⟨by omega, by omega⟩) hW.2.2.2 (fun r n' h' ws' cr H1 locs1 q1 q2 q3 q4 => ?_)
  · rw [List.length_reverse, hA0.len, List.length_reverse]; exact hnp.1
  · exact q1 n0 ro D cA p l e R s m args below meth c C hf hl ws' H1 locs1 (cells + mc) (slots + ms) ls (cr.toList ++ st) QQ q3 (hL.mono q2) (am_LR.join q4 (hS.mono q2)) (by omega) (by omega) (fun r9 n9 h9 ws9 H9 locs9 cells9 slots9 pc9 ls9 st9 x1 x2 => hQ r9 n9 h9 ws9 H9 locs9 cells9 slots9 pc9 ls9 st9 x1 (q2.tr x2))
theorem aw_callI {idx np mc ms rc' rs' : Nat} {b : Nat} {A : List Value} {y9 : MethodName} {by9 : ByteArray} {mL9 : Nat} (hd : decode M.2.1 pc = .ok (.invokespecial idx, 3)) (hn : pc + 3 = npc) (hM : am_mf (y9, by9, mL9, none) np) (hl9 : (Cond.methodLink M.1.cls idx y9 ∈ am_gw) ∧ Cond.instanceMethod y9 ∈ am_gw ∧ y9.name = "<init>" ∧ True) (hS0 : S0 = A.reverse ++ .ref b :: S) (hnp : A.length = np ∧ np < mL9) (hc1 : am_c1 A = true) (hr : (S.map fun v => v.category).sum ≤ 8) (hrc : mc + rc' = rc) (hrs : ms + rs' = rs) (hL0 : am_pad (.ref b :: A) mL9 = L0) (k : AW X (y9, by9, mL9, none) d mc ms 0 L0 [] n h (fun r n' h' => AW X M (d + 1) rc' rs' npc L (r.toList ++ S) n' h' Q)) : AW X M (d + 1) rc rs pc L S0 n h Q := by
  subst hn; subst hS0; subst hL0; subst hrc; subst hrs
  intro n0 ro D cA p l e R s m args below meth c C hf hl ws H locs cells slots ls st QQ hW hL hS hc hs2 hQ
  obtain ⟨a0, st, rfl, hA0, hT9⟩ := hS.app
  clear hS
  obtain ⟨_, st, rfl, ⟨b1, g1, rfl⟩, hS⟩ := hT9
  have hA1 := hA0.rev
  rw [List.reverse_reverse] at hA1
  have hmet := am_met (l := l) (N := (y9, by9, mL9, none)) (A := (.ref b :: A)) hM.1 (by simp only [List.length_cons]; omega) (by simp only [am_c1, List.all_cons, Value.category] at hc1 ⊢; exact hc1) k (n0 := n0) (D := D) (cA := cA) (am_LR.cons (v := .ref b) ⟨b1, g1, rfl⟩ hA1)
  refine am_ret (va_runI (bytes := by9) (maxL := mL9) (As := a0.reverse) (rest := st) (Ts := am_gw) (own := M.1.cls) ⟨C.1, C.2.1, C.2.2.2.1, C.2.2.2.2.1, C.2.2.2.2.2.1⟩ hmet ⟨(callB_of np C.2.2.2.2.2.1 (am_good (fun w hw => (List.mem_cons.mp hw).elim (fun e => e ▸ hM.2.2.2.1) id)) rfl rfl rfl (C.2.2.2.2.2.1 _ hM.2.2.1) (C.2.2.2.2.2.1 _ hl9.1) ⟨hM.2.2.2.2.1, hM.2.2.2.2.2.1, hM.2.2.2.2.2.2⟩ ⟨hf, by have z : mL9 ≤ 31 := hM.2.1; show 8 + (mL9 + 11) + 50 * d ≤ R.locals; omega⟩), hl9.2.2.1, C.2.2.2.2.2.1 _ hl9.2.1⟩ ⟨am_Pc.blind, fun U hU hWm => am_pre C.2.2.2.2.2.2.2.2.2.2 C.2.2.2.2.2.2.2.2.1 C.2.2.2.2.2.2.2.2.2.1 hW hU hWm⟩ rfl ?_ hL.1 (by rw [List.reverse_reverse]) (lv_room (by rw [hS.cat]; exact hr)) hd ⟨by omega, by omega⟩) hW.2.2.2 (fun r n' h' ws' cr H1 locs1 q1 q2 q3 q4 => ?_)
  · rw [List.length_reverse, hA0.len, List.length_reverse]; exact hnp.1
  · exact q1 n0 ro D cA p l e R s m args below meth c C hf hl ws' H1 locs1 (cells + mc) (slots + ms) ls (cr.toList ++ st) QQ q3 (hL.mono q2) (am_LR.join q4 (hS.mono q2)) (by omega) (by omega) (fun r9 n9 h9 ws9 H9 locs9 cells9 slots9 pc9 ls9 st9 x1 x2 => hQ r9 n9 h9 ws9 H9 locs9 cells9 slots9 pc9 ls9 st9 x1 (q2.tr x2))
theorem aw_callIN {idx np mc ms rc' rs' : Nat} {b : Nat} {A : List Value} {y9 : MethodName} {by9 : ByteArray} {mL9 : Nat} (hd : decode M.2.1 pc = .ok (.invokespecial idx, 3)) (hn : pc + 3 = npc) (hM : am_mf (y9, by9, mL9, none) np) (hl9 : (∃ host, Cond.methodLinkNest M.1.cls idx y9 host ∈ am_nw) ∧ Cond.instanceMethod y9 ∈ am_gw ∧ y9.name = "<init>" ∧ True) (hS0 : S0 = A.reverse ++ .ref b :: S) (hnp : A.length = np ∧ np < mL9) (hc1 : am_c1 A = true) (hr : (S.map fun v => v.category).sum ≤ 8) (hrc : mc + rc' = rc) (hrs : ms + rs' = rs) (hL0 : am_pad (.ref b :: A) mL9 = L0) (k : AW X (y9, by9, mL9, none) d mc ms 0 L0 [] n h (fun r n' h' => AW X M (d + 1) rc' rs' npc L (r.toList ++ S) n' h' Q)) : AW X M (d + 1) rc rs pc L S0 n h Q := by
  subst hn; subst hS0; subst hL0; subst hrc; subst hrs
  intro n0 ro D cA p l e R s m args below meth c C hf hl ws H locs cells slots ls st QQ hW hL hS hc hs2 hQ
  obtain ⟨a0, st, rfl, hA0, hT9⟩ := hS.app
  clear hS
  obtain ⟨_, st, rfl, ⟨b1, g1, rfl⟩, hS⟩ := hT9
  have hA1 := hA0.rev
  rw [List.reverse_reverse] at hA1
  obtain ⟨⟨host, hln⟩, hl9⟩ := (show _ ∧ _ from hl9)
  have hl9 := And.intro trivial hl9
  have hmet := am_met (l := l) (N := (y9, by9, mL9, none)) (A := (.ref b :: A)) hM.1 (by simp only [List.length_cons]; omega) (by simp only [am_c1, List.all_cons, Value.category] at hc1 ⊢; exact hc1) k (n0 := n0) (D := D) (cA := cA) (am_LR.cons (v := .ref b) ⟨b1, g1, rfl⟩ hA1)
  refine am_ret (va_runIN (bytes := by9) (maxL := mL9) (As := a0.reverse) (rest := st) (Ts := am_gw) (own := M.1.cls) ⟨C.1, C.2.1, C.2.2.2.1, C.2.2.2.2.1, C.2.2.2.2.2.1⟩ hmet ⟨(va_cnB np C.2.2.2.2.2.1 (am_good (fun w hw => (List.mem_cons.mp hw).elim (fun e => e ▸ hM.2.2.2.1) id)) rfl rfl rfl (C.2.2.2.2.2.2.2.2.2.1.2.2.2.2.2.2.2.1 _ hln) (C.2.2.2.2.2.1 _ hM.2.2.1) ⟨hM.2.2.2.2.1, hM.2.2.2.2.2.1, hM.2.2.2.2.2.2⟩ ⟨hf, by have z : mL9 ≤ 31 := hM.2.1; show 8 + (mL9 + 11) + 50 * d ≤ R.locals; omega⟩), hl9.2.2.1, C.2.2.2.2.2.1 _ hl9.2.1⟩ ⟨am_Pc.blind, fun U hU hWm => am_pre C.2.2.2.2.2.2.2.2.2.2 C.2.2.2.2.2.2.2.2.1 C.2.2.2.2.2.2.2.2.2.1 hW hU hWm⟩ rfl ?_ hL.1 (by rw [List.reverse_reverse]) (lv_room (by rw [hS.cat]; exact hr)) hd ⟨by omega, by omega⟩) hW.2.2.2 (fun r n' h' ws' cr H1 locs1 q1 q2 q3 q4 => ?_)
  · rw [List.length_reverse, hA0.len, List.length_reverse]; exact hnp.1
  · exact q1 n0 ro D cA p l e R s m args below meth c C hf hl ws' H1 locs1 (cells + mc) (slots + ms) ls (cr.toList ++ st) QQ q3 (hL.mono q2) (am_LR.join q4 (hS.mono q2)) (by omega) (by omega) (fun r9 n9 h9 ws9 H9 locs9 cells9 slots9 pc9 ls9 st9 x1 x2 => hQ r9 n9 h9 ws9 H9 locs9 cells9 slots9 pc9 ls9 st9 x1 (q2.tr x2))
theorem am_old {ro : Nat → Nat} {as : List Nat} {k a : Nat} (h : am_ad ro as (1000000 + k) = some a) : a = ro k := by
  unfold am_ad at h
  rw [if_neg (by omega)] at h
  cases h
  rw [Nat.add_sub_cancel_left]
theorem aw_script_ld {i x : Int32} {j : Nat} (hd : decode M.2.1 pc = .ok (.iaload, 1)) (hn : pc + 1 = npc) (hi : am_ix i j) (hx : X[j]? = some x) (k : AW X M d rc rs npc L (.int x :: S) n h Q) : AW X M d rc rs pc L (.int i :: .ref 1000000 :: S) n h Q := by
  subst hn
  intro n0 ro D cA p l e R s m args below meth c C hf hl ws H locs cells slots ls st QQ hW hL hS hc hs2 hQ
  obtain ⟨_, st, rfl, rfl, _, st, rfl, ⟨a1, h1, rfl⟩, hS⟩ := hS
  cases am_old (k := 0) h1
  refine va_ti C.1 C.2.1 C.2.2.2.2.2.2.2.2.2.1.1 hW.2.2.2 (hi.in (List.getElem?_eq_some_iff.mp hx).1) (v := .int x) (by rw [hi.2, List.getD_eq_getElem?_getD, hx]; rfl) hd ?_
  exact k n0 ro D cA p l e R s m args below meth c C hf hl ws H locs cells slots ls _ QQ hW hL hS.int hc hs2 hQ
theorem aw_script_len {v : Int32} (hd : decode M.2.1 pc = .ok (.arraylength, 1)) (hn : pc + 1 = npc) (hv : Int32.ofNat (X.length) = v) (k : AW X M d rc rs npc L (.int v :: S) n h Q) : AW X M d rc rs pc L (.ref 1000000 :: S) n h Q := by
  subst hn
  intro n0 ro D cA p l e R s m args below meth c C hf hl ws H locs cells slots ls st QQ hW hL hS hc hs2 hQ
  obtain ⟨_, st, rfl, ⟨a1, h1, rfl⟩, hS⟩ := hS
  cases am_old (k := 0) h1
  refine va_tlen C.1 C.2.1 C.2.2.2.2.2.2.2.2.2.1.1 hW.2.2.2 hv hd ?_
  exact k n0 ro D cA p l e R s m args below meth c C hf hl ws H locs cells slots ls _ QQ hW hL hS.int hc hs2 hQ
theorem aw_above_ld {i x : Int32} {j : Nat} (hd : decode M.2.1 pc = .ok (.iaload, 1)) (hn : pc + 1 = npc) (hi : am_ix i j) (hx : am_above[j]? = some x) (k : AW X M d rc rs npc L (.int x :: S) n h Q) : AW X M d rc rs pc L (.int i :: .ref 1000001 :: S) n h Q := by
  subst hn
  intro n0 ro D cA p l e R s m args below meth c C hf hl ws H locs cells slots ls st QQ hW hL hS hc hs2 hQ
  obtain ⟨_, st, rfl, rfl, _, st, rfl, ⟨a1, h1, rfl⟩, hS⟩ := hS
  cases am_old (k := 1) h1
  refine va_ti C.1 C.2.1 C.2.2.2.2.2.2.2.2.2.1.2.2.1 hW.2.2.2 (hi.in (List.getElem?_eq_some_iff.mp hx).1) (v := .int x) (by rw [hi.2, List.getD_eq_getElem?_getD, hx]; rfl) hd ?_
  exact k n0 ro D cA p l e R s m args below meth c C hf hl ws H locs cells slots ls _ QQ hW hL hS.int hc hs2 hQ
theorem aw_above_len {v : Int32} (hd : decode M.2.1 pc = .ok (.arraylength, 1)) (hn : pc + 1 = npc) (hv : Int32.ofNat (6) = v) (k : AW X M d rc rs npc L (.int v :: S) n h Q) : AW X M d rc rs pc L (.ref 1000001 :: S) n h Q := by
  subst hn
  intro n0 ro D cA p l e R s m args below meth c C hf hl ws H locs cells slots ls st QQ hW hL hS hc hs2 hQ
  obtain ⟨_, st, rfl, ⟨a1, h1, rfl⟩, hS⟩ := hS
  cases am_old (k := 1) h1
  refine va_tlen C.1 C.2.1 C.2.2.2.2.2.2.2.2.2.1.2.2.1 hW.2.2.2 hv hd ?_
  exact k n0 ro D cA p l e R s m args below meth c C hf hl ws H locs cells slots ls _ QQ hW hL hS.int hc hs2 hQ
theorem am_adk {ro : Nat → Nat} {as : List Nat} {k : Nat} : am_ad ro as (1000000 + k) = some (ro k) := by
  unfold am_ad
  rw [if_neg (by omega), Nat.add_sub_cancel_left]
theorem aw_above {idx : Nat} (hd : decode M.2.1 pc = .ok (.getstatic idx, 3)) (hn : pc + 3 = npc) (hl9 : Cond.fieldLink M.1.cls idx RX7 "ABOVE" "[I" ∈ am_gw) (k : AW X M d rc rs npc L (.ref 1000001 :: S) n h Q) : AW X M d rc rs pc L S n h Q := by
  subst hn
  intro n0 ro D cA p l e R s m args below meth c C hf hl ws H locs cells slots ls st QQ hW hL hS hc hs2 hQ
  refine va_gets C.1 C.2.1 C.2.2.2.2.2.2.2.2.2.1.2.1 hW.2.2.2 C.2.2.2.2.1 (C.2.2.2.2.2.1 _ hl9) (fun _ h9 => h9) hd ?_
  exact k n0 ro D cA p l e R s m args below meth c C hf hl ws H locs cells slots ls _ QQ hW hL (am_LR.cons (v := .ref 1000001) ⟨ro 1, rfl, rfl⟩ hS) hc hs2 hQ
theorem aw_compact {idx : Nat} (hd : decode M.2.1 pc = .ok (.getstatic idx, 3)) (hn : pc + 3 = npc) (hl9 : Cond.fieldLink M.1.cls idx "java/lang/String" "COMPACT_STRINGS" "Z" ∈ am_gw) (k : AW X M d rc rs npc L (.int 1 :: S) n h Q) : AW X M d rc rs pc L S n h Q := by
  subst hn
  intro n0 ro D cA p l e R s m args below meth c C hf hl ws H locs cells slots ls st QQ hW hL hS hc hs2 hQ
  refine va_gets C.1 C.2.1 C.2.2.2.2.2.2.2.2.2.1.2.2.2.1 hW.2.2.2 C.2.2.2.2.1 (C.2.2.2.2.2.1 _ hl9) (fun _ h9 => h9) hd ?_
  exact k n0 ro D cA p l e R s m args below meth c C hf hl ws H locs cells slots ls _ QQ hW hL hS.int hc hs2 hQ
theorem aw_sioobe {idx : Nat} (hd : decode M.2.1 pc = .ok (.getstatic idx, 3)) (hn : pc + 3 = npc) (hl9 : Cond.fieldLink M.1.cls idx "jdk/internal/util/Preconditions" "SIOOBE_FORMATTER" "Ljava/util/function/BiFunction;" ∈ am_gw) (k1 : AW X M d rc rs npc L (.null :: S) n h Q) (k : AW X M d rc rs npc L (.ref 1000020 :: S) n h Q) : AW X M d rc rs pc L S n h Q := by
  subst hn
  intro n0 ro D cA p l e R s m args below meth c C hf hl ws H locs cells slots ls st QQ hW hL hS hc hs2 hQ
  rcases C.2.2.2.2.2.2.2.2.2.1.2.2.2.2.1 with hz | hz
  · refine va_gets C.1 C.2.1 hz hW.2.2.2 C.2.2.2.2.1 (C.2.2.2.2.2.1 _ hl9) (fun _ h9 => h9) hd ?_
    exact k1 n0 ro D cA p l e R s m args below meth c C hf hl ws H locs cells slots ls _ QQ hW hL (am_LR.cons (v := .null) rfl hS) hc hs2 hQ
  · refine va_gets C.1 C.2.1 hz hW.2.2.2 C.2.2.2.2.1 (C.2.2.2.2.2.1 _ hl9) (fun _ h9 => h9) hd ?_
    exact k n0 ro D cA p l e R s m args below meth c C hf hl ws H locs cells slots ls _ QQ hW hL (am_LR.cons (v := .ref 1000020) ⟨ro 20, rfl, rfl⟩ hS) hc hs2 hQ
theorem aw_ldcS {idx i : Nat} {tx : String} (hd : decode M.2.1 pc = .ok (.ldc idx, 2)) (hn : pc + 2 = npc) (ho : M.1.cls = RX1) (hi : am_str[i]? = some (idx, tx)) (k : AW X M d rc rs npc L (.ref (1000002 + i) :: S) n h Q) : AW X M d rc rs pc L S n h Q := by
  subst hn
  intro n0 ro D cA p l e R s m args below meth c C hf hl ws H locs cells slots ls st QQ hW hL hS hc hs2 hQ
  refine va_ldcS C.1 C.2.1 (own := RX1) (by rw [← ho]; exact C.2.2.2.2.1) (C.2.2.2.2.2.2.2.2.2.1.2.2.2.2.2.2.1 i _ hi) hd ?_
  exact k n0 ro D cA p l e R s m args below meth c C hf hl ws H locs cells slots ls _ QQ hW hL (am_LR.cons (v := .ref (1000002 + i)) ⟨ro (i + 2), by rw [show 1000002 + i = 1000000 + (i + 2) by omega]; exact am_adk, rfl⟩ hS) hc hs2 hQ
def am_cpy (xs ys : List Int32) (sp dp m : Nat) : List Int32 := (List.range ys.length).map (fun j => if dp ≤ j ∧ j < dp + m then xs.getD (sp + (j - dp)) 0 else ys.getD j 0)
theorem aw_copyi {idx a b sp dp mm : Nat} {isp idp im : Int32} {xs ys : List Int32} (hd : decode M.2.1 pc = .ok (.invokestatic idx, 3)) (hn : pc + 3 = npc) (h1 : Cond.methodLink M.1.cls idx arraycopyName ∈ am_gw) (h2 : Cond.native arraycopyName ∈ am_gw ∧ Cond.static arraycopyName ∈ am_gw ∧ Cond.initialized "java/lang/System" ∈ am_gw) (ha : h a = some (.inl (0, xs))) (hb : h b = some (.inl (0, ys))) (h3 : am_ix isp sp) (h4 : am_ix idp dp) (h5 : am_ix im mm) (h6 : sp + mm ≤ xs.length) (h7 : dp + mm ≤ ys.length) (hr : (S.map fun v => v.category).sum ≤ 8) (hh : am_up h b (.inl (0, am_cpy xs ys sp dp mm)) = h') (k : AW X M (d + 1) rc rs npc L S n h' Q) : AW X M (d + 1) rc rs pc L (.int im :: .int idp :: .ref b :: .int isp :: .ref a :: S) n h Q := by
  subst hn; subst hh
  intro n0 ro D cA p l e R s m args below meth c C hf hl ws H locs cells slots ls st QQ hW hL hS hc hs2 hQ
  obtain ⟨_, st, rfl, rfl, _, st, rfl, rfl, _, st, rfl, ⟨b1, g1, rfl⟩, _, st, rfl, rfl, _, st, rfl, ⟨a1, g2, rfl⟩, hS⟩ := hS
  obtain ⟨b2, g, r1, r2, r3, -⟩ := am_arr hW.1 hb
  cases g1.symm.trans r3
  obtain ⟨a2, f, q1, q2, q3, -⟩ := am_arr hW.1 ha
  cases g2.symm.trans q3
  have z9 : nativeFrameWords "java/lang/System" "arraycopy" 5 ≤ 20 := by decide +kernel
  refine va_copyi C.1 C.2.1 (C.2.2.2.1.trans hL.1.symm) C.2.2.2.2.1 (C.2.2.2.2.2.1 _ h1) (C.2.2.2.2.2.1 _ h2.1) (C.2.2.2.2.2.1 _ h2.2.1) (C.2.2.2.2.2.1 _ h2.2.2) C.2.2.2.2.2.2.2.2.1 hW.2.1 hW.2.2.1 hW.2.2.2 a b 0 0 q1 r1 rfl rfl rfl h3.1 h4.1 h5.1 (by rw [h3.2, h5.2]; exact h6) (by rw [h4.2, h5.2]; exact h7) (fun _ _ => rfl) (by omega) (by rw [hS.cat]; omega) hd (fun H1 locs1 p1 p2 p3 => ?_)
  rw [h3.2, h4.2, h5.2] at p1 p2
  have e1 : ∀ e9 : va_E, am_as (ws.set b (b1, e9)) = am_as ws := fun e9 => am_as_set r1
  refine k n0 ro D cA p l e R s m args below meth c C hf hl _ H1 locs1 cells slots ls st QQ ⟨hW.1.set r1 ?_, p1, p2, p3⟩ (by rw [e1]; exact hL) (by rw [e1]; exact hS) hc hs2 (by rw [e1]; exact hQ)
  refine ⟨by decide, va_cpy f g sp dp mm, by rw [show (am_cpy xs ys sp dp mm).length = ys.length by simp [am_cpy]], fun j x hx => ?_⟩
  have hj : j < ys.length := by have z := (List.getElem?_eq_some_iff.mp hx).1; simpa [am_cpy] using z
  simp only [am_cpy, List.getElem?_map, List.getElem?_range hj, Option.map_some, Option.some.injEq] at hx
  rw [← hx]
  unfold va_cpy
  by_cases hjj : dp ≤ j ∧ j < dp + mm
  · rw [if_pos hjj, if_pos hjj]
    have z : sp + (j - dp) < xs.length := by omega
    rw [List.getD_eq_getElem?_getD, List.getElem?_eq_getElem z]
    exact q2 _ _ (List.getElem?_eq_getElem z)
  · rw [if_neg hjj, if_neg hjj, List.getD_eq_getElem?_getD, List.getElem?_eq_getElem hj]
    exact r2 _ _ (List.getElem?_eq_getElem hj)
end AMC
