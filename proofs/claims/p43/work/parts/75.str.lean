section AMS
variable {X : List Int32} {M N : am_MD} {d rc rs pc npc : Nat} {L L0 : am_L} {S S0 : List Value} {n : Nat} {h h' : am_H} {Q : am_Q}
theorem aw_sval {idx i : Nat} (hd : decode M.2.1 pc = .ok (.getfield idx, 3)) (hn : pc + 3 = npc) (hl9 : Cond.fieldLink M.1.cls idx "java/lang/String" "value" "[B" ∈ am_gw) (hi : i < 6) (k : AW X M d rc rs npc L (.ref (1000010 + i) :: S) n h Q) : AW X M d rc rs pc L (.ref (1000002 + i) :: S) n h Q := by
  subst hn
  intro n0 ro D cA p l e R s m args below meth c C hf hl ws H locs cells slots ls st QQ hW hL hS hc hs2 hQ
  obtain ⟨_, st, rfl, ⟨a1, h1, rfl⟩, hS⟩ := hS
  rw [show 1000002 + i = 1000000 + (i + 2) by omega] at h1
  cases am_old h1
  refine vk_getf C.1 C.2.1 (C.2.2.2.2.2.2.2.2.2.1.2.2.2.2.2.1.1 i hi).2.2.1 hW.2.2.2 C.2.2.2.2.1 (C.2.2.2.2.2.1 _ hl9) (fun _ h9 => h9) hd ?_
  exact k n0 ro D cA p l e R s m args below meth c C hf hl ws H locs cells slots ls _ QQ hW hL (am_LR.cons (v := .ref (1000010 + i)) ⟨ro (i + 10), by rw [show 1000010 + i = 1000000 + (i + 10) by omega]; exact am_adk, rfl⟩ hS) hc hs2 hQ
theorem aw_scod {idx i : Nat} (hd : decode M.2.1 pc = .ok (.getfield idx, 3)) (hn : pc + 3 = npc) (hl9 : Cond.fieldLink M.1.cls idx "java/lang/String" "coder" "B" ∈ am_gw) (hi : i < 6) (k : AW X M d rc rs npc L (.int 0 :: S) n h Q) : AW X M d rc rs pc L (.ref (1000002 + i) :: S) n h Q := by
  subst hn
  intro n0 ro D cA p l e R s m args below meth c C hf hl ws H locs cells slots ls st QQ hW hL hS hc hs2 hQ
  obtain ⟨_, st, rfl, ⟨a1, h1, rfl⟩, hS⟩ := hS
  rw [show 1000002 + i = 1000000 + (i + 2) by omega] at h1
  cases am_old h1
  refine vk_getf C.1 C.2.1 (C.2.2.2.2.2.2.2.2.2.1.2.2.2.2.2.1.1 i hi).2.1 hW.2.2.2 C.2.2.2.2.1 (C.2.2.2.2.2.1 _ hl9) (fun _ h9 => h9) hd ?_
  exact k n0 ro D cA p l e R s m args below meth c C hf hl ws H locs cells slots ls _ QQ hW hL hS.int hc hs2 hQ
theorem aw_sblen {i : Nat} {v : Int32} (hd : decode M.2.1 pc = .ok (.arraylength, 1)) (hn : pc + 1 = npc) (hi : i < 6) (hv : Int32.ofNat (am_slen.getD i 0) = v) (k : AW X M d rc rs npc L (.int v :: S) n h Q) : AW X M d rc rs pc L (.ref (1000010 + i) :: S) n h Q := by
  subst hn
  intro n0 ro D cA p l e R s m args below meth c C hf hl ws H locs cells slots ls st QQ hW hL hS hc hs2 hQ
  obtain ⟨_, st, rfl, ⟨a1, h1, rfl⟩, hS⟩ := hS
  rw [show 1000010 + i = 1000000 + (i + 10) by omega] at h1
  cases am_old h1
  refine va_tlen C.1 C.2.1 (C.2.2.2.2.2.2.2.2.2.1.2.2.2.2.2.1.1 i hi).2.2.2 hW.2.2.2 hv hd ?_
  exact k n0 ro D cA p l e R s m args below meth c C hf hl ws H locs cells slots ls _ QQ hW hL hS.int hc hs2 hQ
theorem aw_sbld {i j : Nat} {z x : Int32} (hd : decode M.2.1 pc = .ok (.baload, 1)) (hn : pc + 1 = npc) (hi : i < 6) (hz : am_ix z j) (hj : j < am_slen.getD i 0) (hx : (am_sbyt.getD i []).getD j 0 = x) (k : AW X M d rc rs npc L (.int x :: S) n h Q) : AW X M d rc rs pc L (.int z :: .ref (1000010 + i) :: S) n h Q := by
  subst hn
  intro n0 ro D cA p l e R s m args below meth c C hf hl ws H locs cells slots ls st QQ hW hL hS hc hs2 hQ
  obtain ⟨_, st, rfl, rfl, _, st, rfl, ⟨a1, h1, rfl⟩, hS⟩ := hS
  rw [show 1000010 + i = 1000000 + (i + 10) by omega] at h1
  cases am_old h1
  refine va_tb C.1 C.2.1 (C.2.2.2.2.2.2.2.2.2.1.2.2.2.2.2.1.1 i hi).2.2.2 hW.2.2.2 (hz.in hj) (v := .int x) (by rw [hz.2, hx]) hd ?_
  exact k n0 ro D cA p l e R s m args below meth c C hf hl ws H locs cells slots ls _ QQ hW hL hS.int hc hs2 hQ
theorem aw_callVS {idx np mc ms rc' rs' i : Nat} {A : List Value} (hd : decode M.2.1 pc = .ok (.invokevirtual idx, 3)) (hn : pc + 3 = npc) (hM : am_mf N np) (hl9 : Cond.methodLink M.1.cls idx N.1 ∈ am_gw ∧ Cond.instanceMethod N.1 ∈ am_gw ∧ Cond.selects N.1.cls N.1 N.1 ∈ am_gw) (hi : i < 6) (hci : N.1.cls = "java/lang/String") (hS0 : S0 = A.reverse ++ .ref (1000002 + i) :: S) (hnp : A.length = np ∧ np < N.2.2.1) (hc1 : am_c1 A = true) (hr : (S.map fun v => v.category).sum ≤ 8) (hrc : mc + rc' = rc) (hrs : ms + rs' = rs) (hL0 : am_pad (.ref (1000002 + i) :: A) N.2.2.1 = L0) (k : AW X N d mc ms 0 L0 [] n h (fun r n' h' => AW X M (d + 1) rc' rs' npc L (r.toList ++ S) n' h' Q)) : AW X M (d + 1) rc rs pc L S0 n h Q := by
  subst hn; subst hS0; subst hL0; subst hrc; subst hrs
  intro n0 ro D cA p l e R s m args below meth c C hf hl ws H locs cells slots ls st QQ hW hL hS hc hs2 hQ
  obtain ⟨a0, st, rfl, hA0, hT9⟩ := hS.app
  clear hS
  obtain ⟨_, st, rfl, ⟨b1, g1, rfl⟩, hS⟩ := hT9
  have g2 := g1
  rw [show 1000002 + i = 1000000 + (i + 2) by omega] at g2
  cases am_old g2
  have hA1 := hA0.rev
  rw [List.reverse_reverse] at hA1
  have hmet := am_met (l := l) (A := .ref (1000002 + i) :: A) hM.1 (by simp only [List.length_cons]; omega) (by simp only [am_c1, List.all_cons, Value.category] at hc1 ⊢; exact hc1) k (n0 := n0) (D := D) (cA := cA) (am_LR.cons (v := .ref (1000002 + i)) ⟨ro (i + 2), g1, rfl⟩ hA1)
  refine am_ret (va_runV (bytes := N.2.1) (maxL := N.2.2.1) (ret := N.2.2.2) (C := N.1.cls) (As := a0.reverse) (rest := st) (Ts := am_gw) (own := M.1.cls) ⟨C.1, C.2.1, C.2.2.2.1, C.2.2.2.2.1, C.2.2.2.2.2.1⟩ hmet (cwV np C.2.2.2.2.2.1 (am_good (fun w hw => ?_)) rfl rfl rfl ⟨rfl, hM.2.2.2.2.1, hM.2.2.2.2.2.1, hM.2.2.2.2.2.2⟩ ⟨hf, by have z : N.2.2.1 ≤ 31 := hM.2.1; show 8 + (N.2.2.1 + 11) + 50 * d ≤ R.locals; omega⟩) ⟨am_Pc.blind, ?_, fun U hU hWm => am_pre C.2.2.2.2.2.2.2.2.2.2 C.2.2.2.2.2.2.2.2.1 C.2.2.2.2.2.2.2.2.2.1 hW hU hWm⟩ rfl ?_ hL.1 (by rw [List.reverse_reverse]) (lv_room (by rw [hS.cat]; exact hr)) hd ⟨by omega, by omega⟩) hW.2.2.2 (fun r n' h' ws' cr H1 locs1 q1 q2 q3 q4 => ?_)
  · simp only [wsV, List.mem_append, List.mem_cons, List.not_mem_nil, or_false] at hw
    rcases hw with (rfl | rfl | rfl | rfl) | rfl | hw
    · exact hl9.1
    · exact hl9.2.1
    · exact hl9.2.2
    · exact hM.2.2.1
    · exact hM.2.2.2.1
    · exact hw
  · obtain ⟨cell, z1, z2, z3⟩ := vk_recv C.2.2.2.2.2.2.2.2.2.1.2.2.2.2.2.1 hi hW.2.2.2
    exact ⟨cell, z1, z2, by rw [hci]; exact z3⟩
  · rw [List.length_reverse, hA0.len, List.length_reverse]; exact hnp.1
  · exact q1 n0 ro D cA p l e R s m args below meth c C hf hl ws' H1 locs1 (cells + mc) (slots + ms) ls (cr.toList ++ st) QQ q3 (hL.mono q2) (am_LR.join q4 (hS.mono q2)) (by omega) (by omega) (fun r9 n9 h9 ws9 H9 locs9 cells9 slots9 pc9 ls9 st9 x1 x2 => hQ r9 n9 h9 ws9 H9 locs9 cells9 slots9 pc9 ls9 st9 x1 (q2.tr x2))
end AMS
