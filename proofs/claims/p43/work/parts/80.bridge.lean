/-! THE CLAIM OUT OF ONE WALK OF THE LAW'S BODY. Your part is whole_start (and what it stands on); all else here is the same for every law, but numbers. -/
def R_law : String := "DuelLettersLaw"
def lw_P (b : Addr) (xs : List Int32) (args : Array Value) (s : State) : Prop := args = #[.ref b] ∧ s.IntsAt b xs ∧ xs.length ≤ 3072 ∧ (Jvm.Cond.and given_1 narrow_1).before args s = true
def lw_Q (_ : Array Value) (s : State) (o : Outcome) (t : State) : Prop := o = .returned (some (.int 1)) ∧ Framed s o t [] 600000 7302249
def lw_Z (below : List Frame) (a : Array Value) (s : State) : State → Prop := fun t => ∃ o, t.status = .running ∧ Ended t below o ∧ lw_Q a s o t
/-- the law's own end, with 1 on the stack, nothing written that was there before, its room as the claim has it -/
theorem lw_ret {p : Program} {l : Launch} {e : Env} {s : State} {m : MethodId} {below : List Frame} {meth : Method} {c : Code} {b : Nat} (hx : p.tables.exec = Jvm.exec) (hb : c.code = code) (hr : meth.sig.returnType = ret) (hlocks : meth.locks = false) {pc : Nat} {H : Heap} {ls : Array Slot} (hdg : decode code pc = .ok (.ireturn, 1)) : W p l e room_1 s m #[Value.ref b] below meth c H [] 600000 7302249 (lw_Z below #[Value.ref b] s) (F0 m pc ls [.int 1]) := by
  intro T hT X
  obtain ⟨fs, hret, hrun, hended, hW, hframe⟩ := X.leave (v := some (.int 1)) (hlocks := hlocks) (fun h => by rw [hr] at h; cases h)
  have hmeth' : T.vm.method? m = some meth := X.method'
  refine ⟨T.setFrames fs, ?_, .returned (some (.int 1)), hrun, hended, rfl, ⟨_, rfl⟩, hW, hframe⟩
  jvm_step X.here [X.here.top, hx, hb, hdg, hmeth', hr, ret, narrow_b1]
  (try refine ⟨rfl, ?_⟩); (try refine ⟨rfl, ?_⟩)
  first | (intro acts; rw [hret _ acts rfl rfl rfl]) | rw [hret _ _ rfl rfl rfl]
  exact Steps.refl _
/-- what holds at the law's entry: the machine, the code, the tables' words (any of lw_tbl by 'hts w (by decide +kernel)'), the script of L ints xs at the cell b, what the Statement gives of the start (any of its parts by flat_of_before) -/
def lw_At (p : Program) (s : State) (m : MethodId) (meth : Method) (c : Code) (b L : Nat) (xs : Nat → Int32) : Prop :=
  p.tables.exec = Jvm.exec ∧ c.code = code ∧ meth.sig.returnType = ret ∧ c.maxLocals = 4 ∧ s.vm.findClass R_law = some m.cls ∧ (∀ w ∈ lw_tbl, w.before #[Value.ref b] s = true) ∧ va_X b L xs s s.heap ∧ b < s.heap.size ∧ meth.locks = false ∧ (Jvm.Cond.and given_1 narrow_1).before #[Value.ref b] s = true
theorem am_pr {s : State} {args : Array Value} {ty : FieldType} (h : (Cond.arrayClass ty).before args s = true) (hr : ∀ C, ty ≠ .object C) : ∃ cA, ArrOfT s cA ty ∧ va_RA s cA ty := by
  obtain ⟨cA, kA, comp, h1, h2, h3⟩ := Cond.arrayClass_spec h
  refine ⟨cA, fun n z => ⟨fun k h => (by cases h), kA, h2, comp, h3⟩, ?_⟩
  cases ty with
  | object C => exact absurd rfl (hr C)
  | _ => exact h1
theorem am_ro {s : State} {C : String} (h : va_AO C s) : ∃ cA, ArrOfT s cA (.object C) ∧ va_RA s cA (.object C) := by
  obtain ⟨comp, cA, kA, f4, -, f2, f3, f1⟩ := Cond.arrayOver_spec h
  exact ⟨cA, fun N z => ⟨(fun k h => by cases h), kA, f2, comp, f3⟩, kA, comp, f2, f3, f4, f1⟩
def am_tm (i : Nat) : Term := .string RX1 (am_str.getD i (0, "")).1
set_option maxRecDepth 100000 in
set_option maxHeartbeats 4000000 in
theorem am_start {p : Program} {e : Env} {s : State} {m : MethodId} {below : List Frame} {meth : Method} {c : Code} (l : Launch) {b L : Nat} {xs : Nat → Int32} (hL : L ≤ 3072) (C0 : lw_At p s m meth c b L xs) (hAW : AW ((List.range L).map xs) mLaw 1000 600000 7302249 0 (am_pad [.ref 1000000] 4) [] 0 (fun _ => none) (fun r _ _ => r = some (.int 1))) : W p l e room_1 s m #[Value.ref b] below meth c s.heap [] 0 0 (lw_Z below #[Value.ref b] s) (entryFrame m ([Value.ref b] : List Value).toArray 4) := by
  obtain ⟨hx, hb, hr, hml, hown, hts, hX, hbl, hlocks, hgv⟩ := id C0
  have hgw : ∀ w ∈ am_gw, w.before #[Value.ref b] s = true := fun w hw => hts w (List.mem_filter.mp hw).1
  have hfl := flat_of_before _ hgv
  have hA : ∀ a : Nat, a < s.heap.size → ¬ (fun q : Nat => s.heap.size ≤ q) a := fun a h q => absurd h (Nat.not_lt.mpr q)
  obtain ⟨c0, i0, hk0⟩ := u_known (C := RX0) (T := TX0) (N := 19) (n := 19) hgw am_clX0.2.2.1 (hgw (.instantiable RX0 19) (am_in 27 (am_t1 27 rfl) rfl))
  obtain ⟨c1, i1, hk1⟩ := u_known (C := RX1) (T := TX1) (N := 11) (n := 11) hgw am_clX1.2.2.1 (hgw (.instantiable RX1 11) (am_in 131 (am_t1 131 rfl) rfl))
  obtain ⟨c2, i2, hk2⟩ := u_known (C := RX2) (T := TX2) (N := 3) (n := 3) hgw am_clX2.2.2.1 (hgw (.instantiable RX2 3) (am_in 191 (am_t1 191 rfl) rfl))
  obtain ⟨c3, i3, hk3⟩ := u_known (C := RX3) (T := TX3) (N := 5) (n := 5) hgw am_clX3.2.2.1 (hgw (.instantiable RX3 5) (am_in 209 (am_t1 209 rfl) rfl))
  obtain ⟨c4, i4, hk4⟩ := u_known (C := RX4) (T := TX4) (N := 2) (n := 2) hgw am_clX4.2.2.1 (hgw (.instantiable RX4 2) (am_in 137 (am_t1 137 rfl) rfl))
  obtain ⟨c5, i5, hk5⟩ := u_known (C := RX5) (T := TX5) (N := 4) (n := 4) hgw am_clX5.2.2.1 (hgw (.instantiable RX5 4) (am_in 749 (am_t4 29 rfl) rfl))
  obtain ⟨c6, i6, hk6⟩ := u_known (C := RX6) (T := TX6) (N := 3) (n := 3) hgw am_clX6.2.2.1 (hgw (.instantiable RX6 3) (am_in 115 (am_t1 115 rfl) rfl))
  obtain ⟨c7, i7, hk7⟩ := u_known (C := RX7) (T := TX7) (N := 11) (n := 11) hgw am_clX7.2.2.1 (hgw (.instantiable RX7 11) (am_in 19 (am_t1 19 rfl) rfl))
  obtain ⟨c8, i8, hk8⟩ := u_known (C := RX8) (T := TX8) (N := 36) (n := 36) hgw am_clX8.2.2.1 (hgw (.instantiable RX8 36) (am_in 878 (am_t4 158 rfl) rfl))
  obtain ⟨dC, dI, hKc⟩ : ∃ (dC : Nat → ClassId) (dI : Nat → Nat → Nat), ∀ (k : Nat) (q : vw_C), vwCl[k]? = some q → u_Kn s q.1 q.2.1 q.2.2 (dC k) (dI k) := by
    refine ⟨fun k => if k = 0 then c0 else if k = 1 then c1 else if k = 2 then c2 else if k = 3 then c3 else if k = 4 then c4 else if k = 5 then c5 else if k = 6 then c6 else if k = 7 then c7 else c8, fun k => if k = 0 then i0 else if k = 1 then i1 else if k = 2 then i2 else if k = 3 then i3 else if k = 4 then i4 else if k = 5 then i5 else if k = 6 then i6 else if k = 7 then i7 else i8, ?_⟩
    intro k q hq
    match k, hq with
    | 0, hq => cases hq; exact hk0
    | 1, hq => cases hq; exact hk1
    | 2, hq => cases hq; exact hk2
    | 3, hq => cases hq; exact hk3
    | 4, hq => cases hq; exact hk4
    | 5, hq => cases hq; exact hk5
    | 6, hq => cases hq; exact hk6
    | 7, hq => cases hq; exact hk7
    | 8, hq => cases hq; exact hk8
    | k + 9, hq => simp [vwCl] at hq
  obtain ⟨a0, x0, y0⟩ := am_pr (ty := .int) (hgw _ ka_int) (fun C h => by cases h)
  obtain ⟨a1, x1, y1⟩ := am_pr (ty := .boolean) (hgw _ ka_boolean) (fun C h => by cases h)
  obtain ⟨a2, x2, y2⟩ := am_pr (ty := .char) (hgw _ ka_char) (fun C h => by cases h)
  have o3 : va_AO RX2 s := va_AO.of (hts (.arrayOver (.object RX2)) (by decide +kernel))
  have o4 : va_AO RX3 s := va_AO.of (hts (.arrayOver (.object RX3)) (by decide +kernel))
  have o5 : va_AO RX5 s := va_AO.of (hts (.arrayOver (.object RX5)) (by decide +kernel))
  obtain ⟨a3, x3, y3⟩ := am_ro o3
  obtain ⟨a4, x4, y4⟩ := am_ro o4
  obtain ⟨a5, x5, y5⟩ := am_ro o5
  obtain ⟨cA, hcA⟩ : ∃ cA : Nat → ClassId, cA 0 = a0 ∧ cA 1 = a1 ∧ cA 2 = a2 ∧ cA 3 = a3 ∧ cA 4 = a4 ∧ cA 5 = a5 := ⟨fun k => if k = 0 then a0 else if k = 1 then a1 else if k = 2 then a2 else if k = 3 then a3 else if k = 4 then a4 else a5, rfl, rfl, rfl, rfl, rfl, rfl⟩
  obtain ⟨rfl, rfl, rfl, rfl, rfl, rfl⟩ := hcA
  have hK : va_K (dC, dI) vwCl (am_tys cA) s := by
    refine ⟨hKc, fun k q hq => ?_⟩
    match k, hq with
    | 0, hq => cases hq; exact ⟨x0, y0⟩
    | 1, hq => cases hq; exact ⟨x1, y1⟩
    | 2, hq => cases hq; exact ⟨x2, y2⟩
    | 3, hq => cases hq; exact ⟨x3, y3⟩
    | 4, hq => cases hq; exact ⟨x4, y4⟩
    | 5, hq => cases hq; exact ⟨x5, y5⟩
    | k + 6, hq => simp [am_tys] at hq
  obtain ⟨tA, htA, hTA⟩ := va_Tof (tm := .static RX7 "ABOVE" "[I") (ty := .int) (N := 6) (f := fun j => .int (am_above.getD j 0)) (A := fun q : Nat => s.heap.size ≤ q) (by decide) (hfl _ (by decide +kernel)) (va_eqt (z := 6) (hfl _ (by decide +kernel))) (fun j hj => va_eqt (z := am_above.getD j 0) (by
    rcases (show j = 0 ∨ j = 1 ∨ j = 2 ∨ j = 3 ∨ j = 4 ∨ j = 5 by omega) with rfl | rfl | rfl | rfl | rfl | rfl <;> exact hfl _ (by decide +kernel))) hA
  have hZA := va_Zref (C := RX7) (n := "ABOVE") (d := "[I") (hts (.laysStatic RX7 "ABOVE" "[I") (by decide +kernel)) (hts (.initialized RX7) (by decide +kernel)) htA hA
  have hZC := va_Zof (C := "java/lang/String") (n := "COMPACT_STRINGS") (d := "Z") (v := .int 1) (A := fun q : Nat => s.heap.size ≤ q) (hts (.laysStatic "java/lang/String" "COMPACT_STRINGS" "Z") (by decide +kernel)) (hts (.initialized "java/lang/String") (by decide +kernel)) (va_eqi (hfl _ (by decide +kernel))) hA
  have hZF := va_Zqof (C := "jdk/internal/util/Preconditions") (n := "SIOOBE_FORMATTER") (d := "Ljava/util/function/BiFunction;") (A := fun q : Nat => s.heap.size ≤ q) (hts (.laysStatic "jdk/internal/util/Preconditions" "SIOOBE_FORMATTER" "Ljava/util/function/BiFunction;") (by decide +kernel)) (hts (.initialized "jdk/internal/util/Preconditions") (by decide +kernel)) (hfl _ (by decide +kernel)) hA
  obtain ⟨tF, hZF⟩ : ∃ tF : Nat, am_fmt (fun q : Nat => s.heap.size ≤ q) .null s s.heap ∨ am_fmt (fun q : Nat => s.heap.size ≤ q) (.ref tF) s s.heap := by
    rcases hZF with h | ⟨t, h⟩
    · exact ⟨0, Or.inl h⟩
    · exact ⟨t, Or.inr h⟩
  obtain ⟨adK, adV, hVS, hVR⟩ := vk_Sof (args := #[Value.ref b]) (s := s) (N := 6) (tm := am_tm) (len := am_slen) (byt := am_sbyt) (A := fun q : Nat => s.heap.size ≤ q) (by decide)
    (fun i hi => by rcases (show i = 0 ∨ i = 1 ∨ i = 2 ∨ i = 3 ∨ i = 4 ∨ i = 5 by omega) with rfl | rfl | rfl | rfl | rfl | rfl <;> exact hfl _ (by decide +kernel))
    (fun i hi => by rcases (show i = 0 ∨ i = 1 ∨ i = 2 ∨ i = 3 ∨ i = 4 ∨ i = 5 by omega) with rfl | rfl | rfl | rfl | rfl | rfl <;> exact hfl _ (by decide +kernel))
    (fun i hi => by rcases (show i = 0 ∨ i = 1 ∨ i = 2 ∨ i = 3 ∨ i = 4 ∨ i = 5 by omega) with rfl | rfl | rfl | rfl | rfl | rfl <;> exact hfl _ (by decide +kernel))
    (fun i hi => by rcases (show i = 0 ∨ i = 1 ∨ i = 2 ∨ i = 3 ∨ i = 4 ∨ i = 5 by omega) with rfl | rfl | rfl | rfl | rfl | rfl <;> exact hfl _ (by decide +kernel))
    (fun i hi j hj => by
      have hj4 : j < 4 := Nat.lt_of_lt_of_le hj (by rcases (show i = 0 ∨ i = 1 ∨ i = 2 ∨ i = 3 ∨ i = 4 ∨ i = 5 by omega) with rfl | rfl | rfl | rfl | rfl | rfl <;> decide)
      rcases (show i = 0 ∨ i = 1 ∨ i = 2 ∨ i = 3 ∨ i = 4 ∨ i = 5 by omega) with rfl | rfl | rfl | rfl | rfl | rfl <;> rcases (show j = 0 ∨ j = 1 ∨ j = 2 ∨ j = 3 by omega) with rfl | rfl | rfl | rfl <;> first | exact hfl _ (by decide +kernel) | exact absurd hj (by decide))
    (fun i j hi hj hij => by
      rcases (show i = 0 ∨ i = 1 ∨ i = 2 ∨ i = 3 ∨ i = 4 ∨ i = 5 by omega) with rfl | rfl | rfl | rfl | rfl | rfl <;> rcases (show j = 0 ∨ j = 1 ∨ j = 2 ∨ j = 3 ∨ j = 4 ∨ j = 5 by omega) with rfl | rfl | rfl | rfl | rfl | rfl <;> first | exact absurd rfl hij | exact Or.inl (hfl _ (by decide +kernel)) | exact Or.inr (hfl _ (by decide +kernel))) hA
  obtain ⟨ro, r0, r1, r20, rK, rV⟩ : ∃ ro : Nat → Nat, ro 0 = b ∧ ro 1 = tA ∧ ro 20 = tF ∧ (∀ i, i < 6 → ro (i + 2) = adK i) ∧ (∀ i, i < 6 → ro (i + 10) = adV i) := by
    refine ⟨fun k => if k = 0 then b else if k = 1 then tA else if k = 20 then tF else if k < 8 then adK (k - 2) else adV (k - 10), rfl, rfl, rfl, ?_, ?_⟩
    · intro i hi
      rcases (show i = 0 ∨ i = 1 ∨ i = 2 ∨ i = 3 ∨ i = 4 ∨ i = 5 by omega) with rfl | rfl | rfl | rfl | rfl | rfl <;> rfl
    · intro i hi
      rcases (show i = 0 ∨ i = 1 ∨ i = 2 ∨ i = 3 ∨ i = 4 ∨ i = 5 by omega) with rfl | rfl | rfl | rfl | rfl | rfl <;> rfl
  subst r0; subst r1; subst r20
  have hlen : ((List.range L).map xs).length = L := by simp
  have hSt : am_St s.heap.size ((List.range L).map xs) ro s s.heap := by
    refine ⟨?_, hZA, hTA, hZC, hZF, ?_, ?_, ?_, o3, o4, o5⟩
    · obtain ⟨scr, z1, z2, z3, z4, z5⟩ := hX
      refine ⟨scr, z1, z2, z3, by rw [hlen, z4]; exact Nat.le_refl _, by rw [hlen, z4], fun j hj => ?_, Nat.not_le.mpr hbl⟩
      rw [hlen] at hj
      show _ = some (Value.int (((List.range L).map xs).getD j 0))
      rw [z5 j hj, List.getD_eq_getElem?_getD, List.getElem?_map, List.getElem?_range hj]
      rfl
    · refine ⟨fun i hi => ?_, fun i j hi hj h => ?_⟩
      · have z := hVS.1 i hi
        rw [← rK i hi, ← rV i hi] at z
        exact z
      · exact hVS.2 i j hi hj (by rw [← rK i hi, ← rK j hj]; exact h)
    · intro i q hq
      have hi : i < 6 := (List.getElem?_eq_some_iff.mp hq).1
      have z := hVR i hi
      rw [← rK i hi] at z
      rcases (show i = 0 ∨ i = 1 ∨ i = 2 ∨ i = 3 ∨ i = 4 ∨ i = 5 by omega) with rfl | rfl | rfl | rfl | rfl | rfl <;> (cases hq; exact vk_R.of (hts _ (by decide +kernel)) z)
    · intro w hw
      have hN := (List.mem_filter.mp hw).2
      have hz := hts w (List.mem_filter.mp hw).1
      cases w <;> first | (simp [am_isN] at hN; done) | exact va_Nw.of rfl hz
  have C : am_Cx s.heap.size ((List.range L).map xs) ro (dC, dI) cA mLaw p s m #[Value.ref (ro 0)] meth c := ⟨hx, hb, hr, hml, hown, hgw, hlocks, fun h9 => absurd h9 (by decide +kernel), hK, hSt, Nat.le_refl _⟩
  have hl := lv_entry ([.ref (ro 0)]) (n := 4) (Nat.le_of_ble_eq_true rfl)
  rw [lg_entry_eq]
  generalize (lg_sl ([.ref (ro 0)]) ++ List.replicate (4 - (lg_sl ([.ref (ro 0)])).length) Slot.unset).toArray = ls at hl ⊢
  refine hAW s.heap.size ro (dC, dI) cA p l e room_1 s m #[Value.ref (ro 0)] below meth c C (Nat.le_of_ble_eq_true rfl) (Nat.le_of_ble_eq_true rfl) [] s.heap [] 0 0 ls [] _ ⟨⟨rfl, Nat.zero_le _, fun k c hc => by cases hc⟩, fun k q h => by simp at h, ⟨fun i j p q h => by simp at h, fun k q h => by simp at h⟩, va_S.rf⟩ ⟨hl.1, hl.2.1, fun i v hv => ?_⟩ rfl (Nat.zero_add _) (Nat.zero_add _) ?_
  · have hv2 := am_pad_at hv
    match i, hv2 with
    | 0, hv2 => cases hv2; exact ⟨.ref (ro 0), hl.2.2 (0, .ref (ro 0)) (by simp [lv_args]), ro 0, rfl, rfl⟩
    | i + 1, hv2 => simp at hv2
  · intro r n' h' ws' H' locs' cells' slots' pc' ls' st' hq hpf hW hc hs hRt hRo
    subst hq
    obtain ⟨cv, _, rfl, hcv, hnil⟩ := hRo
    cases hnil
    cases hcv
    refine va_forget (fun q hq => hW.2.2.2.2.2 q hq) ?_
    refine W.widen (k := 600000) (n := 7302249) hc hs ?_
    exact lw_ret hx hb hr hlocks hRt.1
