/-! AN ABSTRACT MACHINE OVER THE KIT'S ROWS. Cells are numbered from 0 as they come; a value's ref is such a number (1000000 and up: cells that were there before the law). AW: from this pc, locals, stack, heap the method comes to its end with Q. -/
abbrev am_AC : Type := (Nat × List Int32) ⊕ (Nat × List Value)
abbrev am_H : Type := Nat → Option am_AC
abbrev am_MD : Type := MethodName × ByteArray × Nat × Option FieldType
abbrev am_Q : Type := Option Value → Nat → am_H → Prop
abbrev am_L : Type := List (Option Value)
def am_gw : List Cond := lw_tbl.filter goodWord
def am_isN (w : Cond) : Bool := match w with
  | .methodLinkNest _ _ _ _ => true
  | _ => false
def am_nw : List Cond := lw_tbl.filter am_isN
def am_up (h : am_H) (k : Nat) (c : am_AC) : am_H := fun j => if j = k then some c else h j
def am_ad (ro : Nat → Nat) (as : List Nat) (k : Nat) : Option Nat := if k < 1000000 then as[k]? else some (ro (k - 1000000))
def am_VR (ro : Nat → Nat) (as : List Nat) (v c : Value) : Prop := match v with
  | .int x => c = .int x
  | .long x => c = .long x
  | .null => c = .null
  | .ref k => ∃ a, am_ad ro as k = some a ∧ c = .ref a
  | _ => False
def am_LR (ro : Nat → Nat) (as : List Nat) : List Value → List Value → Prop
  | [], st => st = []
  | v :: S, st => ∃ c st', st = c :: st' ∧ am_VR ro as v c ∧ am_LR ro as S st'
def am_LL (ro : Nat → Nat) (as : List Nat) (nL : Nat) (L : am_L) (ls : Array Slot) : Prop := ls.size = nL ∧ lv_wf ls ∧ ∀ (i : Nat) (v : Value), L[i]? = some (some v) → ∃ c, ls[i]? = some (.val c) ∧ am_VR ro as v c
def am_tys (cA : Nat → ClassId) : List (ClassId × FieldType) := [(cA 0, .int), (cA 1, .boolean), (cA 2, .char), (cA 3, .object RX2), (cA 4, .object RX3), (cA 5, .object RX5)]
def am_fit (t : Nat) (xs : List Int32) : Prop := ∀ x ∈ xs, match t with
  | 1 => x.toInt8.toInt32 &&& 1 = x
  | 2 => vp_nar .char x = x
  | _ => True
def am_CR (ro : Nat → Nat) (cA : Nat → ClassId) (as : List Nat) (c : am_AC) (e : va_E) : Prop := match c with
  | .inl (t, xs) => t < 3 ∧ ∃ f : Nat → Int32, e = .inl (cA t, xs.length, .inl f) ∧ ∀ (j : Nat) (x : Int32), xs[j]? = some x → f j = x
  | .inr (t, vs) => (t < 9 ∧ ∃ fs, e = .inr (t, fs) ∧ am_LR ro as vs fs) ∨ (13 ≤ t ∧ t < 16 ∧ ∃ f : Nat → Option Nat, e = .inl (cA (t - 10), vs.length, .inr (.inr (.inr (.inr f)))) ∧ ∀ (j : Nat) (v : Value), vs[j]? = some v → am_VR ro as v (va_rf (f j)))
abbrev am_as (ws : va_W) : List Nat := ws.map (fun q => q.1)
def am_HR (ro : Nat → Nat) (cA : Nat → ClassId) (n : Nat) (h : am_H) (ws : va_W) : Prop := ws.length = n ∧ n ≤ 1000000 ∧ ∀ (k : Nat) (c : am_AC), h k = some c → ∃ (a : Nat) (e : va_E), ws[k]? = some (a, e) ∧ am_CR ro cA (am_as ws) c e
def am_pf (as as' : List Nat) : Prop := ∀ (k a : Nat), as[k]? = some a → as'[k]? = some a
def am_above : List Int32 := [-1, 0, 0, 1, 2, 0]
def am_str : List (Nat × String) := [(92, "tone"), (98, "fee"), (100, "fine"), (137, "phs"), (139, "lp"), (141, "yn")]
def am_slen : List Nat := [4, 3, 4, 3, 2, 2]
def am_sbyt : List (List Int32) := [[116, 111, 110, 101], [102, 101, 101], [102, 105, 110, 101], [112, 104, 115], [108, 112], [121, 110]]
def am_fmt (A : Nat → Prop) (v : Value) (U : State) (H : Heap) : Prop := va_Z "jdk/internal/util/Preconditions" "SIOOBE_FORMATTER" "Ljava/util/function/BiFunction;" v A U H
def am_St (n0 : Nat) (X : List Int32) (ro : Nat → Nat) (U : State) (H : Heap) : Prop :=
  va_T .int (ro 0) X.length (fun j => .int (X.getD j 0)) (fun q => n0 ≤ q) U H ∧ va_Z RX7 "ABOVE" "[I" (.ref (ro 1)) (fun q => n0 ≤ q) U H ∧ va_T .int (ro 1) 6 (fun j => .int (am_above.getD j 0)) (fun q => n0 ≤ q) U H ∧
  va_Z "java/lang/String" "COMPACT_STRINGS" "Z" (.int 1) (fun q => n0 ≤ q) U H ∧ (am_fmt (fun q => n0 ≤ q) .null U H ∨ am_fmt (fun q => n0 ≤ q) (.ref (ro 20)) U H) ∧
  vk_S 6 am_slen am_sbyt (fun i => ro (i + 2)) (fun i => ro (i + 10)) (fun q => n0 ≤ q) U H ∧ (∀ (i : Nat) (q : Nat × String), am_str[i]? = some q → vk_R RX1 q.1 q.2 (ro (i + 2)) U) ∧
  (∀ w ∈ am_nw, va_Nw w U) ∧ va_AO RX2 U ∧ va_AO RX3 U ∧ va_AO RX5 U
def am_Cx (n0 : Nat) (X : List Int32) (ro : Nat → Nat) (D : va_G) (cA : Nat → ClassId) (M : am_MD) (p : Program) (s : State) (m : MethodId) (args : Array Value) (meth : Method) (c : Code) : Prop :=
  p.tables.exec = Jvm.exec ∧ c.code = M.2.1 ∧ meth.sig.returnType = M.2.2.2 ∧ c.maxLocals = M.2.2.1 ∧ s.vm.findClass M.1.cls = some m.cls ∧ (∀ w ∈ am_gw, w.before args s = true) ∧ meth.locks = false ∧ (M.1.name = "<init>" → meth.name = "<init>") ∧ va_K D vwCl (am_tys cA) s ∧ am_St n0 X ro s s.heap ∧ n0 ≤ s.heap.size
def am_Wd (n0 : Nat) (ro : Nat → Nat) (D : va_G) (cA : Nat → ClassId) (H0 : Heap) (n : Nat) (h : am_H) (ws : va_W) (H : Heap) (locs : List Loc) : Prop :=
  am_HR ro cA n h ws ∧ va_P D vwCl ws H ∧ va_D (fun q => n0 ≤ q) ws ∧ va_S (fun q => n0 ≤ q) H0 H locs
def am_Rt (cc : ByteArray) (rt : Option FieldType) (pc : Nat) (r : Option Value) : Prop := match r with
  | none => decode cc pc = .ok (.return_, 1) ∧ rt = none
  | some (.int x) => decode cc pc = .ok (.ireturn, 1) ∧ ∃ ty, rt = some ty ∧ narrow ty (.int x) = .int x
  | some (.long _) => decode cc pc = .ok (.lreturn, 1) ∧ rt = some .long
  | some _ => decode cc pc = .ok (.areturn, 1) ∧ ∃ ty, rt = some ty ∧ ((∃ n, ty = .object n) ∨ ∃ t, ty = .array t)
def am_Ro (ro : Nat → Nat) (as : List Nat) (r : Option Value) (st : List Value) : Prop := am_LR ro as r.toList st
def AW (X : List Int32) (M : am_MD) (d rc rs pc : Nat) (L : am_L) (S : List Value) (n : Nat) (h : am_H) (Q : am_Q) : Prop :=
  ∀ (n0 : Nat) (ro : Nat → Nat) (D : va_G) (cA : Nat → ClassId) (p : Program) (l : Launch) (e : Env) (R : Room) (s : State) (m : MethodId) (args : Array Value) (below : List Frame) (meth : Method) (c : Code),
   am_Cx n0 X ro D cA M p s m args meth c → d ≤ R.frames → 50 * d ≤ R.locals →
   ∀ (ws : va_W) (H : Heap) (locs : List Loc) (cells slots : Nat) (ls : Array Slot) (st : List Value) (QQ : State → Prop),
    am_Wd n0 ro D cA s.heap n h ws H locs → am_LL ro (am_as ws) M.2.2.1 L ls → am_LR ro (am_as ws) S st → cells + rc = R.cells → slots + rs = R.slots →
    (∀ (r : Option Value) (n' : Nat) (h' : am_H) (ws' : va_W) (H' : Heap) (locs' : List Loc) (cells' slots' pc' : Nat) (ls' : Array Slot) (st' : List Value), Q r n' h' → am_pf (am_as ws) (am_as ws') → am_Wd n0 ro D cA s.heap n' h' ws' H' locs' → cells' ≤ R.cells → slots' ≤ R.slots → am_Rt M.2.1 M.2.2.2 pc' r → am_Ro ro (am_as ws') r st' → W p l e R s m args below meth c H' locs' cells' slots' QQ (F0 m pc' ls' st')) →
    W p l e R s m args below meth c H locs cells slots QQ (F0 m pc ls st)
theorem am_pf.rf {as : List Nat} : am_pf as as := fun _ _ h => h
theorem am_pf.tr {a b c : List Nat} (h : am_pf a b) (h2 : am_pf b c) : am_pf a c := fun k x q => h2 k x (h k x q)
theorem am_pf.app (as t : List Nat) : am_pf as (as ++ t) := fun k a h => by
  rw [List.getElem?_append_left (List.getElem?_eq_some_iff.mp h).1]
  exact h
theorem am_ad.mono {ro : Nat → Nat} {as as' : List Nat} (hp : am_pf as as') {k a : Nat} (h : am_ad ro as k = some a) : am_ad ro as' k = some a := by
  unfold am_ad at h ⊢
  by_cases hk : k < 1000000
  · rw [if_pos hk] at h ⊢
    exact hp k a h
  · rw [if_neg hk] at h ⊢
    exact h
theorem am_VR.mono {ro : Nat → Nat} {as as' : List Nat} (hp : am_pf as as') {v c : Value} (h : am_VR ro as v c) : am_VR ro as' v c := by
  cases v with
  | ref k =>
    obtain ⟨a, h1, h2⟩ := h
    exact ⟨a, am_ad.mono hp h1, h2⟩
  | _ => exact h
theorem am_LR.mono {ro : Nat → Nat} {as as' : List Nat} (hp : am_pf as as') : ∀ {S st : List Value}, am_LR ro as S st → am_LR ro as' S st
  | [], _, h => h
  | _ :: _, _, h => by
    obtain ⟨c, st', h1, h2, h3⟩ := h
    exact ⟨c, st', h1, h2.mono hp, am_LR.mono hp h3⟩
theorem am_LL.mono {ro : Nat → Nat} {as as' : List Nat} (hp : am_pf as as') {nL : Nat} {L : am_L} {ls : Array Slot} (h : am_LL ro as nL L ls) : am_LL ro as' nL L ls :=
  ⟨h.1, h.2.1, fun i v hv => by
    obtain ⟨c, h1, h2⟩ := h.2.2 i v hv
    exact ⟨c, h1, h2.mono hp⟩⟩
theorem am_CR.mono {ro : Nat → Nat} {cA : Nat → ClassId} {as as' : List Nat} (hp : am_pf as as') {c : am_AC} {e : va_E} (h : am_CR ro cA as c e) : am_CR ro cA as' c e := by
  rcases c with ⟨t, xs⟩ | ⟨t, vs⟩
  · exact h
  · rcases h with ⟨h1, fs, h2, h3⟩ | ⟨h1, h2, f, h3, h4⟩
    · exact Or.inl ⟨h1, fs, h2, h3.mono hp⟩
    · exact Or.inr ⟨h1, h2, f, h3, fun j v hv => (h4 j v hv).mono hp⟩
theorem am_LR.cons {ro : Nat → Nat} {as : List Nat} {v c : Value} {S st : List Value} (h : am_VR ro as v c) (h2 : am_LR ro as S st) : am_LR ro as (v :: S) (c :: st) := ⟨c, st, rfl, h, h2⟩
theorem am_LR.int {ro : Nat → Nat} {as : List Nat} {x : Int32} {S st : List Value} (h2 : am_LR ro as S st) : am_LR ro as (.int x :: S) (.int x :: st) := ⟨_, st, rfl, rfl, h2⟩
theorem am_LR.long {ro : Nat → Nat} {as : List Nat} {x : Int64} {S st : List Value} (h2 : am_LR ro as S st) : am_LR ro as (.long x :: S) (.long x :: st) := ⟨_, st, rfl, rfl, h2⟩
theorem am_VR.cat {ro : Nat → Nat} {as : List Nat} {v c : Value} (h : am_VR ro as v c) : c.category = v.category := by
  cases v with
  | ref k =>
    obtain ⟨a, -, rfl⟩ := h
    rfl
  | int x => cases h; rfl
  | long x => cases h; rfl
  | null => cases h; rfl
  | _ => exact h.elim
theorem am_LR.len {ro : Nat → Nat} {as : List Nat} : ∀ {S st : List Value}, am_LR ro as S st → st.length = S.length
  | [], _, h => by cases h; rfl
  | _ :: _, _, h => by
    obtain ⟨c, st', rfl, h2, h3⟩ := h
    simp [am_LR.len h3]
theorem am_LR.cat {ro : Nat → Nat} {as : List Nat} : ∀ {S st : List Value}, am_LR ro as S st → (st.map fun v => v.category).sum = (S.map fun v => v.category).sum
  | [], _, h => by cases h; rfl
  | _ :: _, _, h => by
    obtain ⟨c, st', rfl, h2, h3⟩ := h
    simp only [List.map_cons, List.sum_cons]
    rw [h2.cat, am_LR.cat h3]
theorem am_LR.at {ro : Nat → Nat} {as : List Nat} : ∀ {S st : List Value} (_ : am_LR ro as S st) {k : Nat} {v : Value}, S[k]? = some v → ∃ c, st[k]? = some c ∧ am_VR ro as v c
  | [], _, _, _, _, h => by simp at h
  | _ :: _, _, hL, 0, _, h => by
    obtain ⟨c, st', rfl, h2, h3⟩ := hL
    simp only [List.getElem?_cons_zero, Option.some.injEq] at h
    subst h
    exact ⟨c, rfl, h2⟩
  | _ :: _, _, hL, k + 1, _, h => by
    obtain ⟨c, st', rfl, h2, h3⟩ := hL
    rw [List.getElem?_cons_succ] at h
    obtain ⟨c', q1, q2⟩ := am_LR.at h3 h
    exact ⟨c', by rw [List.getElem?_cons_succ]; exact q1, q2⟩
theorem am_LR.set {ro : Nat → Nat} {as : List Nat} : ∀ {S st : List Value} (_ : am_LR ro as S st) {k : Nat} {v c : Value}, am_VR ro as v c → am_LR ro as (S.set k v) (st.set k c)
  | [], _, h, _, _, _, _ => by cases h; rfl
  | _ :: _, _, hL, 0, _, _, hv => by
    obtain ⟨c, st', rfl, h2, h3⟩ := hL
    exact am_LR.cons hv h3
  | _ :: _, _, hL, k + 1, _, _, hv => by
    obtain ⟨c, st', rfl, h2, h3⟩ := hL
    exact am_LR.cons h2 (am_LR.set h3 hv)
theorem am_LR.app {ro : Nat → Nat} {as : List Nat} : ∀ {S T st : List Value}, am_LR ro as (S ++ T) st → ∃ a b, st = a ++ b ∧ am_LR ro as S a ∧ am_LR ro as T b
  | [], _, _, h => ⟨[], _, rfl, rfl, h⟩
  | _ :: _, _, _, h => by
    obtain ⟨c, st', rfl, h2, h3⟩ := h
    obtain ⟨a, b, rfl, q1, q2⟩ := am_LR.app h3
    exact ⟨c :: a, b, rfl, am_LR.cons h2 q1, q2⟩
theorem am_LR.join {ro : Nat → Nat} {as : List Nat} : ∀ {S T a b : List Value}, am_LR ro as S a → am_LR ro as T b → am_LR ro as (S ++ T) (a ++ b)
  | [], _, _, _, h, h2 => by cases h; exact h2
  | _ :: _, _, _, _, h, h2 => by
    obtain ⟨c, st', rfl, q1, q2⟩ := h
    exact am_LR.cons q1 (am_LR.join q2 h2)
theorem am_LR.rev {ro : Nat → Nat} {as : List Nat} : ∀ {S a : List Value}, am_LR ro as S a → am_LR ro as S.reverse a.reverse
  | [], _, h => by cases h; rfl
  | _ :: _, _, h => by
    obtain ⟨c, st', rfl, q1, q2⟩ := h
    rw [List.reverse_cons, List.reverse_cons]
    exact am_LR.join (am_LR.rev q2) (am_LR.cons q1 rfl)
def am_all (ls : Array Slot) : List (Nat × Value) := (List.range ls.size).filterMap (fun (i : Nat) => match (ls[i]? : Option Slot) with
  | some (Slot.val c) => some (i, c)
  | _ => none)
theorem am_all_mem {ls : Array Slot} {i : Nat} {c : Value} : (i, c) ∈ am_all ls ↔ ls[i]? = some (.val c) := by
  unfold am_all
  rw [List.mem_filterMap]
  constructor
  · rintro ⟨j, hj, h⟩
    split at h
    · next c' e => cases h; exact e
    · cases h
  · intro h
    refine ⟨i, List.mem_range.mpr (Array.getElem?_eq_some_iff.mp h).1, ?_⟩
    rw [h]
theorem am_LL.has {ro : Nat → Nat} {as : List Nat} {nL : Nat} {L : am_L} {ls : Array Slot} (h : am_LL ro as nL L ls) : lv_has ls nL (am_all ls) := ⟨h.1, h.2.1, fun q hq => am_all_mem.mp hq⟩
def am_nl (L : am_L) : Nat → Bool
  | 0 => true
  | i + 1 => match L[i]? with
    | some (some v) => v.category == 1
    | _ => true
theorem am_LL.set1 {ro : Nat → Nat} {as : List Nat} {nL : Nat} {L : am_L} {ls ls' : Array Slot} {i : Nat} {v c : Value} (h : am_LL ro as nL L ls) (hn : am_nl L i = true) (hv : am_VR ro as v c)
    (h' : lv_has ls' nL ((i, c) :: (am_all ls).filter (fun q => !(q.1 == i) && !(q.1 + 1 == i && q.2.category == 2)))) : am_LL ro as nL (L.set i (some v)) ls' := by
  refine ⟨h'.1, h'.2.1, fun j u hu => ?_⟩
  by_cases hj : j = i
  · subst hj
    have e : u = v := by
      by_cases hl : j < L.length
      · rw [List.getElem?_set_self hl] at hu
        cases hu; rfl
      · rw [List.getElem?_eq_none (by simp; omega)] at hu
        cases hu
    subst e
    exact ⟨c, h'.2.2 (j, c) List.mem_cons_self, hv⟩
  · rw [List.getElem?_set_ne (Ne.symm hj)] at hu
    obtain ⟨b, h1, h2⟩ := h.2.2 j u hu
    refine ⟨b, h'.2.2 (j, b) (List.mem_cons_of_mem _ (List.mem_filter.mpr ⟨am_all_mem.mpr h1, ?_⟩)), h2⟩
    have e1 : (j == i) = false := by simpa using hj
    by_cases hji : j + 1 = i
    · subst hji
      simp only [am_nl, hu] at hn
      have e2 : b.category = 1 := by rw [h2.cat]; simpa using hn
      simp [e1, e2]
    · have e2 : (j + 1 == i) = false := by simpa using hji
      simp [e1, e2]
theorem am_LL.set2 {ro : Nat → Nat} {as : List Nat} {nL : Nat} {L : am_L} {ls ls' : Array Slot} {i : Nat} {v c : Value} (h : am_LL ro as nL L ls) (hn : am_nl L i = true) (hv : am_VR ro as v c)
    (h' : lv_has ls' nL ((i, c) :: (am_all ls).filter (fun q => !(q.1 == i) && (!(q.1 == i + 1) && !(q.1 + 1 == i && q.2.category == 2))))) : am_LL ro as nL ((L.set i (some v)).set (i + 1) none) ls' := by
  refine ⟨h'.1, h'.2.1, fun j u hu => ?_⟩
  by_cases hj1 : j = i + 1
  · subst hj1
    by_cases hl : i + 1 < (L.set i (some v)).length
    · rw [List.getElem?_set_self hl] at hu
      cases hu
    · rw [List.getElem?_eq_none (by simp at hl ⊢; omega)] at hu
      cases hu
  rw [List.getElem?_set_ne (fun q => hj1 q.symm)] at hu
  by_cases hj : j = i
  · subst hj
    have e : u = v := by
      by_cases hl : j < L.length
      · rw [List.getElem?_set_self hl] at hu
        cases hu; rfl
      · rw [List.getElem?_eq_none (by simp; omega)] at hu
        cases hu
    subst e
    exact ⟨c, h'.2.2 (j, c) List.mem_cons_self, hv⟩
  · rw [List.getElem?_set_ne (Ne.symm hj)] at hu
    obtain ⟨b, h1, h2⟩ := h.2.2 j u hu
    refine ⟨b, h'.2.2 (j, b) (List.mem_cons_of_mem _ (List.mem_filter.mpr ⟨am_all_mem.mpr h1, ?_⟩)), h2⟩
    have e1 : (j == i) = false := by simpa using hj
    have e3 : (j == i + 1) = false := by simpa using hj1
    by_cases hji : j + 1 = i
    · subst hji
      simp only [am_nl, hu] at hn
      have e2 : b.category = 1 := by rw [h2.cat]; simpa using hn
      simp [e1, e2, e3]
    · have e2 : (j + 1 == i) = false := by simpa using hji
      simp [e1, e2, e3]
theorem am_as_set {ws : va_W} {k a : Nat} {e e' : va_E} (h : ws[k]? = some (a, e)) : am_as (ws.set k (a, e')) = am_as ws := by
  apply List.ext_getElem?
  intro i
  rw [List.getElem?_map, List.getElem?_map]
  by_cases hi : i = k
  · subst hi
    rw [List.getElem?_set_self (List.getElem?_eq_some_iff.mp h).1, h]
    rfl
  · rw [List.getElem?_set_ne (Ne.symm hi)]
theorem am_HR.set {ro : Nat → Nat} {cA : Nat → ClassId} {n : Nat} {h : am_H} {ws : va_W} (H : am_HR ro cA n h ws) {k a : Nat} {e e' : va_E} {c : am_AC} (hk : ws[k]? = some (a, e)) (hc : am_CR ro cA (am_as ws) c e') : am_HR ro cA n (am_up h k c) (ws.set k (a, e')) := by
  refine ⟨by rw [List.length_set]; exact H.1, H.2.1, fun j x hx => ?_⟩
  rw [am_as_set hk]
  by_cases hj : j = k
  · subst hj
    simp only [am_up, if_true] at hx
    cases hx
    exact ⟨a, e', List.getElem?_set_self (List.getElem?_eq_some_iff.mp hk).1, hc⟩
  · simp only [am_up, if_neg hj] at hx
    obtain ⟨b, f, h1, h2⟩ := H.2.2 j x hx
    exact ⟨b, f, by rw [List.getElem?_set_ne (Ne.symm hj)]; exact h1, h2⟩
theorem am_HR.push {ro : Nat → Nat} {cA : Nat → ClassId} {n : Nat} {h : am_H} {ws : va_W} (H : am_HR ro cA n h ws) (hn : n < 1000000) {q : Nat} {e : va_E} {c : am_AC} (hc : am_CR ro cA (am_as (ws ++ [(q, e)])) c e) : am_HR ro cA (n + 1) (am_up h n c) (ws ++ [(q, e)]) := by
  have hp : am_pf (am_as ws) (am_as (ws ++ [(q, e)])) := by
    have e1 : am_as (ws ++ [(q, e)]) = am_as ws ++ [q] := by simp [am_as]
    rw [e1]
    exact am_pf.app _ _
  refine ⟨by simp [H.1], hn, fun j x hx => ?_⟩
  by_cases hj : j = n
  · subst hj
    simp only [am_up, if_true] at hx
    cases hx
    exact ⟨q, e, by rw [← H.1]; simp, hc⟩
  · simp only [am_up, if_neg hj] at hx
    obtain ⟨b, f, h1, h2⟩ := H.2.2 j x hx
    exact ⟨b, f, by rw [List.getElem?_append_left (List.getElem?_eq_some_iff.mp h1).1]; exact h1, h2.mono hp⟩
theorem am_pf.push {ws : va_W} {q : Nat} {e : va_E} : am_pf (am_as ws) (am_as (ws ++ [(q, e)])) := by
  have e1 : am_as (ws ++ [(q, e)]) = am_as ws ++ [q] := by simp [am_as]
  rw [e1]
  exact am_pf.app _ _
theorem am_at {ro : Nat → Nat} {cA : Nat → ClassId} {n : Nat} {h : am_H} {ws : va_W} (H : am_HR ro cA n h ws) {k : Nat} {c : am_AC} (hc : h k = some c) : ∃ (a : Nat) (e : va_E), ws[k]? = some (a, e) ∧ am_CR ro cA (am_as ws) c e ∧ am_ad ro (am_as ws) k = some a := by
  obtain ⟨a, e, h1, h2⟩ := H.2.2 k c hc
  refine ⟨a, e, h1, h2, ?_⟩
  have hk : k < ws.length := (List.getElem?_eq_some_iff.mp h1).1
  have hk2 : k < 1000000 := by have h3 := H.1; have h4 := H.2.1; omega
  unfold am_ad
  rw [if_pos hk2, List.getElem?_map, h1]
  rfl
section AMP
variable {X : List Int32} {M : am_MD} {d rc rs pc npc : Nat} {L L' : am_L} {S S' : List Value} {n : Nat} {h : am_H} {Q : am_Q}
theorem aw_pure (k : AW X M d rc rs npc L S' n h Q) (hs : ∀ {ro : Nat → Nat} {as : List Nat} {p : Program} {l : Launch} {e : Env} {R : Room} {s : State} {m : MethodId} {args : Array Value} {below : List Frame} {meth : Method} {c : Code} {H : Heap} {locs : List Loc} {cells slots : Nat} {QQ : State → Prop} {ls : Array Slot} {st : List Value}, p.tables.exec = Jvm.exec → c.code = M.2.1 → s.vm.findClass M.1.cls = some m.cls → (∀ w ∈ am_gw, w.before args s = true) → am_LL ro as M.2.2.1 L ls → am_LR ro as S st → ∃ st', am_LR ro as S' st' ∧ (W p l e R s m args below meth c H locs cells slots QQ (F0 m npc ls st') → W p l e R s m args below meth c H locs cells slots QQ (F0 m pc ls st))) : AW X M d rc rs pc L S n h Q := by
  intro n0 ro D cA p l e R s m args below meth c C hf hl ws H locs cells slots ls st QQ hW hL hS hc hs2 hQ
  obtain ⟨st', h1, h2⟩ := hs (l := l) (e := e) (R := R) (below := below) (meth := meth) (H := H) (locs := locs) (cells := cells) (slots := slots) (QQ := QQ) C.1 C.2.1 C.2.2.2.2.1 C.2.2.2.2.2.1 hL hS
  exact h2 (k n0 ro D cA p l e R s m args below meth c C hf hl ws H locs cells slots ls st' QQ hW hL h1 hc hs2 hQ)
theorem aw_store1 {i : Nat} {v : Value} (k : AW X M d rc rs npc (L.set i (some v)) S n h Q) (hn : am_nl L i = true) (hs : ∀ {ro : Nat → Nat} {as : List Nat} {p : Program} {l : Launch} {e : Env} {R : Room} {s : State} {m : MethodId} {args : Array Value} {below : List Frame} {meth : Method} {c : Code} {H : Heap} {locs : List Loc} {cells slots : Nat} {QQ : State → Prop} {ls : Array Slot} {st : List Value} {cv : Value}, p.tables.exec = Jvm.exec → c.code = M.2.1 → lv_has ls M.2.2.1 (am_all ls) → am_VR ro as v cv → (∀ ls', lv_has ls' M.2.2.1 ((i, cv) :: (am_all ls).filter (fun q => !(q.1 == i) && !(q.1 + 1 == i && q.2.category == 2))) → W p l e R s m args below meth c H locs cells slots QQ (F0 m npc ls' st)) → W p l e R s m args below meth c H locs cells slots QQ (F0 m pc ls (cv :: st))) : AW X M d rc rs pc L (v :: S) n h Q := by
  intro n0 ro D cA p l e R s m args below meth c C hf hl ws H locs cells slots ls st QQ hW hL hS hc hs2 hQ
  obtain ⟨cv, st, rfl, hv, hS⟩ := hS
  exact hs C.1 C.2.1 hL.has hv (fun ls' h' => k n0 ro D cA p l e R s m args below meth c C hf hl ws H locs cells slots ls' st QQ hW (hL.set1 hn hv h') hS hc hs2 hQ)
theorem aw_mono {Q' : am_Q} (k : AW X M d rc rs pc L S n h Q) (hq : ∀ r n' h', Q r n' h' → Q' r n' h') : AW X M d rc rs pc L S n h Q' := by
  intro n0 ro D cA p l e R s m args below meth c C hf hl ws H locs cells slots ls st QQ hW hL hS hc hs2 hQ
  exact k n0 ro D cA p l e R s m args below meth c C hf hl ws H locs cells slots ls st QQ hW hL hS hc hs2 (fun r n' h' ws' H' locs' cells' slots' pc' ls' st' q => hQ r n' h' ws' H' locs' cells' slots' pc' ls' st' (hq _ _ _ q))
theorem aw_pc (e : npc = pc) (k : AW X M d rc rs npc L S n h Q) : AW X M d rc rs pc L S n h Q := e ▸ k
theorem aw_locs (e : L' = L) (k : AW X M d rc rs pc L' S n h Q) : AW X M d rc rs pc L S n h Q := e ▸ k
theorem aw_iconst {z : Int} {v : Int32} (hv : Int32.ofInt z = v) (hd : decode M.2.1 pc = .ok (.iconst z, 1)) (hn : pc + 1 = npc) (k : AW X M d rc rs npc L (.int v :: S) n h Q) : AW X M d rc rs pc L (S) n h Q := by
  subst hn
  refine aw_pure k (fun hx hb ho ht hL hS => ?_)
  exact ⟨_, hS.int, fun q => lv_iconst hx hb hd hv q⟩
theorem aw_bipush {z : Int} {v : Int32} (hv : (Int8.ofInt z).toInt32 = v) (hd : decode M.2.1 pc = .ok (.bipush z, 2)) (hn : pc + 2 = npc) (k : AW X M d rc rs npc L (.int v :: S) n h Q) : AW X M d rc rs pc L (S) n h Q := by
  subst hn
  refine aw_pure k (fun hx hb ho ht hL hS => ?_)
  exact ⟨_, hS.int, fun q => lv_bipush hx hb hd hv q⟩
theorem aw_sipush {z : Int} {v : Int32} (hv : (Int16.ofInt z).toInt32 = v) (hd : decode M.2.1 pc = .ok (.sipush z, 3)) (hn : pc + 3 = npc) (k : AW X M d rc rs npc L (.int v :: S) n h Q) : AW X M d rc rs pc L (S) n h Q := by
  subst hn
  refine aw_pure k (fun hx hb ho ht hL hS => ?_)
  exact ⟨_, hS.int, fun q => lv_sipush hx hb hd hv q⟩
theorem aw_lconst {z : Fin 2} {v : Int64} (hv : Int64.ofNat (z : Nat) = v) (hd : decode M.2.1 pc = .ok (.lconst z, 1)) (hn : pc + 1 = npc) (k : AW X M d rc rs npc L (.long v :: S) n h Q) : AW X M d rc rs pc L (S) n h Q := by
  subst hn
  refine aw_pure k (fun hx hb ho ht hL hS => ?_)
  exact ⟨_, hS.long, fun q => lv_lconst hx hb hd hv q⟩
theorem aw_null (hd : decode M.2.1 pc = .ok (.aconst_null, 1)) (hn : pc + 1 = npc) (k : AW X M d rc rs npc L (.null :: S) n h Q) : AW X M d rc rs pc L (S) n h Q := by
  subst hn
  refine aw_pure k (fun hx hb ho ht hL hS => ?_)
  exact ⟨_, am_LR.cons (v := .null) rfl hS, fun q => lv_null hx hb hd q⟩
theorem aw_ldc {idx : Nat} {v : Int32} (hk : Cond.constant M.1.cls idx v ∈ am_gw) (hd : decode M.2.1 pc = .ok (.ldc idx, 2)) (hn : pc + 2 = npc) (k : AW X M d rc rs npc L (.int v :: S) n h Q) : AW X M d rc rs pc L (S) n h Q := by
  subst hn
  refine aw_pure k (fun hx hb ho ht hL hS => ?_)
  exact ⟨_, hS.int, fun q => lv_ldc hx hb ho (ht _ hk) hd q⟩
theorem aw_ldcw {idx : Nat} {v : Int32} (hk : Cond.constant M.1.cls idx v ∈ am_gw) (hd : decode M.2.1 pc = .ok (.ldc_w idx, 3)) (hn : pc + 3 = npc) (k : AW X M d rc rs npc L (.int v :: S) n h Q) : AW X M d rc rs pc L (S) n h Q := by
  subst hn
  refine aw_pure k (fun hx hb ho ht hL hS => ?_)
  exact ⟨_, hS.int, fun q => lv_ldcw hx hb ho (ht _ hk) hd q⟩
theorem aw_iload_n {j : Fin 4} {v : Int32} (hv : L[(j : Nat)]? = some (some (.int v))) (hd : decode M.2.1 pc = .ok (.iload_n j, 1)) (hn : pc + 1 = npc) (k : AW X M d rc rs npc L (.int v :: S) n h Q) : AW X M d rc rs pc L (S) n h Q := by
  subst hn
  refine aw_pure k (fun hx hb ho ht hL hS => ?_)
  obtain ⟨c, h1, rfl⟩ := hL.2.2 _ _ hv
  exact ⟨_, hS.int, fun q => lv_iload_n hx hb hd rfl h1 q⟩
theorem aw_iload {j : Nat} {v : Int32} (hv : L[j]? = some (some (.int v))) (hd : decode M.2.1 pc = .ok (.iload j, 2)) (hn : pc + 2 = npc) (k : AW X M d rc rs npc L (.int v :: S) n h Q) : AW X M d rc rs pc L (S) n h Q := by
  subst hn
  refine aw_pure k (fun hx hb ho ht hL hS => ?_)
  obtain ⟨c, h1, rfl⟩ := hL.2.2 _ _ hv
  exact ⟨_, hS.int, fun q => lv_iload hx hb hd h1 q⟩
theorem aw_lload_n {j : Fin 4} {v : Int64} (hv : L[(j : Nat)]? = some (some (.long v))) (hd : decode M.2.1 pc = .ok (.lload_n j, 1)) (hn : pc + 1 = npc) (k : AW X M d rc rs npc L (.long v :: S) n h Q) : AW X M d rc rs pc L (S) n h Q := by
  subst hn
  refine aw_pure k (fun hx hb ho ht hL hS => ?_)
  obtain ⟨c, h1, rfl⟩ := hL.2.2 _ _ hv
  exact ⟨_, hS.long, fun q => lv_lload_n hx hb hd rfl h1 q⟩
theorem aw_lload {j : Nat} {v : Int64} (hv : L[j]? = some (some (.long v))) (hd : decode M.2.1 pc = .ok (.lload j, 2)) (hn : pc + 2 = npc) (k : AW X M d rc rs npc L (.long v :: S) n h Q) : AW X M d rc rs pc L (S) n h Q := by
  subst hn
  refine aw_pure k (fun hx hb ho ht hL hS => ?_)
  obtain ⟨c, h1, rfl⟩ := hL.2.2 _ _ hv
  exact ⟨_, hS.long, fun q => lv_lload hx hb hd h1 q⟩
theorem aw_aload_n {j : Fin 4} {v : Nat} (hv : L[(j : Nat)]? = some (some (.ref v))) (hd : decode M.2.1 pc = .ok (.aload_n j, 1)) (hn : pc + 1 = npc) (k : AW X M d rc rs npc L (.ref v :: S) n h Q) : AW X M d rc rs pc L (S) n h Q := by
  subst hn
  refine aw_pure k (fun hx hb ho ht hL hS => ?_)
  obtain ⟨c, h1, a, h2, rfl⟩ := hL.2.2 _ _ hv
  exact ⟨_, am_LR.cons (v := .ref v) ⟨a, h2, rfl⟩ hS, fun q => lv_aload_n hx hb hd rfl h1 q⟩
theorem aw_aload {j : Nat} {v : Nat} (hv : L[j]? = some (some (.ref v))) (hd : decode M.2.1 pc = .ok (.aload j, 2)) (hn : pc + 2 = npc) (k : AW X M d rc rs npc L (.ref v :: S) n h Q) : AW X M d rc rs pc L (S) n h Q := by
  subst hn
  refine aw_pure k (fun hx hb ho ht hL hS => ?_)
  obtain ⟨c, h1, a, h2, rfl⟩ := hL.2.2 _ _ hv
  exact ⟨_, am_LR.cons (v := .ref v) ⟨a, h2, rfl⟩ hS, fun q => lv_aload hx hb hd h1 q⟩
theorem aw_aload_nN {j : Fin 4} (hv : L[(j : Nat)]? = some (some .null)) (hd : decode M.2.1 pc = .ok (.aload_n j, 1)) (hn : pc + 1 = npc) (k : AW X M d rc rs npc L (.null :: S) n h Q) : AW X M d rc rs pc L (S) n h Q := by
  subst hn
  refine aw_pure k (fun hx hb ho ht hL hS => ?_)
  obtain ⟨c, h1, rfl⟩ := hL.2.2 _ _ hv
  exact ⟨_, am_LR.cons (v := .null) rfl hS, fun q => lv_aload_nN hx hb hd rfl h1 q⟩
theorem aw_aloadN {j : Nat} (hv : L[j]? = some (some .null)) (hd : decode M.2.1 pc = .ok (.aload j, 2)) (hn : pc + 2 = npc) (k : AW X M d rc rs npc L (.null :: S) n h Q) : AW X M d rc rs pc L (S) n h Q := by
  subst hn
  refine aw_pure k (fun hx hb ho ht hL hS => ?_)
  obtain ⟨c, h1, rfl⟩ := hL.2.2 _ _ hv
  exact ⟨_, am_LR.cons (v := .null) rfl hS, fun q => lv_aloadN hx hb hd h1 q⟩
theorem aw_iadd {x y : Int32} (hd : decode M.2.1 pc = .ok (.iadd, 1)) (hn : pc + 1 = npc) (k : AW X M d rc rs npc L (.int (x + y) :: S) n h Q) : AW X M d rc rs pc L (.int y :: .int x :: S) n h Q := by
  subst hn
  refine aw_pure k (fun hx hb ho ht hL hS => ?_)
  obtain ⟨_, st, rfl, rfl, _, st, rfl, rfl, hS⟩ := hS
  exact ⟨_, hS.int, fun q => lv_iadd hx hb hd q⟩
theorem aw_isub {x y : Int32} (hd : decode M.2.1 pc = .ok (.isub, 1)) (hn : pc + 1 = npc) (k : AW X M d rc rs npc L (.int (x - y) :: S) n h Q) : AW X M d rc rs pc L (.int y :: .int x :: S) n h Q := by
  subst hn
  refine aw_pure k (fun hx hb ho ht hL hS => ?_)
  obtain ⟨_, st, rfl, rfl, _, st, rfl, rfl, hS⟩ := hS
  exact ⟨_, hS.int, fun q => lv_isub hx hb hd q⟩
theorem aw_imul {x y : Int32} (hd : decode M.2.1 pc = .ok (.imul, 1)) (hn : pc + 1 = npc) (k : AW X M d rc rs npc L (.int (x * y) :: S) n h Q) : AW X M d rc rs pc L (.int y :: .int x :: S) n h Q := by
  subst hn
  refine aw_pure k (fun hx hb ho ht hL hS => ?_)
  obtain ⟨_, st, rfl, rfl, _, st, rfl, rfl, hS⟩ := hS
  exact ⟨_, hS.int, fun q => lv_imul hx hb hd q⟩
theorem aw_iand {x y : Int32} (hd : decode M.2.1 pc = .ok (.iand, 1)) (hn : pc + 1 = npc) (k : AW X M d rc rs npc L (.int (x &&& y) :: S) n h Q) : AW X M d rc rs pc L (.int y :: .int x :: S) n h Q := by
  subst hn
  refine aw_pure k (fun hx hb ho ht hL hS => ?_)
  obtain ⟨_, st, rfl, rfl, _, st, rfl, rfl, hS⟩ := hS
  exact ⟨_, hS.int, fun q => lv_iand hx hb hd q⟩
theorem aw_ior {x y : Int32} (hd : decode M.2.1 pc = .ok (.ior, 1)) (hn : pc + 1 = npc) (k : AW X M d rc rs npc L (.int (x ||| y) :: S) n h Q) : AW X M d rc rs pc L (.int y :: .int x :: S) n h Q := by
  subst hn
  refine aw_pure k (fun hx hb ho ht hL hS => ?_)
  obtain ⟨_, st, rfl, rfl, _, st, rfl, rfl, hS⟩ := hS
  exact ⟨_, hS.int, fun q => lv_ior hx hb hd q⟩
theorem aw_ixor {x y : Int32} (hd : decode M.2.1 pc = .ok (.ixor, 1)) (hn : pc + 1 = npc) (k : AW X M d rc rs npc L (.int (x ^^^ y) :: S) n h Q) : AW X M d rc rs pc L (.int y :: .int x :: S) n h Q := by
  subst hn
  refine aw_pure k (fun hx hb ho ht hL hS => ?_)
  obtain ⟨_, st, rfl, rfl, _, st, rfl, rfl, hS⟩ := hS
  exact ⟨_, hS.int, fun q => lv_ixor hx hb hd q⟩
theorem aw_idiv {x y : Int32} (hne : ¬ y = 0) (hd : decode M.2.1 pc = .ok (.idiv, 1)) (hn : pc + 1 = npc) (k : AW X M d rc rs npc L (.int (x / y) :: S) n h Q) : AW X M d rc rs pc L (.int y :: .int x :: S) n h Q := by
  subst hn
  refine aw_pure k (fun hx hb ho ht hL hS => ?_)
  obtain ⟨_, st, rfl, rfl, _, st, rfl, rfl, hS⟩ := hS
  exact ⟨_, hS.int, fun q => lv_idiv hx hb hd hne q⟩
theorem aw_irem {x y : Int32} (hne : ¬ y = 0) (hd : decode M.2.1 pc = .ok (.irem, 1)) (hn : pc + 1 = npc) (k : AW X M d rc rs npc L (.int (x - x / y * y) :: S) n h Q) : AW X M d rc rs pc L (.int y :: .int x :: S) n h Q := by
  subst hn
  refine aw_pure k (fun hx hb ho ht hL hS => ?_)
  obtain ⟨_, st, rfl, rfl, _, st, rfl, rfl, hS⟩ := hS
  exact ⟨_, hS.int, fun q => lv_irem hx hb hd hne q⟩
theorem aw_ishl {x y : Int32} (hd : decode M.2.1 pc = .ok (.ishl, 1)) (hn : pc + 1 = npc) (k : AW X M d rc rs npc L (.int (x <<< (y &&& 31)) :: S) n h Q) : AW X M d rc rs pc L (.int y :: .int x :: S) n h Q := by
  subst hn
  refine aw_pure k (fun hx hb ho ht hL hS => ?_)
  obtain ⟨_, st, rfl, rfl, _, st, rfl, rfl, hS⟩ := hS
  exact ⟨_, hS.int, fun q => lv_ishl hx hb hd q⟩
theorem aw_ishr {x y : Int32} (hd : decode M.2.1 pc = .ok (.ishr, 1)) (hn : pc + 1 = npc) (k : AW X M d rc rs npc L (.int (x >>> (y &&& 31)) :: S) n h Q) : AW X M d rc rs pc L (.int y :: .int x :: S) n h Q := by
  subst hn
  refine aw_pure k (fun hx hb ho ht hL hS => ?_)
  obtain ⟨_, st, rfl, rfl, _, st, rfl, rfl, hS⟩ := hS
  exact ⟨_, hS.int, fun q => lv_ishr hx hb hd q⟩
theorem aw_iushr {x y : Int32} (hd : decode M.2.1 pc = .ok (.iushr, 1)) (hn : pc + 1 = npc) (k : AW X M d rc rs npc L (.int ((x.toUInt32 >>> (y.toUInt32 &&& Int32.toUInt32 31)).toInt32) :: S) n h Q) : AW X M d rc rs pc L (.int y :: .int x :: S) n h Q := by
  subst hn
  refine aw_pure k (fun hx hb ho ht hL hS => ?_)
  obtain ⟨_, st, rfl, rfl, _, st, rfl, rfl, hS⟩ := hS
  exact ⟨_, hS.int, fun q => lv_iushr hx hb hd rfl q⟩
theorem aw_ladd {x y : Int64} (hd : decode M.2.1 pc = .ok (.ladd, 1)) (hn : pc + 1 = npc) (k : AW X M d rc rs npc L (.long (x + y) :: S) n h Q) : AW X M d rc rs pc L (.long y :: .long x :: S) n h Q := by
  subst hn
  refine aw_pure k (fun hx hb ho ht hL hS => ?_)
  obtain ⟨_, st, rfl, rfl, _, st, rfl, rfl, hS⟩ := hS
  exact ⟨_, hS.long, fun q => lv_ladd hx hb hd q⟩
theorem aw_lsub {x y : Int64} (hd : decode M.2.1 pc = .ok (.lsub, 1)) (hn : pc + 1 = npc) (k : AW X M d rc rs npc L (.long (x - y) :: S) n h Q) : AW X M d rc rs pc L (.long y :: .long x :: S) n h Q := by
  subst hn
  refine aw_pure k (fun hx hb ho ht hL hS => ?_)
  obtain ⟨_, st, rfl, rfl, _, st, rfl, rfl, hS⟩ := hS
  exact ⟨_, hS.long, fun q => lv_lsub hx hb hd q⟩
theorem aw_lcmp {x y : Int64} (hd : decode M.2.1 pc = .ok (.lcmp, 1)) (hn : pc + 1 = npc) (k : AW X M d rc rs npc L (.int (lg_cmp x y) :: S) n h Q) : AW X M d rc rs pc L (.long y :: .long x :: S) n h Q := by
  subst hn
  refine aw_pure k (fun hx hb ho ht hL hS => ?_)
  obtain ⟨_, st, rfl, rfl, _, st, rfl, rfl, hS⟩ := hS
  exact ⟨_, hS.int, fun q => W.lcmp hx hb hd q⟩
theorem aw_ineg {x : Int32} (hd : decode M.2.1 pc = .ok (.ineg, 1)) (hn : pc + 1 = npc) (k : AW X M d rc rs npc L (.int (-x) :: S) n h Q) : AW X M d rc rs pc L (.int x :: S) n h Q := by
  subst hn
  refine aw_pure k (fun hx hb ho ht hL hS => ?_)
  obtain ⟨_, st, rfl, rfl, hS⟩ := hS
  exact ⟨_, hS.int, fun q => lv_ineg hx hb hd q⟩
theorem aw_lneg {x : Int64} (hd : decode M.2.1 pc = .ok (.lneg, 1)) (hn : pc + 1 = npc) (k : AW X M d rc rs npc L (.long (-x) :: S) n h Q) : AW X M d rc rs pc L (.long x :: S) n h Q := by
  subst hn
  refine aw_pure k (fun hx hb ho ht hL hS => ?_)
  obtain ⟨_, st, rfl, rfl, hS⟩ := hS
  exact ⟨_, hS.long, fun q => lv_lneg hx hb hd q⟩
theorem aw_i2l {x : Int32} (hd : decode M.2.1 pc = .ok (.i2l, 1)) (hn : pc + 1 = npc) (k : AW X M d rc rs npc L (.long (x.toInt64) :: S) n h Q) : AW X M d rc rs pc L (.int x :: S) n h Q := by
  subst hn
  refine aw_pure k (fun hx hb ho ht hL hS => ?_)
  obtain ⟨_, st, rfl, rfl, hS⟩ := hS
  exact ⟨_, hS.long, fun q => lv_i2l hx hb hd rfl q⟩
theorem aw_l2i {x : Int64} (hd : decode M.2.1 pc = .ok (.l2i, 1)) (hn : pc + 1 = npc) (k : AW X M d rc rs npc L (.int (x.toInt32) :: S) n h Q) : AW X M d rc rs pc L (.long x :: S) n h Q := by
  subst hn
  refine aw_pure k (fun hx hb ho ht hL hS => ?_)
  obtain ⟨_, st, rfl, rfl, hS⟩ := hS
  exact ⟨_, hS.int, fun q => lv_l2i hx hb hd rfl q⟩
theorem aw_i2s {x : Int32} (hd : decode M.2.1 pc = .ok (.i2s, 1)) (hn : pc + 1 = npc) (k : AW X M d rc rs npc L (.int (x.toInt16.toInt32) :: S) n h Q) : AW X M d rc rs pc L (.int x :: S) n h Q := by
  subst hn
  refine aw_pure k (fun hx hb ho ht hL hS => ?_)
  obtain ⟨_, st, rfl, rfl, hS⟩ := hS
  exact ⟨_, hS.int, fun q => lv_i2s hx hb hd rfl q⟩
theorem aw_i2b {x : Int32} (hd : decode M.2.1 pc = .ok (.i2b, 1)) (hn : pc + 1 = npc) (k : AW X M d rc rs npc L (.int (x.toInt8.toInt32) :: S) n h Q) : AW X M d rc rs pc L (.int x :: S) n h Q := by
  subst hn
  refine aw_pure k (fun hx hb ho ht hL hS => ?_)
  obtain ⟨_, st, rfl, rfl, hS⟩ := hS
  exact ⟨_, hS.int, fun q => lv_i2b hx hb hd rfl q⟩
theorem aw_i2c {x : Int32} (hd : decode M.2.1 pc = .ok (.i2c, 1)) (hn : pc + 1 = npc) (k : AW X M d rc rs npc L (.int ((x.toUInt32 % 65536).toInt32) :: S) n h Q) : AW X M d rc rs pc L (.int x :: S) n h Q := by
  subst hn
  refine aw_pure k (fun hx hb ho ht hL hS => ?_)
  obtain ⟨_, st, rfl, rfl, hS⟩ := hS
  exact ⟨_, hS.int, fun q => lv_i2c hx hb hd rfl q⟩
theorem aw_pop {v : Value} (hv : v.category = 1) (hd : decode M.2.1 pc = .ok (.pop, 1)) (hn : pc + 1 = npc) (k : AW X M d rc rs npc L (S) n h Q) : AW X M d rc rs pc L (v :: S) n h Q := by
  subst hn
  refine aw_pure k (fun hx hb ho ht hL hS => ?_)
  obtain ⟨c, st, rfl, h1, hS⟩ := hS
  exact ⟨_, hS, fun q => lv_pop hx hb hd (by rw [h1.cat]; exact hv) q⟩
theorem aw_dup {v : Value} (hv : v.category = 1) (hd : decode M.2.1 pc = .ok (.dup, 1)) (hn : pc + 1 = npc) (k : AW X M d rc rs npc L (v :: v :: S) n h Q) : AW X M d rc rs pc L (v :: S) n h Q := by
  subst hn
  refine aw_pure k (fun hx hb ho ht hL hS => ?_)
  obtain ⟨c, st, rfl, h1, hS⟩ := hS
  exact ⟨_, (hS.cons h1).cons h1, fun q => lv_dup hx hb hd (by rw [h1.cat]; exact hv) q⟩
theorem aw_dup_x1 {v u : Value} (hv : v.category = 1) (hu : u.category = 1) (hd : decode M.2.1 pc = .ok (.dup_x1, 1)) (hn : pc + 1 = npc) (k : AW X M d rc rs npc L (v :: u :: v :: S) n h Q) : AW X M d rc rs pc L (v :: u :: S) n h Q := by
  subst hn
  refine aw_pure k (fun hx hb ho ht hL hS => ?_)
  obtain ⟨c, st, rfl, h1, c2, st, rfl, h2, hS⟩ := hS
  exact ⟨_, ((hS.cons h1).cons h2).cons h1, fun q => lv_dup_x1 hx hb hd (by rw [h1.cat]; exact hv) (by rw [h2.cat]; exact hu) q⟩
theorem aw_dup_x2 {v u t : Value} (hv : v.category = 1) (hu : u.category = 1) (ht9 : t.category = 1) (hd : decode M.2.1 pc = .ok (.dup_x2, 1)) (hn : pc + 1 = npc) (k : AW X M d rc rs npc L (v :: u :: t :: v :: S) n h Q) : AW X M d rc rs pc L (v :: u :: t :: S) n h Q := by
  subst hn
  refine aw_pure k (fun hx hb ho ht hL hS => ?_)
  obtain ⟨c, st, rfl, h1, c2, st, rfl, h2, c3, st, rfl, h3, hS⟩ := hS
  exact ⟨_, (((hS.cons h1).cons h3).cons h2).cons h1, fun q => lv_dup_x2 hx hb hd (by rw [h1.cat]; exact hv) (by rw [h2.cat]; exact hu) (by rw [h3.cat]; exact ht9) q⟩
theorem aw_dup2 {v u : Value} (hv : v.category = 1) (hu : u.category = 1) (hd : decode M.2.1 pc = .ok (.dup2, 1)) (hn : pc + 1 = npc) (k : AW X M d rc rs npc L (v :: u :: v :: u :: S) n h Q) : AW X M d rc rs pc L (v :: u :: S) n h Q := by
  subst hn
  refine aw_pure k (fun hx hb ho ht hL hS => ?_)
  obtain ⟨c, st, rfl, h1, c2, st, rfl, h2, hS⟩ := hS
  exact ⟨_, (((hS.cons h2).cons h1).cons h2).cons h1, fun q => lv_dup2_11 hx hb hd (by rw [h1.cat]; exact hv) (by rw [h2.cat]; exact hu) q⟩
theorem aw_goto {off : Int} (hd : decode M.2.1 pc = .ok (.goto off, 3)) (hn : (pc : Int) + off = (npc : Int)) (k : AW X M d rc rs npc L S n h Q) : AW X M d rc rs pc L S n h Q := by
  refine aw_pure k (fun hx hb ho ht hL hS => ?_)
  exact ⟨_, hS, fun q => lv_goto hx hb hd hn q⟩
theorem aw_if_eq {x : Int32} {off : Int} {tgt : Nat} (hd : decode M.2.1 pc = .ok (.ifCond .eq off, 3)) (hn : pc + 3 = npc) (ht : (pc : Int) + off = (tgt : Int)) (kt : x = 0 → AW X M d rc rs tgt L S n h Q) (kf : ¬ x = 0 → AW X M d rc rs npc L S n h Q) : AW X M d rc rs pc L (.int x :: S) n h Q := by
  subst hn
  intro n0 ro D cA p l e R s m args below meth c C hf hl ws H locs cells slots ls st QQ hW hL hS hc hs2 hQ
  obtain ⟨_, st, rfl, rfl, hS⟩ := hS
  exact lv_if_eq C.1 C.2.1 hd ht (fun q => kt q n0 ro D cA p l e R s m args below meth c C hf hl ws H locs cells slots ls st QQ hW hL hS hc hs2 hQ) (fun q => kf q n0 ro D cA p l e R s m args below meth c C hf hl ws H locs cells slots ls st QQ hW hL hS hc hs2 hQ)
theorem aw_icmp_eq {x y : Int32} {off : Int} {tgt : Nat} (hd : decode M.2.1 pc = .ok (.if_icmp .eq off, 3)) (hn : pc + 3 = npc) (ht : (pc : Int) + off = (tgt : Int)) (kt : x = y → AW X M d rc rs tgt L S n h Q) (kf : ¬ x = y → AW X M d rc rs npc L S n h Q) : AW X M d rc rs pc L (.int y :: .int x :: S) n h Q := by
  subst hn
  intro n0 ro D cA p l e R s m args below meth c C hf hl ws H locs cells slots ls st QQ hW hL hS hc hs2 hQ
  obtain ⟨_, st, rfl, rfl, _, st, rfl, rfl, hS⟩ := hS
  exact lv_icmp_eq C.1 C.2.1 hd ht (fun q => kt q n0 ro D cA p l e R s m args below meth c C hf hl ws H locs cells slots ls st QQ hW hL hS hc hs2 hQ) (fun q => kf q n0 ro D cA p l e R s m args below meth c C hf hl ws H locs cells slots ls st QQ hW hL hS hc hs2 hQ)
theorem aw_if_lt {x : Int32} {off : Int} {tgt : Nat} (hd : decode M.2.1 pc = .ok (.ifCond .lt off, 3)) (hn : pc + 3 = npc) (ht : (pc : Int) + off = (tgt : Int)) (kt : x < 0 → AW X M d rc rs tgt L S n h Q) (kf : ¬ x < 0 → AW X M d rc rs npc L S n h Q) : AW X M d rc rs pc L (.int x :: S) n h Q := by
  subst hn
  intro n0 ro D cA p l e R s m args below meth c C hf hl ws H locs cells slots ls st QQ hW hL hS hc hs2 hQ
  obtain ⟨_, st, rfl, rfl, hS⟩ := hS
  exact lv_if_lt C.1 C.2.1 hd ht (fun q => kt q n0 ro D cA p l e R s m args below meth c C hf hl ws H locs cells slots ls st QQ hW hL hS hc hs2 hQ) (fun q => kf q n0 ro D cA p l e R s m args below meth c C hf hl ws H locs cells slots ls st QQ hW hL hS hc hs2 hQ)
theorem aw_icmp_lt {x y : Int32} {off : Int} {tgt : Nat} (hd : decode M.2.1 pc = .ok (.if_icmp .lt off, 3)) (hn : pc + 3 = npc) (ht : (pc : Int) + off = (tgt : Int)) (kt : x < y → AW X M d rc rs tgt L S n h Q) (kf : ¬ x < y → AW X M d rc rs npc L S n h Q) : AW X M d rc rs pc L (.int y :: .int x :: S) n h Q := by
  subst hn
  intro n0 ro D cA p l e R s m args below meth c C hf hl ws H locs cells slots ls st QQ hW hL hS hc hs2 hQ
  obtain ⟨_, st, rfl, rfl, _, st, rfl, rfl, hS⟩ := hS
  exact lv_icmp_lt C.1 C.2.1 hd ht (fun q => kt q n0 ro D cA p l e R s m args below meth c C hf hl ws H locs cells slots ls st QQ hW hL hS hc hs2 hQ) (fun q => kf q n0 ro D cA p l e R s m args below meth c C hf hl ws H locs cells slots ls st QQ hW hL hS hc hs2 hQ)
theorem aw_if_ge {x : Int32} {off : Int} {tgt : Nat} (hd : decode M.2.1 pc = .ok (.ifCond .ge off, 3)) (hn : pc + 3 = npc) (ht : (pc : Int) + off = (tgt : Int)) (kt : 0 ≤ x → AW X M d rc rs tgt L S n h Q) (kf : ¬ 0 ≤ x → AW X M d rc rs npc L S n h Q) : AW X M d rc rs pc L (.int x :: S) n h Q := by
  subst hn
  intro n0 ro D cA p l e R s m args below meth c C hf hl ws H locs cells slots ls st QQ hW hL hS hc hs2 hQ
  obtain ⟨_, st, rfl, rfl, hS⟩ := hS
  exact lv_if_ge C.1 C.2.1 hd ht (fun q => kt q n0 ro D cA p l e R s m args below meth c C hf hl ws H locs cells slots ls st QQ hW hL hS hc hs2 hQ) (fun q => kf q n0 ro D cA p l e R s m args below meth c C hf hl ws H locs cells slots ls st QQ hW hL hS hc hs2 hQ)
theorem aw_icmp_ge {x y : Int32} {off : Int} {tgt : Nat} (hd : decode M.2.1 pc = .ok (.if_icmp .ge off, 3)) (hn : pc + 3 = npc) (ht : (pc : Int) + off = (tgt : Int)) (kt : y ≤ x → AW X M d rc rs tgt L S n h Q) (kf : ¬ y ≤ x → AW X M d rc rs npc L S n h Q) : AW X M d rc rs pc L (.int y :: .int x :: S) n h Q := by
  subst hn
  intro n0 ro D cA p l e R s m args below meth c C hf hl ws H locs cells slots ls st QQ hW hL hS hc hs2 hQ
  obtain ⟨_, st, rfl, rfl, _, st, rfl, rfl, hS⟩ := hS
  exact lv_icmp_ge C.1 C.2.1 hd ht (fun q => kt q n0 ro D cA p l e R s m args below meth c C hf hl ws H locs cells slots ls st QQ hW hL hS hc hs2 hQ) (fun q => kf q n0 ro D cA p l e R s m args below meth c C hf hl ws H locs cells slots ls st QQ hW hL hS hc hs2 hQ)
theorem aw_if_gt {x : Int32} {off : Int} {tgt : Nat} (hd : decode M.2.1 pc = .ok (.ifCond .gt off, 3)) (hn : pc + 3 = npc) (ht : (pc : Int) + off = (tgt : Int)) (kt : 0 < x → AW X M d rc rs tgt L S n h Q) (kf : ¬ 0 < x → AW X M d rc rs npc L S n h Q) : AW X M d rc rs pc L (.int x :: S) n h Q := by
  subst hn
  intro n0 ro D cA p l e R s m args below meth c C hf hl ws H locs cells slots ls st QQ hW hL hS hc hs2 hQ
  obtain ⟨_, st, rfl, rfl, hS⟩ := hS
  exact lv_if_gt C.1 C.2.1 hd ht (fun q => kt q n0 ro D cA p l e R s m args below meth c C hf hl ws H locs cells slots ls st QQ hW hL hS hc hs2 hQ) (fun q => kf q n0 ro D cA p l e R s m args below meth c C hf hl ws H locs cells slots ls st QQ hW hL hS hc hs2 hQ)
theorem aw_icmp_gt {x y : Int32} {off : Int} {tgt : Nat} (hd : decode M.2.1 pc = .ok (.if_icmp .gt off, 3)) (hn : pc + 3 = npc) (ht : (pc : Int) + off = (tgt : Int)) (kt : y < x → AW X M d rc rs tgt L S n h Q) (kf : ¬ y < x → AW X M d rc rs npc L S n h Q) : AW X M d rc rs pc L (.int y :: .int x :: S) n h Q := by
  subst hn
  intro n0 ro D cA p l e R s m args below meth c C hf hl ws H locs cells slots ls st QQ hW hL hS hc hs2 hQ
  obtain ⟨_, st, rfl, rfl, _, st, rfl, rfl, hS⟩ := hS
  exact lv_icmp_gt C.1 C.2.1 hd ht (fun q => kt q n0 ro D cA p l e R s m args below meth c C hf hl ws H locs cells slots ls st QQ hW hL hS hc hs2 hQ) (fun q => kf q n0 ro D cA p l e R s m args below meth c C hf hl ws H locs cells slots ls st QQ hW hL hS hc hs2 hQ)
theorem aw_if_le {x : Int32} {off : Int} {tgt : Nat} (hd : decode M.2.1 pc = .ok (.ifCond .le off, 3)) (hn : pc + 3 = npc) (ht : (pc : Int) + off = (tgt : Int)) (kt : x ≤ 0 → AW X M d rc rs tgt L S n h Q) (kf : ¬ x ≤ 0 → AW X M d rc rs npc L S n h Q) : AW X M d rc rs pc L (.int x :: S) n h Q := by
  subst hn
  intro n0 ro D cA p l e R s m args below meth c C hf hl ws H locs cells slots ls st QQ hW hL hS hc hs2 hQ
  obtain ⟨_, st, rfl, rfl, hS⟩ := hS
  exact lv_if_le C.1 C.2.1 hd ht (fun q => kt q n0 ro D cA p l e R s m args below meth c C hf hl ws H locs cells slots ls st QQ hW hL hS hc hs2 hQ) (fun q => kf q n0 ro D cA p l e R s m args below meth c C hf hl ws H locs cells slots ls st QQ hW hL hS hc hs2 hQ)
theorem aw_icmp_le {x y : Int32} {off : Int} {tgt : Nat} (hd : decode M.2.1 pc = .ok (.if_icmp .le off, 3)) (hn : pc + 3 = npc) (ht : (pc : Int) + off = (tgt : Int)) (kt : x ≤ y → AW X M d rc rs tgt L S n h Q) (kf : ¬ x ≤ y → AW X M d rc rs npc L S n h Q) : AW X M d rc rs pc L (.int y :: .int x :: S) n h Q := by
  subst hn
  intro n0 ro D cA p l e R s m args below meth c C hf hl ws H locs cells slots ls st QQ hW hL hS hc hs2 hQ
  obtain ⟨_, st, rfl, rfl, _, st, rfl, rfl, hS⟩ := hS
  exact lv_icmp_le C.1 C.2.1 hd ht (fun q => kt q n0 ro D cA p l e R s m args below meth c C hf hl ws H locs cells slots ls st QQ hW hL hS hc hs2 hQ) (fun q => kf q n0 ro D cA p l e R s m args below meth c C hf hl ws H locs cells slots ls st QQ hW hL hS hc hs2 hQ)
theorem aw_if_ne {x : Int32} {off : Int} {tgt : Nat} (hd : decode M.2.1 pc = .ok (.ifCond .ne off, 3)) (hn : pc + 3 = npc) (ht : (pc : Int) + off = (tgt : Int)) (kt : ¬ x = 0 → AW X M d rc rs tgt L S n h Q) (kf : x = 0 → AW X M d rc rs npc L S n h Q) : AW X M d rc rs pc L (.int x :: S) n h Q := by
  subst hn
  intro n0 ro D cA p l e R s m args below meth c C hf hl ws H locs cells slots ls st QQ hW hL hS hc hs2 hQ
  obtain ⟨_, st, rfl, rfl, hS⟩ := hS
  exact lv_if_ne C.1 C.2.1 hd ht (fun q => kt q n0 ro D cA p l e R s m args below meth c C hf hl ws H locs cells slots ls st QQ hW hL hS hc hs2 hQ) (fun q => kf q n0 ro D cA p l e R s m args below meth c C hf hl ws H locs cells slots ls st QQ hW hL hS hc hs2 hQ)
theorem aw_icmp_ne {x y : Int32} {off : Int} {tgt : Nat} (hd : decode M.2.1 pc = .ok (.if_icmp .ne off, 3)) (hn : pc + 3 = npc) (ht : (pc : Int) + off = (tgt : Int)) (kt : ¬ x = y → AW X M d rc rs tgt L S n h Q) (kf : x = y → AW X M d rc rs npc L S n h Q) : AW X M d rc rs pc L (.int y :: .int x :: S) n h Q := by
  subst hn
  intro n0 ro D cA p l e R s m args below meth c C hf hl ws H locs cells slots ls st QQ hW hL hS hc hs2 hQ
  obtain ⟨_, st, rfl, rfl, _, st, rfl, rfl, hS⟩ := hS
  exact lv_icmp_ne C.1 C.2.1 hd ht (fun q => kt q n0 ro D cA p l e R s m args below meth c C hf hl ws H locs cells slots ls st QQ hW hL hS hc hs2 hQ) (fun q => kf q n0 ro D cA p l e R s m args below meth c C hf hl ws H locs cells slots ls st QQ hW hL hS hc hs2 hQ)
theorem aw_ifnull {v : Nat} {off : Int} (hd : decode M.2.1 pc = .ok (.ifnull off, 3)) (hn : pc + 3 = npc) (k : AW X M d rc rs npc L S n h Q) : AW X M d rc rs pc L (.ref v :: S) n h Q := by
  subst hn
  refine aw_pure k (fun hx hb ho ht hL hS => ?_)
  obtain ⟨_, st, rfl, ⟨a, h1, rfl⟩, hS⟩ := hS
  exact ⟨_, hS, fun q => lv_ifnull hx hb hd q⟩
theorem aw_ifnullN {off : Int} (hd : decode M.2.1 pc = .ok (.ifnull off, 3)) (hn : (pc : Int) + off = (npc : Int)) (k : AW X M d rc rs npc L S n h Q) : AW X M d rc rs pc L (.null :: S) n h Q := by
  refine aw_pure k (fun hx hb ho ht hL hS => ?_)
  obtain ⟨_, st, rfl, rfl, hS⟩ := hS
  exact ⟨_, hS, fun q => lv_ifnullN hx hb hd hn q⟩
theorem aw_ifnonnull {v : Nat} {off : Int} (hd : decode M.2.1 pc = .ok (.ifnonnull off, 3)) (hn : (pc : Int) + off = (npc : Int)) (k : AW X M d rc rs npc L S n h Q) : AW X M d rc rs pc L (.ref v :: S) n h Q := by
  refine aw_pure k (fun hx hb ho ht hL hS => ?_)
  obtain ⟨_, st, rfl, ⟨a, h1, rfl⟩, hS⟩ := hS
  exact ⟨_, hS, fun q => lv_ifnonnull hx hb hd hn q⟩
theorem aw_ifnonnullN {off : Int} (hd : decode M.2.1 pc = .ok (.ifnonnull off, 3)) (hn : pc + 3 = npc) (k : AW X M d rc rs npc L S n h Q) : AW X M d rc rs pc L (.null :: S) n h Q := by
  subst hn
  refine aw_pure k (fun hx hb ho ht hL hS => ?_)
  obtain ⟨_, st, rfl, rfl, hS⟩ := hS
  exact ⟨_, hS, fun q => lv_ifnonnullN hx hb hd q⟩
theorem aw_lookup {dflt : Int} {ps : Array (Int × Int)} {len : Nat} {x : Int32} {off : Int} (hd : decode M.2.1 pc = .ok (.lookupswitch dflt ps, len)) (hp : (ps.toList.zip (ps.toList.drop 1)).all (fun (a, next) => a.1 < next.1) = true) (hf9 : Op.lookupswitch.offset ps.toList dflt x.toInt = off) (hn : (pc : Int) + off = (npc : Int)) (k : AW X M d rc rs npc L S n h Q) : AW X M d rc rs pc L (.int x :: S) n h Q := by
  refine aw_pure k (fun hx hb ho ht hL hS => ?_)
  obtain ⟨_, st, rfl, rfl, hS⟩ := hS
  exact ⟨_, hS, fun q => lv_lookup hx hb hd hp hf9 hn q⟩
theorem aw_tableOut {dflt lo hi : Int} {offs : Array Int} {len : Nat} {x : Int32} (hd : decode M.2.1 pc = .ok (.tableswitch dflt lo hi offs, len)) (h9 : x.toInt < lo ∨ hi < x.toInt) (hn : (pc : Int) + dflt = (npc : Int)) (k : AW X M d rc rs npc L S n h Q) : AW X M d rc rs pc L (.int x :: S) n h Q := by
  refine aw_pure k (fun hx hb ho ht hL hS => ?_)
  obtain ⟨_, st, rfl, rfl, hS⟩ := hS
  exact ⟨_, hS, fun q => lv_tableOut hx hb hd h9 hn q⟩
theorem aw_tableIn {dflt lo hi : Int} {offs : Array Int} {len : Nat} {x : Int32} {off : Int} (hd : decode M.2.1 pc = .ok (.tableswitch dflt lo hi offs, len)) (h1 : ¬ x.toInt < lo) (h2 : ¬ hi < x.toInt) (hf9 : offs[(x.toInt - lo).toNat]? = some off) (hn : (pc : Int) + off = (npc : Int)) (k : AW X M d rc rs npc L S n h Q) : AW X M d rc rs pc L (.int x :: S) n h Q := by
  refine aw_pure k (fun hx hb ho ht hL hS => ?_)
  obtain ⟨_, st, rfl, rfl, hS⟩ := hS
  exact ⟨_, hS, fun q => lv_tableIn hx hb hd h1 h2 hf9 hn q⟩
theorem aw_istore_n {j : Fin 4} {v : Int32} (hd : decode M.2.1 pc = .ok (.istore_n j, 1)) (hn : pc + 1 = npc) (hlt : (j : Nat) < M.2.2.1) (hnl : am_nl L (j : Nat) = true) (hL' : L.set (j : Nat) (some (.int v)) = L') (k : AW X M d rc rs npc L' S n h Q) : AW X M d rc rs pc L (.int v :: S) n h Q := by
  subst hn; subst hL'
  refine aw_store1 k hnl (fun hx hb hl hv kk => ?_)
  cases hv
  exact lv_istore_n hx hb hd rfl hl hlt rfl kk
theorem aw_istore {j : Nat} {v : Int32} (hd : decode M.2.1 pc = .ok (.istore j, 2)) (hn : pc + 2 = npc) (hlt : j < M.2.2.1) (hnl : am_nl L j = true) (hL' : L.set j (some (.int v)) = L') (k : AW X M d rc rs npc L' S n h Q) : AW X M d rc rs pc L (.int v :: S) n h Q := by
  subst hn; subst hL'
  refine aw_store1 k hnl (fun hx hb hl hv kk => ?_)
  cases hv
  exact lv_istore hx hb hd hl hlt rfl kk
theorem aw_astore_n {j : Fin 4} {v : Nat} (hd : decode M.2.1 pc = .ok (.astore_n j, 1)) (hn : pc + 1 = npc) (hlt : (j : Nat) < M.2.2.1) (hnl : am_nl L (j : Nat) = true) (hL' : L.set (j : Nat) (some (.ref v)) = L') (k : AW X M d rc rs npc L' S n h Q) : AW X M d rc rs pc L (.ref v :: S) n h Q := by
  subst hn; subst hL'
  refine aw_store1 k hnl (fun hx hb hl hv kk => ?_)
  obtain ⟨a, h1, rfl⟩ := hv
  exact lv_astore_n hx hb hd rfl hl hlt rfl kk
theorem aw_astore {j : Nat} {v : Nat} (hd : decode M.2.1 pc = .ok (.astore j, 2)) (hn : pc + 2 = npc) (hlt : j < M.2.2.1) (hnl : am_nl L j = true) (hL' : L.set j (some (.ref v)) = L') (k : AW X M d rc rs npc L' S n h Q) : AW X M d rc rs pc L (.ref v :: S) n h Q := by
  subst hn; subst hL'
  refine aw_store1 k hnl (fun hx hb hl hv kk => ?_)
  obtain ⟨a, h1, rfl⟩ := hv
  exact lv_astore hx hb hd hl hlt rfl kk
theorem aw_astore_nN {j : Fin 4} (hd : decode M.2.1 pc = .ok (.astore_n j, 1)) (hn : pc + 1 = npc) (hlt : (j : Nat) < M.2.2.1) (hnl : am_nl L (j : Nat) = true) (hL' : L.set (j : Nat) (some (.null)) = L') (k : AW X M d rc rs npc L' S n h Q) : AW X M d rc rs pc L (.null :: S) n h Q := by
  subst hn; subst hL'
  refine aw_store1 k hnl (fun hx hb hl hv kk => ?_)
  cases hv
  exact lv_astore_nN hx hb hd rfl hl hlt rfl kk
theorem aw_astoreN {j : Nat} (hd : decode M.2.1 pc = .ok (.astore j, 2)) (hn : pc + 2 = npc) (hlt : j < M.2.2.1) (hnl : am_nl L j = true) (hL' : L.set j (some (.null)) = L') (k : AW X M d rc rs npc L' S n h Q) : AW X M d rc rs pc L (.null :: S) n h Q := by
  subst hn; subst hL'
  refine aw_store1 k hnl (fun hx hb hl hv kk => ?_)
  cases hv
  exact lv_astoreN hx hb hd hl hlt rfl kk
theorem aw_lstore {j : Nat} {v : Int64} (hd : decode M.2.1 pc = .ok (.lstore j, 2)) (hn : pc + 2 = npc) (hlt : j + 1 < M.2.2.1) (hnl : am_nl L j = true) (hL' : (L.set j (some (.long v))).set (j + 1) none = L') (k : AW X M d rc rs npc L' S n h Q) : AW X M d rc rs pc L (.long v :: S) n h Q := by
  subst hn; subst hL'
  intro n0 ro D cA p l e R s m args below meth c C hf hl ws H locs cells slots ls st QQ hW hL hS hc hs2 hQ
  obtain ⟨cv, st, rfl, hv, hS⟩ := hS
  cases hv
  exact lv_lstore C.1 C.2.1 hd hL.has hlt rfl (fun ls' h' => k n0 ro D cA p l e R s m args below meth c C hf hl ws H locs cells slots ls' st QQ hW (hL.set2 hnl (v := .long v) rfl h') hS hc hs2 hQ)
theorem am_idx {ls : Array Slot} {i : Nat} {c : Value} (h : ls[i]? = some (.val c)) : ∃ k : Nat, (am_all ls)[k]? = some (i, c) := List.mem_iff_getElem?.mp (am_all_mem.mpr h)
theorem aw_iinc {j : Nat} {z : Int} {x v : Int32} (hd : decode M.2.1 pc = .ok (.iinc j z, 3)) (hn : pc + 3 = npc) (hx9 : L[j]? = some (some (.int x))) (hv : x + Int32.ofInt z = v) (hlt : j < M.2.2.1) (hnl : am_nl L j = true) (hL' : L.set j (some (.int v)) = L') (k : AW X M d rc rs npc L' S n h Q) : AW X M d rc rs pc L S n h Q := by
  subst hn; subst hL'
  intro n0 ro D cA p l e R s m args below meth c C hf hl ws H locs cells slots ls st QQ hW hL hS hc hs2 hQ
  obtain ⟨c9, h1, rfl⟩ := hL.2.2 _ _ hx9
  obtain ⟨k9, hk9⟩ := am_idx h1
  exact lv_iinc C.1 C.2.1 hd hL.has hk9 hv hlt rfl (fun ls' h' => k n0 ro D cA p l e R s m args below meth c C hf hl ws H locs cells slots ls' st QQ hW (hL.set1 hnl (v := .int v) rfl h') hS hc hs2 hQ)
end AMP
