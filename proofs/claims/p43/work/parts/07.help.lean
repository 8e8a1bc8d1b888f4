theorem am_eq {h : am_H} {a : Nat} {c : am_AC} : am_up h a c a = some c := by simp [am_up]
theorem am_ne {h : am_H} {a b : Nat} {c x : am_AC} (hab : b ≠ a) (hx : h b = some x) : am_up h a c b = some x := by simp only [am_up, if_neg hab]; exact hx
theorem am_nE {h : am_H} {a b : Nat} {c : am_AC} (hab : b ≠ a) : am_up h a c b = h b := by simp only [am_up, if_neg hab]
theorem am_uu {h : am_H} {a : Nat} {c c' : am_AC} : am_up (am_up h a c) a c' = am_up h a c' := by
  funext j
  by_cases hj : j = a
  · simp [am_up, hj]
  · simp [am_up, hj]
theorem am_us {h : am_H} {a : Nat} {c : am_AC} (hc : h a = some c) : am_up h a c = h := by
  funext j
  by_cases hj : j = a
  · subst hj; simp [am_up, hc]
  · simp [am_up, hj]
def am_fr (B : Nat) (h' h : am_H) : Prop := ∀ k, B ≤ k → h' k = h k
theorem am_fr0 {B : Nat} {h : am_H} : am_fr B h h := fun _ _ => rfl
theorem am_frU {B a : Nat} {h h' : am_H} {c : am_AC} (ha : a < B) (hf : am_fr B h' h) : am_fr B (am_up h' a c) h := fun k hk => by
  rw [am_nE (by omega)]
  exact hf k hk
theorem am_frT {B : Nat} {h h' h'' : am_H} (h1 : am_fr B h'' h') (h2 : am_fr B h' h) : am_fr B h'' h := fun k hk => (h1 k hk).trans (h2 k hk)
section AMX
variable {X : List Int32} {M : am_MD} {d rc rs pc npc : Nat} {L L' : am_L} {S S' : List Value} {n : Nat} {h h' : am_H} {Q : am_Q}
theorem aw_re (e : S = S') (k : AW X M d rc rs pc L S' n h Q) : AW X M d rc rs pc L S n h Q := e ▸ k
theorem aw_hp (e : h = h') (k : AW X M d rc rs pc L S n h' Q) : AW X M d rc rs pc L S n h Q := e ▸ k
theorem aw_nn {n' : Nat} (e : n = n') (k : AW X M d rc rs pc L S n' h Q) : AW X M d rc rs pc L S n h Q := e ▸ k
theorem aw_top {x y : Int32} (e : x = y) (k : AW X M d rc rs pc L (.int y :: S) n h Q) : AW X M d rc rs pc L (.int x :: S) n h Q := e ▸ k
theorem aw_iaddV {x y v : Int32} (hd : decode M.2.1 pc = .ok (.iadd, 1)) (hn : pc + 1 = npc) (hv : x + y = v) (k : AW X M d rc rs npc L (.int v :: S) n h Q) : AW X M d rc rs pc L (.int y :: .int x :: S) n h Q := aw_iadd hd hn (aw_top hv k)
theorem aw_isubV {x y v : Int32} (hd : decode M.2.1 pc = .ok (.isub, 1)) (hn : pc + 1 = npc) (hv : x - y = v) (k : AW X M d rc rs npc L (.int v :: S) n h Q) : AW X M d rc rs pc L (.int y :: .int x :: S) n h Q := aw_isub hd hn (aw_top hv k)
theorem aw_imulV {x y v : Int32} (hd : decode M.2.1 pc = .ok (.imul, 1)) (hn : pc + 1 = npc) (hv : x * y = v) (k : AW X M d rc rs npc L (.int v :: S) n h Q) : AW X M d rc rs pc L (.int y :: .int x :: S) n h Q := aw_imul hd hn (aw_top hv k)
theorem aw_iandV {x y v : Int32} (hd : decode M.2.1 pc = .ok (.iand, 1)) (hn : pc + 1 = npc) (hv : x &&& y = v) (k : AW X M d rc rs npc L (.int v :: S) n h Q) : AW X M d rc rs pc L (.int y :: .int x :: S) n h Q := aw_iand hd hn (aw_top hv k)
theorem aw_iorV {x y v : Int32} (hd : decode M.2.1 pc = .ok (.ior, 1)) (hn : pc + 1 = npc) (hv : x ||| y = v) (k : AW X M d rc rs npc L (.int v :: S) n h Q) : AW X M d rc rs pc L (.int y :: .int x :: S) n h Q := aw_ior hd hn (aw_top hv k)
theorem aw_idivV {x y v : Int32} (hne : ¬ y = 0) (hd : decode M.2.1 pc = .ok (.idiv, 1)) (hn : pc + 1 = npc) (hv : x / y = v) (k : AW X M d rc rs npc L (.int v :: S) n h Q) : AW X M d rc rs pc L (.int y :: .int x :: S) n h Q := aw_idiv hne hd hn (aw_top hv k)
theorem aw_iremV {x y v : Int32} (hne : ¬ y = 0) (hd : decode M.2.1 pc = .ok (.irem, 1)) (hn : pc + 1 = npc) (hv : x - x / y * y = v) (k : AW X M d rc rs npc L (.int v :: S) n h Q) : AW X M d rc rs pc L (.int y :: .int x :: S) n h Q := aw_irem hne hd hn (aw_top hv k)
theorem aw_ishlV {x y v : Int32} (hd : decode M.2.1 pc = .ok (.ishl, 1)) (hn : pc + 1 = npc) (hv : x <<< (y &&& 31) = v) (k : AW X M d rc rs npc L (.int v :: S) n h Q) : AW X M d rc rs pc L (.int y :: .int x :: S) n h Q := aw_ishl hd hn (aw_top hv k)
theorem aw_ishrV {x y v : Int32} (hd : decode M.2.1 pc = .ok (.ishr, 1)) (hn : pc + 1 = npc) (hv : x >>> (y &&& 31) = v) (k : AW X M d rc rs npc L (.int v :: S) n h Q) : AW X M d rc rs pc L (.int y :: .int x :: S) n h Q := aw_ishr hd hn (aw_top hv k)
theorem aw_iushrV {x y v : Int32} (hd : decode M.2.1 pc = .ok (.iushr, 1)) (hn : pc + 1 = npc) (hv : (x.toUInt32 >>> (y.toUInt32 &&& Int32.toUInt32 31)).toInt32 = v) (k : AW X M d rc rs npc L (.int v :: S) n h Q) : AW X M d rc rs pc L (.int y :: .int x :: S) n h Q := aw_iushr hd hn (aw_top hv k)
theorem aw_inegV {x v : Int32} (hd : decode M.2.1 pc = .ok (.ineg, 1)) (hn : pc + 1 = npc) (hv : -x = v) (k : AW X M d rc rs npc L (.int v :: S) n h Q) : AW X M d rc rs pc L (.int x :: S) n h Q := aw_ineg hd hn (aw_top hv k)
end AMX
def wi (v lo hi : Int32) : Prop := ¬ v < lo ∧ ¬ hi < v
noncomputable def wiD (v lo hi : Int32) : Decidable (wi v lo hi) := Classical.propDecidable _
