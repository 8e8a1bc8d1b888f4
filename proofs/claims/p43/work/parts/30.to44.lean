def MO (o : Nat → Int32) : List Value := [.ref 70, .ref 71, .ref 72, .int (o 3), .int (o 4), .ref 73, .int (o 6), .ref 74, .ref 75, .int (o 9), .int (o 10), .int (o 11), .int (o 12), .int (o 13), .int (o 14), .int (o 15), .ref 76, .ref 77, .ref 78, .int (o 19), .int (o 20), .ref 79, .int (o 22), .ref 80, .ref 81, .ref 82, .ref 83, .ref 84, .ref 85, .ref 86, .ref 87, .ref 88, .ref 89, .ref 90, .ref 91, .int (o 35)]
def aup (a : Nat → Nat → Int32) (k j : Nat) (v : Int32) : Nat → Nat → Int32 := fun c => if c = k then upd (a k) j v else a c
theorem aup_s {a : Nat → Nat → Int32} {k j : Nat} {v : Int32} : aup a k j v k = upd (a k) j v := if_pos rfl
theorem aup_n {a : Nat → Nat → Int32} {k j c : Nat} {v : Int32} (h : c ≠ k) : aup a k j v c = a c := if_neg h
def MR (o N : Nat → Int32) (a : Nat → Nat → Int32) (h : am_H) : Prop := h 69 = some (.inr (8, MO o)) ∧ h 70 = some (.inl (0, tl 1434 N)) ∧ h 71 = some (.inl (0, tl 1434 (a 71))) ∧ h 72 = some (.inl (0, tl 1434 (a 72))) ∧ h 73 = some (.inl (0, tl 4 (a 73))) ∧ h 74 = some (.inl (0, tl 62 (a 74))) ∧ h 75 = some (.inl (0, tl 96 (a 75))) ∧ h 76 = some (.inl (2, [116, 111, 110, 101, 102, 101, 101, 102, 105, 110, 101])) ∧ h 77 = some (.inl (0, [0, 4, 7, 11])) ∧ h 78 = some (.inl (0, tl 96 (a 78))) ∧ h 79 = some (.inl (0, tl 96 (a 79))) ∧ h 80 = some (.inl (1, tl 10 (a 80))) ∧ h 81 = some (.inl (0, tl 96 (a 81))) ∧ h 82 = some (.inl (0, tl 4 (a 82))) ∧ h 83 = some (.inl (0, tl 4 (a 83))) ∧ h 84 = some (.inl (0, tl 4 (a 84))) ∧ h 85 = some (.inl (0, tl 96 (a 85))) ∧ h 86 = some (.inl (0, tl 5 (a 86))) ∧ h 87 = some (.inl (0, tl 5 (a 87))) ∧ h 88 = some (.inl (0, tl 5 (a 88))) ∧ h 89 = some (.inl (0, tl 120 (a 89))) ∧ h 90 = some (.inl (0, tl 24 (a 90))) ∧ h 91 = some (.inl (0, tl 60 (a 91)))
theorem mr_frame {o N : Nat → Int32} {a : Nat → Nat → Int32} {h h9 : am_H} (F : MR o N a h) (hf : ∀ k, 69 ≤ k → k < 92 → h9 k = h k) : MR o N a h9 := by
  obtain ⟨f69, f70, f71, f72, f73, f74, f75, f76, f77, f78, f79, f80, f81, f82, f83, f84, f85, f86, f87, f88, f89, f90, f91⟩ := F
  exact ⟨(hf 69 (by decide) (by decide)).trans f69, (hf 70 (by decide) (by decide)).trans f70, (hf 71 (by decide) (by decide)).trans f71, (hf 72 (by decide) (by decide)).trans f72, (hf 73 (by decide) (by decide)).trans f73, (hf 74 (by decide) (by decide)).trans f74, (hf 75 (by decide) (by decide)).trans f75, (hf 76 (by decide) (by decide)).trans f76, (hf 77 (by decide) (by decide)).trans f77, (hf 78 (by decide) (by decide)).trans f78, (hf 79 (by decide) (by decide)).trans f79, (hf 80 (by decide) (by decide)).trans f80, (hf 81 (by decide) (by decide)).trans f81, (hf 82 (by decide) (by decide)).trans f82, (hf 83 (by decide) (by decide)).trans f83, (hf 84 (by decide) (by decide)).trans f84, (hf 85 (by decide) (by decide)).trans f85, (hf 86 (by decide) (by decide)).trans f86, (hf 87 (by decide) (by decide)).trans f87, (hf 88 (by decide) (by decide)).trans f88, (hf 89 (by decide) (by decide)).trans f89, (hf 90 (by decide) (by decide)).trans f90, (hf 91 (by decide) (by decide)).trans f91⟩
theorem mr_out {o N : Nat → Int32} {a : Nat → Nat → Int32} {h : am_H} {k : Nat} {c : am_AC} (hk : k < 69 ∨ 92 ≤ k) (F : MR o N a h) : MR o N a (am_up h k c) := mr_frame F (fun j h1 h2 => am_nE (by omega))
theorem mr_70 {o N : Nat → Int32} {a : Nat → Nat → Int32} {h : am_H} {j : Nat} {v : Int32} (F : MR o N a h) : MR o (upd N j v) a (am_up h 70 (.inl (0, (tl 1434 N).set j v))) := by
  obtain ⟨f69, f70, f71, f72, f73, f74, f75, f76, f77, f78, f79, f80, f81, f82, f83, f84, f85, f86, f87, f88, f89, f90, f91⟩ := F
  exact ⟨am_ne (by decide) f69, am_eq.trans (congrArg (fun l : List Int32 => (some (.inl (0, l)) : Option am_AC)) tl_set), am_ne (by decide) f71, am_ne (by decide) f72, am_ne (by decide) f73, am_ne (by decide) f74, am_ne (by decide) f75, am_ne (by decide) f76, am_ne (by decide) f77, am_ne (by decide) f78, am_ne (by decide) f79, am_ne (by decide) f80, am_ne (by decide) f81, am_ne (by decide) f82, am_ne (by decide) f83, am_ne (by decide) f84, am_ne (by decide) f85, am_ne (by decide) f86, am_ne (by decide) f87, am_ne (by decide) f88, am_ne (by decide) f89, am_ne (by decide) f90, am_ne (by decide) f91⟩
theorem mr_71 {o N : Nat → Int32} {a : Nat → Nat → Int32} {h : am_H} {j : Nat} {v : Int32} (F : MR o N a h) : MR o N (aup a 71 j v) (am_up h 71 (.inl (0, (tl 1434 (a 71)).set j v))) := by
  obtain ⟨f69, f70, f71, f72, f73, f74, f75, f76, f77, f78, f79, f80, f81, f82, f83, f84, f85, f86, f87, f88, f89, f90, f91⟩ := F
  exact ⟨am_ne (by decide) f69, am_ne (by decide) f70, am_eq.trans (congrArg (fun l : List Int32 => (some (.inl (0, l)) : Option am_AC)) tl_set), am_ne (by decide) f72, am_ne (by decide) f73, am_ne (by decide) f74, am_ne (by decide) f75, am_ne (by decide) f76, am_ne (by decide) f77, am_ne (by decide) f78, am_ne (by decide) f79, am_ne (by decide) f80, am_ne (by decide) f81, am_ne (by decide) f82, am_ne (by decide) f83, am_ne (by decide) f84, am_ne (by decide) f85, am_ne (by decide) f86, am_ne (by decide) f87, am_ne (by decide) f88, am_ne (by decide) f89, am_ne (by decide) f90, am_ne (by decide) f91⟩
theorem mr_72 {o N : Nat → Int32} {a : Nat → Nat → Int32} {h : am_H} {j : Nat} {v : Int32} (F : MR o N a h) : MR o N (aup a 72 j v) (am_up h 72 (.inl (0, (tl 1434 (a 72)).set j v))) := by
  obtain ⟨f69, f70, f71, f72, f73, f74, f75, f76, f77, f78, f79, f80, f81, f82, f83, f84, f85, f86, f87, f88, f89, f90, f91⟩ := F
  exact ⟨am_ne (by decide) f69, am_ne (by decide) f70, am_ne (by decide) f71, am_eq.trans (congrArg (fun l : List Int32 => (some (.inl (0, l)) : Option am_AC)) tl_set), am_ne (by decide) f73, am_ne (by decide) f74, am_ne (by decide) f75, am_ne (by decide) f76, am_ne (by decide) f77, am_ne (by decide) f78, am_ne (by decide) f79, am_ne (by decide) f80, am_ne (by decide) f81, am_ne (by decide) f82, am_ne (by decide) f83, am_ne (by decide) f84, am_ne (by decide) f85, am_ne (by decide) f86, am_ne (by decide) f87, am_ne (by decide) f88, am_ne (by decide) f89, am_ne (by decide) f90, am_ne (by decide) f91⟩
theorem mr_73 {o N : Nat → Int32} {a : Nat → Nat → Int32} {h : am_H} {j : Nat} {v : Int32} (F : MR o N a h) : MR o N (aup a 73 j v) (am_up h 73 (.inl (0, (tl 4 (a 73)).set j v))) := by
  obtain ⟨f69, f70, f71, f72, f73, f74, f75, f76, f77, f78, f79, f80, f81, f82, f83, f84, f85, f86, f87, f88, f89, f90, f91⟩ := F
  exact ⟨am_ne (by decide) f69, am_ne (by decide) f70, am_ne (by decide) f71, am_ne (by decide) f72, am_eq.trans (congrArg (fun l : List Int32 => (some (.inl (0, l)) : Option am_AC)) tl_set), am_ne (by decide) f74, am_ne (by decide) f75, am_ne (by decide) f76, am_ne (by decide) f77, am_ne (by decide) f78, am_ne (by decide) f79, am_ne (by decide) f80, am_ne (by decide) f81, am_ne (by decide) f82, am_ne (by decide) f83, am_ne (by decide) f84, am_ne (by decide) f85, am_ne (by decide) f86, am_ne (by decide) f87, am_ne (by decide) f88, am_ne (by decide) f89, am_ne (by decide) f90, am_ne (by decide) f91⟩
theorem mr_74 {o N : Nat → Int32} {a : Nat → Nat → Int32} {h : am_H} {j : Nat} {v : Int32} (F : MR o N a h) : MR o N (aup a 74 j v) (am_up h 74 (.inl (0, (tl 62 (a 74)).set j v))) := by
  obtain ⟨f69, f70, f71, f72, f73, f74, f75, f76, f77, f78, f79, f80, f81, f82, f83, f84, f85, f86, f87, f88, f89, f90, f91⟩ := F
  exact ⟨am_ne (by decide) f69, am_ne (by decide) f70, am_ne (by decide) f71, am_ne (by decide) f72, am_ne (by decide) f73, am_eq.trans (congrArg (fun l : List Int32 => (some (.inl (0, l)) : Option am_AC)) tl_set), am_ne (by decide) f75, am_ne (by decide) f76, am_ne (by decide) f77, am_ne (by decide) f78, am_ne (by decide) f79, am_ne (by decide) f80, am_ne (by decide) f81, am_ne (by decide) f82, am_ne (by decide) f83, am_ne (by decide) f84, am_ne (by decide) f85, am_ne (by decide) f86, am_ne (by decide) f87, am_ne (by decide) f88, am_ne (by decide) f89, am_ne (by decide) f90, am_ne (by decide) f91⟩
theorem mr_75 {o N : Nat → Int32} {a : Nat → Nat → Int32} {h : am_H} {j : Nat} {v : Int32} (F : MR o N a h) : MR o N (aup a 75 j v) (am_up h 75 (.inl (0, (tl 96 (a 75)).set j v))) := by
  obtain ⟨f69, f70, f71, f72, f73, f74, f75, f76, f77, f78, f79, f80, f81, f82, f83, f84, f85, f86, f87, f88, f89, f90, f91⟩ := F
  exact ⟨am_ne (by decide) f69, am_ne (by decide) f70, am_ne (by decide) f71, am_ne (by decide) f72, am_ne (by decide) f73, am_ne (by decide) f74, am_eq.trans (congrArg (fun l : List Int32 => (some (.inl (0, l)) : Option am_AC)) tl_set), am_ne (by decide) f76, am_ne (by decide) f77, am_ne (by decide) f78, am_ne (by decide) f79, am_ne (by decide) f80, am_ne (by decide) f81, am_ne (by decide) f82, am_ne (by decide) f83, am_ne (by decide) f84, am_ne (by decide) f85, am_ne (by decide) f86, am_ne (by decide) f87, am_ne (by decide) f88, am_ne (by decide) f89, am_ne (by decide) f90, am_ne (by decide) f91⟩
theorem mr_78 {o N : Nat → Int32} {a : Nat → Nat → Int32} {h : am_H} {j : Nat} {v : Int32} (F : MR o N a h) : MR o N (aup a 78 j v) (am_up h 78 (.inl (0, (tl 96 (a 78)).set j v))) := by
  obtain ⟨f69, f70, f71, f72, f73, f74, f75, f76, f77, f78, f79, f80, f81, f82, f83, f84, f85, f86, f87, f88, f89, f90, f91⟩ := F
  exact ⟨am_ne (by decide) f69, am_ne (by decide) f70, am_ne (by decide) f71, am_ne (by decide) f72, am_ne (by decide) f73, am_ne (by decide) f74, am_ne (by decide) f75, am_ne (by decide) f76, am_ne (by decide) f77, am_eq.trans (congrArg (fun l : List Int32 => (some (.inl (0, l)) : Option am_AC)) tl_set), am_ne (by decide) f79, am_ne (by decide) f80, am_ne (by decide) f81, am_ne (by decide) f82, am_ne (by decide) f83, am_ne (by decide) f84, am_ne (by decide) f85, am_ne (by decide) f86, am_ne (by decide) f87, am_ne (by decide) f88, am_ne (by decide) f89, am_ne (by decide) f90, am_ne (by decide) f91⟩
theorem mr_79 {o N : Nat → Int32} {a : Nat → Nat → Int32} {h : am_H} {j : Nat} {v : Int32} (F : MR o N a h) : MR o N (aup a 79 j v) (am_up h 79 (.inl (0, (tl 96 (a 79)).set j v))) := by
  obtain ⟨f69, f70, f71, f72, f73, f74, f75, f76, f77, f78, f79, f80, f81, f82, f83, f84, f85, f86, f87, f88, f89, f90, f91⟩ := F
  exact ⟨am_ne (by decide) f69, am_ne (by decide) f70, am_ne (by decide) f71, am_ne (by decide) f72, am_ne (by decide) f73, am_ne (by decide) f74, am_ne (by decide) f75, am_ne (by decide) f76, am_ne (by decide) f77, am_ne (by decide) f78, am_eq.trans (congrArg (fun l : List Int32 => (some (.inl (0, l)) : Option am_AC)) tl_set), am_ne (by decide) f80, am_ne (by decide) f81, am_ne (by decide) f82, am_ne (by decide) f83, am_ne (by decide) f84, am_ne (by decide) f85, am_ne (by decide) f86, am_ne (by decide) f87, am_ne (by decide) f88, am_ne (by decide) f89, am_ne (by decide) f90, am_ne (by decide) f91⟩
theorem mr_80 {o N : Nat → Int32} {a : Nat → Nat → Int32} {h : am_H} {j : Nat} {v : Int32} (F : MR o N a h) : MR o N (aup a 80 j v) (am_up h 80 (.inl (1, (tl 10 (a 80)).set j v))) := by
  obtain ⟨f69, f70, f71, f72, f73, f74, f75, f76, f77, f78, f79, f80, f81, f82, f83, f84, f85, f86, f87, f88, f89, f90, f91⟩ := F
  exact ⟨am_ne (by decide) f69, am_ne (by decide) f70, am_ne (by decide) f71, am_ne (by decide) f72, am_ne (by decide) f73, am_ne (by decide) f74, am_ne (by decide) f75, am_ne (by decide) f76, am_ne (by decide) f77, am_ne (by decide) f78, am_ne (by decide) f79, am_eq.trans (congrArg (fun l : List Int32 => (some (.inl (1, l)) : Option am_AC)) tl_set), am_ne (by decide) f81, am_ne (by decide) f82, am_ne (by decide) f83, am_ne (by decide) f84, am_ne (by decide) f85, am_ne (by decide) f86, am_ne (by decide) f87, am_ne (by decide) f88, am_ne (by decide) f89, am_ne (by decide) f90, am_ne (by decide) f91⟩
theorem mr_81 {o N : Nat → Int32} {a : Nat → Nat → Int32} {h : am_H} {j : Nat} {v : Int32} (F : MR o N a h) : MR o N (aup a 81 j v) (am_up h 81 (.inl (0, (tl 96 (a 81)).set j v))) := by
  obtain ⟨f69, f70, f71, f72, f73, f74, f75, f76, f77, f78, f79, f80, f81, f82, f83, f84, f85, f86, f87, f88, f89, f90, f91⟩ := F
  exact ⟨am_ne (by decide) f69, am_ne (by decide) f70, am_ne (by decide) f71, am_ne (by decide) f72, am_ne (by decide) f73, am_ne (by decide) f74, am_ne (by decide) f75, am_ne (by decide) f76, am_ne (by decide) f77, am_ne (by decide) f78, am_ne (by decide) f79, am_ne (by decide) f80, am_eq.trans (congrArg (fun l : List Int32 => (some (.inl (0, l)) : Option am_AC)) tl_set), am_ne (by decide) f82, am_ne (by decide) f83, am_ne (by decide) f84, am_ne (by decide) f85, am_ne (by decide) f86, am_ne (by decide) f87, am_ne (by decide) f88, am_ne (by decide) f89, am_ne (by decide) f90, am_ne (by decide) f91⟩
theorem mr_82 {o N : Nat → Int32} {a : Nat → Nat → Int32} {h : am_H} {j : Nat} {v : Int32} (F : MR o N a h) : MR o N (aup a 82 j v) (am_up h 82 (.inl (0, (tl 4 (a 82)).set j v))) := by
  obtain ⟨f69, f70, f71, f72, f73, f74, f75, f76, f77, f78, f79, f80, f81, f82, f83, f84, f85, f86, f87, f88, f89, f90, f91⟩ := F
  exact ⟨am_ne (by decide) f69, am_ne (by decide) f70, am_ne (by decide) f71, am_ne (by decide) f72, am_ne (by decide) f73, am_ne (by decide) f74, am_ne (by decide) f75, am_ne (by decide) f76, am_ne (by decide) f77, am_ne (by decide) f78, am_ne (by decide) f79, am_ne (by decide) f80, am_ne (by decide) f81, am_eq.trans (congrArg (fun l : List Int32 => (some (.inl (0, l)) : Option am_AC)) tl_set), am_ne (by decide) f83, am_ne (by decide) f84, am_ne (by decide) f85, am_ne (by decide) f86, am_ne (by decide) f87, am_ne (by decide) f88, am_ne (by decide) f89, am_ne (by decide) f90, am_ne (by decide) f91⟩
theorem mr_83 {o N : Nat → Int32} {a : Nat → Nat → Int32} {h : am_H} {j : Nat} {v : Int32} (F : MR o N a h) : MR o N (aup a 83 j v) (am_up h 83 (.inl (0, (tl 4 (a 83)).set j v))) := by
  obtain ⟨f69, f70, f71, f72, f73, f74, f75, f76, f77, f78, f79, f80, f81, f82, f83, f84, f85, f86, f87, f88, f89, f90, f91⟩ := F
  exact ⟨am_ne (by decide) f69, am_ne (by decide) f70, am_ne (by decide) f71, am_ne (by decide) f72, am_ne (by decide) f73, am_ne (by decide) f74, am_ne (by decide) f75, am_ne (by decide) f76, am_ne (by decide) f77, am_ne (by decide) f78, am_ne (by decide) f79, am_ne (by decide) f80, am_ne (by decide) f81, am_ne (by decide) f82, am_eq.trans (congrArg (fun l : List Int32 => (some (.inl (0, l)) : Option am_AC)) tl_set), am_ne (by decide) f84, am_ne (by decide) f85, am_ne (by decide) f86, am_ne (by decide) f87, am_ne (by decide) f88, am_ne (by decide) f89, am_ne (by decide) f90, am_ne (by decide) f91⟩
theorem mr_84 {o N : Nat → Int32} {a : Nat → Nat → Int32} {h : am_H} {j : Nat} {v : Int32} (F : MR o N a h) : MR o N (aup a 84 j v) (am_up h 84 (.inl (0, (tl 4 (a 84)).set j v))) := by
  obtain ⟨f69, f70, f71, f72, f73, f74, f75, f76, f77, f78, f79, f80, f81, f82, f83, f84, f85, f86, f87, f88, f89, f90, f91⟩ := F
  exact ⟨am_ne (by decide) f69, am_ne (by decide) f70, am_ne (by decide) f71, am_ne (by decide) f72, am_ne (by decide) f73, am_ne (by decide) f74, am_ne (by decide) f75, am_ne (by decide) f76, am_ne (by decide) f77, am_ne (by decide) f78, am_ne (by decide) f79, am_ne (by decide) f80, am_ne (by decide) f81, am_ne (by decide) f82, am_ne (by decide) f83, am_eq.trans (congrArg (fun l : List Int32 => (some (.inl (0, l)) : Option am_AC)) tl_set), am_ne (by decide) f85, am_ne (by decide) f86, am_ne (by decide) f87, am_ne (by decide) f88, am_ne (by decide) f89, am_ne (by decide) f90, am_ne (by decide) f91⟩
theorem mr_85 {o N : Nat → Int32} {a : Nat → Nat → Int32} {h : am_H} {j : Nat} {v : Int32} (F : MR o N a h) : MR o N (aup a 85 j v) (am_up h 85 (.inl (0, (tl 96 (a 85)).set j v))) := by
  obtain ⟨f69, f70, f71, f72, f73, f74, f75, f76, f77, f78, f79, f80, f81, f82, f83, f84, f85, f86, f87, f88, f89, f90, f91⟩ := F
  exact ⟨am_ne (by decide) f69, am_ne (by decide) f70, am_ne (by decide) f71, am_ne (by decide) f72, am_ne (by decide) f73, am_ne (by decide) f74, am_ne (by decide) f75, am_ne (by decide) f76, am_ne (by decide) f77, am_ne (by decide) f78, am_ne (by decide) f79, am_ne (by decide) f80, am_ne (by decide) f81, am_ne (by decide) f82, am_ne (by decide) f83, am_ne (by decide) f84, am_eq.trans (congrArg (fun l : List Int32 => (some (.inl (0, l)) : Option am_AC)) tl_set), am_ne (by decide) f86, am_ne (by decide) f87, am_ne (by decide) f88, am_ne (by decide) f89, am_ne (by decide) f90, am_ne (by decide) f91⟩
theorem mr_86 {o N : Nat → Int32} {a : Nat → Nat → Int32} {h : am_H} {j : Nat} {v : Int32} (F : MR o N a h) : MR o N (aup a 86 j v) (am_up h 86 (.inl (0, (tl 5 (a 86)).set j v))) := by
  obtain ⟨f69, f70, f71, f72, f73, f74, f75, f76, f77, f78, f79, f80, f81, f82, f83, f84, f85, f86, f87, f88, f89, f90, f91⟩ := F
  exact ⟨am_ne (by decide) f69, am_ne (by decide) f70, am_ne (by decide) f71, am_ne (by decide) f72, am_ne (by decide) f73, am_ne (by decide) f74, am_ne (by decide) f75, am_ne (by decide) f76, am_ne (by decide) f77, am_ne (by decide) f78, am_ne (by decide) f79, am_ne (by decide) f80, am_ne (by decide) f81, am_ne (by decide) f82, am_ne (by decide) f83, am_ne (by decide) f84, am_ne (by decide) f85, am_eq.trans (congrArg (fun l : List Int32 => (some (.inl (0, l)) : Option am_AC)) tl_set), am_ne (by decide) f87, am_ne (by decide) f88, am_ne (by decide) f89, am_ne (by decide) f90, am_ne (by decide) f91⟩
theorem mr_87 {o N : Nat → Int32} {a : Nat → Nat → Int32} {h : am_H} {j : Nat} {v : Int32} (F : MR o N a h) : MR o N (aup a 87 j v) (am_up h 87 (.inl (0, (tl 5 (a 87)).set j v))) := by
  obtain ⟨f69, f70, f71, f72, f73, f74, f75, f76, f77, f78, f79, f80, f81, f82, f83, f84, f85, f86, f87, f88, f89, f90, f91⟩ := F
  exact ⟨am_ne (by decide) f69, am_ne (by decide) f70, am_ne (by decide) f71, am_ne (by decide) f72, am_ne (by decide) f73, am_ne (by decide) f74, am_ne (by decide) f75, am_ne (by decide) f76, am_ne (by decide) f77, am_ne (by decide) f78, am_ne (by decide) f79, am_ne (by decide) f80, am_ne (by decide) f81, am_ne (by decide) f82, am_ne (by decide) f83, am_ne (by decide) f84, am_ne (by decide) f85, am_ne (by decide) f86, am_eq.trans (congrArg (fun l : List Int32 => (some (.inl (0, l)) : Option am_AC)) tl_set), am_ne (by decide) f88, am_ne (by decide) f89, am_ne (by decide) f90, am_ne (by decide) f91⟩
theorem mr_88 {o N : Nat → Int32} {a : Nat → Nat → Int32} {h : am_H} {j : Nat} {v : Int32} (F : MR o N a h) : MR o N (aup a 88 j v) (am_up h 88 (.inl (0, (tl 5 (a 88)).set j v))) := by
  obtain ⟨f69, f70, f71, f72, f73, f74, f75, f76, f77, f78, f79, f80, f81, f82, f83, f84, f85, f86, f87, f88, f89, f90, f91⟩ := F
  exact ⟨am_ne (by decide) f69, am_ne (by decide) f70, am_ne (by decide) f71, am_ne (by decide) f72, am_ne (by decide) f73, am_ne (by decide) f74, am_ne (by decide) f75, am_ne (by decide) f76, am_ne (by decide) f77, am_ne (by decide) f78, am_ne (by decide) f79, am_ne (by decide) f80, am_ne (by decide) f81, am_ne (by decide) f82, am_ne (by decide) f83, am_ne (by decide) f84, am_ne (by decide) f85, am_ne (by decide) f86, am_ne (by decide) f87, am_eq.trans (congrArg (fun l : List Int32 => (some (.inl (0, l)) : Option am_AC)) tl_set), am_ne (by decide) f89, am_ne (by decide) f90, am_ne (by decide) f91⟩
theorem mr_89 {o N : Nat → Int32} {a : Nat → Nat → Int32} {h : am_H} {j : Nat} {v : Int32} (F : MR o N a h) : MR o N (aup a 89 j v) (am_up h 89 (.inl (0, (tl 120 (a 89)).set j v))) := by
  obtain ⟨f69, f70, f71, f72, f73, f74, f75, f76, f77, f78, f79, f80, f81, f82, f83, f84, f85, f86, f87, f88, f89, f90, f91⟩ := F
  exact ⟨am_ne (by decide) f69, am_ne (by decide) f70, am_ne (by decide) f71, am_ne (by decide) f72, am_ne (by decide) f73, am_ne (by decide) f74, am_ne (by decide) f75, am_ne (by decide) f76, am_ne (by decide) f77, am_ne (by decide) f78, am_ne (by decide) f79, am_ne (by decide) f80, am_ne (by decide) f81, am_ne (by decide) f82, am_ne (by decide) f83, am_ne (by decide) f84, am_ne (by decide) f85, am_ne (by decide) f86, am_ne (by decide) f87, am_ne (by decide) f88, am_eq.trans (congrArg (fun l : List Int32 => (some (.inl (0, l)) : Option am_AC)) tl_set), am_ne (by decide) f90, am_ne (by decide) f91⟩
theorem mr_90 {o N : Nat → Int32} {a : Nat → Nat → Int32} {h : am_H} {j : Nat} {v : Int32} (F : MR o N a h) : MR o N (aup a 90 j v) (am_up h 90 (.inl (0, (tl 24 (a 90)).set j v))) := by
  obtain ⟨f69, f70, f71, f72, f73, f74, f75, f76, f77, f78, f79, f80, f81, f82, f83, f84, f85, f86, f87, f88, f89, f90, f91⟩ := F
  exact ⟨am_ne (by decide) f69, am_ne (by decide) f70, am_ne (by decide) f71, am_ne (by decide) f72, am_ne (by decide) f73, am_ne (by decide) f74, am_ne (by decide) f75, am_ne (by decide) f76, am_ne (by decide) f77, am_ne (by decide) f78, am_ne (by decide) f79, am_ne (by decide) f80, am_ne (by decide) f81, am_ne (by decide) f82, am_ne (by decide) f83, am_ne (by decide) f84, am_ne (by decide) f85, am_ne (by decide) f86, am_ne (by decide) f87, am_ne (by decide) f88, am_ne (by decide) f89, am_eq.trans (congrArg (fun l : List Int32 => (some (.inl (0, l)) : Option am_AC)) tl_set), am_ne (by decide) f91⟩
theorem mr_91 {o N : Nat → Int32} {a : Nat → Nat → Int32} {h : am_H} {j : Nat} {v : Int32} (F : MR o N a h) : MR o N (aup a 91 j v) (am_up h 91 (.inl (0, (tl 60 (a 91)).set j v))) := by
  obtain ⟨f69, f70, f71, f72, f73, f74, f75, f76, f77, f78, f79, f80, f81, f82, f83, f84, f85, f86, f87, f88, f89, f90, f91⟩ := F
  exact ⟨am_ne (by decide) f69, am_ne (by decide) f70, am_ne (by decide) f71, am_ne (by decide) f72, am_ne (by decide) f73, am_ne (by decide) f74, am_ne (by decide) f75, am_ne (by decide) f76, am_ne (by decide) f77, am_ne (by decide) f78, am_ne (by decide) f79, am_ne (by decide) f80, am_ne (by decide) f81, am_ne (by decide) f82, am_ne (by decide) f83, am_ne (by decide) f84, am_ne (by decide) f85, am_ne (by decide) f86, am_ne (by decide) f87, am_ne (by decide) f88, am_ne (by decide) f89, am_ne (by decide) f90, am_eq.trans (congrArg (fun l : List Int32 => (some (.inl (0, l)) : Option am_AC)) tl_set)⟩
theorem mr_o3 {o N : Nat → Int32} {a : Nat → Nat → Int32} {h : am_H} {v : Int32} (F : MR o N a h) : MR (upd o 3 v) N a (am_up h 69 (.inr (8, (MO o).set 3 (.int v)))) := by
  obtain ⟨f69, f70, f71, f72, f73, f74, f75, f76, f77, f78, f79, f80, f81, f82, f83, f84, f85, f86, f87, f88, f89, f90, f91⟩ := F
  exact ⟨am_eq, am_ne (by decide) f70, am_ne (by decide) f71, am_ne (by decide) f72, am_ne (by decide) f73, am_ne (by decide) f74, am_ne (by decide) f75, am_ne (by decide) f76, am_ne (by decide) f77, am_ne (by decide) f78, am_ne (by decide) f79, am_ne (by decide) f80, am_ne (by decide) f81, am_ne (by decide) f82, am_ne (by decide) f83, am_ne (by decide) f84, am_ne (by decide) f85, am_ne (by decide) f86, am_ne (by decide) f87, am_ne (by decide) f88, am_ne (by decide) f89, am_ne (by decide) f90, am_ne (by decide) f91⟩
theorem mr_o4 {o N : Nat → Int32} {a : Nat → Nat → Int32} {h : am_H} {v : Int32} (F : MR o N a h) : MR (upd o 4 v) N a (am_up h 69 (.inr (8, (MO o).set 4 (.int v)))) := by
  obtain ⟨f69, f70, f71, f72, f73, f74, f75, f76, f77, f78, f79, f80, f81, f82, f83, f84, f85, f86, f87, f88, f89, f90, f91⟩ := F
  exact ⟨am_eq, am_ne (by decide) f70, am_ne (by decide) f71, am_ne (by decide) f72, am_ne (by decide) f73, am_ne (by decide) f74, am_ne (by decide) f75, am_ne (by decide) f76, am_ne (by decide) f77, am_ne (by decide) f78, am_ne (by decide) f79, am_ne (by decide) f80, am_ne (by decide) f81, am_ne (by decide) f82, am_ne (by decide) f83, am_ne (by decide) f84, am_ne (by decide) f85, am_ne (by decide) f86, am_ne (by decide) f87, am_ne (by decide) f88, am_ne (by decide) f89, am_ne (by decide) f90, am_ne (by decide) f91⟩
theorem mr_o6 {o N : Nat → Int32} {a : Nat → Nat → Int32} {h : am_H} {v : Int32} (F : MR o N a h) : MR (upd o 6 v) N a (am_up h 69 (.inr (8, (MO o).set 6 (.int v)))) := by
  obtain ⟨f69, f70, f71, f72, f73, f74, f75, f76, f77, f78, f79, f80, f81, f82, f83, f84, f85, f86, f87, f88, f89, f90, f91⟩ := F
  exact ⟨am_eq, am_ne (by decide) f70, am_ne (by decide) f71, am_ne (by decide) f72, am_ne (by decide) f73, am_ne (by decide) f74, am_ne (by decide) f75, am_ne (by decide) f76, am_ne (by decide) f77, am_ne (by decide) f78, am_ne (by decide) f79, am_ne (by decide) f80, am_ne (by decide) f81, am_ne (by decide) f82, am_ne (by decide) f83, am_ne (by decide) f84, am_ne (by decide) f85, am_ne (by decide) f86, am_ne (by decide) f87, am_ne (by decide) f88, am_ne (by decide) f89, am_ne (by decide) f90, am_ne (by decide) f91⟩
theorem mr_o9 {o N : Nat → Int32} {a : Nat → Nat → Int32} {h : am_H} {v : Int32} (F : MR o N a h) : MR (upd o 9 v) N a (am_up h 69 (.inr (8, (MO o).set 9 (.int v)))) := by
  obtain ⟨f69, f70, f71, f72, f73, f74, f75, f76, f77, f78, f79, f80, f81, f82, f83, f84, f85, f86, f87, f88, f89, f90, f91⟩ := F
  exact ⟨am_eq, am_ne (by decide) f70, am_ne (by decide) f71, am_ne (by decide) f72, am_ne (by decide) f73, am_ne (by decide) f74, am_ne (by decide) f75, am_ne (by decide) f76, am_ne (by decide) f77, am_ne (by decide) f78, am_ne (by decide) f79, am_ne (by decide) f80, am_ne (by decide) f81, am_ne (by decide) f82, am_ne (by decide) f83, am_ne (by decide) f84, am_ne (by decide) f85, am_ne (by decide) f86, am_ne (by decide) f87, am_ne (by decide) f88, am_ne (by decide) f89, am_ne (by decide) f90, am_ne (by decide) f91⟩
theorem mr_o10 {o N : Nat → Int32} {a : Nat → Nat → Int32} {h : am_H} {v : Int32} (F : MR o N a h) : MR (upd o 10 v) N a (am_up h 69 (.inr (8, (MO o).set 10 (.int v)))) := by
  obtain ⟨f69, f70, f71, f72, f73, f74, f75, f76, f77, f78, f79, f80, f81, f82, f83, f84, f85, f86, f87, f88, f89, f90, f91⟩ := F
  exact ⟨am_eq, am_ne (by decide) f70, am_ne (by decide) f71, am_ne (by decide) f72, am_ne (by decide) f73, am_ne (by decide) f74, am_ne (by decide) f75, am_ne (by decide) f76, am_ne (by decide) f77, am_ne (by decide) f78, am_ne (by decide) f79, am_ne (by decide) f80, am_ne (by decide) f81, am_ne (by decide) f82, am_ne (by decide) f83, am_ne (by decide) f84, am_ne (by decide) f85, am_ne (by decide) f86, am_ne (by decide) f87, am_ne (by decide) f88, am_ne (by decide) f89, am_ne (by decide) f90, am_ne (by decide) f91⟩
theorem mr_o11 {o N : Nat → Int32} {a : Nat → Nat → Int32} {h : am_H} {v : Int32} (F : MR o N a h) : MR (upd o 11 v) N a (am_up h 69 (.inr (8, (MO o).set 11 (.int v)))) := by
  obtain ⟨f69, f70, f71, f72, f73, f74, f75, f76, f77, f78, f79, f80, f81, f82, f83, f84, f85, f86, f87, f88, f89, f90, f91⟩ := F
  exact ⟨am_eq, am_ne (by decide) f70, am_ne (by decide) f71, am_ne (by decide) f72, am_ne (by decide) f73, am_ne (by decide) f74, am_ne (by decide) f75, am_ne (by decide) f76, am_ne (by decide) f77, am_ne (by decide) f78, am_ne (by decide) f79, am_ne (by decide) f80, am_ne (by decide) f81, am_ne (by decide) f82, am_ne (by decide) f83, am_ne (by decide) f84, am_ne (by decide) f85, am_ne (by decide) f86, am_ne (by decide) f87, am_ne (by decide) f88, am_ne (by decide) f89, am_ne (by decide) f90, am_ne (by decide) f91⟩
theorem mr_o12 {o N : Nat → Int32} {a : Nat → Nat → Int32} {h : am_H} {v : Int32} (F : MR o N a h) : MR (upd o 12 v) N a (am_up h 69 (.inr (8, (MO o).set 12 (.int v)))) := by
  obtain ⟨f69, f70, f71, f72, f73, f74, f75, f76, f77, f78, f79, f80, f81, f82, f83, f84, f85, f86, f87, f88, f89, f90, f91⟩ := F
  exact ⟨am_eq, am_ne (by decide) f70, am_ne (by decide) f71, am_ne (by decide) f72, am_ne (by decide) f73, am_ne (by decide) f74, am_ne (by decide) f75, am_ne (by decide) f76, am_ne (by decide) f77, am_ne (by decide) f78, am_ne (by decide) f79, am_ne (by decide) f80, am_ne (by decide) f81, am_ne (by decide) f82, am_ne (by decide) f83, am_ne (by decide) f84, am_ne (by decide) f85, am_ne (by decide) f86, am_ne (by decide) f87, am_ne (by decide) f88, am_ne (by decide) f89, am_ne (by decide) f90, am_ne (by decide) f91⟩
theorem mr_o13 {o N : Nat → Int32} {a : Nat → Nat → Int32} {h : am_H} {v : Int32} (F : MR o N a h) : MR (upd o 13 v) N a (am_up h 69 (.inr (8, (MO o).set 13 (.int v)))) := by
  obtain ⟨f69, f70, f71, f72, f73, f74, f75, f76, f77, f78, f79, f80, f81, f82, f83, f84, f85, f86, f87, f88, f89, f90, f91⟩ := F
  exact ⟨am_eq, am_ne (by decide) f70, am_ne (by decide) f71, am_ne (by decide) f72, am_ne (by decide) f73, am_ne (by decide) f74, am_ne (by decide) f75, am_ne (by decide) f76, am_ne (by decide) f77, am_ne (by decide) f78, am_ne (by decide) f79, am_ne (by decide) f80, am_ne (by decide) f81, am_ne (by decide) f82, am_ne (by decide) f83, am_ne (by decide) f84, am_ne (by decide) f85, am_ne (by decide) f86, am_ne (by decide) f87, am_ne (by decide) f88, am_ne (by decide) f89, am_ne (by decide) f90, am_ne (by decide) f91⟩
theorem mr_o14 {o N : Nat → Int32} {a : Nat → Nat → Int32} {h : am_H} {v : Int32} (F : MR o N a h) : MR (upd o 14 v) N a (am_up h 69 (.inr (8, (MO o).set 14 (.int v)))) := by
  obtain ⟨f69, f70, f71, f72, f73, f74, f75, f76, f77, f78, f79, f80, f81, f82, f83, f84, f85, f86, f87, f88, f89, f90, f91⟩ := F
  exact ⟨am_eq, am_ne (by decide) f70, am_ne (by decide) f71, am_ne (by decide) f72, am_ne (by decide) f73, am_ne (by decide) f74, am_ne (by decide) f75, am_ne (by decide) f76, am_ne (by decide) f77, am_ne (by decide) f78, am_ne (by decide) f79, am_ne (by decide) f80, am_ne (by decide) f81, am_ne (by decide) f82, am_ne (by decide) f83, am_ne (by decide) f84, am_ne (by decide) f85, am_ne (by decide) f86, am_ne (by decide) f87, am_ne (by decide) f88, am_ne (by decide) f89, am_ne (by decide) f90, am_ne (by decide) f91⟩
theorem mr_o15 {o N : Nat → Int32} {a : Nat → Nat → Int32} {h : am_H} {v : Int32} (F : MR o N a h) : MR (upd o 15 v) N a (am_up h 69 (.inr (8, (MO o).set 15 (.int v)))) := by
  obtain ⟨f69, f70, f71, f72, f73, f74, f75, f76, f77, f78, f79, f80, f81, f82, f83, f84, f85, f86, f87, f88, f89, f90, f91⟩ := F
  exact ⟨am_eq, am_ne (by decide) f70, am_ne (by decide) f71, am_ne (by decide) f72, am_ne (by decide) f73, am_ne (by decide) f74, am_ne (by decide) f75, am_ne (by decide) f76, am_ne (by decide) f77, am_ne (by decide) f78, am_ne (by decide) f79, am_ne (by decide) f80, am_ne (by decide) f81, am_ne (by decide) f82, am_ne (by decide) f83, am_ne (by decide) f84, am_ne (by decide) f85, am_ne (by decide) f86, am_ne (by decide) f87, am_ne (by decide) f88, am_ne (by decide) f89, am_ne (by decide) f90, am_ne (by decide) f91⟩
theorem mr_o19 {o N : Nat → Int32} {a : Nat → Nat → Int32} {h : am_H} {v : Int32} (F : MR o N a h) : MR (upd o 19 v) N a (am_up h 69 (.inr (8, (MO o).set 19 (.int v)))) := by
  obtain ⟨f69, f70, f71, f72, f73, f74, f75, f76, f77, f78, f79, f80, f81, f82, f83, f84, f85, f86, f87, f88, f89, f90, f91⟩ := F
  exact ⟨am_eq, am_ne (by decide) f70, am_ne (by decide) f71, am_ne (by decide) f72, am_ne (by decide) f73, am_ne (by decide) f74, am_ne (by decide) f75, am_ne (by decide) f76, am_ne (by decide) f77, am_ne (by decide) f78, am_ne (by decide) f79, am_ne (by decide) f80, am_ne (by decide) f81, am_ne (by decide) f82, am_ne (by decide) f83, am_ne (by decide) f84, am_ne (by decide) f85, am_ne (by decide) f86, am_ne (by decide) f87, am_ne (by decide) f88, am_ne (by decide) f89, am_ne (by decide) f90, am_ne (by decide) f91⟩
theorem mr_o20 {o N : Nat → Int32} {a : Nat → Nat → Int32} {h : am_H} {v : Int32} (F : MR o N a h) : MR (upd o 20 v) N a (am_up h 69 (.inr (8, (MO o).set 20 (.int v)))) := by
  obtain ⟨f69, f70, f71, f72, f73, f74, f75, f76, f77, f78, f79, f80, f81, f82, f83, f84, f85, f86, f87, f88, f89, f90, f91⟩ := F
  exact ⟨am_eq, am_ne (by decide) f70, am_ne (by decide) f71, am_ne (by decide) f72, am_ne (by decide) f73, am_ne (by decide) f74, am_ne (by decide) f75, am_ne (by decide) f76, am_ne (by decide) f77, am_ne (by decide) f78, am_ne (by decide) f79, am_ne (by decide) f80, am_ne (by decide) f81, am_ne (by decide) f82, am_ne (by decide) f83, am_ne (by decide) f84, am_ne (by decide) f85, am_ne (by decide) f86, am_ne (by decide) f87, am_ne (by decide) f88, am_ne (by decide) f89, am_ne (by decide) f90, am_ne (by decide) f91⟩
theorem mr_o22 {o N : Nat → Int32} {a : Nat → Nat → Int32} {h : am_H} {v : Int32} (F : MR o N a h) : MR (upd o 22 v) N a (am_up h 69 (.inr (8, (MO o).set 22 (.int v)))) := by
  obtain ⟨f69, f70, f71, f72, f73, f74, f75, f76, f77, f78, f79, f80, f81, f82, f83, f84, f85, f86, f87, f88, f89, f90, f91⟩ := F
  exact ⟨am_eq, am_ne (by decide) f70, am_ne (by decide) f71, am_ne (by decide) f72, am_ne (by decide) f73, am_ne (by decide) f74, am_ne (by decide) f75, am_ne (by decide) f76, am_ne (by decide) f77, am_ne (by decide) f78, am_ne (by decide) f79, am_ne (by decide) f80, am_ne (by decide) f81, am_ne (by decide) f82, am_ne (by decide) f83, am_ne (by decide) f84, am_ne (by decide) f85, am_ne (by decide) f86, am_ne (by decide) f87, am_ne (by decide) f88, am_ne (by decide) f89, am_ne (by decide) f90, am_ne (by decide) f91⟩
theorem mr_o35 {o N : Nat → Int32} {a : Nat → Nat → Int32} {h : am_H} {v : Int32} (F : MR o N a h) : MR (upd o 35 v) N a (am_up h 69 (.inr (8, (MO o).set 35 (.int v)))) := by
  obtain ⟨f69, f70, f71, f72, f73, f74, f75, f76, f77, f78, f79, f80, f81, f82, f83, f84, f85, f86, f87, f88, f89, f90, f91⟩ := F
  exact ⟨am_eq, am_ne (by decide) f70, am_ne (by decide) f71, am_ne (by decide) f72, am_ne (by decide) f73, am_ne (by decide) f74, am_ne (by decide) f75, am_ne (by decide) f76, am_ne (by decide) f77, am_ne (by decide) f78, am_ne (by decide) f79, am_ne (by decide) f80, am_ne (by decide) f81, am_ne (by decide) f82, am_ne (by decide) f83, am_ne (by decide) f84, am_ne (by decide) f85, am_ne (by decide) f86, am_ne (by decide) f87, am_ne (by decide) f88, am_ne (by decide) f89, am_ne (by decide) f90, am_ne (by decide) f91⟩
set_option maxHeartbeats 4000000 in
set_option maxRecDepth 100000 in
theorem m_isFriend {X : List Int32} {d rc rs n : Nat} {Q : am_Q} {o N : Nat → Int32} {a : Nat → Nat → Int32} {h : am_H} {f : Int32} (F : MR o N a h) (k1 : wi f 0 (N 1 - 1) → Q (some (.int 1)) n h) (k0 : ¬ wi f 0 (N 1 - 1) → Q (some (.int 0)) n h) : AW X mX8_isFriend (d + 2) rc rs 0 [some (.ref 69), some (.int f)] [] n h Q := by
  refine aw_iload_n (npc := 1) rfl dX8_isFriend_0 rfl ?_
  refine aw_iconst (npc := 2) (v := 0) (by decide) dX8_isFriend_1 rfl ?_
  refine aw_aload_n (npc := 3) rfl dX8_isFriend_2 rfl ?_
  refine aw_get (npc := 6) dX8_isFriend_3 rfl kf_X8_9 F.1 rfl ?_
  refine aw_iconst (npc := 7) (v := 1) (by decide) dX8_isFriend_6 rfl ?_
  refine aw_iald (npc := 8) (x := N 1) (j := 1) dX8_isFriend_7 rfl F.2.1 ⟨by decide, by decide⟩ (tl_at (by omega)) ?_
  refine aw_iconst (npc := 9) (v := 1) (by decide) dX8_isFriend_8 rfl ?_
  refine aw_isub (npc := 10) dX8_isFriend_9 rfl ?_
  refine aw_callS (npc := 13) (N := mX8_in) (mc := 0) (ms := 0) (A := [.int f, .int 0, .int ((N 1) - 1)]) (S := []) (L0 := [some (.int f), some (.int 0), some (.int ((N 1) - 1))]) dX8_isFriend_10 rfl km_X8_in kk_X8_83 rfl ⟨rfl, by decide⟩ rfl (Nat.le_of_ble_eq_true rfl) (Nat.zero_add _) (Nat.zero_add _) rfl ?_
  refine c_X8_in (fun hw1 => ?_) (fun hw1 => ?_)
  · refine aw_re (S' := [.int 1]) rfl ?_
    refine aw_zret rfl rfl dX8_isFriend_13 ?_
    exact k1 hw1
  · refine aw_re (S' := [.int 0]) rfl ?_
    refine aw_zret rfl rfl dX8_isFriend_13 ?_
    exact k0 hw1
set_option maxHeartbeats 4000000 in
set_option maxRecDepth 100000 in
theorem m_draw {X : List Int32} {d rc rs n : Nat} {Q : am_Q} {o N : Nat → Int32} {a : Nat → Nat → Int32} {h : am_H} (F : MR o N a h) (hq : ∀ h9, MR o (drawN N) a h9 → am_fb 69 92 h9 h → Q (some (.int (drawV N))) n h9) : AW X mX8_draw (d + 0) rc rs 0 [some (.ref 69)] [] n h Q := by
  refine aw_aload_n (npc := 1) rfl dX8_draw_0 rfl ?_
  refine aw_get (npc := 4) dX8_draw_1 rfl kf_X8_9 F.1 rfl ?_
  refine aw_iconst (npc := 5) (v := 0) (by decide) dX8_draw_4 rfl ?_
  refine aw_aload_n (npc := 6) rfl dX8_draw_5 rfl ?_
  refine aw_get (npc := 9) dX8_draw_6 rfl kf_X8_9 F.1 rfl ?_
  refine aw_iconst (npc := 10) (v := 0) (by decide) dX8_draw_9 rfl ?_
  refine aw_iald (npc := 11) (x := N 0) (j := 0) dX8_draw_10 rfl F.2.1 ⟨by decide, by decide⟩ (tl_at (by omega)) ?_
  refine aw_ldc (npc := 13) kc_X8_138 dX8_draw_11 rfl ?_
  refine aw_imul (npc := 14) dX8_draw_13 rfl ?_
  refine aw_sipush (npc := 17) (v := 12345) (by decide) dX8_draw_14 rfl ?_
  refine aw_iadd (npc := 18) dX8_draw_17 rfl ?_
  refine aw_iast (npc := 19) (j := 0) dX8_draw_18 rfl F.2.1 ⟨by decide, by decide⟩ (by rw [tl_len]; omega) rfl ?_
  have F1 := mr_70 (j := 0) (v := ((N 0) * 1103515245) + 12345) F
  refine aw_aload_n (npc := 20) rfl dX8_draw_19 rfl ?_
  refine aw_get (npc := 23) dX8_draw_20 rfl kf_X8_9 F1.1 rfl ?_
  refine aw_iconst (npc := 24) (v := 0) (by decide) dX8_draw_23 rfl ?_
  refine aw_iald (npc := 25) (x := (upd N 0 (((N 0) * 1103515245) + 12345)) 0) (j := 0) dX8_draw_24 rfl F1.2.1 ⟨by decide, by decide⟩ (tl_at (by omega)) ?_
  refine aw_top (y := ((N 0) * 1103515245) + 12345) (pk_us) ?_
  refine aw_bipush (npc := 27) (v := 8) (by decide) dX8_draw_25 rfl ?_
  refine aw_iushr (npc := 28) dX8_draw_27 rfl ?_
  refine aw_iret rfl dX8_draw_28 ?_
  exact hq _ F1 (am_fbU (by omega) am_fb0)
set_option maxHeartbeats 4000000 in
set_option maxRecDepth 100000 in
theorem m_has0 {X : List Int32} {d rc rs n : Nat} {Q : am_Q} {o N : Nat → Int32} {a : Nat → Nat → Int32} {h : am_H} (F : MR o N a h) (hq : Q (some (.int (hs0 N))) n h) : AW X mX8_has (d + 2) rc rs 0 [some (.ref 69), some (.int 0), none, none, none] [] n h Q := by
  refine aw_iconst (npc := 1) (v := 0) (by decide) dX8_has_0 rfl ?_
  refine aw_istore_n (npc := 2) (L' := [some (.ref 69), some (.int 0), some (.int 0), none, none]) dX8_has_1 rfl (by decide) rfl rfl ?_
  refine aw_iconst (npc := 3) (v := 0) (by decide) dX8_has_2 rfl ?_
  refine aw_istore_n (npc := 4) (L' := [some (.ref 69), some (.int 0), some (.int 0), some (.int 0), none]) dX8_has_3 rfl (by decide) rfl rfl ?_
  refine aw_iload_n (npc := 5) rfl dX8_has_4 rfl ?_
  refine aw_iconst (npc := 6) (v := 4) (by decide) dX8_has_5 rfl ?_
  refine aw_icmp_ge (npc := 9) (tgt := 57) dX8_has_6 rfl (by decide) (fun hc => absurd hc (by decide)) (fun _ => ?_)
  refine aw_aload_n (npc := 10) rfl dX8_has_9 rfl ?_
  refine aw_get (npc := 13) dX8_has_10 rfl kf_X8_9 F.1 rfl ?_
  refine aw_bipush (npc := 15) (v := 8) (by decide) dX8_has_13 rfl ?_
  refine aw_iload_n (npc := 16) rfl dX8_has_15 rfl ?_
  refine aw_iaddV (npc := 17) (v := 8) dX8_has_16 rfl (by decide) ?_
  refine aw_iald (npc := 18) (x := N 8) (j := 8) dX8_has_17 rfl F.2.1 ⟨by decide, by decide⟩ (tl_at (by omega)) ?_
  refine aw_istore (npc := 20) (L' := [some (.ref 69), some (.int 0), some (.int 0), some (.int 0), some (.int (N 8))]) dX8_has_18 rfl (by decide) rfl rfl ?_
  refine aw_iload_n (npc := 21) rfl dX8_has_20 rfl ?_
  refine aw_aload_n (npc := 22) rfl dX8_has_21 rfl ?_
  refine aw_get (npc := 25) dX8_has_22 rfl kf_X8_9 F.1 rfl ?_
  refine aw_bipush (npc := 27) (v := 12) (by decide) dX8_has_25 rfl ?_
  refine aw_iconst (npc := 28) (v := 4) (by decide) dX8_has_27 rfl ?_
  refine aw_iload_n (npc := 29) rfl dX8_has_28 rfl ?_
  refine aw_imulV (npc := 30) (v := 0) dX8_has_29 rfl (by decide) ?_
  refine aw_iaddV (npc := 31) (v := 12) dX8_has_30 rfl (by decide) ?_
  refine aw_iload_n (npc := 32) rfl dX8_has_31 rfl ?_
  refine aw_iaddV (npc := 33) (v := 12) dX8_has_32 rfl (by decide) ?_
  refine aw_iald (npc := 34) (x := N 12) (j := 12) dX8_has_33 rfl F.2.1 ⟨by decide, by decide⟩ (tl_at (by omega)) ?_
  refine aw_iload_n (npc := 35) rfl dX8_has_34 rfl ?_
  refine aw_if_ne (npc := 38) (tgt := 43) dX8_has_35 rfl (by decide) (fun hc => absurd (by decide) hc) (fun _ => ?_)
  refine aw_iload (npc := 40) rfl dX8_has_38 rfl ?_
  refine aw_goto (npc := 48) dX8_has_40 (by decide) ?_
  refine aw_imul (npc := 49) dX8_has_48 rfl ?_
  refine aw_iadd (npc := 50) dX8_has_49 rfl ?_
  refine aw_istore_n (npc := 51) (L' := [some (.ref 69), some (.int 0), some (.int (0 + ((N 12) * (N 8)))), some (.int 0), some (.int (N 8))]) dX8_has_50 rfl (by decide) rfl rfl ?_
  refine aw_iinc (npc := 54) (v := 1) (L' := [some (.ref 69), some (.int 0), some (.int (0 + ((N 12) * (N 8)))), some (.int 1), some (.int (N 8))]) dX8_has_51 rfl rfl (by decide) (by decide) rfl rfl ?_
  refine aw_goto (npc := 4) dX8_has_54 (by decide) ?_
  refine aw_iload_n (npc := 5) rfl dX8_has_4 rfl ?_
  refine aw_iconst (npc := 6) (v := 4) (by decide) dX8_has_5 rfl ?_
  refine aw_icmp_ge (npc := 9) (tgt := 57) dX8_has_6 rfl (by decide) (fun hc => absurd hc (by decide)) (fun _ => ?_)
  refine aw_aload_n (npc := 10) rfl dX8_has_9 rfl ?_
  refine aw_get (npc := 13) dX8_has_10 rfl kf_X8_9 F.1 rfl ?_
  refine aw_bipush (npc := 15) (v := 8) (by decide) dX8_has_13 rfl ?_
  refine aw_iload_n (npc := 16) rfl dX8_has_15 rfl ?_
  refine aw_iaddV (npc := 17) (v := 9) dX8_has_16 rfl (by decide) ?_
  refine aw_iald (npc := 18) (x := N 9) (j := 9) dX8_has_17 rfl F.2.1 ⟨by decide, by decide⟩ (tl_at (by omega)) ?_
  refine aw_istore (npc := 20) (L' := [some (.ref 69), some (.int 0), some (.int (0 + ((N 12) * (N 8)))), some (.int 1), some (.int (N 9))]) dX8_has_18 rfl (by decide) rfl rfl ?_
  refine aw_iload_n (npc := 21) rfl dX8_has_20 rfl ?_
  refine aw_aload_n (npc := 22) rfl dX8_has_21 rfl ?_
  refine aw_get (npc := 25) dX8_has_22 rfl kf_X8_9 F.1 rfl ?_
  refine aw_bipush (npc := 27) (v := 12) (by decide) dX8_has_25 rfl ?_
  refine aw_iconst (npc := 28) (v := 4) (by decide) dX8_has_27 rfl ?_
  refine aw_iload_n (npc := 29) rfl dX8_has_28 rfl ?_
  refine aw_imulV (npc := 30) (v := 0) dX8_has_29 rfl (by decide) ?_
  refine aw_iaddV (npc := 31) (v := 12) dX8_has_30 rfl (by decide) ?_
  refine aw_iload_n (npc := 32) rfl dX8_has_31 rfl ?_
  refine aw_iaddV (npc := 33) (v := 13) dX8_has_32 rfl (by decide) ?_
  refine aw_iald (npc := 34) (x := N 13) (j := 13) dX8_has_33 rfl F.2.1 ⟨by decide, by decide⟩ (tl_at (by omega)) ?_
  refine aw_iload_n (npc := 35) rfl dX8_has_34 rfl ?_
  refine aw_if_ne (npc := 38) (tgt := 43) dX8_has_35 rfl (by decide) (fun hc => absurd (by decide) hc) (fun _ => ?_)
  refine aw_iload (npc := 40) rfl dX8_has_38 rfl ?_
  refine aw_goto (npc := 48) dX8_has_40 (by decide) ?_
  refine aw_imul (npc := 49) dX8_has_48 rfl ?_
  refine aw_iadd (npc := 50) dX8_has_49 rfl ?_
  refine aw_istore_n (npc := 51) (L' := [some (.ref 69), some (.int 0), some (.int ((0 + ((N 12) * (N 8))) + ((N 13) * (N 9)))), some (.int 1), some (.int (N 9))]) dX8_has_50 rfl (by decide) rfl rfl ?_
  refine aw_iinc (npc := 54) (v := 2) (L' := [some (.ref 69), some (.int 0), some (.int ((0 + ((N 12) * (N 8))) + ((N 13) * (N 9)))), some (.int 2), some (.int (N 9))]) dX8_has_51 rfl rfl (by decide) (by decide) rfl rfl ?_
  refine aw_goto (npc := 4) dX8_has_54 (by decide) ?_
  refine aw_iload_n (npc := 5) rfl dX8_has_4 rfl ?_
  refine aw_iconst (npc := 6) (v := 4) (by decide) dX8_has_5 rfl ?_
  refine aw_icmp_ge (npc := 9) (tgt := 57) dX8_has_6 rfl (by decide) (fun hc => absurd hc (by decide)) (fun _ => ?_)
  refine aw_aload_n (npc := 10) rfl dX8_has_9 rfl ?_
  refine aw_get (npc := 13) dX8_has_10 rfl kf_X8_9 F.1 rfl ?_
  refine aw_bipush (npc := 15) (v := 8) (by decide) dX8_has_13 rfl ?_
  refine aw_iload_n (npc := 16) rfl dX8_has_15 rfl ?_
  refine aw_iaddV (npc := 17) (v := 10) dX8_has_16 rfl (by decide) ?_
  refine aw_iald (npc := 18) (x := N 10) (j := 10) dX8_has_17 rfl F.2.1 ⟨by decide, by decide⟩ (tl_at (by omega)) ?_
  refine aw_istore (npc := 20) (L' := [some (.ref 69), some (.int 0), some (.int ((0 + ((N 12) * (N 8))) + ((N 13) * (N 9)))), some (.int 2), some (.int (N 10))]) dX8_has_18 rfl (by decide) rfl rfl ?_
  refine aw_iload_n (npc := 21) rfl dX8_has_20 rfl ?_
  refine aw_aload_n (npc := 22) rfl dX8_has_21 rfl ?_
  refine aw_get (npc := 25) dX8_has_22 rfl kf_X8_9 F.1 rfl ?_
  refine aw_bipush (npc := 27) (v := 12) (by decide) dX8_has_25 rfl ?_
  refine aw_iconst (npc := 28) (v := 4) (by decide) dX8_has_27 rfl ?_
  refine aw_iload_n (npc := 29) rfl dX8_has_28 rfl ?_
  refine aw_imulV (npc := 30) (v := 0) dX8_has_29 rfl (by decide) ?_
  refine aw_iaddV (npc := 31) (v := 12) dX8_has_30 rfl (by decide) ?_
  refine aw_iload_n (npc := 32) rfl dX8_has_31 rfl ?_
  refine aw_iaddV (npc := 33) (v := 14) dX8_has_32 rfl (by decide) ?_
  refine aw_iald (npc := 34) (x := N 14) (j := 14) dX8_has_33 rfl F.2.1 ⟨by decide, by decide⟩ (tl_at (by omega)) ?_
  refine aw_iload_n (npc := 35) rfl dX8_has_34 rfl ?_
  refine aw_if_ne (npc := 38) (tgt := 43) dX8_has_35 rfl (by decide) (fun hc => absurd (by decide) hc) (fun _ => ?_)
  refine aw_iload (npc := 40) rfl dX8_has_38 rfl ?_
  refine aw_goto (npc := 48) dX8_has_40 (by decide) ?_
  refine aw_imul (npc := 49) dX8_has_48 rfl ?_
  refine aw_iadd (npc := 50) dX8_has_49 rfl ?_
  refine aw_istore_n (npc := 51) (L' := [some (.ref 69), some (.int 0), some (.int (((0 + ((N 12) * (N 8))) + ((N 13) * (N 9))) + ((N 14) * (N 10)))), some (.int 2), some (.int (N 10))]) dX8_has_50 rfl (by decide) rfl rfl ?_
  refine aw_iinc (npc := 54) (v := 3) (L' := [some (.ref 69), some (.int 0), some (.int (((0 + ((N 12) * (N 8))) + ((N 13) * (N 9))) + ((N 14) * (N 10)))), some (.int 3), some (.int (N 10))]) dX8_has_51 rfl rfl (by decide) (by decide) rfl rfl ?_
  refine aw_goto (npc := 4) dX8_has_54 (by decide) ?_
  refine aw_iload_n (npc := 5) rfl dX8_has_4 rfl ?_
  refine aw_iconst (npc := 6) (v := 4) (by decide) dX8_has_5 rfl ?_
  refine aw_icmp_ge (npc := 9) (tgt := 57) dX8_has_6 rfl (by decide) (fun hc => absurd hc (by decide)) (fun _ => ?_)
  refine aw_aload_n (npc := 10) rfl dX8_has_9 rfl ?_
  refine aw_get (npc := 13) dX8_has_10 rfl kf_X8_9 F.1 rfl ?_
  refine aw_bipush (npc := 15) (v := 8) (by decide) dX8_has_13 rfl ?_
  refine aw_iload_n (npc := 16) rfl dX8_has_15 rfl ?_
  refine aw_iaddV (npc := 17) (v := 11) dX8_has_16 rfl (by decide) ?_
  refine aw_iald (npc := 18) (x := N 11) (j := 11) dX8_has_17 rfl F.2.1 ⟨by decide, by decide⟩ (tl_at (by omega)) ?_
  refine aw_istore (npc := 20) (L' := [some (.ref 69), some (.int 0), some (.int (((0 + ((N 12) * (N 8))) + ((N 13) * (N 9))) + ((N 14) * (N 10)))), some (.int 3), some (.int (N 11))]) dX8_has_18 rfl (by decide) rfl rfl ?_
  refine aw_iload_n (npc := 21) rfl dX8_has_20 rfl ?_
  refine aw_aload_n (npc := 22) rfl dX8_has_21 rfl ?_
  refine aw_get (npc := 25) dX8_has_22 rfl kf_X8_9 F.1 rfl ?_
  refine aw_bipush (npc := 27) (v := 12) (by decide) dX8_has_25 rfl ?_
  refine aw_iconst (npc := 28) (v := 4) (by decide) dX8_has_27 rfl ?_
  refine aw_iload_n (npc := 29) rfl dX8_has_28 rfl ?_
  refine aw_imulV (npc := 30) (v := 0) dX8_has_29 rfl (by decide) ?_
  refine aw_iaddV (npc := 31) (v := 12) dX8_has_30 rfl (by decide) ?_
  refine aw_iload_n (npc := 32) rfl dX8_has_31 rfl ?_
  refine aw_iaddV (npc := 33) (v := 15) dX8_has_32 rfl (by decide) ?_
  refine aw_iald (npc := 34) (x := N 15) (j := 15) dX8_has_33 rfl F.2.1 ⟨by decide, by decide⟩ (tl_at (by omega)) ?_
  refine aw_iload_n (npc := 35) rfl dX8_has_34 rfl ?_
  refine aw_if_ne (npc := 38) (tgt := 43) dX8_has_35 rfl (by decide) (fun hc => absurd (by decide) hc) (fun _ => ?_)
  refine aw_iload (npc := 40) rfl dX8_has_38 rfl ?_
  refine aw_goto (npc := 48) dX8_has_40 (by decide) ?_
  refine aw_imul (npc := 49) dX8_has_48 rfl ?_
  refine aw_iadd (npc := 50) dX8_has_49 rfl ?_
  refine aw_istore_n (npc := 51) (L' := [some (.ref 69), some (.int 0), some (.int ((((0 + ((N 12) * (N 8))) + ((N 13) * (N 9))) + ((N 14) * (N 10))) + ((N 15) * (N 11)))), some (.int 3), some (.int (N 11))]) dX8_has_50 rfl (by decide) rfl rfl ?_
  refine aw_iinc (npc := 54) (v := 4) (L' := [some (.ref 69), some (.int 0), some (.int ((((0 + ((N 12) * (N 8))) + ((N 13) * (N 9))) + ((N 14) * (N 10))) + ((N 15) * (N 11)))), some (.int 4), some (.int (N 11))]) dX8_has_51 rfl rfl (by decide) (by decide) rfl rfl ?_
  refine aw_goto (npc := 4) dX8_has_54 (by decide) ?_
  refine aw_iload_n (npc := 5) rfl dX8_has_4 rfl ?_
  refine aw_iconst (npc := 6) (v := 4) (by decide) dX8_has_5 rfl ?_
  refine aw_icmp_ge (npc := 9) (tgt := 57) dX8_has_6 rfl (by decide) (fun _ => ?_) (fun hc => absurd (by decide) hc)
  refine aw_iload_n (npc := 58) rfl dX8_has_57 rfl ?_
  refine aw_iret rfl dX8_has_58 ?_
  exact hq
set_option maxHeartbeats 4000000 in
set_option maxRecDepth 100000 in
theorem m_has1 {X : List Int32} {d rc rs n : Nat} {Q : am_Q} {o N : Nat → Int32} {a : Nat → Nat → Int32} {h : am_H} (F : MR o N a h) (hq : Q (some (.int (hs1 N))) n h) : AW X mX8_has (d + 2) rc rs 0 [some (.ref 69), some (.int 1), none, none, none] [] n h Q := by
  refine aw_iconst (npc := 1) (v := 0) (by decide) dX8_has_0 rfl ?_
  refine aw_istore_n (npc := 2) (L' := [some (.ref 69), some (.int 1), some (.int 0), none, none]) dX8_has_1 rfl (by decide) rfl rfl ?_
  refine aw_iconst (npc := 3) (v := 0) (by decide) dX8_has_2 rfl ?_
  refine aw_istore_n (npc := 4) (L' := [some (.ref 69), some (.int 1), some (.int 0), some (.int 0), none]) dX8_has_3 rfl (by decide) rfl rfl ?_
  refine aw_iload_n (npc := 5) rfl dX8_has_4 rfl ?_
  refine aw_iconst (npc := 6) (v := 4) (by decide) dX8_has_5 rfl ?_
  refine aw_icmp_ge (npc := 9) (tgt := 57) dX8_has_6 rfl (by decide) (fun hc => absurd hc (by decide)) (fun _ => ?_)
  refine aw_aload_n (npc := 10) rfl dX8_has_9 rfl ?_
  refine aw_get (npc := 13) dX8_has_10 rfl kf_X8_9 F.1 rfl ?_
  refine aw_bipush (npc := 15) (v := 8) (by decide) dX8_has_13 rfl ?_
  refine aw_iload_n (npc := 16) rfl dX8_has_15 rfl ?_
  refine aw_iaddV (npc := 17) (v := 8) dX8_has_16 rfl (by decide) ?_
  refine aw_iald (npc := 18) (x := N 8) (j := 8) dX8_has_17 rfl F.2.1 ⟨by decide, by decide⟩ (tl_at (by omega)) ?_
  refine aw_istore (npc := 20) (L' := [some (.ref 69), some (.int 1), some (.int 0), some (.int 0), some (.int (N 8))]) dX8_has_18 rfl (by decide) rfl rfl ?_
  refine aw_iload_n (npc := 21) rfl dX8_has_20 rfl ?_
  refine aw_aload_n (npc := 22) rfl dX8_has_21 rfl ?_
  refine aw_get (npc := 25) dX8_has_22 rfl kf_X8_9 F.1 rfl ?_
  refine aw_bipush (npc := 27) (v := 12) (by decide) dX8_has_25 rfl ?_
  refine aw_iconst (npc := 28) (v := 4) (by decide) dX8_has_27 rfl ?_
  refine aw_iload_n (npc := 29) rfl dX8_has_28 rfl ?_
  refine aw_imulV (npc := 30) (v := 4) dX8_has_29 rfl (by decide) ?_
  refine aw_iaddV (npc := 31) (v := 16) dX8_has_30 rfl (by decide) ?_
  refine aw_iload_n (npc := 32) rfl dX8_has_31 rfl ?_
  refine aw_iaddV (npc := 33) (v := 16) dX8_has_32 rfl (by decide) ?_
  refine aw_iald (npc := 34) (x := N 16) (j := 16) dX8_has_33 rfl F.2.1 ⟨by decide, by decide⟩ (tl_at (by omega)) ?_
  refine aw_iload_n (npc := 35) rfl dX8_has_34 rfl ?_
  refine aw_if_ne (npc := 38) (tgt := 43) dX8_has_35 rfl (by decide) (fun _ => ?_) (fun hc => absurd hc (by decide))
  refine aw_bipush (npc := 45) (v := 9) (by decide) dX8_has_43 rfl ?_
  refine aw_iload (npc := 47) rfl dX8_has_45 rfl ?_
  refine aw_isub (npc := 48) dX8_has_47 rfl ?_
  refine aw_imul (npc := 49) dX8_has_48 rfl ?_
  refine aw_iadd (npc := 50) dX8_has_49 rfl ?_
  refine aw_istore_n (npc := 51) (L' := [some (.ref 69), some (.int 1), some (.int (0 + ((N 16) * (9 - (N 8))))), some (.int 0), some (.int (N 8))]) dX8_has_50 rfl (by decide) rfl rfl ?_
  refine aw_iinc (npc := 54) (v := 1) (L' := [some (.ref 69), some (.int 1), some (.int (0 + ((N 16) * (9 - (N 8))))), some (.int 1), some (.int (N 8))]) dX8_has_51 rfl rfl (by decide) (by decide) rfl rfl ?_
  refine aw_goto (npc := 4) dX8_has_54 (by decide) ?_
  refine aw_iload_n (npc := 5) rfl dX8_has_4 rfl ?_
  refine aw_iconst (npc := 6) (v := 4) (by decide) dX8_has_5 rfl ?_
  refine aw_icmp_ge (npc := 9) (tgt := 57) dX8_has_6 rfl (by decide) (fun hc => absurd hc (by decide)) (fun _ => ?_)
  refine aw_aload_n (npc := 10) rfl dX8_has_9 rfl ?_
  refine aw_get (npc := 13) dX8_has_10 rfl kf_X8_9 F.1 rfl ?_
  refine aw_bipush (npc := 15) (v := 8) (by decide) dX8_has_13 rfl ?_
  refine aw_iload_n (npc := 16) rfl dX8_has_15 rfl ?_
  refine aw_iaddV (npc := 17) (v := 9) dX8_has_16 rfl (by decide) ?_
  refine aw_iald (npc := 18) (x := N 9) (j := 9) dX8_has_17 rfl F.2.1 ⟨by decide, by decide⟩ (tl_at (by omega)) ?_
  refine aw_istore (npc := 20) (L' := [some (.ref 69), some (.int 1), some (.int (0 + ((N 16) * (9 - (N 8))))), some (.int 1), some (.int (N 9))]) dX8_has_18 rfl (by decide) rfl rfl ?_
  refine aw_iload_n (npc := 21) rfl dX8_has_20 rfl ?_
  refine aw_aload_n (npc := 22) rfl dX8_has_21 rfl ?_
  refine aw_get (npc := 25) dX8_has_22 rfl kf_X8_9 F.1 rfl ?_
  refine aw_bipush (npc := 27) (v := 12) (by decide) dX8_has_25 rfl ?_
  refine aw_iconst (npc := 28) (v := 4) (by decide) dX8_has_27 rfl ?_
  refine aw_iload_n (npc := 29) rfl dX8_has_28 rfl ?_
  refine aw_imulV (npc := 30) (v := 4) dX8_has_29 rfl (by decide) ?_
  refine aw_iaddV (npc := 31) (v := 16) dX8_has_30 rfl (by decide) ?_
  refine aw_iload_n (npc := 32) rfl dX8_has_31 rfl ?_
  refine aw_iaddV (npc := 33) (v := 17) dX8_has_32 rfl (by decide) ?_
  refine aw_iald (npc := 34) (x := N 17) (j := 17) dX8_has_33 rfl F.2.1 ⟨by decide, by decide⟩ (tl_at (by omega)) ?_
  refine aw_iload_n (npc := 35) rfl dX8_has_34 rfl ?_
  refine aw_if_ne (npc := 38) (tgt := 43) dX8_has_35 rfl (by decide) (fun _ => ?_) (fun hc => absurd hc (by decide))
  refine aw_bipush (npc := 45) (v := 9) (by decide) dX8_has_43 rfl ?_
  refine aw_iload (npc := 47) rfl dX8_has_45 rfl ?_
  refine aw_isub (npc := 48) dX8_has_47 rfl ?_
  refine aw_imul (npc := 49) dX8_has_48 rfl ?_
  refine aw_iadd (npc := 50) dX8_has_49 rfl ?_
  refine aw_istore_n (npc := 51) (L' := [some (.ref 69), some (.int 1), some (.int ((0 + ((N 16) * (9 - (N 8)))) + ((N 17) * (9 - (N 9))))), some (.int 1), some (.int (N 9))]) dX8_has_50 rfl (by decide) rfl rfl ?_
  refine aw_iinc (npc := 54) (v := 2) (L' := [some (.ref 69), some (.int 1), some (.int ((0 + ((N 16) * (9 - (N 8)))) + ((N 17) * (9 - (N 9))))), some (.int 2), some (.int (N 9))]) dX8_has_51 rfl rfl (by decide) (by decide) rfl rfl ?_
  refine aw_goto (npc := 4) dX8_has_54 (by decide) ?_
  refine aw_iload_n (npc := 5) rfl dX8_has_4 rfl ?_
  refine aw_iconst (npc := 6) (v := 4) (by decide) dX8_has_5 rfl ?_
  refine aw_icmp_ge (npc := 9) (tgt := 57) dX8_has_6 rfl (by decide) (fun hc => absurd hc (by decide)) (fun _ => ?_)
  refine aw_aload_n (npc := 10) rfl dX8_has_9 rfl ?_
  refine aw_get (npc := 13) dX8_has_10 rfl kf_X8_9 F.1 rfl ?_
  refine aw_bipush (npc := 15) (v := 8) (by decide) dX8_has_13 rfl ?_
  refine aw_iload_n (npc := 16) rfl dX8_has_15 rfl ?_
  refine aw_iaddV (npc := 17) (v := 10) dX8_has_16 rfl (by decide) ?_
  refine aw_iald (npc := 18) (x := N 10) (j := 10) dX8_has_17 rfl F.2.1 ⟨by decide, by decide⟩ (tl_at (by omega)) ?_
  refine aw_istore (npc := 20) (L' := [some (.ref 69), some (.int 1), some (.int ((0 + ((N 16) * (9 - (N 8)))) + ((N 17) * (9 - (N 9))))), some (.int 2), some (.int (N 10))]) dX8_has_18 rfl (by decide) rfl rfl ?_
  refine aw_iload_n (npc := 21) rfl dX8_has_20 rfl ?_
  refine aw_aload_n (npc := 22) rfl dX8_has_21 rfl ?_
  refine aw_get (npc := 25) dX8_has_22 rfl kf_X8_9 F.1 rfl ?_
  refine aw_bipush (npc := 27) (v := 12) (by decide) dX8_has_25 rfl ?_
  refine aw_iconst (npc := 28) (v := 4) (by decide) dX8_has_27 rfl ?_
  refine aw_iload_n (npc := 29) rfl dX8_has_28 rfl ?_
  refine aw_imulV (npc := 30) (v := 4) dX8_has_29 rfl (by decide) ?_
  refine aw_iaddV (npc := 31) (v := 16) dX8_has_30 rfl (by decide) ?_
  refine aw_iload_n (npc := 32) rfl dX8_has_31 rfl ?_
  refine aw_iaddV (npc := 33) (v := 18) dX8_has_32 rfl (by decide) ?_
  refine aw_iald (npc := 34) (x := N 18) (j := 18) dX8_has_33 rfl F.2.1 ⟨by decide, by decide⟩ (tl_at (by omega)) ?_
  refine aw_iload_n (npc := 35) rfl dX8_has_34 rfl ?_
  refine aw_if_ne (npc := 38) (tgt := 43) dX8_has_35 rfl (by decide) (fun _ => ?_) (fun hc => absurd hc (by decide))
  refine aw_bipush (npc := 45) (v := 9) (by decide) dX8_has_43 rfl ?_
  refine aw_iload (npc := 47) rfl dX8_has_45 rfl ?_
  refine aw_isub (npc := 48) dX8_has_47 rfl ?_
  refine aw_imul (npc := 49) dX8_has_48 rfl ?_
  refine aw_iadd (npc := 50) dX8_has_49 rfl ?_
  refine aw_istore_n (npc := 51) (L' := [some (.ref 69), some (.int 1), some (.int (((0 + ((N 16) * (9 - (N 8)))) + ((N 17) * (9 - (N 9)))) + ((N 18) * (9 - (N 10))))), some (.int 2), some (.int (N 10))]) dX8_has_50 rfl (by decide) rfl rfl ?_
  refine aw_iinc (npc := 54) (v := 3) (L' := [some (.ref 69), some (.int 1), some (.int (((0 + ((N 16) * (9 - (N 8)))) + ((N 17) * (9 - (N 9)))) + ((N 18) * (9 - (N 10))))), some (.int 3), some (.int (N 10))]) dX8_has_51 rfl rfl (by decide) (by decide) rfl rfl ?_
  refine aw_goto (npc := 4) dX8_has_54 (by decide) ?_
  refine aw_iload_n (npc := 5) rfl dX8_has_4 rfl ?_
  refine aw_iconst (npc := 6) (v := 4) (by decide) dX8_has_5 rfl ?_
  refine aw_icmp_ge (npc := 9) (tgt := 57) dX8_has_6 rfl (by decide) (fun hc => absurd hc (by decide)) (fun _ => ?_)
  refine aw_aload_n (npc := 10) rfl dX8_has_9 rfl ?_
  refine aw_get (npc := 13) dX8_has_10 rfl kf_X8_9 F.1 rfl ?_
  refine aw_bipush (npc := 15) (v := 8) (by decide) dX8_has_13 rfl ?_
  refine aw_iload_n (npc := 16) rfl dX8_has_15 rfl ?_
  refine aw_iaddV (npc := 17) (v := 11) dX8_has_16 rfl (by decide) ?_
  refine aw_iald (npc := 18) (x := N 11) (j := 11) dX8_has_17 rfl F.2.1 ⟨by decide, by decide⟩ (tl_at (by omega)) ?_
  refine aw_istore (npc := 20) (L' := [some (.ref 69), some (.int 1), some (.int (((0 + ((N 16) * (9 - (N 8)))) + ((N 17) * (9 - (N 9)))) + ((N 18) * (9 - (N 10))))), some (.int 3), some (.int (N 11))]) dX8_has_18 rfl (by decide) rfl rfl ?_
  refine aw_iload_n (npc := 21) rfl dX8_has_20 rfl ?_
  refine aw_aload_n (npc := 22) rfl dX8_has_21 rfl ?_
  refine aw_get (npc := 25) dX8_has_22 rfl kf_X8_9 F.1 rfl ?_
  refine aw_bipush (npc := 27) (v := 12) (by decide) dX8_has_25 rfl ?_
  refine aw_iconst (npc := 28) (v := 4) (by decide) dX8_has_27 rfl ?_
  refine aw_iload_n (npc := 29) rfl dX8_has_28 rfl ?_
  refine aw_imulV (npc := 30) (v := 4) dX8_has_29 rfl (by decide) ?_
  refine aw_iaddV (npc := 31) (v := 16) dX8_has_30 rfl (by decide) ?_
  refine aw_iload_n (npc := 32) rfl dX8_has_31 rfl ?_
  refine aw_iaddV (npc := 33) (v := 19) dX8_has_32 rfl (by decide) ?_
  refine aw_iald (npc := 34) (x := N 19) (j := 19) dX8_has_33 rfl F.2.1 ⟨by decide, by decide⟩ (tl_at (by omega)) ?_
  refine aw_iload_n (npc := 35) rfl dX8_has_34 rfl ?_
  refine aw_if_ne (npc := 38) (tgt := 43) dX8_has_35 rfl (by decide) (fun _ => ?_) (fun hc => absurd hc (by decide))
  refine aw_bipush (npc := 45) (v := 9) (by decide) dX8_has_43 rfl ?_
  refine aw_iload (npc := 47) rfl dX8_has_45 rfl ?_
  refine aw_isub (npc := 48) dX8_has_47 rfl ?_
  refine aw_imul (npc := 49) dX8_has_48 rfl ?_
  refine aw_iadd (npc := 50) dX8_has_49 rfl ?_
  refine aw_istore_n (npc := 51) (L' := [some (.ref 69), some (.int 1), some (.int ((((0 + ((N 16) * (9 - (N 8)))) + ((N 17) * (9 - (N 9)))) + ((N 18) * (9 - (N 10)))) + ((N 19) * (9 - (N 11))))), some (.int 3), some (.int (N 11))]) dX8_has_50 rfl (by decide) rfl rfl ?_
  refine aw_iinc (npc := 54) (v := 4) (L' := [some (.ref 69), some (.int 1), some (.int ((((0 + ((N 16) * (9 - (N 8)))) + ((N 17) * (9 - (N 9)))) + ((N 18) * (9 - (N 10)))) + ((N 19) * (9 - (N 11))))), some (.int 4), some (.int (N 11))]) dX8_has_51 rfl rfl (by decide) (by decide) rfl rfl ?_
  refine aw_goto (npc := 4) dX8_has_54 (by decide) ?_
  refine aw_iload_n (npc := 5) rfl dX8_has_4 rfl ?_
  refine aw_iconst (npc := 6) (v := 4) (by decide) dX8_has_5 rfl ?_
  refine aw_icmp_ge (npc := 9) (tgt := 57) dX8_has_6 rfl (by decide) (fun _ => ?_) (fun hc => absurd (by decide) hc)
  refine aw_iload_n (npc := 58) rfl dX8_has_57 rfl ?_
  refine aw_iret rfl dX8_has_58 ?_
  exact hq
set_option maxHeartbeats 4000000 in
set_option maxRecDepth 100000 in
theorem m_peace {X : List Int32} {d rc rs n : Nat} {Q : am_Q} {o N : Nat → Int32} {a : Nat → Nat → Int32} {h : am_H} (F : MR o N a h) (k1 : peace N → Q (some (.int 1)) n h) (k0 : ¬ peace N → Q (some (.int 0)) n h) : AW X mX8_isPeace (d + 4) rc rs 0 [some (.ref 69)] [] n h Q := by
  refine aw_aload_n (npc := 1) rfl dX8_isPeace_0 rfl ?_
  refine aw_iconst (npc := 2) (v := 0) (by decide) dX8_isPeace_1 rfl ?_
  refine aw_callV (npc := 5) (N := mX8_has) (b := 69) (mc := 0) (ms := 0) (A := [.int 0]) (S := []) (L0 := [some (.ref 69), some (.int 0), none, none, none]) dX8_isPeace_2 rfl km_X8_has kk_X8_143 F.1 ⟨by decide, rfl⟩ rfl ⟨rfl, by decide⟩ rfl (Nat.le_of_ble_eq_true rfl) (Nat.zero_add _) (Nat.zero_add _) rfl ?_
  refine m_has0 F ?_
  refine aw_re (S' := [.int (hs0 N)]) rfl ?_
  refine aw_aload_n (npc := 6) rfl dX8_isPeace_5 rfl ?_
  refine aw_get (npc := 9) dX8_isPeace_6 rfl kf_X8_9 F.1 rfl ?_
  refine aw_bipush (npc := 11) (v := 20) (by decide) dX8_isPeace_9 rfl ?_
  refine aw_iald (npc := 12) (x := N 20) (j := 20) dX8_isPeace_11 rfl F.2.1 ⟨by decide, by decide⟩ (tl_at (by omega)) ?_
  refine aw_icmp_lt (npc := 15) (tgt := 34) dX8_isPeace_12 rfl (by decide) (fun hc1 => ?_) (fun hc1 => ?_)
  · refine aw_iconst (npc := 35) (v := 0) (by decide) dX8_isPeace_34 rfl ?_
    refine aw_zret rfl rfl dX8_isPeace_35 ?_
    exact k0 (fun h9 => h9.1 hc1)
  · refine aw_aload_n (npc := 16) rfl dX8_isPeace_15 rfl ?_
    refine aw_iconst (npc := 17) (v := 1) (by decide) dX8_isPeace_16 rfl ?_
    refine aw_callV (npc := 20) (N := mX8_has) (b := 69) (mc := 0) (ms := 0) (A := [.int 1]) (S := []) (L0 := [some (.ref 69), some (.int 1), none, none, none]) dX8_isPeace_17 rfl km_X8_has kk_X8_143 F.1 ⟨by decide, rfl⟩ rfl ⟨rfl, by decide⟩ rfl (Nat.le_of_ble_eq_true rfl) (Nat.zero_add _) (Nat.zero_add _) rfl ?_
    refine m_has1 F ?_
    refine aw_re (S' := [.int (hs1 N)]) rfl ?_
    refine aw_aload_n (npc := 21) rfl dX8_isPeace_20 rfl ?_
    refine aw_get (npc := 24) dX8_isPeace_21 rfl kf_X8_9 F.1 rfl ?_
    refine aw_bipush (npc := 26) (v := 21) (by decide) dX8_isPeace_24 rfl ?_
    refine aw_iald (npc := 27) (x := N 21) (j := 21) dX8_isPeace_26 rfl F.2.1 ⟨by decide, by decide⟩ (tl_at (by omega)) ?_
    refine aw_icmp_lt (npc := 30) (tgt := 34) dX8_isPeace_27 rfl (by decide) (fun hc2 => ?_) (fun hc2 => ?_)
    · refine aw_iconst (npc := 35) (v := 0) (by decide) dX8_isPeace_34 rfl ?_
      refine aw_zret rfl rfl dX8_isPeace_35 ?_
      exact k0 (fun h9 => h9.2 hc2)
    · refine aw_iconst (npc := 31) (v := 1) (by decide) dX8_isPeace_30 rfl ?_
      refine aw_goto (npc := 35) dX8_isPeace_31 (by decide) ?_
      refine aw_zret rfl rfl dX8_isPeace_35 ?_
      exact k1 ⟨hc1, hc2⟩
def msnum (N : Nat → Int32) : Int32 := 10 * (10 * (10 * (0 + N 8) + N 9) + N 10) + N 11
theorem msnum_eq (N : Nat → Int32) : msnum N = snum N := by
  have e : (0 : Int32) * 10 = 0 := by decide
  unfold msnum snum
  rw [e, Int32.mul_comm 10 (0 + N 8), Int32.mul_comm 10 ((0 + N 8) * 10 + N 9), Int32.mul_comm 10 (((0 + N 8) * 10 + N 9) * 10 + N 10)]
set_option maxHeartbeats 4000000 in
set_option maxRecDepth 100000 in
theorem m_stands {X : List Int32} {d rc rs n : Nat} {Q : am_Q} {o N : Nat → Int32} {a : Nat → Nat → Int32} {h : am_H} (F : MR o N a h) (hq : Q (some (.int (snum N))) n h) : AW X mX8_stands (d + 0) rc rs 0 [some (.ref 69), none, none] [] n h Q := by
  refine aw_iconst (npc := 1) (v := 0) (by decide) dX8_stands_0 rfl ?_
  refine aw_istore_n (npc := 2) (L' := [some (.ref 69), some (.int 0), none]) dX8_stands_1 rfl (by decide) rfl rfl ?_
  refine aw_iconst (npc := 3) (v := 0) (by decide) dX8_stands_2 rfl ?_
  refine aw_istore_n (npc := 4) (L' := [some (.ref 69), some (.int 0), some (.int 0)]) dX8_stands_3 rfl (by decide) rfl rfl ?_
  refine aw_iload_n (npc := 5) rfl dX8_stands_4 rfl ?_
  refine aw_iconst (npc := 6) (v := 4) (by decide) dX8_stands_5 rfl ?_
  refine aw_icmp_ge (npc := 9) (tgt := 30) dX8_stands_6 rfl (by decide) (fun hc => absurd hc (by decide)) (fun _ => ?_)
  refine aw_bipush (npc := 11) (v := 10) (by decide) dX8_stands_9 rfl ?_
  refine aw_iload_n (npc := 12) rfl dX8_stands_11 rfl ?_
  refine aw_imulV (npc := 13) (v := 0) dX8_stands_12 rfl (by decide) ?_
  refine aw_aload_n (npc := 14) rfl dX8_stands_13 rfl ?_
  refine aw_get (npc := 17) dX8_stands_14 rfl kf_X8_9 F.1 rfl ?_
  refine aw_bipush (npc := 19) (v := 8) (by decide) dX8_stands_17 rfl ?_
  refine aw_iload_n (npc := 20) rfl dX8_stands_19 rfl ?_
  refine aw_iaddV (npc := 21) (v := 8) dX8_stands_20 rfl (by decide) ?_
  refine aw_iald (npc := 22) (x := N 8) (j := 8) dX8_stands_21 rfl F.2.1 ⟨by decide, by decide⟩ (tl_at (by omega)) ?_
  refine aw_iadd (npc := 23) dX8_stands_22 rfl ?_
  refine aw_istore_n (npc := 24) (L' := [some (.ref 69), some (.int (0 + (N 8))), some (.int 0)]) dX8_stands_23 rfl (by decide) rfl rfl ?_
  refine aw_iinc (npc := 27) (v := 1) (L' := [some (.ref 69), some (.int (0 + (N 8))), some (.int 1)]) dX8_stands_24 rfl rfl (by decide) (by decide) rfl rfl ?_
  refine aw_goto (npc := 4) dX8_stands_27 (by decide) ?_
  refine aw_iload_n (npc := 5) rfl dX8_stands_4 rfl ?_
  refine aw_iconst (npc := 6) (v := 4) (by decide) dX8_stands_5 rfl ?_
  refine aw_icmp_ge (npc := 9) (tgt := 30) dX8_stands_6 rfl (by decide) (fun hc => absurd hc (by decide)) (fun _ => ?_)
  refine aw_bipush (npc := 11) (v := 10) (by decide) dX8_stands_9 rfl ?_
  refine aw_iload_n (npc := 12) rfl dX8_stands_11 rfl ?_
  refine aw_imul (npc := 13) dX8_stands_12 rfl ?_
  refine aw_aload_n (npc := 14) rfl dX8_stands_13 rfl ?_
  refine aw_get (npc := 17) dX8_stands_14 rfl kf_X8_9 F.1 rfl ?_
  refine aw_bipush (npc := 19) (v := 8) (by decide) dX8_stands_17 rfl ?_
  refine aw_iload_n (npc := 20) rfl dX8_stands_19 rfl ?_
  refine aw_iaddV (npc := 21) (v := 9) dX8_stands_20 rfl (by decide) ?_
  refine aw_iald (npc := 22) (x := N 9) (j := 9) dX8_stands_21 rfl F.2.1 ⟨by decide, by decide⟩ (tl_at (by omega)) ?_
  refine aw_iadd (npc := 23) dX8_stands_22 rfl ?_
  refine aw_istore_n (npc := 24) (L' := [some (.ref 69), some (.int ((10 * (0 + (N 8))) + (N 9))), some (.int 1)]) dX8_stands_23 rfl (by decide) rfl rfl ?_
  refine aw_iinc (npc := 27) (v := 2) (L' := [some (.ref 69), some (.int ((10 * (0 + (N 8))) + (N 9))), some (.int 2)]) dX8_stands_24 rfl rfl (by decide) (by decide) rfl rfl ?_
  refine aw_goto (npc := 4) dX8_stands_27 (by decide) ?_
  refine aw_iload_n (npc := 5) rfl dX8_stands_4 rfl ?_
  refine aw_iconst (npc := 6) (v := 4) (by decide) dX8_stands_5 rfl ?_
  refine aw_icmp_ge (npc := 9) (tgt := 30) dX8_stands_6 rfl (by decide) (fun hc => absurd hc (by decide)) (fun _ => ?_)
  refine aw_bipush (npc := 11) (v := 10) (by decide) dX8_stands_9 rfl ?_
  refine aw_iload_n (npc := 12) rfl dX8_stands_11 rfl ?_
  refine aw_imul (npc := 13) dX8_stands_12 rfl ?_
  refine aw_aload_n (npc := 14) rfl dX8_stands_13 rfl ?_
  refine aw_get (npc := 17) dX8_stands_14 rfl kf_X8_9 F.1 rfl ?_
  refine aw_bipush (npc := 19) (v := 8) (by decide) dX8_stands_17 rfl ?_
  refine aw_iload_n (npc := 20) rfl dX8_stands_19 rfl ?_
  refine aw_iaddV (npc := 21) (v := 10) dX8_stands_20 rfl (by decide) ?_
  refine aw_iald (npc := 22) (x := N 10) (j := 10) dX8_stands_21 rfl F.2.1 ⟨by decide, by decide⟩ (tl_at (by omega)) ?_
  refine aw_iadd (npc := 23) dX8_stands_22 rfl ?_
  refine aw_istore_n (npc := 24) (L' := [some (.ref 69), some (.int ((10 * ((10 * (0 + (N 8))) + (N 9))) + (N 10))), some (.int 2)]) dX8_stands_23 rfl (by decide) rfl rfl ?_
  refine aw_iinc (npc := 27) (v := 3) (L' := [some (.ref 69), some (.int ((10 * ((10 * (0 + (N 8))) + (N 9))) + (N 10))), some (.int 3)]) dX8_stands_24 rfl rfl (by decide) (by decide) rfl rfl ?_
  refine aw_goto (npc := 4) dX8_stands_27 (by decide) ?_
  refine aw_iload_n (npc := 5) rfl dX8_stands_4 rfl ?_
  refine aw_iconst (npc := 6) (v := 4) (by decide) dX8_stands_5 rfl ?_
  refine aw_icmp_ge (npc := 9) (tgt := 30) dX8_stands_6 rfl (by decide) (fun hc => absurd hc (by decide)) (fun _ => ?_)
  refine aw_bipush (npc := 11) (v := 10) (by decide) dX8_stands_9 rfl ?_
  refine aw_iload_n (npc := 12) rfl dX8_stands_11 rfl ?_
  refine aw_imul (npc := 13) dX8_stands_12 rfl ?_
  refine aw_aload_n (npc := 14) rfl dX8_stands_13 rfl ?_
  refine aw_get (npc := 17) dX8_stands_14 rfl kf_X8_9 F.1 rfl ?_
  refine aw_bipush (npc := 19) (v := 8) (by decide) dX8_stands_17 rfl ?_
  refine aw_iload_n (npc := 20) rfl dX8_stands_19 rfl ?_
  refine aw_iaddV (npc := 21) (v := 11) dX8_stands_20 rfl (by decide) ?_
  refine aw_iald (npc := 22) (x := N 11) (j := 11) dX8_stands_21 rfl F.2.1 ⟨by decide, by decide⟩ (tl_at (by omega)) ?_
  refine aw_iadd (npc := 23) dX8_stands_22 rfl ?_
  refine aw_istore_n (npc := 24) (L' := [some (.ref 69), some (.int ((10 * ((10 * ((10 * (0 + (N 8))) + (N 9))) + (N 10))) + (N 11))), some (.int 3)]) dX8_stands_23 rfl (by decide) rfl rfl ?_
  refine aw_iinc (npc := 27) (v := 4) (L' := [some (.ref 69), some (.int ((10 * ((10 * ((10 * (0 + (N 8))) + (N 9))) + (N 10))) + (N 11))), some (.int 4)]) dX8_stands_24 rfl rfl (by decide) (by decide) rfl rfl ?_
  refine aw_goto (npc := 4) dX8_stands_27 (by decide) ?_
  refine aw_iload_n (npc := 5) rfl dX8_stands_4 rfl ?_
  refine aw_iconst (npc := 6) (v := 4) (by decide) dX8_stands_5 rfl ?_
  refine aw_icmp_ge (npc := 9) (tgt := 30) dX8_stands_6 rfl (by decide) (fun _ => ?_) (fun hc => absurd (by decide) hc)
  refine aw_iload_n (npc := 31) rfl dX8_stands_30 rfl ?_
  refine aw_iret rfl dX8_stands_31 ?_
  exact (congrArg (fun z9 => Q (some (.int z9)) n h) (msnum_eq N)).mpr hq
set_option maxHeartbeats 4000000 in
set_option maxRecDepth 100000 in
theorem m_of0 {X : List Int32} {d rc rs n : Nat} {Q : am_Q} {o N : Nat → Int32} {a : Nat → Nat → Int32} {h : am_H} {f : Nat} (F : MR o N a h) (hf : f < 8) (hq : Q (some (.int (N (22 + 5 * f)))) n h) : AW X mX8_of (d + 0) rc rs 0 [some (.ref 69), some (.int (nI f)), some (.int 0)] [] n h Q := by
  refine aw_aload_n (npc := 1) rfl dX8_of_0 rfl ?_
  refine aw_get (npc := 4) dX8_of_1 rfl kf_X8_9 F.1 rfl ?_
  refine aw_bipush (npc := 6) (v := 22) (by decide) dX8_of_4 rfl ?_
  refine aw_iconst (npc := 7) (v := 5) (by decide) dX8_of_6 rfl ?_
  refine aw_iload_n (npc := 8) rfl dX8_of_7 rfl ?_
  refine aw_imulV (npc := 9) (v := nI (5 * f)) dX8_of_8 rfl (pk_mul 5 _) ?_
  refine aw_iaddV (npc := 10) (v := nI (22 + (5 * f))) dX8_of_9 rfl (nI_add 22 _) ?_
  refine aw_iload_n (npc := 11) rfl dX8_of_10 rfl ?_
  refine aw_iaddV (npc := 12) (v := nI (22 + (5 * f))) dX8_of_11 rfl ((nI_add _ 0).trans (congrArg nI (by omega))) ?_
  refine aw_iald (npc := 13) (x := N (22 + (5 * f))) (j := (22 + (5 * f))) dX8_of_12 rfl F.2.1 (am_ix_nI (by omega)) (tl_at (by omega)) ?_
  refine aw_iret rfl dX8_of_13 ?_
  exact hq
set_option maxHeartbeats 4000000 in
set_option maxRecDepth 100000 in
theorem m_of1 {X : List Int32} {d rc rs n : Nat} {Q : am_Q} {o N : Nat → Int32} {a : Nat → Nat → Int32} {h : am_H} {f : Nat} (F : MR o N a h) (hf : f < 8) (hq : Q (some (.int (N (23 + 5 * f)))) n h) : AW X mX8_of (d + 0) rc rs 0 [some (.ref 69), some (.int (nI f)), some (.int 1)] [] n h Q := by
  refine aw_aload_n (npc := 1) rfl dX8_of_0 rfl ?_
  refine aw_get (npc := 4) dX8_of_1 rfl kf_X8_9 F.1 rfl ?_
  refine aw_bipush (npc := 6) (v := 22) (by decide) dX8_of_4 rfl ?_
  refine aw_iconst (npc := 7) (v := 5) (by decide) dX8_of_6 rfl ?_
  refine aw_iload_n (npc := 8) rfl dX8_of_7 rfl ?_
  refine aw_imulV (npc := 9) (v := nI (5 * f)) dX8_of_8 rfl (pk_mul 5 _) ?_
  refine aw_iaddV (npc := 10) (v := nI (22 + (5 * f))) dX8_of_9 rfl (nI_add 22 _) ?_
  refine aw_iload_n (npc := 11) rfl dX8_of_10 rfl ?_
  refine aw_iaddV (npc := 12) (v := nI (23 + (5 * f))) dX8_of_11 rfl ((nI_add _ 1).trans (congrArg nI (by omega))) ?_
  refine aw_iald (npc := 13) (x := N (23 + (5 * f))) (j := (23 + (5 * f))) dX8_of_12 rfl F.2.1 (am_ix_nI (by omega)) (tl_at (by omega)) ?_
  refine aw_iret rfl dX8_of_13 ?_
  exact hq
set_option maxHeartbeats 4000000 in
set_option maxRecDepth 100000 in
theorem m_of2 {X : List Int32} {d rc rs n : Nat} {Q : am_Q} {o N : Nat → Int32} {a : Nat → Nat → Int32} {h : am_H} {f : Nat} (F : MR o N a h) (hf : f < 8) (hq : Q (some (.int (N (24 + 5 * f)))) n h) : AW X mX8_of (d + 0) rc rs 0 [some (.ref 69), some (.int (nI f)), some (.int 2)] [] n h Q := by
  refine aw_aload_n (npc := 1) rfl dX8_of_0 rfl ?_
  refine aw_get (npc := 4) dX8_of_1 rfl kf_X8_9 F.1 rfl ?_
  refine aw_bipush (npc := 6) (v := 22) (by decide) dX8_of_4 rfl ?_
  refine aw_iconst (npc := 7) (v := 5) (by decide) dX8_of_6 rfl ?_
  refine aw_iload_n (npc := 8) rfl dX8_of_7 rfl ?_
  refine aw_imulV (npc := 9) (v := nI (5 * f)) dX8_of_8 rfl (pk_mul 5 _) ?_
  refine aw_iaddV (npc := 10) (v := nI (22 + (5 * f))) dX8_of_9 rfl (nI_add 22 _) ?_
  refine aw_iload_n (npc := 11) rfl dX8_of_10 rfl ?_
  refine aw_iaddV (npc := 12) (v := nI (24 + (5 * f))) dX8_of_11 rfl ((nI_add _ 2).trans (congrArg nI (by omega))) ?_
  refine aw_iald (npc := 13) (x := N (24 + (5 * f))) (j := (24 + (5 * f))) dX8_of_12 rfl F.2.1 (am_ix_nI (by omega)) (tl_at (by omega)) ?_
  refine aw_iret rfl dX8_of_13 ?_
  exact hq
set_option maxHeartbeats 4000000 in
set_option maxRecDepth 100000 in
theorem m_of3 {X : List Int32} {d rc rs n : Nat} {Q : am_Q} {o N : Nat → Int32} {a : Nat → Nat → Int32} {h : am_H} {f : Nat} (F : MR o N a h) (hf : f < 8) (hq : Q (some (.int (N (25 + 5 * f)))) n h) : AW X mX8_of (d + 0) rc rs 0 [some (.ref 69), some (.int (nI f)), some (.int 3)] [] n h Q := by
  refine aw_aload_n (npc := 1) rfl dX8_of_0 rfl ?_
  refine aw_get (npc := 4) dX8_of_1 rfl kf_X8_9 F.1 rfl ?_
  refine aw_bipush (npc := 6) (v := 22) (by decide) dX8_of_4 rfl ?_
  refine aw_iconst (npc := 7) (v := 5) (by decide) dX8_of_6 rfl ?_
  refine aw_iload_n (npc := 8) rfl dX8_of_7 rfl ?_
  refine aw_imulV (npc := 9) (v := nI (5 * f)) dX8_of_8 rfl (pk_mul 5 _) ?_
  refine aw_iaddV (npc := 10) (v := nI (22 + (5 * f))) dX8_of_9 rfl (nI_add 22 _) ?_
  refine aw_iload_n (npc := 11) rfl dX8_of_10 rfl ?_
  refine aw_iaddV (npc := 12) (v := nI (25 + (5 * f))) dX8_of_11 rfl ((nI_add _ 3).trans (congrArg nI (by omega))) ?_
  refine aw_iald (npc := 13) (x := N (25 + (5 * f))) (j := (25 + (5 * f))) dX8_of_12 rfl F.2.1 (am_ix_nI (by omega)) (tl_at (by omega)) ?_
  refine aw_iret rfl dX8_of_13 ?_
  exact hq
set_option maxHeartbeats 4000000 in
set_option maxRecDepth 100000 in
theorem m_of4 {X : List Int32} {d rc rs n : Nat} {Q : am_Q} {o N : Nat → Int32} {a : Nat → Nat → Int32} {h : am_H} {f : Nat} (F : MR o N a h) (hf : f < 8) (hq : Q (some (.int (N (26 + 5 * f)))) n h) : AW X mX8_of (d + 0) rc rs 0 [some (.ref 69), some (.int (nI f)), some (.int 4)] [] n h Q := by
  refine aw_aload_n (npc := 1) rfl dX8_of_0 rfl ?_
  refine aw_get (npc := 4) dX8_of_1 rfl kf_X8_9 F.1 rfl ?_
  refine aw_bipush (npc := 6) (v := 22) (by decide) dX8_of_4 rfl ?_
  refine aw_iconst (npc := 7) (v := 5) (by decide) dX8_of_6 rfl ?_
  refine aw_iload_n (npc := 8) rfl dX8_of_7 rfl ?_
  refine aw_imulV (npc := 9) (v := nI (5 * f)) dX8_of_8 rfl (pk_mul 5 _) ?_
  refine aw_iaddV (npc := 10) (v := nI (22 + (5 * f))) dX8_of_9 rfl (nI_add 22 _) ?_
  refine aw_iload_n (npc := 11) rfl dX8_of_10 rfl ?_
  refine aw_iaddV (npc := 12) (v := nI (26 + (5 * f))) dX8_of_11 rfl ((nI_add _ 4).trans (congrArg nI (by omega))) ?_
  refine aw_iald (npc := 13) (x := N (26 + (5 * f))) (j := (26 + (5 * f))) dX8_of_12 rfl F.2.1 (am_ix_nI (by omega)) (tl_at (by omega)) ?_
  refine aw_iret rfl dX8_of_13 ?_
  exact hq
set_option maxHeartbeats 4000000 in
set_option maxRecDepth 100000 in
theorem m_put0 {X : List Int32} {d rc rs n : Nat} {Q : am_Q} {o N : Nat → Int32} {a : Nat → Nat → Int32} {h : am_H} {f : Nat} {v : Int32} (F : MR o N a h) (hf : f < 8) (hq : ∀ h9, MR o (upd N (22 + 5 * f) v) a h9 → am_fb 69 92 h9 h → Q none n h9) : AW X mX8_put (d + 0) rc rs 0 [some (.ref 69), some (.int (nI f)), some (.int 0), some (.int v)] [] n h Q := by
  refine aw_aload_n (npc := 1) rfl dX8_put_0 rfl ?_
  refine aw_get (npc := 4) dX8_put_1 rfl kf_X8_9 F.1 rfl ?_
  refine aw_bipush (npc := 6) (v := 22) (by decide) dX8_put_4 rfl ?_
  refine aw_iconst (npc := 7) (v := 5) (by decide) dX8_put_6 rfl ?_
  refine aw_iload_n (npc := 8) rfl dX8_put_7 rfl ?_
  refine aw_imulV (npc := 9) (v := nI (5 * f)) dX8_put_8 rfl (pk_mul 5 _) ?_
  refine aw_iaddV (npc := 10) (v := nI (22 + (5 * f))) dX8_put_9 rfl (nI_add 22 _) ?_
  refine aw_iload_n (npc := 11) rfl dX8_put_10 rfl ?_
  refine aw_iaddV (npc := 12) (v := nI (22 + (5 * f))) dX8_put_11 rfl ((nI_add _ 0).trans (congrArg nI (by omega))) ?_
  refine aw_iload_n (npc := 13) rfl dX8_put_12 rfl ?_
  refine aw_iast (npc := 14) (j := (22 + (5 * f))) dX8_put_13 rfl F.2.1 (am_ix_nI (by omega)) (by rw [tl_len]; omega) rfl ?_
  have F1 := mr_70 (j := (22 + (5 * f))) (v := v) F
  refine aw_vret rfl dX8_put_14 ?_
  exact hq _ F1 (am_fbU (by omega) am_fb0)
set_option maxHeartbeats 4000000 in
set_option maxRecDepth 100000 in
theorem m_put1 {X : List Int32} {d rc rs n : Nat} {Q : am_Q} {o N : Nat → Int32} {a : Nat → Nat → Int32} {h : am_H} {f : Nat} {v : Int32} (F : MR o N a h) (hf : f < 8) (hq : ∀ h9, MR o (upd N (23 + 5 * f) v) a h9 → am_fb 69 92 h9 h → Q none n h9) : AW X mX8_put (d + 0) rc rs 0 [some (.ref 69), some (.int (nI f)), some (.int 1), some (.int v)] [] n h Q := by
  refine aw_aload_n (npc := 1) rfl dX8_put_0 rfl ?_
  refine aw_get (npc := 4) dX8_put_1 rfl kf_X8_9 F.1 rfl ?_
  refine aw_bipush (npc := 6) (v := 22) (by decide) dX8_put_4 rfl ?_
  refine aw_iconst (npc := 7) (v := 5) (by decide) dX8_put_6 rfl ?_
  refine aw_iload_n (npc := 8) rfl dX8_put_7 rfl ?_
  refine aw_imulV (npc := 9) (v := nI (5 * f)) dX8_put_8 rfl (pk_mul 5 _) ?_
  refine aw_iaddV (npc := 10) (v := nI (22 + (5 * f))) dX8_put_9 rfl (nI_add 22 _) ?_
  refine aw_iload_n (npc := 11) rfl dX8_put_10 rfl ?_
  refine aw_iaddV (npc := 12) (v := nI (23 + (5 * f))) dX8_put_11 rfl ((nI_add _ 1).trans (congrArg nI (by omega))) ?_
  refine aw_iload_n (npc := 13) rfl dX8_put_12 rfl ?_
  refine aw_iast (npc := 14) (j := (23 + (5 * f))) dX8_put_13 rfl F.2.1 (am_ix_nI (by omega)) (by rw [tl_len]; omega) rfl ?_
  have F1 := mr_70 (j := (23 + (5 * f))) (v := v) F
  refine aw_vret rfl dX8_put_14 ?_
  exact hq _ F1 (am_fbU (by omega) am_fb0)
set_option maxHeartbeats 4000000 in
set_option maxRecDepth 100000 in
theorem m_put2 {X : List Int32} {d rc rs n : Nat} {Q : am_Q} {o N : Nat → Int32} {a : Nat → Nat → Int32} {h : am_H} {f : Nat} {v : Int32} (F : MR o N a h) (hf : f < 8) (hq : ∀ h9, MR o (upd N (24 + 5 * f) v) a h9 → am_fb 69 92 h9 h → Q none n h9) : AW X mX8_put (d + 0) rc rs 0 [some (.ref 69), some (.int (nI f)), some (.int 2), some (.int v)] [] n h Q := by
  refine aw_aload_n (npc := 1) rfl dX8_put_0 rfl ?_
  refine aw_get (npc := 4) dX8_put_1 rfl kf_X8_9 F.1 rfl ?_
  refine aw_bipush (npc := 6) (v := 22) (by decide) dX8_put_4 rfl ?_
  refine aw_iconst (npc := 7) (v := 5) (by decide) dX8_put_6 rfl ?_
  refine aw_iload_n (npc := 8) rfl dX8_put_7 rfl ?_
  refine aw_imulV (npc := 9) (v := nI (5 * f)) dX8_put_8 rfl (pk_mul 5 _) ?_
  refine aw_iaddV (npc := 10) (v := nI (22 + (5 * f))) dX8_put_9 rfl (nI_add 22 _) ?_
  refine aw_iload_n (npc := 11) rfl dX8_put_10 rfl ?_
  refine aw_iaddV (npc := 12) (v := nI (24 + (5 * f))) dX8_put_11 rfl ((nI_add _ 2).trans (congrArg nI (by omega))) ?_
  refine aw_iload_n (npc := 13) rfl dX8_put_12 rfl ?_
  refine aw_iast (npc := 14) (j := (24 + (5 * f))) dX8_put_13 rfl F.2.1 (am_ix_nI (by omega)) (by rw [tl_len]; omega) rfl ?_
  have F1 := mr_70 (j := (24 + (5 * f))) (v := v) F
  refine aw_vret rfl dX8_put_14 ?_
  exact hq _ F1 (am_fbU (by omega) am_fb0)
set_option maxHeartbeats 4000000 in
set_option maxRecDepth 100000 in
theorem m_put3 {X : List Int32} {d rc rs n : Nat} {Q : am_Q} {o N : Nat → Int32} {a : Nat → Nat → Int32} {h : am_H} {f : Nat} {v : Int32} (F : MR o N a h) (hf : f < 8) (hq : ∀ h9, MR o (upd N (25 + 5 * f) v) a h9 → am_fb 69 92 h9 h → Q none n h9) : AW X mX8_put (d + 0) rc rs 0 [some (.ref 69), some (.int (nI f)), some (.int 3), some (.int v)] [] n h Q := by
  refine aw_aload_n (npc := 1) rfl dX8_put_0 rfl ?_
  refine aw_get (npc := 4) dX8_put_1 rfl kf_X8_9 F.1 rfl ?_
  refine aw_bipush (npc := 6) (v := 22) (by decide) dX8_put_4 rfl ?_
  refine aw_iconst (npc := 7) (v := 5) (by decide) dX8_put_6 rfl ?_
  refine aw_iload_n (npc := 8) rfl dX8_put_7 rfl ?_
  refine aw_imulV (npc := 9) (v := nI (5 * f)) dX8_put_8 rfl (pk_mul 5 _) ?_
  refine aw_iaddV (npc := 10) (v := nI (22 + (5 * f))) dX8_put_9 rfl (nI_add 22 _) ?_
  refine aw_iload_n (npc := 11) rfl dX8_put_10 rfl ?_
  refine aw_iaddV (npc := 12) (v := nI (25 + (5 * f))) dX8_put_11 rfl ((nI_add _ 3).trans (congrArg nI (by omega))) ?_
  refine aw_iload_n (npc := 13) rfl dX8_put_12 rfl ?_
  refine aw_iast (npc := 14) (j := (25 + (5 * f))) dX8_put_13 rfl F.2.1 (am_ix_nI (by omega)) (by rw [tl_len]; omega) rfl ?_
  have F1 := mr_70 (j := (25 + (5 * f))) (v := v) F
  refine aw_vret rfl dX8_put_14 ?_
  exact hq _ F1 (am_fbU (by omega) am_fb0)
set_option maxHeartbeats 4000000 in
set_option maxRecDepth 100000 in
theorem m_put4 {X : List Int32} {d rc rs n : Nat} {Q : am_Q} {o N : Nat → Int32} {a : Nat → Nat → Int32} {h : am_H} {f : Nat} {v : Int32} (F : MR o N a h) (hf : f < 8) (hq : ∀ h9, MR o (upd N (26 + 5 * f) v) a h9 → am_fb 69 92 h9 h → Q none n h9) : AW X mX8_put (d + 0) rc rs 0 [some (.ref 69), some (.int (nI f)), some (.int 4), some (.int v)] [] n h Q := by
  refine aw_aload_n (npc := 1) rfl dX8_put_0 rfl ?_
  refine aw_get (npc := 4) dX8_put_1 rfl kf_X8_9 F.1 rfl ?_
  refine aw_bipush (npc := 6) (v := 22) (by decide) dX8_put_4 rfl ?_
  refine aw_iconst (npc := 7) (v := 5) (by decide) dX8_put_6 rfl ?_
  refine aw_iload_n (npc := 8) rfl dX8_put_7 rfl ?_
  refine aw_imulV (npc := 9) (v := nI (5 * f)) dX8_put_8 rfl (pk_mul 5 _) ?_
  refine aw_iaddV (npc := 10) (v := nI (22 + (5 * f))) dX8_put_9 rfl (nI_add 22 _) ?_
  refine aw_iload_n (npc := 11) rfl dX8_put_10 rfl ?_
  refine aw_iaddV (npc := 12) (v := nI (26 + (5 * f))) dX8_put_11 rfl ((nI_add _ 4).trans (congrArg nI (by omega))) ?_
  refine aw_iload_n (npc := 13) rfl dX8_put_12 rfl ?_
  refine aw_iast (npc := 14) (j := (26 + (5 * f))) dX8_put_13 rfl F.2.1 (am_ix_nI (by omega)) (by rw [tl_len]; omega) rfl ?_
  have F1 := mr_70 (j := (26 + (5 * f))) (v := v) F
  refine aw_vret rfl dX8_put_14 ?_
  exact hq _ F1 (am_fbU (by omega) am_fb0)
set_option maxHeartbeats 4000000 in
set_option maxRecDepth 100000 in
theorem m_becomes {X : List Int32} {d rc rs n : Nat} {Q : am_Q} {o N : Nat → Int32} {a : Nat → Nat → Int32} {h : am_H} {j : Nat} {v : Int32} (F : MR o N a h) (hj : j < 1434) (hq : ∀ h9, MR o (upd N j v) a h9 → am_fb 69 92 h9 h → Q (some (.int (N j))) n h9) : AW X mX8_becomes (d + 0) rc rs 0 [some (.ref 69), some (.int (nI j)), some (.int v), none] [] n h Q := by
  refine aw_aload_n (npc := 1) rfl dX8_becomes_0 rfl ?_
  refine aw_get (npc := 4) dX8_becomes_1 rfl kf_X8_9 F.1 rfl ?_
  refine aw_iload_n (npc := 5) rfl dX8_becomes_4 rfl ?_
  refine aw_iald (npc := 6) (x := N j) (j := j) dX8_becomes_5 rfl F.2.1 (am_ix_nI (by omega)) (tl_at (by omega)) ?_
  refine aw_istore_n (npc := 7) (L' := [some (.ref 69), some (.int (nI j)), some (.int v), some (.int (N j))]) dX8_becomes_6 rfl (by decide) rfl rfl ?_
  refine aw_aload_n (npc := 8) rfl dX8_becomes_7 rfl ?_
  refine aw_get (npc := 11) dX8_becomes_8 rfl kf_X8_9 F.1 rfl ?_
  refine aw_iload_n (npc := 12) rfl dX8_becomes_11 rfl ?_
  refine aw_iload_n (npc := 13) rfl dX8_becomes_12 rfl ?_
  refine aw_iast (npc := 14) (j := j) dX8_becomes_13 rfl F.2.1 (am_ix_nI (by omega)) (by rw [tl_len]; omega) rfl ?_
  have F1 := mr_70 (j := j) (v := v) F
  refine aw_iload_n (npc := 15) rfl dX8_becomes_14 rfl ?_
  refine aw_iret rfl dX8_becomes_15 ?_
  exact hq _ F1 (am_fbU (by omega) am_fb0)
set_option maxHeartbeats 4000000 in
set_option maxRecDepth 100000 in
theorem m_comes {X : List Int32} {d rc rs n : Nat} {Q : am_Q} {o N : Nat → Int32} {a : Nat → Nat → Int32} {h : am_H} {f : Nat} {k s p : Int32} (F : MR o N a h) (hF : N 1 = nI f) (hf : f < 8) (hq : ∀ h9, MR o (addN N f k s p) a h9 → am_fb 69 92 h9 h → Q (some (.int (nI f))) n h9) : AW X mX8_comes (d + 2) rc rs 0 [some (.ref 69), some (.int k), some (.int s), some (.int p), none] [] n h Q := by
  refine aw_aload_n (npc := 1) rfl dX8_comes_0 rfl ?_
  refine aw_get (npc := 4) dX8_comes_1 rfl kf_X8_9 F.1 rfl ?_
  refine aw_iconst (npc := 5) (v := 1) (by decide) dX8_comes_4 rfl ?_
  refine aw_iald (npc := 6) (x := N 1) (j := 1) dX8_comes_5 rfl F.2.1 ⟨by decide, by decide⟩ (tl_at (by omega)) ?_
  refine aw_top (y := nI f) (hF) ?_
  refine aw_istore (npc := 8) (L' := [some (.ref 69), some (.int k), some (.int s), some (.int p), some (.int (nI f))]) dX8_comes_6 rfl (by decide) rfl rfl ?_
  refine aw_aload_n (npc := 9) rfl dX8_comes_8 rfl ?_
  refine aw_iload (npc := 11) rfl dX8_comes_9 rfl ?_
  refine aw_iconst (npc := 12) (v := 0) (by decide) dX8_comes_11 rfl ?_
  refine aw_iload_n (npc := 13) rfl dX8_comes_12 rfl ?_
  refine aw_callV (npc := 16) (N := mX8_put) (b := 69) (mc := 0) (ms := 0) (A := [.int (nI f), .int 0, .int k]) (S := []) (L0 := [some (.ref 69), some (.int (nI f)), some (.int 0), some (.int k)]) dX8_comes_13 rfl km_X8_put kk_X8_87 F.1 ⟨by decide, rfl⟩ rfl ⟨rfl, by decide⟩ rfl (Nat.le_of_ble_eq_true rfl) (Nat.zero_add _) (Nat.zero_add _) rfl ?_
  refine m_put0 (f := f) (v := k) F (by omega) (fun h9 F1 fb2 => ?_)
  refine aw_aload_n (npc := 17) rfl dX8_comes_16 rfl ?_
  refine aw_iload (npc := 19) rfl dX8_comes_17 rfl ?_
  refine aw_iconst (npc := 20) (v := 1) (by decide) dX8_comes_19 rfl ?_
  refine aw_iload_n (npc := 21) rfl dX8_comes_20 rfl ?_
  refine aw_callV (npc := 24) (N := mX8_put) (b := 69) (mc := 0) (ms := 0) (A := [.int (nI f), .int 1, .int s]) (S := []) (L0 := [some (.ref 69), some (.int (nI f)), some (.int 1), some (.int s)]) dX8_comes_21 rfl km_X8_put kk_X8_87 F1.1 ⟨by decide, rfl⟩ rfl ⟨rfl, by decide⟩ rfl (Nat.le_of_ble_eq_true rfl) (Nat.zero_add _) (Nat.zero_add _) rfl ?_
  refine m_put1 (f := f) (v := s) F1 (by omega) (fun h9 F3 fb4 => ?_)
  refine aw_aload_n (npc := 25) rfl dX8_comes_24 rfl ?_
  refine aw_iload (npc := 27) rfl dX8_comes_25 rfl ?_
  refine aw_iconst (npc := 28) (v := 2) (by decide) dX8_comes_27 rfl ?_
  refine aw_iload_n (npc := 29) rfl dX8_comes_28 rfl ?_
  refine aw_callV (npc := 32) (N := mX8_put) (b := 69) (mc := 0) (ms := 0) (A := [.int (nI f), .int 2, .int p]) (S := []) (L0 := [some (.ref 69), some (.int (nI f)), some (.int 2), some (.int p)]) dX8_comes_29 rfl km_X8_put kk_X8_87 F3.1 ⟨by decide, rfl⟩ rfl ⟨rfl, by decide⟩ rfl (Nat.le_of_ble_eq_true rfl) (Nat.zero_add _) (Nat.zero_add _) rfl ?_
  refine m_put2 (f := f) (v := p) F3 (by omega) (fun h9 F5 fb6 => ?_)
  refine aw_aload_n (npc := 33) rfl dX8_comes_32 rfl ?_
  refine aw_iload (npc := 35) rfl dX8_comes_33 rfl ?_
  refine aw_iconst (npc := 36) (v := 3) (by decide) dX8_comes_35 rfl ?_
  refine aw_iconst (npc := 37) (v := 0) (by decide) dX8_comes_36 rfl ?_
  refine aw_callV (npc := 40) (N := mX8_put) (b := 69) (mc := 0) (ms := 0) (A := [.int (nI f), .int 3, .int 0]) (S := []) (L0 := [some (.ref 69), some (.int (nI f)), some (.int 3), some (.int 0)]) dX8_comes_37 rfl km_X8_put kk_X8_87 F5.1 ⟨by decide, rfl⟩ rfl ⟨rfl, by decide⟩ rfl (Nat.le_of_ble_eq_true rfl) (Nat.zero_add _) (Nat.zero_add _) rfl ?_
  refine m_put3 (f := f) (v := 0) F5 (by omega) (fun h9 F7 fb8 => ?_)
  refine aw_aload_n (npc := 41) rfl dX8_comes_40 rfl ?_
  refine aw_iload (npc := 43) rfl dX8_comes_41 rfl ?_
  refine aw_iconst (npc := 44) (v := 4) (by decide) dX8_comes_43 rfl ?_
  refine aw_iconst (npc := 45) (v := 0) (by decide) dX8_comes_44 rfl ?_
  refine aw_callV (npc := 48) (N := mX8_put) (b := 69) (mc := 0) (ms := 0) (A := [.int (nI f), .int 4, .int 0]) (S := []) (L0 := [some (.ref 69), some (.int (nI f)), some (.int 4), some (.int 0)]) dX8_comes_45 rfl km_X8_put kk_X8_87 F7.1 ⟨by decide, rfl⟩ rfl ⟨rfl, by decide⟩ rfl (Nat.le_of_ble_eq_true rfl) (Nat.zero_add _) (Nat.zero_add _) rfl ?_
  refine m_put4 (f := f) (v := 0) F7 (by omega) (fun h9 F9 fb10 => ?_)
  refine aw_aload_n (npc := 49) rfl dX8_comes_48 rfl ?_
  refine aw_get (npc := 52) dX8_comes_49 rfl kf_X8_9 F9.1 rfl ?_
  refine aw_iconst (npc := 53) (v := 1) (by decide) dX8_comes_52 rfl ?_
  refine aw_dup2 (npc := 54) rfl rfl dX8_comes_53 rfl ?_
  refine aw_iald (npc := 55) (x := (upd (upd (upd (upd (upd N (22 + 5 * f) k) (23 + 5 * f) s) (24 + 5 * f) p) (25 + 5 * f) 0) (26 + 5 * f) 0) 1) (j := 1) dX8_comes_54 rfl F9.2.1 ⟨by decide, by decide⟩ (tl_at (by omega)) ?_
  refine aw_top (y := N 1) ((((((pk_un (by omega))).trans (pk_un (by omega))).trans (pk_un (by omega))).trans (pk_un (by omega))).trans (pk_un (by omega))) ?_
  refine aw_top (y := nI f) (hF) ?_
  refine aw_iconst (npc := 56) (v := 1) (by decide) dX8_comes_55 rfl ?_
  refine aw_iaddV (npc := 57) (v := nI (f + 1)) dX8_comes_56 rfl (nI_add _ 1) ?_
  refine aw_iast (npc := 58) (j := 1) dX8_comes_57 rfl F9.2.1 ⟨by decide, by decide⟩ (by rw [tl_len]; omega) rfl ?_
  have F11 := mr_70 (j := 1) (v := nI (f + 1)) F9
  refine aw_iload (npc := 60) rfl dX8_comes_58 rfl ?_
  refine aw_iret rfl dX8_comes_60 ?_
  exact hq _ F11 (am_fbU (by omega) (am_fbT fb10 (am_fbT fb8 (am_fbT fb6 (am_fbT fb4 (am_fbT fb2 am_fb0))))))
def mpk (k s : Int32) (N : Nat → Int32) (t : Nat) : Int32 := if s = 0 then (if k = 1 then N (16 + t) else if k = 3 then N (16 + t) else if k = 4 then -(N (16 + t)) else if k = 5 then -(N (12 + t)) else N (12 + t)) else (if k = 1 then N (12 + t) else if k = 3 then N (12 + t) else if k = 4 then -(N (12 + t)) else if k = 5 then -(N (16 + t)) else N (16 + t))
def bI : Option Nat → Int32
  | none => -1
  | some u => nI u
def mtS (k s e : Int32) (N : Nat → Int32) (t : Nat) : Option Nat → Option Nat
  | none => if N (8 + t) = e then none else some t
  | some u => if N (8 + t) = e then some u else if mpk k s N t < mpk k s N u then some t else some u
def mtM (k s e : Int32) (N : Nat → Int32) : Nat → Nat → Option Nat → Option Nat
  | 0, _, p => p
  | m + 1, t, p => mtM k s e N m (t + 1) (mtS k s e N t p)
theorem mtS_lt {k s e : Int32} {N : Nat → Int32} {t : Nat} {p : Option Nat} (ht : t < 4) (hp : ∀ u, p = some u → u < 4) : ∀ u, mtS k s e N t p = some u → u < 4 := by
  intro u hu
  cases p with
  | none =>
    simp only [mtS] at hu
    split at hu
    · cases hu
    · injection hu with z; omega
  | some w =>
    have z9 := hp w rfl
    simp only [mtS] at hu
    split at hu
    · injection hu with z; omega
    · split at hu
      · injection hu with z; omega
      · injection hu with z; omega
set_option maxHeartbeats 4000000 in
set_option maxRecDepth 100000 in
theorem m_pick {X : List Int32} {d rc rs n : Nat} {Q : am_Q} {o N : Nat → Int32} {a : Nat → Nat → Int32} {h : am_H} {f t : Nat} (F : MR o N a h) (hf : f < 8) (hk : wi (N (22 + 5 * f)) 0 5) (hs : wi (N (23 + 5 * f)) 0 1) (ht : t < 4) (hq : Q (some (.int (mpk (N (22 + 5 * f)) (N (23 + 5 * f)) N t))) n h) : AW X mX8_pickOf (d + 2) rc rs 0 [some (.ref 69), some (.int (nI f)), some (.int (nI t)), none, none] [] n h Q := by
  refine aw_aload_n (npc := 1) rfl dX8_pickOf_0 rfl ?_
  refine aw_get (npc := 4) dX8_pickOf_1 rfl kf_X8_9 F.1 rfl ?_
  refine aw_bipush (npc := 6) (v := 12) (by decide) dX8_pickOf_4 rfl ?_
  refine aw_iconst (npc := 7) (v := 4) (by decide) dX8_pickOf_6 rfl ?_
  refine aw_aload_n (npc := 8) rfl dX8_pickOf_7 rfl ?_
  refine aw_iload_n (npc := 9) rfl dX8_pickOf_8 rfl ?_
  refine aw_iconst (npc := 10) (v := 1) (by decide) dX8_pickOf_9 rfl ?_
  refine aw_callV (npc := 13) (N := mX8_of) (b := 69) (mc := 0) (ms := 0) (A := [.int (nI f), .int 1]) (S := [.int 4, .int 12, .ref 70]) (L0 := [some (.ref 69), some (.int (nI f)), some (.int 1)]) dX8_pickOf_10 rfl km_X8_of kk_X8_101 F.1 ⟨by decide, rfl⟩ rfl ⟨rfl, by decide⟩ rfl (Nat.le_of_ble_eq_true rfl) (Nat.zero_add _) (Nat.zero_add _) rfl ?_
  refine m_of1 (f := f) F (by omega) ?_
  refine aw_re (S' := [.int (N (23 + 5 * f)), .int 4, .int 12, .ref 70]) rfl ?_
  rcases wi_c0_1 hs with es | es
  · refine aw_top (y := 0) es ?_
    refine aw_imulV (npc := 14) (v := 0) dX8_pickOf_13 rfl (by decide) ?_
    refine aw_iaddV (npc := 15) (v := 12) dX8_pickOf_14 rfl (by decide) ?_
    refine aw_iload_n (npc := 16) rfl dX8_pickOf_15 rfl ?_
    refine aw_iaddV (npc := 17) (v := nI (12 + t)) dX8_pickOf_16 rfl (nI_add 12 _) ?_
    refine aw_iald (npc := 18) (x := N (12 + t)) (j := (12 + t)) dX8_pickOf_17 rfl F.2.1 (am_ix_nI (by omega)) (tl_at (by omega)) ?_
    refine aw_istore_n (npc := 19) (L' := [some (.ref 69), some (.int (nI f)), some (.int (nI t)), some (.int (N (12 + t))), none]) dX8_pickOf_18 rfl (by decide) rfl rfl ?_
    refine aw_aload_n (npc := 20) rfl dX8_pickOf_19 rfl ?_
    refine aw_get (npc := 23) dX8_pickOf_20 rfl kf_X8_9 F.1 rfl ?_
    refine aw_bipush (npc := 25) (v := 16) (by decide) dX8_pickOf_23 rfl ?_
    refine aw_iconst (npc := 26) (v := 4) (by decide) dX8_pickOf_25 rfl ?_
    refine aw_aload_n (npc := 27) rfl dX8_pickOf_26 rfl ?_
    refine aw_iload_n (npc := 28) rfl dX8_pickOf_27 rfl ?_
    refine aw_iconst (npc := 29) (v := 1) (by decide) dX8_pickOf_28 rfl ?_
    refine aw_callV (npc := 32) (N := mX8_of) (b := 69) (mc := 0) (ms := 0) (A := [.int (nI f), .int 1]) (S := [.int 4, .int 16, .ref 70]) (L0 := [some (.ref 69), some (.int (nI f)), some (.int 1)]) dX8_pickOf_29 rfl km_X8_of kk_X8_101 F.1 ⟨by decide, rfl⟩ rfl ⟨rfl, by decide⟩ rfl (Nat.le_of_ble_eq_true rfl) (Nat.zero_add _) (Nat.zero_add _) rfl ?_
    refine m_of1 (f := f) F (by omega) ?_
    refine aw_re (S' := [.int (N (23 + 5 * f)), .int 4, .int 16, .ref 70]) rfl ?_
    refine aw_top (y := 0) es ?_
    refine aw_imulV (npc := 33) (v := 0) dX8_pickOf_32 rfl (by decide) ?_
    refine aw_isubV (npc := 34) (v := 16) dX8_pickOf_33 rfl (by decide) ?_
    refine aw_iload_n (npc := 35) rfl dX8_pickOf_34 rfl ?_
    refine aw_iaddV (npc := 36) (v := nI (16 + t)) dX8_pickOf_35 rfl (nI_add 16 _) ?_
    refine aw_iald (npc := 37) (x := N (16 + t)) (j := (16 + t)) dX8_pickOf_36 rfl F.2.1 (am_ix_nI (by omega)) (tl_at (by omega)) ?_
    refine aw_istore (npc := 39) (L' := [some (.ref 69), some (.int (nI f)), some (.int (nI t)), some (.int (N (12 + t))), some (.int (N (16 + t)))]) dX8_pickOf_37 rfl (by decide) rfl rfl ?_
    refine aw_aload_n (npc := 40) rfl dX8_pickOf_39 rfl ?_
    refine aw_iload_n (npc := 41) rfl dX8_pickOf_40 rfl ?_
    refine aw_iconst (npc := 42) (v := 0) (by decide) dX8_pickOf_41 rfl ?_
    refine aw_callV (npc := 45) (N := mX8_of) (b := 69) (mc := 0) (ms := 0) (A := [.int (nI f), .int 0]) (S := []) (L0 := [some (.ref 69), some (.int (nI f)), some (.int 0)]) dX8_pickOf_42 rfl km_X8_of kk_X8_101 F.1 ⟨by decide, rfl⟩ rfl ⟨rfl, by decide⟩ rfl (Nat.le_of_ble_eq_true rfl) (Nat.zero_add _) (Nat.zero_add _) rfl ?_
    refine m_of0 (f := f) F (by omega) ?_
    refine aw_re (S' := [.int (N (22 + 5 * f))]) rfl ?_
    rcases wi_c0_5 hk with ek | ek | ek | ek | ek | ek
    · refine aw_top (y := 0) ek ?_
      refine aw_tableOut (npc := 90) dX8_pickOf_45 (by decide) (by decide) ?_
      refine aw_iload_n (npc := 91) rfl dX8_pickOf_90 rfl ?_
      refine aw_iret rfl dX8_pickOf_91 ?_
      exact (show mpk (N (22 + 5 * f)) (N (23 + 5 * f)) N t = N (12 + t) by simp [mpk, ek, es]) ▸ hq
    · refine aw_top (y := 1) ek ?_
      refine aw_tableIn (npc := 80) dX8_pickOf_45 (by decide) (by decide) rfl (by decide) ?_
      refine aw_iload (npc := 82) rfl dX8_pickOf_80 rfl ?_
      refine aw_iret rfl dX8_pickOf_82 ?_
      exact (show mpk (N (22 + 5 * f)) (N (23 + 5 * f)) N t = N (16 + t) by simp [mpk, ek, es]) ▸ hq
    · refine aw_top (y := 2) ek ?_
      refine aw_tableIn (npc := 90) dX8_pickOf_45 (by decide) (by decide) rfl (by decide) ?_
      refine aw_iload_n (npc := 91) rfl dX8_pickOf_90 rfl ?_
      refine aw_iret rfl dX8_pickOf_91 ?_
      exact (show mpk (N (22 + 5 * f)) (N (23 + 5 * f)) N t = N (12 + t) by simp [mpk, ek, es]) ▸ hq
    · refine aw_top (y := 3) ek ?_
      refine aw_tableIn (npc := 80) dX8_pickOf_45 (by decide) (by decide) rfl (by decide) ?_
      refine aw_iload (npc := 82) rfl dX8_pickOf_80 rfl ?_
      refine aw_iret rfl dX8_pickOf_82 ?_
      exact (show mpk (N (22 + 5 * f)) (N (23 + 5 * f)) N t = N (16 + t) by simp [mpk, ek, es]) ▸ hq
    · refine aw_top (y := 4) ek ?_
      refine aw_tableIn (npc := 83) dX8_pickOf_45 (by decide) (by decide) rfl (by decide) ?_
      refine aw_iload (npc := 85) rfl dX8_pickOf_83 rfl ?_
      refine aw_ineg (npc := 86) dX8_pickOf_85 rfl ?_
      refine aw_iret rfl dX8_pickOf_86 ?_
      exact (show mpk (N (22 + 5 * f)) (N (23 + 5 * f)) N t = -(N (16 + t)) by simp [mpk, ek, es]) ▸ hq
    · refine aw_top (y := 5) ek ?_
      refine aw_tableIn (npc := 87) dX8_pickOf_45 (by decide) (by decide) rfl (by decide) ?_
      refine aw_iload_n (npc := 88) rfl dX8_pickOf_87 rfl ?_
      refine aw_ineg (npc := 89) dX8_pickOf_88 rfl ?_
      refine aw_iret rfl dX8_pickOf_89 ?_
      exact (show mpk (N (22 + 5 * f)) (N (23 + 5 * f)) N t = -(N (12 + t)) by simp [mpk, ek, es]) ▸ hq
  · refine aw_top (y := 1) es ?_
    refine aw_imulV (npc := 14) (v := 4) dX8_pickOf_13 rfl (by decide) ?_
    refine aw_iaddV (npc := 15) (v := 16) dX8_pickOf_14 rfl (by decide) ?_
    refine aw_iload_n (npc := 16) rfl dX8_pickOf_15 rfl ?_
    refine aw_iaddV (npc := 17) (v := nI (16 + t)) dX8_pickOf_16 rfl (nI_add 16 _) ?_
    refine aw_iald (npc := 18) (x := N (16 + t)) (j := (16 + t)) dX8_pickOf_17 rfl F.2.1 (am_ix_nI (by omega)) (tl_at (by omega)) ?_
    refine aw_istore_n (npc := 19) (L' := [some (.ref 69), some (.int (nI f)), some (.int (nI t)), some (.int (N (16 + t))), none]) dX8_pickOf_18 rfl (by decide) rfl rfl ?_
    refine aw_aload_n (npc := 20) rfl dX8_pickOf_19 rfl ?_
    refine aw_get (npc := 23) dX8_pickOf_20 rfl kf_X8_9 F.1 rfl ?_
    refine aw_bipush (npc := 25) (v := 16) (by decide) dX8_pickOf_23 rfl ?_
    refine aw_iconst (npc := 26) (v := 4) (by decide) dX8_pickOf_25 rfl ?_
    refine aw_aload_n (npc := 27) rfl dX8_pickOf_26 rfl ?_
    refine aw_iload_n (npc := 28) rfl dX8_pickOf_27 rfl ?_
    refine aw_iconst (npc := 29) (v := 1) (by decide) dX8_pickOf_28 rfl ?_
    refine aw_callV (npc := 32) (N := mX8_of) (b := 69) (mc := 0) (ms := 0) (A := [.int (nI f), .int 1]) (S := [.int 4, .int 16, .ref 70]) (L0 := [some (.ref 69), some (.int (nI f)), some (.int 1)]) dX8_pickOf_29 rfl km_X8_of kk_X8_101 F.1 ⟨by decide, rfl⟩ rfl ⟨rfl, by decide⟩ rfl (Nat.le_of_ble_eq_true rfl) (Nat.zero_add _) (Nat.zero_add _) rfl ?_
    refine m_of1 (f := f) F (by omega) ?_
    refine aw_re (S' := [.int (N (23 + 5 * f)), .int 4, .int 16, .ref 70]) rfl ?_
    refine aw_top (y := 1) es ?_
    refine aw_imulV (npc := 33) (v := 4) dX8_pickOf_32 rfl (by decide) ?_
    refine aw_isubV (npc := 34) (v := 12) dX8_pickOf_33 rfl (by decide) ?_
    refine aw_iload_n (npc := 35) rfl dX8_pickOf_34 rfl ?_
    refine aw_iaddV (npc := 36) (v := nI (12 + t)) dX8_pickOf_35 rfl (nI_add 12 _) ?_
    refine aw_iald (npc := 37) (x := N (12 + t)) (j := (12 + t)) dX8_pickOf_36 rfl F.2.1 (am_ix_nI (by omega)) (tl_at (by omega)) ?_
    refine aw_istore (npc := 39) (L' := [some (.ref 69), some (.int (nI f)), some (.int (nI t)), some (.int (N (16 + t))), some (.int (N (12 + t)))]) dX8_pickOf_37 rfl (by decide) rfl rfl ?_
    refine aw_aload_n (npc := 40) rfl dX8_pickOf_39 rfl ?_
    refine aw_iload_n (npc := 41) rfl dX8_pickOf_40 rfl ?_
    refine aw_iconst (npc := 42) (v := 0) (by decide) dX8_pickOf_41 rfl ?_
    refine aw_callV (npc := 45) (N := mX8_of) (b := 69) (mc := 0) (ms := 0) (A := [.int (nI f), .int 0]) (S := []) (L0 := [some (.ref 69), some (.int (nI f)), some (.int 0)]) dX8_pickOf_42 rfl km_X8_of kk_X8_101 F.1 ⟨by decide, rfl⟩ rfl ⟨rfl, by decide⟩ rfl (Nat.le_of_ble_eq_true rfl) (Nat.zero_add _) (Nat.zero_add _) rfl ?_
    refine m_of0 (f := f) F (by omega) ?_
    refine aw_re (S' := [.int (N (22 + 5 * f))]) rfl ?_
    rcases wi_c0_5 hk with ek | ek | ek | ek | ek | ek
    · refine aw_top (y := 0) ek ?_
      refine aw_tableOut (npc := 90) dX8_pickOf_45 (by decide) (by decide) ?_
      refine aw_iload_n (npc := 91) rfl dX8_pickOf_90 rfl ?_
      refine aw_iret rfl dX8_pickOf_91 ?_
      exact (show mpk (N (22 + 5 * f)) (N (23 + 5 * f)) N t = N (16 + t) by simp [mpk, ek, es]) ▸ hq
    · refine aw_top (y := 1) ek ?_
      refine aw_tableIn (npc := 80) dX8_pickOf_45 (by decide) (by decide) rfl (by decide) ?_
      refine aw_iload (npc := 82) rfl dX8_pickOf_80 rfl ?_
      refine aw_iret rfl dX8_pickOf_82 ?_
      exact (show mpk (N (22 + 5 * f)) (N (23 + 5 * f)) N t = N (12 + t) by simp [mpk, ek, es]) ▸ hq
    · refine aw_top (y := 2) ek ?_
      refine aw_tableIn (npc := 90) dX8_pickOf_45 (by decide) (by decide) rfl (by decide) ?_
      refine aw_iload_n (npc := 91) rfl dX8_pickOf_90 rfl ?_
      refine aw_iret rfl dX8_pickOf_91 ?_
      exact (show mpk (N (22 + 5 * f)) (N (23 + 5 * f)) N t = N (16 + t) by simp [mpk, ek, es]) ▸ hq
    · refine aw_top (y := 3) ek ?_
      refine aw_tableIn (npc := 80) dX8_pickOf_45 (by decide) (by decide) rfl (by decide) ?_
      refine aw_iload (npc := 82) rfl dX8_pickOf_80 rfl ?_
      refine aw_iret rfl dX8_pickOf_82 ?_
      exact (show mpk (N (22 + 5 * f)) (N (23 + 5 * f)) N t = N (12 + t) by simp [mpk, ek, es]) ▸ hq
    · refine aw_top (y := 4) ek ?_
      refine aw_tableIn (npc := 83) dX8_pickOf_45 (by decide) (by decide) rfl (by decide) ?_
      refine aw_iload (npc := 85) rfl dX8_pickOf_83 rfl ?_
      refine aw_ineg (npc := 86) dX8_pickOf_85 rfl ?_
      refine aw_iret rfl dX8_pickOf_86 ?_
      exact (show mpk (N (22 + 5 * f)) (N (23 + 5 * f)) N t = -(N (12 + t)) by simp [mpk, ek, es]) ▸ hq
    · refine aw_top (y := 5) ek ?_
      refine aw_tableIn (npc := 87) dX8_pickOf_45 (by decide) (by decide) rfl (by decide) ?_
      refine aw_iload_n (npc := 88) rfl dX8_pickOf_87 rfl ?_
      refine aw_ineg (npc := 89) dX8_pickOf_88 rfl ?_
      refine aw_iret rfl dX8_pickOf_89 ?_
      exact (show mpk (N (22 + 5 * f)) (N (23 + 5 * f)) N t = -(N (16 + t)) by simp [mpk, ek, es]) ▸ hq
set_option maxHeartbeats 4000000 in
set_option maxRecDepth 100000 in
theorem m_tL0 {X : List Int32} {d rc rs n : Nat} {Q : am_Q} {o N : Nat → Int32} {a : Nat → Nat → Int32} {h : am_H} {f : Nat} (F : MR o N a h) (hf : f < 8) (hk : wi (N (22 + 5 * f)) 0 5) (hs : wi (N (23 + 5 * f)) 0 1) : ∀ (m t : Nat), t + m = 4 → ∀ p : Option Nat, (∀ u, p = some u → u < 4) → Q (some (.int (bI (mtM (N (22 + 5 * f)) (N (23 + 5 * f)) 0 N m t p)))) n h → AW X mX8_termOf (d + 4) rc rs 21 [some (.ref 69), some (.int (nI f)), some (.int 0), some (.int (bI p)), some (.int (nI t))] [] n h Q := by
  intro m
  induction m with
  | zero =>
    intro t ht p hp hq
    obtain rfl : t = 4 := by omega
    refine aw_iload (npc := 23) rfl dX8_termOf_21 rfl ?_
    refine aw_iconst (npc := 24) (v := 4) (by decide) dX8_termOf_23 rfl ?_
    refine aw_icmp_ge (npc := 27) (tgt := 74) dX8_termOf_24 rfl (by decide) (fun _ => ?_) (fun hc => absurd (nI_le (a := 4) (b := 4) (by omega) (by omega)) hc)
    refine aw_iload_n (npc := 75) rfl dX8_termOf_74 rfl ?_
    refine aw_iret rfl dX8_termOf_75 ?_
    exact hq
  | succ m ih =>
    intro t ht p hp hq
    cases p with
    | none =>
      show AW X mX8_termOf (d + 4) rc rs 21 [some (.ref 69), some (.int (nI f)), some (.int 0), some (.int (-1)), some (.int (nI t))] [] n h Q
      refine aw_iload (npc := 23) rfl dX8_termOf_21 rfl ?_
      refine aw_iconst (npc := 24) (v := 4) (by decide) dX8_termOf_23 rfl ?_
      refine aw_icmp_ge (npc := 27) (tgt := 74) dX8_termOf_24 rfl (by decide) (fun hc => absurd hc (nI_ge (a := t) (b := 4) (by omega) (by omega))) (fun _ => ?_)
      refine aw_aload_n (npc := 28) rfl dX8_termOf_27 rfl ?_
      refine aw_get (npc := 31) dX8_termOf_28 rfl kf_X8_9 F.1 rfl ?_
      refine aw_bipush (npc := 33) (v := 8) (by decide) dX8_termOf_31 rfl ?_
      refine aw_iload (npc := 35) rfl dX8_termOf_33 rfl ?_
      refine aw_iaddV (npc := 36) (v := nI (8 + t)) dX8_termOf_35 rfl (nI_add 8 _) ?_
      refine aw_iald (npc := 37) (x := N (8 + t)) (j := (8 + t)) dX8_termOf_36 rfl F.2.1 (am_ix_nI (by omega)) (tl_at (by omega)) ?_
      refine aw_iload_n (npc := 38) rfl dX8_termOf_37 rfl ?_
      refine aw_icmp_eq (npc := 41) (tgt := 68) dX8_termOf_38 rfl (by decide) (fun hc2 => ?_) (fun hc2 => ?_)
      · refine aw_iinc (npc := 71) (v := nI (t + 1)) (L' := [some (.ref 69), some (.int (nI f)), some (.int 0), some (.int (-1)), some (.int (nI (t + 1)))]) dX8_termOf_68 rfl rfl (nI_1 _) (by decide) rfl rfl ?_
        refine aw_goto (npc := 21) dX8_termOf_71 (by decide) ?_
        have e9 : mtS (N (22 + 5 * f)) (N (23 + 5 * f)) 0 N t none = none := by simp [mtS, hc2]
        exact ih (t + 1) (by omega) (none) (e9 ▸ mtS_lt (by omega) hp) ((congrArg (mtM (N (22 + 5 * f)) (N (23 + 5 * f)) 0 N m (t + 1)) e9) ▸ hq)
      · refine aw_iload_n (npc := 42) rfl dX8_termOf_41 rfl ?_
        refine aw_if_lt (npc := 45) (tgt := 61) dX8_termOf_42 rfl (by decide) (fun _ => ?_) (fun hc => absurd (by decide) hc)
        refine aw_iload (npc := 63) rfl dX8_termOf_61 rfl ?_
        refine aw_goto (npc := 67) dX8_termOf_63 (by decide) ?_
        refine aw_istore_n (npc := 68) (L' := [some (.ref 69), some (.int (nI f)), some (.int 0), some (.int (nI t)), some (.int (nI t))]) dX8_termOf_67 rfl (by decide) rfl rfl ?_
        refine aw_iinc (npc := 71) (v := nI (t + 1)) (L' := [some (.ref 69), some (.int (nI f)), some (.int 0), some (.int (nI t)), some (.int (nI (t + 1)))]) dX8_termOf_68 rfl rfl (nI_1 _) (by decide) rfl rfl ?_
        refine aw_goto (npc := 21) dX8_termOf_71 (by decide) ?_
        have e9 : mtS (N (22 + 5 * f)) (N (23 + 5 * f)) 0 N t none = some t := by simp [mtS, hc2]
        exact ih (t + 1) (by omega) (some t) (e9 ▸ mtS_lt (by omega) hp) ((congrArg (mtM (N (22 + 5 * f)) (N (23 + 5 * f)) 0 N m (t + 1)) e9) ▸ hq)
    | some u =>
      have hu := hp u rfl
      show AW X mX8_termOf (d + 4) rc rs 21 [some (.ref 69), some (.int (nI f)), some (.int 0), some (.int (nI u)), some (.int (nI t))] [] n h Q
      refine aw_iload (npc := 23) rfl dX8_termOf_21 rfl ?_
      refine aw_iconst (npc := 24) (v := 4) (by decide) dX8_termOf_23 rfl ?_
      refine aw_icmp_ge (npc := 27) (tgt := 74) dX8_termOf_24 rfl (by decide) (fun hc => absurd hc (nI_ge (a := t) (b := 4) (by omega) (by omega))) (fun _ => ?_)
      refine aw_aload_n (npc := 28) rfl dX8_termOf_27 rfl ?_
      refine aw_get (npc := 31) dX8_termOf_28 rfl kf_X8_9 F.1 rfl ?_
      refine aw_bipush (npc := 33) (v := 8) (by decide) dX8_termOf_31 rfl ?_
      refine aw_iload (npc := 35) rfl dX8_termOf_33 rfl ?_
      refine aw_iaddV (npc := 36) (v := nI (8 + t)) dX8_termOf_35 rfl (nI_add 8 _) ?_
      refine aw_iald (npc := 37) (x := N (8 + t)) (j := (8 + t)) dX8_termOf_36 rfl F.2.1 (am_ix_nI (by omega)) (tl_at (by omega)) ?_
      refine aw_iload_n (npc := 38) rfl dX8_termOf_37 rfl ?_
      refine aw_icmp_eq (npc := 41) (tgt := 68) dX8_termOf_38 rfl (by decide) (fun hc2 => ?_) (fun hc2 => ?_)
      · refine aw_iinc (npc := 71) (v := nI (t + 1)) (L' := [some (.ref 69), some (.int (nI f)), some (.int 0), some (.int (nI u)), some (.int (nI (t + 1)))]) dX8_termOf_68 rfl rfl (nI_1 _) (by decide) rfl rfl ?_
        refine aw_goto (npc := 21) dX8_termOf_71 (by decide) ?_
        have e9 : mtS (N (22 + 5 * f)) (N (23 + 5 * f)) 0 N t (some u) = some u := by simp [mtS, hc2]
        exact ih (t + 1) (by omega) (some u) (e9 ▸ mtS_lt (by omega) hp) ((congrArg (mtM (N (22 + 5 * f)) (N (23 + 5 * f)) 0 N m (t + 1)) e9) ▸ hq)
      · refine aw_iload_n (npc := 42) rfl dX8_termOf_41 rfl ?_
        refine aw_if_lt (npc := 45) (tgt := 61) dX8_termOf_42 rfl (by decide) (fun hc => absurd hc (Int32.not_lt.mpr ((nI_leI (a := 0) (b := u) (by omega) (by omega)).mpr (by omega)))) (fun _ => ?_)
        refine aw_aload_n (npc := 46) rfl dX8_termOf_45 rfl ?_
        refine aw_iload_n (npc := 47) rfl dX8_termOf_46 rfl ?_
        refine aw_iload (npc := 49) rfl dX8_termOf_47 rfl ?_
        refine aw_callV (npc := 52) (N := mX8_pickOf) (b := 69) (mc := 0) (ms := 0) (A := [.int (nI f), .int (nI t)]) (S := []) (L0 := [some (.ref 69), some (.int (nI f)), some (.int (nI t)), none, none]) dX8_termOf_49 rfl km_X8_pickOf kk_X8_111 F.1 ⟨by decide, rfl⟩ rfl ⟨rfl, by decide⟩ rfl (Nat.le_of_ble_eq_true rfl) (Nat.zero_add _) (Nat.zero_add _) rfl ?_
        refine m_pick (f := f) (t := t) F hf hk hs (by omega) ?_
        refine aw_re (S' := [.int (mpk (N (22 + 5 * f)) (N (23 + 5 * f)) N t)]) rfl ?_
        refine aw_aload_n (npc := 53) rfl dX8_termOf_52 rfl ?_
        refine aw_iload_n (npc := 54) rfl dX8_termOf_53 rfl ?_
        refine aw_iload_n (npc := 55) rfl dX8_termOf_54 rfl ?_
        refine aw_callV (npc := 58) (N := mX8_pickOf) (b := 69) (mc := 0) (ms := 0) (A := [.int (nI f), .int (nI u)]) (S := [.int (mpk (N (22 + 5 * f)) (N (23 + 5 * f)) N t)]) (L0 := [some (.ref 69), some (.int (nI f)), some (.int (nI u)), none, none]) dX8_termOf_55 rfl km_X8_pickOf kk_X8_111 F.1 ⟨by decide, rfl⟩ rfl ⟨rfl, by decide⟩ rfl (Nat.le_of_ble_eq_true rfl) (Nat.zero_add _) (Nat.zero_add _) rfl ?_
        refine m_pick (f := f) (t := u) F hf hk hs (by omega) ?_
        refine aw_re (S' := [.int (mpk (N (22 + 5 * f)) (N (23 + 5 * f)) N u), .int (mpk (N (22 + 5 * f)) (N (23 + 5 * f)) N t)]) rfl ?_
        refine aw_icmp_ge (npc := 61) (tgt := 66) dX8_termOf_58 rfl (by decide) (fun hc4 => ?_) (fun hc4 => ?_)
        · refine aw_iload_n (npc := 67) rfl dX8_termOf_66 rfl ?_
          refine aw_istore_n (npc := 68) (L' := [some (.ref 69), some (.int (nI f)), some (.int 0), some (.int (nI u)), some (.int (nI t))]) dX8_termOf_67 rfl (by decide) rfl rfl ?_
          refine aw_iinc (npc := 71) (v := nI (t + 1)) (L' := [some (.ref 69), some (.int (nI f)), some (.int 0), some (.int (nI u)), some (.int (nI (t + 1)))]) dX8_termOf_68 rfl rfl (nI_1 _) (by decide) rfl rfl ?_
          refine aw_goto (npc := 21) dX8_termOf_71 (by decide) ?_
          have e9 : mtS (N (22 + 5 * f)) (N (23 + 5 * f)) 0 N t (some u) = some u := by simp [mtS, hc2, Int32.not_lt.mpr hc4]
          exact ih (t + 1) (by omega) (some u) (e9 ▸ mtS_lt (by omega) hp) ((congrArg (mtM (N (22 + 5 * f)) (N (23 + 5 * f)) 0 N m (t + 1)) e9) ▸ hq)
        · refine aw_iload (npc := 63) rfl dX8_termOf_61 rfl ?_
          refine aw_goto (npc := 67) dX8_termOf_63 (by decide) ?_
          refine aw_istore_n (npc := 68) (L' := [some (.ref 69), some (.int (nI f)), some (.int 0), some (.int (nI t)), some (.int (nI t))]) dX8_termOf_67 rfl (by decide) rfl rfl ?_
          refine aw_iinc (npc := 71) (v := nI (t + 1)) (L' := [some (.ref 69), some (.int (nI f)), some (.int 0), some (.int (nI t)), some (.int (nI (t + 1)))]) dX8_termOf_68 rfl rfl (nI_1 _) (by decide) rfl rfl ?_
          refine aw_goto (npc := 21) dX8_termOf_71 (by decide) ?_
          have e9 : mtS (N (22 + 5 * f)) (N (23 + 5 * f)) 0 N t (some u) = some t := by simp [mtS, hc2, Int32.not_le.mp hc4]
          exact ih (t + 1) (by omega) (some t) (e9 ▸ mtS_lt (by omega) hp) ((congrArg (mtM (N (22 + 5 * f)) (N (23 + 5 * f)) 0 N m (t + 1)) e9) ▸ hq)
set_option maxHeartbeats 4000000 in
set_option maxRecDepth 100000 in
theorem m_tL9 {X : List Int32} {d rc rs n : Nat} {Q : am_Q} {o N : Nat → Int32} {a : Nat → Nat → Int32} {h : am_H} {f : Nat} (F : MR o N a h) (hf : f < 8) (hk : wi (N (22 + 5 * f)) 0 5) (hs : wi (N (23 + 5 * f)) 0 1) : ∀ (m t : Nat), t + m = 4 → ∀ p : Option Nat, (∀ u, p = some u → u < 4) → Q (some (.int (bI (mtM (N (22 + 5 * f)) (N (23 + 5 * f)) 9 N m t p)))) n h → AW X mX8_termOf (d + 4) rc rs 21 [some (.ref 69), some (.int (nI f)), some (.int 9), some (.int (bI p)), some (.int (nI t))] [] n h Q := by
  intro m
  induction m with
  | zero =>
    intro t ht p hp hq
    obtain rfl : t = 4 := by omega
    refine aw_iload (npc := 23) rfl dX8_termOf_21 rfl ?_
    refine aw_iconst (npc := 24) (v := 4) (by decide) dX8_termOf_23 rfl ?_
    refine aw_icmp_ge (npc := 27) (tgt := 74) dX8_termOf_24 rfl (by decide) (fun _ => ?_) (fun hc => absurd (nI_le (a := 4) (b := 4) (by omega) (by omega)) hc)
    refine aw_iload_n (npc := 75) rfl dX8_termOf_74 rfl ?_
    refine aw_iret rfl dX8_termOf_75 ?_
    exact hq
  | succ m ih =>
    intro t ht p hp hq
    cases p with
    | none =>
      show AW X mX8_termOf (d + 4) rc rs 21 [some (.ref 69), some (.int (nI f)), some (.int 9), some (.int (-1)), some (.int (nI t))] [] n h Q
      refine aw_iload (npc := 23) rfl dX8_termOf_21 rfl ?_
      refine aw_iconst (npc := 24) (v := 4) (by decide) dX8_termOf_23 rfl ?_
      refine aw_icmp_ge (npc := 27) (tgt := 74) dX8_termOf_24 rfl (by decide) (fun hc => absurd hc (nI_ge (a := t) (b := 4) (by omega) (by omega))) (fun _ => ?_)
      refine aw_aload_n (npc := 28) rfl dX8_termOf_27 rfl ?_
      refine aw_get (npc := 31) dX8_termOf_28 rfl kf_X8_9 F.1 rfl ?_
      refine aw_bipush (npc := 33) (v := 8) (by decide) dX8_termOf_31 rfl ?_
      refine aw_iload (npc := 35) rfl dX8_termOf_33 rfl ?_
      refine aw_iaddV (npc := 36) (v := nI (8 + t)) dX8_termOf_35 rfl (nI_add 8 _) ?_
      refine aw_iald (npc := 37) (x := N (8 + t)) (j := (8 + t)) dX8_termOf_36 rfl F.2.1 (am_ix_nI (by omega)) (tl_at (by omega)) ?_
      refine aw_iload_n (npc := 38) rfl dX8_termOf_37 rfl ?_
      refine aw_icmp_eq (npc := 41) (tgt := 68) dX8_termOf_38 rfl (by decide) (fun hc2 => ?_) (fun hc2 => ?_)
      · refine aw_iinc (npc := 71) (v := nI (t + 1)) (L' := [some (.ref 69), some (.int (nI f)), some (.int 9), some (.int (-1)), some (.int (nI (t + 1)))]) dX8_termOf_68 rfl rfl (nI_1 _) (by decide) rfl rfl ?_
        refine aw_goto (npc := 21) dX8_termOf_71 (by decide) ?_
        have e9 : mtS (N (22 + 5 * f)) (N (23 + 5 * f)) 9 N t none = none := by simp [mtS, hc2]
        exact ih (t + 1) (by omega) (none) (e9 ▸ mtS_lt (by omega) hp) ((congrArg (mtM (N (22 + 5 * f)) (N (23 + 5 * f)) 9 N m (t + 1)) e9) ▸ hq)
      · refine aw_iload_n (npc := 42) rfl dX8_termOf_41 rfl ?_
        refine aw_if_lt (npc := 45) (tgt := 61) dX8_termOf_42 rfl (by decide) (fun _ => ?_) (fun hc => absurd (by decide) hc)
        refine aw_iload (npc := 63) rfl dX8_termOf_61 rfl ?_
        refine aw_goto (npc := 67) dX8_termOf_63 (by decide) ?_
        refine aw_istore_n (npc := 68) (L' := [some (.ref 69), some (.int (nI f)), some (.int 9), some (.int (nI t)), some (.int (nI t))]) dX8_termOf_67 rfl (by decide) rfl rfl ?_
        refine aw_iinc (npc := 71) (v := nI (t + 1)) (L' := [some (.ref 69), some (.int (nI f)), some (.int 9), some (.int (nI t)), some (.int (nI (t + 1)))]) dX8_termOf_68 rfl rfl (nI_1 _) (by decide) rfl rfl ?_
        refine aw_goto (npc := 21) dX8_termOf_71 (by decide) ?_
        have e9 : mtS (N (22 + 5 * f)) (N (23 + 5 * f)) 9 N t none = some t := by simp [mtS, hc2]
        exact ih (t + 1) (by omega) (some t) (e9 ▸ mtS_lt (by omega) hp) ((congrArg (mtM (N (22 + 5 * f)) (N (23 + 5 * f)) 9 N m (t + 1)) e9) ▸ hq)
    | some u =>
      have hu := hp u rfl
      show AW X mX8_termOf (d + 4) rc rs 21 [some (.ref 69), some (.int (nI f)), some (.int 9), some (.int (nI u)), some (.int (nI t))] [] n h Q
      refine aw_iload (npc := 23) rfl dX8_termOf_21 rfl ?_
      refine aw_iconst (npc := 24) (v := 4) (by decide) dX8_termOf_23 rfl ?_
      refine aw_icmp_ge (npc := 27) (tgt := 74) dX8_termOf_24 rfl (by decide) (fun hc => absurd hc (nI_ge (a := t) (b := 4) (by omega) (by omega))) (fun _ => ?_)
      refine aw_aload_n (npc := 28) rfl dX8_termOf_27 rfl ?_
      refine aw_get (npc := 31) dX8_termOf_28 rfl kf_X8_9 F.1 rfl ?_
      refine aw_bipush (npc := 33) (v := 8) (by decide) dX8_termOf_31 rfl ?_
      refine aw_iload (npc := 35) rfl dX8_termOf_33 rfl ?_
      refine aw_iaddV (npc := 36) (v := nI (8 + t)) dX8_termOf_35 rfl (nI_add 8 _) ?_
      refine aw_iald (npc := 37) (x := N (8 + t)) (j := (8 + t)) dX8_termOf_36 rfl F.2.1 (am_ix_nI (by omega)) (tl_at (by omega)) ?_
      refine aw_iload_n (npc := 38) rfl dX8_termOf_37 rfl ?_
      refine aw_icmp_eq (npc := 41) (tgt := 68) dX8_termOf_38 rfl (by decide) (fun hc2 => ?_) (fun hc2 => ?_)
      · refine aw_iinc (npc := 71) (v := nI (t + 1)) (L' := [some (.ref 69), some (.int (nI f)), some (.int 9), some (.int (nI u)), some (.int (nI (t + 1)))]) dX8_termOf_68 rfl rfl (nI_1 _) (by decide) rfl rfl ?_
        refine aw_goto (npc := 21) dX8_termOf_71 (by decide) ?_
        have e9 : mtS (N (22 + 5 * f)) (N (23 + 5 * f)) 9 N t (some u) = some u := by simp [mtS, hc2]
        exact ih (t + 1) (by omega) (some u) (e9 ▸ mtS_lt (by omega) hp) ((congrArg (mtM (N (22 + 5 * f)) (N (23 + 5 * f)) 9 N m (t + 1)) e9) ▸ hq)
      · refine aw_iload_n (npc := 42) rfl dX8_termOf_41 rfl ?_
        refine aw_if_lt (npc := 45) (tgt := 61) dX8_termOf_42 rfl (by decide) (fun hc => absurd hc (Int32.not_lt.mpr ((nI_leI (a := 0) (b := u) (by omega) (by omega)).mpr (by omega)))) (fun _ => ?_)
        refine aw_aload_n (npc := 46) rfl dX8_termOf_45 rfl ?_
        refine aw_iload_n (npc := 47) rfl dX8_termOf_46 rfl ?_
        refine aw_iload (npc := 49) rfl dX8_termOf_47 rfl ?_
        refine aw_callV (npc := 52) (N := mX8_pickOf) (b := 69) (mc := 0) (ms := 0) (A := [.int (nI f), .int (nI t)]) (S := []) (L0 := [some (.ref 69), some (.int (nI f)), some (.int (nI t)), none, none]) dX8_termOf_49 rfl km_X8_pickOf kk_X8_111 F.1 ⟨by decide, rfl⟩ rfl ⟨rfl, by decide⟩ rfl (Nat.le_of_ble_eq_true rfl) (Nat.zero_add _) (Nat.zero_add _) rfl ?_
        refine m_pick (f := f) (t := t) F hf hk hs (by omega) ?_
        refine aw_re (S' := [.int (mpk (N (22 + 5 * f)) (N (23 + 5 * f)) N t)]) rfl ?_
        refine aw_aload_n (npc := 53) rfl dX8_termOf_52 rfl ?_
        refine aw_iload_n (npc := 54) rfl dX8_termOf_53 rfl ?_
        refine aw_iload_n (npc := 55) rfl dX8_termOf_54 rfl ?_
        refine aw_callV (npc := 58) (N := mX8_pickOf) (b := 69) (mc := 0) (ms := 0) (A := [.int (nI f), .int (nI u)]) (S := [.int (mpk (N (22 + 5 * f)) (N (23 + 5 * f)) N t)]) (L0 := [some (.ref 69), some (.int (nI f)), some (.int (nI u)), none, none]) dX8_termOf_55 rfl km_X8_pickOf kk_X8_111 F.1 ⟨by decide, rfl⟩ rfl ⟨rfl, by decide⟩ rfl (Nat.le_of_ble_eq_true rfl) (Nat.zero_add _) (Nat.zero_add _) rfl ?_
        refine m_pick (f := f) (t := u) F hf hk hs (by omega) ?_
        refine aw_re (S' := [.int (mpk (N (22 + 5 * f)) (N (23 + 5 * f)) N u), .int (mpk (N (22 + 5 * f)) (N (23 + 5 * f)) N t)]) rfl ?_
        refine aw_icmp_ge (npc := 61) (tgt := 66) dX8_termOf_58 rfl (by decide) (fun hc4 => ?_) (fun hc4 => ?_)
        · refine aw_iload_n (npc := 67) rfl dX8_termOf_66 rfl ?_
          refine aw_istore_n (npc := 68) (L' := [some (.ref 69), some (.int (nI f)), some (.int 9), some (.int (nI u)), some (.int (nI t))]) dX8_termOf_67 rfl (by decide) rfl rfl ?_
          refine aw_iinc (npc := 71) (v := nI (t + 1)) (L' := [some (.ref 69), some (.int (nI f)), some (.int 9), some (.int (nI u)), some (.int (nI (t + 1)))]) dX8_termOf_68 rfl rfl (nI_1 _) (by decide) rfl rfl ?_
          refine aw_goto (npc := 21) dX8_termOf_71 (by decide) ?_
          have e9 : mtS (N (22 + 5 * f)) (N (23 + 5 * f)) 9 N t (some u) = some u := by simp [mtS, hc2, Int32.not_lt.mpr hc4]
          exact ih (t + 1) (by omega) (some u) (e9 ▸ mtS_lt (by omega) hp) ((congrArg (mtM (N (22 + 5 * f)) (N (23 + 5 * f)) 9 N m (t + 1)) e9) ▸ hq)
        · refine aw_iload (npc := 63) rfl dX8_termOf_61 rfl ?_
          refine aw_goto (npc := 67) dX8_termOf_63 (by decide) ?_
          refine aw_istore_n (npc := 68) (L' := [some (.ref 69), some (.int (nI f)), some (.int 9), some (.int (nI t)), some (.int (nI t))]) dX8_termOf_67 rfl (by decide) rfl rfl ?_
          refine aw_iinc (npc := 71) (v := nI (t + 1)) (L' := [some (.ref 69), some (.int (nI f)), some (.int 9), some (.int (nI t)), some (.int (nI (t + 1)))]) dX8_termOf_68 rfl rfl (nI_1 _) (by decide) rfl rfl ?_
          refine aw_goto (npc := 21) dX8_termOf_71 (by decide) ?_
          have e9 : mtS (N (22 + 5 * f)) (N (23 + 5 * f)) 9 N t (some u) = some t := by simp [mtS, hc2, Int32.not_le.mp hc4]
          exact ih (t + 1) (by omega) (some t) (e9 ▸ mtS_lt (by omega) hp) ((congrArg (mtM (N (22 + 5 * f)) (N (23 + 5 * f)) 9 N m (t + 1)) e9) ▸ hq)
def mt (N : Nat → Int32) (f : Nat) : Option Nat := mtM (N (22 + 5 * f)) (N (23 + 5 * f)) (if N (23 + 5 * f) = 0 then 0 else 9) N 4 0 none
set_option maxHeartbeats 4000000 in
set_option maxRecDepth 100000 in
theorem m_term {X : List Int32} {d rc rs n : Nat} {Q : am_Q} {o N : Nat → Int32} {a : Nat → Nat → Int32} {h : am_H} {f : Nat} (F : MR o N a h) (hf : f < 8) (hk : wi (N (22 + 5 * f)) 0 5) (hs : wi (N (23 + 5 * f)) 0 1) (hq : Q (some (.int (bI (mt N f)))) n h) : AW X mX8_termOf (d + 4) rc rs 0 [some (.ref 69), some (.int (nI f)), none, none, none] [] n h Q := by
  refine aw_aload_n (npc := 1) rfl dX8_termOf_0 rfl ?_
  refine aw_iload_n (npc := 2) rfl dX8_termOf_1 rfl ?_
  refine aw_iconst (npc := 3) (v := 1) (by decide) dX8_termOf_2 rfl ?_
  refine aw_callV (npc := 6) (N := mX8_of) (b := 69) (mc := 0) (ms := 0) (A := [.int (nI f), .int 1]) (S := []) (L0 := [some (.ref 69), some (.int (nI f)), some (.int 1)]) dX8_termOf_3 rfl km_X8_of kk_X8_101 F.1 ⟨by decide, rfl⟩ rfl ⟨rfl, by decide⟩ rfl (Nat.le_of_ble_eq_true rfl) (Nat.zero_add _) (Nat.zero_add _) rfl ?_
  refine m_of1 (f := f) F (by omega) ?_
  refine aw_re (S' := [.int (N (23 + 5 * f))]) rfl ?_
  rcases wi_c0_1 hs with es | es
  · refine aw_top (y := 0) es ?_
    refine aw_if_ne (npc := 9) (tgt := 13) dX8_termOf_6 rfl (by decide) (fun hc => absurd (by decide) hc) (fun _ => ?_)
    refine aw_iconst (npc := 10) (v := 0) (by decide) dX8_termOf_9 rfl ?_
    refine aw_goto (npc := 15) dX8_termOf_10 (by decide) ?_
    refine aw_istore_n (npc := 16) (L' := [some (.ref 69), some (.int (nI f)), some (.int 0), none, none]) dX8_termOf_15 rfl (by decide) rfl rfl ?_
    refine aw_iconst (npc := 17) (v := -1) (by decide) dX8_termOf_16 rfl ?_
    refine aw_istore_n (npc := 18) (L' := [some (.ref 69), some (.int (nI f)), some (.int 0), some (.int (-1)), none]) dX8_termOf_17 rfl (by decide) rfl rfl ?_
    refine aw_iconst (npc := 19) (v := 0) (by decide) dX8_termOf_18 rfl ?_
    refine aw_istore (npc := 21) (L' := [some (.ref 69), some (.int (nI f)), some (.int 0), some (.int (-1)), some (.int 0)]) dX8_termOf_19 rfl (by decide) rfl rfl ?_
    refine aw_locs (L' := [some (.ref 69), some (.int (nI f)), some (.int 0), some (.int (-1)), some (.int (nI 0))]) rfl ?_
    exact m_tL0 F hf hk hs 4 0 (by omega) none (fun u z => by cases z) ((show mt N f = mtM (N (22 + 5 * f)) (N (23 + 5 * f)) 0 N 4 0 none by simp [mt, es]) ▸ hq)
  · refine aw_top (y := 1) es ?_
    refine aw_if_ne (npc := 9) (tgt := 13) dX8_termOf_6 rfl (by decide) (fun _ => ?_) (fun hc => absurd hc (by decide))
    refine aw_bipush (npc := 15) (v := 9) (by decide) dX8_termOf_13 rfl ?_
    refine aw_istore_n (npc := 16) (L' := [some (.ref 69), some (.int (nI f)), some (.int 9), none, none]) dX8_termOf_15 rfl (by decide) rfl rfl ?_
    refine aw_iconst (npc := 17) (v := -1) (by decide) dX8_termOf_16 rfl ?_
    refine aw_istore_n (npc := 18) (L' := [some (.ref 69), some (.int (nI f)), some (.int 9), some (.int (-1)), none]) dX8_termOf_17 rfl (by decide) rfl rfl ?_
    refine aw_iconst (npc := 19) (v := 0) (by decide) dX8_termOf_18 rfl ?_
    refine aw_istore (npc := 21) (L' := [some (.ref 69), some (.int (nI f)), some (.int 9), some (.int (-1)), some (.int 0)]) dX8_termOf_19 rfl (by decide) rfl rfl ?_
    refine aw_locs (L' := [some (.ref 69), some (.int (nI f)), some (.int 9), some (.int (-1)), some (.int (nI 0))]) rfl ?_
    exact m_tL9 F hf hk hs 4 0 (by omega) none (fun u z => by cases z) ((show mt N f = mtM (N (22 + 5 * f)) (N (23 + 5 * f)) 9 N 4 0 none by simp [mt, es]) ▸ hq)
def pcv (jo : Nat) (N : Nat → Int32) : Option Nat → Int32
  | none => 0
  | some u => N (12 + 1 * (jo + u))
theorem bI_some {u : Nat} (hu : u < 4) : ¬ bI (some u) < 0 := Int32.not_lt.mpr ((nI_leI (a := 0) (b := u) (by omega) (by omega)).mpr (by omega))
theorem tyStp_mt {s g jo t : Nat} {k si e : Int32} {N : Nat → Int32} {p : Option Nat} (hend : (if s = 0 then N (8 + 1 * t) ≤ 0 else 9 ≤ N (8 + 1 * t)) ↔ N (8 + t) = e) (hpk : ∀ u, u < 4 → (mpk k si N t < mpk k si N u ↔ ¬ (if g = 1 then N (12 + 1 * (jo + t)) ≤ N (12 + 1 * (jo + u)) else N (12 + 1 * (jo + u)) ≤ N (12 + 1 * (jo + t))))) (hp : ∀ u, p = some u → u < 4) : tyStp s g jo N t (bI p, pcv jo N p) = (bI (mtS k si e N t p), pcv jo N (mtS k si e N t p)) := by
  unfold tyStp
  cases p with
  | none =>
    by_cases z : N (8 + t) = e
    · rw [if_pos (hend.mpr z)]
      simp only [mtS, if_pos z]
    · rw [if_neg (fun q => z (hend.mp q)), if_pos (show bI none < 0 by decide)]
      simp only [mtS, if_neg z, bI, pcv]
  | some u =>
    have hu := hp u rfl
    by_cases z : N (8 + t) = e
    · rw [if_pos (hend.mpr z)]
      simp only [mtS, if_pos z]
    · rw [if_neg (fun q => z (hend.mp q)), if_neg (bI_some hu)]
      by_cases q : mpk k si N t < mpk k si N u
      · have r := (hpk u hu).mp q
        simp only [mtS, if_neg z, if_pos q]
        exact if_neg r
      · have r := Classical.not_not.mp (fun r => q ((hpk u hu).mpr r))
        simp only [mtS, if_neg z, if_neg q]
        exact if_pos r
theorem tyM_mt {s g jo : Nat} {k si e : Int32} {N : Nat → Int32} (hend : ∀ t, t < 4 → ((if s = 0 then N (8 + 1 * t) ≤ 0 else 9 ≤ N (8 + 1 * t)) ↔ N (8 + t) = e)) (hpk : ∀ t, t < 4 → ∀ u, u < 4 → (mpk k si N t < mpk k si N u ↔ ¬ (if g = 1 then N (12 + 1 * (jo + t)) ≤ N (12 + 1 * (jo + u)) else N (12 + 1 * (jo + u)) ≤ N (12 + 1 * (jo + t))))) : ∀ (m t : Nat) (p : Option Nat), t + m = 4 → (∀ u, p = some u → u < 4) → (tyM s g jo N m t (bI p, pcv jo N p)).1 = bI (mtM k si e N m t p) := by
  intro m
  induction m with
  | zero => intro t p _ _; rfl
  | succ m ih =>
    intro t p ht hp
    show (tyM s g jo N m (t + 1) (tyStp s g jo N t (bI p, pcv jo N p))).1 = bI (mtM k si e N m (t + 1) (mtS k si e N t p))
    rw [tyStp_mt (hend t (by omega)) (hpk t (by omega)) hp]
    exact ih (t + 1) _ (by omega) (mtS_lt (by omega) hp)
theorem wi9 {x : Int32} (h : wi x 0 9) : ∃ q : Fin 10, x = nI q.1 := by
  obtain ⟨q, hq, e⟩ := wi_nI (H := 9) (by decide) (by decide) h
  exact ⟨⟨q, by omega⟩, e⟩
theorem neg9 {x y : Int32} (hx : wi x 0 9) (hy : wi y 0 9) : -x < -y ↔ ¬ x ≤ y := by
  obtain ⟨p, rfl⟩ := wi9 hx
  obtain ⟨q, rfl⟩ := wi9 hy
  clear hx hy
  revert p q
  decide
theorem end0 {x : Int32} (hx : wi x 0 9) : x ≤ 0 ↔ x = 0 := by
  obtain ⟨p, rfl⟩ := wi9 hx
  clear hx
  revert p
  decide
theorem end9 {x : Int32} (hx : wi x 0 9) : 9 ≤ x ↔ x = 9 := by
  obtain ⟨p, rfl⟩ := wi9 hx
  clear hx
  revert p
  decide
theorem mt_ty {N : Nat → Int32} {f : Nat} (hk : wi (N (22 + 5 * f)) 0 5) (hs : wi (N (23 + 5 * f)) 0 1) (h8 : ∀ t, t < 4 → wi (N (8 + t)) 0 9) (h12 : ∀ j, j < 8 → wi (N (12 + j)) 0 9) : bI (mt N f) = ty N f := by
  have h16 : ∀ t, t < 4 → wi (N (16 + t)) 0 9 := fun t ht => (show 12 + (4 + t) = 16 + t by omega) ▸ h12 (4 + t) (by omega)
  unfold mt ty tyK
  rcases wi_c0_1 hs with es | es <;> rcases wi_c0_5 hk with ek | ek | ek | ek | ek | ek <;> simp only [es, ek, if_true, if_false, reduceIte]
  · refine (tyM_mt (s := 0) (g := 0) (jo := 0) (k := 0) (si := 0) (e := 0) (fun t ht => ?_) (fun t ht u hu => ?_) 4 0 none (by omega) (fun u z => by cases z)).symm.trans ?_
    · simp only [Nat.one_mul]
      exact end0 (h8 t ht)
    · have e1 : 12 + 1 * (0 + t) = 12 + t := by omega
      have e2 : 12 + 1 * (0 + u) = 12 + u := by omega
      rw [e1, e2]
      exact Int32.not_le.symm
    · rfl
  · refine (tyM_mt (s := 0) (g := 0) (jo := 4) (k := 1) (si := 0) (e := 0) (fun t ht => ?_) (fun t ht u hu => ?_) 4 0 none (by omega) (fun u z => by cases z)).symm.trans ?_
    · simp only [Nat.one_mul]
      exact end0 (h8 t ht)
    · have e1 : 12 + 1 * (4 + t) = 16 + t := by omega
      have e2 : 12 + 1 * (4 + u) = 16 + u := by omega
      rw [e1, e2]
      exact Int32.not_le.symm
    · rfl
  · refine (tyM_mt (s := 0) (g := 0) (jo := 0) (k := 2) (si := 0) (e := 0) (fun t ht => ?_) (fun t ht u hu => ?_) 4 0 none (by omega) (fun u z => by cases z)).symm.trans ?_
    · simp only [Nat.one_mul]
      exact end0 (h8 t ht)
    · have e1 : 12 + 1 * (0 + t) = 12 + t := by omega
      have e2 : 12 + 1 * (0 + u) = 12 + u := by omega
      rw [e1, e2]
      exact Int32.not_le.symm
    · rfl
  · refine (tyM_mt (s := 0) (g := 0) (jo := 4) (k := 3) (si := 0) (e := 0) (fun t ht => ?_) (fun t ht u hu => ?_) 4 0 none (by omega) (fun u z => by cases z)).symm.trans ?_
    · simp only [Nat.one_mul]
      exact end0 (h8 t ht)
    · have e1 : 12 + 1 * (4 + t) = 16 + t := by omega
      have e2 : 12 + 1 * (4 + u) = 16 + u := by omega
      rw [e1, e2]
      exact Int32.not_le.symm
    · rfl
  · refine (tyM_mt (s := 0) (g := 1) (jo := 4) (k := 4) (si := 0) (e := 0) (fun t ht => ?_) (fun t ht u hu => ?_) 4 0 none (by omega) (fun u z => by cases z)).symm.trans ?_
    · simp only [Nat.one_mul]
      exact end0 (h8 t ht)
    · have e1 : 12 + 1 * (4 + t) = 16 + t := by omega
      have e2 : 12 + 1 * (4 + u) = 16 + u := by omega
      rw [e1, e2]
      exact neg9 (h16 t ht) (h16 u hu)
    · rfl
  · refine (tyM_mt (s := 0) (g := 1) (jo := 0) (k := 5) (si := 0) (e := 0) (fun t ht => ?_) (fun t ht u hu => ?_) 4 0 none (by omega) (fun u z => by cases z)).symm.trans ?_
    · simp only [Nat.one_mul]
      exact end0 (h8 t ht)
    · have e1 : 12 + 1 * (0 + t) = 12 + t := by omega
      have e2 : 12 + 1 * (0 + u) = 12 + u := by omega
      rw [e1, e2]
      exact neg9 (h12 t (by omega)) (h12 u (by omega))
    · rfl
  · refine (tyM_mt (s := 1) (g := 0) (jo := 4) (k := 0) (si := 1) (e := 9) (fun t ht => ?_) (fun t ht u hu => ?_) 4 0 none (by omega) (fun u z => by cases z)).symm.trans ?_
    · simp only [Nat.one_mul]
      exact end9 (h8 t ht)
    · have e1 : 12 + 1 * (4 + t) = 16 + t := by omega
      have e2 : 12 + 1 * (4 + u) = 16 + u := by omega
      rw [e1, e2]
      exact Int32.not_le.symm
    · rfl
  · refine (tyM_mt (s := 1) (g := 0) (jo := 0) (k := 1) (si := 1) (e := 9) (fun t ht => ?_) (fun t ht u hu => ?_) 4 0 none (by omega) (fun u z => by cases z)).symm.trans ?_
    · simp only [Nat.one_mul]
      exact end9 (h8 t ht)
    · have e1 : 12 + 1 * (0 + t) = 12 + t := by omega
      have e2 : 12 + 1 * (0 + u) = 12 + u := by omega
      rw [e1, e2]
      exact Int32.not_le.symm
    · rfl
  · refine (tyM_mt (s := 1) (g := 0) (jo := 4) (k := 2) (si := 1) (e := 9) (fun t ht => ?_) (fun t ht u hu => ?_) 4 0 none (by omega) (fun u z => by cases z)).symm.trans ?_
    · simp only [Nat.one_mul]
      exact end9 (h8 t ht)
    · have e1 : 12 + 1 * (4 + t) = 16 + t := by omega
      have e2 : 12 + 1 * (4 + u) = 16 + u := by omega
      rw [e1, e2]
      exact Int32.not_le.symm
    · rfl
  · refine (tyM_mt (s := 1) (g := 0) (jo := 0) (k := 3) (si := 1) (e := 9) (fun t ht => ?_) (fun t ht u hu => ?_) 4 0 none (by omega) (fun u z => by cases z)).symm.trans ?_
    · simp only [Nat.one_mul]
      exact end9 (h8 t ht)
    · have e1 : 12 + 1 * (0 + t) = 12 + t := by omega
      have e2 : 12 + 1 * (0 + u) = 12 + u := by omega
      rw [e1, e2]
      exact Int32.not_le.symm
    · rfl
  · refine (tyM_mt (s := 1) (g := 1) (jo := 0) (k := 4) (si := 1) (e := 9) (fun t ht => ?_) (fun t ht u hu => ?_) 4 0 none (by omega) (fun u z => by cases z)).symm.trans ?_
    · simp only [Nat.one_mul]
      exact end9 (h8 t ht)
    · have e1 : 12 + 1 * (0 + t) = 12 + t := by omega
      have e2 : 12 + 1 * (0 + u) = 12 + u := by omega
      rw [e1, e2]
      exact neg9 (h12 t (by omega)) (h12 u (by omega))
    · rfl
  · refine (tyM_mt (s := 1) (g := 1) (jo := 4) (k := 5) (si := 1) (e := 9) (fun t ht => ?_) (fun t ht u hu => ?_) 4 0 none (by omega) (fun u z => by cases z)).symm.trans ?_
    · simp only [Nat.one_mul]
      exact end9 (h8 t ht)
    · have e1 : 12 + 1 * (4 + t) = 16 + t := by omega
      have e2 : 12 + 1 * (4 + u) = 16 + u := by omega
      rw [e1, e2]
      exact neg9 (h16 t ht) (h16 u hu)
    · rfl
def sumM (w : Nat) (N : Nat → Int32) : Nat → Nat → Int32 → Int32
  | 0, _, s => s
  | m + 1, f, s => sumM w N m (f + 1) (s + N (w + 5 * f))
set_option maxHeartbeats 4000000 in
set_option maxRecDepth 100000 in
theorem g_sumSL {X : List Int32} {d rc rs n : Nat} {Q : am_Q} {b : Nat} {N : Nat → Int32} {tx : List Value} {lk mv : Nat → Int32} {h : am_H} {c : Nat} (F : QR b N tx lk mv h) (hc : N 1 = nI c) (hc8 : c ≤ 8) : ∀ (m f : Nat), f + m = c → ∀ s : Int32, Q (some (.int (sumM 25 N m f s))) n h → AW X mX0_sumOverFriends (d + 0) rc rs 4 [some (.ref b), some (.ref (b + 7)), some (.int s), some (.int (nI f))] [] n h Q := by
  intro m
  induction m with
  | zero =>
    intro f hf s hq
    obtain rfl : f = c := by omega
    refine aw_iload_n (npc := 5) rfl dX0_sumOverFriends_4 rfl ?_
    refine aw_aload_n (npc := 6) rfl dX0_sumOverFriends_5 rfl ?_
    refine aw_get (npc := 9) dX0_sumOverFriends_6 rfl kf_X0_40 F.1 rfl ?_
    refine aw_top (y := nI f) (hc) ?_
    refine aw_icmp_ge (npc := 12) (tgt := 24) dX0_sumOverFriends_9 rfl (by decide) (fun _ => ?_) (fun hc => absurd (nI_le (a := f) (b := f) (by omega) (by omega)) hc)
    refine aw_iload_n (npc := 25) rfl dX0_sumOverFriends_24 rfl ?_
    refine aw_iret rfl dX0_sumOverFriends_25 ?_
    exact hq
  | succ m ih =>
    intro f hf s hq
    refine aw_iload_n (npc := 5) rfl dX0_sumOverFriends_4 rfl ?_
    refine aw_aload_n (npc := 6) rfl dX0_sumOverFriends_5 rfl ?_
    refine aw_get (npc := 9) dX0_sumOverFriends_6 rfl kf_X0_40 F.1 rfl ?_
    refine aw_top (y := nI c) (hc) ?_
    refine aw_icmp_ge (npc := 12) (tgt := 24) dX0_sumOverFriends_9 rfl (by decide) (fun hc => absurd hc (nI_ge (a := f) (b := c) (by omega) (by omega))) (fun _ => ?_)
    refine aw_iload_n (npc := 13) rfl dX0_sumOverFriends_12 rfl ?_
    refine aw_aload_n (npc := 14) rfl dX0_sumOverFriends_13 rfl ?_
    refine aw_iload_n (npc := 15) rfl dX0_sumOverFriends_14 rfl ?_
    refine aw_iald (npc := 16) (x := N (25 + 5 * f)) (j := f) dX0_sumOverFriends_15 rfl F.2.2.2.2.2.2.2.1 (am_ix_nI (by omega)) (tl_at (by omega)) ?_
    refine aw_iadd (npc := 17) dX0_sumOverFriends_16 rfl ?_
    refine aw_istore_n (npc := 18) (L' := [some (.ref b), some (.ref (b + 7)), some (.int (s + (N (25 + 5 * f)))), some (.int (nI f))]) dX0_sumOverFriends_17 rfl (by decide) rfl rfl ?_
    refine aw_iinc (npc := 21) (v := nI (f + 1)) (L' := [some (.ref b), some (.ref (b + 7)), some (.int (s + (N (25 + 5 * f)))), some (.int (nI (f + 1)))]) dX0_sumOverFriends_18 rfl rfl (nI_1 _) (by decide) rfl rfl ?_
    refine aw_goto (npc := 4) dX0_sumOverFriends_21 (by decide) ?_
    exact ih (f + 1) (by omega) (s + (N (25 + 5 * f))) hq
set_option maxHeartbeats 4000000 in
set_option maxRecDepth 100000 in
theorem g_sumS {X : List Int32} {d rc rs n : Nat} {Q : am_Q} {b : Nat} {N : Nat → Int32} {tx : List Value} {lk mv : Nat → Int32} {h : am_H} {c : Nat} (F : QR b N tx lk mv h) (hc : N 1 = nI c) (hc8 : c ≤ 8) (hq : Q (some (.int (sumM 25 N c 0 0))) n h) : AW X mX0_sumOverFriends (d + 0) rc rs 0 [some (.ref b), some (.ref (b + 7)), none, none] [] n h Q := by
  refine aw_iconst (npc := 1) (v := 0) (by decide) dX0_sumOverFriends_0 rfl ?_
  refine aw_istore_n (npc := 2) (L' := [some (.ref b), some (.ref (b + 7)), some (.int 0), none]) dX0_sumOverFriends_1 rfl (by decide) rfl rfl ?_
  refine aw_iconst (npc := 3) (v := 0) (by decide) dX0_sumOverFriends_2 rfl ?_
  refine aw_istore_n (npc := 4) (L' := [some (.ref b), some (.ref (b + 7)), some (.int 0), some (.int 0)]) dX0_sumOverFriends_3 rfl (by decide) rfl rfl ?_
  refine aw_locs (L' := [some (.ref b), some (.ref (b + 7)), some (.int 0), some (.int (nI 0))]) rfl ?_
  exact g_sumSL F hc hc8 c 0 (by omega) 0 hq
set_option maxHeartbeats 4000000 in
set_option maxRecDepth 100000 in
theorem g_sumYL {X : List Int32} {d rc rs n : Nat} {Q : am_Q} {b : Nat} {N : Nat → Int32} {tx : List Value} {lk mv : Nat → Int32} {h : am_H} {c : Nat} (F : QR b N tx lk mv h) (hc : N 1 = nI c) (hc8 : c ≤ 8) : ∀ (m f : Nat), f + m = c → ∀ s : Int32, Q (some (.int (sumM 26 N m f s))) n h → AW X mX0_sumOverFriends (d + 0) rc rs 4 [some (.ref b), some (.ref (b + 8)), some (.int s), some (.int (nI f))] [] n h Q := by
  intro m
  induction m with
  | zero =>
    intro f hf s hq
    obtain rfl : f = c := by omega
    refine aw_iload_n (npc := 5) rfl dX0_sumOverFriends_4 rfl ?_
    refine aw_aload_n (npc := 6) rfl dX0_sumOverFriends_5 rfl ?_
    refine aw_get (npc := 9) dX0_sumOverFriends_6 rfl kf_X0_40 F.1 rfl ?_
    refine aw_top (y := nI f) (hc) ?_
    refine aw_icmp_ge (npc := 12) (tgt := 24) dX0_sumOverFriends_9 rfl (by decide) (fun _ => ?_) (fun hc => absurd (nI_le (a := f) (b := f) (by omega) (by omega)) hc)
    refine aw_iload_n (npc := 25) rfl dX0_sumOverFriends_24 rfl ?_
    refine aw_iret rfl dX0_sumOverFriends_25 ?_
    exact hq
  | succ m ih =>
    intro f hf s hq
    refine aw_iload_n (npc := 5) rfl dX0_sumOverFriends_4 rfl ?_
    refine aw_aload_n (npc := 6) rfl dX0_sumOverFriends_5 rfl ?_
    refine aw_get (npc := 9) dX0_sumOverFriends_6 rfl kf_X0_40 F.1 rfl ?_
    refine aw_top (y := nI c) (hc) ?_
    refine aw_icmp_ge (npc := 12) (tgt := 24) dX0_sumOverFriends_9 rfl (by decide) (fun hc => absurd hc (nI_ge (a := f) (b := c) (by omega) (by omega))) (fun _ => ?_)
    refine aw_iload_n (npc := 13) rfl dX0_sumOverFriends_12 rfl ?_
    refine aw_aload_n (npc := 14) rfl dX0_sumOverFriends_13 rfl ?_
    refine aw_iload_n (npc := 15) rfl dX0_sumOverFriends_14 rfl ?_
    refine aw_iald (npc := 16) (x := N (26 + 5 * f)) (j := f) dX0_sumOverFriends_15 rfl F.2.2.2.2.2.2.2.2.1 (am_ix_nI (by omega)) (tl_at (by omega)) ?_
    refine aw_iadd (npc := 17) dX0_sumOverFriends_16 rfl ?_
    refine aw_istore_n (npc := 18) (L' := [some (.ref b), some (.ref (b + 8)), some (.int (s + (N (26 + 5 * f)))), some (.int (nI f))]) dX0_sumOverFriends_17 rfl (by decide) rfl rfl ?_
    refine aw_iinc (npc := 21) (v := nI (f + 1)) (L' := [some (.ref b), some (.ref (b + 8)), some (.int (s + (N (26 + 5 * f)))), some (.int (nI (f + 1)))]) dX0_sumOverFriends_18 rfl rfl (nI_1 _) (by decide) rfl rfl ?_
    refine aw_goto (npc := 4) dX0_sumOverFriends_21 (by decide) ?_
    exact ih (f + 1) (by omega) (s + (N (26 + 5 * f))) hq
set_option maxHeartbeats 4000000 in
set_option maxRecDepth 100000 in
theorem g_sumY {X : List Int32} {d rc rs n : Nat} {Q : am_Q} {b : Nat} {N : Nat → Int32} {tx : List Value} {lk mv : Nat → Int32} {h : am_H} {c : Nat} (F : QR b N tx lk mv h) (hc : N 1 = nI c) (hc8 : c ≤ 8) (hq : Q (some (.int (sumM 26 N c 0 0))) n h) : AW X mX0_sumOverFriends (d + 0) rc rs 0 [some (.ref b), some (.ref (b + 8)), none, none] [] n h Q := by
  refine aw_iconst (npc := 1) (v := 0) (by decide) dX0_sumOverFriends_0 rfl ?_
  refine aw_istore_n (npc := 2) (L' := [some (.ref b), some (.ref (b + 8)), some (.int 0), none]) dX0_sumOverFriends_1 rfl (by decide) rfl rfl ?_
  refine aw_iconst (npc := 3) (v := 0) (by decide) dX0_sumOverFriends_2 rfl ?_
  refine aw_istore_n (npc := 4) (L' := [some (.ref b), some (.ref (b + 8)), some (.int 0), some (.int 0)]) dX0_sumOverFriends_3 rfl (by decide) rfl rfl ?_
  refine aw_locs (L' := [some (.ref b), some (.ref (b + 8)), some (.int 0), some (.int (nI 0))]) rfl ?_
  exact g_sumYL F hc hc8 c 0 (by omega) 0 hq
set_option maxHeartbeats 4000000 in
set_option maxRecDepth 100000 in
theorem m_sumSL {X : List Int32} {d rc rs n : Nat} {Q : am_Q} {o N : Nat → Int32} {a : Nat → Nat → Int32} {h : am_H} {c : Nat} (F : MR o N a h) (hc : N 1 = nI c) (hc8 : c ≤ 8) : ∀ (m f : Nat), f + m = c → ∀ s : Int32, Q (some (.int (sumM 25 N m f s))) n h → AW X mX8_sumOf (d + 2) rc rs 4 [some (.ref 69), some (.int 3), some (.int s), some (.int (nI f))] [] n h Q := by
  intro m
  induction m with
  | zero =>
    intro f hf s hq
    obtain rfl : f = c := by omega
    refine aw_iload_n (npc := 5) rfl dX8_sumOf_4 rfl ?_
    refine aw_aload_n (npc := 6) rfl dX8_sumOf_5 rfl ?_
    refine aw_get (npc := 9) dX8_sumOf_6 rfl kf_X8_9 F.1 rfl ?_
    refine aw_iconst (npc := 10) (v := 1) (by decide) dX8_sumOf_9 rfl ?_
    refine aw_iald (npc := 11) (x := N 1) (j := 1) dX8_sumOf_10 rfl F.2.1 ⟨by decide, by decide⟩ (tl_at (by omega)) ?_
    refine aw_top (y := nI f) (hc) ?_
    refine aw_icmp_ge (npc := 14) (tgt := 29) dX8_sumOf_11 rfl (by decide) (fun _ => ?_) (fun hc => absurd (nI_le (a := f) (b := f) (by omega) (by omega)) hc)
    refine aw_iload_n (npc := 30) rfl dX8_sumOf_29 rfl ?_
    refine aw_iret rfl dX8_sumOf_30 ?_
    exact hq
  | succ m ih =>
    intro f hf s hq
    refine aw_iload_n (npc := 5) rfl dX8_sumOf_4 rfl ?_
    refine aw_aload_n (npc := 6) rfl dX8_sumOf_5 rfl ?_
    refine aw_get (npc := 9) dX8_sumOf_6 rfl kf_X8_9 F.1 rfl ?_
    refine aw_iconst (npc := 10) (v := 1) (by decide) dX8_sumOf_9 rfl ?_
    refine aw_iald (npc := 11) (x := N 1) (j := 1) dX8_sumOf_10 rfl F.2.1 ⟨by decide, by decide⟩ (tl_at (by omega)) ?_
    refine aw_top (y := nI c) (hc) ?_
    refine aw_icmp_ge (npc := 14) (tgt := 29) dX8_sumOf_11 rfl (by decide) (fun hc => absurd hc (nI_ge (a := f) (b := c) (by omega) (by omega))) (fun _ => ?_)
    refine aw_iload_n (npc := 15) rfl dX8_sumOf_14 rfl ?_
    refine aw_aload_n (npc := 16) rfl dX8_sumOf_15 rfl ?_
    refine aw_iload_n (npc := 17) rfl dX8_sumOf_16 rfl ?_
    refine aw_iload_n (npc := 18) rfl dX8_sumOf_17 rfl ?_
    refine aw_callV (npc := 21) (N := mX8_of) (b := 69) (mc := 0) (ms := 0) (A := [.int (nI f), .int 3]) (S := [.int s]) (L0 := [some (.ref 69), some (.int (nI f)), some (.int 3)]) dX8_sumOf_18 rfl km_X8_of kk_X8_101 F.1 ⟨by decide, rfl⟩ rfl ⟨rfl, by decide⟩ rfl (Nat.le_of_ble_eq_true rfl) (Nat.zero_add _) (Nat.zero_add _) rfl ?_
    refine m_of3 (f := f) F (by omega) ?_
    refine aw_re (S' := [.int (N (25 + 5 * f)), .int s]) rfl ?_
    refine aw_iadd (npc := 22) dX8_sumOf_21 rfl ?_
    refine aw_istore_n (npc := 23) (L' := [some (.ref 69), some (.int 3), some (.int (s + (N (25 + 5 * f)))), some (.int (nI f))]) dX8_sumOf_22 rfl (by decide) rfl rfl ?_
    refine aw_iinc (npc := 26) (v := nI (f + 1)) (L' := [some (.ref 69), some (.int 3), some (.int (s + (N (25 + 5 * f)))), some (.int (nI (f + 1)))]) dX8_sumOf_23 rfl rfl (nI_1 _) (by decide) rfl rfl ?_
    refine aw_goto (npc := 4) dX8_sumOf_26 (by decide) ?_
    exact ih (f + 1) (by omega) (s + (N (25 + 5 * f))) hq
set_option maxHeartbeats 4000000 in
set_option maxRecDepth 100000 in
theorem m_sumS {X : List Int32} {d rc rs n : Nat} {Q : am_Q} {o N : Nat → Int32} {a : Nat → Nat → Int32} {h : am_H} {c : Nat} (F : MR o N a h) (hc : N 1 = nI c) (hc8 : c ≤ 8) (hq : Q (some (.int (sumM 25 N c 0 0))) n h) : AW X mX8_sumOf (d + 2) rc rs 0 [some (.ref 69), some (.int 3), none, none] [] n h Q := by
  refine aw_iconst (npc := 1) (v := 0) (by decide) dX8_sumOf_0 rfl ?_
  refine aw_istore_n (npc := 2) (L' := [some (.ref 69), some (.int 3), some (.int 0), none]) dX8_sumOf_1 rfl (by decide) rfl rfl ?_
  refine aw_iconst (npc := 3) (v := 0) (by decide) dX8_sumOf_2 rfl ?_
  refine aw_istore_n (npc := 4) (L' := [some (.ref 69), some (.int 3), some (.int 0), some (.int 0)]) dX8_sumOf_3 rfl (by decide) rfl rfl ?_
  refine aw_locs (L' := [some (.ref 69), some (.int 3), some (.int 0), some (.int (nI 0))]) rfl ?_
  exact m_sumSL F hc hc8 c 0 (by omega) 0 hq
set_option maxHeartbeats 4000000 in
set_option maxRecDepth 100000 in
theorem m_sumYL {X : List Int32} {d rc rs n : Nat} {Q : am_Q} {o N : Nat → Int32} {a : Nat → Nat → Int32} {h : am_H} {c : Nat} (F : MR o N a h) (hc : N 1 = nI c) (hc8 : c ≤ 8) : ∀ (m f : Nat), f + m = c → ∀ s : Int32, Q (some (.int (sumM 26 N m f s))) n h → AW X mX8_sumOf (d + 2) rc rs 4 [some (.ref 69), some (.int 4), some (.int s), some (.int (nI f))] [] n h Q := by
  intro m
  induction m with
  | zero =>
    intro f hf s hq
    obtain rfl : f = c := by omega
    refine aw_iload_n (npc := 5) rfl dX8_sumOf_4 rfl ?_
    refine aw_aload_n (npc := 6) rfl dX8_sumOf_5 rfl ?_
    refine aw_get (npc := 9) dX8_sumOf_6 rfl kf_X8_9 F.1 rfl ?_
    refine aw_iconst (npc := 10) (v := 1) (by decide) dX8_sumOf_9 rfl ?_
    refine aw_iald (npc := 11) (x := N 1) (j := 1) dX8_sumOf_10 rfl F.2.1 ⟨by decide, by decide⟩ (tl_at (by omega)) ?_
    refine aw_top (y := nI f) (hc) ?_
    refine aw_icmp_ge (npc := 14) (tgt := 29) dX8_sumOf_11 rfl (by decide) (fun _ => ?_) (fun hc => absurd (nI_le (a := f) (b := f) (by omega) (by omega)) hc)
    refine aw_iload_n (npc := 30) rfl dX8_sumOf_29 rfl ?_
    refine aw_iret rfl dX8_sumOf_30 ?_
    exact hq
  | succ m ih =>
    intro f hf s hq
    refine aw_iload_n (npc := 5) rfl dX8_sumOf_4 rfl ?_
    refine aw_aload_n (npc := 6) rfl dX8_sumOf_5 rfl ?_
    refine aw_get (npc := 9) dX8_sumOf_6 rfl kf_X8_9 F.1 rfl ?_
    refine aw_iconst (npc := 10) (v := 1) (by decide) dX8_sumOf_9 rfl ?_
    refine aw_iald (npc := 11) (x := N 1) (j := 1) dX8_sumOf_10 rfl F.2.1 ⟨by decide, by decide⟩ (tl_at (by omega)) ?_
    refine aw_top (y := nI c) (hc) ?_
    refine aw_icmp_ge (npc := 14) (tgt := 29) dX8_sumOf_11 rfl (by decide) (fun hc => absurd hc (nI_ge (a := f) (b := c) (by omega) (by omega))) (fun _ => ?_)
    refine aw_iload_n (npc := 15) rfl dX8_sumOf_14 rfl ?_
    refine aw_aload_n (npc := 16) rfl dX8_sumOf_15 rfl ?_
    refine aw_iload_n (npc := 17) rfl dX8_sumOf_16 rfl ?_
    refine aw_iload_n (npc := 18) rfl dX8_sumOf_17 rfl ?_
    refine aw_callV (npc := 21) (N := mX8_of) (b := 69) (mc := 0) (ms := 0) (A := [.int (nI f), .int 4]) (S := [.int s]) (L0 := [some (.ref 69), some (.int (nI f)), some (.int 4)]) dX8_sumOf_18 rfl km_X8_of kk_X8_101 F.1 ⟨by decide, rfl⟩ rfl ⟨rfl, by decide⟩ rfl (Nat.le_of_ble_eq_true rfl) (Nat.zero_add _) (Nat.zero_add _) rfl ?_
    refine m_of4 (f := f) F (by omega) ?_
    refine aw_re (S' := [.int (N (26 + 5 * f)), .int s]) rfl ?_
    refine aw_iadd (npc := 22) dX8_sumOf_21 rfl ?_
    refine aw_istore_n (npc := 23) (L' := [some (.ref 69), some (.int 4), some (.int (s + (N (26 + 5 * f)))), some (.int (nI f))]) dX8_sumOf_22 rfl (by decide) rfl rfl ?_
    refine aw_iinc (npc := 26) (v := nI (f + 1)) (L' := [some (.ref 69), some (.int 4), some (.int (s + (N (26 + 5 * f)))), some (.int (nI (f + 1)))]) dX8_sumOf_23 rfl rfl (nI_1 _) (by decide) rfl rfl ?_
    refine aw_goto (npc := 4) dX8_sumOf_26 (by decide) ?_
    exact ih (f + 1) (by omega) (s + (N (26 + 5 * f))) hq
set_option maxHeartbeats 4000000 in
set_option maxRecDepth 100000 in
theorem m_sumY {X : List Int32} {d rc rs n : Nat} {Q : am_Q} {o N : Nat → Int32} {a : Nat → Nat → Int32} {h : am_H} {c : Nat} (F : MR o N a h) (hc : N 1 = nI c) (hc8 : c ≤ 8) (hq : Q (some (.int (sumM 26 N c 0 0))) n h) : AW X mX8_sumOf (d + 2) rc rs 0 [some (.ref 69), some (.int 4), none, none] [] n h Q := by
  refine aw_iconst (npc := 1) (v := 0) (by decide) dX8_sumOf_0 rfl ?_
  refine aw_istore_n (npc := 2) (L' := [some (.ref 69), some (.int 4), some (.int 0), none]) dX8_sumOf_1 rfl (by decide) rfl rfl ?_
  refine aw_iconst (npc := 3) (v := 0) (by decide) dX8_sumOf_2 rfl ?_
  refine aw_istore_n (npc := 4) (L' := [some (.ref 69), some (.int 4), some (.int 0), some (.int 0)]) dX8_sumOf_3 rfl (by decide) rfl rfl ?_
  refine aw_locs (L' := [some (.ref 69), some (.int 4), some (.int 0), some (.int (nI 0))]) rfl ?_
  exact m_sumYL F hc hc8 c 0 (by omega) 0 hq
def sgn (m c : Int32) : Prop := (m = -1 ∧ c = 124) ∨ (m = -2 ∧ c = 38) ∨ (m = -3 ∧ c = 60) ∨ (m = -4 ∧ c = 61) ∨ (m = -5 ∧ c = 62) ∨ (m = -6 ∧ c = 43) ∨ (m = -7 ∧ c = 45) ∨ (m = -8 ∧ c = 42) ∨ (m = -9 ∧ c = 47)
def twoM (m a b : Int32) : Int32 := if m = -1 then joinC 124 a b else if m = -2 then joinC 38 a b else if m = -3 then joinC 60 a b else if m = -4 then joinC 61 a b else if m = -5 then joinC 62 a b else if m = -6 then joinC 43 a b else if m = -7 then joinC 45 a b else if m = -8 then joinC 42 a b else if m = -9 then joinC 47 a b else 0
set_option maxHeartbeats 4000000 in
set_option maxRecDepth 100000 in
theorem m_two {X : List Int32} {d rc rs n : Nat} {Q : am_Q} {h : am_H} {m c a b : Int32} (hs : sgn m c) (hq : Q (some (.int (joinC c a b))) n h) : AW X mX8_two d rc rs 0 [some (.int m), some (.int a), some (.int b)] [] n h Q := by
  rcases hs with ⟨rfl, rfl⟩ | ⟨rfl, rfl⟩ | ⟨rfl, rfl⟩ | ⟨rfl, rfl⟩ | ⟨rfl, rfl⟩ | ⟨rfl, rfl⟩ | ⟨rfl, rfl⟩ | ⟨rfl, rfl⟩ | ⟨rfl, rfl⟩
  · refine aw_iload_n (npc := 1) rfl dX8_two_0 rfl ?_
    refine aw_tableIn (npc := 48) dX8_two_1 (by decide) (by decide) rfl (by decide) ?_
    refine aw_iload_n (npc := 49) rfl dX8_two_48 rfl ?_
    refine aw_if_ne (npc := 52) (tgt := 56) dX8_two_49 rfl (by decide) (fun hc1 => ?_) (fun hc1 => ?_)
    · refine aw_iconst (npc := 57) (v := 1) (by decide) dX8_two_56 rfl ?_
      refine aw_goto (npc := 61) dX8_two_57 (by decide) ?_
      refine aw_iret rfl dX8_two_61 ?_
      exact (show joinC 124 a b = 1 by simp [joinC, hc1]) ▸ hq
    · refine aw_iload_n (npc := 53) rfl dX8_two_52 rfl ?_
      refine aw_if_eq (npc := 56) (tgt := 60) dX8_two_53 rfl (by decide) (fun hc2 => ?_) (fun hc2 => ?_)
      · refine aw_iconst (npc := 61) (v := 0) (by decide) dX8_two_60 rfl ?_
        refine aw_iret rfl dX8_two_61 ?_
        exact (show joinC 124 a b = 0 by simp [joinC, hc1, hc2]) ▸ hq
      · refine aw_iconst (npc := 57) (v := 1) (by decide) dX8_two_56 rfl ?_
        refine aw_goto (npc := 61) dX8_two_57 (by decide) ?_
        refine aw_iret rfl dX8_two_61 ?_
        exact (show joinC 124 a b = 1 by simp [joinC, hc1, hc2]) ▸ hq
  · refine aw_iload_n (npc := 1) rfl dX8_two_0 rfl ?_
    refine aw_tableIn (npc := 62) dX8_two_1 (by decide) (by decide) rfl (by decide) ?_
    refine aw_iload_n (npc := 63) rfl dX8_two_62 rfl ?_
    refine aw_if_eq (npc := 66) (tgt := 74) dX8_two_63 rfl (by decide) (fun hc1 => ?_) (fun hc1 => ?_)
    · refine aw_iconst (npc := 75) (v := 0) (by decide) dX8_two_74 rfl ?_
      refine aw_iret rfl dX8_two_75 ?_
      exact (show joinC 38 a b = 0 by simp [joinC, hc1]) ▸ hq
    · refine aw_iload_n (npc := 67) rfl dX8_two_66 rfl ?_
      refine aw_if_eq (npc := 70) (tgt := 74) dX8_two_67 rfl (by decide) (fun hc2 => ?_) (fun hc2 => ?_)
      · refine aw_iconst (npc := 75) (v := 0) (by decide) dX8_two_74 rfl ?_
        refine aw_iret rfl dX8_two_75 ?_
        exact (show joinC 38 a b = 0 by simp [joinC, hc1, hc2]) ▸ hq
      · refine aw_iconst (npc := 71) (v := 1) (by decide) dX8_two_70 rfl ?_
        refine aw_goto (npc := 75) dX8_two_71 (by decide) ?_
        refine aw_iret rfl dX8_two_75 ?_
        exact (show joinC 38 a b = 1 by simp [joinC, hc1, hc2]) ▸ hq
  · refine aw_iload_n (npc := 1) rfl dX8_two_0 rfl ?_
    refine aw_tableIn (npc := 76) dX8_two_1 (by decide) (by decide) rfl (by decide) ?_
    refine aw_iload_n (npc := 77) rfl dX8_two_76 rfl ?_
    refine aw_iload_n (npc := 78) rfl dX8_two_77 rfl ?_
    refine aw_icmp_ge (npc := 81) (tgt := 85) dX8_two_78 rfl (by decide) (fun hc1 => ?_) (fun hc1 => ?_)
    · refine aw_iconst (npc := 86) (v := 0) (by decide) dX8_two_85 rfl ?_
      refine aw_iret rfl dX8_two_86 ?_
      exact (show joinC 60 a b = 0 by simp [joinC, hc1]) ▸ hq
    · refine aw_iconst (npc := 82) (v := 1) (by decide) dX8_two_81 rfl ?_
      refine aw_goto (npc := 86) dX8_two_82 (by decide) ?_
      refine aw_iret rfl dX8_two_86 ?_
      exact (show joinC 60 a b = 1 by simp [joinC, hc1]) ▸ hq
  · refine aw_iload_n (npc := 1) rfl dX8_two_0 rfl ?_
    refine aw_tableIn (npc := 87) dX8_two_1 (by decide) (by decide) rfl (by decide) ?_
    refine aw_iload_n (npc := 88) rfl dX8_two_87 rfl ?_
    refine aw_iload_n (npc := 89) rfl dX8_two_88 rfl ?_
    refine aw_icmp_ne (npc := 92) (tgt := 96) dX8_two_89 rfl (by decide) (fun hc1 => ?_) (fun hc1 => ?_)
    · refine aw_iconst (npc := 97) (v := 0) (by decide) dX8_two_96 rfl ?_
      refine aw_iret rfl dX8_two_97 ?_
      exact (show joinC 61 a b = 0 by simp [joinC, hc1]) ▸ hq
    · refine aw_iconst (npc := 93) (v := 1) (by decide) dX8_two_92 rfl ?_
      refine aw_goto (npc := 97) dX8_two_93 (by decide) ?_
      refine aw_iret rfl dX8_two_97 ?_
      exact (show joinC 61 a b = 1 by simp [joinC, hc1]) ▸ hq
  · refine aw_iload_n (npc := 1) rfl dX8_two_0 rfl ?_
    refine aw_tableIn (npc := 98) dX8_two_1 (by decide) (by decide) rfl (by decide) ?_
    refine aw_iload_n (npc := 99) rfl dX8_two_98 rfl ?_
    refine aw_iload_n (npc := 100) rfl dX8_two_99 rfl ?_
    refine aw_icmp_le (npc := 103) (tgt := 107) dX8_two_100 rfl (by decide) (fun hc1 => ?_) (fun hc1 => ?_)
    · refine aw_iconst (npc := 108) (v := 0) (by decide) dX8_two_107 rfl ?_
      refine aw_iret rfl dX8_two_108 ?_
      exact (show joinC 62 a b = 0 by simp [joinC, hc1]) ▸ hq
    · refine aw_iconst (npc := 104) (v := 1) (by decide) dX8_two_103 rfl ?_
      refine aw_goto (npc := 108) dX8_two_104 (by decide) ?_
      refine aw_iret rfl dX8_two_108 ?_
      exact (show joinC 62 a b = 1 by simp [joinC, hc1]) ▸ hq
  · refine aw_iload_n (npc := 1) rfl dX8_two_0 rfl ?_
    refine aw_tableIn (npc := 109) dX8_two_1 (by decide) (by decide) rfl (by decide) ?_
    refine aw_iload_n (npc := 110) rfl dX8_two_109 rfl ?_
    refine aw_iload_n (npc := 111) rfl dX8_two_110 rfl ?_
    refine aw_iadd (npc := 112) dX8_two_111 rfl ?_
    refine aw_iret rfl dX8_two_112 ?_
    exact (show joinC 43 a b = (a + b) by simp [joinC]) ▸ hq
  · refine aw_iload_n (npc := 1) rfl dX8_two_0 rfl ?_
    refine aw_tableIn (npc := 113) dX8_two_1 (by decide) (by decide) rfl (by decide) ?_
    refine aw_iload_n (npc := 114) rfl dX8_two_113 rfl ?_
    refine aw_iload_n (npc := 115) rfl dX8_two_114 rfl ?_
    refine aw_isub (npc := 116) dX8_two_115 rfl ?_
    refine aw_iret rfl dX8_two_116 ?_
    exact (show joinC 45 a b = (a - b) by simp [joinC]) ▸ hq
  · refine aw_iload_n (npc := 1) rfl dX8_two_0 rfl ?_
    refine aw_tableIn (npc := 117) dX8_two_1 (by decide) (by decide) rfl (by decide) ?_
    refine aw_iload_n (npc := 118) rfl dX8_two_117 rfl ?_
    refine aw_iload_n (npc := 119) rfl dX8_two_118 rfl ?_
    refine aw_imul (npc := 120) dX8_two_119 rfl ?_
    refine aw_iret rfl dX8_two_120 ?_
    exact (show joinC 42 a b = (a * b) by simp [joinC]) ▸ hq
  · refine aw_iload_n (npc := 1) rfl dX8_two_0 rfl ?_
    refine aw_tableOut (npc := 121) dX8_two_1 (by decide) (by decide) ?_
    refine aw_iload_n (npc := 122) rfl dX8_two_121 rfl ?_
    refine aw_if_ne (npc := 125) (tgt := 129) dX8_two_122 rfl (by decide) (fun hc1 => ?_) (fun hc1 => ?_)
    · refine aw_iload_n (npc := 130) rfl dX8_two_129 rfl ?_
      refine aw_iload_n (npc := 131) rfl dX8_two_130 rfl ?_
      refine aw_idiv (npc := 132) hc1 dX8_two_131 rfl ?_
      refine aw_iret rfl dX8_two_132 ?_
      exact (show joinC 47 a b = (a / b) by simp [joinC, hc1]) ▸ hq
    · refine aw_iconst (npc := 126) (v := 0) (by decide) dX8_two_125 rfl ?_
      refine aw_goto (npc := 132) dX8_two_126 (by decide) ?_
      refine aw_iret rfl dX8_two_132 ?_
      exact (show joinC 47 a b = 0 by simp [joinC, hc1]) ▸ hq
def mwS (fa : Nat → Int32) (p : (Nat → Int32) × Nat) (c : Int32) : (Nat → Int32) × Nat :=
  if c < 0 then (if c = -10 then (upd p.1 (p.2 - 1) (if p.1 (p.2 - 1) = 0 then 1 else 0), p.2) else (upd p.1 (p.2 - 1 - 1) (twoM c (p.1 (p.2 - 1 - 1)) (p.1 (p.2 - 1))), p.2 - 1))
  else (upd p.1 p.2 (if c < 10000 then c else fa (c.toInt.toNat - 10000)), p.2 + 1)
def mwM (fa cf : Nat → Int32) : Nat → Nat → (Nat → Int32) × Nat → (Nat → Int32) × Nat
  | 0, _, p => p
  | m + 1, i, p => mwM fa cf m (i + 1) (mwS fa p (cf i))
def vld (cf : Nat → Int32) : Nat → Nat → Nat → Prop
  | 0, _, _ => True
  | m + 1, i, top => (∃ v, v < 10000 ∧ cf i = nI v ∧ top < 96 ∧ vld cf m (i + 1) (top + 1)) ∨ (∃ j, j < 4 ∧ cf i = nI (10000 + j) ∧ top < 96 ∧ vld cf m (i + 1) (top + 1)) ∨ (cf i = -10 ∧ 1 ≤ top ∧ vld cf m (i + 1) top) ∨ (∃ c, sgn (cf i) c ∧ 2 ≤ top ∧ vld cf m (i + 1) (top - 1))
theorem sgn_two {m c a b : Int32} (h : sgn m c) : twoM m a b = joinC c a b := by
  rcases h with ⟨rfl, rfl⟩ | ⟨rfl, rfl⟩ | ⟨rfl, rfl⟩ | ⟨rfl, rfl⟩ | ⟨rfl, rfl⟩ | ⟨rfl, rfl⟩ | ⟨rfl, rfl⟩ | ⟨rfl, rfl⟩ | ⟨rfl, rfl⟩ <;> simp [twoM]
theorem sgn_neg {m c : Int32} (h : sgn m c) : m < 0 ∧ m ≠ -10 := by
  rcases h with ⟨rfl, rfl⟩ | ⟨rfl, rfl⟩ | ⟨rfl, rfl⟩ | ⟨rfl, rfl⟩ | ⟨rfl, rfl⟩ | ⟨rfl, rfl⟩ | ⟨rfl, rfl⟩ | ⟨rfl, rfl⟩ | ⟨rfl, rfl⟩ <;> decide
theorem nI_toNat {v : Nat} (h : v < 100000) : (nI v).toInt.toNat = v := by
  have e : (nI v).toInt = (v : Int) := nI_toInt (by omega)
  rw [e]; rfl
set_option maxHeartbeats 4000000 in
set_option maxRecDepth 100000 in
theorem m_workL {X : List Int32} {d rc rs n : Nat} {Q : am_Q} {o N fa : Nat → Int32} {t lc : Nat} (ht : t < 14) (hlc : lc ≤ 96) : ∀ (m i : Nat), i + m = lc → ∀ (top : Nat), top ≤ 96 → vld (fun z9 => N (90 + 96 * t + z9)) m i top → ∀ (v5 : Option Value) (a : Nat → Nat → Int32) (h : am_H), MR o N a h → a 82 = fa → (∀ a9 h9, MR o N a9 h9 → (∀ c, c ≠ 81 → a9 c = a c) → a9 81 = (mwM fa (fun z9 => N (90 + 96 * t + z9)) m i (a 81, top)).1 → am_fb 69 92 h9 h → Q (some (.int (a9 81 0))) n h9) → AW X mX8_worksOut (d + 2) rc rs 21 [some (.ref 69), some (.int (nI t)), some (.int (nI top)), some (.int (nI lc)), some (.int (nI i)), v5] [] n h Q := by
  intro m
  induction m with
  | zero =>
    intro i hi top htop hvl v5 a h F hfa hq
    obtain rfl : i = lc := by omega
    refine aw_iload (npc := 23) rfl dX8_worksOut_21 rfl ?_
    refine aw_iload_n (npc := 24) rfl dX8_worksOut_23 rfl ?_
    refine aw_icmp_ge (npc := 27) (tgt := 155) dX8_worksOut_24 rfl (by decide) (fun _ => ?_) (fun hc => absurd (nI_le (a := i) (b := i) (by omega) (by omega)) hc)
    refine aw_aload_n (npc := 156) rfl dX8_worksOut_155 rfl ?_
    refine aw_get (npc := 159) dX8_worksOut_156 rfl kf_X8_49 F.1 rfl ?_
    refine aw_iconst (npc := 160) (v := 0) (by decide) dX8_worksOut_159 rfl ?_
    refine aw_iald (npc := 161) (x := (a 81) 0) (j := 0) dX8_worksOut_160 rfl F.2.2.2.2.2.2.2.2.2.2.2.2.1 ⟨by decide, by decide⟩ (tl_at (by omega)) ?_
    refine aw_iret rfl dX8_worksOut_161 ?_
    exact hq _ _ F (fun _ _ => rfl) rfl am_fb0
  | succ m ih =>
    intro i hi top htop hvl v5 a h F hfa hq
    rcases hvl with q9 | q9 | q9 | q9
    · obtain ⟨v, hv, hcf, htp, hvl⟩ := q9
      have nn1 : ¬ nI v < 0 := nI_pos (by omega)
      have nn2 : nI v < 10000 := nI_lt (a := v) (b := 10000) (by omega) (by omega)
      refine aw_iload (npc := 23) rfl dX8_worksOut_21 rfl ?_
      refine aw_iload_n (npc := 24) rfl dX8_worksOut_23 rfl ?_
      refine aw_icmp_ge (npc := 27) (tgt := 155) dX8_worksOut_24 rfl (by decide) (fun hc => absurd hc (nI_ge (a := i) (b := lc) (by omega) (by omega))) (fun _ => ?_)
      refine aw_aload_n (npc := 28) rfl dX8_worksOut_27 rfl ?_
      refine aw_get (npc := 31) dX8_worksOut_28 rfl kf_X8_9 F.1 rfl ?_
      refine aw_bipush (npc := 33) (v := 90) (by decide) dX8_worksOut_31 rfl ?_
      refine aw_bipush (npc := 35) (v := 96) (by decide) dX8_worksOut_33 rfl ?_
      refine aw_iload_n (npc := 36) rfl dX8_worksOut_35 rfl ?_
      refine aw_imulV (npc := 37) (v := nI (96 * t)) dX8_worksOut_36 rfl (pk_mul 96 _) ?_
      refine aw_iaddV (npc := 38) (v := nI (90 + (96 * t))) dX8_worksOut_37 rfl (nI_add 90 _) ?_
      refine aw_iload (npc := 40) rfl dX8_worksOut_38 rfl ?_
      refine aw_iaddV (npc := 41) (v := nI ((90 + (96 * t)) + i)) dX8_worksOut_40 rfl (nI_add _ _) ?_
      refine aw_iald (npc := 42) (x := N ((90 + (96 * t)) + i)) (j := ((90 + (96 * t)) + i)) dX8_worksOut_41 rfl F.2.1 (am_ix_nI (by omega)) (tl_at (by omega)) ?_
      refine aw_top (y := nI v) (hcf) ?_
      refine aw_istore (npc := 44) (L' := [some (.ref 69), some (.int (nI t)), some (.int (nI top)), some (.int (nI lc)), some (.int (nI i)), some (.int (nI v))]) dX8_worksOut_42 rfl (by decide) rfl rfl ?_
      refine aw_iload (npc := 46) rfl dX8_worksOut_44 rfl ?_
      refine aw_if_lt (npc := 49) (tgt := 85) dX8_worksOut_46 rfl (by decide) (fun hc => absurd hc (nn1)) (fun _ => ?_)
      refine aw_aload_n (npc := 50) rfl dX8_worksOut_49 rfl ?_
      refine aw_get (npc := 53) dX8_worksOut_50 rfl kf_X8_49 F.1 rfl ?_
      refine aw_iload_n (npc := 54) rfl dX8_worksOut_53 rfl ?_
      refine aw_iload (npc := 56) rfl dX8_worksOut_54 rfl ?_
      refine aw_sipush (npc := 59) (v := 10000) (by decide) dX8_worksOut_56 rfl ?_
      refine aw_icmp_ge (npc := 62) (tgt := 67) dX8_worksOut_59 rfl (by decide) (fun hc => absurd hc (nI_ge (a := v) (b := 10000) (by omega) (by omega))) (fun _ => ?_)
      refine aw_iload (npc := 64) rfl dX8_worksOut_62 rfl ?_
      refine aw_goto (npc := 78) dX8_worksOut_64 (by decide) ?_
      refine aw_iast (npc := 79) (j := top) dX8_worksOut_78 rfl F.2.2.2.2.2.2.2.2.2.2.2.2.1 (am_ix_nI (by omega)) (by rw [tl_len]; omega) rfl ?_
      have F4 := mr_81 (j := top) (v := nI v) F
      refine aw_iinc (npc := 82) (v := nI (top + 1)) (L' := [some (.ref 69), some (.int (nI t)), some (.int (nI (top + 1))), some (.int (nI lc)), some (.int (nI i)), some (.int (nI v))]) dX8_worksOut_79 rfl rfl (nI_1 _) (by decide) rfl rfl ?_
      refine aw_goto (npc := 149) dX8_worksOut_82 (by decide) ?_
      refine aw_iinc (npc := 152) (v := nI (i + 1)) (L' := [some (.ref 69), some (.int (nI t)), some (.int (nI (top + 1))), some (.int (nI lc)), some (.int (nI (i + 1))), some (.int (nI v))]) dX8_worksOut_149 rfl rfl (nI_1 _) (by decide) rfl rfl ?_
      refine aw_goto (npc := 21) dX8_worksOut_152 (by decide) ?_
      have s9 : mwS fa (a 81, top) (N (90 + 96 * t + i)) = (aup a 81 top (nI v) 81, (top + 1)) := by
        rw [aup_s]
        simp [mwS, hcf, nn1, nn2]
      exact ih (i + 1) (by omega) ((top + 1)) (by omega) hvl _ _ _ F4 ((aup_n (by decide)).trans hfa) (fun a9 h9 M9 k9 e9 f9 => hq a9 h9 M9 (fun c hc => (k9 c hc).trans (aup_n hc)) (e9.trans (by show _ = (mwM fa (fun z9 => N (90 + 96 * t + z9)) m (i + 1) (mwS fa (a 81, top) (N (90 + 96 * t + i)))).1; rw [s9])) (am_fbT f9 (am_fbU (by omega) am_fb0)))
    · obtain ⟨j, hj, hcf, htp, hvl⟩ := q9
      have nn1 : ¬ nI (10000 + j) < 0 := nI_pos (by omega)
      have nn2 : ¬ nI (10000 + j) < 10000 := Int32.not_lt.mpr (nI_le (a := 10000) (b := 10000 + j) (by omega) (by omega))
      have nn3 : (nI (10000 + j)).toNatClampNeg - 10000 = j := by rw [nI_clamp (by omega)]; omega
      refine aw_iload (npc := 23) rfl dX8_worksOut_21 rfl ?_
      refine aw_iload_n (npc := 24) rfl dX8_worksOut_23 rfl ?_
      refine aw_icmp_ge (npc := 27) (tgt := 155) dX8_worksOut_24 rfl (by decide) (fun hc => absurd hc (nI_ge (a := i) (b := lc) (by omega) (by omega))) (fun _ => ?_)
      refine aw_aload_n (npc := 28) rfl dX8_worksOut_27 rfl ?_
      refine aw_get (npc := 31) dX8_worksOut_28 rfl kf_X8_9 F.1 rfl ?_
      refine aw_bipush (npc := 33) (v := 90) (by decide) dX8_worksOut_31 rfl ?_
      refine aw_bipush (npc := 35) (v := 96) (by decide) dX8_worksOut_33 rfl ?_
      refine aw_iload_n (npc := 36) rfl dX8_worksOut_35 rfl ?_
      refine aw_imulV (npc := 37) (v := nI (96 * t)) dX8_worksOut_36 rfl (pk_mul 96 _) ?_
      refine aw_iaddV (npc := 38) (v := nI (90 + (96 * t))) dX8_worksOut_37 rfl (nI_add 90 _) ?_
      refine aw_iload (npc := 40) rfl dX8_worksOut_38 rfl ?_
      refine aw_iaddV (npc := 41) (v := nI ((90 + (96 * t)) + i)) dX8_worksOut_40 rfl (nI_add _ _) ?_
      refine aw_iald (npc := 42) (x := N ((90 + (96 * t)) + i)) (j := ((90 + (96 * t)) + i)) dX8_worksOut_41 rfl F.2.1 (am_ix_nI (by omega)) (tl_at (by omega)) ?_
      refine aw_top (y := nI (10000 + j)) (hcf) ?_
      refine aw_istore (npc := 44) (L' := [some (.ref 69), some (.int (nI t)), some (.int (nI top)), some (.int (nI lc)), some (.int (nI i)), some (.int (nI (10000 + j)))]) dX8_worksOut_42 rfl (by decide) rfl rfl ?_
      refine aw_iload (npc := 46) rfl dX8_worksOut_44 rfl ?_
      refine aw_if_lt (npc := 49) (tgt := 85) dX8_worksOut_46 rfl (by decide) (fun hc => absurd hc (nn1)) (fun _ => ?_)
      refine aw_aload_n (npc := 50) rfl dX8_worksOut_49 rfl ?_
      refine aw_get (npc := 53) dX8_worksOut_50 rfl kf_X8_49 F.1 rfl ?_
      refine aw_iload_n (npc := 54) rfl dX8_worksOut_53 rfl ?_
      refine aw_iload (npc := 56) rfl dX8_worksOut_54 rfl ?_
      refine aw_sipush (npc := 59) (v := 10000) (by decide) dX8_worksOut_56 rfl ?_
      refine aw_icmp_ge (npc := 62) (tgt := 67) dX8_worksOut_59 rfl (by decide) (fun _ => ?_) (fun hc => absurd (nI_le (a := 10000) (b := 10000 + j) (by omega) (by omega)) hc)
      refine aw_aload_n (npc := 68) rfl dX8_worksOut_67 rfl ?_
      refine aw_get (npc := 71) dX8_worksOut_68 rfl kf_X8_52 F.1 rfl ?_
      refine aw_iload (npc := 73) rfl dX8_worksOut_71 rfl ?_
      refine aw_sipush (npc := 76) (v := 10000) (by decide) dX8_worksOut_73 rfl ?_
      refine aw_isubV (npc := 77) (v := nI j) dX8_worksOut_76 rfl ((pk_sub (a := 10000 + j) (b := 10000) (by omega)).trans (congrArg nI (by omega))) ?_
      refine aw_iald (npc := 78) (x := (a 82) j) (j := j) dX8_worksOut_77 rfl F.2.2.2.2.2.2.2.2.2.2.2.2.2.1 (am_ix_nI (by omega)) (tl_at (by omega)) ?_
      refine aw_iast (npc := 79) (j := top) dX8_worksOut_78 rfl F.2.2.2.2.2.2.2.2.2.2.2.2.1 (am_ix_nI (by omega)) (by rw [tl_len]; omega) rfl ?_
      have F4 := mr_81 (j := top) (v := (a 82) j) F
      refine aw_iinc (npc := 82) (v := nI (top + 1)) (L' := [some (.ref 69), some (.int (nI t)), some (.int (nI (top + 1))), some (.int (nI lc)), some (.int (nI i)), some (.int (nI (10000 + j)))]) dX8_worksOut_79 rfl rfl (nI_1 _) (by decide) rfl rfl ?_
      refine aw_goto (npc := 149) dX8_worksOut_82 (by decide) ?_
      refine aw_iinc (npc := 152) (v := nI (i + 1)) (L' := [some (.ref 69), some (.int (nI t)), some (.int (nI (top + 1))), some (.int (nI lc)), some (.int (nI (i + 1))), some (.int (nI (10000 + j)))]) dX8_worksOut_149 rfl rfl (nI_1 _) (by decide) rfl rfl ?_
      refine aw_goto (npc := 21) dX8_worksOut_152 (by decide) ?_
      have s9 : mwS fa (a 81, top) (N (90 + 96 * t + i)) = (aup a 81 top ((a 82) j) 81, (top + 1)) := by
        rw [aup_s]
        simp [mwS, hcf, nn1, nn2, nn3, ← hfa]
      exact ih (i + 1) (by omega) ((top + 1)) (by omega) hvl _ _ _ F4 ((aup_n (by decide)).trans hfa) (fun a9 h9 M9 k9 e9 f9 => hq a9 h9 M9 (fun c hc => (k9 c hc).trans (aup_n hc)) (e9.trans (by show _ = (mwM fa (fun z9 => N (90 + 96 * t + z9)) m (i + 1) (mwS fa (a 81, top) (N (90 + 96 * t + i)))).1; rw [s9])) (am_fbT f9 (am_fbU (by omega) am_fb0)))
    · obtain ⟨hcf, htp, hvl⟩ := q9
      refine aw_iload (npc := 23) rfl dX8_worksOut_21 rfl ?_
      refine aw_iload_n (npc := 24) rfl dX8_worksOut_23 rfl ?_
      refine aw_icmp_ge (npc := 27) (tgt := 155) dX8_worksOut_24 rfl (by decide) (fun hc => absurd hc (nI_ge (a := i) (b := lc) (by omega) (by omega))) (fun _ => ?_)
      refine aw_aload_n (npc := 28) rfl dX8_worksOut_27 rfl ?_
      refine aw_get (npc := 31) dX8_worksOut_28 rfl kf_X8_9 F.1 rfl ?_
      refine aw_bipush (npc := 33) (v := 90) (by decide) dX8_worksOut_31 rfl ?_
      refine aw_bipush (npc := 35) (v := 96) (by decide) dX8_worksOut_33 rfl ?_
      refine aw_iload_n (npc := 36) rfl dX8_worksOut_35 rfl ?_
      refine aw_imulV (npc := 37) (v := nI (96 * t)) dX8_worksOut_36 rfl (pk_mul 96 _) ?_
      refine aw_iaddV (npc := 38) (v := nI (90 + (96 * t))) dX8_worksOut_37 rfl (nI_add 90 _) ?_
      refine aw_iload (npc := 40) rfl dX8_worksOut_38 rfl ?_
      refine aw_iaddV (npc := 41) (v := nI ((90 + (96 * t)) + i)) dX8_worksOut_40 rfl (nI_add _ _) ?_
      refine aw_iald (npc := 42) (x := N ((90 + (96 * t)) + i)) (j := ((90 + (96 * t)) + i)) dX8_worksOut_41 rfl F.2.1 (am_ix_nI (by omega)) (tl_at (by omega)) ?_
      refine aw_top (y := -10) (hcf) ?_
      refine aw_istore (npc := 44) (L' := [some (.ref 69), some (.int (nI t)), some (.int (nI top)), some (.int (nI lc)), some (.int (nI i)), some (.int (-10))]) dX8_worksOut_42 rfl (by decide) rfl rfl ?_
      refine aw_iload (npc := 46) rfl dX8_worksOut_44 rfl ?_
      refine aw_if_lt (npc := 49) (tgt := 85) dX8_worksOut_46 rfl (by decide) (fun _ => ?_) (fun hc => absurd (by decide) hc)
      refine aw_iload (npc := 87) rfl dX8_worksOut_85 rfl ?_
      refine aw_bipush (npc := 89) (v := -10) (by decide) dX8_worksOut_87 rfl ?_
      refine aw_icmp_ne (npc := 92) (tgt := 119) dX8_worksOut_89 rfl (by decide) (fun hc => absurd (by decide) hc) (fun _ => ?_)
      refine aw_aload_n (npc := 93) rfl dX8_worksOut_92 rfl ?_
      refine aw_get (npc := 96) dX8_worksOut_93 rfl kf_X8_49 F.1 rfl ?_
      refine aw_iload_n (npc := 97) rfl dX8_worksOut_96 rfl ?_
      refine aw_iconst (npc := 98) (v := 1) (by decide) dX8_worksOut_97 rfl ?_
      refine aw_isubV (npc := 99) (v := nI (top - 1)) dX8_worksOut_98 rfl (pk_sub (b := 1) (by omega)) ?_
      refine aw_aload_n (npc := 100) rfl dX8_worksOut_99 rfl ?_
      refine aw_get (npc := 103) dX8_worksOut_100 rfl kf_X8_49 F.1 rfl ?_
      refine aw_iload_n (npc := 104) rfl dX8_worksOut_103 rfl ?_
      refine aw_iconst (npc := 105) (v := 1) (by decide) dX8_worksOut_104 rfl ?_
      refine aw_isubV (npc := 106) (v := nI (top - 1)) dX8_worksOut_105 rfl (pk_sub (b := 1) (by omega)) ?_
      refine aw_iald (npc := 107) (x := (a 81) (top - 1)) (j := (top - 1)) dX8_worksOut_106 rfl F.2.2.2.2.2.2.2.2.2.2.2.2.1 (am_ix_nI (by omega)) (tl_at (by omega)) ?_
      refine aw_if_ne (npc := 110) (tgt := 114) dX8_worksOut_107 rfl (by decide) (fun hc2 => ?_) (fun hc2 => ?_)
      · refine aw_iconst (npc := 115) (v := 0) (by decide) dX8_worksOut_114 rfl ?_
        refine aw_iast (npc := 116) (j := (top - 1)) dX8_worksOut_115 rfl F.2.2.2.2.2.2.2.2.2.2.2.2.1 (am_ix_nI (by omega)) (by rw [tl_len]; omega) rfl ?_
        have F3 := mr_81 (j := (top - 1)) (v := 0) F
        refine aw_goto (npc := 149) dX8_worksOut_116 (by decide) ?_
        refine aw_iinc (npc := 152) (v := nI (i + 1)) (L' := [some (.ref 69), some (.int (nI t)), some (.int (nI top)), some (.int (nI lc)), some (.int (nI (i + 1))), some (.int (-10))]) dX8_worksOut_149 rfl rfl (nI_1 _) (by decide) rfl rfl ?_
        refine aw_goto (npc := 21) dX8_worksOut_152 (by decide) ?_
        have s9 : mwS fa (a 81, top) (N (90 + 96 * t + i)) = (aup a 81 (top - 1) 0 81, top) := by
          rw [aup_s]
          simp [mwS, hcf, hc2]
        exact ih (i + 1) (by omega) (top) (by omega) hvl _ _ _ F3 ((aup_n (by decide)).trans hfa) (fun a9 h9 M9 k9 e9 f9 => hq a9 h9 M9 (fun c hc => (k9 c hc).trans (aup_n hc)) (e9.trans (by show _ = (mwM fa (fun z9 => N (90 + 96 * t + z9)) m (i + 1) (mwS fa (a 81, top) (N (90 + 96 * t + i)))).1; rw [s9])) (am_fbT f9 (am_fbU (by omega) am_fb0)))
      · refine aw_iconst (npc := 111) (v := 1) (by decide) dX8_worksOut_110 rfl ?_
        refine aw_goto (npc := 115) dX8_worksOut_111 (by decide) ?_
        refine aw_iast (npc := 116) (j := (top - 1)) dX8_worksOut_115 rfl F.2.2.2.2.2.2.2.2.2.2.2.2.1 (am_ix_nI (by omega)) (by rw [tl_len]; omega) rfl ?_
        have F4 := mr_81 (j := (top - 1)) (v := 1) F
        refine aw_goto (npc := 149) dX8_worksOut_116 (by decide) ?_
        refine aw_iinc (npc := 152) (v := nI (i + 1)) (L' := [some (.ref 69), some (.int (nI t)), some (.int (nI top)), some (.int (nI lc)), some (.int (nI (i + 1))), some (.int (-10))]) dX8_worksOut_149 rfl rfl (nI_1 _) (by decide) rfl rfl ?_
        refine aw_goto (npc := 21) dX8_worksOut_152 (by decide) ?_
        have s9 : mwS fa (a 81, top) (N (90 + 96 * t + i)) = (aup a 81 (top - 1) 1 81, top) := by
          rw [aup_s]
          simp [mwS, hcf, hc2]
        exact ih (i + 1) (by omega) (top) (by omega) hvl _ _ _ F4 ((aup_n (by decide)).trans hfa) (fun a9 h9 M9 k9 e9 f9 => hq a9 h9 M9 (fun c hc => (k9 c hc).trans (aup_n hc)) (e9.trans (by show _ = (mwM fa (fun z9 => N (90 + 96 * t + z9)) m (i + 1) (mwS fa (a 81, top) (N (90 + 96 * t + i)))).1; rw [s9])) (am_fbT f9 (am_fbU (by omega) am_fb0)))
    · obtain ⟨c, hsg, htp, hvl⟩ := q9
      refine aw_iload (npc := 23) rfl dX8_worksOut_21 rfl ?_
      refine aw_iload_n (npc := 24) rfl dX8_worksOut_23 rfl ?_
      refine aw_icmp_ge (npc := 27) (tgt := 155) dX8_worksOut_24 rfl (by decide) (fun hc => absurd hc (nI_ge (a := i) (b := lc) (by omega) (by omega))) (fun _ => ?_)
      refine aw_aload_n (npc := 28) rfl dX8_worksOut_27 rfl ?_
      refine aw_get (npc := 31) dX8_worksOut_28 rfl kf_X8_9 F.1 rfl ?_
      refine aw_bipush (npc := 33) (v := 90) (by decide) dX8_worksOut_31 rfl ?_
      refine aw_bipush (npc := 35) (v := 96) (by decide) dX8_worksOut_33 rfl ?_
      refine aw_iload_n (npc := 36) rfl dX8_worksOut_35 rfl ?_
      refine aw_imulV (npc := 37) (v := nI (96 * t)) dX8_worksOut_36 rfl (pk_mul 96 _) ?_
      refine aw_iaddV (npc := 38) (v := nI (90 + (96 * t))) dX8_worksOut_37 rfl (nI_add 90 _) ?_
      refine aw_iload (npc := 40) rfl dX8_worksOut_38 rfl ?_
      refine aw_iaddV (npc := 41) (v := nI ((90 + (96 * t)) + i)) dX8_worksOut_40 rfl (nI_add _ _) ?_
      refine aw_iald (npc := 42) (x := N ((90 + (96 * t)) + i)) (j := ((90 + (96 * t)) + i)) dX8_worksOut_41 rfl F.2.1 (am_ix_nI (by omega)) (tl_at (by omega)) ?_
      refine aw_istore (npc := 44) (L' := [some (.ref 69), some (.int (nI t)), some (.int (nI top)), some (.int (nI lc)), some (.int (nI i)), some (.int (N ((90 + (96 * t)) + i)))]) dX8_worksOut_42 rfl (by decide) rfl rfl ?_
      refine aw_iload (npc := 46) rfl dX8_worksOut_44 rfl ?_
      refine aw_if_lt (npc := 49) (tgt := 85) dX8_worksOut_46 rfl (by decide) (fun _ => ?_) (fun hc => absurd ((sgn_neg hsg).1) hc)
      refine aw_iload (npc := 87) rfl dX8_worksOut_85 rfl ?_
      refine aw_bipush (npc := 89) (v := -10) (by decide) dX8_worksOut_87 rfl ?_
      refine aw_icmp_ne (npc := 92) (tgt := 119) dX8_worksOut_89 rfl (by decide) (fun _ => ?_) (fun hc => absurd hc ((sgn_neg hsg).2))
      refine aw_iinc (npc := 122) (v := nI (top - 1)) (L' := [some (.ref 69), some (.int (nI t)), some (.int (nI (top - 1))), some (.int (nI lc)), some (.int (nI i)), some (.int (N ((90 + (96 * t)) + i)))]) dX8_worksOut_119 rfl rfl (sb_m1 (by omega)) (by decide) rfl rfl ?_
      refine aw_aload_n (npc := 123) rfl dX8_worksOut_122 rfl ?_
      refine aw_get (npc := 126) dX8_worksOut_123 rfl kf_X8_49 F.1 rfl ?_
      refine aw_iload_n (npc := 127) rfl dX8_worksOut_126 rfl ?_
      refine aw_iconst (npc := 128) (v := 1) (by decide) dX8_worksOut_127 rfl ?_
      refine aw_isubV (npc := 129) (v := nI ((top - 1) - 1)) dX8_worksOut_128 rfl (pk_sub (b := 1) (by omega)) ?_
      refine aw_iload (npc := 131) rfl dX8_worksOut_129 rfl ?_
      refine aw_aload_n (npc := 132) rfl dX8_worksOut_131 rfl ?_
      refine aw_get (npc := 135) dX8_worksOut_132 rfl kf_X8_49 F.1 rfl ?_
      refine aw_iload_n (npc := 136) rfl dX8_worksOut_135 rfl ?_
      refine aw_iconst (npc := 137) (v := 1) (by decide) dX8_worksOut_136 rfl ?_
      refine aw_isubV (npc := 138) (v := nI ((top - 1) - 1)) dX8_worksOut_137 rfl (pk_sub (b := 1) (by omega)) ?_
      refine aw_iald (npc := 139) (x := (a 81) ((top - 1) - 1)) (j := ((top - 1) - 1)) dX8_worksOut_138 rfl F.2.2.2.2.2.2.2.2.2.2.2.2.1 (am_ix_nI (by omega)) (tl_at (by omega)) ?_
      refine aw_aload_n (npc := 140) rfl dX8_worksOut_139 rfl ?_
      refine aw_get (npc := 143) dX8_worksOut_140 rfl kf_X8_49 F.1 rfl ?_
      refine aw_iload_n (npc := 144) rfl dX8_worksOut_143 rfl ?_
      refine aw_iald (npc := 145) (x := (a 81) (top - 1)) (j := (top - 1)) dX8_worksOut_144 rfl F.2.2.2.2.2.2.2.2.2.2.2.2.1 (am_ix_nI (by omega)) (tl_at (by omega)) ?_
      refine aw_callS (npc := 148) (N := mX8_two) (mc := 0) (ms := 0) (A := [.int (N ((90 + (96 * t)) + i)), .int ((a 81) ((top - 1) - 1)), .int ((a 81) (top - 1))]) (S := [.int (nI ((top - 1) - 1)), .ref 81]) (L0 := [some (.int (N ((90 + (96 * t)) + i))), some (.int ((a 81) ((top - 1) - 1))), some (.int ((a 81) (top - 1)))]) dX8_worksOut_145 rfl km_X8_two kk_X8_255 rfl ⟨rfl, by decide⟩ rfl (Nat.le_of_ble_eq_true rfl) (Nat.zero_add _) (Nat.zero_add _) rfl ?_
      refine m_two (c := c) hsg ?_
      refine aw_re (S' := [.int (joinC c ((a 81) ((top - 1) - 1)) ((a 81) (top - 1))), .int (nI ((top - 1) - 1)), .ref 81]) rfl ?_
      refine aw_iast (npc := 149) (j := ((top - 1) - 1)) dX8_worksOut_148 rfl F.2.2.2.2.2.2.2.2.2.2.2.2.1 (am_ix_nI (by omega)) (by rw [tl_len]; omega) rfl ?_
      have F4 := mr_81 (j := ((top - 1) - 1)) (v := joinC c ((a 81) ((top - 1) - 1)) ((a 81) (top - 1))) F
      refine aw_iinc (npc := 152) (v := nI (i + 1)) (L' := [some (.ref 69), some (.int (nI t)), some (.int (nI (top - 1))), some (.int (nI lc)), some (.int (nI (i + 1))), some (.int (N ((90 + (96 * t)) + i)))]) dX8_worksOut_149 rfl rfl (nI_1 _) (by decide) rfl rfl ?_
      refine aw_goto (npc := 21) dX8_worksOut_152 (by decide) ?_
      have s9 : mwS fa (a 81, top) (N (90 + 96 * t + i)) = (aup a 81 ((top - 1) - 1) (joinC c ((a 81) ((top - 1) - 1)) ((a 81) (top - 1))) 81, (top - 1)) := by
        rw [aup_s]
        simp [mwS, (sgn_neg hsg).1, (sgn_neg hsg).2, sgn_two hsg]
      exact ih (i + 1) (by omega) ((top - 1)) (by omega) hvl _ _ _ F4 ((aup_n (by decide)).trans hfa) (fun a9 h9 M9 k9 e9 f9 => hq a9 h9 M9 (fun c hc => (k9 c hc).trans (aup_n hc)) (e9.trans (by show _ = (mwM fa (fun z9 => N (90 + 96 * t + z9)) m (i + 1) (mwS fa (a 81, top) (N (90 + 96 * t + i)))).1; rw [s9])) (am_fbT f9 (am_fbU (by omega) am_fb0)))
set_option maxHeartbeats 4000000 in
set_option maxRecDepth 100000 in
theorem m_work {X : List Int32} {d rc rs n : Nat} {Q : am_Q} {o N fa : Nat → Int32} {a : Nat → Nat → Int32} {h : am_H} {t lc ky : Nat} (F : MR o N a h) (ht : t < 14) (hky : ky ≤ 2) (hlc : lc ≤ 96) (hhd : N (62 + 2 * t) = nI (1000 * ky + lc)) (hvl : vld (fun z9 => N (90 + 96 * t + z9)) lc 0 0) (hfa : a 82 = fa) (hq : (∀ a9 h9, MR o N a9 h9 → (∀ c, c ≠ 81 → a9 c = a c) → a9 81 = (mwM fa (fun z9 => N (90 + 96 * t + z9)) lc 0 (a 81, 0)).1 → am_fb 69 92 h9 h → Q (some (.int (a9 81 0))) n h9)) : AW X mX8_worksOut (d + 2) rc rs 0 [some (.ref 69), some (.int (nI t)), none, none, none, none] [] n h Q := by
  refine aw_iconst (npc := 1) (v := 0) (by decide) dX8_worksOut_0 rfl ?_
  refine aw_istore_n (npc := 2) (L' := [some (.ref 69), some (.int (nI t)), some (.int 0), none, none, none]) dX8_worksOut_1 rfl (by decide) rfl rfl ?_
  refine aw_aload_n (npc := 3) rfl dX8_worksOut_2 rfl ?_
  refine aw_get (npc := 6) dX8_worksOut_3 rfl kf_X8_9 F.1 rfl ?_
  refine aw_bipush (npc := 8) (v := 62) (by decide) dX8_worksOut_6 rfl ?_
  refine aw_iconst (npc := 9) (v := 2) (by decide) dX8_worksOut_8 rfl ?_
  refine aw_iload_n (npc := 10) rfl dX8_worksOut_9 rfl ?_
  refine aw_imulV (npc := 11) (v := nI (2 * t)) dX8_worksOut_10 rfl (pk_mul 2 _) ?_
  refine aw_iaddV (npc := 12) (v := nI (62 + (2 * t))) dX8_worksOut_11 rfl (nI_add 62 _) ?_
  refine aw_iald (npc := 13) (x := N (62 + (2 * t))) (j := (62 + (2 * t))) dX8_worksOut_12 rfl F.2.1 (am_ix_nI (by omega)) (tl_at (by omega)) ?_
  refine aw_top (y := nI (1000 * ky + lc)) (hhd) ?_
  refine aw_sipush (npc := 16) (v := 1000) (by decide) dX8_worksOut_13 rfl ?_
  refine aw_iremV (npc := 17) (v := nI lc) (by decide) dX8_worksOut_16 rfl ((pk_rem (a := 1000 * ky + lc) (d := 1000) (by omega) (by omega) (by omega)).trans (congrArg nI (by omega))) ?_
  refine aw_istore_n (npc := 18) (L' := [some (.ref 69), some (.int (nI t)), some (.int 0), some (.int (nI lc)), none, none]) dX8_worksOut_17 rfl (by decide) rfl rfl ?_
  refine aw_iconst (npc := 19) (v := 0) (by decide) dX8_worksOut_18 rfl ?_
  refine aw_istore (npc := 21) (L' := [some (.ref 69), some (.int (nI t)), some (.int 0), some (.int (nI lc)), some (.int 0), none]) dX8_worksOut_19 rfl (by decide) rfl rfl ?_
  refine aw_locs (L' := [some (.ref 69), some (.int (nI t)), some (.int (nI 0)), some (.int (nI lc)), some (.int (nI 0)), none]) rfl ?_
  exact m_workL ht hlc lc 0 (by omega) 0 (by omega) hvl _ _ _ F hfa hq
def cntM (key : Int32) (N : Nat → Int32) : Nat → Option Nat
  | 0 => none
  | t + 1 => if N (62 + 2 * t) / 1000 = key then some t else cntM key N t
theorem cntM_lt {key : Int32} {N : Nat → Int32} : ∀ {c t : Nat}, cntM key N c = some t → t < c ∧ N (62 + 2 * t) / 1000 = key := by
  intro c
  induction c with
  | zero => intro t h; cases h
  | succ c ih =>
    intro t h
    simp only [cntM] at h
    split at h
    · rename_i e
      injection h with z
      subst z
      exact ⟨by omega, e⟩
    · exact ⟨by have z := (ih h).1; omega, (ih h).2⟩
theorem m1_m1 (x : Int32) : x + -1 = x - 1 := (Int32.sub_eq_add_neg x 1).symm
theorem nIs1 (m : Nat) (h : m < 1000) : nI (m + 1) - 1 = nI m := pk_sub (a := m + 1) (b := 1) (by omega)
set_option maxHeartbeats 4000000 in
set_option maxRecDepth 100000 in
theorem m_countsL {X : List Int32} {d rc rs n : Nat} {Q : am_Q} {o N : Nat → Int32} {a : Nat → Nat → Int32} {h : am_H} {key : Int32} (F : MR o N a h) : ∀ (m : Nat), m ≤ 14 → Q (some (.int (bI (cntM key N m)))) n h → AW X mX8_counts d rc rs 10 [some (.ref 69), some (.int key), some (.int (nI m - 1))] [] n h Q := by
  intro m
  induction m with
  | zero =>
    intro hm hq
    rw [show nI 0 - 1 = (-1 : Int32) by decide]
    refine aw_iload_n (npc := 11) rfl dX8_counts_10 rfl ?_
    refine aw_if_lt (npc := 14) (tgt := 41) dX8_counts_11 rfl (by decide) (fun _ => ?_) (fun hc => absurd (by decide) hc)
    refine aw_iconst (npc := 42) (v := -1) (by decide) dX8_counts_41 rfl ?_
    refine aw_iret rfl dX8_counts_42 ?_
    exact hq
  | succ m ih =>
    intro hm hq
    rw [nIs1 m (by omega)]
    refine aw_iload_n (npc := 11) rfl dX8_counts_10 rfl ?_
    refine aw_if_lt (npc := 14) (tgt := 41) dX8_counts_11 rfl (by decide) (fun hc => absurd hc (nI_pos (by omega))) (fun _ => ?_)
    refine aw_aload_n (npc := 15) rfl dX8_counts_14 rfl ?_
    refine aw_get (npc := 18) dX8_counts_15 rfl kf_X8_9 F.1 rfl ?_
    refine aw_bipush (npc := 20) (v := 62) (by decide) dX8_counts_18 rfl ?_
    refine aw_iconst (npc := 21) (v := 2) (by decide) dX8_counts_20 rfl ?_
    refine aw_iload_n (npc := 22) rfl dX8_counts_21 rfl ?_
    refine aw_imulV (npc := 23) (v := nI (2 * m)) dX8_counts_22 rfl (pk_mul 2 _) ?_
    refine aw_iaddV (npc := 24) (v := nI (62 + (2 * m))) dX8_counts_23 rfl (nI_add 62 _) ?_
    refine aw_iald (npc := 25) (x := N (62 + (2 * m))) (j := (62 + (2 * m))) dX8_counts_24 rfl F.2.1 (am_ix_nI (by omega)) (tl_at (by omega)) ?_
    refine aw_sipush (npc := 28) (v := 1000) (by decide) dX8_counts_25 rfl ?_
    refine aw_idiv (npc := 29) (by decide) dX8_counts_28 rfl ?_
    refine aw_iload_n (npc := 30) rfl dX8_counts_29 rfl ?_
    refine aw_icmp_ne (npc := 33) (tgt := 35) dX8_counts_30 rfl (by decide) (fun hc2 => ?_) (fun hc2 => ?_)
    · refine aw_iinc (npc := 38) (v := nI m - 1) (L' := [some (.ref 69), some (.int key), some (.int (nI m - 1))]) dX8_counts_35 rfl rfl (m1_m1 _) (by decide) rfl rfl ?_
      refine aw_goto (npc := 10) dX8_counts_38 (by decide) ?_
      exact ih (by omega) ((show cntM key N (m + 1) = cntM key N m by simp [cntM, hc2]) ▸ hq)
    · refine aw_iload_n (npc := 34) rfl dX8_counts_33 rfl ?_
      refine aw_iret rfl dX8_counts_34 ?_
      exact (congrArg (fun z9 => Q (some (.int (bI z9))) n h) (show cntM key N (m + 1) = some m by simp [cntM, hc2])).mp hq
set_option maxHeartbeats 4000000 in
set_option maxRecDepth 100000 in
theorem m_counts {X : List Int32} {d rc rs n : Nat} {Q : am_Q} {o N : Nat → Int32} {a : Nat → Nat → Int32} {h : am_H} {key : Int32} {c : Nat} (F : MR o N a h) (hc : N 7 = nI c) (hc14 : c ≤ 14) (hq : Q (some (.int (bI (cntM key N c)))) n h) : AW X mX8_counts (d + 0) rc rs 0 [some (.ref 69), some (.int key), none] [] n h Q := by
  refine aw_aload_n (npc := 1) rfl dX8_counts_0 rfl ?_
  refine aw_get (npc := 4) dX8_counts_1 rfl kf_X8_9 F.1 rfl ?_
  refine aw_bipush (npc := 6) (v := 7) (by decide) dX8_counts_4 rfl ?_
  refine aw_iald (npc := 7) (x := N 7) (j := 7) dX8_counts_6 rfl F.2.1 ⟨by decide, by decide⟩ (tl_at (by omega)) ?_
  refine aw_top (y := nI c) (hc) ?_
  refine aw_iconst (npc := 8) (v := 1) (by decide) dX8_counts_7 rfl ?_
  refine aw_isub (npc := 9) dX8_counts_8 rfl ?_
  refine aw_istore_n (npc := 10) (L' := [some (.ref 69), some (.int key), some (.int ((nI c) - 1))]) dX8_counts_9 rfl (by decide) rfl rfl ?_
  exact m_countsL F c hc14 hq
def wn (v lo hi : Int32) : Int32 := if v < lo then lo else if hi < v then hi else v
set_option maxHeartbeats 4000000 in
set_option maxRecDepth 100000 in
theorem m_within {X : List Int32} {d rc rs n : Nat} {Q : am_Q} {h : am_H} {v lo hi : Int32} (hq : Q (some (.int (wn v lo hi))) n h) : AW X mX8_within d rc rs 0 [some (.int v), some (.int lo), some (.int hi)] [] n h Q := by
  refine aw_iload_n (npc := 1) rfl dX8_within_0 rfl ?_
  refine aw_iload_n (npc := 2) rfl dX8_within_1 rfl ?_
  refine aw_icmp_ge (npc := 5) (tgt := 9) dX8_within_2 rfl (by decide) (fun hc1 => ?_) (fun hc1 => ?_)
  · refine aw_iload_n (npc := 10) rfl dX8_within_9 rfl ?_
    refine aw_iload_n (npc := 11) rfl dX8_within_10 rfl ?_
    refine aw_icmp_le (npc := 14) (tgt := 18) dX8_within_11 rfl (by decide) (fun hc2 => ?_) (fun hc2 => ?_)
    · refine aw_iload_n (npc := 19) rfl dX8_within_18 rfl ?_
      refine aw_iret rfl dX8_within_19 ?_
      exact (show wn v lo hi = v by simp [wn, Int32.not_lt.mpr hc1, Int32.not_lt.mpr hc2]) ▸ hq
    · refine aw_iload_n (npc := 15) rfl dX8_within_14 rfl ?_
      refine aw_goto (npc := 19) dX8_within_15 (by decide) ?_
      refine aw_iret rfl dX8_within_19 ?_
      exact (show wn v lo hi = hi by simp [wn, Int32.not_lt.mpr hc1, Int32.not_le.mp hc2]) ▸ hq
  · refine aw_iload_n (npc := 6) rfl dX8_within_5 rfl ?_
    refine aw_goto (npc := 19) dX8_within_6 (by decide) ?_
    refine aw_iret rfl dX8_within_19 ?_
    exact (show wn v lo hi = lo by simp [wn, Int32.not_le.mp hc1]) ▸ hq
def mtoneK (k hv pl : Int32) : Int32 := if k = 1 then wn (pl + 20) 0 99 else if k = 2 then pl / 2 else if k = 3 then (if hv < 40 then wn (pl + 20) 0 99 else 0) else if k = 4 then wn (pl / 2 - 10) 0 99 else if k = 5 then 0 else pl
def TXM (N : Nat → Int32) (c : Nat) : Prop := N 7 = nI c ∧ c ≤ 14 ∧ ∀ t, t < c → ∃ ky lc, ky ≤ 2 ∧ 1 ≤ lc ∧ lc ≤ 96 ∧ N (62 + 2 * t) = nI (1000 * ky + lc) ∧ vld (fun z9 => N (90 + 96 * t + z9)) lc 0 0
def f3 (fa : Nat → Int32) (x y z : Int32) : Nat → Int32 := upd (upd (upd fa 0 x) 1 y) 2 z
def MPr (N : Nat → Int32) (c f : Nat) (pl : Int32) : Prop := (cntM 0 N c = none ∧ pl = (N (24 + 5 * f) + N 3) / 2) ∨ ∃ t lc ky sf fa, cntM 0 N c = some t ∧ ky ≤ 2 ∧ lc ≤ 96 ∧ N (62 + 2 * t) = nI (1000 * ky + lc) ∧ pl = wn ((mwM (f3 fa (N (24 + 5 * f)) (N 3) (N (25 + 5 * f))) (fun z9 => N (90 + 96 * t + z9)) lc 0 (sf, 0)).1 0) 0 99
def MTr (N : Nat → Int32) (c f : Nat) (τ : Int32) : Prop := ∃ pl, MPr N c f pl ∧ τ = mtoneK (N (22 + 5 * f)) (N 3) pl
def ak (a9 a : Nat → Nat → Int32) : Prop := ∀ k, k ≠ 81 → k ≠ 82 → a9 k = a k
theorem rfl_ak {a : Nat → Nat → Int32} {x y z : Int32} {k : Nat} (h : k ≠ 82) : aup (aup (aup a 82 0 x) 82 1 y) 82 2 z k = a k := ((aup_n h).trans (aup_n h)).trans (aup_n h)
set_option maxHeartbeats 4000000 in
set_option maxRecDepth 100000 in
theorem m_tone {X : List Int32} {d rc rs n : Nat} {Q : am_Q} {o N : Nat → Int32} {a : Nat → Nat → Int32} {h : am_H} {c f : Nat} (F : MR o N a h) (hT : TXM N c) (hf : f < 8) (hk : wi (N (22 + 5 * f)) 0 5) (hq : ∀ τ a9 h9, MTr N c f τ → MR o N a9 h9 → ak a9 a → am_fb 69 92 h9 h → Q (some (.int τ)) n h9) : AW X mX8_toneOf (d + 3) rc rs 0 [some (.ref 69), some (.int (nI f)), none, none] [] n h Q := by
  refine aw_aload_n (npc := 1) rfl dX8_toneOf_0 rfl ?_
  refine aw_iconst (npc := 2) (v := 0) (by decide) dX8_toneOf_1 rfl ?_
  refine aw_callV (npc := 5) (N := mX8_counts) (b := 69) (mc := 0) (ms := 0) (A := [.int 0]) (S := []) (L0 := [some (.ref 69), some (.int 0), none]) dX8_toneOf_2 rfl km_X8_counts kk_X8_97 F.1 ⟨by decide, rfl⟩ rfl ⟨rfl, by decide⟩ rfl (Nat.le_of_ble_eq_true rfl) (Nat.zero_add _) (Nat.zero_add _) rfl ?_
  refine m_counts F hT.1 hT.2.1 ?_
  cases ec : cntM 0 N c with
  | none =>
    refine aw_re (S' := [.int (-1)]) rfl ?_
    refine aw_istore_n (npc := 6) (L' := [some (.ref 69), some (.int (nI f)), some (.int (-1)), none]) dX8_toneOf_5 rfl (by decide) rfl rfl ?_
    refine aw_aload_n (npc := 7) rfl dX8_toneOf_6 rfl ?_
    refine aw_get (npc := 10) dX8_toneOf_7 rfl kf_X8_52 F.1 rfl ?_
    refine aw_iconst (npc := 11) (v := 0) (by decide) dX8_toneOf_10 rfl ?_
    refine aw_aload_n (npc := 12) rfl dX8_toneOf_11 rfl ?_
    refine aw_iload_n (npc := 13) rfl dX8_toneOf_12 rfl ?_
    refine aw_iconst (npc := 14) (v := 2) (by decide) dX8_toneOf_13 rfl ?_
    refine aw_callV (npc := 17) (N := mX8_of) (b := 69) (mc := 0) (ms := 0) (A := [.int (nI f), .int 2]) (S := [.int 0, .ref 82]) (L0 := [some (.ref 69), some (.int (nI f)), some (.int 2)]) dX8_toneOf_14 rfl km_X8_of kk_X8_101 F.1 ⟨by decide, rfl⟩ rfl ⟨rfl, by decide⟩ rfl (Nat.le_of_ble_eq_true rfl) (Nat.zero_add _) (Nat.zero_add _) rfl ?_
    refine m_of2 (f := f) F (by omega) ?_
    refine aw_re (S' := [.int (N (24 + 5 * f)), .int 0, .ref 82]) rfl ?_
    refine aw_iast (npc := 18) (j := 0) dX8_toneOf_17 rfl F.2.2.2.2.2.2.2.2.2.2.2.2.2.1 ⟨by decide, by decide⟩ (by rw [tl_len]; omega) rfl ?_
    have F1 := mr_82 (j := 0) (v := N (24 + 5 * f)) F
    refine aw_aload_n (npc := 19) rfl dX8_toneOf_18 rfl ?_
    refine aw_get (npc := 22) dX8_toneOf_19 rfl kf_X8_52 F1.1 rfl ?_
    refine aw_iconst (npc := 23) (v := 1) (by decide) dX8_toneOf_22 rfl ?_
    refine aw_aload_n (npc := 24) rfl dX8_toneOf_23 rfl ?_
    refine aw_get (npc := 27) dX8_toneOf_24 rfl kf_X8_9 F1.1 rfl ?_
    refine aw_iconst (npc := 28) (v := 3) (by decide) dX8_toneOf_27 rfl ?_
    refine aw_iald (npc := 29) (x := N 3) (j := 3) dX8_toneOf_28 rfl F1.2.1 ⟨by decide, by decide⟩ (tl_at (by omega)) ?_
    refine aw_iast (npc := 30) (j := 1) dX8_toneOf_29 rfl F1.2.2.2.2.2.2.2.2.2.2.2.2.2.1 ⟨by decide, by decide⟩ (by rw [tl_len]; omega) rfl ?_
    have F2 := mr_82 (j := 1) (v := N 3) F1
    refine aw_aload_n (npc := 31) rfl dX8_toneOf_30 rfl ?_
    refine aw_get (npc := 34) dX8_toneOf_31 rfl kf_X8_52 F2.1 rfl ?_
    refine aw_iconst (npc := 35) (v := 2) (by decide) dX8_toneOf_34 rfl ?_
    refine aw_aload_n (npc := 36) rfl dX8_toneOf_35 rfl ?_
    refine aw_iload_n (npc := 37) rfl dX8_toneOf_36 rfl ?_
    refine aw_iconst (npc := 38) (v := 3) (by decide) dX8_toneOf_37 rfl ?_
    refine aw_callV (npc := 41) (N := mX8_of) (b := 69) (mc := 0) (ms := 0) (A := [.int (nI f), .int 3]) (S := [.int 2, .ref 82]) (L0 := [some (.ref 69), some (.int (nI f)), some (.int 3)]) dX8_toneOf_38 rfl km_X8_of kk_X8_101 F2.1 ⟨by decide, rfl⟩ rfl ⟨rfl, by decide⟩ rfl (Nat.le_of_ble_eq_true rfl) (Nat.zero_add _) (Nat.zero_add _) rfl ?_
    refine m_of3 (f := f) F2 (by omega) ?_
    refine aw_re (S' := [.int (N (25 + 5 * f)), .int 2, .ref 82]) rfl ?_
    refine aw_iast (npc := 42) (j := 2) dX8_toneOf_41 rfl F2.2.2.2.2.2.2.2.2.2.2.2.2.2.1 ⟨by decide, by decide⟩ (by rw [tl_len]; omega) rfl ?_
    have F3 := mr_82 (j := 2) (v := N (25 + 5 * f)) F2
    refine aw_iload_n (npc := 43) rfl dX8_toneOf_42 rfl ?_
    refine aw_if_ge (npc := 46) (tgt := 64) dX8_toneOf_43 rfl (by decide) (fun hc => absurd hc (by decide)) (fun _ => ?_)
    refine aw_aload_n (npc := 47) rfl dX8_toneOf_46 rfl ?_
    refine aw_iload_n (npc := 48) rfl dX8_toneOf_47 rfl ?_
    refine aw_iconst (npc := 49) (v := 2) (by decide) dX8_toneOf_48 rfl ?_
    refine aw_callV (npc := 52) (N := mX8_of) (b := 69) (mc := 0) (ms := 0) (A := [.int (nI f), .int 2]) (S := []) (L0 := [some (.ref 69), some (.int (nI f)), some (.int 2)]) dX8_toneOf_49 rfl km_X8_of kk_X8_101 F3.1 ⟨by decide, rfl⟩ rfl ⟨rfl, by decide⟩ rfl (Nat.le_of_ble_eq_true rfl) (Nat.zero_add _) (Nat.zero_add _) rfl ?_
    refine m_of2 (f := f) F3 (by omega) ?_
    refine aw_re (S' := [.int (N (24 + 5 * f))]) rfl ?_
    refine aw_aload_n (npc := 53) rfl dX8_toneOf_52 rfl ?_
    refine aw_get (npc := 56) dX8_toneOf_53 rfl kf_X8_9 F3.1 rfl ?_
    refine aw_iconst (npc := 57) (v := 3) (by decide) dX8_toneOf_56 rfl ?_
    refine aw_iald (npc := 58) (x := N 3) (j := 3) dX8_toneOf_57 rfl F3.2.1 ⟨by decide, by decide⟩ (tl_at (by omega)) ?_
    refine aw_iadd (npc := 59) dX8_toneOf_58 rfl ?_
    refine aw_iconst (npc := 60) (v := 2) (by decide) dX8_toneOf_59 rfl ?_
    refine aw_idiv (npc := 61) (by decide) dX8_toneOf_60 rfl ?_
    refine aw_goto (npc := 75) dX8_toneOf_61 (by decide) ?_
    refine aw_istore_n (npc := 76) (L' := [some (.ref 69), some (.int (nI f)), some (.int (-1)), some (.int (((N (24 + 5 * f)) + (N 3)) / 2))]) dX8_toneOf_75 rfl (by decide) rfl rfl ?_
    refine aw_aload_n (npc := 77) rfl dX8_toneOf_76 rfl ?_
    refine aw_iload_n (npc := 78) rfl dX8_toneOf_77 rfl ?_
    refine aw_iconst (npc := 79) (v := 0) (by decide) dX8_toneOf_78 rfl ?_
    refine aw_callV (npc := 82) (N := mX8_of) (b := 69) (mc := 0) (ms := 0) (A := [.int (nI f), .int 0]) (S := []) (L0 := [some (.ref 69), some (.int (nI f)), some (.int 0)]) dX8_toneOf_79 rfl km_X8_of kk_X8_101 F3.1 ⟨by decide, rfl⟩ rfl ⟨rfl, by decide⟩ rfl (Nat.le_of_ble_eq_true rfl) (Nat.zero_add _) (Nat.zero_add _) rfl ?_
    refine m_of0 (f := f) F3 (by omega) ?_
    refine aw_re (S' := [.int (N (22 + 5 * f))]) rfl ?_
    rcases wi_c0_5 hk with ek | ek | ek | ek | ek | ek
    · refine aw_top (y := 0) ek ?_
      refine aw_tableOut (npc := 172) dX8_toneOf_82 (by decide) (by decide) ?_
      refine aw_iload_n (npc := 173) rfl dX8_toneOf_172 rfl ?_
      refine aw_iret rfl dX8_toneOf_173 ?_
      exact hq _ _ _ ⟨_, Or.inl ⟨ec, rfl⟩, by simp [mtoneK, ek]⟩ F3 (fun k _ h2 => rfl_ak h2) (am_fbU (by omega) (am_fbU (by omega) (am_fbU (by omega) am_fb0)))
    · refine aw_top (y := 1) ek ?_
      refine aw_tableIn (npc := 116) dX8_toneOf_82 (by decide) (by decide) rfl (by decide) ?_
      refine aw_iload_n (npc := 117) rfl dX8_toneOf_116 rfl ?_
      refine aw_bipush (npc := 119) (v := 20) (by decide) dX8_toneOf_117 rfl ?_
      refine aw_iadd (npc := 120) dX8_toneOf_119 rfl ?_
      refine aw_iconst (npc := 121) (v := 0) (by decide) dX8_toneOf_120 rfl ?_
      refine aw_bipush (npc := 123) (v := 99) (by decide) dX8_toneOf_121 rfl ?_
      refine aw_callS (npc := 126) (N := mX8_within) (mc := 0) (ms := 0) (A := [.int ((((N (24 + 5 * f)) + (N 3)) / 2) + 20), .int 0, .int 99]) (S := []) (L0 := [some (.int ((((N (24 + 5 * f)) + (N 3)) / 2) + 20)), some (.int 0), some (.int 99)]) dX8_toneOf_123 rfl km_X8_within kk_X8_108 rfl ⟨rfl, by decide⟩ rfl (Nat.le_of_ble_eq_true rfl) (Nat.zero_add _) (Nat.zero_add _) rfl ?_
      refine m_within ?_
      refine aw_re (S' := [.int (wn ((((N (24 + 5 * f)) + (N 3)) / 2) + 20) 0 99)]) rfl ?_
      refine aw_iret rfl dX8_toneOf_126 ?_
      exact hq _ _ _ ⟨_, Or.inl ⟨ec, rfl⟩, by simp [mtoneK, ek]⟩ F3 (fun k _ h2 => rfl_ak h2) (am_fbU (by omega) (am_fbU (by omega) (am_fbU (by omega) am_fb0)))
    · refine aw_top (y := 2) ek ?_
      refine aw_tableIn (npc := 127) dX8_toneOf_82 (by decide) (by decide) rfl (by decide) ?_
      refine aw_iload_n (npc := 128) rfl dX8_toneOf_127 rfl ?_
      refine aw_iconst (npc := 129) (v := 2) (by decide) dX8_toneOf_128 rfl ?_
      refine aw_idiv (npc := 130) (by decide) dX8_toneOf_129 rfl ?_
      refine aw_iret rfl dX8_toneOf_130 ?_
      exact hq _ _ _ ⟨_, Or.inl ⟨ec, rfl⟩, by simp [mtoneK, ek]⟩ F3 (fun k _ h2 => rfl_ak h2) (am_fbU (by omega) (am_fbU (by omega) (am_fbU (by omega) am_fb0)))
    · refine aw_top (y := 3) ek ?_
      refine aw_tableIn (npc := 131) dX8_toneOf_82 (by decide) (by decide) rfl (by decide) ?_
      refine aw_aload_n (npc := 132) rfl dX8_toneOf_131 rfl ?_
      refine aw_get (npc := 135) dX8_toneOf_132 rfl kf_X8_9 F3.1 rfl ?_
      refine aw_iconst (npc := 136) (v := 3) (by decide) dX8_toneOf_135 rfl ?_
      refine aw_iald (npc := 137) (x := N 3) (j := 3) dX8_toneOf_136 rfl F3.2.1 ⟨by decide, by decide⟩ (tl_at (by omega)) ?_
      refine aw_bipush (npc := 139) (v := 40) (by decide) dX8_toneOf_137 rfl ?_
      refine aw_icmp_lt (npc := 142) (tgt := 146) dX8_toneOf_139 rfl (by decide) (fun hc4 => ?_) (fun hc4 => ?_)
      · refine aw_iload_n (npc := 147) rfl dX8_toneOf_146 rfl ?_
        refine aw_bipush (npc := 149) (v := 20) (by decide) dX8_toneOf_147 rfl ?_
        refine aw_iadd (npc := 150) dX8_toneOf_149 rfl ?_
        refine aw_iconst (npc := 151) (v := 0) (by decide) dX8_toneOf_150 rfl ?_
        refine aw_bipush (npc := 153) (v := 99) (by decide) dX8_toneOf_151 rfl ?_
        refine aw_callS (npc := 156) (N := mX8_within) (mc := 0) (ms := 0) (A := [.int ((((N (24 + 5 * f)) + (N 3)) / 2) + 20), .int 0, .int 99]) (S := []) (L0 := [some (.int ((((N (24 + 5 * f)) + (N 3)) / 2) + 20)), some (.int 0), some (.int 99)]) dX8_toneOf_153 rfl km_X8_within kk_X8_108 rfl ⟨rfl, by decide⟩ rfl (Nat.le_of_ble_eq_true rfl) (Nat.zero_add _) (Nat.zero_add _) rfl ?_
        refine m_within ?_
        refine aw_re (S' := [.int (wn ((((N (24 + 5 * f)) + (N 3)) / 2) + 20) 0 99)]) rfl ?_
        refine aw_iret rfl dX8_toneOf_156 ?_
        exact hq _ _ _ ⟨_, Or.inl ⟨ec, rfl⟩, by simp [mtoneK, ek, hc4]⟩ F3 (fun k _ h2 => rfl_ak h2) (am_fbU (by omega) (am_fbU (by omega) (am_fbU (by omega) am_fb0)))
      · refine aw_iconst (npc := 143) (v := 0) (by decide) dX8_toneOf_142 rfl ?_
        refine aw_goto (npc := 156) dX8_toneOf_143 (by decide) ?_
        refine aw_iret rfl dX8_toneOf_156 ?_
        exact hq _ _ _ ⟨_, Or.inl ⟨ec, rfl⟩, by simp [mtoneK, ek, hc4]⟩ F3 (fun k _ h2 => rfl_ak h2) (am_fbU (by omega) (am_fbU (by omega) (am_fbU (by omega) am_fb0)))
    · refine aw_top (y := 4) ek ?_
      refine aw_tableIn (npc := 157) dX8_toneOf_82 (by decide) (by decide) rfl (by decide) ?_
      refine aw_iload_n (npc := 158) rfl dX8_toneOf_157 rfl ?_
      refine aw_iconst (npc := 159) (v := 2) (by decide) dX8_toneOf_158 rfl ?_
      refine aw_idiv (npc := 160) (by decide) dX8_toneOf_159 rfl ?_
      refine aw_bipush (npc := 162) (v := 10) (by decide) dX8_toneOf_160 rfl ?_
      refine aw_isub (npc := 163) dX8_toneOf_162 rfl ?_
      refine aw_iconst (npc := 164) (v := 0) (by decide) dX8_toneOf_163 rfl ?_
      refine aw_bipush (npc := 166) (v := 99) (by decide) dX8_toneOf_164 rfl ?_
      refine aw_callS (npc := 169) (N := mX8_within) (mc := 0) (ms := 0) (A := [.int (((((N (24 + 5 * f)) + (N 3)) / 2) / 2) - 10), .int 0, .int 99]) (S := []) (L0 := [some (.int (((((N (24 + 5 * f)) + (N 3)) / 2) / 2) - 10)), some (.int 0), some (.int 99)]) dX8_toneOf_166 rfl km_X8_within kk_X8_108 rfl ⟨rfl, by decide⟩ rfl (Nat.le_of_ble_eq_true rfl) (Nat.zero_add _) (Nat.zero_add _) rfl ?_
      refine m_within ?_
      refine aw_re (S' := [.int (wn (((((N (24 + 5 * f)) + (N 3)) / 2) / 2) - 10) 0 99)]) rfl ?_
      refine aw_iret rfl dX8_toneOf_169 ?_
      exact hq _ _ _ ⟨_, Or.inl ⟨ec, rfl⟩, by simp [mtoneK, ek]⟩ F3 (fun k _ h2 => rfl_ak h2) (am_fbU (by omega) (am_fbU (by omega) (am_fbU (by omega) am_fb0)))
    · refine aw_top (y := 5) ek ?_
      refine aw_tableIn (npc := 170) dX8_toneOf_82 (by decide) (by decide) rfl (by decide) ?_
      refine aw_iconst (npc := 171) (v := 0) (by decide) dX8_toneOf_170 rfl ?_
      refine aw_iret rfl dX8_toneOf_171 ?_
      exact hq _ _ _ ⟨_, Or.inl ⟨ec, rfl⟩, by simp [mtoneK, ek]⟩ F3 (fun k _ h2 => rfl_ak h2) (am_fbU (by omega) (am_fbU (by omega) (am_fbU (by omega) am_fb0)))
  | some t =>
    obtain ⟨ky, lc, hky, hlc1, hlc, hhd, hvl⟩ := hT.2.2 t (cntM_lt ec).1
    have ht14 : t < 14 := by have z1 := (cntM_lt ec).1; have z2 := hT.2.1; omega
    refine aw_re (S' := [.int (nI t)]) rfl ?_
    refine aw_istore_n (npc := 6) (L' := [some (.ref 69), some (.int (nI f)), some (.int (nI t)), none]) dX8_toneOf_5 rfl (by decide) rfl rfl ?_
    refine aw_aload_n (npc := 7) rfl dX8_toneOf_6 rfl ?_
    refine aw_get (npc := 10) dX8_toneOf_7 rfl kf_X8_52 F.1 rfl ?_
    refine aw_iconst (npc := 11) (v := 0) (by decide) dX8_toneOf_10 rfl ?_
    refine aw_aload_n (npc := 12) rfl dX8_toneOf_11 rfl ?_
    refine aw_iload_n (npc := 13) rfl dX8_toneOf_12 rfl ?_
    refine aw_iconst (npc := 14) (v := 2) (by decide) dX8_toneOf_13 rfl ?_
    refine aw_callV (npc := 17) (N := mX8_of) (b := 69) (mc := 0) (ms := 0) (A := [.int (nI f), .int 2]) (S := [.int 0, .ref 82]) (L0 := [some (.ref 69), some (.int (nI f)), some (.int 2)]) dX8_toneOf_14 rfl km_X8_of kk_X8_101 F.1 ⟨by decide, rfl⟩ rfl ⟨rfl, by decide⟩ rfl (Nat.le_of_ble_eq_true rfl) (Nat.zero_add _) (Nat.zero_add _) rfl ?_
    refine m_of2 (f := f) F (by omega) ?_
    refine aw_re (S' := [.int (N (24 + 5 * f)), .int 0, .ref 82]) rfl ?_
    refine aw_iast (npc := 18) (j := 0) dX8_toneOf_17 rfl F.2.2.2.2.2.2.2.2.2.2.2.2.2.1 ⟨by decide, by decide⟩ (by rw [tl_len]; omega) rfl ?_
    have F5 := mr_82 (j := 0) (v := N (24 + 5 * f)) F
    refine aw_aload_n (npc := 19) rfl dX8_toneOf_18 rfl ?_
    refine aw_get (npc := 22) dX8_toneOf_19 rfl kf_X8_52 F5.1 rfl ?_
    refine aw_iconst (npc := 23) (v := 1) (by decide) dX8_toneOf_22 rfl ?_
    refine aw_aload_n (npc := 24) rfl dX8_toneOf_23 rfl ?_
    refine aw_get (npc := 27) dX8_toneOf_24 rfl kf_X8_9 F5.1 rfl ?_
    refine aw_iconst (npc := 28) (v := 3) (by decide) dX8_toneOf_27 rfl ?_
    refine aw_iald (npc := 29) (x := N 3) (j := 3) dX8_toneOf_28 rfl F5.2.1 ⟨by decide, by decide⟩ (tl_at (by omega)) ?_
    refine aw_iast (npc := 30) (j := 1) dX8_toneOf_29 rfl F5.2.2.2.2.2.2.2.2.2.2.2.2.2.1 ⟨by decide, by decide⟩ (by rw [tl_len]; omega) rfl ?_
    have F6 := mr_82 (j := 1) (v := N 3) F5
    refine aw_aload_n (npc := 31) rfl dX8_toneOf_30 rfl ?_
    refine aw_get (npc := 34) dX8_toneOf_31 rfl kf_X8_52 F6.1 rfl ?_
    refine aw_iconst (npc := 35) (v := 2) (by decide) dX8_toneOf_34 rfl ?_
    refine aw_aload_n (npc := 36) rfl dX8_toneOf_35 rfl ?_
    refine aw_iload_n (npc := 37) rfl dX8_toneOf_36 rfl ?_
    refine aw_iconst (npc := 38) (v := 3) (by decide) dX8_toneOf_37 rfl ?_
    refine aw_callV (npc := 41) (N := mX8_of) (b := 69) (mc := 0) (ms := 0) (A := [.int (nI f), .int 3]) (S := [.int 2, .ref 82]) (L0 := [some (.ref 69), some (.int (nI f)), some (.int 3)]) dX8_toneOf_38 rfl km_X8_of kk_X8_101 F6.1 ⟨by decide, rfl⟩ rfl ⟨rfl, by decide⟩ rfl (Nat.le_of_ble_eq_true rfl) (Nat.zero_add _) (Nat.zero_add _) rfl ?_
    refine m_of3 (f := f) F6 (by omega) ?_
    refine aw_re (S' := [.int (N (25 + 5 * f)), .int 2, .ref 82]) rfl ?_
    refine aw_iast (npc := 42) (j := 2) dX8_toneOf_41 rfl F6.2.2.2.2.2.2.2.2.2.2.2.2.2.1 ⟨by decide, by decide⟩ (by rw [tl_len]; omega) rfl ?_
    have F7 := mr_82 (j := 2) (v := N (25 + 5 * f)) F6
    refine aw_iload_n (npc := 43) rfl dX8_toneOf_42 rfl ?_
    refine aw_if_ge (npc := 46) (tgt := 64) dX8_toneOf_43 rfl (by decide) (fun _ => ?_) (fun hc => absurd ((nI_leI (a := 0) (b := t) (by omega) (by omega)).mpr (by omega)) hc)
    refine aw_aload_n (npc := 65) rfl dX8_toneOf_64 rfl ?_
    refine aw_iload_n (npc := 66) rfl dX8_toneOf_65 rfl ?_
    refine aw_callV (npc := 69) (N := mX8_worksOut) (b := 69) (mc := 0) (ms := 0) (A := [.int (nI t)]) (S := []) (L0 := [some (.ref 69), some (.int (nI t)), none, none, none, none]) dX8_toneOf_66 rfl km_X8_worksOut kk_X8_105 F7.1 ⟨by decide, rfl⟩ rfl ⟨rfl, by decide⟩ rfl (Nat.le_of_ble_eq_true rfl) (Nat.zero_add _) (Nat.zero_add _) rfl ?_
    refine m_work F7 ht14 hky hlc hhd hvl rfl (fun a9 h9 M9 k9 e9 f9 => ?_)
    refine aw_re (S' := [.int (a9 81 0)]) rfl ?_
    have e9q : a9 81 0 = (mwM (f3 (a 82) (N (24 + 5 * f)) (N 3) (N (25 + 5 * f))) (fun z9 => N (90 + 96 * t + z9)) lc 0 (a 81, 0)).1 0 := congrFun e9 0
    refine aw_iconst (npc := 70) (v := 0) (by decide) dX8_toneOf_69 rfl ?_
    refine aw_bipush (npc := 72) (v := 99) (by decide) dX8_toneOf_70 rfl ?_
    refine aw_callS (npc := 75) (N := mX8_within) (mc := 0) (ms := 0) (A := [.int (a9 81 0), .int 0, .int 99]) (S := []) (L0 := [some (.int (a9 81 0)), some (.int 0), some (.int 99)]) dX8_toneOf_72 rfl km_X8_within kk_X8_108 rfl ⟨rfl, by decide⟩ rfl (Nat.le_of_ble_eq_true rfl) (Nat.zero_add _) (Nat.zero_add _) rfl ?_
    refine m_within ?_
    refine aw_re (S' := [.int (wn (a9 81 0) 0 99)]) rfl ?_
    refine aw_istore_n (npc := 76) (L' := [some (.ref 69), some (.int (nI f)), some (.int (nI t)), some (.int (wn (a9 81 0) 0 99))]) dX8_toneOf_75 rfl (by decide) rfl rfl ?_
    refine aw_aload_n (npc := 77) rfl dX8_toneOf_76 rfl ?_
    refine aw_iload_n (npc := 78) rfl dX8_toneOf_77 rfl ?_
    refine aw_iconst (npc := 79) (v := 0) (by decide) dX8_toneOf_78 rfl ?_
    refine aw_callV (npc := 82) (N := mX8_of) (b := 69) (mc := 0) (ms := 0) (A := [.int (nI f), .int 0]) (S := []) (L0 := [some (.ref 69), some (.int (nI f)), some (.int 0)]) dX8_toneOf_79 rfl km_X8_of kk_X8_101 M9.1 ⟨by decide, rfl⟩ rfl ⟨rfl, by decide⟩ rfl (Nat.le_of_ble_eq_true rfl) (Nat.zero_add _) (Nat.zero_add _) rfl ?_
    refine m_of0 (f := f) M9 (by omega) ?_
    refine aw_re (S' := [.int (N (22 + 5 * f))]) rfl ?_
    rcases wi_c0_5 hk with ek | ek | ek | ek | ek | ek
    · refine aw_top (y := 0) ek ?_
      refine aw_tableOut (npc := 172) dX8_toneOf_82 (by decide) (by decide) ?_
      refine aw_iload_n (npc := 173) rfl dX8_toneOf_172 rfl ?_
      refine aw_iret rfl dX8_toneOf_173 ?_
      exact hq _ _ _ ⟨_, Or.inr ⟨t, lc, ky, _, a 82, ec, hky, hlc, hhd, rfl⟩, by rw [← e9q]; simp [mtoneK, ek]⟩ M9 (fun k h1 h2 => (k9 k h1).trans (rfl_ak h2)) (am_fbT f9 (am_fbU (by omega) (am_fbU (by omega) (am_fbU (by omega) am_fb0))))
    · refine aw_top (y := 1) ek ?_
      refine aw_tableIn (npc := 116) dX8_toneOf_82 (by decide) (by decide) rfl (by decide) ?_
      refine aw_iload_n (npc := 117) rfl dX8_toneOf_116 rfl ?_
      refine aw_bipush (npc := 119) (v := 20) (by decide) dX8_toneOf_117 rfl ?_
      refine aw_iadd (npc := 120) dX8_toneOf_119 rfl ?_
      refine aw_iconst (npc := 121) (v := 0) (by decide) dX8_toneOf_120 rfl ?_
      refine aw_bipush (npc := 123) (v := 99) (by decide) dX8_toneOf_121 rfl ?_
      refine aw_callS (npc := 126) (N := mX8_within) (mc := 0) (ms := 0) (A := [.int ((wn (a9 81 0) 0 99) + 20), .int 0, .int 99]) (S := []) (L0 := [some (.int ((wn (a9 81 0) 0 99) + 20)), some (.int 0), some (.int 99)]) dX8_toneOf_123 rfl km_X8_within kk_X8_108 rfl ⟨rfl, by decide⟩ rfl (Nat.le_of_ble_eq_true rfl) (Nat.zero_add _) (Nat.zero_add _) rfl ?_
      refine m_within ?_
      refine aw_re (S' := [.int (wn ((wn (a9 81 0) 0 99) + 20) 0 99)]) rfl ?_
      refine aw_iret rfl dX8_toneOf_126 ?_
      exact hq _ _ _ ⟨_, Or.inr ⟨t, lc, ky, _, a 82, ec, hky, hlc, hhd, rfl⟩, by rw [← e9q]; simp [mtoneK, ek]⟩ M9 (fun k h1 h2 => (k9 k h1).trans (rfl_ak h2)) (am_fbT f9 (am_fbU (by omega) (am_fbU (by omega) (am_fbU (by omega) am_fb0))))
    · refine aw_top (y := 2) ek ?_
      refine aw_tableIn (npc := 127) dX8_toneOf_82 (by decide) (by decide) rfl (by decide) ?_
      refine aw_iload_n (npc := 128) rfl dX8_toneOf_127 rfl ?_
      refine aw_iconst (npc := 129) (v := 2) (by decide) dX8_toneOf_128 rfl ?_
      refine aw_idiv (npc := 130) (by decide) dX8_toneOf_129 rfl ?_
      refine aw_iret rfl dX8_toneOf_130 ?_
      exact hq _ _ _ ⟨_, Or.inr ⟨t, lc, ky, _, a 82, ec, hky, hlc, hhd, rfl⟩, by rw [← e9q]; simp [mtoneK, ek]⟩ M9 (fun k h1 h2 => (k9 k h1).trans (rfl_ak h2)) (am_fbT f9 (am_fbU (by omega) (am_fbU (by omega) (am_fbU (by omega) am_fb0))))
    · refine aw_top (y := 3) ek ?_
      refine aw_tableIn (npc := 131) dX8_toneOf_82 (by decide) (by decide) rfl (by decide) ?_
      refine aw_aload_n (npc := 132) rfl dX8_toneOf_131 rfl ?_
      refine aw_get (npc := 135) dX8_toneOf_132 rfl kf_X8_9 M9.1 rfl ?_
      refine aw_iconst (npc := 136) (v := 3) (by decide) dX8_toneOf_135 rfl ?_
      refine aw_iald (npc := 137) (x := N 3) (j := 3) dX8_toneOf_136 rfl M9.2.1 ⟨by decide, by decide⟩ (tl_at (by omega)) ?_
      refine aw_bipush (npc := 139) (v := 40) (by decide) dX8_toneOf_137 rfl ?_
      refine aw_icmp_lt (npc := 142) (tgt := 146) dX8_toneOf_139 rfl (by decide) (fun hc9 => ?_) (fun hc9 => ?_)
      · refine aw_iload_n (npc := 147) rfl dX8_toneOf_146 rfl ?_
        refine aw_bipush (npc := 149) (v := 20) (by decide) dX8_toneOf_147 rfl ?_
        refine aw_iadd (npc := 150) dX8_toneOf_149 rfl ?_
        refine aw_iconst (npc := 151) (v := 0) (by decide) dX8_toneOf_150 rfl ?_
        refine aw_bipush (npc := 153) (v := 99) (by decide) dX8_toneOf_151 rfl ?_
        refine aw_callS (npc := 156) (N := mX8_within) (mc := 0) (ms := 0) (A := [.int ((wn (a9 81 0) 0 99) + 20), .int 0, .int 99]) (S := []) (L0 := [some (.int ((wn (a9 81 0) 0 99) + 20)), some (.int 0), some (.int 99)]) dX8_toneOf_153 rfl km_X8_within kk_X8_108 rfl ⟨rfl, by decide⟩ rfl (Nat.le_of_ble_eq_true rfl) (Nat.zero_add _) (Nat.zero_add _) rfl ?_
        refine m_within ?_
        refine aw_re (S' := [.int (wn ((wn (a9 81 0) 0 99) + 20) 0 99)]) rfl ?_
        refine aw_iret rfl dX8_toneOf_156 ?_
        exact hq _ _ _ ⟨_, Or.inr ⟨t, lc, ky, _, a 82, ec, hky, hlc, hhd, rfl⟩, by rw [← e9q]; simp [mtoneK, ek, hc9]⟩ M9 (fun k h1 h2 => (k9 k h1).trans (rfl_ak h2)) (am_fbT f9 (am_fbU (by omega) (am_fbU (by omega) (am_fbU (by omega) am_fb0))))
      · refine aw_iconst (npc := 143) (v := 0) (by decide) dX8_toneOf_142 rfl ?_
        refine aw_goto (npc := 156) dX8_toneOf_143 (by decide) ?_
        refine aw_iret rfl dX8_toneOf_156 ?_
        exact hq _ _ _ ⟨_, Or.inr ⟨t, lc, ky, _, a 82, ec, hky, hlc, hhd, rfl⟩, by rw [← e9q]; simp [mtoneK, ek, hc9]⟩ M9 (fun k h1 h2 => (k9 k h1).trans (rfl_ak h2)) (am_fbT f9 (am_fbU (by omega) (am_fbU (by omega) (am_fbU (by omega) am_fb0))))
    · refine aw_top (y := 4) ek ?_
      refine aw_tableIn (npc := 157) dX8_toneOf_82 (by decide) (by decide) rfl (by decide) ?_
      refine aw_iload_n (npc := 158) rfl dX8_toneOf_157 rfl ?_
      refine aw_iconst (npc := 159) (v := 2) (by decide) dX8_toneOf_158 rfl ?_
      refine aw_idiv (npc := 160) (by decide) dX8_toneOf_159 rfl ?_
      refine aw_bipush (npc := 162) (v := 10) (by decide) dX8_toneOf_160 rfl ?_
      refine aw_isub (npc := 163) dX8_toneOf_162 rfl ?_
      refine aw_iconst (npc := 164) (v := 0) (by decide) dX8_toneOf_163 rfl ?_
      refine aw_bipush (npc := 166) (v := 99) (by decide) dX8_toneOf_164 rfl ?_
      refine aw_callS (npc := 169) (N := mX8_within) (mc := 0) (ms := 0) (A := [.int (((wn (a9 81 0) 0 99) / 2) - 10), .int 0, .int 99]) (S := []) (L0 := [some (.int (((wn (a9 81 0) 0 99) / 2) - 10)), some (.int 0), some (.int 99)]) dX8_toneOf_166 rfl km_X8_within kk_X8_108 rfl ⟨rfl, by decide⟩ rfl (Nat.le_of_ble_eq_true rfl) (Nat.zero_add _) (Nat.zero_add _) rfl ?_
      refine m_within ?_
      refine aw_re (S' := [.int (wn (((wn (a9 81 0) 0 99) / 2) - 10) 0 99)]) rfl ?_
      refine aw_iret rfl dX8_toneOf_169 ?_
      exact hq _ _ _ ⟨_, Or.inr ⟨t, lc, ky, _, a 82, ec, hky, hlc, hhd, rfl⟩, by rw [← e9q]; simp [mtoneK, ek]⟩ M9 (fun k h1 h2 => (k9 k h1).trans (rfl_ak h2)) (am_fbT f9 (am_fbU (by omega) (am_fbU (by omega) (am_fbU (by omega) am_fb0))))
    · refine aw_top (y := 5) ek ?_
      refine aw_tableIn (npc := 170) dX8_toneOf_82 (by decide) (by decide) rfl (by decide) ?_
      refine aw_iconst (npc := 171) (v := 0) (by decide) dX8_toneOf_170 rfl ?_
      refine aw_iret rfl dX8_toneOf_171 ?_
      exact hq _ _ _ ⟨_, Or.inr ⟨t, lc, ky, _, a 82, ec, hky, hlc, hhd, rfl⟩, by rw [← e9q]; simp [mtoneK, ek]⟩ M9 (fun k h1 h2 => (k9 k h1).trans (rfl_ak h2)) (am_fbT f9 (am_fbU (by omega) (am_fbU (by omega) (am_fbU (by omega) am_fb0))))
def mLe (TN : (Nat → Int32) → Int32 → Prop) (f : Nat) (σ σ' : (Nat → Int32) × (Nat → Int32) × Int32) : Prop :=
  (rem100 (drawV (sentN σ.1 f)) < (drawN (sentN σ.1 f)) 5 ∧ σ' = (upd (drawN (sentN σ.1 f)) 6 ((drawN (sentN σ.1 f)) 6 + 1), σ.2.1, σ.2.2)) ∨
  (¬ rem100 (drawV (sentN σ.1 f)) < (drawN (sentN σ.1 f)) 5 ∧ ∃ τ, TN (drawN (sentN σ.1 f)) τ ∧
    ((¬ τ < 50 ∧ σ' = (drawN (sentN σ.1 f), σ.2.1, σ.2.2 + 5)) ∨
     (τ < 50 ∧ mt (drawN (sentN σ.1 f)) f = none ∧ σ' = (drawN (sentN σ.1 f), σ.2.1, σ.2.2)) ∨
     (τ < 50 ∧ ∃ t, t < 4 ∧ mt (drawN (sentN σ.1 f)) f = some t ∧ σ' = (upd (drawN (sentN σ.1 f)) (26 + 5 * f) ((drawN (sentN σ.1 f)) (26 + 5 * f) + 1), upd σ.2.1 t (σ.2.1 t + (if (drawN (sentN σ.1 f)) (23 + 5 * f) = 0 then -1 else 1)), σ.2.2 - 1))))
def al3 (a9 a : Nat → Nat → Int32) : Prop := ∀ k, k ≠ 73 → k ≠ 81 → k ≠ 82 → a9 k = a k
def ol6 (o9 o : Nat → Int32) : Prop := ∀ k, k ≠ 6 → o9 k = o k
theorem mtM_lt {k s e : Int32} {N : Nat → Int32} : ∀ (m t : Nat) (p : Option Nat), t + m = 4 → (∀ u, p = some u → u < 4) → ∀ u, mtM k s e N m t p = some u → u < 4 := by
  intro m
  induction m with
  | zero => intro t p _ hp u hu; exact hp u hu
  | succ m ih => intro t p ht hp; exact ih (t + 1) _ (by omega) (mtS_lt (by omega) hp)
set_option maxHeartbeats 4000000 in
set_option maxRecDepth 100000 in
theorem m_letter {X : List Int32} {d rc rs n : Nat} {Q : am_Q} {o N : Nat → Int32} {a : Nat → Nat → Int32} {h : am_H} {c f : Nat} (F : MR o N a h) (hT : TXM (drawN (sentN N f)) c) (hf : f < 8) (hk : wi ((drawN (sentN N f)) (22 + 5 * f)) 0 5) (hs : wi ((drawN (sentN N f)) (23 + 5 * f)) 0 1) (hq : ∀ o9 N9 a9 h9, mLe (fun N τ => MTr N c f τ) f (N, a 73, o 6) (N9, a9 73, o9 6) → MR o9 N9 a9 h9 → ol6 o9 o → al3 a9 a → am_fb 69 92 h9 h → Q none n h9) : AW X mX8_letter (d + 5) rc rs 0 [some (.ref 69), some (.int (nI f)), none] [] n h Q := by
  refine aw_aload_n (npc := 1) rfl dX8_letter_0 rfl ?_
  refine aw_iload_n (npc := 2) rfl dX8_letter_1 rfl ?_
  refine aw_iconst (npc := 3) (v := 3) (by decide) dX8_letter_2 rfl ?_
  refine aw_aload_n (npc := 4) rfl dX8_letter_3 rfl ?_
  refine aw_iload_n (npc := 5) rfl dX8_letter_4 rfl ?_
  refine aw_iconst (npc := 6) (v := 3) (by decide) dX8_letter_5 rfl ?_
  refine aw_callV (npc := 9) (N := mX8_of) (b := 69) (mc := 0) (ms := 0) (A := [.int (nI f), .int 3]) (S := [.int 3, .int (nI f), .ref 69]) (L0 := [some (.ref 69), some (.int (nI f)), some (.int 3)]) dX8_letter_6 rfl km_X8_of kk_X8_101 F.1 ⟨by decide, rfl⟩ rfl ⟨rfl, by decide⟩ rfl (Nat.le_of_ble_eq_true rfl) (Nat.zero_add _) (Nat.zero_add _) rfl ?_
  refine m_of3 (f := f) F (by omega) ?_
  refine aw_re (S' := [.int (N (25 + 5 * f)), .int 3, .int (nI f), .ref 69]) rfl ?_
  refine aw_iconst (npc := 10) (v := 1) (by decide) dX8_letter_9 rfl ?_
  refine aw_iadd (npc := 11) dX8_letter_10 rfl ?_
  refine aw_callV (npc := 14) (N := mX8_put) (b := 69) (mc := 0) (ms := 0) (A := [.int (nI f), .int 3, .int ((N (25 + 5 * f)) + 1)]) (S := []) (L0 := [some (.ref 69), some (.int (nI f)), some (.int 3), some (.int ((N (25 + 5 * f)) + 1))]) dX8_letter_11 rfl km_X8_put kk_X8_87 F.1 ⟨by decide, rfl⟩ rfl ⟨rfl, by decide⟩ rfl (Nat.le_of_ble_eq_true rfl) (Nat.zero_add _) (Nat.zero_add _) rfl ?_
  refine m_put3 (f := f) (v := (N (25 + 5 * f)) + 1) F (by omega) (fun h9 F1 fb2 => ?_)
  refine aw_aload_n (npc := 15) rfl dX8_letter_14 rfl ?_
  refine aw_callV (npc := 18) (N := mX8_draw) (b := 69) (mc := 0) (ms := 0) (A := []) (S := []) (L0 := [some (.ref 69)]) dX8_letter_15 rfl km_X8_draw kk_X8_139 F1.1 ⟨by decide, rfl⟩ rfl ⟨rfl, by decide⟩ rfl (Nat.le_of_ble_eq_true rfl) (Nat.zero_add _) (Nat.zero_add _) rfl ?_
  refine m_draw F1 (fun hd9 Fd9 fd9 => ?_)
  have Gd9 : MR o (drawN (sentN N f)) a hd9 := Fd9
  refine aw_re (S' := [.int (drawV (sentN N f))]) rfl ?_
  refine aw_bipush (npc := 20) (v := 100) (by decide) dX8_letter_18 rfl ?_
  refine aw_irem (npc := 21) (by decide) dX8_letter_20 rfl ?_
  refine aw_aload_n (npc := 22) rfl dX8_letter_21 rfl ?_
  refine aw_get (npc := 25) dX8_letter_22 rfl kf_X8_9 Gd9.1 rfl ?_
  refine aw_iconst (npc := 26) (v := 5) (by decide) dX8_letter_25 rfl ?_
  refine aw_iald (npc := 27) (x := (drawN (sentN N f)) 5) (j := 5) dX8_letter_26 rfl Gd9.2.1 ⟨by decide, by decide⟩ (tl_at (by omega)) ?_
  refine aw_icmp_ge (npc := 30) (tgt := 42) dX8_letter_27 rfl (by decide) (fun hc3 => ?_) (fun hc3 => ?_)
  · refine aw_aload_n (npc := 43) rfl dX8_letter_42 rfl ?_
    refine aw_iload_n (npc := 44) rfl dX8_letter_43 rfl ?_
    refine aw_callV (npc := 47) (N := mX8_toneOf) (b := 69) (mc := 0) (ms := 0) (A := [.int (nI f)]) (S := []) (L0 := [some (.ref 69), some (.int (nI f)), none, none]) dX8_letter_44 rfl km_X8_toneOf kk_X8_118 Gd9.1 ⟨by decide, rfl⟩ rfl ⟨rfl, by decide⟩ rfl (Nat.le_of_ble_eq_true rfl) (Nat.zero_add _) (Nat.zero_add _) rfl ?_
    refine m_tone (c := c) Gd9 hT hf hk (fun τ at9 ht9 hτ Ft9 kt9 ft9 => ?_)
    refine aw_re (S' := [.int τ]) rfl ?_
    refine aw_bipush (npc := 49) (v := 50) (by decide) dX8_letter_47 rfl ?_
    refine aw_icmp_lt (npc := 52) (tgt := 63) dX8_letter_49 rfl (by decide) (fun hc4 => ?_) (fun hc4 => ?_)
    · refine aw_aload_n (npc := 64) rfl dX8_letter_63 rfl ?_
      refine aw_iload_n (npc := 65) rfl dX8_letter_64 rfl ?_
      refine aw_callV (npc := 68) (N := mX8_termOf) (b := 69) (mc := 0) (ms := 0) (A := [.int (nI f)]) (S := []) (L0 := [some (.ref 69), some (.int (nI f)), none, none, none]) dX8_letter_65 rfl km_X8_termOf kk_X8_121 Ft9.1 ⟨by decide, rfl⟩ rfl ⟨rfl, by decide⟩ rfl (Nat.le_of_ble_eq_true rfl) (Nat.zero_add _) (Nat.zero_add _) rfl ?_
      refine m_term Ft9 hf hk hs ?_
      cases ec : mt (drawN (sentN N f)) f with
      | none =>
        refine aw_re (S' := [.int (-1)]) rfl ?_
        refine aw_istore_n (npc := 69) (L' := [some (.ref 69), some (.int (nI f)), some (.int (-1))]) dX8_letter_68 rfl (by decide) rfl rfl ?_
        refine aw_iload_n (npc := 70) rfl dX8_letter_69 rfl ?_
        refine aw_if_lt (npc := 73) (tgt := 120) dX8_letter_70 rfl (by decide) (fun _ => ?_) (fun hc => absurd (by decide) hc)
        refine aw_vret rfl dX8_letter_120 ?_
        exact hq _ _ _ _ (Or.inr ⟨(Int32.not_lt.mpr hc3), τ, hτ, Or.inr (Or.inl ⟨hc4, ec, by rw [(kt9 73 (by decide) (by decide))]⟩)⟩) Ft9 (fun _ _ => rfl) (fun k h73 h81 h82 => kt9 k h81 h82) (am_fbT ft9 (am_fbT fd9 (am_fbT fb2 am_fb0)))
      | some t =>
        have ht4 : t < 4 := mtM_lt 4 0 none (by omega) (fun u z => by cases z) t ec
        refine aw_re (S' := [.int (nI t)]) rfl ?_
        refine aw_istore_n (npc := 69) (L' := [some (.ref 69), some (.int (nI f)), some (.int (nI t))]) dX8_letter_68 rfl (by decide) rfl rfl ?_
        refine aw_iload_n (npc := 70) rfl dX8_letter_69 rfl ?_
        refine aw_if_lt (npc := 73) (tgt := 120) dX8_letter_70 rfl (by decide) (fun hc => absurd hc (nI_pos (by omega))) (fun _ => ?_)
        refine aw_aload_n (npc := 74) rfl dX8_letter_73 rfl ?_
        refine aw_get (npc := 77) dX8_letter_74 rfl kf_X8_23 Ft9.1 rfl ?_
        refine aw_iload_n (npc := 78) rfl dX8_letter_77 rfl ?_
        refine aw_dup2 (npc := 79) rfl rfl dX8_letter_78 rfl ?_
        refine aw_iald (npc := 80) (x := (at9 73) t) (j := t) dX8_letter_79 rfl Ft9.2.2.2.2.1 (am_ix_nI (by omega)) (tl_at (by omega)) ?_
        refine aw_aload_n (npc := 81) rfl dX8_letter_80 rfl ?_
        refine aw_iload_n (npc := 82) rfl dX8_letter_81 rfl ?_
        refine aw_iconst (npc := 83) (v := 1) (by decide) dX8_letter_82 rfl ?_
        refine aw_callV (npc := 86) (N := mX8_of) (b := 69) (mc := 0) (ms := 0) (A := [.int (nI f), .int 1]) (S := [.int ((at9 73) t), .int (nI t), .ref 73]) (L0 := [some (.ref 69), some (.int (nI f)), some (.int 1)]) dX8_letter_83 rfl km_X8_of kk_X8_101 Ft9.1 ⟨by decide, rfl⟩ rfl ⟨rfl, by decide⟩ rfl (Nat.le_of_ble_eq_true rfl) (Nat.zero_add _) (Nat.zero_add _) rfl ?_
        refine m_of1 (f := f) Ft9 (by omega) ?_
        refine aw_re (S' := [.int ((drawN (sentN N f)) (23 + 5 * f)), .int ((at9 73) t), .int (nI t), .ref 73]) rfl ?_
        refine aw_if_ne (npc := 89) (tgt := 93) dX8_letter_86 rfl (by decide) (fun hc6 => ?_) (fun hc6 => ?_)
        · refine aw_iconst (npc := 94) (v := 1) (by decide) dX8_letter_93 rfl ?_
          refine aw_iadd (npc := 95) dX8_letter_94 rfl ?_
          refine aw_iast (npc := 96) (j := t) dX8_letter_95 rfl Ft9.2.2.2.2.1 (am_ix_nI (by omega)) (by rw [tl_len]; omega) rfl ?_
          have F7 := mr_73 (j := t) (v := ((at9 73) t) + 1) Ft9
          refine aw_aload_n (npc := 97) rfl dX8_letter_96 rfl ?_
          refine aw_iload_n (npc := 98) rfl dX8_letter_97 rfl ?_
          refine aw_iconst (npc := 99) (v := 4) (by decide) dX8_letter_98 rfl ?_
          refine aw_aload_n (npc := 100) rfl dX8_letter_99 rfl ?_
          refine aw_iload_n (npc := 101) rfl dX8_letter_100 rfl ?_
          refine aw_iconst (npc := 102) (v := 4) (by decide) dX8_letter_101 rfl ?_
          refine aw_callV (npc := 105) (N := mX8_of) (b := 69) (mc := 0) (ms := 0) (A := [.int (nI f), .int 4]) (S := [.int 4, .int (nI f), .ref 69]) (L0 := [some (.ref 69), some (.int (nI f)), some (.int 4)]) dX8_letter_102 rfl km_X8_of kk_X8_101 F7.1 ⟨by decide, rfl⟩ rfl ⟨rfl, by decide⟩ rfl (Nat.le_of_ble_eq_true rfl) (Nat.zero_add _) (Nat.zero_add _) rfl ?_
          refine m_of4 (f := f) F7 (by omega) ?_
          refine aw_re (S' := [.int ((drawN (sentN N f)) (26 + 5 * f)), .int 4, .int (nI f), .ref 69]) rfl ?_
          refine aw_iconst (npc := 106) (v := 1) (by decide) dX8_letter_105 rfl ?_
          refine aw_iadd (npc := 107) dX8_letter_106 rfl ?_
          refine aw_callV (npc := 110) (N := mX8_put) (b := 69) (mc := 0) (ms := 0) (A := [.int (nI f), .int 4, .int (((drawN (sentN N f)) (26 + 5 * f)) + 1)]) (S := []) (L0 := [some (.ref 69), some (.int (nI f)), some (.int 4), some (.int (((drawN (sentN N f)) (26 + 5 * f)) + 1))]) dX8_letter_107 rfl km_X8_put kk_X8_87 F7.1 ⟨by decide, rfl⟩ rfl ⟨rfl, by decide⟩ rfl (Nat.le_of_ble_eq_true rfl) (Nat.zero_add _) (Nat.zero_add _) rfl ?_
          refine m_put4 (f := f) (v := ((drawN (sentN N f)) (26 + 5 * f)) + 1) F7 (by omega) (fun h9 F8 fb9 => ?_)
          refine aw_aload_n (npc := 111) rfl dX8_letter_110 rfl ?_
          refine aw_dup (npc := 112) rfl dX8_letter_111 rfl ?_
          refine aw_get (npc := 115) dX8_letter_112 rfl kf_X8_146 F8.1 rfl ?_
          refine aw_iconst (npc := 116) (v := 1) (by decide) dX8_letter_115 rfl ?_
          refine aw_isub (npc := 117) dX8_letter_116 rfl ?_
          refine aw_put (npc := 120) dX8_letter_117 rfl kf_X8_146 F8.1 (Nat.le_of_ble_eq_true rfl) (am_ok_int _) rfl ?_
          have F10 := mr_o6 (v := (o 6) - 1) F8
          refine aw_vret rfl dX8_letter_120 ?_
          exact hq _ _ _ _ (Or.inr ⟨(Int32.not_lt.mpr hc3), τ, hτ, Or.inr (Or.inr ⟨hc4, t, ht4, ec, by rw [aup_s, (kt9 73 (by decide) (by decide))]; simp [hc6, upd]⟩)⟩) F10 (fun k h6 => pk_un h6) (fun k h73 h81 h82 => (aup_n h73).trans (kt9 k h81 h82)) (am_fbU (by omega) (am_fbT fb9 (am_fbU (by omega) (am_fbT ft9 (am_fbT fd9 (am_fbT fb2 am_fb0))))))
        · refine aw_iconst (npc := 90) (v := -1) (by decide) dX8_letter_89 rfl ?_
          refine aw_goto (npc := 94) dX8_letter_90 (by decide) ?_
          refine aw_iadd (npc := 95) dX8_letter_94 rfl ?_
          refine aw_iast (npc := 96) (j := t) dX8_letter_95 rfl Ft9.2.2.2.2.1 (am_ix_nI (by omega)) (by rw [tl_len]; omega) rfl ?_
          have F11 := mr_73 (j := t) (v := ((at9 73) t) + (-1)) Ft9
          refine aw_aload_n (npc := 97) rfl dX8_letter_96 rfl ?_
          refine aw_iload_n (npc := 98) rfl dX8_letter_97 rfl ?_
          refine aw_iconst (npc := 99) (v := 4) (by decide) dX8_letter_98 rfl ?_
          refine aw_aload_n (npc := 100) rfl dX8_letter_99 rfl ?_
          refine aw_iload_n (npc := 101) rfl dX8_letter_100 rfl ?_
          refine aw_iconst (npc := 102) (v := 4) (by decide) dX8_letter_101 rfl ?_
          refine aw_callV (npc := 105) (N := mX8_of) (b := 69) (mc := 0) (ms := 0) (A := [.int (nI f), .int 4]) (S := [.int 4, .int (nI f), .ref 69]) (L0 := [some (.ref 69), some (.int (nI f)), some (.int 4)]) dX8_letter_102 rfl km_X8_of kk_X8_101 F11.1 ⟨by decide, rfl⟩ rfl ⟨rfl, by decide⟩ rfl (Nat.le_of_ble_eq_true rfl) (Nat.zero_add _) (Nat.zero_add _) rfl ?_
          refine m_of4 (f := f) F11 (by omega) ?_
          refine aw_re (S' := [.int ((drawN (sentN N f)) (26 + 5 * f)), .int 4, .int (nI f), .ref 69]) rfl ?_
          refine aw_iconst (npc := 106) (v := 1) (by decide) dX8_letter_105 rfl ?_
          refine aw_iadd (npc := 107) dX8_letter_106 rfl ?_
          refine aw_callV (npc := 110) (N := mX8_put) (b := 69) (mc := 0) (ms := 0) (A := [.int (nI f), .int 4, .int (((drawN (sentN N f)) (26 + 5 * f)) + 1)]) (S := []) (L0 := [some (.ref 69), some (.int (nI f)), some (.int 4), some (.int (((drawN (sentN N f)) (26 + 5 * f)) + 1))]) dX8_letter_107 rfl km_X8_put kk_X8_87 F11.1 ⟨by decide, rfl⟩ rfl ⟨rfl, by decide⟩ rfl (Nat.le_of_ble_eq_true rfl) (Nat.zero_add _) (Nat.zero_add _) rfl ?_
          refine m_put4 (f := f) (v := ((drawN (sentN N f)) (26 + 5 * f)) + 1) F11 (by omega) (fun h9 F12 fb13 => ?_)
          refine aw_aload_n (npc := 111) rfl dX8_letter_110 rfl ?_
          refine aw_dup (npc := 112) rfl dX8_letter_111 rfl ?_
          refine aw_get (npc := 115) dX8_letter_112 rfl kf_X8_146 F12.1 rfl ?_
          refine aw_iconst (npc := 116) (v := 1) (by decide) dX8_letter_115 rfl ?_
          refine aw_isub (npc := 117) dX8_letter_116 rfl ?_
          refine aw_put (npc := 120) dX8_letter_117 rfl kf_X8_146 F12.1 (Nat.le_of_ble_eq_true rfl) (am_ok_int _) rfl ?_
          have F14 := mr_o6 (v := (o 6) - 1) F12
          refine aw_vret rfl dX8_letter_120 ?_
          exact hq _ _ _ _ (Or.inr ⟨(Int32.not_lt.mpr hc3), τ, hτ, Or.inr (Or.inr ⟨hc4, t, ht4, ec, by rw [aup_s, (kt9 73 (by decide) (by decide))]; simp [hc6, upd]⟩)⟩) F14 (fun k h6 => pk_un h6) (fun k h73 h81 h82 => (aup_n h73).trans (kt9 k h81 h82)) (am_fbU (by omega) (am_fbT fb13 (am_fbU (by omega) (am_fbT ft9 (am_fbT fd9 (am_fbT fb2 am_fb0))))))
    · refine aw_aload_n (npc := 53) rfl dX8_letter_52 rfl ?_
      refine aw_dup (npc := 54) rfl dX8_letter_53 rfl ?_
      refine aw_get (npc := 57) dX8_letter_54 rfl kf_X8_146 Ft9.1 rfl ?_
      refine aw_iconst (npc := 58) (v := 5) (by decide) dX8_letter_57 rfl ?_
      refine aw_iadd (npc := 59) dX8_letter_58 rfl ?_
      refine aw_put (npc := 62) dX8_letter_59 rfl kf_X8_146 Ft9.1 (Nat.le_of_ble_eq_true rfl) (am_ok_int _) rfl ?_
      have F15 := mr_o6 (v := (o 6) + 5) Ft9
      refine aw_vret rfl dX8_letter_62 ?_
      exact hq _ _ _ _ (Or.inr ⟨(Int32.not_lt.mpr hc3), τ, hτ, Or.inl ⟨hc4, by rw [(kt9 73 (by decide) (by decide))]; rfl⟩⟩) F15 (fun k h6 => pk_un h6) (fun k h73 h81 h82 => kt9 k h81 h82) (am_fbU (by omega) (am_fbT ft9 (am_fbT fd9 (am_fbT fb2 am_fb0))))
  · refine aw_aload_n (npc := 31) rfl dX8_letter_30 rfl ?_
    refine aw_get (npc := 34) dX8_letter_31 rfl kf_X8_9 Gd9.1 rfl ?_
    refine aw_bipush (npc := 36) (v := 6) (by decide) dX8_letter_34 rfl ?_
    refine aw_dup2 (npc := 37) rfl rfl dX8_letter_36 rfl ?_
    refine aw_iald (npc := 38) (x := (drawN (sentN N f)) 6) (j := 6) dX8_letter_37 rfl Gd9.2.1 ⟨by decide, by decide⟩ (tl_at (by omega)) ?_
    refine aw_iconst (npc := 39) (v := 1) (by decide) dX8_letter_38 rfl ?_
    refine aw_iadd (npc := 40) dX8_letter_39 rfl ?_
    refine aw_iast (npc := 41) (j := 6) dX8_letter_40 rfl Gd9.2.1 ⟨by decide, by decide⟩ (by rw [tl_len]; omega) rfl ?_
    have F16 := mr_70 (j := 6) (v := ((drawN (sentN N f)) 6) + 1) Gd9
    refine aw_vret rfl dX8_letter_41 ?_
    exact hq _ _ _ _ (Or.inl ⟨Int32.not_le.mp hc3, rfl⟩) F16 (fun _ _ => rfl) (fun _ _ _ _ => rfl) (am_fbU (by omega) (am_fbT fd9 (am_fbT fb2 am_fb0)))
def mkp (N9 N : Nat → Int32) : Prop := ∀ k, k ≠ 0 → k ≠ 6 → (∀ f, f < 8 → k ≠ 25 + 5 * f ∧ k ≠ 26 + 5 * f) → N9 k = N k
theorem mkp_t {x y z : Nat → Int32} (h1 : mkp x y) (h2 : mkp y z) : mkp x z := fun k a b c => (h1 k a b c).trans (h2 k a b c)
def MI (N : Nat → Int32) (c fr : Nat) : Prop := TXM N c ∧ N 1 = nI fr ∧ fr ≤ 8 ∧ ∀ f, f < fr → wi (N (22 + 5 * f)) 0 5 ∧ wi (N (23 + 5 * f)) 0 1
theorem mi_keep {N9 N : Nat → Int32} {c fr : Nat} (h : mkp N9 N) (H : MI N c fr) : MI N9 c fr := by
  obtain ⟨⟨h7, hc, ht⟩, h1, h8, hf⟩ := H
  refine ⟨⟨(h 7 (by omega) (by omega) (by omega)).trans h7, hc, fun t htc => ?_⟩, (h 1 (by omega) (by omega) (by omega)).trans h1, h8, fun f hfr => ?_⟩
  · obtain ⟨ky, lc, a1, a2, a3, a4, a5⟩ := ht t htc
    refine ⟨ky, lc, a1, a2, a3, (h _ (by omega) (by omega) (by omega)).trans a4, ?_⟩
    have e : (fun z9 => N9 (90 + 96 * t + z9)) = (fun z9 => N (90 + 96 * t + z9)) := funext (fun z => h _ (by omega) (by omega) (by omega))
    rw [e]; exact a5
  · rw [h (22 + 5 * f) (by omega) (by omega) (by omega), h (23 + 5 * f) (by omega) (by omega) (by omega)]
    exact hf f hfr
theorem mkp_d {N : Nat → Int32} {f : Nat} (hf : f < 8) : mkp (drawN (sentN N f)) N := fun k h0 h6 hk => (pk_un h0).trans (pk_un (hk f hf).1)
theorem mLe_keep {TN : (Nat → Int32) → Int32 → Prop} {f : Nat} {σ σ' : (Nat → Int32) × (Nat → Int32) × Int32} (hf : f < 8) (H : mLe TN f σ σ') : mkp σ'.1 σ.1 := by
  rcases H with ⟨_, rfl⟩ | ⟨_, τ, _, ⟨_, rfl⟩ | ⟨_, _, rfl⟩ | ⟨_, t, _, _, rfl⟩⟩
  · exact fun k h0 h6 hk => (pk_un h6).trans (mkp_d hf k h0 h6 hk)
  · exact mkp_d hf
  · exact mkp_d hf
  · exact fun k h0 h6 hk => (pk_un (hk f hf).2).trans (mkp_d hf k h0 h6 hk)
def LSm (c : Nat) (si : Int32) : Nat → Nat → (Nat → Int32) × (Nat → Int32) × Int32 → (Nat → Int32) × (Nat → Int32) × Int32 → Prop
  | 0, _, σ, σ' => σ' = σ
  | m + 1, f, σ, σ' => (nI f = si ∧ LSm c si m (f + 1) σ σ') ∨ (¬ nI f = si ∧ ∃ σ1, mLe (fun N τ => MTr N c f τ) f σ σ1 ∧ LSm c si m (f + 1) σ1 σ')
set_option maxHeartbeats 4000000 in
set_option maxRecDepth 100000 in
theorem m_letL {X : List Int32} {d rc rs n : Nat} {Q : am_Q} {c fr : Nat} (hfr : fr ≤ 8) : ∀ (m f : Nat), f + m = fr → ∀ (o N : Nat → Int32) (a : Nat → Nat → Int32) (h : am_H), MR o N a h → MI N c fr → (∀ o9 N9 a9 h9, LSm c (o 4) m f (N, a 73, o 6) (N9, a9 73, o9 6) → MR o9 N9 a9 h9 → ol6 o9 o → al3 a9 a → am_fb 69 92 h9 h → AW X mX8_post (d + 7) rc rs 89 [some (.ref 69), some (.int (nI fr))] [] n h9 Q) → AW X mX8_post (d + 7) rc rs 60 [some (.ref 69), some (.int (nI f))] [] n h Q := by
  intro m
  induction m with
  | zero =>
    intro f hf o N a h F H hq
    obtain rfl : f = fr := by omega
    refine aw_iload_n (npc := 61) rfl dX8_post_60 rfl ?_
    refine aw_aload_n (npc := 62) rfl dX8_post_61 rfl ?_
    refine aw_get (npc := 65) dX8_post_62 rfl kf_X8_9 F.1 rfl ?_
    refine aw_iconst (npc := 66) (v := 1) (by decide) dX8_post_65 rfl ?_
    refine aw_iald (npc := 67) (x := N 1) (j := 1) dX8_post_66 rfl F.2.1 ⟨by decide, by decide⟩ (tl_at (by omega)) ?_
    refine aw_top (y := nI f) (H.2.1) ?_
    refine aw_icmp_ge (npc := 70) (tgt := 89) dX8_post_67 rfl (by decide) (fun _ => ?_) (fun hc => absurd (nI_le (a := f) (b := f) (by omega) (by omega)) hc)
    exact hq _ _ _ _ rfl F (fun _ _ => rfl) (fun _ _ _ _ => rfl) am_fb0
  | succ m ih =>
    intro f hf o N a h F H hq
    refine aw_iload_n (npc := 61) rfl dX8_post_60 rfl ?_
    refine aw_aload_n (npc := 62) rfl dX8_post_61 rfl ?_
    refine aw_get (npc := 65) dX8_post_62 rfl kf_X8_9 F.1 rfl ?_
    refine aw_iconst (npc := 66) (v := 1) (by decide) dX8_post_65 rfl ?_
    refine aw_iald (npc := 67) (x := N 1) (j := 1) dX8_post_66 rfl F.2.1 ⟨by decide, by decide⟩ (tl_at (by omega)) ?_
    refine aw_top (y := nI fr) (H.2.1) ?_
    refine aw_icmp_ge (npc := 70) (tgt := 89) dX8_post_67 rfl (by decide) (fun hc => absurd hc (nI_ge (a := f) (b := fr) (by omega) (by omega))) (fun _ => ?_)
    refine aw_iload_n (npc := 71) rfl dX8_post_70 rfl ?_
    refine aw_aload_n (npc := 72) rfl dX8_post_71 rfl ?_
    refine aw_get (npc := 75) dX8_post_72 rfl kf_X8_19 F.1 rfl ?_
    refine aw_icmp_eq (npc := 78) (tgt := 83) dX8_post_75 rfl (by decide) (fun hc2 => ?_) (fun hc2 => ?_)
    · refine aw_iinc (npc := 86) (v := nI (f + 1)) (L' := [some (.ref 69), some (.int (nI (f + 1)))]) dX8_post_83 rfl rfl (nI_1 _) (by decide) rfl rfl ?_
      refine aw_goto (npc := 60) dX8_post_86 (by decide) ?_
      exact ih (f + 1) (by omega) o N a h F H (fun o9 N9 a9 h9 r9 M9 ol9 al9 fb9 => hq o9 N9 a9 h9 (Or.inl ⟨hc2, r9⟩) M9 ol9 al9 fb9)
    · refine aw_aload_n (npc := 79) rfl dX8_post_78 rfl ?_
      refine aw_iload_n (npc := 80) rfl dX8_post_79 rfl ?_
      refine aw_callV (npc := 83) (N := mX8_letter) (b := 69) (mc := 0) (ms := 0) (A := [.int (nI f)]) (S := []) (L0 := [some (.ref 69), some (.int (nI f)), none]) dX8_post_80 rfl km_X8_letter kk_X8_153 F.1 ⟨by decide, rfl⟩ rfl ⟨rfl, by decide⟩ rfl (Nat.le_of_ble_eq_true rfl) (Nat.zero_add _) (Nat.zero_add _) rfl ?_
      have D9 := mi_keep (mkp_d (N := N) (f := f) (by omega)) H
      refine m_letter F D9.1 (by omega) (D9.2.2.2 f (by omega)).1 (D9.2.2.2 f (by omega)).2 (fun oL NL aL hL rL ML olL alL fbL => ?_)
      refine aw_iinc (npc := 86) (v := nI (f + 1)) (L' := [some (.ref 69), some (.int (nI (f + 1)))]) dX8_post_83 rfl rfl (nI_1 _) (by decide) rfl rfl ?_
      refine aw_goto (npc := 60) dX8_post_86 (by decide) ?_
      exact ih (f + 1) (by omega) oL NL aL hL ML (mi_keep (mLe_keep (by omega) rL) H) (fun o9 N9 a9 h9 r9 M9 ol9 al9 fb9 => hq o9 N9 a9 h9 (Or.inr ⟨hc2, _, rL, (olL 4 (by decide)) ▸ r9⟩) M9 (fun k hk => (ol9 k hk).trans (olL k hk)) (fun k x y z => (al9 k x y z).trans (alL k x y z)) (am_fbT fb9 fbL))
def endM (N mv : Nat → Int32) (hot : Int32) : Nat → Int32 := upd (upd (upd (upd (upd N 8 (wn (N 8 + mv 0) 0 9)) 9 (wn (N 9 + mv 1) 0 9)) 10 (wn (N 10 + mv 2) 0 9)) 11 (wn (N 11 + mv 3) 0 9)) 3 (wn (N 3 + hot) 0 99)
def z4 (mv : Nat → Int32) : Nat → Int32 := upd (upd (upd (upd mv 0 0) 1 0) 2 0) 3 0
def pst (N : Nat → Int32) : Nat → Int32 := upd N 2 (N 2 + 1)
def mPo (c fr : Nat) (si : Int32) (mv N N9 : Nat → Int32) : Prop := ((peace (pst N) ∨ ¬ pst N 3 < pst N 4) ∧ N9 = pst N) ∨ (¬ peace (pst N) ∧ pst N 3 < pst N 4 ∧ ∃ σ, LSm c si fr 0 (pst N, z4 mv, 0) σ ∧ N9 = endM σ.1 σ.2.1 σ.2.2)
def MI2 (N : Nat → Int32) (c fr : Nat) : Prop := MI (pst N) c fr
theorem mi_p {N : Nat → Int32} {c fr : Nat} (H : MI N c fr) : MI (pst N) c fr := by
  obtain ⟨⟨h7, hc, ht⟩, h1, h8, hf⟩ := H
  refine ⟨⟨(pk_un (by omega)).trans h7, hc, fun t htc => ?_⟩, (pk_un (by omega)).trans h1, h8, fun f hfr => ?_⟩
  · obtain ⟨ky, lc, a1, a2, a3, a4, a5⟩ := ht t htc
    refine ⟨ky, lc, a1, a2, a3, (pk_un (by omega)).trans a4, ?_⟩
    have e : (fun z9 => pst N (90 + 96 * t + z9)) = (fun z9 => N (90 + 96 * t + z9)) := funext (fun z => pk_un (by omega))
    rw [e]; exact a5
  · have e1 : pst N (22 + 5 * f) = N (22 + 5 * f) := pk_un (by omega)
    have e2 : pst N (23 + 5 * f) = N (23 + 5 * f) := pk_un (by omega)
    rw [e1, e2]; exact hf f hfr
set_option maxHeartbeats 4000000 in
set_option maxRecDepth 100000 in
theorem m_tail {X : List Int32} {d rc rs n : Nat} {Q : am_Q} {o N : Nat → Int32} {a : Nat → Nat → Int32} {h : am_H} {v1 : Option Value} (F : MR o N a h) (hq : ∀ h9, MR o (endM N (a 73) (o 6)) a h9 → am_fb 69 92 h9 h → Q none n h9) : AW X mX8_post (d + 7) rc rs 89 [some (.ref 69), v1] [] n h Q := by
  refine aw_iconst (npc := 90) (v := 0) (by decide) dX8_post_89 rfl ?_
  refine aw_istore_n (npc := 91) (L' := [some (.ref 69), some (.int 0)]) dX8_post_90 rfl (by decide) rfl rfl ?_
  refine aw_iload_n (npc := 92) rfl dX8_post_91 rfl ?_
  refine aw_iconst (npc := 93) (v := 4) (by decide) dX8_post_92 rfl ?_
  refine aw_icmp_ge (npc := 96) (tgt := 133) dX8_post_93 rfl (by decide) (fun hc => absurd hc (by decide)) (fun _ => ?_)
  refine aw_aload_n (npc := 97) rfl dX8_post_96 rfl ?_
  refine aw_get (npc := 100) dX8_post_97 rfl kf_X8_9 F.1 rfl ?_
  refine aw_bipush (npc := 102) (v := 8) (by decide) dX8_post_100 rfl ?_
  refine aw_iload_n (npc := 103) rfl dX8_post_102 rfl ?_
  refine aw_iaddV (npc := 104) (v := 8) dX8_post_103 rfl (by decide) ?_
  refine aw_aload_n (npc := 105) rfl dX8_post_104 rfl ?_
  refine aw_get (npc := 108) dX8_post_105 rfl kf_X8_9 F.1 rfl ?_
  refine aw_bipush (npc := 110) (v := 8) (by decide) dX8_post_108 rfl ?_
  refine aw_iload_n (npc := 111) rfl dX8_post_110 rfl ?_
  refine aw_iaddV (npc := 112) (v := 8) dX8_post_111 rfl (by decide) ?_
  refine aw_iald (npc := 113) (x := N 8) (j := 8) dX8_post_112 rfl F.2.1 ⟨by decide, by decide⟩ (tl_at (by omega)) ?_
  refine aw_aload_n (npc := 114) rfl dX8_post_113 rfl ?_
  refine aw_get (npc := 117) dX8_post_114 rfl kf_X8_23 F.1 rfl ?_
  refine aw_iload_n (npc := 118) rfl dX8_post_117 rfl ?_
  refine aw_iald (npc := 119) (x := (a 73) 0) (j := 0) dX8_post_118 rfl F.2.2.2.2.1 ⟨by decide, by decide⟩ (tl_at (by omega)) ?_
  refine aw_iadd (npc := 120) dX8_post_119 rfl ?_
  refine aw_iconst (npc := 121) (v := 0) (by decide) dX8_post_120 rfl ?_
  refine aw_bipush (npc := 123) (v := 9) (by decide) dX8_post_121 rfl ?_
  refine aw_callS (npc := 126) (N := mX8_within) (mc := 0) (ms := 0) (A := [.int ((N 8) + ((a 73) 0)), .int 0, .int 9]) (S := [.int 8, .ref 70]) (L0 := [some (.int ((N 8) + ((a 73) 0))), some (.int 0), some (.int 9)]) dX8_post_123 rfl km_X8_within kk_X8_108 rfl ⟨rfl, by decide⟩ rfl (Nat.le_of_ble_eq_true rfl) (Nat.zero_add _) (Nat.zero_add _) rfl ?_
  refine m_within ?_
  refine aw_re (S' := [.int (wn ((N 8) + ((a 73) 0)) 0 9), .int 8, .ref 70]) rfl ?_
  refine aw_iast (npc := 127) (j := 8) dX8_post_126 rfl F.2.1 ⟨by decide, by decide⟩ (by rw [tl_len]; omega) rfl ?_
  have F1 := mr_70 (j := 8) (v := wn ((N 8) + ((a 73) 0)) 0 9) F
  refine aw_iinc (npc := 130) (v := 1) (L' := [some (.ref 69), some (.int 1)]) dX8_post_127 rfl rfl (by decide) (by decide) rfl rfl ?_
  refine aw_goto (npc := 91) dX8_post_130 (by decide) ?_
  refine aw_iload_n (npc := 92) rfl dX8_post_91 rfl ?_
  refine aw_iconst (npc := 93) (v := 4) (by decide) dX8_post_92 rfl ?_
  refine aw_icmp_ge (npc := 96) (tgt := 133) dX8_post_93 rfl (by decide) (fun hc => absurd hc (by decide)) (fun _ => ?_)
  refine aw_aload_n (npc := 97) rfl dX8_post_96 rfl ?_
  refine aw_get (npc := 100) dX8_post_97 rfl kf_X8_9 F1.1 rfl ?_
  refine aw_bipush (npc := 102) (v := 8) (by decide) dX8_post_100 rfl ?_
  refine aw_iload_n (npc := 103) rfl dX8_post_102 rfl ?_
  refine aw_iaddV (npc := 104) (v := 9) dX8_post_103 rfl (by decide) ?_
  refine aw_aload_n (npc := 105) rfl dX8_post_104 rfl ?_
  refine aw_get (npc := 108) dX8_post_105 rfl kf_X8_9 F1.1 rfl ?_
  refine aw_bipush (npc := 110) (v := 8) (by decide) dX8_post_108 rfl ?_
  refine aw_iload_n (npc := 111) rfl dX8_post_110 rfl ?_
  refine aw_iaddV (npc := 112) (v := 9) dX8_post_111 rfl (by decide) ?_
  refine aw_iald (npc := 113) (x := (upd N 8 (wn ((N 8) + ((a 73) 0)) 0 9)) 9) (j := 9) dX8_post_112 rfl F1.2.1 ⟨by decide, by decide⟩ (tl_at (by omega)) ?_
  refine aw_top (y := N 9) ((pk_un (by omega))) ?_
  refine aw_aload_n (npc := 114) rfl dX8_post_113 rfl ?_
  refine aw_get (npc := 117) dX8_post_114 rfl kf_X8_23 F1.1 rfl ?_
  refine aw_iload_n (npc := 118) rfl dX8_post_117 rfl ?_
  refine aw_iald (npc := 119) (x := (a 73) 1) (j := 1) dX8_post_118 rfl F1.2.2.2.2.1 ⟨by decide, by decide⟩ (tl_at (by omega)) ?_
  refine aw_iadd (npc := 120) dX8_post_119 rfl ?_
  refine aw_iconst (npc := 121) (v := 0) (by decide) dX8_post_120 rfl ?_
  refine aw_bipush (npc := 123) (v := 9) (by decide) dX8_post_121 rfl ?_
  refine aw_callS (npc := 126) (N := mX8_within) (mc := 0) (ms := 0) (A := [.int ((N 9) + ((a 73) 1)), .int 0, .int 9]) (S := [.int 9, .ref 70]) (L0 := [some (.int ((N 9) + ((a 73) 1))), some (.int 0), some (.int 9)]) dX8_post_123 rfl km_X8_within kk_X8_108 rfl ⟨rfl, by decide⟩ rfl (Nat.le_of_ble_eq_true rfl) (Nat.zero_add _) (Nat.zero_add _) rfl ?_
  refine m_within ?_
  refine aw_re (S' := [.int (wn ((N 9) + ((a 73) 1)) 0 9), .int 9, .ref 70]) rfl ?_
  refine aw_iast (npc := 127) (j := 9) dX8_post_126 rfl F1.2.1 ⟨by decide, by decide⟩ (by rw [tl_len]; omega) rfl ?_
  have F2 := mr_70 (j := 9) (v := wn ((N 9) + ((a 73) 1)) 0 9) F1
  refine aw_iinc (npc := 130) (v := 2) (L' := [some (.ref 69), some (.int 2)]) dX8_post_127 rfl rfl (by decide) (by decide) rfl rfl ?_
  refine aw_goto (npc := 91) dX8_post_130 (by decide) ?_
  refine aw_iload_n (npc := 92) rfl dX8_post_91 rfl ?_
  refine aw_iconst (npc := 93) (v := 4) (by decide) dX8_post_92 rfl ?_
  refine aw_icmp_ge (npc := 96) (tgt := 133) dX8_post_93 rfl (by decide) (fun hc => absurd hc (by decide)) (fun _ => ?_)
  refine aw_aload_n (npc := 97) rfl dX8_post_96 rfl ?_
  refine aw_get (npc := 100) dX8_post_97 rfl kf_X8_9 F2.1 rfl ?_
  refine aw_bipush (npc := 102) (v := 8) (by decide) dX8_post_100 rfl ?_
  refine aw_iload_n (npc := 103) rfl dX8_post_102 rfl ?_
  refine aw_iaddV (npc := 104) (v := 10) dX8_post_103 rfl (by decide) ?_
  refine aw_aload_n (npc := 105) rfl dX8_post_104 rfl ?_
  refine aw_get (npc := 108) dX8_post_105 rfl kf_X8_9 F2.1 rfl ?_
  refine aw_bipush (npc := 110) (v := 8) (by decide) dX8_post_108 rfl ?_
  refine aw_iload_n (npc := 111) rfl dX8_post_110 rfl ?_
  refine aw_iaddV (npc := 112) (v := 10) dX8_post_111 rfl (by decide) ?_
  refine aw_iald (npc := 113) (x := (upd (upd N 8 (wn ((N 8) + ((a 73) 0)) 0 9)) 9 (wn ((N 9) + ((a 73) 1)) 0 9)) 10) (j := 10) dX8_post_112 rfl F2.2.1 ⟨by decide, by decide⟩ (tl_at (by omega)) ?_
  refine aw_top (y := N 10) (((pk_un (by omega))).trans (pk_un (by omega))) ?_
  refine aw_aload_n (npc := 114) rfl dX8_post_113 rfl ?_
  refine aw_get (npc := 117) dX8_post_114 rfl kf_X8_23 F2.1 rfl ?_
  refine aw_iload_n (npc := 118) rfl dX8_post_117 rfl ?_
  refine aw_iald (npc := 119) (x := (a 73) 2) (j := 2) dX8_post_118 rfl F2.2.2.2.2.1 ⟨by decide, by decide⟩ (tl_at (by omega)) ?_
  refine aw_iadd (npc := 120) dX8_post_119 rfl ?_
  refine aw_iconst (npc := 121) (v := 0) (by decide) dX8_post_120 rfl ?_
  refine aw_bipush (npc := 123) (v := 9) (by decide) dX8_post_121 rfl ?_
  refine aw_callS (npc := 126) (N := mX8_within) (mc := 0) (ms := 0) (A := [.int ((N 10) + ((a 73) 2)), .int 0, .int 9]) (S := [.int 10, .ref 70]) (L0 := [some (.int ((N 10) + ((a 73) 2))), some (.int 0), some (.int 9)]) dX8_post_123 rfl km_X8_within kk_X8_108 rfl ⟨rfl, by decide⟩ rfl (Nat.le_of_ble_eq_true rfl) (Nat.zero_add _) (Nat.zero_add _) rfl ?_
  refine m_within ?_
  refine aw_re (S' := [.int (wn ((N 10) + ((a 73) 2)) 0 9), .int 10, .ref 70]) rfl ?_
  refine aw_iast (npc := 127) (j := 10) dX8_post_126 rfl F2.2.1 ⟨by decide, by decide⟩ (by rw [tl_len]; omega) rfl ?_
  have F3 := mr_70 (j := 10) (v := wn ((N 10) + ((a 73) 2)) 0 9) F2
  refine aw_iinc (npc := 130) (v := 3) (L' := [some (.ref 69), some (.int 3)]) dX8_post_127 rfl rfl (by decide) (by decide) rfl rfl ?_
  refine aw_goto (npc := 91) dX8_post_130 (by decide) ?_
  refine aw_iload_n (npc := 92) rfl dX8_post_91 rfl ?_
  refine aw_iconst (npc := 93) (v := 4) (by decide) dX8_post_92 rfl ?_
  refine aw_icmp_ge (npc := 96) (tgt := 133) dX8_post_93 rfl (by decide) (fun hc => absurd hc (by decide)) (fun _ => ?_)
  refine aw_aload_n (npc := 97) rfl dX8_post_96 rfl ?_
  refine aw_get (npc := 100) dX8_post_97 rfl kf_X8_9 F3.1 rfl ?_
  refine aw_bipush (npc := 102) (v := 8) (by decide) dX8_post_100 rfl ?_
  refine aw_iload_n (npc := 103) rfl dX8_post_102 rfl ?_
  refine aw_iaddV (npc := 104) (v := 11) dX8_post_103 rfl (by decide) ?_
  refine aw_aload_n (npc := 105) rfl dX8_post_104 rfl ?_
  refine aw_get (npc := 108) dX8_post_105 rfl kf_X8_9 F3.1 rfl ?_
  refine aw_bipush (npc := 110) (v := 8) (by decide) dX8_post_108 rfl ?_
  refine aw_iload_n (npc := 111) rfl dX8_post_110 rfl ?_
  refine aw_iaddV (npc := 112) (v := 11) dX8_post_111 rfl (by decide) ?_
  refine aw_iald (npc := 113) (x := (upd (upd (upd N 8 (wn ((N 8) + ((a 73) 0)) 0 9)) 9 (wn ((N 9) + ((a 73) 1)) 0 9)) 10 (wn ((N 10) + ((a 73) 2)) 0 9)) 11) (j := 11) dX8_post_112 rfl F3.2.1 ⟨by decide, by decide⟩ (tl_at (by omega)) ?_
  refine aw_top (y := N 11) ((((pk_un (by omega))).trans (pk_un (by omega))).trans (pk_un (by omega))) ?_
  refine aw_aload_n (npc := 114) rfl dX8_post_113 rfl ?_
  refine aw_get (npc := 117) dX8_post_114 rfl kf_X8_23 F3.1 rfl ?_
  refine aw_iload_n (npc := 118) rfl dX8_post_117 rfl ?_
  refine aw_iald (npc := 119) (x := (a 73) 3) (j := 3) dX8_post_118 rfl F3.2.2.2.2.1 ⟨by decide, by decide⟩ (tl_at (by omega)) ?_
  refine aw_iadd (npc := 120) dX8_post_119 rfl ?_
  refine aw_iconst (npc := 121) (v := 0) (by decide) dX8_post_120 rfl ?_
  refine aw_bipush (npc := 123) (v := 9) (by decide) dX8_post_121 rfl ?_
  refine aw_callS (npc := 126) (N := mX8_within) (mc := 0) (ms := 0) (A := [.int ((N 11) + ((a 73) 3)), .int 0, .int 9]) (S := [.int 11, .ref 70]) (L0 := [some (.int ((N 11) + ((a 73) 3))), some (.int 0), some (.int 9)]) dX8_post_123 rfl km_X8_within kk_X8_108 rfl ⟨rfl, by decide⟩ rfl (Nat.le_of_ble_eq_true rfl) (Nat.zero_add _) (Nat.zero_add _) rfl ?_
  refine m_within ?_
  refine aw_re (S' := [.int (wn ((N 11) + ((a 73) 3)) 0 9), .int 11, .ref 70]) rfl ?_
  refine aw_iast (npc := 127) (j := 11) dX8_post_126 rfl F3.2.1 ⟨by decide, by decide⟩ (by rw [tl_len]; omega) rfl ?_
  have F4 := mr_70 (j := 11) (v := wn ((N 11) + ((a 73) 3)) 0 9) F3
  refine aw_iinc (npc := 130) (v := 4) (L' := [some (.ref 69), some (.int 4)]) dX8_post_127 rfl rfl (by decide) (by decide) rfl rfl ?_
  refine aw_goto (npc := 91) dX8_post_130 (by decide) ?_
  refine aw_iload_n (npc := 92) rfl dX8_post_91 rfl ?_
  refine aw_iconst (npc := 93) (v := 4) (by decide) dX8_post_92 rfl ?_
  refine aw_icmp_ge (npc := 96) (tgt := 133) dX8_post_93 rfl (by decide) (fun _ => ?_) (fun hc => absurd (by decide) hc)
  refine aw_aload_n (npc := 134) rfl dX8_post_133 rfl ?_
  refine aw_get (npc := 137) dX8_post_134 rfl kf_X8_9 F4.1 rfl ?_
  refine aw_iconst (npc := 138) (v := 3) (by decide) dX8_post_137 rfl ?_
  refine aw_aload_n (npc := 139) rfl dX8_post_138 rfl ?_
  refine aw_get (npc := 142) dX8_post_139 rfl kf_X8_9 F4.1 rfl ?_
  refine aw_iconst (npc := 143) (v := 3) (by decide) dX8_post_142 rfl ?_
  refine aw_iald (npc := 144) (x := (upd (upd (upd (upd N 8 (wn ((N 8) + ((a 73) 0)) 0 9)) 9 (wn ((N 9) + ((a 73) 1)) 0 9)) 10 (wn ((N 10) + ((a 73) 2)) 0 9)) 11 (wn ((N 11) + ((a 73) 3)) 0 9)) 3) (j := 3) dX8_post_143 rfl F4.2.1 ⟨by decide, by decide⟩ (tl_at (by omega)) ?_
  refine aw_top (y := N 3) (((((pk_un (by omega))).trans (pk_un (by omega))).trans (pk_un (by omega))).trans (pk_un (by omega))) ?_
  refine aw_aload_n (npc := 145) rfl dX8_post_144 rfl ?_
  refine aw_get (npc := 148) dX8_post_145 rfl kf_X8_146 F4.1 rfl ?_
  refine aw_iadd (npc := 149) dX8_post_148 rfl ?_
  refine aw_iconst (npc := 150) (v := 0) (by decide) dX8_post_149 rfl ?_
  refine aw_bipush (npc := 152) (v := 99) (by decide) dX8_post_150 rfl ?_
  refine aw_callS (npc := 155) (N := mX8_within) (mc := 0) (ms := 0) (A := [.int ((N 3) + (o 6)), .int 0, .int 99]) (S := [.int 3, .ref 70]) (L0 := [some (.int ((N 3) + (o 6))), some (.int 0), some (.int 99)]) dX8_post_152 rfl km_X8_within kk_X8_108 rfl ⟨rfl, by decide⟩ rfl (Nat.le_of_ble_eq_true rfl) (Nat.zero_add _) (Nat.zero_add _) rfl ?_
  refine m_within ?_
  refine aw_re (S' := [.int (wn ((N 3) + (o 6)) 0 99), .int 3, .ref 70]) rfl ?_
  refine aw_iast (npc := 156) (j := 3) dX8_post_155 rfl F4.2.1 ⟨by decide, by decide⟩ (by rw [tl_len]; omega) rfl ?_
  have F5 := mr_70 (j := 3) (v := wn ((N 3) + (o 6)) 0 99) F4
  refine aw_vret rfl dX8_post_156 ?_
  exact hq _ F5 (am_fbU (by omega) (am_fbU (by omega) (am_fbU (by omega) (am_fbU (by omega) (am_fbU (by omega) am_fb0)))))
set_option maxHeartbeats 4000000 in
set_option maxRecDepth 100000 in
theorem m_post {X : List Int32} {d rc rs n : Nat} {Q : am_Q} {o N : Nat → Int32} {a : Nat → Nat → Int32} {h : am_H} {c fr : Nat} (F : MR o N a h) (H : MI N c fr) (hq : ∀ o9 N9 a9 h9, mPo c fr (o 4) (a 73) N N9 → MR o9 N9 a9 h9 → ol6 o9 o → al3 a9 a → am_fb 69 92 h9 h → Q none n h9) : AW X mX8_post (d + 7) rc rs 0 [some (.ref 69), none] [] n h Q := by
  refine aw_aload_n (npc := 1) rfl dX8_post_0 rfl ?_
  refine aw_get (npc := 4) dX8_post_1 rfl kf_X8_9 F.1 rfl ?_
  refine aw_iconst (npc := 5) (v := 2) (by decide) dX8_post_4 rfl ?_
  refine aw_dup2 (npc := 6) rfl rfl dX8_post_5 rfl ?_
  refine aw_iald (npc := 7) (x := N 2) (j := 2) dX8_post_6 rfl F.2.1 ⟨by decide, by decide⟩ (tl_at (by omega)) ?_
  refine aw_iconst (npc := 8) (v := 1) (by decide) dX8_post_7 rfl ?_
  refine aw_iadd (npc := 9) dX8_post_8 rfl ?_
  refine aw_iast (npc := 10) (j := 2) dX8_post_9 rfl F.2.1 ⟨by decide, by decide⟩ (by rw [tl_len]; omega) rfl ?_
  have F1 := mr_70 (j := 2) (v := (N 2) + 1) F
  refine aw_aload_n (npc := 11) rfl dX8_post_10 rfl ?_
  refine aw_callV (npc := 14) (N := mX8_isPeace) (b := 69) (mc := 0) (ms := 0) (A := []) (S := []) (L0 := [some (.ref 69)]) dX8_post_11 rfl km_X8_isPeace kk_X8_149 F1.1 ⟨by decide, rfl⟩ rfl ⟨rfl, by decide⟩ rfl (Nat.le_of_ble_eq_true rfl) (Nat.zero_add _) (Nat.zero_add _) rfl ?_
  refine m_peace F1 (fun hp9 => ?_) (fun hp9 => ?_)
  · refine aw_re (S' := [.int 1]) rfl ?_
    refine aw_if_ne (npc := 17) (tgt := 32) dX8_post_14 rfl (by decide) (fun _ => ?_) (fun hc => absurd hc (by decide))
    refine aw_vret rfl dX8_post_32 ?_
    exact hq _ _ _ _ (Or.inl ⟨Or.inl hp9, rfl⟩) F1 (fun _ _ => rfl) (fun _ _ _ _ => rfl) (am_fbU (by omega) am_fb0)
  · refine aw_re (S' := [.int 0]) rfl ?_
    refine aw_if_ne (npc := 17) (tgt := 32) dX8_post_14 rfl (by decide) (fun hc => absurd (by decide) hc) (fun _ => ?_)
    refine aw_aload_n (npc := 18) rfl dX8_post_17 rfl ?_
    refine aw_get (npc := 21) dX8_post_18 rfl kf_X8_9 F1.1 rfl ?_
    refine aw_iconst (npc := 22) (v := 3) (by decide) dX8_post_21 rfl ?_
    refine aw_iald (npc := 23) (x := (upd N 2 ((N 2) + 1)) 3) (j := 3) dX8_post_22 rfl F1.2.1 ⟨by decide, by decide⟩ (tl_at (by omega)) ?_
    refine aw_top (y := N 3) ((pk_un (by omega))) ?_
    refine aw_aload_n (npc := 24) rfl dX8_post_23 rfl ?_
    refine aw_get (npc := 27) dX8_post_24 rfl kf_X8_9 F1.1 rfl ?_
    refine aw_iconst (npc := 28) (v := 4) (by decide) dX8_post_27 rfl ?_
    refine aw_iald (npc := 29) (x := (upd N 2 ((N 2) + 1)) 4) (j := 4) dX8_post_28 rfl F1.2.1 ⟨by decide, by decide⟩ (tl_at (by omega)) ?_
    refine aw_top (y := N 4) ((pk_un (by omega))) ?_
    refine aw_icmp_lt (npc := 32) (tgt := 33) dX8_post_29 rfl (by decide) (fun hc2 => ?_) (fun hc2 => ?_)
    · refine aw_iconst (npc := 34) (v := 0) (by decide) dX8_post_33 rfl ?_
      refine aw_istore_n (npc := 35) (L' := [some (.ref 69), some (.int 0)]) dX8_post_34 rfl (by decide) rfl rfl ?_
      refine aw_iload_n (npc := 36) rfl dX8_post_35 rfl ?_
      refine aw_iconst (npc := 37) (v := 4) (by decide) dX8_post_36 rfl ?_
      refine aw_icmp_ge (npc := 40) (tgt := 53) dX8_post_37 rfl (by decide) (fun hc => absurd hc (by decide)) (fun _ => ?_)
      refine aw_aload_n (npc := 41) rfl dX8_post_40 rfl ?_
      refine aw_get (npc := 44) dX8_post_41 rfl kf_X8_23 F1.1 rfl ?_
      refine aw_iload_n (npc := 45) rfl dX8_post_44 rfl ?_
      refine aw_iconst (npc := 46) (v := 0) (by decide) dX8_post_45 rfl ?_
      refine aw_iast (npc := 47) (j := 0) dX8_post_46 rfl F1.2.2.2.2.1 ⟨by decide, by decide⟩ (by rw [tl_len]; omega) rfl ?_
      have F3 := mr_73 (j := 0) (v := 0) F1
      refine aw_iinc (npc := 50) (v := 1) (L' := [some (.ref 69), some (.int 1)]) dX8_post_47 rfl rfl (by decide) (by decide) rfl rfl ?_
      refine aw_goto (npc := 35) dX8_post_50 (by decide) ?_
      refine aw_iload_n (npc := 36) rfl dX8_post_35 rfl ?_
      refine aw_iconst (npc := 37) (v := 4) (by decide) dX8_post_36 rfl ?_
      refine aw_icmp_ge (npc := 40) (tgt := 53) dX8_post_37 rfl (by decide) (fun hc => absurd hc (by decide)) (fun _ => ?_)
      refine aw_aload_n (npc := 41) rfl dX8_post_40 rfl ?_
      refine aw_get (npc := 44) dX8_post_41 rfl kf_X8_23 F3.1 rfl ?_
      refine aw_iload_n (npc := 45) rfl dX8_post_44 rfl ?_
      refine aw_iconst (npc := 46) (v := 0) (by decide) dX8_post_45 rfl ?_
      refine aw_iast (npc := 47) (j := 1) dX8_post_46 rfl F3.2.2.2.2.1 ⟨by decide, by decide⟩ (by rw [tl_len]; omega) rfl ?_
      have F4 := mr_73 (j := 1) (v := 0) F3
      refine aw_iinc (npc := 50) (v := 2) (L' := [some (.ref 69), some (.int 2)]) dX8_post_47 rfl rfl (by decide) (by decide) rfl rfl ?_
      refine aw_goto (npc := 35) dX8_post_50 (by decide) ?_
      refine aw_iload_n (npc := 36) rfl dX8_post_35 rfl ?_
      refine aw_iconst (npc := 37) (v := 4) (by decide) dX8_post_36 rfl ?_
      refine aw_icmp_ge (npc := 40) (tgt := 53) dX8_post_37 rfl (by decide) (fun hc => absurd hc (by decide)) (fun _ => ?_)
      refine aw_aload_n (npc := 41) rfl dX8_post_40 rfl ?_
      refine aw_get (npc := 44) dX8_post_41 rfl kf_X8_23 F4.1 rfl ?_
      refine aw_iload_n (npc := 45) rfl dX8_post_44 rfl ?_
      refine aw_iconst (npc := 46) (v := 0) (by decide) dX8_post_45 rfl ?_
      refine aw_iast (npc := 47) (j := 2) dX8_post_46 rfl F4.2.2.2.2.1 ⟨by decide, by decide⟩ (by rw [tl_len]; omega) rfl ?_
      have F5 := mr_73 (j := 2) (v := 0) F4
      refine aw_iinc (npc := 50) (v := 3) (L' := [some (.ref 69), some (.int 3)]) dX8_post_47 rfl rfl (by decide) (by decide) rfl rfl ?_
      refine aw_goto (npc := 35) dX8_post_50 (by decide) ?_
      refine aw_iload_n (npc := 36) rfl dX8_post_35 rfl ?_
      refine aw_iconst (npc := 37) (v := 4) (by decide) dX8_post_36 rfl ?_
      refine aw_icmp_ge (npc := 40) (tgt := 53) dX8_post_37 rfl (by decide) (fun hc => absurd hc (by decide)) (fun _ => ?_)
      refine aw_aload_n (npc := 41) rfl dX8_post_40 rfl ?_
      refine aw_get (npc := 44) dX8_post_41 rfl kf_X8_23 F5.1 rfl ?_
      refine aw_iload_n (npc := 45) rfl dX8_post_44 rfl ?_
      refine aw_iconst (npc := 46) (v := 0) (by decide) dX8_post_45 rfl ?_
      refine aw_iast (npc := 47) (j := 3) dX8_post_46 rfl F5.2.2.2.2.1 ⟨by decide, by decide⟩ (by rw [tl_len]; omega) rfl ?_
      have F6 := mr_73 (j := 3) (v := 0) F5
      refine aw_iinc (npc := 50) (v := 4) (L' := [some (.ref 69), some (.int 4)]) dX8_post_47 rfl rfl (by decide) (by decide) rfl rfl ?_
      refine aw_goto (npc := 35) dX8_post_50 (by decide) ?_
      refine aw_iload_n (npc := 36) rfl dX8_post_35 rfl ?_
      refine aw_iconst (npc := 37) (v := 4) (by decide) dX8_post_36 rfl ?_
      refine aw_icmp_ge (npc := 40) (tgt := 53) dX8_post_37 rfl (by decide) (fun _ => ?_) (fun hc => absurd (by decide) hc)
      refine aw_aload_n (npc := 54) rfl dX8_post_53 rfl ?_
      refine aw_iconst (npc := 55) (v := 0) (by decide) dX8_post_54 rfl ?_
      refine aw_put (npc := 58) dX8_post_55 rfl kf_X8_146 F6.1 (Nat.le_of_ble_eq_true rfl) (am_ok_int _) rfl ?_
      have F7 := mr_o6 (v := 0) F6
      refine aw_iconst (npc := 59) (v := 0) (by decide) dX8_post_58 rfl ?_
      refine aw_istore_n (npc := 60) (L' := [some (.ref 69), some (.int 0)]) dX8_post_59 rfl (by decide) rfl rfl ?_
      refine aw_locs (L' := [some (.ref 69), some (.int (nI 0))]) rfl ?_
      refine m_letL (c := c) (fr := fr) H.2.2.1 fr 0 (by omega) _ _ _ _ F7 (mi_p H) (fun o9 N9 a9 h9 r9 M9 ol9 al9 fb9 => ?_)
      refine m_tail M9 (fun h8 M8 fb8 => ?_)
      exact hq _ _ _ _ (Or.inr ⟨hp9, hc2, _, r9, rfl⟩) M8 (fun k hk => (ol9 k hk).trans (pk_un hk)) (fun k x y z => (al9 k x y z).trans ((((aup_n x).trans (aup_n x)).trans (aup_n x)).trans (aup_n x))) (am_fbT fb8 (am_fbT fb9 (am_fbU (by omega) (am_fbU (by omega) (am_fbU (by omega) (am_fbU (by omega) (am_fbU (by omega) (am_fbU (by omega) am_fb0))))))))
    · refine aw_vret rfl dX8_post_32 ?_
      exact hq _ _ _ _ (Or.inl ⟨Or.inr hc2, rfl⟩) F1 (fun _ _ => rfl) (fun _ _ _ _ => rfl) (am_fbU (by omega) am_fb0)
def mkq (N9 N : Nat → Int32) : Prop := ∀ k, k ≠ 0 → k ≠ 2 → k ≠ 3 → k ≠ 6 → (k < 8 ∨ 12 ≤ k) → (∀ f, f < 8 → k ≠ 25 + 5 * f ∧ k ≠ 26 + 5 * f) → N9 k = N k
theorem mkq_t {x y z : Nat → Int32} (h1 : mkq x y) (h2 : mkq y z) : mkq x z := fun k a b c e f g => (h1 k a b c e f g).trans (h2 k a b c e f g)
theorem mi_q {N9 N : Nat → Int32} {c fr : Nat} (h : mkq N9 N) (H : MI N c fr) : MI N9 c fr := by
  obtain ⟨⟨h7, hc, ht⟩, h1, h8, hf⟩ := H
  refine ⟨⟨(h 7 (by omega) (by omega) (by omega) (by omega) (by omega) (by omega)).trans h7, hc, fun t htc => ?_⟩, (h 1 (by omega) (by omega) (by omega) (by omega) (by omega) (by omega)).trans h1, h8, fun f hfr => ?_⟩
  · obtain ⟨ky, lc, a1, a2, a3, a4, a5⟩ := ht t htc
    refine ⟨ky, lc, a1, a2, a3, (h _ (by omega) (by omega) (by omega) (by omega) (by omega) (by omega)).trans a4, ?_⟩
    have e : (fun z9 => N9 (90 + 96 * t + z9)) = (fun z9 => N (90 + 96 * t + z9)) := funext (fun z => h _ (by omega) (by omega) (by omega) (by omega) (by omega) (by omega))
    rw [e]; exact a5
  · rw [h (22 + 5 * f) (by omega) (by omega) (by omega) (by omega) (by omega) (by omega), h (23 + 5 * f) (by omega) (by omega) (by omega) (by omega) (by omega) (by omega)]
    exact hf f hfr
theorem LSm_keep {c : Nat} {si : Int32} : ∀ (m f : Nat) (σ σ' : (Nat → Int32) × (Nat → Int32) × Int32), f + m ≤ 8 → LSm c si m f σ σ' → mkp σ'.1 σ.1 := by
  intro m
  induction m with
  | zero => intro f σ σ' _ h; cases h; exact fun _ _ _ _ => rfl
  | succ m ih =>
    intro f σ σ' hf h
    rcases h with ⟨_, h⟩ | ⟨_, σ1, h1, h⟩
    · exact ih (f + 1) σ σ' (by omega) h
    · exact mkp_t (ih (f + 1) σ1 σ' (by omega) h) (mLe_keep (by omega) h1)
theorem mPo_keep {c fr : Nat} {si : Int32} {mv N N9 : Nat → Int32} (hfr : fr ≤ 8) (H : mPo c fr si mv N N9) : mkq N9 N := by
  rcases H with ⟨_, rfl⟩ | ⟨_, _, σ, h, rfl⟩
  · exact fun k _ h2 _ _ _ _ => pk_un h2
  · intro k h0 h2 h3 h6 h8 hf
    have e := LSm_keep fr 0 _ _ (by omega) h k h0 h6 hf
    unfold endM
    rw [pk_un h3, pk_un (by omega), pk_un (by omega), pk_un (by omega), pk_un (by omega), e]
    exact pk_un h2
def gOn (c fr : Nat) (si : Int32) : Nat → (Nat → Int32) → (Nat → Int32) → Prop
  | 0, N, N9 => N9 = N
  | m + 1, N, N9 => ∃ mv N1, mPo c fr si mv N N1 ∧ gOn c fr si m N1 N9
theorem gOn_keep {c fr : Nat} {si : Int32} (hfr : fr ≤ 8) : ∀ (m : Nat) (N N9 : Nat → Int32), gOn c fr si m N N9 → mkq N9 N := by
  intro m
  induction m with
  | zero => intro N N9 h; cases h; exact fun _ _ _ _ _ _ _ => rfl
  | succ m ih =>
    intro N N9 h
    obtain ⟨mv, N1, h1, h2⟩ := h
    exact mkq_t (ih N1 N9 h2) (mPo_keep hfr h1)
set_option maxHeartbeats 4000000 in
set_option maxRecDepth 100000 in
theorem m_goL {X : List Int32} {d rc rs n : Nat} {Q : am_Q} {c fr p : Nat} (hp : p < 1000) : ∀ (m k : Nat), k + m = p → ∀ (o N : Nat → Int32) (a : Nat → Nat → Int32) (h : am_H), MR o N a h → MI N c fr → (∀ o9 N9 a9 h9, gOn c fr (o 4) m N N9 → MR o9 N9 a9 h9 → ol6 o9 o → al3 a9 a → am_fb 69 92 h9 h → Q none n h9) → AW X mX8_goesOn (d + 9) rc rs 2 [some (.ref 69), some (.int (nI p)), some (.int (nI k))] [] n h Q := by
  intro m
  induction m with
  | zero =>
    intro k hk o N a h F H hq
    obtain rfl : k = p := by omega
    refine aw_iload_n (npc := 3) rfl dX8_goesOn_2 rfl ?_
    refine aw_iload_n (npc := 4) rfl dX8_goesOn_3 rfl ?_
    refine aw_icmp_ge (npc := 7) (tgt := 17) dX8_goesOn_4 rfl (by decide) (fun _ => ?_) (fun hc => absurd (nI_le (a := k) (b := k) (by omega) (by omega)) hc)
    refine aw_vret rfl dX8_goesOn_17 ?_
    exact hq _ _ _ _ rfl F (fun _ _ => rfl) (fun _ _ _ _ => rfl) am_fb0
  | succ m ih =>
    intro k hk o N a h F H hq
    refine aw_iload_n (npc := 3) rfl dX8_goesOn_2 rfl ?_
    refine aw_iload_n (npc := 4) rfl dX8_goesOn_3 rfl ?_
    refine aw_icmp_ge (npc := 7) (tgt := 17) dX8_goesOn_4 rfl (by decide) (fun hc => absurd hc (nI_ge (a := k) (b := p) (by omega) (by omega))) (fun _ => ?_)
    refine aw_aload_n (npc := 8) rfl dX8_goesOn_7 rfl ?_
    refine aw_callV (npc := 11) (N := mX8_post) (b := 69) (mc := 0) (ms := 0) (A := []) (S := []) (L0 := [some (.ref 69), none]) dX8_goesOn_8 rfl km_X8_post kk_X8_157 F.1 ⟨by decide, rfl⟩ rfl ⟨rfl, by decide⟩ rfl (Nat.le_of_ble_eq_true rfl) (Nat.zero_add _) (Nat.zero_add _) rfl ?_
    refine m_post F H (fun oL NL aL hL rL ML olL alL fbL => ?_)
    refine aw_iinc (npc := 14) (v := nI (k + 1)) (L' := [some (.ref 69), some (.int (nI p)), some (.int (nI (k + 1)))]) dX8_goesOn_11 rfl rfl (nI_1 _) (by decide) rfl rfl ?_
    refine aw_goto (npc := 2) dX8_goesOn_14 (by decide) ?_
    exact ih (k + 1) (by omega) oL NL aL hL ML (mi_q (mPo_keep H.2.2.1 rL) H) (fun o9 N9 a9 h9 r9 M9 ol9 al9 fb9 => hq o9 N9 a9 h9 ⟨_, _, rL, (olL 4 (by decide)) ▸ r9⟩ M9 (fun k hk => (ol9 k hk).trans (olL k hk)) (fun k x y z => (al9 k x y z).trans (alL k x y z)) (am_fbT fb9 fbL))
set_option maxHeartbeats 4000000 in
set_option maxRecDepth 100000 in
theorem m_go {X : List Int32} {d rc rs n : Nat} {Q : am_Q} {o N : Nat → Int32} {a : Nat → Nat → Int32} {h : am_H} {c fr p : Nat} (hp : p < 1000) (F : MR o N a h) (H : MI N c fr) (hq : (∀ o9 N9 a9 h9, gOn c fr (o 4) p N N9 → MR o9 N9 a9 h9 → ol6 o9 o → al3 a9 a → am_fb 69 92 h9 h → Q none n h9)) : AW X mX8_goesOn (d + 9) rc rs 0 [some (.ref 69), some (.int (nI p)), none] [] n h Q := by
  refine aw_iconst (npc := 1) (v := 0) (by decide) dX8_goesOn_0 rfl ?_
  refine aw_istore_n (npc := 2) (L' := [some (.ref 69), some (.int (nI p)), some (.int 0)]) dX8_goesOn_1 rfl (by decide) rfl rfl ?_
  refine aw_locs (L' := [some (.ref 69), some (.int (nI p)), some (.int (nI 0))]) rfl ?_
  exact m_goL hp p 0 (by omega) _ _ _ _ F H hq
set_option maxHeartbeats 4000000 in
set_option maxRecDepth 100000 in
theorem m_thinksL {X : List Int32} {d rc rs n : Nat} {Q : am_Q} {o N : Nat → Int32} : ∀ (m k : Nat), k + m = 62 → ∀ (a : Nat → Nat → Int32) (h : am_H), MR o N a h → (∀ j, j < k → a 74 j = N j) → (∀ a9 h9, MR o N a9 h9 → (∀ j, j < 62 → a9 74 j = N j) → (∀ c, c ≠ 74 → a9 c = a c) → am_fb 69 92 h9 h → Q none n h9) → AW X mX8_thinks d rc rs 2 [some (.ref 69), some (.int (nI k))] [] n h Q := by
  intro m
  induction m with
  | zero =>
    intro k hk a h F hk9 hq
    obtain rfl : k = 62 := by omega
    refine aw_iload_n (npc := 3) rfl dX8_thinks_2 rfl ?_
    refine aw_bipush (npc := 5) (v := 62) (by decide) dX8_thinks_3 rfl ?_
    refine aw_icmp_ge (npc := 8) (tgt := 26) dX8_thinks_5 rfl (by decide) (fun _ => ?_) (fun hc => absurd (nI_le (a := 62) (b := 62) (by omega) (by omega)) hc)
    refine aw_vret rfl dX8_thinks_26 ?_
    exact hq _ _ F hk9 (fun _ _ => rfl) am_fb0
  | succ m ih =>
    intro k hk a h F hk9 hq
    refine aw_iload_n (npc := 3) rfl dX8_thinks_2 rfl ?_
    refine aw_bipush (npc := 5) (v := 62) (by decide) dX8_thinks_3 rfl ?_
    refine aw_icmp_ge (npc := 8) (tgt := 26) dX8_thinks_5 rfl (by decide) (fun hc => absurd hc (nI_ge (a := k) (b := 62) (by omega) (by omega))) (fun _ => ?_)
    refine aw_aload_n (npc := 9) rfl dX8_thinks_8 rfl ?_
    refine aw_get (npc := 12) dX8_thinks_9 rfl kf_X8_26 F.1 rfl ?_
    refine aw_iload_n (npc := 13) rfl dX8_thinks_12 rfl ?_
    refine aw_aload_n (npc := 14) rfl dX8_thinks_13 rfl ?_
    refine aw_get (npc := 17) dX8_thinks_14 rfl kf_X8_9 F.1 rfl ?_
    refine aw_iload_n (npc := 18) rfl dX8_thinks_17 rfl ?_
    refine aw_iald (npc := 19) (x := N k) (j := k) dX8_thinks_18 rfl F.2.1 (am_ix_nI (by omega)) (tl_at (by omega)) ?_
    refine aw_iast (npc := 20) (j := k) dX8_thinks_19 rfl F.2.2.2.2.2.1 (am_ix_nI (by omega)) (by rw [tl_len]; omega) rfl ?_
    have F2 := mr_74 (j := k) (v := N k) F
    refine aw_iinc (npc := 23) (v := nI (k + 1)) (L' := [some (.ref 69), some (.int (nI (k + 1)))]) dX8_thinks_20 rfl rfl (nI_1 _) (by decide) rfl rfl ?_
    refine aw_goto (npc := 2) dX8_thinks_23 (by decide) ?_
    refine ih (k + 1) (by omega) _ _ F2 (fun j hj => ?_) (fun a9 h9 M9 e9 c9 f9 => hq a9 h9 M9 e9 (fun c hc => (c9 c hc).trans (aup_n hc)) (am_fbT f9 (am_fbU (by omega) am_fb0)))
    rw [aup_s]
    by_cases z : j = k
    · subst z; exact pk_us
    · exact (pk_un z).trans (hk9 j (by omega))
set_option maxHeartbeats 4000000 in
set_option maxRecDepth 100000 in
theorem m_thinks {X : List Int32} {d rc rs n : Nat} {Q : am_Q} {o N : Nat → Int32} {a : Nat → Nat → Int32} {h : am_H} (F : MR o N a h) (hq : (∀ a9 h9, MR o N a9 h9 → (∀ j, j < 62 → a9 74 j = N j) → (∀ c, c ≠ 74 → a9 c = a c) → am_fb 69 92 h9 h → Q none n h9)) : AW X mX8_thinks (d + 0) rc rs 0 [some (.ref 69), none] [] n h Q := by
  refine aw_iconst (npc := 1) (v := 0) (by decide) dX8_thinks_0 rfl ?_
  refine aw_istore_n (npc := 2) (L' := [some (.ref 69), some (.int 0)]) dX8_thinks_1 rfl (by decide) rfl rfl ?_
  refine aw_locs (L' := [some (.ref 69), some (.int (nI 0))]) rfl ?_
  exact m_thinksL 62 0 (by omega) _ _ F (fun j hj => by omega) hq
set_option maxHeartbeats 4000000 in
set_option maxRecDepth 100000 in
theorem m_putsL {X : List Int32} {d rc rs n : Nat} {Q : am_Q} {o : Nat → Int32} {a : Nat → Nat → Int32} : ∀ (m k : Nat), k + m = 62 → ∀ (N : Nat → Int32) (h : am_H), MR o N a h → (∀ j, j < k → N j = a 74 j) → (∀ N9 h9, MR (upd o 4 (-1)) N9 a h9 → (∀ j, j < 62 → N9 j = a 74 j) → (∀ j, 62 ≤ j → N9 j = N j) → am_fb 69 92 h9 h → Q none n h9) → AW X mX8_putsBack d rc rs 2 [some (.ref 69), some (.int (nI k))] [] n h Q := by
  intro m
  induction m with
  | zero =>
    intro k hk N h F hk9 hq
    obtain rfl : k = 62 := by omega
    refine aw_iload_n (npc := 3) rfl dX8_putsBack_2 rfl ?_
    refine aw_bipush (npc := 5) (v := 62) (by decide) dX8_putsBack_3 rfl ?_
    refine aw_icmp_ge (npc := 8) (tgt := 26) dX8_putsBack_5 rfl (by decide) (fun _ => ?_) (fun hc => absurd (nI_le (a := 62) (b := 62) (by omega) (by omega)) hc)
    refine aw_aload_n (npc := 27) rfl dX8_putsBack_26 rfl ?_
    refine aw_iconst (npc := 28) (v := -1) (by decide) dX8_putsBack_27 rfl ?_
    refine aw_put (npc := 31) dX8_putsBack_28 rfl kf_X8_19 F.1 (Nat.le_of_ble_eq_true rfl) (am_ok_int _) rfl ?_
    have F2 := mr_o4 (v := (-1)) F
    refine aw_vret rfl dX8_putsBack_31 ?_
    exact hq _ _ F2 hk9 (fun _ _ => rfl) (am_fbU (by omega) am_fb0)
  | succ m ih =>
    intro k hk N h F hk9 hq
    refine aw_iload_n (npc := 3) rfl dX8_putsBack_2 rfl ?_
    refine aw_bipush (npc := 5) (v := 62) (by decide) dX8_putsBack_3 rfl ?_
    refine aw_icmp_ge (npc := 8) (tgt := 26) dX8_putsBack_5 rfl (by decide) (fun hc => absurd hc (nI_ge (a := k) (b := 62) (by omega) (by omega))) (fun _ => ?_)
    refine aw_aload_n (npc := 9) rfl dX8_putsBack_8 rfl ?_
    refine aw_get (npc := 12) dX8_putsBack_9 rfl kf_X8_9 F.1 rfl ?_
    refine aw_iload_n (npc := 13) rfl dX8_putsBack_12 rfl ?_
    refine aw_aload_n (npc := 14) rfl dX8_putsBack_13 rfl ?_
    refine aw_get (npc := 17) dX8_putsBack_14 rfl kf_X8_26 F.1 rfl ?_
    refine aw_iload_n (npc := 18) rfl dX8_putsBack_17 rfl ?_
    refine aw_iald (npc := 19) (x := (a 74) k) (j := k) dX8_putsBack_18 rfl F.2.2.2.2.2.1 (am_ix_nI (by omega)) (tl_at (by omega)) ?_
    refine aw_iast (npc := 20) (j := k) dX8_putsBack_19 rfl F.2.1 (am_ix_nI (by omega)) (by rw [tl_len]; omega) rfl ?_
    have F2 := mr_70 (j := k) (v := (a 74) k) F
    refine aw_iinc (npc := 23) (v := nI (k + 1)) (L' := [some (.ref 69), some (.int (nI (k + 1)))]) dX8_putsBack_20 rfl rfl (nI_1 _) (by decide) rfl rfl ?_
    refine aw_goto (npc := 2) dX8_putsBack_23 (by decide) ?_
    refine ih (k + 1) (by omega) _ _ F2 (fun j hj => ?_) (fun N9 h9 M9 e9 c9 f9 => hq N9 h9 M9 e9 (fun c hc => (c9 c hc).trans (pk_un (by omega))) (am_fbT f9 (am_fbU (by omega) am_fb0)))
    by_cases z : j = k
    · subst z; exact pk_us
    · exact (pk_un z).trans (hk9 j (by omega))
set_option maxHeartbeats 4000000 in
set_option maxRecDepth 100000 in
theorem m_puts {X : List Int32} {d rc rs n : Nat} {Q : am_Q} {o N : Nat → Int32} {a : Nat → Nat → Int32} {h : am_H} (F : MR o N a h) (hq : (∀ N9 h9, MR (upd o 4 (-1)) N9 a h9 → (∀ j, j < 62 → N9 j = a 74 j) → (∀ j, 62 ≤ j → N9 j = N j) → am_fb 69 92 h9 h → Q none n h9)) : AW X mX8_putsBack (d + 0) rc rs 0 [some (.ref 69), none] [] n h Q := by
  refine aw_iconst (npc := 1) (v := 0) (by decide) dX8_putsBack_0 rfl ?_
  refine aw_istore_n (npc := 2) (L' := [some (.ref 69), some (.int 0)]) dX8_putsBack_1 rfl (by decide) rfl rfl ?_
  refine aw_locs (L' := [some (.ref 69), some (.int (nI 0))]) rfl ?_
  exact m_putsL 62 0 (by omega) _ _ F (fun j hj => by omega) hq
def saN (N : Nat → Int32) (V : Nat) : Nat → Int32 := upd (upd (upd (upd N 11 (nI (V % 10))) 10 (nI (V / 10 % 10))) 9 (nI (V / 10 / 10 % 10))) 8 (nI (V / 10 / 10 / 10 % 10))
set_option maxHeartbeats 4000000 in
set_option maxRecDepth 100000 in
theorem m_standAs {X : List Int32} {d rc rs n : Nat} {Q : am_Q} {o N : Nat → Int32} {a : Nat → Nat → Int32} {h : am_H} {V : Nat} (hV : V < 10000) (F : MR o N a h) (hq : ∀ h9, MR o (saN N V) a h9 → am_fb 69 92 h9 h → Q none n h9) : AW X mX8_standAs (d + 0) rc rs 0 [some (.ref 69), some (.int (nI V)), none, none] [] n h Q := by
  refine aw_iload_n (npc := 1) rfl dX8_standAs_0 rfl ?_
  refine aw_istore_n (npc := 2) (L' := [some (.ref 69), some (.int (nI V)), some (.int (nI V)), none]) dX8_standAs_1 rfl (by decide) rfl rfl ?_
  refine aw_iconst (npc := 3) (v := 3) (by decide) dX8_standAs_2 rfl ?_
  refine aw_istore_n (npc := 4) (L' := [some (.ref 69), some (.int (nI V)), some (.int (nI V)), some (.int 3)]) dX8_standAs_3 rfl (by decide) rfl rfl ?_
  refine aw_iload_n (npc := 5) rfl dX8_standAs_4 rfl ?_
  refine aw_if_lt (npc := 8) (tgt := 32) dX8_standAs_5 rfl (by decide) (fun hc => absurd hc (by decide)) (fun _ => ?_)
  refine aw_aload_n (npc := 9) rfl dX8_standAs_8 rfl ?_
  refine aw_get (npc := 12) dX8_standAs_9 rfl kf_X8_9 F.1 rfl ?_
  refine aw_bipush (npc := 14) (v := 8) (by decide) dX8_standAs_12 rfl ?_
  refine aw_iload_n (npc := 15) rfl dX8_standAs_14 rfl ?_
  refine aw_iaddV (npc := 16) (v := 11) dX8_standAs_15 rfl (by decide) ?_
  refine aw_iload_n (npc := 17) rfl dX8_standAs_16 rfl ?_
  refine aw_bipush (npc := 19) (v := 10) (by decide) dX8_standAs_17 rfl ?_
  refine aw_iremV (npc := 20) (v := nI (V % 10)) (by decide) dX8_standAs_19 rfl (pk_rem (a := V) (d := 10) (by omega) (by omega) (by omega)) ?_
  refine aw_iast (npc := 21) (j := 11) dX8_standAs_20 rfl F.2.1 ⟨by decide, by decide⟩ (by rw [tl_len]; omega) rfl ?_
  have F1 := mr_70 (j := 11) (v := nI (V % 10)) F
  refine aw_iload_n (npc := 22) rfl dX8_standAs_21 rfl ?_
  refine aw_bipush (npc := 24) (v := 10) (by decide) dX8_standAs_22 rfl ?_
  refine aw_idivV (npc := 25) (v := nI (V / 10)) (by decide) dX8_standAs_24 rfl (pk_div (a := V) (d := 10) (by omega) (by omega) (by omega)) ?_
  refine aw_istore_n (npc := 26) (L' := [some (.ref 69), some (.int (nI V)), some (.int (nI (V / 10))), some (.int 3)]) dX8_standAs_25 rfl (by decide) rfl rfl ?_
  refine aw_iinc (npc := 29) (v := 2) (L' := [some (.ref 69), some (.int (nI V)), some (.int (nI (V / 10))), some (.int 2)]) dX8_standAs_26 rfl rfl (by decide) (by decide) rfl rfl ?_
  refine aw_goto (npc := 4) dX8_standAs_29 (by decide) ?_
  refine aw_iload_n (npc := 5) rfl dX8_standAs_4 rfl ?_
  refine aw_if_lt (npc := 8) (tgt := 32) dX8_standAs_5 rfl (by decide) (fun hc => absurd hc (by decide)) (fun _ => ?_)
  refine aw_aload_n (npc := 9) rfl dX8_standAs_8 rfl ?_
  refine aw_get (npc := 12) dX8_standAs_9 rfl kf_X8_9 F1.1 rfl ?_
  refine aw_bipush (npc := 14) (v := 8) (by decide) dX8_standAs_12 rfl ?_
  refine aw_iload_n (npc := 15) rfl dX8_standAs_14 rfl ?_
  refine aw_iaddV (npc := 16) (v := 10) dX8_standAs_15 rfl (by decide) ?_
  refine aw_iload_n (npc := 17) rfl dX8_standAs_16 rfl ?_
  refine aw_bipush (npc := 19) (v := 10) (by decide) dX8_standAs_17 rfl ?_
  refine aw_iremV (npc := 20) (v := nI ((V / 10) % 10)) (by decide) dX8_standAs_19 rfl (pk_rem (a := (V / 10)) (d := 10) (by omega) (by omega) (by omega)) ?_
  refine aw_iast (npc := 21) (j := 10) dX8_standAs_20 rfl F1.2.1 ⟨by decide, by decide⟩ (by rw [tl_len]; omega) rfl ?_
  have F2 := mr_70 (j := 10) (v := nI ((V / 10) % 10)) F1
  refine aw_iload_n (npc := 22) rfl dX8_standAs_21 rfl ?_
  refine aw_bipush (npc := 24) (v := 10) (by decide) dX8_standAs_22 rfl ?_
  refine aw_idivV (npc := 25) (v := nI ((V / 10) / 10)) (by decide) dX8_standAs_24 rfl (pk_div (a := (V / 10)) (d := 10) (by omega) (by omega) (by omega)) ?_
  refine aw_istore_n (npc := 26) (L' := [some (.ref 69), some (.int (nI V)), some (.int (nI ((V / 10) / 10))), some (.int 2)]) dX8_standAs_25 rfl (by decide) rfl rfl ?_
  refine aw_iinc (npc := 29) (v := 1) (L' := [some (.ref 69), some (.int (nI V)), some (.int (nI ((V / 10) / 10))), some (.int 1)]) dX8_standAs_26 rfl rfl (by decide) (by decide) rfl rfl ?_
  refine aw_goto (npc := 4) dX8_standAs_29 (by decide) ?_
  refine aw_iload_n (npc := 5) rfl dX8_standAs_4 rfl ?_
  refine aw_if_lt (npc := 8) (tgt := 32) dX8_standAs_5 rfl (by decide) (fun hc => absurd hc (by decide)) (fun _ => ?_)
  refine aw_aload_n (npc := 9) rfl dX8_standAs_8 rfl ?_
  refine aw_get (npc := 12) dX8_standAs_9 rfl kf_X8_9 F2.1 rfl ?_
  refine aw_bipush (npc := 14) (v := 8) (by decide) dX8_standAs_12 rfl ?_
  refine aw_iload_n (npc := 15) rfl dX8_standAs_14 rfl ?_
  refine aw_iaddV (npc := 16) (v := 9) dX8_standAs_15 rfl (by decide) ?_
  refine aw_iload_n (npc := 17) rfl dX8_standAs_16 rfl ?_
  refine aw_bipush (npc := 19) (v := 10) (by decide) dX8_standAs_17 rfl ?_
  refine aw_iremV (npc := 20) (v := nI (((V / 10) / 10) % 10)) (by decide) dX8_standAs_19 rfl (pk_rem (a := ((V / 10) / 10)) (d := 10) (by omega) (by omega) (by omega)) ?_
  refine aw_iast (npc := 21) (j := 9) dX8_standAs_20 rfl F2.2.1 ⟨by decide, by decide⟩ (by rw [tl_len]; omega) rfl ?_
  have F3 := mr_70 (j := 9) (v := nI (((V / 10) / 10) % 10)) F2
  refine aw_iload_n (npc := 22) rfl dX8_standAs_21 rfl ?_
  refine aw_bipush (npc := 24) (v := 10) (by decide) dX8_standAs_22 rfl ?_
  refine aw_idivV (npc := 25) (v := nI (((V / 10) / 10) / 10)) (by decide) dX8_standAs_24 rfl (pk_div (a := ((V / 10) / 10)) (d := 10) (by omega) (by omega) (by omega)) ?_
  refine aw_istore_n (npc := 26) (L' := [some (.ref 69), some (.int (nI V)), some (.int (nI (((V / 10) / 10) / 10))), some (.int 1)]) dX8_standAs_25 rfl (by decide) rfl rfl ?_
  refine aw_iinc (npc := 29) (v := 0) (L' := [some (.ref 69), some (.int (nI V)), some (.int (nI (((V / 10) / 10) / 10))), some (.int 0)]) dX8_standAs_26 rfl rfl (by decide) (by decide) rfl rfl ?_
  refine aw_goto (npc := 4) dX8_standAs_29 (by decide) ?_
  refine aw_iload_n (npc := 5) rfl dX8_standAs_4 rfl ?_
  refine aw_if_lt (npc := 8) (tgt := 32) dX8_standAs_5 rfl (by decide) (fun hc => absurd hc (by decide)) (fun _ => ?_)
  refine aw_aload_n (npc := 9) rfl dX8_standAs_8 rfl ?_
  refine aw_get (npc := 12) dX8_standAs_9 rfl kf_X8_9 F3.1 rfl ?_
  refine aw_bipush (npc := 14) (v := 8) (by decide) dX8_standAs_12 rfl ?_
  refine aw_iload_n (npc := 15) rfl dX8_standAs_14 rfl ?_
  refine aw_iaddV (npc := 16) (v := 8) dX8_standAs_15 rfl (by decide) ?_
  refine aw_iload_n (npc := 17) rfl dX8_standAs_16 rfl ?_
  refine aw_bipush (npc := 19) (v := 10) (by decide) dX8_standAs_17 rfl ?_
  refine aw_iremV (npc := 20) (v := nI ((((V / 10) / 10) / 10) % 10)) (by decide) dX8_standAs_19 rfl (pk_rem (a := (((V / 10) / 10) / 10)) (d := 10) (by omega) (by omega) (by omega)) ?_
  refine aw_iast (npc := 21) (j := 8) dX8_standAs_20 rfl F3.2.1 ⟨by decide, by decide⟩ (by rw [tl_len]; omega) rfl ?_
  have F4 := mr_70 (j := 8) (v := nI ((((V / 10) / 10) / 10) % 10)) F3
  refine aw_iload_n (npc := 22) rfl dX8_standAs_21 rfl ?_
  refine aw_bipush (npc := 24) (v := 10) (by decide) dX8_standAs_22 rfl ?_
  refine aw_idivV (npc := 25) (v := nI ((((V / 10) / 10) / 10) / 10)) (by decide) dX8_standAs_24 rfl (pk_div (a := (((V / 10) / 10) / 10)) (d := 10) (by omega) (by omega) (by omega)) ?_
  refine aw_istore_n (npc := 26) (L' := [some (.ref 69), some (.int (nI V)), some (.int (nI ((((V / 10) / 10) / 10) / 10))), some (.int 0)]) dX8_standAs_25 rfl (by decide) rfl rfl ?_
  refine aw_iinc (npc := 29) (v := (-1)) (L' := [some (.ref 69), some (.int (nI V)), some (.int (nI ((((V / 10) / 10) / 10) / 10))), some (.int (-1))]) dX8_standAs_26 rfl rfl (by decide) (by decide) rfl rfl ?_
  refine aw_goto (npc := 4) dX8_standAs_29 (by decide) ?_
  refine aw_iload_n (npc := 5) rfl dX8_standAs_4 rfl ?_
  refine aw_if_lt (npc := 8) (tgt := 32) dX8_standAs_5 rfl (by decide) (fun _ => ?_) (fun hc => absurd (by decide) hc)
  refine aw_vret rfl dX8_standAs_32 ?_
  exact hq _ F4 (am_fbU (by omega) (am_fbU (by omega) (am_fbU (by omega) (am_fbU (by omega) am_fb0))))
theorem wi99 {x : Int32} (h : wi x 0 99) : ∃ q : Fin 100, x = nI q.1 := by
  obtain ⟨q, hq, e⟩ := wi_nI (H := 99) (by decide) (by decide) h
  exact ⟨⟨q, by omega⟩, e⟩
theorem wn20 {x : Int32} (h : wi x 0 99) : wn (x + 20) 0 99 = if 99 < x + 20 then 99 else x + 20 := by
  obtain ⟨p, rfl⟩ := wi99 h
  clear h
  revert p
  decide +kernel
theorem wn10 {x : Int32} (h : wi x 0 99) : wn (x / 2 - 10) 0 99 = if x / 2 - 10 < 0 then 0 else x / 2 - 10 := by
  obtain ⟨p, rfl⟩ := wi99 h
  clear h
  revert p
  decide +kernel
theorem tone_eq {k hv pl : Int32} (hk : wi k 0 5) (h : wi pl 0 99) : mtoneK k hv pl = toneK k hv pl := by
  unfold mtoneK toneK
  rw [wn20 h, wn10 h]
  rcases wi_c0_5 hk with rfl | rfl | rfl | rfl | rfl | rfl <;> simp
