/-! calls by the number of their arguments and the kind of their answer -/
def xq_i (P : Int32 → xm_H → Prop) : Option Value → xm_H → Prop := fun r h' => ∃ v : Int32, r = some (.int v) ∧ P v h'
def xq_v (P : xm_H → Prop) : Option Value → xm_H → Prop := fun r h' => r = none ∧ P h'
def xq_r (P : Option Nat → xm_H → Prop) : Option Value → xm_H → Prop := fun r h' => ∃ v : Option Nat, r = some (va_rf v) ∧ P v h'
section XCalls
variable {g : xm_G} {d d' pc : Nat} {y z : xm_M} {ls : List (Option Value)} {h : xm_H} {Q : Option Value → xm_H → Prop} {i : Nat} {rest : List Value}
theorem xr_V0i {b : Nat} {fs : List Value} {P : Int32 → xm_H → Prop} (hd : decode (xt_code y) pc = .ok (.invokevirtual i, 3)) (hm : xm_okV (xt_own y) i z) (hb : h.1 b = some (.inl (xt_own z, fs))) (hn : xt_np z = 0) (hr : (rest.map fun v => v.category).sum ≤ 8) (hdd : d' < d)
    (Cz : xm_S g d' z (xm_entry z [.ref b]) h (xq_i P)) (K : ∀ (v : Int32) (h' : xm_H), P v h' → xm_S g d y (pc + 3, ls, .int v :: rest) h' Q) : xm_S g d y (pc, ls, .ref b :: rest) h Q := by
  cases d with
  | zero => exact absurd hdd (Nat.not_lt_zero _)
  | succ d => exact xr_callV (as := []) (rest := rest) hd hm rfl hb hn.symm (fun v hv => by simp at hv) hr (Cz.up (Nat.le_of_lt_succ hdd)) (fun r h' e => by obtain ⟨v, rfl, e⟩ := e; exact K v h' e)
theorem xr_V0v {b : Nat} {fs : List Value} {P : xm_H → Prop} (hd : decode (xt_code y) pc = .ok (.invokevirtual i, 3)) (hm : xm_okV (xt_own y) i z) (hb : h.1 b = some (.inl (xt_own z, fs))) (hn : xt_np z = 0) (hr : (rest.map fun v => v.category).sum ≤ 8) (hdd : d' < d)
    (Cz : xm_S g d' z (xm_entry z [.ref b]) h (xq_v P)) (K : ∀ h' : xm_H, P h' → xm_S g d y (pc + 3, ls, rest) h' Q) : xm_S g d y (pc, ls, .ref b :: rest) h Q := by
  cases d with
  | zero => exact absurd hdd (Nat.not_lt_zero _)
  | succ d => exact xr_callV (as := []) (rest := rest) hd hm rfl hb hn.symm (fun v hv => by simp at hv) hr (Cz.up (Nat.le_of_lt_succ hdd)) (fun r h' e => by obtain ⟨rfl, e⟩ := e; exact K h' e)
theorem xr_V0r {b : Nat} {fs : List Value} {P : Option Nat → xm_H → Prop} (hd : decode (xt_code y) pc = .ok (.invokevirtual i, 3)) (hm : xm_okV (xt_own y) i z) (hb : h.1 b = some (.inl (xt_own z, fs))) (hn : xt_np z = 0) (hr : (rest.map fun v => v.category).sum ≤ 8) (hdd : d' < d)
    (Cz : xm_S g d' z (xm_entry z [.ref b]) h (xq_r P)) (K : ∀ (v : Option Nat) (h' : xm_H), P v h' → xm_S g d y (pc + 3, ls, va_rf v :: rest) h' Q) : xm_S g d y (pc, ls, .ref b :: rest) h Q := by
  cases d with
  | zero => exact absurd hdd (Nat.not_lt_zero _)
  | succ d => exact xr_callV (as := []) (rest := rest) hd hm rfl hb hn.symm (fun v hv => by simp at hv) hr (Cz.up (Nat.le_of_lt_succ hdd)) (fun r h' e => by obtain ⟨v, rfl, e⟩ := e; exact K v h' e)
theorem xr_V1i {b : Nat} {fs : List Value} {a1 : Value} {P : Int32 → xm_H → Prop} (hd : decode (xt_code y) pc = .ok (.invokevirtual i, 3)) (hm : xm_okV (xt_own y) i z) (hb : h.1 b = some (.inl (xt_own z, fs))) (hn : xt_np z = 1) (c1 : a1.category = 1) (hr : (rest.map fun v => v.category).sum ≤ 8) (hdd : d' < d)
    (Cz : xm_S g d' z (xm_entry z [.ref b, a1]) h (xq_i P)) (K : ∀ (v : Int32) (h' : xm_H), P v h' → xm_S g d y (pc + 3, ls, .int v :: rest) h' Q) : xm_S g d y (pc, ls, a1 :: .ref b :: rest) h Q := by
  cases d with
  | zero => exact absurd hdd (Nat.not_lt_zero _)
  | succ d => exact xr_callV (as := [a1]) (rest := rest) hd hm rfl hb hn.symm (fun v hv => by simp at hv; rcases hv with rfl <;> assumption) hr (Cz.up (Nat.le_of_lt_succ hdd)) (fun r h' e => by obtain ⟨v, rfl, e⟩ := e; exact K v h' e)
theorem xr_V1v {b : Nat} {fs : List Value} {a1 : Value} {P : xm_H → Prop} (hd : decode (xt_code y) pc = .ok (.invokevirtual i, 3)) (hm : xm_okV (xt_own y) i z) (hb : h.1 b = some (.inl (xt_own z, fs))) (hn : xt_np z = 1) (c1 : a1.category = 1) (hr : (rest.map fun v => v.category).sum ≤ 8) (hdd : d' < d)
    (Cz : xm_S g d' z (xm_entry z [.ref b, a1]) h (xq_v P)) (K : ∀ h' : xm_H, P h' → xm_S g d y (pc + 3, ls, rest) h' Q) : xm_S g d y (pc, ls, a1 :: .ref b :: rest) h Q := by
  cases d with
  | zero => exact absurd hdd (Nat.not_lt_zero _)
  | succ d => exact xr_callV (as := [a1]) (rest := rest) hd hm rfl hb hn.symm (fun v hv => by simp at hv; rcases hv with rfl <;> assumption) hr (Cz.up (Nat.le_of_lt_succ hdd)) (fun r h' e => by obtain ⟨rfl, e⟩ := e; exact K h' e)
theorem xr_V1r {b : Nat} {fs : List Value} {a1 : Value} {P : Option Nat → xm_H → Prop} (hd : decode (xt_code y) pc = .ok (.invokevirtual i, 3)) (hm : xm_okV (xt_own y) i z) (hb : h.1 b = some (.inl (xt_own z, fs))) (hn : xt_np z = 1) (c1 : a1.category = 1) (hr : (rest.map fun v => v.category).sum ≤ 8) (hdd : d' < d)
    (Cz : xm_S g d' z (xm_entry z [.ref b, a1]) h (xq_r P)) (K : ∀ (v : Option Nat) (h' : xm_H), P v h' → xm_S g d y (pc + 3, ls, va_rf v :: rest) h' Q) : xm_S g d y (pc, ls, a1 :: .ref b :: rest) h Q := by
  cases d with
  | zero => exact absurd hdd (Nat.not_lt_zero _)
  | succ d => exact xr_callV (as := [a1]) (rest := rest) hd hm rfl hb hn.symm (fun v hv => by simp at hv; rcases hv with rfl <;> assumption) hr (Cz.up (Nat.le_of_lt_succ hdd)) (fun r h' e => by obtain ⟨v, rfl, e⟩ := e; exact K v h' e)
theorem xr_V2i {b : Nat} {fs : List Value} {a1 a2 : Value} {P : Int32 → xm_H → Prop} (hd : decode (xt_code y) pc = .ok (.invokevirtual i, 3)) (hm : xm_okV (xt_own y) i z) (hb : h.1 b = some (.inl (xt_own z, fs))) (hn : xt_np z = 2) (c1 : a1.category = 1) (c2 : a2.category = 1) (hr : (rest.map fun v => v.category).sum ≤ 8) (hdd : d' < d)
    (Cz : xm_S g d' z (xm_entry z [.ref b, a1, a2]) h (xq_i P)) (K : ∀ (v : Int32) (h' : xm_H), P v h' → xm_S g d y (pc + 3, ls, .int v :: rest) h' Q) : xm_S g d y (pc, ls, a2 :: a1 :: .ref b :: rest) h Q := by
  cases d with
  | zero => exact absurd hdd (Nat.not_lt_zero _)
  | succ d => exact xr_callV (as := [a1, a2]) (rest := rest) hd hm rfl hb hn.symm (fun v hv => by simp at hv; rcases hv with rfl | rfl <;> assumption) hr (Cz.up (Nat.le_of_lt_succ hdd)) (fun r h' e => by obtain ⟨v, rfl, e⟩ := e; exact K v h' e)
theorem xr_V2v {b : Nat} {fs : List Value} {a1 a2 : Value} {P : xm_H → Prop} (hd : decode (xt_code y) pc = .ok (.invokevirtual i, 3)) (hm : xm_okV (xt_own y) i z) (hb : h.1 b = some (.inl (xt_own z, fs))) (hn : xt_np z = 2) (c1 : a1.category = 1) (c2 : a2.category = 1) (hr : (rest.map fun v => v.category).sum ≤ 8) (hdd : d' < d)
    (Cz : xm_S g d' z (xm_entry z [.ref b, a1, a2]) h (xq_v P)) (K : ∀ h' : xm_H, P h' → xm_S g d y (pc + 3, ls, rest) h' Q) : xm_S g d y (pc, ls, a2 :: a1 :: .ref b :: rest) h Q := by
  cases d with
  | zero => exact absurd hdd (Nat.not_lt_zero _)
  | succ d => exact xr_callV (as := [a1, a2]) (rest := rest) hd hm rfl hb hn.symm (fun v hv => by simp at hv; rcases hv with rfl | rfl <;> assumption) hr (Cz.up (Nat.le_of_lt_succ hdd)) (fun r h' e => by obtain ⟨rfl, e⟩ := e; exact K h' e)
theorem xr_V2r {b : Nat} {fs : List Value} {a1 a2 : Value} {P : Option Nat → xm_H → Prop} (hd : decode (xt_code y) pc = .ok (.invokevirtual i, 3)) (hm : xm_okV (xt_own y) i z) (hb : h.1 b = some (.inl (xt_own z, fs))) (hn : xt_np z = 2) (c1 : a1.category = 1) (c2 : a2.category = 1) (hr : (rest.map fun v => v.category).sum ≤ 8) (hdd : d' < d)
    (Cz : xm_S g d' z (xm_entry z [.ref b, a1, a2]) h (xq_r P)) (K : ∀ (v : Option Nat) (h' : xm_H), P v h' → xm_S g d y (pc + 3, ls, va_rf v :: rest) h' Q) : xm_S g d y (pc, ls, a2 :: a1 :: .ref b :: rest) h Q := by
  cases d with
  | zero => exact absurd hdd (Nat.not_lt_zero _)
  | succ d => exact xr_callV (as := [a1, a2]) (rest := rest) hd hm rfl hb hn.symm (fun v hv => by simp at hv; rcases hv with rfl | rfl <;> assumption) hr (Cz.up (Nat.le_of_lt_succ hdd)) (fun r h' e => by obtain ⟨v, rfl, e⟩ := e; exact K v h' e)
theorem xr_V3i {b : Nat} {fs : List Value} {a1 a2 a3 : Value} {P : Int32 → xm_H → Prop} (hd : decode (xt_code y) pc = .ok (.invokevirtual i, 3)) (hm : xm_okV (xt_own y) i z) (hb : h.1 b = some (.inl (xt_own z, fs))) (hn : xt_np z = 3) (c1 : a1.category = 1) (c2 : a2.category = 1) (c3 : a3.category = 1) (hr : (rest.map fun v => v.category).sum ≤ 8) (hdd : d' < d)
    (Cz : xm_S g d' z (xm_entry z [.ref b, a1, a2, a3]) h (xq_i P)) (K : ∀ (v : Int32) (h' : xm_H), P v h' → xm_S g d y (pc + 3, ls, .int v :: rest) h' Q) : xm_S g d y (pc, ls, a3 :: a2 :: a1 :: .ref b :: rest) h Q := by
  cases d with
  | zero => exact absurd hdd (Nat.not_lt_zero _)
  | succ d => exact xr_callV (as := [a1, a2, a3]) (rest := rest) hd hm rfl hb hn.symm (fun v hv => by simp at hv; rcases hv with rfl | rfl | rfl <;> assumption) hr (Cz.up (Nat.le_of_lt_succ hdd)) (fun r h' e => by obtain ⟨v, rfl, e⟩ := e; exact K v h' e)
theorem xr_V3v {b : Nat} {fs : List Value} {a1 a2 a3 : Value} {P : xm_H → Prop} (hd : decode (xt_code y) pc = .ok (.invokevirtual i, 3)) (hm : xm_okV (xt_own y) i z) (hb : h.1 b = some (.inl (xt_own z, fs))) (hn : xt_np z = 3) (c1 : a1.category = 1) (c2 : a2.category = 1) (c3 : a3.category = 1) (hr : (rest.map fun v => v.category).sum ≤ 8) (hdd : d' < d)
    (Cz : xm_S g d' z (xm_entry z [.ref b, a1, a2, a3]) h (xq_v P)) (K : ∀ h' : xm_H, P h' → xm_S g d y (pc + 3, ls, rest) h' Q) : xm_S g d y (pc, ls, a3 :: a2 :: a1 :: .ref b :: rest) h Q := by
  cases d with
  | zero => exact absurd hdd (Nat.not_lt_zero _)
  | succ d => exact xr_callV (as := [a1, a2, a3]) (rest := rest) hd hm rfl hb hn.symm (fun v hv => by simp at hv; rcases hv with rfl | rfl | rfl <;> assumption) hr (Cz.up (Nat.le_of_lt_succ hdd)) (fun r h' e => by obtain ⟨rfl, e⟩ := e; exact K h' e)
theorem xr_V3r {b : Nat} {fs : List Value} {a1 a2 a3 : Value} {P : Option Nat → xm_H → Prop} (hd : decode (xt_code y) pc = .ok (.invokevirtual i, 3)) (hm : xm_okV (xt_own y) i z) (hb : h.1 b = some (.inl (xt_own z, fs))) (hn : xt_np z = 3) (c1 : a1.category = 1) (c2 : a2.category = 1) (c3 : a3.category = 1) (hr : (rest.map fun v => v.category).sum ≤ 8) (hdd : d' < d)
    (Cz : xm_S g d' z (xm_entry z [.ref b, a1, a2, a3]) h (xq_r P)) (K : ∀ (v : Option Nat) (h' : xm_H), P v h' → xm_S g d y (pc + 3, ls, va_rf v :: rest) h' Q) : xm_S g d y (pc, ls, a3 :: a2 :: a1 :: .ref b :: rest) h Q := by
  cases d with
  | zero => exact absurd hdd (Nat.not_lt_zero _)
  | succ d => exact xr_callV (as := [a1, a2, a3]) (rest := rest) hd hm rfl hb hn.symm (fun v hv => by simp at hv; rcases hv with rfl | rfl | rfl <;> assumption) hr (Cz.up (Nat.le_of_lt_succ hdd)) (fun r h' e => by obtain ⟨v, rfl, e⟩ := e; exact K v h' e)
theorem xr_V4i {b : Nat} {fs : List Value} {a1 a2 a3 a4 : Value} {P : Int32 → xm_H → Prop} (hd : decode (xt_code y) pc = .ok (.invokevirtual i, 3)) (hm : xm_okV (xt_own y) i z) (hb : h.1 b = some (.inl (xt_own z, fs))) (hn : xt_np z = 4) (c1 : a1.category = 1) (c2 : a2.category = 1) (c3 : a3.category = 1) (c4 : a4.category = 1) (hr : (rest.map fun v => v.category).sum ≤ 8) (hdd : d' < d)
    (Cz : xm_S g d' z (xm_entry z [.ref b, a1, a2, a3, a4]) h (xq_i P)) (K : ∀ (v : Int32) (h' : xm_H), P v h' → xm_S g d y (pc + 3, ls, .int v :: rest) h' Q) : xm_S g d y (pc, ls, a4 :: a3 :: a2 :: a1 :: .ref b :: rest) h Q := by
  cases d with
  | zero => exact absurd hdd (Nat.not_lt_zero _)
  | succ d => exact xr_callV (as := [a1, a2, a3, a4]) (rest := rest) hd hm rfl hb hn.symm (fun v hv => by simp at hv; rcases hv with rfl | rfl | rfl | rfl <;> assumption) hr (Cz.up (Nat.le_of_lt_succ hdd)) (fun r h' e => by obtain ⟨v, rfl, e⟩ := e; exact K v h' e)
theorem xr_V4v {b : Nat} {fs : List Value} {a1 a2 a3 a4 : Value} {P : xm_H → Prop} (hd : decode (xt_code y) pc = .ok (.invokevirtual i, 3)) (hm : xm_okV (xt_own y) i z) (hb : h.1 b = some (.inl (xt_own z, fs))) (hn : xt_np z = 4) (c1 : a1.category = 1) (c2 : a2.category = 1) (c3 : a3.category = 1) (c4 : a4.category = 1) (hr : (rest.map fun v => v.category).sum ≤ 8) (hdd : d' < d)
    (Cz : xm_S g d' z (xm_entry z [.ref b, a1, a2, a3, a4]) h (xq_v P)) (K : ∀ h' : xm_H, P h' → xm_S g d y (pc + 3, ls, rest) h' Q) : xm_S g d y (pc, ls, a4 :: a3 :: a2 :: a1 :: .ref b :: rest) h Q := by
  cases d with
  | zero => exact absurd hdd (Nat.not_lt_zero _)
  | succ d => exact xr_callV (as := [a1, a2, a3, a4]) (rest := rest) hd hm rfl hb hn.symm (fun v hv => by simp at hv; rcases hv with rfl | rfl | rfl | rfl <;> assumption) hr (Cz.up (Nat.le_of_lt_succ hdd)) (fun r h' e => by obtain ⟨rfl, e⟩ := e; exact K h' e)
theorem xr_V4r {b : Nat} {fs : List Value} {a1 a2 a3 a4 : Value} {P : Option Nat → xm_H → Prop} (hd : decode (xt_code y) pc = .ok (.invokevirtual i, 3)) (hm : xm_okV (xt_own y) i z) (hb : h.1 b = some (.inl (xt_own z, fs))) (hn : xt_np z = 4) (c1 : a1.category = 1) (c2 : a2.category = 1) (c3 : a3.category = 1) (c4 : a4.category = 1) (hr : (rest.map fun v => v.category).sum ≤ 8) (hdd : d' < d)
    (Cz : xm_S g d' z (xm_entry z [.ref b, a1, a2, a3, a4]) h (xq_r P)) (K : ∀ (v : Option Nat) (h' : xm_H), P v h' → xm_S g d y (pc + 3, ls, va_rf v :: rest) h' Q) : xm_S g d y (pc, ls, a4 :: a3 :: a2 :: a1 :: .ref b :: rest) h Q := by
  cases d with
  | zero => exact absurd hdd (Nat.not_lt_zero _)
  | succ d => exact xr_callV (as := [a1, a2, a3, a4]) (rest := rest) hd hm rfl hb hn.symm (fun v hv => by simp at hv; rcases hv with rfl | rfl | rfl | rfl <;> assumption) hr (Cz.up (Nat.le_of_lt_succ hdd)) (fun r h' e => by obtain ⟨v, rfl, e⟩ := e; exact K v h' e)
theorem xr_V5i {b : Nat} {fs : List Value} {a1 a2 a3 a4 a5 : Value} {P : Int32 → xm_H → Prop} (hd : decode (xt_code y) pc = .ok (.invokevirtual i, 3)) (hm : xm_okV (xt_own y) i z) (hb : h.1 b = some (.inl (xt_own z, fs))) (hn : xt_np z = 5) (c1 : a1.category = 1) (c2 : a2.category = 1) (c3 : a3.category = 1) (c4 : a4.category = 1) (c5 : a5.category = 1) (hr : (rest.map fun v => v.category).sum ≤ 8) (hdd : d' < d)
    (Cz : xm_S g d' z (xm_entry z [.ref b, a1, a2, a3, a4, a5]) h (xq_i P)) (K : ∀ (v : Int32) (h' : xm_H), P v h' → xm_S g d y (pc + 3, ls, .int v :: rest) h' Q) : xm_S g d y (pc, ls, a5 :: a4 :: a3 :: a2 :: a1 :: .ref b :: rest) h Q := by
  cases d with
  | zero => exact absurd hdd (Nat.not_lt_zero _)
  | succ d => exact xr_callV (as := [a1, a2, a3, a4, a5]) (rest := rest) hd hm rfl hb hn.symm (fun v hv => by simp at hv; rcases hv with rfl | rfl | rfl | rfl | rfl <;> assumption) hr (Cz.up (Nat.le_of_lt_succ hdd)) (fun r h' e => by obtain ⟨v, rfl, e⟩ := e; exact K v h' e)
theorem xr_V5v {b : Nat} {fs : List Value} {a1 a2 a3 a4 a5 : Value} {P : xm_H → Prop} (hd : decode (xt_code y) pc = .ok (.invokevirtual i, 3)) (hm : xm_okV (xt_own y) i z) (hb : h.1 b = some (.inl (xt_own z, fs))) (hn : xt_np z = 5) (c1 : a1.category = 1) (c2 : a2.category = 1) (c3 : a3.category = 1) (c4 : a4.category = 1) (c5 : a5.category = 1) (hr : (rest.map fun v => v.category).sum ≤ 8) (hdd : d' < d)
    (Cz : xm_S g d' z (xm_entry z [.ref b, a1, a2, a3, a4, a5]) h (xq_v P)) (K : ∀ h' : xm_H, P h' → xm_S g d y (pc + 3, ls, rest) h' Q) : xm_S g d y (pc, ls, a5 :: a4 :: a3 :: a2 :: a1 :: .ref b :: rest) h Q := by
  cases d with
  | zero => exact absurd hdd (Nat.not_lt_zero _)
  | succ d => exact xr_callV (as := [a1, a2, a3, a4, a5]) (rest := rest) hd hm rfl hb hn.symm (fun v hv => by simp at hv; rcases hv with rfl | rfl | rfl | rfl | rfl <;> assumption) hr (Cz.up (Nat.le_of_lt_succ hdd)) (fun r h' e => by obtain ⟨rfl, e⟩ := e; exact K h' e)
theorem xr_V5r {b : Nat} {fs : List Value} {a1 a2 a3 a4 a5 : Value} {P : Option Nat → xm_H → Prop} (hd : decode (xt_code y) pc = .ok (.invokevirtual i, 3)) (hm : xm_okV (xt_own y) i z) (hb : h.1 b = some (.inl (xt_own z, fs))) (hn : xt_np z = 5) (c1 : a1.category = 1) (c2 : a2.category = 1) (c3 : a3.category = 1) (c4 : a4.category = 1) (c5 : a5.category = 1) (hr : (rest.map fun v => v.category).sum ≤ 8) (hdd : d' < d)
    (Cz : xm_S g d' z (xm_entry z [.ref b, a1, a2, a3, a4, a5]) h (xq_r P)) (K : ∀ (v : Option Nat) (h' : xm_H), P v h' → xm_S g d y (pc + 3, ls, va_rf v :: rest) h' Q) : xm_S g d y (pc, ls, a5 :: a4 :: a3 :: a2 :: a1 :: .ref b :: rest) h Q := by
  cases d with
  | zero => exact absurd hdd (Nat.not_lt_zero _)
  | succ d => exact xr_callV (as := [a1, a2, a3, a4, a5]) (rest := rest) hd hm rfl hb hn.symm (fun v hv => by simp at hv; rcases hv with rfl | rfl | rfl | rfl | rfl <;> assumption) hr (Cz.up (Nat.le_of_lt_succ hdd)) (fun r h' e => by obtain ⟨v, rfl, e⟩ := e; exact K v h' e)
theorem xr_V6i {b : Nat} {fs : List Value} {a1 a2 a3 a4 a5 a6 : Value} {P : Int32 → xm_H → Prop} (hd : decode (xt_code y) pc = .ok (.invokevirtual i, 3)) (hm : xm_okV (xt_own y) i z) (hb : h.1 b = some (.inl (xt_own z, fs))) (hn : xt_np z = 6) (c1 : a1.category = 1) (c2 : a2.category = 1) (c3 : a3.category = 1) (c4 : a4.category = 1) (c5 : a5.category = 1) (c6 : a6.category = 1) (hr : (rest.map fun v => v.category).sum ≤ 8) (hdd : d' < d)
    (Cz : xm_S g d' z (xm_entry z [.ref b, a1, a2, a3, a4, a5, a6]) h (xq_i P)) (K : ∀ (v : Int32) (h' : xm_H), P v h' → xm_S g d y (pc + 3, ls, .int v :: rest) h' Q) : xm_S g d y (pc, ls, a6 :: a5 :: a4 :: a3 :: a2 :: a1 :: .ref b :: rest) h Q := by
  cases d with
  | zero => exact absurd hdd (Nat.not_lt_zero _)
  | succ d => exact xr_callV (as := [a1, a2, a3, a4, a5, a6]) (rest := rest) hd hm rfl hb hn.symm (fun v hv => by simp at hv; rcases hv with rfl | rfl | rfl | rfl | rfl | rfl <;> assumption) hr (Cz.up (Nat.le_of_lt_succ hdd)) (fun r h' e => by obtain ⟨v, rfl, e⟩ := e; exact K v h' e)
theorem xr_V6v {b : Nat} {fs : List Value} {a1 a2 a3 a4 a5 a6 : Value} {P : xm_H → Prop} (hd : decode (xt_code y) pc = .ok (.invokevirtual i, 3)) (hm : xm_okV (xt_own y) i z) (hb : h.1 b = some (.inl (xt_own z, fs))) (hn : xt_np z = 6) (c1 : a1.category = 1) (c2 : a2.category = 1) (c3 : a3.category = 1) (c4 : a4.category = 1) (c5 : a5.category = 1) (c6 : a6.category = 1) (hr : (rest.map fun v => v.category).sum ≤ 8) (hdd : d' < d)
    (Cz : xm_S g d' z (xm_entry z [.ref b, a1, a2, a3, a4, a5, a6]) h (xq_v P)) (K : ∀ h' : xm_H, P h' → xm_S g d y (pc + 3, ls, rest) h' Q) : xm_S g d y (pc, ls, a6 :: a5 :: a4 :: a3 :: a2 :: a1 :: .ref b :: rest) h Q := by
  cases d with
  | zero => exact absurd hdd (Nat.not_lt_zero _)
  | succ d => exact xr_callV (as := [a1, a2, a3, a4, a5, a6]) (rest := rest) hd hm rfl hb hn.symm (fun v hv => by simp at hv; rcases hv with rfl | rfl | rfl | rfl | rfl | rfl <;> assumption) hr (Cz.up (Nat.le_of_lt_succ hdd)) (fun r h' e => by obtain ⟨rfl, e⟩ := e; exact K h' e)
theorem xr_V6r {b : Nat} {fs : List Value} {a1 a2 a3 a4 a5 a6 : Value} {P : Option Nat → xm_H → Prop} (hd : decode (xt_code y) pc = .ok (.invokevirtual i, 3)) (hm : xm_okV (xt_own y) i z) (hb : h.1 b = some (.inl (xt_own z, fs))) (hn : xt_np z = 6) (c1 : a1.category = 1) (c2 : a2.category = 1) (c3 : a3.category = 1) (c4 : a4.category = 1) (c5 : a5.category = 1) (c6 : a6.category = 1) (hr : (rest.map fun v => v.category).sum ≤ 8) (hdd : d' < d)
    (Cz : xm_S g d' z (xm_entry z [.ref b, a1, a2, a3, a4, a5, a6]) h (xq_r P)) (K : ∀ (v : Option Nat) (h' : xm_H), P v h' → xm_S g d y (pc + 3, ls, va_rf v :: rest) h' Q) : xm_S g d y (pc, ls, a6 :: a5 :: a4 :: a3 :: a2 :: a1 :: .ref b :: rest) h Q := by
  cases d with
  | zero => exact absurd hdd (Nat.not_lt_zero _)
  | succ d => exact xr_callV (as := [a1, a2, a3, a4, a5, a6]) (rest := rest) hd hm rfl hb hn.symm (fun v hv => by simp at hv; rcases hv with rfl | rfl | rfl | rfl | rfl | rfl <;> assumption) hr (Cz.up (Nat.le_of_lt_succ hdd)) (fun r h' e => by obtain ⟨v, rfl, e⟩ := e; exact K v h' e)
theorem xr_S0i {P : Int32 → xm_H → Prop} (hd : decode (xt_code y) pc = .ok (.invokestatic i, 3)) (hm : xm_okS (xt_own y) i z) (hn : xt_np z = 0) (hr : (rest.map fun v => v.category).sum ≤ 8) (hdd : d' < d)
    (Cz : xm_S g d' z (xm_entry z []) h (xq_i P)) (K : ∀ (v : Int32) (h' : xm_H), P v h' → xm_S g d y (pc + 3, ls, .int v :: rest) h' Q) : xm_S g d y (pc, ls, rest) h Q := by
  cases d with
  | zero => exact absurd hdd (Nat.not_lt_zero _)
  | succ d => exact xr_callS (as := []) (rest := rest) hd hm rfl hn.symm (fun v hv => by simp at hv) hr (Cz.up (Nat.le_of_lt_succ hdd)) (fun r h' e => by obtain ⟨v, rfl, e⟩ := e; exact K v h' e)
theorem xr_S0v {P : xm_H → Prop} (hd : decode (xt_code y) pc = .ok (.invokestatic i, 3)) (hm : xm_okS (xt_own y) i z) (hn : xt_np z = 0) (hr : (rest.map fun v => v.category).sum ≤ 8) (hdd : d' < d)
    (Cz : xm_S g d' z (xm_entry z []) h (xq_v P)) (K : ∀ h' : xm_H, P h' → xm_S g d y (pc + 3, ls, rest) h' Q) : xm_S g d y (pc, ls, rest) h Q := by
  cases d with
  | zero => exact absurd hdd (Nat.not_lt_zero _)
  | succ d => exact xr_callS (as := []) (rest := rest) hd hm rfl hn.symm (fun v hv => by simp at hv) hr (Cz.up (Nat.le_of_lt_succ hdd)) (fun r h' e => by obtain ⟨rfl, e⟩ := e; exact K h' e)
theorem xr_S0r {P : Option Nat → xm_H → Prop} (hd : decode (xt_code y) pc = .ok (.invokestatic i, 3)) (hm : xm_okS (xt_own y) i z) (hn : xt_np z = 0) (hr : (rest.map fun v => v.category).sum ≤ 8) (hdd : d' < d)
    (Cz : xm_S g d' z (xm_entry z []) h (xq_r P)) (K : ∀ (v : Option Nat) (h' : xm_H), P v h' → xm_S g d y (pc + 3, ls, va_rf v :: rest) h' Q) : xm_S g d y (pc, ls, rest) h Q := by
  cases d with
  | zero => exact absurd hdd (Nat.not_lt_zero _)
  | succ d => exact xr_callS (as := []) (rest := rest) hd hm rfl hn.symm (fun v hv => by simp at hv) hr (Cz.up (Nat.le_of_lt_succ hdd)) (fun r h' e => by obtain ⟨v, rfl, e⟩ := e; exact K v h' e)
theorem xr_S1i {a1 : Value} {P : Int32 → xm_H → Prop} (hd : decode (xt_code y) pc = .ok (.invokestatic i, 3)) (hm : xm_okS (xt_own y) i z) (hn : xt_np z = 1) (c1 : a1.category = 1) (hr : (rest.map fun v => v.category).sum ≤ 8) (hdd : d' < d)
    (Cz : xm_S g d' z (xm_entry z [a1]) h (xq_i P)) (K : ∀ (v : Int32) (h' : xm_H), P v h' → xm_S g d y (pc + 3, ls, .int v :: rest) h' Q) : xm_S g d y (pc, ls, a1 :: rest) h Q := by
  cases d with
  | zero => exact absurd hdd (Nat.not_lt_zero _)
  | succ d => exact xr_callS (as := [a1]) (rest := rest) hd hm rfl hn.symm (fun v hv => by simp at hv; rcases hv with rfl <;> assumption) hr (Cz.up (Nat.le_of_lt_succ hdd)) (fun r h' e => by obtain ⟨v, rfl, e⟩ := e; exact K v h' e)
theorem xr_S1v {a1 : Value} {P : xm_H → Prop} (hd : decode (xt_code y) pc = .ok (.invokestatic i, 3)) (hm : xm_okS (xt_own y) i z) (hn : xt_np z = 1) (c1 : a1.category = 1) (hr : (rest.map fun v => v.category).sum ≤ 8) (hdd : d' < d)
    (Cz : xm_S g d' z (xm_entry z [a1]) h (xq_v P)) (K : ∀ h' : xm_H, P h' → xm_S g d y (pc + 3, ls, rest) h' Q) : xm_S g d y (pc, ls, a1 :: rest) h Q := by
  cases d with
  | zero => exact absurd hdd (Nat.not_lt_zero _)
  | succ d => exact xr_callS (as := [a1]) (rest := rest) hd hm rfl hn.symm (fun v hv => by simp at hv; rcases hv with rfl <;> assumption) hr (Cz.up (Nat.le_of_lt_succ hdd)) (fun r h' e => by obtain ⟨rfl, e⟩ := e; exact K h' e)
theorem xr_S1r {a1 : Value} {P : Option Nat → xm_H → Prop} (hd : decode (xt_code y) pc = .ok (.invokestatic i, 3)) (hm : xm_okS (xt_own y) i z) (hn : xt_np z = 1) (c1 : a1.category = 1) (hr : (rest.map fun v => v.category).sum ≤ 8) (hdd : d' < d)
    (Cz : xm_S g d' z (xm_entry z [a1]) h (xq_r P)) (K : ∀ (v : Option Nat) (h' : xm_H), P v h' → xm_S g d y (pc + 3, ls, va_rf v :: rest) h' Q) : xm_S g d y (pc, ls, a1 :: rest) h Q := by
  cases d with
  | zero => exact absurd hdd (Nat.not_lt_zero _)
  | succ d => exact xr_callS (as := [a1]) (rest := rest) hd hm rfl hn.symm (fun v hv => by simp at hv; rcases hv with rfl <;> assumption) hr (Cz.up (Nat.le_of_lt_succ hdd)) (fun r h' e => by obtain ⟨v, rfl, e⟩ := e; exact K v h' e)
theorem xr_S2i {a1 a2 : Value} {P : Int32 → xm_H → Prop} (hd : decode (xt_code y) pc = .ok (.invokestatic i, 3)) (hm : xm_okS (xt_own y) i z) (hn : xt_np z = 2) (c1 : a1.category = 1) (c2 : a2.category = 1) (hr : (rest.map fun v => v.category).sum ≤ 8) (hdd : d' < d)
    (Cz : xm_S g d' z (xm_entry z [a1, a2]) h (xq_i P)) (K : ∀ (v : Int32) (h' : xm_H), P v h' → xm_S g d y (pc + 3, ls, .int v :: rest) h' Q) : xm_S g d y (pc, ls, a2 :: a1 :: rest) h Q := by
  cases d with
  | zero => exact absurd hdd (Nat.not_lt_zero _)
  | succ d => exact xr_callS (as := [a1, a2]) (rest := rest) hd hm rfl hn.symm (fun v hv => by simp at hv; rcases hv with rfl | rfl <;> assumption) hr (Cz.up (Nat.le_of_lt_succ hdd)) (fun r h' e => by obtain ⟨v, rfl, e⟩ := e; exact K v h' e)
theorem xr_S2v {a1 a2 : Value} {P : xm_H → Prop} (hd : decode (xt_code y) pc = .ok (.invokestatic i, 3)) (hm : xm_okS (xt_own y) i z) (hn : xt_np z = 2) (c1 : a1.category = 1) (c2 : a2.category = 1) (hr : (rest.map fun v => v.category).sum ≤ 8) (hdd : d' < d)
    (Cz : xm_S g d' z (xm_entry z [a1, a2]) h (xq_v P)) (K : ∀ h' : xm_H, P h' → xm_S g d y (pc + 3, ls, rest) h' Q) : xm_S g d y (pc, ls, a2 :: a1 :: rest) h Q := by
  cases d with
  | zero => exact absurd hdd (Nat.not_lt_zero _)
  | succ d => exact xr_callS (as := [a1, a2]) (rest := rest) hd hm rfl hn.symm (fun v hv => by simp at hv; rcases hv with rfl | rfl <;> assumption) hr (Cz.up (Nat.le_of_lt_succ hdd)) (fun r h' e => by obtain ⟨rfl, e⟩ := e; exact K h' e)
theorem xr_S2r {a1 a2 : Value} {P : Option Nat → xm_H → Prop} (hd : decode (xt_code y) pc = .ok (.invokestatic i, 3)) (hm : xm_okS (xt_own y) i z) (hn : xt_np z = 2) (c1 : a1.category = 1) (c2 : a2.category = 1) (hr : (rest.map fun v => v.category).sum ≤ 8) (hdd : d' < d)
    (Cz : xm_S g d' z (xm_entry z [a1, a2]) h (xq_r P)) (K : ∀ (v : Option Nat) (h' : xm_H), P v h' → xm_S g d y (pc + 3, ls, va_rf v :: rest) h' Q) : xm_S g d y (pc, ls, a2 :: a1 :: rest) h Q := by
  cases d with
  | zero => exact absurd hdd (Nat.not_lt_zero _)
  | succ d => exact xr_callS (as := [a1, a2]) (rest := rest) hd hm rfl hn.symm (fun v hv => by simp at hv; rcases hv with rfl | rfl <;> assumption) hr (Cz.up (Nat.le_of_lt_succ hdd)) (fun r h' e => by obtain ⟨v, rfl, e⟩ := e; exact K v h' e)
theorem xr_S3i {a1 a2 a3 : Value} {P : Int32 → xm_H → Prop} (hd : decode (xt_code y) pc = .ok (.invokestatic i, 3)) (hm : xm_okS (xt_own y) i z) (hn : xt_np z = 3) (c1 : a1.category = 1) (c2 : a2.category = 1) (c3 : a3.category = 1) (hr : (rest.map fun v => v.category).sum ≤ 8) (hdd : d' < d)
    (Cz : xm_S g d' z (xm_entry z [a1, a2, a3]) h (xq_i P)) (K : ∀ (v : Int32) (h' : xm_H), P v h' → xm_S g d y (pc + 3, ls, .int v :: rest) h' Q) : xm_S g d y (pc, ls, a3 :: a2 :: a1 :: rest) h Q := by
  cases d with
  | zero => exact absurd hdd (Nat.not_lt_zero _)
  | succ d => exact xr_callS (as := [a1, a2, a3]) (rest := rest) hd hm rfl hn.symm (fun v hv => by simp at hv; rcases hv with rfl | rfl | rfl <;> assumption) hr (Cz.up (Nat.le_of_lt_succ hdd)) (fun r h' e => by obtain ⟨v, rfl, e⟩ := e; exact K v h' e)
theorem xr_S3v {a1 a2 a3 : Value} {P : xm_H → Prop} (hd : decode (xt_code y) pc = .ok (.invokestatic i, 3)) (hm : xm_okS (xt_own y) i z) (hn : xt_np z = 3) (c1 : a1.category = 1) (c2 : a2.category = 1) (c3 : a3.category = 1) (hr : (rest.map fun v => v.category).sum ≤ 8) (hdd : d' < d)
    (Cz : xm_S g d' z (xm_entry z [a1, a2, a3]) h (xq_v P)) (K : ∀ h' : xm_H, P h' → xm_S g d y (pc + 3, ls, rest) h' Q) : xm_S g d y (pc, ls, a3 :: a2 :: a1 :: rest) h Q := by
  cases d with
  | zero => exact absurd hdd (Nat.not_lt_zero _)
  | succ d => exact xr_callS (as := [a1, a2, a3]) (rest := rest) hd hm rfl hn.symm (fun v hv => by simp at hv; rcases hv with rfl | rfl | rfl <;> assumption) hr (Cz.up (Nat.le_of_lt_succ hdd)) (fun r h' e => by obtain ⟨rfl, e⟩ := e; exact K h' e)
theorem xr_S3r {a1 a2 a3 : Value} {P : Option Nat → xm_H → Prop} (hd : decode (xt_code y) pc = .ok (.invokestatic i, 3)) (hm : xm_okS (xt_own y) i z) (hn : xt_np z = 3) (c1 : a1.category = 1) (c2 : a2.category = 1) (c3 : a3.category = 1) (hr : (rest.map fun v => v.category).sum ≤ 8) (hdd : d' < d)
    (Cz : xm_S g d' z (xm_entry z [a1, a2, a3]) h (xq_r P)) (K : ∀ (v : Option Nat) (h' : xm_H), P v h' → xm_S g d y (pc + 3, ls, va_rf v :: rest) h' Q) : xm_S g d y (pc, ls, a3 :: a2 :: a1 :: rest) h Q := by
  cases d with
  | zero => exact absurd hdd (Nat.not_lt_zero _)
  | succ d => exact xr_callS (as := [a1, a2, a3]) (rest := rest) hd hm rfl hn.symm (fun v hv => by simp at hv; rcases hv with rfl | rfl | rfl <;> assumption) hr (Cz.up (Nat.le_of_lt_succ hdd)) (fun r h' e => by obtain ⟨v, rfl, e⟩ := e; exact K v h' e)
theorem xr_S4i {a1 a2 a3 a4 : Value} {P : Int32 → xm_H → Prop} (hd : decode (xt_code y) pc = .ok (.invokestatic i, 3)) (hm : xm_okS (xt_own y) i z) (hn : xt_np z = 4) (c1 : a1.category = 1) (c2 : a2.category = 1) (c3 : a3.category = 1) (c4 : a4.category = 1) (hr : (rest.map fun v => v.category).sum ≤ 8) (hdd : d' < d)
    (Cz : xm_S g d' z (xm_entry z [a1, a2, a3, a4]) h (xq_i P)) (K : ∀ (v : Int32) (h' : xm_H), P v h' → xm_S g d y (pc + 3, ls, .int v :: rest) h' Q) : xm_S g d y (pc, ls, a4 :: a3 :: a2 :: a1 :: rest) h Q := by
  cases d with
  | zero => exact absurd hdd (Nat.not_lt_zero _)
  | succ d => exact xr_callS (as := [a1, a2, a3, a4]) (rest := rest) hd hm rfl hn.symm (fun v hv => by simp at hv; rcases hv with rfl | rfl | rfl | rfl <;> assumption) hr (Cz.up (Nat.le_of_lt_succ hdd)) (fun r h' e => by obtain ⟨v, rfl, e⟩ := e; exact K v h' e)
theorem xr_S4v {a1 a2 a3 a4 : Value} {P : xm_H → Prop} (hd : decode (xt_code y) pc = .ok (.invokestatic i, 3)) (hm : xm_okS (xt_own y) i z) (hn : xt_np z = 4) (c1 : a1.category = 1) (c2 : a2.category = 1) (c3 : a3.category = 1) (c4 : a4.category = 1) (hr : (rest.map fun v => v.category).sum ≤ 8) (hdd : d' < d)
    (Cz : xm_S g d' z (xm_entry z [a1, a2, a3, a4]) h (xq_v P)) (K : ∀ h' : xm_H, P h' → xm_S g d y (pc + 3, ls, rest) h' Q) : xm_S g d y (pc, ls, a4 :: a3 :: a2 :: a1 :: rest) h Q := by
  cases d with
  | zero => exact absurd hdd (Nat.not_lt_zero _)
  | succ d => exact xr_callS (as := [a1, a2, a3, a4]) (rest := rest) hd hm rfl hn.symm (fun v hv => by simp at hv; rcases hv with rfl | rfl | rfl | rfl <;> assumption) hr (Cz.up (Nat.le_of_lt_succ hdd)) (fun r h' e => by obtain ⟨rfl, e⟩ := e; exact K h' e)
theorem xr_S4r {a1 a2 a3 a4 : Value} {P : Option Nat → xm_H → Prop} (hd : decode (xt_code y) pc = .ok (.invokestatic i, 3)) (hm : xm_okS (xt_own y) i z) (hn : xt_np z = 4) (c1 : a1.category = 1) (c2 : a2.category = 1) (c3 : a3.category = 1) (c4 : a4.category = 1) (hr : (rest.map fun v => v.category).sum ≤ 8) (hdd : d' < d)
    (Cz : xm_S g d' z (xm_entry z [a1, a2, a3, a4]) h (xq_r P)) (K : ∀ (v : Option Nat) (h' : xm_H), P v h' → xm_S g d y (pc + 3, ls, va_rf v :: rest) h' Q) : xm_S g d y (pc, ls, a4 :: a3 :: a2 :: a1 :: rest) h Q := by
  cases d with
  | zero => exact absurd hdd (Nat.not_lt_zero _)
  | succ d => exact xr_callS (as := [a1, a2, a3, a4]) (rest := rest) hd hm rfl hn.symm (fun v hv => by simp at hv; rcases hv with rfl | rfl | rfl | rfl <;> assumption) hr (Cz.up (Nat.le_of_lt_succ hdd)) (fun r h' e => by obtain ⟨v, rfl, e⟩ := e; exact K v h' e)
theorem xr_S5i {a1 a2 a3 a4 a5 : Value} {P : Int32 → xm_H → Prop} (hd : decode (xt_code y) pc = .ok (.invokestatic i, 3)) (hm : xm_okS (xt_own y) i z) (hn : xt_np z = 5) (c1 : a1.category = 1) (c2 : a2.category = 1) (c3 : a3.category = 1) (c4 : a4.category = 1) (c5 : a5.category = 1) (hr : (rest.map fun v => v.category).sum ≤ 8) (hdd : d' < d)
    (Cz : xm_S g d' z (xm_entry z [a1, a2, a3, a4, a5]) h (xq_i P)) (K : ∀ (v : Int32) (h' : xm_H), P v h' → xm_S g d y (pc + 3, ls, .int v :: rest) h' Q) : xm_S g d y (pc, ls, a5 :: a4 :: a3 :: a2 :: a1 :: rest) h Q := by
  cases d with
  | zero => exact absurd hdd (Nat.not_lt_zero _)
  | succ d => exact xr_callS (as := [a1, a2, a3, a4, a5]) (rest := rest) hd hm rfl hn.symm (fun v hv => by simp at hv; rcases hv with rfl | rfl | rfl | rfl | rfl <;> assumption) hr (Cz.up (Nat.le_of_lt_succ hdd)) (fun r h' e => by obtain ⟨v, rfl, e⟩ := e; exact K v h' e)
theorem xr_S5v {a1 a2 a3 a4 a5 : Value} {P : xm_H → Prop} (hd : decode (xt_code y) pc = .ok (.invokestatic i, 3)) (hm : xm_okS (xt_own y) i z) (hn : xt_np z = 5) (c1 : a1.category = 1) (c2 : a2.category = 1) (c3 : a3.category = 1) (c4 : a4.category = 1) (c5 : a5.category = 1) (hr : (rest.map fun v => v.category).sum ≤ 8) (hdd : d' < d)
    (Cz : xm_S g d' z (xm_entry z [a1, a2, a3, a4, a5]) h (xq_v P)) (K : ∀ h' : xm_H, P h' → xm_S g d y (pc + 3, ls, rest) h' Q) : xm_S g d y (pc, ls, a5 :: a4 :: a3 :: a2 :: a1 :: rest) h Q := by
  cases d with
  | zero => exact absurd hdd (Nat.not_lt_zero _)
  | succ d => exact xr_callS (as := [a1, a2, a3, a4, a5]) (rest := rest) hd hm rfl hn.symm (fun v hv => by simp at hv; rcases hv with rfl | rfl | rfl | rfl | rfl <;> assumption) hr (Cz.up (Nat.le_of_lt_succ hdd)) (fun r h' e => by obtain ⟨rfl, e⟩ := e; exact K h' e)
theorem xr_S5r {a1 a2 a3 a4 a5 : Value} {P : Option Nat → xm_H → Prop} (hd : decode (xt_code y) pc = .ok (.invokestatic i, 3)) (hm : xm_okS (xt_own y) i z) (hn : xt_np z = 5) (c1 : a1.category = 1) (c2 : a2.category = 1) (c3 : a3.category = 1) (c4 : a4.category = 1) (c5 : a5.category = 1) (hr : (rest.map fun v => v.category).sum ≤ 8) (hdd : d' < d)
    (Cz : xm_S g d' z (xm_entry z [a1, a2, a3, a4, a5]) h (xq_r P)) (K : ∀ (v : Option Nat) (h' : xm_H), P v h' → xm_S g d y (pc + 3, ls, va_rf v :: rest) h' Q) : xm_S g d y (pc, ls, a5 :: a4 :: a3 :: a2 :: a1 :: rest) h Q := by
  cases d with
  | zero => exact absurd hdd (Nat.not_lt_zero _)
  | succ d => exact xr_callS (as := [a1, a2, a3, a4, a5]) (rest := rest) hd hm rfl hn.symm (fun v hv => by simp at hv; rcases hv with rfl | rfl | rfl | rfl | rfl <;> assumption) hr (Cz.up (Nat.le_of_lt_succ hdd)) (fun r h' e => by obtain ⟨v, rfl, e⟩ := e; exact K v h' e)
theorem xr_S6i {a1 a2 a3 a4 a5 a6 : Value} {P : Int32 → xm_H → Prop} (hd : decode (xt_code y) pc = .ok (.invokestatic i, 3)) (hm : xm_okS (xt_own y) i z) (hn : xt_np z = 6) (c1 : a1.category = 1) (c2 : a2.category = 1) (c3 : a3.category = 1) (c4 : a4.category = 1) (c5 : a5.category = 1) (c6 : a6.category = 1) (hr : (rest.map fun v => v.category).sum ≤ 8) (hdd : d' < d)
    (Cz : xm_S g d' z (xm_entry z [a1, a2, a3, a4, a5, a6]) h (xq_i P)) (K : ∀ (v : Int32) (h' : xm_H), P v h' → xm_S g d y (pc + 3, ls, .int v :: rest) h' Q) : xm_S g d y (pc, ls, a6 :: a5 :: a4 :: a3 :: a2 :: a1 :: rest) h Q := by
  cases d with
  | zero => exact absurd hdd (Nat.not_lt_zero _)
  | succ d => exact xr_callS (as := [a1, a2, a3, a4, a5, a6]) (rest := rest) hd hm rfl hn.symm (fun v hv => by simp at hv; rcases hv with rfl | rfl | rfl | rfl | rfl | rfl <;> assumption) hr (Cz.up (Nat.le_of_lt_succ hdd)) (fun r h' e => by obtain ⟨v, rfl, e⟩ := e; exact K v h' e)
theorem xr_S6v {a1 a2 a3 a4 a5 a6 : Value} {P : xm_H → Prop} (hd : decode (xt_code y) pc = .ok (.invokestatic i, 3)) (hm : xm_okS (xt_own y) i z) (hn : xt_np z = 6) (c1 : a1.category = 1) (c2 : a2.category = 1) (c3 : a3.category = 1) (c4 : a4.category = 1) (c5 : a5.category = 1) (c6 : a6.category = 1) (hr : (rest.map fun v => v.category).sum ≤ 8) (hdd : d' < d)
    (Cz : xm_S g d' z (xm_entry z [a1, a2, a3, a4, a5, a6]) h (xq_v P)) (K : ∀ h' : xm_H, P h' → xm_S g d y (pc + 3, ls, rest) h' Q) : xm_S g d y (pc, ls, a6 :: a5 :: a4 :: a3 :: a2 :: a1 :: rest) h Q := by
  cases d with
  | zero => exact absurd hdd (Nat.not_lt_zero _)
  | succ d => exact xr_callS (as := [a1, a2, a3, a4, a5, a6]) (rest := rest) hd hm rfl hn.symm (fun v hv => by simp at hv; rcases hv with rfl | rfl | rfl | rfl | rfl | rfl <;> assumption) hr (Cz.up (Nat.le_of_lt_succ hdd)) (fun r h' e => by obtain ⟨rfl, e⟩ := e; exact K h' e)
theorem xr_S6r {a1 a2 a3 a4 a5 a6 : Value} {P : Option Nat → xm_H → Prop} (hd : decode (xt_code y) pc = .ok (.invokestatic i, 3)) (hm : xm_okS (xt_own y) i z) (hn : xt_np z = 6) (c1 : a1.category = 1) (c2 : a2.category = 1) (c3 : a3.category = 1) (c4 : a4.category = 1) (c5 : a5.category = 1) (c6 : a6.category = 1) (hr : (rest.map fun v => v.category).sum ≤ 8) (hdd : d' < d)
    (Cz : xm_S g d' z (xm_entry z [a1, a2, a3, a4, a5, a6]) h (xq_r P)) (K : ∀ (v : Option Nat) (h' : xm_H), P v h' → xm_S g d y (pc + 3, ls, va_rf v :: rest) h' Q) : xm_S g d y (pc, ls, a6 :: a5 :: a4 :: a3 :: a2 :: a1 :: rest) h Q := by
  cases d with
  | zero => exact absurd hdd (Nat.not_lt_zero _)
  | succ d => exact xr_callS (as := [a1, a2, a3, a4, a5, a6]) (rest := rest) hd hm rfl hn.symm (fun v hv => by simp at hv; rcases hv with rfl | rfl | rfl | rfl | rfl | rfl <;> assumption) hr (Cz.up (Nat.le_of_lt_succ hdd)) (fun r h' e => by obtain ⟨v, rfl, e⟩ := e; exact K v h' e)
theorem xr_I0v {b : Nat} {P : xm_H → Prop} (hd : decode (xt_code y) pc = .ok (.invokespecial i, 3)) (hm : xm_okI (xt_own y) i z) (hn : xt_np z = 0) (hr : (rest.map fun v => v.category).sum ≤ 8) (hdd : d' < d)
    (Cz : xm_S g d' z (xm_entry z [.ref b]) h (xq_v P)) (K : ∀ h' : xm_H, P h' → xm_S g d y (pc + 3, ls, rest) h' Q) : xm_S g d y (pc, ls, .ref b :: rest) h Q := by
  cases d with
  | zero => exact absurd hdd (Nat.not_lt_zero _)
  | succ d => exact xr_callI (as := []) (rest := rest) hd hm rfl hn.symm (fun v hv => by simp at hv) hr (Cz.up (Nat.le_of_lt_succ hdd)) (fun r h' e => by obtain ⟨rfl, e⟩ := e; exact K h' e)
theorem xr_I1v {b : Nat} {a1 : Value} {P : xm_H → Prop} (hd : decode (xt_code y) pc = .ok (.invokespecial i, 3)) (hm : xm_okI (xt_own y) i z) (hn : xt_np z = 1) (c1 : a1.category = 1) (hr : (rest.map fun v => v.category).sum ≤ 8) (hdd : d' < d)
    (Cz : xm_S g d' z (xm_entry z [.ref b, a1]) h (xq_v P)) (K : ∀ h' : xm_H, P h' → xm_S g d y (pc + 3, ls, rest) h' Q) : xm_S g d y (pc, ls, a1 :: .ref b :: rest) h Q := by
  cases d with
  | zero => exact absurd hdd (Nat.not_lt_zero _)
  | succ d => exact xr_callI (as := [a1]) (rest := rest) hd hm rfl hn.symm (fun v hv => by simp at hv; rcases hv with rfl <;> assumption) hr (Cz.up (Nat.le_of_lt_succ hdd)) (fun r h' e => by obtain ⟨rfl, e⟩ := e; exact K h' e)
theorem xr_I2v {b : Nat} {a1 a2 : Value} {P : xm_H → Prop} (hd : decode (xt_code y) pc = .ok (.invokespecial i, 3)) (hm : xm_okI (xt_own y) i z) (hn : xt_np z = 2) (c1 : a1.category = 1) (c2 : a2.category = 1) (hr : (rest.map fun v => v.category).sum ≤ 8) (hdd : d' < d)
    (Cz : xm_S g d' z (xm_entry z [.ref b, a1, a2]) h (xq_v P)) (K : ∀ h' : xm_H, P h' → xm_S g d y (pc + 3, ls, rest) h' Q) : xm_S g d y (pc, ls, a2 :: a1 :: .ref b :: rest) h Q := by
  cases d with
  | zero => exact absurd hdd (Nat.not_lt_zero _)
  | succ d => exact xr_callI (as := [a1, a2]) (rest := rest) hd hm rfl hn.symm (fun v hv => by simp at hv; rcases hv with rfl | rfl <;> assumption) hr (Cz.up (Nat.le_of_lt_succ hdd)) (fun r h' e => by obtain ⟨rfl, e⟩ := e; exact K h' e)
theorem xr_I3v {b : Nat} {a1 a2 a3 : Value} {P : xm_H → Prop} (hd : decode (xt_code y) pc = .ok (.invokespecial i, 3)) (hm : xm_okI (xt_own y) i z) (hn : xt_np z = 3) (c1 : a1.category = 1) (c2 : a2.category = 1) (c3 : a3.category = 1) (hr : (rest.map fun v => v.category).sum ≤ 8) (hdd : d' < d)
    (Cz : xm_S g d' z (xm_entry z [.ref b, a1, a2, a3]) h (xq_v P)) (K : ∀ h' : xm_H, P h' → xm_S g d y (pc + 3, ls, rest) h' Q) : xm_S g d y (pc, ls, a3 :: a2 :: a1 :: .ref b :: rest) h Q := by
  cases d with
  | zero => exact absurd hdd (Nat.not_lt_zero _)
  | succ d => exact xr_callI (as := [a1, a2, a3]) (rest := rest) hd hm rfl hn.symm (fun v hv => by simp at hv; rcases hv with rfl | rfl | rfl <;> assumption) hr (Cz.up (Nat.le_of_lt_succ hdd)) (fun r h' e => by obtain ⟨rfl, e⟩ := e; exact K h' e)
theorem xr_I4v {b : Nat} {a1 a2 a3 a4 : Value} {P : xm_H → Prop} (hd : decode (xt_code y) pc = .ok (.invokespecial i, 3)) (hm : xm_okI (xt_own y) i z) (hn : xt_np z = 4) (c1 : a1.category = 1) (c2 : a2.category = 1) (c3 : a3.category = 1) (c4 : a4.category = 1) (hr : (rest.map fun v => v.category).sum ≤ 8) (hdd : d' < d)
    (Cz : xm_S g d' z (xm_entry z [.ref b, a1, a2, a3, a4]) h (xq_v P)) (K : ∀ h' : xm_H, P h' → xm_S g d y (pc + 3, ls, rest) h' Q) : xm_S g d y (pc, ls, a4 :: a3 :: a2 :: a1 :: .ref b :: rest) h Q := by
  cases d with
  | zero => exact absurd hdd (Nat.not_lt_zero _)
  | succ d => exact xr_callI (as := [a1, a2, a3, a4]) (rest := rest) hd hm rfl hn.symm (fun v hv => by simp at hv; rcases hv with rfl | rfl | rfl | rfl <;> assumption) hr (Cz.up (Nat.le_of_lt_succ hdd)) (fun r h' e => by obtain ⟨rfl, e⟩ := e; exact K h' e)
theorem xr_I5v {b : Nat} {a1 a2 a3 a4 a5 : Value} {P : xm_H → Prop} (hd : decode (xt_code y) pc = .ok (.invokespecial i, 3)) (hm : xm_okI (xt_own y) i z) (hn : xt_np z = 5) (c1 : a1.category = 1) (c2 : a2.category = 1) (c3 : a3.category = 1) (c4 : a4.category = 1) (c5 : a5.category = 1) (hr : (rest.map fun v => v.category).sum ≤ 8) (hdd : d' < d)
    (Cz : xm_S g d' z (xm_entry z [.ref b, a1, a2, a3, a4, a5]) h (xq_v P)) (K : ∀ h' : xm_H, P h' → xm_S g d y (pc + 3, ls, rest) h' Q) : xm_S g d y (pc, ls, a5 :: a4 :: a3 :: a2 :: a1 :: .ref b :: rest) h Q := by
  cases d with
  | zero => exact absurd hdd (Nat.not_lt_zero _)
  | succ d => exact xr_callI (as := [a1, a2, a3, a4, a5]) (rest := rest) hd hm rfl hn.symm (fun v hv => by simp at hv; rcases hv with rfl | rfl | rfl | rfl | rfl <;> assumption) hr (Cz.up (Nat.le_of_lt_succ hdd)) (fun r h' e => by obtain ⟨rfl, e⟩ := e; exact K h' e)
theorem xr_I6v {b : Nat} {a1 a2 a3 a4 a5 a6 : Value} {P : xm_H → Prop} (hd : decode (xt_code y) pc = .ok (.invokespecial i, 3)) (hm : xm_okI (xt_own y) i z) (hn : xt_np z = 6) (c1 : a1.category = 1) (c2 : a2.category = 1) (c3 : a3.category = 1) (c4 : a4.category = 1) (c5 : a5.category = 1) (c6 : a6.category = 1) (hr : (rest.map fun v => v.category).sum ≤ 8) (hdd : d' < d)
    (Cz : xm_S g d' z (xm_entry z [.ref b, a1, a2, a3, a4, a5, a6]) h (xq_v P)) (K : ∀ h' : xm_H, P h' → xm_S g d y (pc + 3, ls, rest) h' Q) : xm_S g d y (pc, ls, a6 :: a5 :: a4 :: a3 :: a2 :: a1 :: .ref b :: rest) h Q := by
  cases d with
  | zero => exact absurd hdd (Nat.not_lt_zero _)
  | succ d => exact xr_callI (as := [a1, a2, a3, a4, a5, a6]) (rest := rest) hd hm rfl hn.symm (fun v hv => by simp at hv; rcases hv with rfl | rfl | rfl | rfl | rfl | rfl <;> assumption) hr (Cz.up (Nat.le_of_lt_succ hdd)) (fun r h' e => by obtain ⟨rfl, e⟩ := e; exact K h' e)
end XCalls
