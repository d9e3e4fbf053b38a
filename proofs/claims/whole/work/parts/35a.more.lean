/-! the object's own numbers; what a runner has, by cases -/
section KRows2
variable {g : xm_G} {d pc : Nat} {y : xm_M} {ls : List (Option Value)} {st : List Value} {h : xm_H} {Q : Option Value → xm_H → Prop} {c m : kS} {R : Nat → Option Nat} {A : kA} {i : Nat}
theorem kd_other_S {t : Int32 × Int32} (k i : Nat) (hn : ¬ (k = 0 ∧ i = 0)) : kd (c.1, t, kF c) R m A k i = kd c R m A k i := by
  match k with
  | 0 =>
    match i with
    | 0 => exact absurd ⟨rfl, rfl⟩ hn
    | 1 => rfl
    | 2 => rfl
    | i + 3 => rfl
  | 1 => rfl
  | 2 => rfl
  | 3 => rfl
  | 4 => rfl
  | 5 => rfl
  | 6 => rfl
  | k + 7 => rfl
theorem kr_pclk {v : Int32} (hW : kW c R m A h) (hd : decode (xt_code y) pc = .ok (.putfield i, 3)) (hf : xm_okF (xt_own y) i 4 6) (K : ∀ h' : xm_H, kW (c.1, (v, kl c), kF c) R m A h' → h'.2 = h.2 → xm_S g d y (pc + 3, ls, st) h' Q) : xm_S g d y (pc, ls, .int v :: .ref (A 0 0) :: st) h Q := by
  refine xr_putf hd hf hW.this rfl rfl rfl ?_
  exact K _ (hW.put (k0 := 0) (i0 := 0) (show 0 < 4 by decide) rfl rfl kd_other_S) rfl
theorem kr_plst {v : Int32} (hW : kW c R m A h) (hd : decode (xt_code y) pc = .ok (.putfield i, 3)) (hf : xm_okF (xt_own y) i 4 7) (K : ∀ h' : xm_H, kW (c.1, (kc c, v), kF c) R m A h' → h'.2 = h.2 → xm_S g d y (pc + 3, ls, st) h' Q) : xm_S g d y (pc, ls, .int v :: .ref (A 0 0) :: st) h Q := by
  refine xr_putf hd hf hW.this rfl rfl rfl ?_
  exact K _ (hW.put (k0 := 0) (i0 := 0) (show 0 < 4 by decide) rfl rfl kd_other_S) rfl
end KRows2
theorem kW.rnrN {c : kS} {R : Nat → Option Nat} {m : kS} {A : kA} {h : xm_H} (hW : kW c R m A h) {u : Nat} (hu : u < kr c) (e : kF c 19 u = -1) : h.1 (A 2 u) = some (.inl (2, [.int (nI u), .int (kF c 17 u), .int (kF c 18 u), .null])) := by
  have q := hW.rnr hu
  rw [e] at q
  exact q
theorem kW.rnrS {c : kS} {R : Nat → Option Nat} {m : kS} {A : kA} {h : xm_H} (hW : kW c R m A h) {u x : Nat} (hu : u < kr c) (hx : x < 2 ^ 31) (e : kF c 19 u = nI x) : h.1 (A 2 u) = some (.inl (2, [.int (nI u), .int (kF c 17 u), .int (kF c 18 u), .ref (A 5 x)])) := by
  have q := hW.rnr hu
  rw [e, khx_nI hx] at q
  exact q
theorem kI.clk {s : kS} {R : Nat → Option Nat} (h : kI s R) (t : Int32 × Int32) : kI (s.1, t, kF s) R := h
theorem kI8.clk {s : kS} (h : kI8 s) (t : Int32 × Int32) : kI8 (s.1, t, kF s) := h
theorem nI_ne {x : Nat} (hx : x < 2 ^ 31) : ¬ nI x = -1 := fun e => by
  have h2 := nI_toInt hx
  rw [e, ti_m1] at h2
  omega
