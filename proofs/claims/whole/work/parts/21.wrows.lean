/-! rows of the world: a field of the system is written, an element read, and the numbers follow -/
section KRows
variable {g : xm_G} {d pc : Nat} {y : xm_M} {ls : List (Option Value)} {st : List Value} {h : xm_H} {Q : Option Value → xm_H → Prop} {c m : kS} {R : Nat → Option Nat} {A : kA} {i : Nat}
def ktk (f : Nat) : Nat := match f with
  | 9 => 3
  | 10 => 5
  | 16 => 6
  | 15 => 7
  | 11 => 8
  | 13 => 9
  | _ => 10
theorem kd_other_t {f x : Nat} {v : Int32} (hf : 9 ≤ f ∧ f ≤ 16) (k i : Nat) (hn : ¬ (k = 5 ∧ i = x)) : kd (kw c f x v) R m A k i = kd c R m A k i := by
  match k with
  | 0 => rfl
  | 1 => simp only [kd, kd1, kw_F]; rw [if_neg (by omega), if_neg (by omega), if_neg (by omega), if_neg (by omega), if_neg (by omega), if_neg (by omega)]
  | 2 => simp only [kd, kd2, kw_F]; rw [if_neg (by omega), if_neg (by omega), if_neg (by omega)]
  | 3 => simp only [kd, kd3, kw_F]; rw [if_neg (by omega), if_neg (by omega), if_neg (by omega)]
  | 4 => rfl
  | 5 =>
    have hi : ¬ i = x := fun e => hn ⟨rfl, e⟩
    simp [kd, kd5, kw_F, hi]
  | 6 => rfl
  | k + 7 => rfl
theorem kr_pt {f x : Nat} {v : Int32} (hW : kW c R m A h) (hx : x < 12 * kq c ∧ x % 12 < kj c) (hd : decode (xt_code y) pc = .ok (.putfield i, 3)) (hf : xm_okF (xt_own y) i 3 (ktk f)) (hff : f = 9 ∨ f = 10 ∨ f = 11 ∨ f = 12 ∨ f = 13 ∨ f = 15 ∨ f = 16) (K : ∀ h' : xm_H, kW (kw c f x v) R m A h' → h'.2 = h.2 → xm_S g d y (pc + 3, ls, st) h' Q) : xm_S g d y (pc, ls, .int v :: .ref (A 5 x) :: st) h Q := by
  have ho := kd_other_t (c := c) (R := R) (m := m) (A := A) (f := f) (x := x) (v := v) (by omega)
  rcases hff with rfl | rfl | rfl | rfl | rfl | rfl | rfl <;>
  · refine xr_putf hd hf (hW.tsk hx) rfl rfl rfl ?_
    exact K _ (hW.put (k0 := 5) (i0 := x) hx rfl (by simp [kd, kd5, kw_F, ktk, List.set]) ho) rfl
theorem kr_plost {x : Nat} {v w : Int32} (hW : kW c R m A h) (hx : x < 12 * kq c ∧ x % 12 < kj c) (hd : decode (xt_code y) pc = .ok (.putfield i, 3)) (hf : xm_okF (xt_own y) i 3 11) (hw : kbz w = v) (K : ∀ h' : xm_H, kW (kw c 14 x w) R m A h' → h'.2 = h.2 → xm_S g d y (pc + 3, ls, st) h' Q) : xm_S g d y (pc, ls, .int v :: .ref (A 5 x) :: st) h Q := by
  have ho := kd_other_t (c := c) (R := R) (m := m) (A := A) (f := 14) (x := x) (v := w) (by omega)
  have hv : v = 0 ∨ v = 1 := by
    unfold kbz at hw
    split at hw
    · exact Or.inl hw.symm
    · exact Or.inr hw.symm
  refine xr_putf hd hf (hW.tsk hx) rfl (by rcases hv with rfl | rfl <;> rfl) (by rcases hv with rfl | rfl <;> rfl) ?_
  exact K _ (hW.put (k0 := 5) (i0 := x) hx rfl (by simp [kd, kd5, kw_F, hw, List.set]) ho) rfl
/-- a task's runner -/
theorem kd_other_R {x : Nat} {v : Option Nat} (k i : Nat) (hn : ¬ (k = 5 ∧ i = x)) : kd c (up1 R x v) m A k i = kd c R m A k i := by
  match k with
  | 0 => rfl
  | 1 => rfl
  | 2 => rfl
  | 3 => rfl
  | 4 => rfl
  | 5 =>
    have hi : ¬ i = x := fun e => hn ⟨rfl, e⟩
    simp [kd, kd5, up1, hi]
  | 6 => rfl
  | k + 7 => rfl
theorem kr_prunN {x : Nat} (hW : kW c R m A h) (hx : x < 12 * kq c ∧ x % 12 < kj c) (hd : decode (xt_code y) pc = .ok (.putfield i, 3)) (hf : xm_okF (xt_own y) i 3 4) (K : ∀ h' : xm_H, kW c (up1 R x none) m A h' → h'.2 = h.2 → xm_S g d y (pc + 3, ls, st) h' Q) : xm_S g d y (pc, ls, .null :: .ref (A 5 x) :: st) h Q := by
  refine xr_putf hd hf (hW.tsk hx) rfl rfl rfl ?_
  exact K _ (hW.put (k0 := 5) (i0 := x) hx rfl (by simp [kd, kd5, up1, va_rf, List.set]) (fun k i => kd_other_R k i)) rfl
theorem kr_prun {x u : Nat} (hW : kW c R m A h) (hx : x < 12 * kq c ∧ x % 12 < kj c) (hd : decode (xt_code y) pc = .ok (.putfield i, 3)) (hf : xm_okF (xt_own y) i 3 4) (K : ∀ h' : xm_H, kW c (up1 R x (some u)) m A h' → h'.2 = h.2 → xm_S g d y (pc + 3, ls, st) h' Q) : xm_S g d y (pc, ls, .ref (A 2 u) :: .ref (A 5 x) :: st) h Q := by
  refine xr_putf hd hf (hW.tsk hx) rfl rfl rfl ?_
  exact K _ (hW.put (k0 := 5) (i0 := x) hx rfl (by simp [kd, kd5, up1, va_rf, List.set]) (fun k i => kd_other_R k i)) rfl
/-- a runner's fields -/
theorem kd_other_u {f u : Nat} {v : Int32} (hf : 17 ≤ f ∧ f ≤ 19) (k i : Nat) (hn : ¬ (k = 2 ∧ i = u)) : kd (kw c f u v) R m A k i = kd c R m A k i := by
  match k with
  | 0 => rfl
  | 1 => simp only [kd, kd1, kw_F]; rw [if_neg (by omega), if_neg (by omega), if_neg (by omega), if_neg (by omega), if_neg (by omega), if_neg (by omega)]
  | 2 =>
    have hi : ¬ i = u := fun e => hn ⟨rfl, e⟩
    simp [kd, kd2, kw_F, hi]
  | 3 => simp only [kd, kd3, kw_F]; rw [if_neg (by omega), if_neg (by omega), if_neg (by omega)]
  | 4 => rfl
  | 5 => simp only [kd, kd5, kw_F]; rw [if_neg (by omega), if_neg (by omega), if_neg (by omega), if_neg (by omega), if_neg (by omega), if_neg (by omega), if_neg (by omega), if_neg (by omega)]
  | 6 => rfl
  | k + 7 => rfl
theorem kr_pbeat {u : Nat} {v : Int32} (hW : kW c R m A h) (hu : u < kr c) (hd : decode (xt_code y) pc = .ok (.putfield i, 3)) (hf : xm_okF (xt_own y) i 2 2) (K : ∀ h' : xm_H, kW (kw c 18 u v) R m A h' → h'.2 = h.2 → xm_S g d y (pc + 3, ls, st) h' Q) : xm_S g d y (pc, ls, .int v :: .ref (A 2 u) :: st) h Q := by
  refine xr_putf hd hf (hW.rnr hu) rfl rfl rfl ?_
  exact K _ (hW.put (k0 := 2) (i0 := u) hu rfl (by simp [kd, kd2, kw_F, List.set]) (kd_other_u (by omega))) rfl
theorem kr_phasN {u : Nat} (hW : kW c R m A h) (hu : u < kr c) (hd : decode (xt_code y) pc = .ok (.putfield i, 3)) (hf : xm_okF (xt_own y) i 2 3) (K : ∀ h' : xm_H, kW (kw c 19 u (-1)) R m A h' → h'.2 = h.2 → xm_S g d y (pc + 3, ls, st) h' Q) : xm_S g d y (pc, ls, .null :: .ref (A 2 u) :: st) h Q := by
  refine xr_putf hd hf (hW.rnr hu) rfl rfl rfl ?_
  exact K _ (hW.put (k0 := 2) (i0 := u) hu rfl (by simp [kd, kd2, kw_F, khx, va_rf, List.set]) (kd_other_u (by omega))) rfl
theorem khx_nI {x : Nat} (hx : x < 2 ^ 31) : khx (nI x) = some x := by
  have h1 : ¬ nI x = -1 := fun e => by
    have h2 := nI_toInt hx
    rw [e] at h2
    have h3 : (-1 : Int32).toInt = -1 := by decide
    omega
  unfold khx
  rw [if_neg h1, nI_clamp hx]
theorem kr_phas {u x : Nat} (hW : kW c R m A h) (hu : u < kr c) (hx : x < 2 ^ 31) (hd : decode (xt_code y) pc = .ok (.putfield i, 3)) (hf : xm_okF (xt_own y) i 2 3) (K : ∀ h' : xm_H, kW (kw c 19 u (nI x)) R m A h' → h'.2 = h.2 → xm_S g d y (pc + 3, ls, st) h' Q) : xm_S g d y (pc, ls, .ref (A 5 x) :: .ref (A 2 u) :: st) h Q := by
  refine xr_putf hd hf (hW.rnr hu) rfl rfl rfl ?_
  exact K _ (hW.put (k0 := 2) (i0 := u) hu rfl (by simp [kd, kd2, kw_F, khx_nI hx, va_rf, List.set]) (kd_other_u (by omega))) rfl
/-- a run's flag, a job's needs -/
theorem kr_pcan {r : Nat} {v : Int32} (hW : kW c R m A h) (hr : r < kq c) (hd : decode (xt_code y) pc = .ok (.putfield i, 3)) (hf : xm_okF (xt_own y) i 1 4) (hv : v = 1) (K : ∀ h' : xm_H, kW (kw c 8 r v) R m A h' → h'.2 = h.2 → xm_S g d y (pc + 3, ls, st) h' Q) : xm_S g d y (pc, ls, .int v :: .ref (A 3 r) :: st) h Q := by
  subst hv
  refine xr_putf hd hf (hW.run hr) rfl rfl rfl ?_
  refine K _ (hW.put (k0 := 3) (i0 := r) hr rfl (by simp [kd, kd3, kw_F, List.set]) (fun k i hn => ?_)) rfl
  match k with
  | 0 => rfl
  | 1 => simp [kd, kd1, kw_F]
  | 2 => simp [kd, kd2, kw_F]
  | 3 =>
    have hi : ¬ i = r := fun e => hn ⟨rfl, e⟩
    simp [kd, kd3, kw_F, hi]
  | 4 => rfl
  | 5 => simp [kd, kd5, kw_F]
  | 6 => rfl
  | k + 7 => rfl
theorem kr_pneed {j : Nat} {v : Int32} (hW : kW c R m A h) (hj : j < kj c) (hd : decode (xt_code y) pc = .ok (.putfield i, 3)) (hf : xm_okF (xt_own y) i 0 5) (K : ∀ h' : xm_H, kW (kw c 3 j v) R m A h' → h'.2 = h.2 → xm_S g d y (pc + 3, ls, st) h' Q) : xm_S g d y (pc, ls, .int v :: .ref (A 1 j) :: st) h Q := by
  refine xr_putf hd hf (hW.job hj) rfl rfl rfl ?_
  refine K _ (hW.put (k0 := 1) (i0 := j) hj rfl (by simp [kd, kd1, kw_F, List.set]) (fun k i hn => ?_)) rfl
  match k with
  | 0 => rfl
  | 1 =>
    have hi : ¬ i = j := fun e => hn ⟨rfl, e⟩
    simp [kd, kd1, kw_F, hi]
  | 2 => simp [kd, kd2, kw_F]
  | 3 => simp [kd, kd3, kw_F]
  | 4 => rfl
  | 5 => simp [kd, kd5, kw_F]
  | 6 => rfl
  | k + 7 => rfl
/-- elements of the class's arrays -/
theorem kr_tks {r j : Nat} {x : Int32} (hW : kW c R m A h) (hr : r < kq c) (hd : decode (xt_code y) pc = .ok (.aaload, 1)) (hx : x = nI j) (hj : j < kj c) (K : xm_S g d y (pc + 1, ls, .ref (A 5 (12 * r + j)) :: st) h Q) : xm_S g d y (pc, ls, .int x :: .ref (A 4 r) :: st) h Q := by
  subst hx
  have h1 := hW.2.2.1
  exact xr_aald (ty := .object "JobStates$Task") hd (hW.tks hr) rfl rfl (vp_in_nI hj (by omega)) (by show (if (nI j).toNatClampNeg < 12 then _ else _) = _; rw [nI_clamp (by omega), if_pos (by omega)]) K
theorem kr_runs {r : Nat} {x : Int32} (hW : kW c R m A h) (hd : decode (xt_code y) pc = .ok (.aaload, 1)) (hx : x = nI r) (hr : r < kq c) (K : xm_S g d y (pc + 1, ls, .ref (A 3 r) :: st) h Q) : xm_S g d y (pc, ls, .int x :: .ref (A 0 3) :: st) h Q := by
  subst hx
  have h1 := hW.2.2.2.2
  exact xr_aald (ty := .object "JobStates$Run") hd hW.arun rfl rfl (vp_in_nI (by omega) (by omega)) (by rw [nI_clamp (by omega), if_pos hr]; rfl) K
theorem kr_rnrs {u : Nat} {x : Int32} (hW : kW c R m A h) (hd : decode (xt_code y) pc = .ok (.aaload, 1)) (hx : x = nI u) (hu : u < kr c) (K : xm_S g d y (pc + 1, ls, .ref (A 2 u) :: st) h Q) : xm_S g d y (pc, ls, .int x :: .ref (A 0 2) :: st) h Q := by
  subst hx
  have h1 := hW.2.2.2.1
  exact xr_aald (ty := .object "JobStates$Runner") hd hW.arnr rfl rfl (vp_in_nI (by omega) (by omega)) (by rw [nI_clamp (by omega), if_pos hu]; rfl) K
theorem kr_jobs {j : Nat} {x : Int32} (hW : kW c R m A h) (hd : decode (xt_code y) pc = .ok (.aaload, 1)) (hx : x = nI j) (hj : j < kj c) (K : xm_S g d y (pc + 1, ls, .ref (A 1 j) :: st) h Q) : xm_S g d y (pc, ls, .int x :: .ref (A 0 1) :: st) h Q := by
  subst hx
  have h1 := hW.2.2.1
  exact xr_aald (ty := .object "JobStates$Job") hd hW.ajob rfl rfl (vp_in_nI (by omega) (by omega)) (by rw [nI_clamp (by omega), if_pos hj]; rfl) K
theorem km_len_lt (f : Nat) : km_len f < 2 ^ 31 := by
  unfold km_len
  by_cases h1 : f < 6
  · rw [if_pos h1]; decide
  · rw [if_neg h1]
    by_cases h2 : f < 9
    · rw [if_pos h2]; decide
    · rw [if_neg h2]
      by_cases h3 : f < 17
      · rw [if_pos h3]; decide
      · rw [if_neg h3]; decide
/-- the reference's arrays and fields -/
theorem kr_ild {f n : Nat} {x : Int32} (hW : kW c R m A h) (hf : f < 20) (ht : km_ty f = 0) (hd : decode (xt_code y) pc = .ok (.iaload, 1)) (hx : x = nI n) (hn : n < km_len f) (K : xm_S g d y (pc + 1, ls, .int (kF m f n) :: st) h Q) : xm_S g d y (pc, ls, .int x :: .ref (A 6 (f + 1)) :: st) h Q := by
  subst hx
  have hl := km_len_lt f
  exact xr_iald hd (hW.arr hf) (by rw [ht]; rfl) (vp_in_nI hn hl) (by rw [nI_clamp (by omega)]) K
theorem kr_zld {f n : Nat} {x : Int32} (hW : kW c R m A h) (hf : f < 20) (ht : km_ty f = 1) (hd : decode (xt_code y) pc = .ok (.baload, 1)) (hx : x = nI n) (hn : n < km_len f) (K : xm_S g d y (pc + 1, ls, .int (kF m f n) :: st) h Q) : xm_S g d y (pc, ls, .int x :: .ref (A 6 (f + 1)) :: st) h Q := by
  subst hx
  have hl := km_len_lt f
  exact xr_zald hd (hW.arr hf) (by rw [ht]; rfl) (vp_in_nI hn hl) (by rw [nI_clamp (by omega)]) K
theorem kd_other_m {f n : Nat} {v : Int32} (k i : Nat) (hn : ¬ (k = 6 ∧ i = f + 1)) : kd c R (kw m f n v) A k i = kd c R m A k i := by
  match k with
  | 0 => rfl
  | 1 => rfl
  | 2 => rfl
  | 3 => rfl
  | 4 => rfl
  | 5 => rfl
  | 6 =>
    match i with
    | 0 => rfl
    | i + 1 =>
      have hi : ¬ i = f := fun e => hn ⟨rfl, by rw [e]⟩
      simp [kd, kd6, kw_F, hi]
  | k + 7 => rfl
theorem kd_arr {f n : Nat} {v : Int32} (hn : n < km_len f) : kd c R (kw m f n v) A 6 (f + 1) = .inr (km_ty f, km_len f, updV (fun j => .int (kF m f j)) (nI n).toNatClampNeg (.int v)) := by
  have hl := km_len_lt f
  rw [nI_clamp (by omega)]
  simp only [kd, kd6, kw_F, updV]
  congr 3
  funext j
  by_cases hj : j = n
  · simp [hj, updV]
  · simp [hj, updV]
theorem kr_ist {f n : Nat} {x v : Int32} (hW : kW c R m A h) (hf : f < 20) (ht : km_ty f = 0) (hd : decode (xt_code y) pc = .ok (.iastore, 1)) (hx : x = nI n) (hn : n < km_len f) (K : ∀ h' : xm_H, kW c R (kw m f n v) A h' → h'.2 = h.2 → xm_S g d y (pc + 1, ls, st) h' Q) : xm_S g d y (pc, ls, .int v :: .int x :: .ref (A 6 (f + 1)) :: st) h Q := by
  subst hx
  refine xr_iast hd (hW.arr hf) (by rw [ht]; rfl) (vp_in_nI hn (km_len_lt f)) ?_
  exact K _ (hW.put (k0 := 6) (i0 := f + 1) (by show f + 1 < 21; omega) rfl (kd_arr hn) kd_other_m) rfl
theorem kr_zst {f n : Nat} {x v : Int32} (hW : kW c R m A h) (hf : f < 20) (ht : km_ty f = 1) (hd : decode (xt_code y) pc = .ok (.bastore, 1)) (hx : x = nI n) (hn : n < km_len f) (hv : v = 0 ∨ v = 1) (K : ∀ h' : xm_H, kW c R (kw m f n v) A h' → h'.2 = h.2 → xm_S g d y (pc + 1, ls, st) h' Q) : xm_S g d y (pc, ls, .int v :: .int x :: .ref (A 6 (f + 1)) :: st) h Q := by
  subst hx
  refine xr_zast hd (hW.arr hf) (by rw [ht]; rfl) (vp_in_nI hn (km_len_lt f)) (by rcases hv with rfl | rfl <;> rfl) ?_
  exact K _ (hW.put (k0 := 6) (i0 := f + 1) (by show f + 1 < 21; omega) rfl (kd_arr hn) kd_other_m) rfl
/-- a field of the reference that is a number -/
theorem kr_pm {k : Nat} {v : Int32} {m' : kS} (hW : kW c R m A h) (hd : decode (xt_code y) pc = .ok (.putfield i, 3)) (hf : xm_okF (xt_own y) i 5 k) (hk : k < 6) (he : kd6 m' A 0 = .inl (5, [.int 0, .int (kc m), .int (kl m), .int (nI (kj m)), .int (nI (kq m)), .int (nI (kr m)), .ref (A 6 1), .ref (A 6 2), .ref (A 6 3), .ref (A 6 4), .ref (A 6 5), .ref (A 6 6), .ref (A 6 7), .ref (A 6 8), .ref (A 6 9), .ref (A 6 10), .ref (A 6 11), .ref (A 6 12), .ref (A 6 13), .ref (A 6 14), .ref (A 6 15), .ref (A 6 16), .ref (A 6 17), .ref (A 6 18), .ref (A 6 19), .ref (A 6 20)].set k (.int v))) (hF : kF m' = kF m) (K : ∀ h' : xm_H, kW c R m' A h' → h'.2 = h.2 → xm_S g d y (pc + 3, ls, st) h' Q) : xm_S g d y (pc, ls, .int v :: .ref (A 6 0) :: st) h Q := by
  have hty : xt_ty 5 k = .int ∧ xt_fin 5 k = false := by
    rcases (show k = 0 ∨ k = 1 ∨ k = 2 ∨ k = 3 ∨ k = 4 ∨ k = 5 by omega) with rfl | rfl | rfl | rfl | rfl | rfl <;> exact ⟨rfl, rfl⟩
  refine xr_putf hd hf hW.ref hty.2 (by rw [hty.1]; rfl) (by rw [hty.1]; rfl) ?_
  refine K _ (hW.put (k0 := 6) (i0 := 0) (show 0 < 21 by decide) rfl he (fun k i hn => ?_)) rfl
  match k with
  | 0 => rfl
  | 1 => rfl
  | 2 => rfl
  | 3 => rfl
  | 4 => rfl
  | 5 => rfl
  | 6 =>
    match i with
    | 0 => exact absurd ⟨rfl, rfl⟩ hn
    | i + 1 => simp only [kd, kd6, hF]
  | k + 7 => rfl
end KRows
