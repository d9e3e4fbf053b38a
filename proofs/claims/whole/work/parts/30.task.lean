/-! the task's small methods -/
def k_ru (o : Option Nat) : Int32 := match o with
  | none => -1
  | some u => nI u
theorem s_isEnded {g : xm_G} {h : xm_H} {c m : kS} {R : Nat → Option Nat} {A : kA} (hW : kW c R m A h) {x : Nat} (hx : x < 12 * kq c ∧ x % 12 < kj c) : xm_S g 0 m_Tsk_isEnded (xm_entry m_Tsk_isEnded [.ref (A 5 x)]) h (xq_i fun v h' => v = kbi (2 < kF c 9 x) ∧ h' = h) := by
  show xm_S g 0 m_Tsk_isEnded (0, [some (.ref (A 5 x))], []) h _
  refine xr_aload_n d_Tsk_isEnded_0 rfl ?_
  refine xr_getf d_Tsk_isEnded_1 xf_3_9 (hW.tsk hx) rfl ?_
  refine xr_iconst (v := 3) d_Tsk_isEnded_4 rfl ?_
  refine xr_icmp_lt (tgt := 12) d_Tsk_isEnded_5 rfl (fun c5 => ?_) (fun c5 => ?_)
  · refine xr_iconst (v := 0) d_Tsk_isEnded_12 rfl ?_
    refine xr_ireturn d_Tsk_isEnded_13 rfl rfl rfl ?_
    refine ⟨_, rfl, ?_, rfl⟩
    first | exact (kbi_t (by first | assumption | (simp only [Int32.lt_iff_toInt_lt, Int32.le_iff_toInt_le, ti_eq, ti_m2, ti_m1, ti_0, ti_1, ti_2, ti_3, ti_4, ti_5, ti_6, ti_7, ti_8, ti_10, ti_12, ti_100, ti_1000] at *; omega))).symm | exact (kbi_f (by first | assumption | (simp only [Int32.lt_iff_toInt_lt, Int32.le_iff_toInt_le, ti_eq, ti_m2, ti_m1, ti_0, ti_1, ti_2, ti_3, ti_4, ti_5, ti_6, ti_7, ti_8, ti_10, ti_12, ti_100, ti_1000] at *; omega))).symm
  · refine xr_iconst (v := 1) d_Tsk_isEnded_8 rfl ?_
    refine xr_goto (tgt := 13) d_Tsk_isEnded_9 rfl ?_
    refine xr_ireturn d_Tsk_isEnded_13 rfl rfl rfl ?_
    refine ⟨_, rfl, ?_, rfl⟩
    first | exact (kbi_t (by first | assumption | (simp only [Int32.lt_iff_toInt_lt, Int32.le_iff_toInt_le, ti_eq, ti_m2, ti_m1, ti_0, ti_1, ti_2, ti_3, ti_4, ti_5, ti_6, ti_7, ti_8, ti_10, ti_12, ti_100, ti_1000] at *; omega))).symm | exact (kbi_f (by first | assumption | (simp only [Int32.lt_iff_toInt_lt, Int32.le_iff_toInt_le, ti_eq, ti_m2, ti_m1, ti_0, ti_1, ti_2, ti_3, ti_4, ti_5, ti_6, ti_7, ti_8, ti_10, ti_12, ti_100, ti_1000] at *; omega))).symm
theorem s_place {g : xm_G} {h : xm_H} {c m : kS} {R : Nat → Option Nat} {A : kA} (hW : kW c R m A h) {x : Nat} (hx : x < 12 * kq c ∧ x % 12 < kj c) : xm_S g 0 m_Tsk_place (xm_entry m_Tsk_place [.ref (A 5 x)]) h (xq_i fun v h' => v = nI x ∧ h' = h) := by
  show xm_S g 0 m_Tsk_place (0, [some (.ref (A 5 x))], []) h _
  refine xr_bipush (v := 12) d_Tsk_place_0 rfl ?_
  refine xr_aload_n d_Tsk_place_2 rfl ?_
  refine xr_getf d_Tsk_place_3 xf_3_41 (hW.tsk hx) rfl ?_
  refine xr_getf d_Tsk_place_6 xf_3_52 (hW.run (by omega)) rfl ?_
  refine xr_imul d_Tsk_place_9 ?_
  refine xr_aload_n d_Tsk_place_10 rfl ?_
  refine xr_getf d_Tsk_place_11 xf_3_45 (hW.tsk hx) rfl ?_
  refine xr_iadd d_Tsk_place_14 ?_
  refine xr_ireturn d_Tsk_place_15 rfl rfl rfl ?_
  exact ⟨_, rfl, by rw [kx_i, kx_x], rfl⟩
theorem s_isPastLimit {g : xm_G} {h : xm_H} {c m : kS} {R : Nat → Option Nat} {A : kA} (hW : kW c R m A h) {x : Nat} (hx : x < 12 * kq c ∧ x % 12 < kj c) {t : Int32} : xm_S g 0 m_Tsk_isPastLimit (xm_entry m_Tsk_isPastLimit [.ref (A 5 x), .int t]) h (xq_i fun v h' => v = kbi (0 < kF c 1 (x % 12) ∧ kF c 1 (x % 12) ≤ t - kF c 10 x) ∧ h' = h) := by
  show xm_S g 0 m_Tsk_isPastLimit (0, [some (.ref (A 5 x)), some (.int t)], []) h _
  refine xr_aload_n d_Tsk_isPastLimit_0 rfl ?_
  refine xr_getf d_Tsk_isPastLimit_1 xf_3_48 (hW.tsk hx) rfl ?_
  refine xr_getf d_Tsk_isPastLimit_4 xf_3_66 (hW.job hx.2) rfl ?_
  refine xr_if_le (tgt := 30) d_Tsk_isPastLimit_7 rfl (fun c7 => ?_) (fun c7 => ?_)
  · refine xr_iconst (v := 0) d_Tsk_isPastLimit_30 rfl ?_
    refine xr_ireturn d_Tsk_isPastLimit_31 rfl rfl rfl ?_
    refine ⟨_, rfl, ?_, rfl⟩
    first | exact (kbi_t ⟨ki_nle.mp (by assumption), ki_nlt.mp (by assumption)⟩).symm | exact (kbi_f (fun q => absurd q.1 (ki_nlt.mpr (by assumption)))).symm | exact (kbi_f (fun q => absurd q.2 (ki_nle.mpr (by assumption)))).symm
  · refine xr_iload_n d_Tsk_isPastLimit_10 rfl ?_
    refine xr_aload_n d_Tsk_isPastLimit_11 rfl ?_
    refine xr_getf d_Tsk_isPastLimit_12 xf_3_19 (hW.tsk hx) rfl ?_
    refine xr_isub d_Tsk_isPastLimit_15 ?_
    refine xr_aload_n d_Tsk_isPastLimit_16 rfl ?_
    refine xr_getf d_Tsk_isPastLimit_17 xf_3_48 (hW.tsk hx) rfl ?_
    refine xr_getf d_Tsk_isPastLimit_20 xf_3_66 (hW.job hx.2) rfl ?_
    refine xr_icmp_lt (tgt := 30) d_Tsk_isPastLimit_23 rfl (fun c23 => ?_) (fun c23 => ?_)
    · refine xr_iconst (v := 0) d_Tsk_isPastLimit_30 rfl ?_
      refine xr_ireturn d_Tsk_isPastLimit_31 rfl rfl rfl ?_
      refine ⟨_, rfl, ?_, rfl⟩
      first | exact (kbi_t ⟨ki_nle.mp (by assumption), ki_nlt.mp (by assumption)⟩).symm | exact (kbi_f (fun q => absurd q.1 (ki_nlt.mpr (by assumption)))).symm | exact (kbi_f (fun q => absurd q.2 (ki_nle.mpr (by assumption)))).symm
    · refine xr_iconst (v := 1) d_Tsk_isPastLimit_26 rfl ?_
      refine xr_goto (tgt := 31) d_Tsk_isPastLimit_27 rfl ?_
      refine xr_ireturn d_Tsk_isPastLimit_31 rfl rfl rfl ?_
      refine ⟨_, rfl, ?_, rfl⟩
      first | exact (kbi_t ⟨ki_nle.mp (by assumption), ki_nlt.mp (by assumption)⟩).symm | exact (kbi_f (fun q => absurd q.1 (ki_nlt.mpr (by assumption)))).symm | exact (kbi_f (fun q => absurd q.2 (ki_nle.mpr (by assumption)))).symm
theorem s_runnerNumber {g : xm_G} {h : xm_H} {c m : kS} {R : Nat → Option Nat} {A : kA} (hW : kW c R m A h) {x : Nat} (hx : x < 12 * kq c ∧ x % 12 < kj c) (hu : ∀ u, R x = some u → u < kr c) : xm_S g 0 m_Tsk_runnerNumber (xm_entry m_Tsk_runnerNumber [.ref (A 5 x)]) h (xq_i fun v h' => v = k_ru (R x) ∧ h' = h) := by
  show xm_S g 0 m_Tsk_runnerNumber (0, [some (.ref (A 5 x))], []) h _
  have ht := hW.tsk hx
  rcases hR : R x with _ | u
  · rw [hR] at ht
    refine xr_aload_n d_Tsk_runnerNumber_0 rfl ?_
    refine xr_getf d_Tsk_runnerNumber_1 xf_3_15 ht rfl ?_
    refine xr_ifnonnullN d_Tsk_runnerNumber_4 ?_
    refine xr_iconst (v := -1) d_Tsk_runnerNumber_7 rfl ?_
    refine xr_goto (tgt := 18) d_Tsk_runnerNumber_8 rfl ?_
    refine xr_ireturn d_Tsk_runnerNumber_18 rfl rfl rfl ?_
    exact ⟨_, rfl, rfl, rfl⟩
  · rw [hR] at ht
    refine xr_aload_n d_Tsk_runnerNumber_0 rfl ?_
    refine xr_getf d_Tsk_runnerNumber_1 xf_3_15 ht rfl ?_
    refine xr_ifnonnull (tgt := 11) d_Tsk_runnerNumber_4 rfl ?_
    refine xr_aload_n d_Tsk_runnerNumber_11 rfl ?_
    refine xr_getf d_Tsk_runnerNumber_12 xf_3_15 ht rfl ?_
    refine xr_getf d_Tsk_runnerNumber_15 xf_3_69 (hW.rnr (hu u hR)) rfl ?_
    refine xr_ireturn d_Tsk_runnerNumber_18 rfl rfl rfl ?_
    exact ⟨_, rfl, rfl, rfl⟩
/-- the runner that has the task has it no more -/
def k_lv (c : kS) (R : Nat → Option Nat) (x : Nat) : kS := match R x with
  | none => c
  | some u => kw c 19 u (-1)
theorem k_lv_1 (c : kS) (R : Nat → Option Nat) (x : Nat) : (k_lv c R x).1 = c.1 := by unfold k_lv; split <;> rfl
theorem k_lv_21 (c : kS) (R : Nat → Option Nat) (x : Nat) : (k_lv c R x).2.1 = c.2.1 := by unfold k_lv; split <;> rfl
theorem k_lv_F (c : kS) (R : Nat → Option Nat) (x : Nat) {a b : Nat} (h : a ≠ 19) : kF (k_lv c R x) a b = kF c a b := by
  unfold k_lv
  split
  · rfl
  · rw [kw_F, if_neg (fun q => h q.1)]
theorem k_lv_x {c : kS} {R : Nat → Option Nat} {x y : Nat} (h : y < 12 * kq c ∧ y % 12 < kj c) : y < 12 * kq (k_lv c R x) ∧ y % 12 < kj (k_lv c R x) := by
  have e := k_lv_1 c R x
  rw [show kq (k_lv c R x) = kq c from congrArg (fun z => z.2.2) e, show kj (k_lv c R x) = kj c from congrArg (fun z => z.1) e]
  exact h
theorem up1_id {R : Nat → Option Nat} {x : Nat} (h : R x = none) : up1 R x none = R := by
  funext a
  by_cases e : a = x
  · rw [e, up1_s, h]
  · rw [up1_n _ _ e]
theorem s_leave {g : xm_G} {h : xm_H} {c m : kS} {R : Nat → Option Nat} {A : kA} (hW : kW c R m A h) {x : Nat} (hx : x < 12 * kq c ∧ x % 12 < kj c) (hu : ∀ u, R x = some u → u < kr c) : xm_S g 0 m_Tsk_leaveRunner (xm_entry m_Tsk_leaveRunner [.ref (A 5 x)]) h (xq_v fun h' => kW (k_lv c R x) (up1 R x none) m A h' ∧ h'.2 = h.2) := by
  show xm_S g 0 m_Tsk_leaveRunner (0, [some (.ref (A 5 x))], []) h _
  have ht := hW.tsk hx
  rcases hR : R x with _ | u
  · rw [hR] at ht
    have hl : k_lv c R x = c := by unfold k_lv; rw [hR]
    refine xr_aload_n d_Tsk_leaveRunner_0 rfl ?_
    refine xr_getf d_Tsk_leaveRunner_1 xf_3_15 ht rfl ?_
    refine xr_ifnullN (tgt := 20) d_Tsk_leaveRunner_4 rfl ?_
    refine xr_return d_Tsk_leaveRunner_20 rfl rfl ?_
    exact ⟨rfl, by rw [hl, up1_id hR]; exact hW, rfl⟩
  · rw [hR] at ht
    have hl : k_lv c R x = kw c 19 u (-1) := by unfold k_lv; rw [hR]
    refine xr_aload_n d_Tsk_leaveRunner_0 rfl ?_
    refine xr_getf d_Tsk_leaveRunner_1 xf_3_15 ht rfl ?_
    refine xr_ifnull d_Tsk_leaveRunner_4 ?_
    refine xr_aload_n d_Tsk_leaveRunner_7 rfl ?_
    refine xr_getf d_Tsk_leaveRunner_8 xf_3_15 ht rfl ?_
    refine xr_null d_Tsk_leaveRunner_11 ?_
    refine kr_phasN hW (hu u hR) d_Tsk_leaveRunner_12 xf_3_72 (fun h1 hW he => ?_)
    refine xr_aload_n d_Tsk_leaveRunner_15 rfl ?_
    refine xr_null d_Tsk_leaveRunner_16 ?_
    refine kr_prunN hW hx d_Tsk_leaveRunner_17 xf_3_15 (fun h2 hW he2 => ?_)
    refine xr_return d_Tsk_leaveRunner_20 rfl rfl ?_
    exact ⟨rfl, by rw [hl]; exact hW, he2.trans he⟩
theorem s_finish {g : xm_G} {h : xm_H} {c m : kS} {R : Nat → Option Nat} {A : kA} (hW : kW c R m A h) {x : Nat} (hx : x < 12 * kq c ∧ x % 12 < kj c) (hu : ∀ u, R x = some u → u < kr c) {v : Int32} : xm_S g 1 m_Tsk_finish (xm_entry m_Tsk_finish [.ref (A 5 x), .int v]) h (xq_v fun h' => kW (kw (kw (k_lv c R x) 15 x v) 9 x 3) (up1 R x none) m A h' ∧ h'.2 = h.2) := by
  show xm_S g 1 m_Tsk_finish (0, [some (.ref (A 5 x)), some (.int v)], []) h _
  refine xr_aload_n d_Tsk_finish_0 rfl ?_
  refine xr_V0v d_Tsk_finish_1 xv_3_79 (hW.tsk hx) rfl (Nat.le_of_ble_eq_true rfl) (by decide) (s_leave hW hx hu) (fun h1 h9 => ?_)
  obtain ⟨hW, he0⟩ := h9
  have hx1 := k_lv_x (R := R) (x := x) hx
  refine xr_aload_n d_Tsk_finish_4 rfl ?_
  refine xr_iload_n d_Tsk_finish_5 rfl ?_
  refine kr_pt (f := 15) hW hx1 d_Tsk_finish_6 xf_3_25 (by decide) (fun h2 hW he1 => ?_)
  refine xr_aload_n d_Tsk_finish_9 rfl ?_
  refine xr_iconst (v := 3) d_Tsk_finish_10 rfl ?_
  refine kr_pt (f := 9) hW hx1 d_Tsk_finish_11 xf_3_9 (by decide) (fun h3 hW he2 => ?_)
  refine xr_return d_Tsk_finish_14 rfl rfl ?_
  exact ⟨rfl, hW, he2.trans (he1.trans he0)⟩
theorem s_failTry {g : xm_G} {h : xm_H} {c m : kS} {R : Nat → Option Nat} {A : kA} (hW : kW c R m A h) {x : Nat} (hx : x < 12 * kq c ∧ x % 12 < kj c) (hu : ∀ u, R x = some u → u < kr c) : xm_S g 1 m_Tsk_failTry (xm_entry m_Tsk_failTry [.ref (A 5 x)]) h (xq_v fun h' => kW (kw (kw (k_lv c R x) 12 x (kF c 12 x + 1)) 9 x (if kF c 2 (x % 12) < kF c 12 x + 1 then 4 else 1)) (up1 R x none) m A h' ∧ h'.2 = h.2) := by
  show xm_S g 1 m_Tsk_failTry (0, [some (.ref (A 5 x))], []) h _
  refine xr_aload_n d_Tsk_failTry_0 rfl ?_
  refine xr_V0v d_Tsk_failTry_1 xv_3_79 (hW.tsk hx) rfl (Nat.le_of_ble_eq_true rfl) (by decide) (s_leave hW hx hu) (fun h1 h9 => ?_)
  obtain ⟨hW, he0⟩ := h9
  have hx1 := k_lv_x (R := R) (x := x) hx
  refine xr_aload_n d_Tsk_failTry_4 rfl ?_
  refine xr_dup d_Tsk_failTry_5 rfl ?_
  refine xr_getf d_Tsk_failTry_6 xf_3_34 (hW.tsk hx1) rfl ?_
  refine xr_iconst (v := 1) d_Tsk_failTry_9 rfl ?_
  refine xr_iadd d_Tsk_failTry_10 ?_
  rw [k_lv_F c R x (by decide)]
  refine kr_pt (f := 12) hW hx1 d_Tsk_failTry_11 xf_3_34 (by decide) (fun h2 hW he1 => ?_)
  refine xr_aload_n d_Tsk_failTry_14 rfl ?_
  refine xr_aload_n d_Tsk_failTry_15 rfl ?_
  refine xr_getf d_Tsk_failTry_16 xf_3_34 (hW.tsk hx1) rfl ?_
  refine xr_aload_n d_Tsk_failTry_19 rfl ?_
  refine xr_getf d_Tsk_failTry_20 xf_3_48 (hW.tsk hx1) rfl ?_
  refine xr_getf d_Tsk_failTry_23 xf_3_82 (hW.job hx1.2) rfl ?_
  rw [kw_F, if_neg (fun q => absurd q.1 (by decide)), k_lv_F c R x (by decide), kw_F, if_pos ⟨rfl, rfl⟩]
  refine xr_icmp_gt (tgt := 33) d_Tsk_failTry_26 rfl (fun c26 => ?_) (fun c26 => ?_)
  · refine xr_iconst (v := 4) d_Tsk_failTry_33 rfl ?_
    refine kr_pt (f := 9) hW hx1 d_Tsk_failTry_34 xf_3_9 (by decide) (fun h3 hW he2 => ?_)
    refine xr_return d_Tsk_failTry_37 rfl rfl ?_
    exact ⟨rfl, by first | (rw [if_pos c26]; exact hW) | (rw [if_neg c26]; exact hW), he2.trans (he1.trans he0)⟩
  · refine xr_iconst (v := 1) d_Tsk_failTry_29 rfl ?_
    refine xr_goto (tgt := 34) d_Tsk_failTry_30 rfl ?_
    refine kr_pt (f := 9) hW hx1 d_Tsk_failTry_34 xf_3_9 (by decide) (fun h3 hW he2 => ?_)
    refine xr_return d_Tsk_failTry_37 rfl rfl ?_
    exact ⟨rfl, by first | (rw [if_pos c26]; exact hW) | (rw [if_neg c26]; exact hW), he2.trans (he1.trans he0)⟩
theorem s_loseRunner {g : xm_G} {h : xm_H} {c m : kS} {R : Nat → Option Nat} {A : kA} (hW : kW c R m A h) {x : Nat} (hx : x < 12 * kq c ∧ x % 12 < kj c) (hu : ∀ u, R x = some u → u < kr c) (h14 : ¬ kF c 14 x + 1 = 0) : xm_S g 1 m_Tsk_loseRunner (xm_entry m_Tsk_loseRunner [.ref (A 5 x)]) h (xq_v fun h' => kW (kw (kw (kw (k_lv c R x) 13 x (kF c 13 x + 1)) 9 x (if kF c 14 x = 0 then 1 else 4)) 14 x (kF c 14 x + 1)) (up1 R x none) m A h' ∧ h'.2 = h.2) := by
  show xm_S g 1 m_Tsk_loseRunner (0, [some (.ref (A 5 x))], []) h _
  refine xr_aload_n d_Tsk_loseRunner_0 rfl ?_
  refine xr_V0v d_Tsk_loseRunner_1 xv_3_79 (hW.tsk hx) rfl (Nat.le_of_ble_eq_true rfl) (by decide) (s_leave hW hx hu) (fun h1 h9 => ?_)
  obtain ⟨hW, he0⟩ := h9
  have hx1 := k_lv_x (R := R) (x := x) hx
  refine xr_aload_n d_Tsk_loseRunner_4 rfl ?_
  refine xr_dup d_Tsk_loseRunner_5 rfl ?_
  refine xr_getf d_Tsk_loseRunner_6 xf_3_31 (hW.tsk hx1) rfl ?_
  refine xr_iconst (v := 1) d_Tsk_loseRunner_9 rfl ?_
  refine xr_iadd d_Tsk_loseRunner_10 ?_
  rw [k_lv_F c R x (by decide)]
  refine kr_pt (f := 13) hW hx1 d_Tsk_loseRunner_11 xf_3_31 (by decide) (fun h2 hW he1 => ?_)
  refine xr_aload_n d_Tsk_loseRunner_14 rfl ?_
  refine xr_aload_n d_Tsk_loseRunner_15 rfl ?_
  refine xr_getf d_Tsk_loseRunner_16 xf_3_37 (hW.tsk hx1) rfl ?_
  rw [kw_F, if_neg (fun q => absurd q.1 (by decide)), k_lv_F c R x (by decide)]
  refine xr_if_eq (tgt := 26) d_Tsk_loseRunner_19 rfl (fun c19 => ?_) (fun c19 => ?_)
  · refine xr_iconst (v := 1) d_Tsk_loseRunner_26 rfl ?_
    refine kr_pt (f := 9) hW hx1 d_Tsk_loseRunner_27 xf_3_9 (by decide) (fun h3 hW he2 => ?_)
    refine xr_aload_n d_Tsk_loseRunner_30 rfl ?_
    refine xr_iconst (v := 1) d_Tsk_loseRunner_31 rfl ?_
    refine kr_plost (w := kF c 14 x + 1) hW hx1 d_Tsk_loseRunner_32 xf_3_37 (if_neg h14) (fun h4 hW he3 => ?_)
    refine xr_return d_Tsk_loseRunner_35 rfl rfl ?_
    have hz : kbz (kF c 14 x) = if kF c 14 x = 0 then 0 else 1 := rfl
    refine ⟨rfl, ?_, he3.trans (he2.trans (he1.trans he0))⟩
    by_cases h0 : kF c 14 x = 0
    · rw [if_pos h0] at hz ⊢
      first | exact hW | exact absurd hz c19
    · rw [if_neg h0] at hz ⊢
      first | exact hW | exact absurd (hz.symm.trans c19) (by decide)
  · refine xr_iconst (v := 4) d_Tsk_loseRunner_22 rfl ?_
    refine xr_goto (tgt := 27) d_Tsk_loseRunner_23 rfl ?_
    refine kr_pt (f := 9) hW hx1 d_Tsk_loseRunner_27 xf_3_9 (by decide) (fun h3 hW he2 => ?_)
    refine xr_aload_n d_Tsk_loseRunner_30 rfl ?_
    refine xr_iconst (v := 1) d_Tsk_loseRunner_31 rfl ?_
    refine kr_plost (w := kF c 14 x + 1) hW hx1 d_Tsk_loseRunner_32 xf_3_37 (if_neg h14) (fun h4 hW he3 => ?_)
    refine xr_return d_Tsk_loseRunner_35 rfl rfl ?_
    have hz : kbz (kF c 14 x) = if kF c 14 x = 0 then 0 else 1 := rfl
    refine ⟨rfl, ?_, he3.trans (he2.trans (he1.trans he0))⟩
    by_cases h0 : kF c 14 x = 0
    · rw [if_pos h0] at hz ⊢
      first | exact hW | exact absurd hz c19
    · rw [if_neg h0] at hz ⊢
      first | exact hW | exact absurd (hz.symm.trans c19) (by decide)
theorem s_waitAgain {g : xm_G} {h : xm_H} {c m : kS} {R : Nat → Option Nat} {A : kA} (hW : kW c R m A h) {x : Nat} (hx : x < 12 * kq c ∧ x % 12 < kj c) : xm_S g 0 m_Tsk_waitAgain (xm_entry m_Tsk_waitAgain [.ref (A 5 x)]) h (xq_v fun h' => kW (kw (kw (kw c 9 x 0) 12 x 0) 14 x 0) R m A h' ∧ h'.2 = h.2) := by
  show xm_S g 0 m_Tsk_waitAgain (0, [some (.ref (A 5 x))], []) h _
  refine xr_aload_n d_Tsk_waitAgain_0 rfl ?_
  refine xr_iconst (v := 0) d_Tsk_waitAgain_1 rfl ?_
  refine kr_pt (f := 9) hW hx d_Tsk_waitAgain_2 xf_3_9 (by decide) (fun h2 hW he1 => ?_)
  refine xr_aload_n d_Tsk_waitAgain_5 rfl ?_
  refine xr_iconst (v := 0) d_Tsk_waitAgain_6 rfl ?_
  refine kr_pt (f := 12) hW hx d_Tsk_waitAgain_7 xf_3_34 (by decide) (fun h3 hW he2 => ?_)
  refine xr_aload_n d_Tsk_waitAgain_10 rfl ?_
  refine xr_iconst (v := 0) d_Tsk_waitAgain_11 rfl ?_
  refine kr_plost (w := 0) hW hx d_Tsk_waitAgain_12 xf_3_37 rfl (fun h4 hW he3 => ?_)
  refine xr_return d_Tsk_waitAgain_15 rfl rfl ?_
  exact ⟨rfl, hW, he3.trans (he2.trans he1)⟩
theorem s_startOn {g : xm_G} {h : xm_H} {c m : kS} {R : Nat → Option Nat} {A : kA} (hW : kW c R m A h) {x : Nat} (hx : x < 12 * kq c ∧ x % 12 < kj c) {u : Nat} (hu : u < kr c) {t : Int32} : xm_S g 0 m_Tsk_startOn (xm_entry m_Tsk_startOn [.ref (A 5 x), .ref (A 2 u), .int t]) h (xq_v fun h' => kW (kw (kw (kw (kw (kw c 9 x 2) 10 x t) 11 x (kF c 11 x + 1)) 19 u (nI x)) 18 u t) (up1 R x (some u)) m A h' ∧ h'.2 = h.2) := by
  show xm_S g 0 m_Tsk_startOn (0, [some (.ref (A 5 x)), some (.ref (A 2 u)), some (.int t)], []) h _
  have hx9 : x < 120 := by have := hW.2.2.2.2; have := hx.1; omega
  refine xr_aload_n d_Tsk_startOn_0 rfl ?_
  refine xr_iconst (v := 2) d_Tsk_startOn_1 rfl ?_
  refine kr_pt (f := 9) hW hx d_Tsk_startOn_2 xf_3_9 (by decide) (fun h2 hW he1 => ?_)
  refine xr_aload_n d_Tsk_startOn_5 rfl ?_
  refine xr_iload_n d_Tsk_startOn_6 rfl ?_
  refine kr_pt (f := 10) hW hx d_Tsk_startOn_7 xf_3_19 (by decide) (fun h3 hW he2 => ?_)
  refine xr_aload_n d_Tsk_startOn_10 rfl ?_
  refine xr_dup d_Tsk_startOn_11 rfl ?_
  refine xr_getf d_Tsk_startOn_12 xf_3_28 (hW.tsk hx) rfl ?_
  refine xr_iconst (v := 1) d_Tsk_startOn_15 rfl ?_
  refine xr_iadd d_Tsk_startOn_16 ?_
  rw [kw_F, if_neg (fun q => absurd q.1 (by decide)), kw_F, if_neg (fun q => absurd q.1 (by decide))]
  refine kr_pt (f := 11) hW hx d_Tsk_startOn_17 xf_3_28 (by decide) (fun h4 hW he3 => ?_)
  refine xr_aload_n d_Tsk_startOn_20 rfl ?_
  refine xr_aload_n d_Tsk_startOn_21 rfl ?_
  refine kr_prun hW hx d_Tsk_startOn_22 xf_3_15 (fun h5 hW he4 => ?_)
  refine xr_aload_n d_Tsk_startOn_25 rfl ?_
  refine xr_aload_n d_Tsk_startOn_26 rfl ?_
  refine kr_phas hW hu (by omega) d_Tsk_startOn_27 xf_3_72 (fun h6 hW he5 => ?_)
  refine xr_aload_n d_Tsk_startOn_30 rfl ?_
  refine xr_iload_n d_Tsk_startOn_31 rfl ?_
  refine kr_pbeat hW hu d_Tsk_startOn_32 xf_3_76 (fun h7 hW he6 => ?_)
  refine xr_return d_Tsk_startOn_35 rfl rfl ?_
  exact ⟨rfl, hW, he6.trans (he5.trans (he4.trans (he3.trans (he2.trans he1))))⟩
