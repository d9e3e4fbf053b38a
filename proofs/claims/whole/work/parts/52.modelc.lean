/-! the reference's methods, on -/
theorem ql_runnerOf {g : xm_G} {h : xm_H} {c m : kS} {R : Nat → Option Nat} {A : kA} (hW : kW c R m A h) (hB : kMb m) {x : Nat} : ∀ (n : Nat) (k : Nat), k ≤ kr m → kr m < k + n → xm_S g 0 m_M_runnerOf (4, [some (.ref (A 6 0)), some (.int (nI x)), some (.int (k_rofN m x k)), some (.int (nI k))], []) h (xq_i fun v h' => v = k_rof m x ∧ h' = h) := by
  intro n
  induction n with
  | zero => intros; omega
  | succ n ih =>
    intro k h1 h2
    refine xr_iload_n d_M_runnerOf_4 rfl ?_
    refine xr_aload_n d_M_runnerOf_5 rfl ?_
    refine xr_getf d_M_runnerOf_6 xf_5_84 hW.ref rfl ?_
    refine xr_icmp_ge (tgt := 34) d_M_runnerOf_9 rfl (fun c9 => ?_) (fun c9 => ?_)
    · have hke : k = kr m := by have := k_ge_ge (by omega) c9; omega
      refine xr_iload_n d_M_runnerOf_34 rfl ?_
      refine xr_ireturn d_M_runnerOf_35 rfl rfl rfl ?_
      exact ⟨_, rfl, by rw [hke]; rfl, rfl⟩
    · have hkl : k < kr m := k_ge_lt (by omega) (by omega) c9
      have hk : k_rofN m x (k + 1) = if kF m 19 k = nI x then nI k else k_rofN m x k := rfl
      refine xr_aload_n d_M_runnerOf_12 rfl ?_
      refine xr_getf d_M_runnerOf_13 xf_5_72 hW.ref rfl ?_
      refine xr_iload_n d_M_runnerOf_16 rfl ?_
      refine kr_ild hW (f := 19) (by decide) rfl d_M_runnerOf_17 (n := k) rfl (show k < 6 by omega) ?_
      refine xr_iload_n d_M_runnerOf_18 rfl ?_
      refine xr_icmp_ne (tgt := 26) d_M_runnerOf_19 rfl (fun c19 => ?_) (fun c19 => ?_)
      · have hnx := hk.trans (if_neg c19)
        refine xr_iload_n d_M_runnerOf_26 rfl ?_
        refine xr_istore_n d_M_runnerOf_27 (Nat.le_of_ble_eq_true rfl) ?_
        refine xr_iinc1 d_M_runnerOf_28 rfl ?_
        refine xr_goto (tgt := 4) d_M_runnerOf_31 rfl ?_
        rw [nI_1, ← hnx]
        exact ih (k + 1) (by omega) (by omega)
      · have hnx := hk.trans (if_pos c19)
        refine xr_iload_n d_M_runnerOf_22 rfl ?_
        refine xr_goto (tgt := 27) d_M_runnerOf_23 rfl ?_
        refine xr_istore_n d_M_runnerOf_27 (Nat.le_of_ble_eq_true rfl) ?_
        refine xr_iinc1 d_M_runnerOf_28 rfl ?_
        refine xr_goto (tgt := 4) d_M_runnerOf_31 rfl ?_
        rw [nI_1, ← hnx]
        exact ih (k + 1) (by omega) (by omega)
theorem q_runnerOf {g : xm_G} {h : xm_H} {c m : kS} {R : Nat → Option Nat} {A : kA} (hW : kW c R m A h) (hB : kMb m) {x : Nat} : xm_S g 0 m_M_runnerOf (xm_entry m_M_runnerOf [.ref (A 6 0), .int (nI x)]) h (xq_i fun v h' => v = k_rof m x ∧ h' = h) := by
  show xm_S g 0 m_M_runnerOf (0, [some (.ref (A 6 0)), some (.int (nI x)), none, none], []) h _
  refine xr_iconst (v := -1) d_M_runnerOf_0 rfl ?_
  refine xr_istore_n d_M_runnerOf_1 (Nat.le_of_ble_eq_true rfl) ?_
  refine xr_iconst (v := 0) d_M_runnerOf_2 rfl ?_
  refine xr_istore_n d_M_runnerOf_3 (Nat.le_of_ble_eq_true rfl) ?_
  exact ql_runnerOf hW hB (kr m + 1) 0 (by omega) (by omega)
theorem ql_free {g : xm_G} {h0 : xm_H} {c m : kS} {R : Nat → Option Nat} {A : kA} (hB : kMb m) {x : Nat} : ∀ (n : Nat) (k : Nat) (h : xm_H), kW c R (k_freeN m x k) A h → h.2 = h0.2 → k ≤ kr m → kr m < k + n → xm_S g 0 m_M_free (2, [some (.ref (A 6 0)), some (.int (nI x)), some (.int (nI k))], []) h (xq_v fun h' => kW c R (k_free m x) A h' ∧ h'.2 = h0.2) := by
  intro n
  induction n with
  | zero => intros; omega
  | succ n ih =>
    intro k h hW he h1 h2
    refine xr_iload_n d_M_free_2 rfl ?_
    refine xr_aload_n d_M_free_3 rfl ?_
    refine xr_getf d_M_free_4 xf_5_84 hW.ref rfl ?_
    refine xr_icmp_ge (tgt := 42) d_M_free_7 rfl (fun c7 => ?_) (fun c7 => ?_)
    · have hke : k = kr m := by have := k_ge_ge (b := kr m) (by omega) c7; omega
      refine xr_return d_M_free_42 rfl rfl ?_
      refine ⟨rfl, ?_, he⟩
      subst hke
      exact hW
    · have hkl : k < kr m := k_ge_lt (b := kr m) (by omega) (by omega) c7
      have hF : kF (k_freeN m x k) 19 k = kF m 19 k := by rw [k_freeN_F, if_neg (by omega)]
      refine xr_aload_n d_M_free_10 rfl ?_
      refine xr_getf d_M_free_11 xf_5_72 hW.ref rfl ?_
      refine xr_iload_n d_M_free_14 rfl ?_
      refine xr_aload_n d_M_free_15 rfl ?_
      refine xr_getf d_M_free_16 xf_5_72 hW.ref rfl ?_
      refine xr_iload_n d_M_free_19 rfl ?_
      refine kr_ild hW (f := 19) (by decide) rfl d_M_free_20 (n := k) rfl (show k < 6 by omega) ?_
      rw [hF]
      refine xr_iload_n d_M_free_21 rfl ?_
      refine xr_icmp_ne (tgt := 29) d_M_free_22 rfl (fun c22 => ?_) (fun c22 => ?_)
      · have hv : kF m 19 k = if kF m 19 k = nI x then -1 else kF m 19 k := (if_neg c22).symm
        refine xr_aload_n d_M_free_29 rfl ?_
        refine xr_getf d_M_free_30 xf_5_72 hW.ref rfl ?_
        refine xr_iload_n d_M_free_33 rfl ?_
        refine kr_ild hW (f := 19) (by decide) rfl d_M_free_34 (n := k) rfl (show k < 6 by omega) ?_
        rw [hF]
        refine kr_ist hW (f := 19) (by decide) rfl d_M_free_35 (n := k) rfl (show k < 6 by omega) (fun h9s hW he9 => ?_)
        rw [k_freeN_s m x k hv] at hW
        refine xr_iinc1 d_M_free_36 rfl ?_
        refine xr_goto (tgt := 2) d_M_free_39 rfl ?_
        rw [nI_1]
        exact ih (k + 1) _ hW (he9.trans he) (by omega) (by omega)
      · have hv : (-1 : Int32) = if kF m 19 k = nI x then -1 else kF m 19 k := (if_pos c22).symm
        refine xr_iconst (v := -1) d_M_free_25 rfl ?_
        refine xr_goto (tgt := 35) d_M_free_26 rfl ?_
        refine kr_ist hW (f := 19) (by decide) rfl d_M_free_35 (n := k) rfl (show k < 6 by omega) (fun h9s hW he9 => ?_)
        rw [k_freeN_s m x k hv] at hW
        refine xr_iinc1 d_M_free_36 rfl ?_
        refine xr_goto (tgt := 2) d_M_free_39 rfl ?_
        rw [nI_1]
        exact ih (k + 1) _ hW (he9.trans he) (by omega) (by omega)
theorem q_free {g : xm_G} {h : xm_H} {c m : kS} {R : Nat → Option Nat} {A : kA} (hW : kW c R m A h) (hB : kMb m) {x : Nat} : xm_S g 0 m_M_free (xm_entry m_M_free [.ref (A 6 0), .int (nI x)]) h (xq_v fun h' => kW c R (k_free m x) A h' ∧ h'.2 = h.2) := by
  show xm_S g 0 m_M_free (0, [some (.ref (A 6 0)), some (.int (nI x)), none], []) h _
  refine xr_iconst (v := 0) d_M_free_0 rfl ?_
  refine xr_istore_n d_M_free_1 (Nat.le_of_ble_eq_true rfl) ?_
  exact ql_free (h0 := h) hB (kr m + 1) 0 h (by rw [k_freeN_0]; exact hW) rfl (by omega) (by omega)
theorem ql_stop {g : xm_G} {h0 : xm_H} {c m : kS} {R : Nat → Option Nat} {A : kA} (hB : kMb m) {r : Nat} (hr : r < 10) : ∀ (n : Nat) (j : Nat) (x3 : Option Value) (h : xm_H), kW c R (k_stopN m r j) A h → h.2 = h0.2 → j ≤ kj m → kj m < j + n → xm_S g 1 m_M_stop (2, [some (.ref (A 6 0)), some (.int (nI r)), some (.int (nI j)), x3], []) h (xq_v fun h' => kW c R (k_stop m r) A h' ∧ h'.2 = h0.2) := by
  intro n
  induction n with
  | zero => intros; omega
  | succ n ih =>
    intro j x3 h hW he h1 h2
    have e1 := k_stopN_1 m r j
    have hk : k_stopN m r (j + 1) = k_stop1 (k_stopN m r j) r j := rfl
    generalize hC : k_stopN m r j = C at *
    have hkj : kj C = kj m := congrArg (fun z => z.1) e1
    have hBC : kMb C := by unfold kMb kj kr kq at *; rw [e1]; exact hB
    rw [← hkj] at h1 h2
    have hB1 := hBC.1
    refine xr_iload_n d_M_stop_2 rfl ?_
    refine xr_aload_n d_M_stop_3 rfl ?_
    refine xr_getf d_M_stop_4 xf_5_78 hW.ref rfl ?_
    refine xr_icmp_ge (tgt := 60) d_M_stop_7 rfl (fun c7 => ?_) (fun c7 => ?_)
    · have hje : j = kj C := by have := k_ge_ge (by omega) c7; omega
      refine xr_aload_n d_M_stop_60 rfl ?_
      refine xr_getf d_M_stop_61 xf_5_39 hW.ref rfl ?_
      refine xr_iload_n d_M_stop_64 rfl ?_
      refine xr_iconst (v := 1) d_M_stop_65 rfl ?_
      refine kr_zst hW (f := 8) (by decide) rfl d_M_stop_66 (n := r) rfl (show r < 10 from hr) (Or.inr rfl) (fun h9s hW he9 => ?_)
      have he := he9.trans he
      refine xr_return d_M_stop_67 rfl rfl ?_
      refine ⟨rfl, ?_, he⟩
      unfold k_stop
      rw [← hkj, ← hje, hC]
      exact hW
    · have hjl : j < kj C := k_ge_lt (by omega) (by omega) c7
      refine xr_bipush (v := 12) d_M_stop_10 rfl ?_
      refine xr_iload_n d_M_stop_12 rfl ?_
      refine xr_imul d_M_stop_13 ?_
      refine xr_iload_n d_M_stop_14 rfl ?_
      refine xr_iadd d_M_stop_15 ?_
      rw [kx_i]
      refine xr_istore_n d_M_stop_16 (Nat.le_of_ble_eq_true rfl) ?_
      refine xr_aload_n d_M_stop_17 rfl ?_
      refine xr_getf d_M_stop_18 xf_5_26 hW.ref rfl ?_
      refine xr_iload_n d_M_stop_21 rfl ?_
      refine kr_zld hW (f := 4) (by decide) rfl d_M_stop_22 (n := j) rfl (show j < 12 by omega) ?_
      refine xr_if_ne (tgt := 54) d_M_stop_23 rfl (fun c23 => ?_) (fun c23 => ?_)
      · have hnx : k_stopN m r (j + 1) = C := hk.trans (if_pos (Or.inl c23))
        refine xr_iinc1 d_M_stop_54 rfl ?_
        refine xr_goto (tgt := 2) d_M_stop_57 rfl ?_
        rw [nI_1]
        exact ih (j + 1) _ _ (by rw [hnx]; exact hW) he (by omega) (by omega)
      · refine xr_aload_n d_M_stop_26 rfl ?_
        refine xr_getf d_M_stop_27 xf_5_42 hW.ref rfl ?_
        refine xr_iload_n d_M_stop_30 rfl ?_
        refine kr_ild hW (f := 9) (by decide) rfl d_M_stop_31 (n := 12 * r + j) rfl (show 12 * r + j < 120 by omega) ?_
        refine xr_S1i d_M_stop_32 xs_5_94 rfl rfl (Nat.le_of_ble_eq_true rfl) (by decide) q_isEnd (fun v h1 h9 => ?_)
        obtain ⟨rfl, e9⟩ := h9
        have e9 := e9.symm
        subst e9
        refine xr_if_eq (tgt := 41) d_M_stop_35 rfl (fun c35 => ?_) (fun c35 => ?_)
        · have hnx : k_stopN m r (j + 1) = kw (k_free C (12 * r + j)) 9 (12 * r + j) 6 := hk.trans (if_neg (fun q => q.elim (fun z => z c23) (kbi_0.mp c35)))
          refine xr_aload_n d_M_stop_41 rfl ?_
          refine xr_iload_n d_M_stop_42 rfl ?_
          refine xr_V1v d_M_stop_43 xv_5_104 hW.ref rfl rfl (Nat.le_of_ble_eq_true rfl) (by decide) (q_free hW hBC (x := 12 * r + j)) (fun h9s h9 => ?_)
          obtain ⟨hW, he1⟩ := h9
          have he := he1.trans he
          refine xr_aload_n d_M_stop_46 rfl ?_
          refine xr_getf d_M_stop_47 xf_5_42 hW.ref rfl ?_
          refine xr_iload_n d_M_stop_50 rfl ?_
          refine xr_bipush (v := 6) d_M_stop_51 rfl ?_
          refine kr_ist hW (f := 9) (by decide) rfl d_M_stop_53 (n := 12 * r + j) rfl (show 12 * r + j < 120 by omega) (fun h9s hW he9 => ?_)
          have he := he9.trans he
          refine xr_iinc1 d_M_stop_54 rfl ?_
          refine xr_goto (tgt := 2) d_M_stop_57 rfl ?_
          rw [nI_1]
          exact ih (j + 1) _ _ (by rw [hnx]; exact hW) he (by omega) (by omega)
        · have hnx : k_stopN m r (j + 1) = C := hk.trans (if_pos (Or.inr (kbi_n0 c35)))
          refine xr_goto (tgt := 54) d_M_stop_38 rfl ?_
          refine xr_iinc1 d_M_stop_54 rfl ?_
          refine xr_goto (tgt := 2) d_M_stop_57 rfl ?_
          rw [nI_1]
          exact ih (j + 1) _ _ (by rw [hnx]; exact hW) he (by omega) (by omega)
theorem q_stop {g : xm_G} {h : xm_H} {c m : kS} {R : Nat → Option Nat} {A : kA} (hW : kW c R m A h) (hB : kMb m) {r : Nat} (hr : r < 10) : xm_S g 1 m_M_stop (xm_entry m_M_stop [.ref (A 6 0), .int (nI r)]) h (xq_v fun h' => kW c R (k_stop m r) A h' ∧ h'.2 = h.2) := by
  show xm_S g 1 m_M_stop (0, [some (.ref (A 6 0)), some (.int (nI r)), none, none], []) h _
  refine xr_iconst (v := 0) d_M_stop_0 rfl ?_
  refine xr_istore_n d_M_stop_1 (Nat.le_of_ble_eq_true rfl) ?_
  exact ql_stop (h0 := h) hB hr (kj m + 1) 0 none h hW rfl (by omega) (by omega)
theorem q_failTry {g : xm_G} {h : xm_H} {c m : kS} {R : Nat → Option Nat} {A : kA} (hW : kW c R m A h) (hB : kMb m) {x : Nat} (hx : x < 120) : xm_S g 1 m_M_failTry (xm_entry m_M_failTry [.ref (A 6 0), .int (nI x)]) h (xq_v fun h' => kW c R (k_fail m x) A h' ∧ h'.2 = h.2) := by
  show xm_S g 1 m_M_failTry (0, [some (.ref (A 6 0)), some (.int (nI x))], []) h _
  refine xr_aload_n d_M_failTry_0 rfl ?_
  refine xr_getf d_M_failTry_1 xf_5_51 hW.ref rfl ?_
  refine xr_iload_n d_M_failTry_4 rfl ?_
  refine xr_dup2 d_M_failTry_5 rfl rfl ?_
  refine kr_ild hW (f := 12) (by decide) rfl d_M_failTry_6 (n := x) rfl (show x < 120 from hx) ?_
  refine xr_iconst (v := 1) d_M_failTry_7 rfl ?_
  refine xr_iadd d_M_failTry_8 ?_
  refine kr_ist hW (f := 12) (by decide) rfl d_M_failTry_9 (n := x) rfl (show x < 120 from hx) (fun h9s hW he9 => ?_)
  have he1 := he9
  refine xr_aload_n d_M_failTry_10 rfl ?_
  refine xr_getf d_M_failTry_11 xf_5_42 hW.ref rfl ?_
  refine xr_iload_n d_M_failTry_14 rfl ?_
  refine xr_aload_n d_M_failTry_15 rfl ?_
  refine xr_getf d_M_failTry_16 xf_5_51 hW.ref rfl ?_
  refine xr_iload_n d_M_failTry_19 rfl ?_
  refine kr_ild hW (f := 12) (by decide) rfl d_M_failTry_20 (n := x) rfl (show x < 120 from hx) ?_
  rw [kw_F, if_pos ⟨rfl, rfl⟩]
  refine xr_aload_n d_M_failTry_21 rfl ?_
  refine xr_getf d_M_failTry_22 xf_5_20 hW.ref rfl ?_
  refine xr_iload_n d_M_failTry_25 rfl ?_
  refine xr_bipush (v := 12) d_M_failTry_26 rfl ?_
  refine xr_irem d_M_failTry_28 (by decide) ?_
  rw [k12r (by omega)]
  refine kr_ild hW (f := 2) (by decide) rfl d_M_failTry_29 (n := x % 12) rfl (show x % 12 < 12 by omega) ?_
  rw [kw_F, if_neg (fun q => absurd q.1 (by decide))]
  refine xr_icmp_le (tgt := 37) d_M_failTry_30 rfl (fun c30 => ?_) (fun c30 => ?_)
  · have hv : (if kF m 2 (x % 12) < kF m 12 x + 1 then (4 : Int32) else 1) = 1 := if_neg (ki_nlt.mpr c30)
    refine xr_iconst (v := 1) d_M_failTry_37 rfl ?_
    refine kr_ist hW (f := 9) (by decide) rfl d_M_failTry_38 (n := x) rfl (show x < 120 from hx) (fun h9s hW he9 => ?_)
    have he2 := he9.trans he1
    refine xr_aload_n d_M_failTry_39 rfl ?_
    refine xr_iload_n d_M_failTry_40 rfl ?_
    refine xr_V1v d_M_failTry_41 xv_5_104 hW.ref rfl rfl (Nat.le_of_ble_eq_true rfl) (by decide) (q_free hW hB (x := x)) (fun h9s h9 => ?_)
    obtain ⟨hW, he3⟩ := h9
    refine xr_return d_M_failTry_44 rfl rfl ?_
    refine ⟨rfl, ?_, he3.trans he2⟩
    unfold k_fail
    rw [hv]
    exact hW
  · have hv : (if kF m 2 (x % 12) < kF m 12 x + 1 then (4 : Int32) else 1) = 4 := if_pos (ki_nle.mp c30)
    refine xr_iconst (v := 4) d_M_failTry_33 rfl ?_
    refine xr_goto (tgt := 38) d_M_failTry_34 rfl ?_
    refine kr_ist hW (f := 9) (by decide) rfl d_M_failTry_38 (n := x) rfl (show x < 120 from hx) (fun h9s hW he9 => ?_)
    have he2 := he9.trans he1
    refine xr_aload_n d_M_failTry_39 rfl ?_
    refine xr_iload_n d_M_failTry_40 rfl ?_
    refine xr_V1v d_M_failTry_41 xv_5_104 hW.ref rfl rfl (Nat.le_of_ble_eq_true rfl) (by decide) (q_free hW hB (x := x)) (fun h9s h9 => ?_)
    obtain ⟨hW, he3⟩ := h9
    refine xr_return d_M_failTry_44 rfl rfl ?_
    refine ⟨rfl, ?_, he3.trans he2⟩
    unfold k_fail
    rw [hv]
    exact hW
theorem q_isThere {g : xm_G} {h : xm_H} {c m : kS} {R : Nat → Option Nat} {A : kA} (hW : kW c R m A h) {a b : Int32} : xm_S g 1 m_M_isThere (xm_entry m_M_isThere [.ref (A 6 0), .int a, .int b]) h (xq_i fun v h' => v = kbi (k_in a (kq m) ∧ k_in b (kj m)) ∧ h' = h) := by
  show xm_S g 1 m_M_isThere (0, [some (.ref (A 6 0)), some (.int a), some (.int b)], []) h _
  refine xr_aload_n d_M_isThere_0 rfl ?_
  refine xr_iload_n d_M_isThere_1 rfl ?_
  refine xr_V1i d_M_isThere_2 xv_5_117 hW.ref rfl rfl (Nat.le_of_ble_eq_true rfl) (by decide) (q_isRun hW) (fun v h1 h9 => ?_)
  obtain ⟨rfl, e9⟩ := h9
  have e9 := e9.symm
  subst e9
  refine xr_if_eq (tgt := 20) d_M_isThere_5 rfl (fun c5 => ?_) (fun c5 => ?_)
  · have w : kbi (k_in a (kq m) ∧ k_in b (kj m)) = 0 := kbi_f (fun q => kbi_0.mp c5 q.1)
    refine xr_iconst (v := 0) d_M_isThere_20 rfl ?_
    refine xr_ireturn d_M_isThere_21 rfl rfl rfl ?_
    exact ⟨_, rfl, w.symm, rfl⟩
  · refine xr_aload_n d_M_isThere_8 rfl ?_
    refine xr_iload_n d_M_isThere_9 rfl ?_
    refine xr_V1i d_M_isThere_10 xv_5_87 hW.ref rfl rfl (Nat.le_of_ble_eq_true rfl) (by decide) (q_isJob hW) (fun v h1 h9 => ?_)
    obtain ⟨rfl, e9⟩ := h9
    have e9 := e9.symm
    subst e9
    refine xr_if_eq (tgt := 20) d_M_isThere_13 rfl (fun c13 => ?_) (fun c13 => ?_)
    · have w : kbi (k_in a (kq m) ∧ k_in b (kj m)) = 0 := kbi_f (fun q => kbi_0.mp c13 q.2)
      refine xr_iconst (v := 0) d_M_isThere_20 rfl ?_
      refine xr_ireturn d_M_isThere_21 rfl rfl rfl ?_
      exact ⟨_, rfl, w.symm, rfl⟩
    · have w : kbi (k_in a (kq m) ∧ k_in b (kj m)) = 1 := kbi_t ⟨kbi_n0 c5, kbi_n0 c13⟩
      refine xr_iconst (v := 1) d_M_isThere_16 rfl ?_
      refine xr_goto (tgt := 21) d_M_isThere_17 rfl ?_
      refine xr_ireturn d_M_isThere_21 rfl rfl rfl ?_
      exact ⟨_, rfl, w.symm, rfl⟩
theorem m_state {g : xm_G} {h : xm_H} {c m : kS} {R : Nat → Option Nat} {A : kA} (hW : kW c R m A h) (hB : kMb m) {a b : Int32} : xm_S g 2 m_M_state (xm_entry m_M_state [.ref (A 6 0), .int a, .int b]) h (xq_i fun v h' => v = k_state m a b ∧ kW c R m A h' ∧ h'.2 = h.2) := by
  show xm_S g 2 m_M_state (0, [some (.ref (A 6 0)), some (.int a), some (.int b)], []) h _
  refine xr_aload_n d_M_state_0 rfl ?_
  refine xr_iconst (v := 0) d_M_state_1 rfl ?_
  refine kr_pm (m' := m) hW d_M_state_2 xf_5_75 (by decide) rfl rfl (fun h1 hW he0 => ?_)
  refine xr_aload_n d_M_state_5 rfl ?_
  refine xr_iload_n d_M_state_6 rfl ?_
  refine xr_iload_n d_M_state_7 rfl ?_
  refine xr_V2i d_M_state_8 xv_5_120 hW.ref rfl rfl rfl (Nat.le_of_ble_eq_true rfl) (by decide) (q_isThere hW) (fun v h2 h9 => ?_)
  obtain ⟨rfl, e9⟩ := h9
  have e9 := e9.symm
  subst e9
  refine xr_if_eq (tgt := 28) d_M_state_11 rfl (fun c11 => ?_) (fun c11 => ?_)
  · have w : k_state m a b = -1 := if_neg (kbi_0.mp c11)
    refine xr_iconst (v := -1) d_M_state_28 rfl ?_
    refine xr_ireturn d_M_state_29 rfl rfl rfl ?_
    exact ⟨_, rfl, w.symm, hW, he0⟩
  · obtain ⟨hina, hinb⟩ := kbi_n0 c11
    obtain ⟨r, hr, rfl⟩ := k_in_ex (by omega) hina
    obtain ⟨j, hj, rfl⟩ := k_in_ex (by omega) hinb
    have hnr : k_n (nI r) = r := nI_clamp (by omega)
    have hnj : k_n (nI j) = j := nI_clamp (by omega)
    have w : k_state m (nI r) (nI j) = kF m 9 (12 * r + j) := by unfold k_state; rw [if_pos ⟨hina, hinb⟩, hnr, hnj]
    refine xr_aload_n d_M_state_14 rfl ?_
    refine xr_getf d_M_state_15 xf_5_42 hW.ref rfl ?_
    refine xr_bipush (v := 12) d_M_state_18 rfl ?_
    refine xr_iload_n d_M_state_20 rfl ?_
    refine xr_imul d_M_state_21 ?_
    refine xr_iload_n d_M_state_22 rfl ?_
    refine xr_iadd d_M_state_23 ?_
    refine kr_ild hW (f := 9) (by decide) rfl d_M_state_24 (n := 12 * r + j) kx_i (show 12 * r + j < 120 by omega) ?_
    refine xr_goto (tgt := 29) d_M_state_25 rfl ?_
    refine xr_ireturn d_M_state_29 rfl rfl rfl ?_
    exact ⟨_, rfl, w.symm, hW, he0⟩
theorem m_has {g : xm_G} {h : xm_H} {c m : kS} {R : Nat → Option Nat} {A : kA} (hW : kW c R m A h) (hB : kMb m) {a : Int32} : xm_S g 1 m_M_has (xm_entry m_M_has [.ref (A 6 0), .int a]) h (xq_i fun v h' => v = k_has m a ∧ kW c R m A h' ∧ h'.2 = h.2) := by
  show xm_S g 1 m_M_has (0, [some (.ref (A 6 0)), some (.int a)], []) h _
  refine xr_aload_n d_M_has_0 rfl ?_
  refine xr_iconst (v := 0) d_M_has_1 rfl ?_
  refine kr_pm (m' := m) hW d_M_has_2 xf_5_75 (by decide) rfl rfl (fun h1 hW he0 => ?_)
  refine xr_aload_n d_M_has_5 rfl ?_
  refine xr_iload_n d_M_has_6 rfl ?_
  refine xr_V1i d_M_has_7 xv_5_124 hW.ref rfl rfl (Nat.le_of_ble_eq_true rfl) (by decide) (q_isRunner hW) (fun v h2 h9 => ?_)
  obtain ⟨rfl, e9⟩ := h9
  have e9 := e9.symm
  subst e9
  refine xr_if_eq (tgt := 22) d_M_has_10 rfl (fun c10 => ?_) (fun c10 => ?_)
  · have w : k_has m a = -1 := if_neg (kbi_0.mp c10)
    refine xr_iconst (v := -1) d_M_has_22 rfl ?_
    refine xr_ireturn d_M_has_23 rfl rfl rfl ?_
    exact ⟨_, rfl, w.symm, hW, he0⟩
  · have hin := kbi_n0 c10
    obtain ⟨u, hu, rfl⟩ := k_in_ex (by omega) (kbi_n0 c10)
    have hnu : k_n (nI u) = u := nI_clamp (by omega)
    have w : k_has m (nI u) = kF m 19 u := by unfold k_has; rw [if_pos hin, hnu]
    refine xr_aload_n d_M_has_13 rfl ?_
    refine xr_getf d_M_has_14 xf_5_72 hW.ref rfl ?_
    refine xr_iload_n d_M_has_17 rfl ?_
    refine kr_ild hW (f := 19) (by decide) rfl d_M_has_18 (n := u) rfl (show u < 6 by omega) ?_
    refine xr_goto (tgt := 23) d_M_has_19 rfl ?_
    refine xr_ireturn d_M_has_23 rfl rfl rfl ?_
    exact ⟨_, rfl, w.symm, hW, he0⟩
theorem m_lost {g : xm_G} {h : xm_H} {c m : kS} {R : Nat → Option Nat} {A : kA} (hW : kW c R m A h) {t : Int32} : xm_S g 0 m_M_lost (xm_entry m_M_lost [.ref (A 6 0), .int t]) h (xq_i fun v h' => v = (o_lost m t).2 ∧ kW c R (o_lost m t).1 A h' ∧ h'.2 = h.2) := by
  show xm_S g 0 m_M_lost (0, [some (.ref (A 6 0)), some (.int t)], []) h _
  refine xr_aload_n d_M_lost_0 rfl ?_
  refine xr_iconst (v := 0) d_M_lost_1 rfl ?_
  refine kr_pm (m' := m) hW d_M_lost_2 xf_5_75 (by decide) rfl rfl (fun h1 hW he0 => ?_)
  refine xr_iload_n d_M_lost_5 rfl ?_
  refine xr_iconst (v := 1) d_M_lost_6 rfl ?_
  refine xr_icmp_lt (tgt := 16) d_M_lost_7 rfl (fun c7 => ?_) (fun c7 => ?_)
  · have w : o_lost m t = (m, 0) := if_pos (Or.inl c7)
    refine xr_iconst (v := 0) d_M_lost_16 rfl ?_
    refine xr_ireturn d_M_lost_17 rfl rfl rfl ?_
    rw [w]
    exact ⟨_, rfl, rfl, hW, he0⟩
  · refine xr_iload_n d_M_lost_10 rfl ?_
    refine xr_bipush (v := 100) d_M_lost_11 rfl ?_
    refine xr_icmp_le (tgt := 18) d_M_lost_13 rfl (fun c13 => ?_) (fun c13 => ?_)
    · have w : o_lost m t = ((m.1, (kc m, t), kF m), 1) := if_neg (fun q => q.elim c7 (ki_nlt.mpr c13))
      refine xr_aload_n d_M_lost_18 rfl ?_
      refine xr_iload_n d_M_lost_19 rfl ?_
      refine kr_pm (m' := (m.1, (kc m, t), kF m)) hW d_M_lost_20 xf_5_7 (by decide) rfl rfl (fun h2 hW he1 => ?_)
      refine xr_iconst (v := 1) d_M_lost_23 rfl ?_
      refine xr_ireturn d_M_lost_24 rfl rfl rfl ?_
      rw [w]
      exact ⟨_, rfl, rfl, hW, he1.trans he0⟩
    · have w : o_lost m t = (m, 0) := if_pos (Or.inr (ki_nle.mp c13))
      refine xr_iconst (v := 0) d_M_lost_16 rfl ?_
      refine xr_ireturn d_M_lost_17 rfl rfl rfl ?_
      rw [w]
      exact ⟨_, rfl, rfl, hW, he0⟩
theorem m_beat {g : xm_G} {h : xm_H} {c m : kS} {R : Nat → Option Nat} {A : kA} (hW : kW c R m A h) (hB : kMb m) {a : Int32} : xm_S g 1 m_M_beat (xm_entry m_M_beat [.ref (A 6 0), .int a]) h (xq_i fun v h' => v = (o_beat m a).2 ∧ kW c R (o_beat m a).1 A h' ∧ h'.2 = h.2) := by
  show xm_S g 1 m_M_beat (0, [some (.ref (A 6 0)), some (.int a)], []) h _
  refine xr_aload_n d_M_beat_0 rfl ?_
  refine xr_iconst (v := 0) d_M_beat_1 rfl ?_
  refine kr_pm (m' := m) hW d_M_beat_2 xf_5_75 (by decide) rfl rfl (fun h1 hW he0 => ?_)
  refine xr_aload_n d_M_beat_5 rfl ?_
  refine xr_iload_n d_M_beat_6 rfl ?_
  refine xr_V1i d_M_beat_7 xv_5_124 hW.ref rfl rfl (Nat.le_of_ble_eq_true rfl) (by decide) (q_isRunner hW) (fun v h2 h9 => ?_)
  obtain ⟨rfl, e9⟩ := h9
  have e9 := e9.symm
  subst e9
  refine xr_if_eq (tgt := 23) d_M_beat_10 rfl (fun c10 => ?_) (fun c10 => ?_)
  · have w : o_beat m a = (m, 0) := if_neg (fun q => kbi_0.mp c10 q.1)
    refine xr_iconst (v := 0) d_M_beat_23 rfl ?_
    refine xr_ireturn d_M_beat_24 rfl rfl rfl ?_
    rw [w]
    exact ⟨_, rfl, rfl, hW, he0⟩
  · have hin := kbi_n0 c10
    obtain ⟨u, hu, rfl⟩ := k_in_ex (by omega) (kbi_n0 c10)
    have hnu : k_n (nI u) = u := nI_clamp (by omega)
    refine xr_aload_n d_M_beat_13 rfl ?_
    refine xr_getf d_M_beat_14 xf_5_72 hW.ref rfl ?_
    refine xr_iload_n d_M_beat_17 rfl ?_
    refine kr_ild hW (f := 19) (by decide) rfl d_M_beat_18 (n := u) rfl (show u < 6 by omega) ?_
    refine xr_iconst (v := -1) d_M_beat_19 rfl ?_
    refine xr_icmp_ne (tgt := 25) d_M_beat_20 rfl (fun c20 => ?_) (fun c20 => ?_)
    · have w : o_beat m (nI u) = (kw m 18 u (kc m), 1) := by
        unfold o_beat
        rw [hnu, if_pos ⟨hin, c20⟩]
      refine xr_aload_n d_M_beat_25 rfl ?_
      refine xr_getf d_M_beat_26 xf_5_69 hW.ref rfl ?_
      refine xr_iload_n d_M_beat_29 rfl ?_
      refine xr_aload_n d_M_beat_30 rfl ?_
      refine xr_getf d_M_beat_31 xf_5_91 hW.ref rfl ?_
      refine kr_ist hW (f := 18) (by decide) rfl d_M_beat_34 (n := u) rfl (show u < 6 by omega) (fun h9s hW he9 => ?_)
      have he1 := he9
      refine xr_iconst (v := 1) d_M_beat_35 rfl ?_
      refine xr_ireturn d_M_beat_36 rfl rfl rfl ?_
      rw [w]
      exact ⟨_, rfl, rfl, hW, he1.trans he0⟩
    · have w : o_beat m (nI u) = (m, 0) := by
        unfold o_beat
        rw [hnu, if_neg (fun q => q.2 c20)]
      refine xr_iconst (v := 0) d_M_beat_23 rfl ?_
      refine xr_ireturn d_M_beat_24 rfl rfl rfl ?_
      rw [w]
      exact ⟨_, rfl, rfl, hW, he0⟩
theorem ql_verdict {g : xm_G} {h h0 : xm_H} {c m : kS} {R : Nat → Option Nat} {A : kA} (hW : kW c R m A h) (he : h.2 = h0.2) (hB : kMb m) {r : Nat} (hr : r < 10) (ho : k_over m r) : ∀ (n : Nat) (j : Nat) (b2 : Int32), j ≤ kj m → kj m < j + n → b2 = kbi (¬ ∀ k, k < j → ¬ kF m 9 (12 * r + k) = 4) → xm_S g 1 m_M_verdict (29, [some (.ref (A 6 0)), some (.int (nI r)), some (.int b2), some (.int (nI j))], []) h (xq_i fun v h' => v = k_judge m r ∧ kW c R m A h' ∧ h'.2 = h0.2) := by
  intro n
  induction n with
  | zero => intros; omega
  | succ n ih =>
    intro j b2 h1 h2 e2
    refine xr_iload_n d_M_verdict_29 rfl ?_
    refine xr_aload_n d_M_verdict_30 rfl ?_
    refine xr_getf d_M_verdict_31 xf_5_78 hW.ref rfl ?_
    refine xr_icmp_ge (tgt := 68) d_M_verdict_34 rfl (fun c34 => ?_) (fun c34 => ?_)
    · have hje : j = kj m := by have := k_ge_ge (by omega) c34; omega
      subst hje
      have w0 : k_judge m r = if ¬ kF m 8 r = 0 then 3 else if k_anyf m r then 2 else 1 := if_neg (fun q => q ho)
      refine xr_aload_n d_M_verdict_68 rfl ?_
      refine xr_getf d_M_verdict_69 xf_5_39 hW.ref rfl ?_
      refine xr_iload_n d_M_verdict_72 rfl ?_
      refine kr_zld hW (f := 8) (by decide) rfl d_M_verdict_73 (n := r) rfl (show r < 10 from hr) ?_
      refine xr_if_eq (tgt := 81) d_M_verdict_74 rfl (fun c74 => ?_) (fun c74 => ?_)
      · refine xr_iload_n d_M_verdict_81 rfl ?_
        refine xr_if_eq (tgt := 89) d_M_verdict_82 rfl (fun c82 => ?_) (fun c82 => ?_)
        · have w : k_judge m r = 1 := by rw [w0, if_neg (fun q => q c74), if_neg (kbi_0.mp (e2.symm.trans c82))]
          refine xr_iconst (v := 1) d_M_verdict_89 rfl ?_
          refine xr_ireturn d_M_verdict_90 rfl rfl rfl ?_
          exact ⟨_, rfl, w.symm, hW, he⟩
        · have w : k_judge m r = 2 := by rw [w0, if_neg (fun q => q c74), if_pos (kbi_n0 (fun z => c82 (e2.trans z)))]
          refine xr_iconst (v := 2) d_M_verdict_85 rfl ?_
          refine xr_goto (tgt := 90) d_M_verdict_86 rfl ?_
          refine xr_ireturn d_M_verdict_90 rfl rfl rfl ?_
          exact ⟨_, rfl, w.symm, hW, he⟩
      · have w : k_judge m r = 3 := w0.trans (if_pos c74)
        refine xr_iconst (v := 3) d_M_verdict_77 rfl ?_
        refine xr_goto (tgt := 90) d_M_verdict_78 rfl ?_
        refine xr_ireturn d_M_verdict_90 rfl rfl rfl ?_
        exact ⟨_, rfl, w.symm, hW, he⟩
    · have hjl : j < kj m := k_ge_lt (by omega) (by omega) c34
      refine xr_iload_n d_M_verdict_37 rfl ?_
      refine xr_if_ne (tgt := 56) d_M_verdict_38 rfl (fun c38 => ?_) (fun c38 => ?_)
      · have w2 : kbi (¬ ∀ k, k < j + 1 → ¬ kF m 9 (12 * r + k) = 4) = 1 := kbi_t (fun q => kbi_n0 (fun z => c38 (e2.trans z)) (fun k hk => q k (by omega)))
        refine xr_iconst (v := 1) d_M_verdict_56 rfl ?_
        refine xr_goto (tgt := 61) d_M_verdict_57 rfl ?_
        refine xr_istore_n d_M_verdict_61 (Nat.le_of_ble_eq_true rfl) ?_
        refine xr_iinc1 d_M_verdict_62 rfl ?_
        refine xr_goto (tgt := 29) d_M_verdict_65 rfl ?_
        rw [nI_1]
        exact ih (j + 1) _ (by omega) (by omega) w2.symm
      · refine xr_aload_n d_M_verdict_41 rfl ?_
        refine xr_getf d_M_verdict_42 xf_5_42 hW.ref rfl ?_
        refine xr_bipush (v := 12) d_M_verdict_45 rfl ?_
        refine xr_iload_n d_M_verdict_47 rfl ?_
        refine xr_imul d_M_verdict_48 ?_
        refine xr_iload_n d_M_verdict_49 rfl ?_
        refine xr_iadd d_M_verdict_50 ?_
        refine kr_ild hW (f := 9) (by decide) rfl d_M_verdict_51 (n := 12 * r + j) kx_i (show 12 * r + j < 120 by omega) ?_
        refine xr_iconst (v := 4) d_M_verdict_52 rfl ?_
        refine xr_icmp_ne (tgt := 60) d_M_verdict_53 rfl (fun c53 => ?_) (fun c53 => ?_)
        · have w2 : kbi (¬ ∀ k, k < j + 1 → ¬ kF m 9 (12 * r + k) = 4) = 0 := kbi_f (fun q => q (kq_s.mpr ⟨Classical.byContradiction (kbi_0.mp (e2.symm.trans c38)), c53⟩))
          refine xr_iconst (v := 0) d_M_verdict_60 rfl ?_
          refine xr_istore_n d_M_verdict_61 (Nat.le_of_ble_eq_true rfl) ?_
          refine xr_iinc1 d_M_verdict_62 rfl ?_
          refine xr_goto (tgt := 29) d_M_verdict_65 rfl ?_
          rw [nI_1]
          exact ih (j + 1) _ (by omega) (by omega) w2.symm
        · have w2 : kbi (¬ ∀ k, k < j + 1 → ¬ kF m 9 (12 * r + k) = 4) = 1 := kbi_t (fun q => q j (by omega) c53)
          refine xr_iconst (v := 1) d_M_verdict_56 rfl ?_
          refine xr_goto (tgt := 61) d_M_verdict_57 rfl ?_
          refine xr_istore_n d_M_verdict_61 (Nat.le_of_ble_eq_true rfl) ?_
          refine xr_iinc1 d_M_verdict_62 rfl ?_
          refine xr_goto (tgt := 29) d_M_verdict_65 rfl ?_
          rw [nI_1]
          exact ih (j + 1) _ (by omega) (by omega) w2.symm
theorem m_verdict {g : xm_G} {h : xm_H} {c m : kS} {R : Nat → Option Nat} {A : kA} (hW : kW c R m A h) (hB : kMb m) {a : Int32} : xm_S g 2 m_M_verdict (xm_entry m_M_verdict [.ref (A 6 0), .int a]) h (xq_i fun v h' => v = k_verd m a ∧ kW c R m A h' ∧ h'.2 = h.2) := by
  show xm_S g 2 m_M_verdict (0, [some (.ref (A 6 0)), some (.int a), none, none], []) h _
  refine xr_aload_n d_M_verdict_0 rfl ?_
  refine xr_iconst (v := 0) d_M_verdict_1 rfl ?_
  refine kr_pm (m' := m) hW d_M_verdict_2 xf_5_75 (by decide) rfl rfl (fun h1 hW he0 => ?_)
  refine xr_aload_n d_M_verdict_5 rfl ?_
  refine xr_iload_n d_M_verdict_6 rfl ?_
  refine xr_V1i d_M_verdict_7 xv_5_117 hW.ref rfl rfl (Nat.le_of_ble_eq_true rfl) (by decide) (q_isRun hW) (fun v h2 h9 => ?_)
  obtain ⟨rfl, e9⟩ := h9
  have e9 := e9.symm
  subst e9
  refine xr_if_ne (tgt := 15) d_M_verdict_10 rfl (fun c10 => ?_) (fun c10 => ?_)
  · have hin := kbi_n0 c10
    obtain ⟨r, hr, rfl⟩ := k_in_ex (by omega) hin
    have hnr : k_n (nI r) = r := nI_clamp (by omega)
    have w0 : k_verd m (nI r) = k_judge m r := by unfold k_verd; rw [if_pos hin, hnr]
    refine xr_aload_n d_M_verdict_15 rfl ?_
    refine xr_iload_n d_M_verdict_16 rfl ?_
    refine xr_V1i d_M_verdict_17 xv_5_108 hW.ref rfl rfl (Nat.le_of_ble_eq_true rfl) (by decide) (q_isOver hW hB (r := r) (by omega)) (fun v h2 h9 => ?_)
    obtain ⟨rfl, e9⟩ := h9
    have e9 := e9.symm
    subst e9
    refine xr_if_ne (tgt := 25) d_M_verdict_20 rfl (fun c20 => ?_) (fun c20 => ?_)
    · refine xr_iconst (v := 0) d_M_verdict_25 rfl ?_
      refine xr_istore_n d_M_verdict_26 (Nat.le_of_ble_eq_true rfl) ?_
      refine xr_iconst (v := 0) d_M_verdict_27 rfl ?_
      refine xr_istore_n d_M_verdict_28 (Nat.le_of_ble_eq_true rfl) ?_
      rw [w0]
      exact (ql_verdict (h0 := h) hW he0 hB (by omega) (kbi_n0 c20) (kj m + 1) 0 0 (by omega) (by omega) (kbi_f (fun q => q lt_0)).symm).up (by decide)
    · have w : k_verd m (nI r) = 0 := w0.trans (if_pos (kbi_0.mp c20))
      refine xr_iconst (v := 0) d_M_verdict_23 rfl ?_
      refine xr_ireturn d_M_verdict_24 rfl rfl rfl ?_
      exact ⟨_, rfl, w.symm, hW, he0⟩
  · have w : k_verd m a = -1 := if_neg (kbi_0.mp c10)
    refine xr_iconst (v := -1) d_M_verdict_13 rfl ?_
    refine xr_ireturn d_M_verdict_14 rfl rfl rfl ?_
    exact ⟨_, rfl, w.symm, hW, he0⟩
theorem m_cancel {g : xm_G} {h : xm_H} {c m : kS} {R : Nat → Option Nat} {A : kA} (hW : kW c R m A h) (hB : kMb m) {a : Int32} : xm_S g 3 m_M_cancel (xm_entry m_M_cancel [.ref (A 6 0), .int a]) h (xq_i fun v h' => v = (o_cancel m a).2 ∧ kW c R (o_cancel m a).1 A h' ∧ h'.2 = h.2) := by
  show xm_S g 3 m_M_cancel (0, [some (.ref (A 6 0)), some (.int a)], []) h _
  refine xr_aload_n d_M_cancel_0 rfl ?_
  refine xr_iconst (v := 0) d_M_cancel_1 rfl ?_
  refine kr_pm (m' := m) hW d_M_cancel_2 xf_5_75 (by decide) rfl rfl (fun h1 hW he0 => ?_)
  refine xr_aload_n d_M_cancel_5 rfl ?_
  refine xr_iload_n d_M_cancel_6 rfl ?_
  refine xr_V1i d_M_cancel_7 xv_5_117 hW.ref rfl rfl (Nat.le_of_ble_eq_true rfl) (by decide) (q_isRun hW) (fun v h2 h9 => ?_)
  obtain ⟨rfl, e9⟩ := h9
  have e9 := e9.symm
  subst e9
  refine xr_if_eq (tgt := 30) d_M_cancel_10 rfl (fun c10 => ?_) (fun c10 => ?_)
  · have w : o_cancel m a = (m, 0) := if_neg (fun q => kbi_0.mp c10 q.1)
    refine xr_iconst (v := 0) d_M_cancel_30 rfl ?_
    refine xr_ireturn d_M_cancel_31 rfl rfl rfl ?_
    rw [w]
    exact ⟨_, rfl, rfl, hW, he0⟩
  · have hin := kbi_n0 c10
    obtain ⟨r, hr, rfl⟩ := k_in_ex (by omega) hin
    have hnr : k_n (nI r) = r := nI_clamp (by omega)
    refine xr_aload_n d_M_cancel_13 rfl ?_
    refine xr_getf d_M_cancel_14 xf_5_39 hW.ref rfl ?_
    refine xr_iload_n d_M_cancel_17 rfl ?_
    refine kr_zld hW (f := 8) (by decide) rfl d_M_cancel_18 (n := r) rfl (show r < 10 by omega) ?_
    refine xr_if_ne (tgt := 30) d_M_cancel_19 rfl (fun c19 => ?_) (fun c19 => ?_)
    · have w : o_cancel m (nI r) = (m, 0) := by
        unfold o_cancel
        rw [hnr, if_neg (fun q => c19 q.2.1)]
      refine xr_iconst (v := 0) d_M_cancel_30 rfl ?_
      refine xr_ireturn d_M_cancel_31 rfl rfl rfl ?_
      rw [w]
      exact ⟨_, rfl, rfl, hW, he0⟩
    · refine xr_aload_n d_M_cancel_22 rfl ?_
      refine xr_iload_n d_M_cancel_23 rfl ?_
      refine xr_V1i d_M_cancel_24 xv_5_108 hW.ref rfl rfl (Nat.le_of_ble_eq_true rfl) (by decide) (q_isOver hW hB (r := r) (by omega)) (fun v h2 h9 => ?_)
      obtain ⟨rfl, e9⟩ := h9
      have e9 := e9.symm
      subst e9
      refine xr_if_eq (tgt := 32) d_M_cancel_27 rfl (fun c27 => ?_) (fun c27 => ?_)
      · have w : o_cancel m (nI r) = (k_settle (k_stop m r), 1) := by
          unfold o_cancel
          rw [hnr, if_pos ⟨hin, c19, kbi_0.mp c27⟩]
        refine xr_aload_n d_M_cancel_32 rfl ?_
        refine xr_iload_n d_M_cancel_33 rfl ?_
        refine xr_V1v d_M_cancel_34 xv_5_111 hW.ref rfl rfl (Nat.le_of_ble_eq_true rfl) (by decide) (q_stop hW hB (r := r) (by omega)) (fun h9s h9 => ?_)
        obtain ⟨hW, he1⟩ := h9
        have hB2 : kMb (k_stop m r) := by unfold kMb kj kr kq at *; rw [k_stop_1]; exact hB
        refine xr_aload_n d_M_cancel_37 rfl ?_
        refine xr_V0v d_M_cancel_38 xv_5_114 hW.ref rfl (Nat.le_of_ble_eq_true rfl) (by decide) (q_settle hW hB2) (fun h9s h9 => ?_)
        obtain ⟨hW, he2⟩ := h9
        refine xr_iconst (v := 1) d_M_cancel_41 rfl ?_
        refine xr_ireturn d_M_cancel_42 rfl rfl rfl ?_
        rw [w]
        exact ⟨_, rfl, rfl, hW, he2.trans (he1.trans he0)⟩
      · have w : o_cancel m (nI r) = (m, 0) := by
          unfold o_cancel
          rw [hnr, if_neg (fun q => q.2.2 (kbi_n0 c27))]
        refine xr_iconst (v := 0) d_M_cancel_30 rfl ?_
        refine xr_ireturn d_M_cancel_31 rfl rfl rfl ?_
        rw [w]
        exact ⟨_, rfl, rfl, hW, he0⟩
theorem ql_again {g : xm_G} {h0 : xm_H} {c m : kS} {R : Nat → Option Nat} {A : kA} (hB : kMb m) {r : Nat} (hr : r < 10) : ∀ (n : Nat) (j : Nat) (x4 : Option Value) (h : xm_H), kW c R (k_agN m r j) A h → h.2 = h0.2 → j ≤ kj m → kj m < j + n → xm_S g 3 m_M_again (36, [some (.ref (A 6 0)), some (.int (nI r)), some (.int (k_agC m r j)), some (.int (nI j)), x4], []) h (xq_i fun v h' => v = k_agC m r (kj m) ∧ kW c R (k_settle (k_agN m r (kj m))) A h' ∧ h'.2 = h0.2) := by
  intro n
  induction n with
  | zero => intros; omega
  | succ n ih =>
    intro j x4 h hW he h1 h2
    have e1 := k_agN_1 m r j
    have hk : k_agN m r (j + 1) = k_ag1 (k_agN m r j) (12 * r + j) := rfl
    have hkC : k_agC m r (j + 1) = if k_re (k_agN m r j) (12 * r + j) then k_agC m r j + 1 else k_agC m r j := rfl
    generalize hC : k_agN m r j = C at *
    have hkj : kj C = kj m := congrArg (fun z => z.1) e1
    have hBC : kMb C := by unfold kMb kj kr kq at *; rw [e1]; exact hB
    rw [← hkj] at h1 h2
    have hB1 := hBC.1
    refine xr_iload_n d_M_again_36 rfl ?_
    refine xr_aload_n d_M_again_37 rfl ?_
    refine xr_getf d_M_again_38 xf_5_78 hW.ref rfl ?_
    refine xr_icmp_ge (tgt := 110) d_M_again_41 rfl (fun c41 => ?_) (fun c41 => ?_)
    · have hje : j = kj C := by have := k_ge_ge (by omega) c41; omega
      refine xr_aload_n d_M_again_110 rfl ?_
      refine xr_V0v d_M_again_111 xv_5_114 hW.ref rfl (Nat.le_of_ble_eq_true rfl) (by decide) (q_settle hW hBC) (fun h9s h9 => ?_)
      obtain ⟨hW, he1⟩ := h9
      refine xr_iload_n d_M_again_114 rfl ?_
      refine xr_ireturn d_M_again_115 rfl rfl rfl ?_
      refine ⟨_, rfl, by rw [← hkj, ← hje], ?_, he1.trans he⟩
      rw [← hkj, ← hje, hC]
      exact hW
    · have hjl : j < kj C := k_ge_lt (by omega) (by omega) c41
      refine xr_bipush (v := 12) d_M_again_44 rfl ?_
      refine xr_iload_n d_M_again_46 rfl ?_
      refine xr_imul d_M_again_47 ?_
      refine xr_iload_n d_M_again_48 rfl ?_
      refine xr_iadd d_M_again_49 ?_
      rw [kx_i]
      refine xr_istore d_M_again_50 (Nat.le_of_ble_eq_true rfl) ?_
      refine xr_aload_n d_M_again_52 rfl ?_
      refine xr_getf d_M_again_53 xf_5_42 hW.ref rfl ?_
      refine xr_iload d_M_again_56 rfl ?_
      refine kr_ild hW (f := 9) (by decide) rfl d_M_again_58 (n := 12 * r + j) rfl (show 12 * r + j < 120 by omega) ?_
      refine xr_iconst (v := 4) d_M_again_59 rfl ?_
      refine xr_icmp_eq (tgt := 77) d_M_again_60 rfl (fun c60 => ?_) (fun c60 => ?_)
      · have hre : k_re C (12 * r + j) := Or.inl c60
        have hnx : k_agN m r (j + 1) = kw (kw (kw C 9 (12 * r + j) 0) 12 (12 * r + j) 0) 14 (12 * r + j) 0 := hk.trans (if_pos hre)
        have hnc : k_agC m r (j + 1) = k_agC m r j + 1 := hkC.trans (if_pos hre)
        refine xr_aload_n d_M_again_77 rfl ?_
        refine xr_getf d_M_again_78 xf_5_42 hW.ref rfl ?_
        refine xr_iload d_M_again_81 rfl ?_
        refine xr_iconst (v := 0) d_M_again_83 rfl ?_
        refine kr_ist hW (f := 9) (by decide) rfl d_M_again_84 (n := 12 * r + j) rfl (show 12 * r + j < 120 by omega) (fun h9s hW he9 => ?_)
        have he := he9.trans he
        refine xr_aload_n d_M_again_85 rfl ?_
        refine xr_getf d_M_again_86 xf_5_51 hW.ref rfl ?_
        refine xr_iload d_M_again_89 rfl ?_
        refine xr_iconst (v := 0) d_M_again_91 rfl ?_
        refine kr_ist hW (f := 12) (by decide) rfl d_M_again_92 (n := 12 * r + j) rfl (show 12 * r + j < 120 by omega) (fun h9s hW he9 => ?_)
        have he := he9.trans he
        refine xr_aload_n d_M_again_93 rfl ?_
        refine xr_getf d_M_again_94 xf_5_57 hW.ref rfl ?_
        refine xr_iload d_M_again_97 rfl ?_
        refine xr_iconst (v := 0) d_M_again_99 rfl ?_
        refine kr_ist hW (f := 14) (by decide) rfl d_M_again_100 (n := 12 * r + j) rfl (show 12 * r + j < 120 by omega) (fun h9s hW he9 => ?_)
        have he := he9.trans he
        refine xr_iinc1 d_M_again_101 rfl ?_
        refine xr_iinc1 d_M_again_104 rfl ?_
        refine xr_goto (tgt := 36) d_M_again_107 rfl ?_
        rw [nI_1, ← hnc]
        exact ih (j + 1) _ _ (by rw [hnx]; exact hW) he (by omega) (by omega)
      · refine xr_aload_n d_M_again_63 rfl ?_
        refine xr_getf d_M_again_64 xf_5_42 hW.ref rfl ?_
        refine xr_iload d_M_again_67 rfl ?_
        refine kr_ild hW (f := 9) (by decide) rfl d_M_again_69 (n := 12 * r + j) rfl (show 12 * r + j < 120 by omega) ?_
        refine xr_iconst (v := 5) d_M_again_70 rfl ?_
        refine xr_icmp_eq (tgt := 77) d_M_again_71 rfl (fun c71 => ?_) (fun c71 => ?_)
        · have hre : k_re C (12 * r + j) := Or.inr c71
          have hnx : k_agN m r (j + 1) = kw (kw (kw C 9 (12 * r + j) 0) 12 (12 * r + j) 0) 14 (12 * r + j) 0 := hk.trans (if_pos hre)
          have hnc : k_agC m r (j + 1) = k_agC m r j + 1 := hkC.trans (if_pos hre)
          refine xr_aload_n d_M_again_77 rfl ?_
          refine xr_getf d_M_again_78 xf_5_42 hW.ref rfl ?_
          refine xr_iload d_M_again_81 rfl ?_
          refine xr_iconst (v := 0) d_M_again_83 rfl ?_
          refine kr_ist hW (f := 9) (by decide) rfl d_M_again_84 (n := 12 * r + j) rfl (show 12 * r + j < 120 by omega) (fun h9s hW he9 => ?_)
          have he := he9.trans he
          refine xr_aload_n d_M_again_85 rfl ?_
          refine xr_getf d_M_again_86 xf_5_51 hW.ref rfl ?_
          refine xr_iload d_M_again_89 rfl ?_
          refine xr_iconst (v := 0) d_M_again_91 rfl ?_
          refine kr_ist hW (f := 12) (by decide) rfl d_M_again_92 (n := 12 * r + j) rfl (show 12 * r + j < 120 by omega) (fun h9s hW he9 => ?_)
          have he := he9.trans he
          refine xr_aload_n d_M_again_93 rfl ?_
          refine xr_getf d_M_again_94 xf_5_57 hW.ref rfl ?_
          refine xr_iload d_M_again_97 rfl ?_
          refine xr_iconst (v := 0) d_M_again_99 rfl ?_
          refine kr_ist hW (f := 14) (by decide) rfl d_M_again_100 (n := 12 * r + j) rfl (show 12 * r + j < 120 by omega) (fun h9s hW he9 => ?_)
          have he := he9.trans he
          refine xr_iinc1 d_M_again_101 rfl ?_
          refine xr_iinc1 d_M_again_104 rfl ?_
          refine xr_goto (tgt := 36) d_M_again_107 rfl ?_
          rw [nI_1, ← hnc]
          exact ih (j + 1) _ _ (by rw [hnx]; exact hW) he (by omega) (by omega)
        · have hnx : k_agN m r (j + 1) = C := hk.trans (if_neg (fun q => q.elim c60 c71))
          have hnc : k_agC m r (j + 1) = k_agC m r j := hkC.trans (if_neg (fun q => q.elim c60 c71))
          refine xr_goto (tgt := 104) d_M_again_74 rfl ?_
          refine xr_iinc1 d_M_again_104 rfl ?_
          refine xr_goto (tgt := 36) d_M_again_107 rfl ?_
          rw [nI_1, ← hnc]
          exact ih (j + 1) _ _ (by rw [hnx]; exact hW) he (by omega) (by omega)
theorem m_again {g : xm_G} {h : xm_H} {c m : kS} {R : Nat → Option Nat} {A : kA} (hW : kW c R m A h) (hB : kMb m) {a : Int32} : xm_S g 3 m_M_again (xm_entry m_M_again [.ref (A 6 0), .int a]) h (xq_i fun v h' => v = (o_again m a).2 ∧ kW c R (o_again m a).1 A h' ∧ h'.2 = h.2) := by
  show xm_S g 3 m_M_again (0, [some (.ref (A 6 0)), some (.int a), none, none, none], []) h _
  refine xr_aload_n d_M_again_0 rfl ?_
  refine xr_iconst (v := 0) d_M_again_1 rfl ?_
  refine kr_pm (m' := m) hW d_M_again_2 xf_5_75 (by decide) rfl rfl (fun h1 hW he0 => ?_)
  refine xr_aload_n d_M_again_5 rfl ?_
  refine xr_iload_n d_M_again_6 rfl ?_
  refine xr_V1i d_M_again_7 xv_5_117 hW.ref rfl rfl (Nat.le_of_ble_eq_true rfl) (by decide) (q_isRun hW) (fun v h2 h9 => ?_)
  obtain ⟨rfl, e9⟩ := h9
  have e9 := e9.symm
  subst e9
  refine xr_if_eq (tgt := 30) d_M_again_10 rfl (fun c10 => ?_) (fun c10 => ?_)
  · have w : o_again m a = (m, -1) := if_neg (fun q => kbi_0.mp c10 q.1)
    refine xr_iconst (v := -1) d_M_again_30 rfl ?_
    refine xr_ireturn d_M_again_31 rfl rfl rfl ?_
    rw [w]
    exact ⟨_, rfl, rfl, hW, he0⟩
  · have hin := kbi_n0 c10
    obtain ⟨r, hr, rfl⟩ := k_in_ex (by omega) hin
    have hnr : k_n (nI r) = r := nI_clamp (by omega)
    refine xr_aload_n d_M_again_13 rfl ?_
    refine xr_getf d_M_again_14 xf_5_39 hW.ref rfl ?_
    refine xr_iload_n d_M_again_17 rfl ?_
    refine kr_zld hW (f := 8) (by decide) rfl d_M_again_18 (n := r) rfl (show r < 10 by omega) ?_
    refine xr_if_ne (tgt := 30) d_M_again_19 rfl (fun c19 => ?_) (fun c19 => ?_)
    · have w : o_again m (nI r) = (m, -1) := by
        unfold o_again
        rw [hnr, if_neg (fun q => c19 q.2.1)]
      refine xr_iconst (v := -1) d_M_again_30 rfl ?_
      refine xr_ireturn d_M_again_31 rfl rfl rfl ?_
      rw [w]
      exact ⟨_, rfl, rfl, hW, he0⟩
    · refine xr_aload_n d_M_again_22 rfl ?_
      refine xr_iload_n d_M_again_23 rfl ?_
      refine xr_V1i d_M_again_24 xv_5_108 hW.ref rfl rfl (Nat.le_of_ble_eq_true rfl) (by decide) (q_isOver hW hB (r := r) (by omega)) (fun v h2 h9 => ?_)
      obtain ⟨rfl, e9⟩ := h9
      have e9 := e9.symm
      subst e9
      refine xr_if_ne (tgt := 32) d_M_again_27 rfl (fun c27 => ?_) (fun c27 => ?_)
      · have w : o_again m (nI r) = (k_settle (k_agN m r (kj m)), k_agC m r (kj m)) := by
          unfold o_again
          rw [hnr, if_pos ⟨hin, c19, kbi_n0 c27⟩]
        refine xr_iconst (v := 0) d_M_again_32 rfl ?_
        refine xr_istore_n d_M_again_33 (Nat.le_of_ble_eq_true rfl) ?_
        refine xr_iconst (v := 0) d_M_again_34 rfl ?_
        refine xr_istore_n d_M_again_35 (Nat.le_of_ble_eq_true rfl) ?_
        rw [w]
        exact ql_again (h0 := h) hB (by omega) (kj m + 1) 0 none h1 hW he0 (by omega) (by omega)
      · have w : o_again m (nI r) = (m, -1) := by
          unfold o_again
          rw [hnr, if_neg (fun q => kbi_0.mp c27 q.2.2)]
        refine xr_iconst (v := -1) d_M_again_30 rfl ?_
        refine xr_ireturn d_M_again_31 rfl rfl rfl ?_
        rw [w]
        exact ⟨_, rfl, rfl, hW, he0⟩
