/-! a run's methods that write *or* find -/
theorem l_cancelAll {g : xm_G} {h0 : xm_H} {s m : kS} {A : kA} {r : Nat} (hr0 : r < kq s)  : ∀ (n : Nat) (j : Nat) (R : Nat → Option Nat) (h : xm_H), kW (k_stopN s r j) R m A h → kI (k_stopN s r j) R → h.2 = h0.2 → j ≤ kj s → kj s < j + n → xm_S g 1 m_Run_cancelAll (7, [some (.ref (A 3 r)), some (.int (nI j))], []) h (xq_v fun h' => ∃ R', kW (k_stopN s r (kj s)) R' m A h' ∧ kI (k_stopN s r (kj s)) R' ∧ h'.2 = h0.2) := by
  intro n
  induction n with
  | zero => intros; omega
  | succ n ih =>
    intro j R h hW hI he hj hn
    have e1 := k_stopN_1 s r j
    have hk : k_stopN s r (j + 1) = k_stop1 (k_stopN s r j) r j := rfl
    generalize hC : k_stopN s r j = C at *
    have hr : r < kq C := by rw [show kq C = kq s from congrArg (fun z => z.2.2) e1]; exact hr0
    have hkj : kj C = kj s := congrArg (fun z => z.1) e1
    rw [← hkj] at hj hn
    refine xr_iload_n d_Run_cancelAll_7 rfl ?_
    refine xr_aload_n d_Run_cancelAll_8 rfl ?_
    refine xr_getf d_Run_cancelAll_9 xf_1_27 (hW.run hr) rfl ?_
    refine xr_alen d_Run_cancelAll_12 (hW.tks hr) rfl ?_
    refine xr_icmp_ge (tgt := 69) d_Run_cancelAll_13 rfl (fun c13 => ?_) (fun c13 => ?_)
    · have hje : j = kj C := by
        rcases Nat.lt_or_ge j (kj C) with q | q
        · exact absurd c13 (nI_ge q (by have := hW.2.2.1; omega))
        · omega
      refine xr_return d_Run_cancelAll_69 rfl rfl ?_
      refine ⟨rfl, R, ?_, ?_, he⟩
      · rw [← hkj, ← hje, hC]; exact hW
      · rw [← hkj, ← hje, hC]; exact hI
    · have hjl : j < kj C := by
        rcases Nat.lt_or_ge j (kj C) with q | q
        · exact q
        · exact absurd (nI_le q (by have := hW.2.2.1; omega)) c13
      have hxj := k_okx hW hr hjl
      have hm : (12 * r + j) % 12 = j := kx_m (by have := hW.2.2.1; omega)
      refine xr_aload_n d_Run_cancelAll_16 rfl ?_
      refine xr_getf d_Run_cancelAll_17 xf_1_27 (hW.run hr) rfl ?_
      refine xr_iload_n d_Run_cancelAll_20 rfl ?_
      refine kr_tks (j := j) hW hr d_Run_cancelAll_21 rfl hjl ?_
      refine xr_getf d_Run_cancelAll_22 xf_1_44 (hW.tsk hxj) rfl ?_
      refine xr_getf d_Run_cancelAll_25 xf_1_48 (hW.job hxj.2) rfl ?_
      rw [hm]
      refine xr_if_ne (tgt := 63) d_Run_cancelAll_28 rfl (fun c28 => ?_) (fun c28 => ?_)
      · have hnx : k_stopN s r (j + 1) = C := hk.trans (if_pos (Or.inl c28))
        refine xr_iinc1 d_Run_cancelAll_63 rfl ?_
        refine xr_goto (tgt := 7) d_Run_cancelAll_66 rfl ?_
        rw [nI_1]
        exact ih (j + 1) _ _ (by rw [hnx]; exact hW) (by rw [hnx]; exact hI) he (by omega) (by omega)
      · refine xr_aload_n d_Run_cancelAll_31 rfl ?_
        refine xr_getf d_Run_cancelAll_32 xf_1_27 (hW.run hr) rfl ?_
        refine xr_iload_n d_Run_cancelAll_35 rfl ?_
        refine kr_tks (j := j) hW hr d_Run_cancelAll_36 rfl hjl ?_
        refine xr_V0i d_Run_cancelAll_37 xv_1_31 (hW.tsk hxj) rfl (Nat.le_of_ble_eq_true rfl) (by decide) (s_isEnded hW hxj) (fun v h1 h9 => ?_)
        obtain ⟨rfl, e9⟩ := h9
        have e9 := e9.symm
        subst e9
        refine xr_if_ne (tgt := 63) d_Run_cancelAll_40 rfl (fun c40 => ?_) (fun c40 => ?_)
        · have hnx : k_stopN s r (j + 1) = C := hk.trans (if_pos (Or.inr (kbi_n0 c40)))
          refine xr_iinc1 d_Run_cancelAll_63 rfl ?_
          refine xr_goto (tgt := 7) d_Run_cancelAll_66 rfl ?_
          rw [nI_1]
          exact ih (j + 1) _ _ (by rw [hnx]; exact hW) (by rw [hnx]; exact hI) he (by omega) (by omega)
        · refine xr_aload_n d_Run_cancelAll_43 rfl ?_
          refine xr_getf d_Run_cancelAll_44 xf_1_27 (hW.run hr) rfl ?_
          refine xr_iload_n d_Run_cancelAll_47 rfl ?_
          refine kr_tks (j := j) hW hr d_Run_cancelAll_48 rfl hjl ?_
          refine xr_V0v d_Run_cancelAll_49 xv_1_53 (hW.tsk hxj) rfl (Nat.le_of_ble_eq_true rfl) (by decide) (s_leave hW hxj (fun u q => (hI.2.1 _ u q).2.1)) (fun h1 h9 => ?_)
          obtain ⟨hW, he1⟩ := h9
          rw [hI.lv (by have := hI.x120 hxj; omega)] at hW
          refine xr_aload_n d_Run_cancelAll_52 rfl ?_
          refine xr_getf d_Run_cancelAll_53 xf_1_27 (hW.run hr) rfl ?_
          refine xr_iload_n d_Run_cancelAll_56 rfl ?_
          refine kr_tks (j := j) hW hr d_Run_cancelAll_57 rfl hjl ?_
          refine xr_bipush (v := 6) d_Run_cancelAll_58 rfl ?_
          refine kr_pt (f := 9) hW hxj d_Run_cancelAll_60 xf_1_35 (by decide) (fun h2 hW he2 => ?_)
          have hI := hI.cancel hxj (kbi_0.mp c40)
          have he := he2.trans (he1.trans he)
          have hnx : k_stopN s r (j + 1) = kw (k_free C (12 * r + j)) 9 (12 * r + j) 6 := hk.trans (if_neg (fun q => q.elim (fun z => z c28) (kbi_0.mp c40)))
          refine xr_iinc1 d_Run_cancelAll_63 rfl ?_
          refine xr_goto (tgt := 7) d_Run_cancelAll_66 rfl ?_
          rw [nI_1]
          exact ih (j + 1) _ _ (by rw [hnx]; exact hW) (by rw [hnx]; exact hI) he (by omega) (by omega)
theorem s_cancelAll {g : xm_G} {h : xm_H} {s m : kS} {R : Nat → Option Nat} {A : kA} (hW : kW s R m A h) {r : Nat} (hr : r < kq s) (hI : kI s R) : xm_S g 1 m_Run_cancelAll (xm_entry m_Run_cancelAll [.ref (A 3 r)]) h (xq_v fun h' => ∃ R', kW (k_stop s r) R' m A h' ∧ kI (k_stop s r) R' ∧ h'.2 = h.2) := by
  show xm_S g 1 m_Run_cancelAll (0, [some (.ref (A 3 r)), none], []) h _
  refine xr_aload_n d_Run_cancelAll_0 rfl ?_
  refine xr_iconst (v := 1) d_Run_cancelAll_1 rfl ?_
  refine kr_pcan hW hr d_Run_cancelAll_2 xf_1_9 rfl (fun h1 hW he => ?_)
  refine xr_iconst (v := 0) d_Run_cancelAll_5 rfl ?_
  refine xr_istore_n d_Run_cancelAll_6 (Nat.le_of_ble_eq_true rfl) ?_
  have e : k_stop s r = k_stopN (kw s 8 r 1) r (kj s) := (k_stop_c s r (kj s)).symm
  rw [e]
  exact (l_cancelAll (s := kw s 8 r 1) (h0 := h) hr (kj s + 1) 0 R h1 hW (hI.other (by omega)) he (by omega) (by show kj s < _; omega))
theorem l_settleTasks {g : xm_G} {h0 : xm_H} {s m : kS} {A : kA} {R : Nat → Option Nat} {r : Nat} (hr0 : r < kq s)  : ∀ (n : Nat) (j : Nat) (h : xm_H), kW (k_settleN s (12 * r + j)) R m A h → kI (k_settleN s (12 * r + j)) R → kI8 (k_settleN s (12 * r + j)) → h.2 = h0.2 → j ≤ kj s → kj s < j + n → xm_S g 3 m_Run_settleTasks (2, [some (.ref (A 3 r)), some (.int (nI j))], []) h (xq_v fun h' => kW (k_settleN s (12 * r + kj s)) R m A h' ∧ kI (k_settleN s (12 * r + kj s)) R ∧ kI8 (k_settleN s (12 * r + kj s)) ∧ h'.2 = h0.2) := by
  intro n
  induction n with
  | zero => intros; omega
  | succ n ih =>
    intro j h hW hI h8 he hj hn
    have e1 := k_settleN_1 s (12 * r + j)
    have hk : k_settleN s (12 * r + j + 1) = k_set1 (k_settleN s (12 * r + j)) (12 * r + j) := rfl
    generalize hC : k_settleN s (12 * r + j) = C at *
    have hr : r < kq C := by rw [show kq C = kq s from congrArg (fun z => z.2.2) e1]; exact hr0
    have hkj : kj C = kj s := congrArg (fun z => z.1) e1
    rw [← hkj] at hj hn
    refine xr_iload_n d_Run_settleTasks_2 rfl ?_
    refine xr_aload_n d_Run_settleTasks_3 rfl ?_
    refine xr_getf d_Run_settleTasks_4 xf_1_27 (hW.run hr) rfl ?_
    refine xr_alen d_Run_settleTasks_7 (hW.tks hr) rfl ?_
    refine xr_icmp_ge (tgt := 48) d_Run_settleTasks_8 rfl (fun c8 => ?_) (fun c8 => ?_)
    · have hje : j = kj C := by
        rcases Nat.lt_or_ge j (kj C) with q | q
        · exact absurd c8 (nI_ge q (by have := hW.2.2.1; omega))
        · omega
      refine xr_return d_Run_settleTasks_48 rfl rfl ?_
      refine ⟨rfl, ?_, ?_, ?_, he⟩
      · rw [← hkj, ← hje, hC]; exact hW
      · rw [← hkj, ← hje, hC]; exact hI
      · rw [← hkj, ← hje, hC]; exact h8
    · have hjl : j < kj C := by
        rcases Nat.lt_or_ge j (kj C) with q | q
        · exact q
        · exact absurd (nI_le q (by have := hW.2.2.1; omega)) c8
      have hxj := k_okx hW hr hjl
      have hm : (12 * r + j) % 12 = j := kx_m (by have := hW.2.2.1; omega)
      refine xr_aload_n d_Run_settleTasks_11 rfl ?_
      refine xr_getf d_Run_settleTasks_12 xf_1_27 (hW.run hr) rfl ?_
      refine xr_iload_n d_Run_settleTasks_15 rfl ?_
      refine kr_tks (j := j) hW hr d_Run_settleTasks_16 rfl hjl ?_
      refine xr_getf d_Run_settleTasks_17 xf_1_35 (hW.tsk hxj) rfl ?_
      refine xr_if_ne (tgt := 42) d_Run_settleTasks_20 rfl (fun c20 => ?_) (fun c20 => ?_)
      · have hnx : k_settleN s (12 * r + (j + 1)) = C := hk.trans (if_neg (fun q => c20 q.2))
        refine xr_iinc1 d_Run_settleTasks_42 rfl ?_
        refine xr_goto (tgt := 2) d_Run_settleTasks_45 rfl ?_
        rw [nI_1]
        exact ih (j + 1) _ (by rw [hnx]; exact hW) (by rw [hnx]; exact hI) (by rw [hnx]; exact h8) he (by omega) (by omega)
      · refine xr_aload_n d_Run_settleTasks_23 rfl ?_
        refine xr_getf d_Run_settleTasks_24 xf_1_27 (hW.run hr) rfl ?_
        refine xr_iload_n d_Run_settleTasks_27 rfl ?_
        refine kr_tks (j := j) hW hr d_Run_settleTasks_28 rfl hjl ?_
        refine xr_aload_n d_Run_settleTasks_29 rfl ?_
        refine xr_aload_n d_Run_settleTasks_30 rfl ?_
        refine xr_getf d_Run_settleTasks_31 xf_1_27 (hW.run hr) rfl ?_
        refine xr_iload_n d_Run_settleTasks_34 rfl ?_
        refine kr_tks (j := j) hW hr d_Run_settleTasks_35 rfl hjl ?_
        refine xr_V1i d_Run_settleTasks_36 xv_1_59 (hW.run hr) rfl rfl (Nat.le_of_ble_eq_true rfl) (by decide) (s_saw hW hr hjl (hI.2.2.2.2.2.2.2.2 _)) (fun v h1 h9 => ?_)
        obtain ⟨rfl, e9⟩ := h9
        have e9 := e9.symm
        subst e9
        have hd : (12 * r + j) / 12 = r := kx_d (by have := hI.1.1; omega)
        have hb := h8 _ hxj c20
        rw [hd, hm] at hb
        rw [hI.saw hjl hb]
        refine kr_pt (f := 9) hW hxj d_Run_settleTasks_39 xf_1_35 (by decide) (fun h2 hW he2 => ?_)
        have hnx : k_settleN s (12 * r + (j + 1)) = kw C 9 (12 * r + j) (k_bec C r j) := by
          refine hk.trans ?_
          unfold k_set1
          rw [if_pos ⟨hxj.2, c20⟩, hd, hm]
        have hnx2 : kw C 9 (12 * r + j) (k_bec C r j) = k_set1 C (12 * r + j) := hnx.symm.trans hk
        have hI := hI.set hxj.1
        have h8 := h8.set (12 * r + j)
        rw [← hnx2] at hI h8
        have he := he2.trans he
        refine xr_iinc1 d_Run_settleTasks_42 rfl ?_
        refine xr_goto (tgt := 2) d_Run_settleTasks_45 rfl ?_
        rw [nI_1]
        exact ih (j + 1) _ (by rw [hnx]; exact hW) (by rw [hnx]; exact hI) (by rw [hnx]; exact h8) he (by omega) (by omega)
theorem s_settleTasks {g : xm_G} {h : xm_H} {s m : kS} {R : Nat → Option Nat} {A : kA} {r : Nat} (hr : r < kq s) (hW : kW (k_settleN s (12 * r)) R m A h) (hI : kI (k_settleN s (12 * r)) R) (h8 : kI8 (k_settleN s (12 * r))) : xm_S g 3 m_Run_settleTasks (xm_entry m_Run_settleTasks [.ref (A 3 r)]) h (xq_v fun h' => kW (k_settleN s (12 * r + kj s)) R m A h' ∧ kI (k_settleN s (12 * r + kj s)) R ∧ kI8 (k_settleN s (12 * r + kj s)) ∧ h'.2 = h.2) := by
  show xm_S g 3 m_Run_settleTasks (0, [some (.ref (A 3 r)), none], []) h _
  refine xr_iconst (v := 0) d_Run_settleTasks_0 rfl ?_
  refine xr_istore_n d_Run_settleTasks_1 (Nat.le_of_ble_eq_true rfl) ?_
  exact l_settleTasks (h0 := h) hr (kj s + 1) 0 h hW hI h8 rfl (by omega) (by omega)
