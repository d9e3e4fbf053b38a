/-! a run's methods that write *or* find -/
theorem l_cancelAll {g : xm_G} {h0 : xm_H} {s m : kS} {A : kA} {r : Nat} (hr0 : r < kq s)  : ∀ (n : Nat) (j : Nat) (R : Nat → Option Nat) (h : xm_H), kW (k_stopN s r j) R m A h → kI (k_stopN s r j) R → h.2 = h0.2 → j ≤ kj s → kj s < j + n → xm_S g 1 m_Run_cancelAll (7, [some (.ref (A 3 r)), some (.int (nI j))], []) h (xq_v fun h' => ∃ R', kW (k_stopN s r (kj s)) R' m A h' ∧ kI (k_stopN s r (kj s)) R' ∧ h'.2 = h0.2) := by
  intro n
  induction n with
  | zero => intros; omega
  | succ n ih =>
    intro j R h hW hI he hj hn
    have e1 := k_stopN_1 s r j
    have hk : k_stopN s r (j + 1) = k_stop1 (k_stopN s r j) r j := rfl
    generalize hC : k_stopN s r j = C at *
    have hr : r < kq C := by rw [show kq C = kq s from congrArg (fun z => z.2.2) e1]; exact hr0
    have hkj : kj C = kj s := congrArg (fun z => z.1) e1
    rw [← hkj] at hj hn
    refine xr_iload_n d_Run_cancelAll_7 rfl ?_
    refine xr_aload_n d_Run_cancelAll_8 rfl ?_
    refine xr_getf d_Run_cancelAll_9 xf_1_27 (hW.run hr) rfl ?_
    refine xr_alen d_Run_cancelAll_12 (hW.tks hr) rfl ?_
    refine xr_icmp_ge (tgt := 69) d_Run_cancelAll_13 rfl (fun c13 => ?_) (fun c13 => ?_)
    · have hje : j = kj C := by
        rcases Nat.lt_or_ge j (kj C) with q | q
        · exact absurd c13 (nI_ge q (by have := hW.2.2.1; omega))
        · omega
      refine xr_return d_Run_cancelAll_69 rfl rfl ?_
      refine ⟨rfl, R, ?_, ?_, he⟩
      · rw [← hkj, ← hje, hC]; exact hW
      · rw [← hkj, ← hje, hC]; exact hI
    · have hjl : j < kj C := by
        rcases Nat.lt_or_ge j (kj C) with q | q
        · exact q
        · exact absurd (nI_le q (by have := hW.2.2.1; omega)) c13
      have hxj := k_okx hW hr hjl
      have hm : (12 * r + j) % 12 = j := kx_m (by have := hW.2.2.1; omega)
      refine xr_aload_n d_Run_cancelAll_16 rfl ?_
      refine xr_getf d_Run_cancelAll_17 xf_1_27 (hW.run hr) rfl ?_
      refine xr_iload_n d_Run_cancelAll_20 rfl ?_
      refine kr_tks (j := j) hW hr d_Run_cancelAll_21 rfl hjl ?_
      refine xr_getf d_Run_cancelAll_22 xf_1_44 (hW.tsk hxj) rfl ?_
      refine xr_getf d_Run_cancelAll_25 xf_1_48 (hW.job hxj.2) rfl ?_
      rw [hm]
      refine xr_if_ne (tgt := 63) d_Run_cancelAll_28 rfl (fun c28 => ?_) (fun c28 => ?_)
      · have hnx : k_stopN s r (j + 1) = C := hk.trans (if_pos (Or.inl c28))
        refine xr_iinc1 d_Run_cancelAll_63 rfl ?_
        refine xr_goto (tgt := 7) d_Run_cancelAll_66 rfl ?_
        rw [nI_1]
        exact ih (j + 1) _ _ (by rw [hnx]; exact hW) (by rw [hnx]; exact hI) he (by omega) (by omega)
      · refine xr_aload_n d_Run_cancelAll_31 rfl ?_
        refine xr_getf d_Run_cancelAll_32 xf_1_27 (hW.run hr) rfl ?_
        refine xr_iload_n d_Run_cancelAll_35 rfl ?_
        refine kr_tks (j := j) hW hr d_Run_cancelAll_36 rfl hjl ?_
        refine xr_V0i d_Run_cancelAll_37 xv_1_31 (hW.tsk hxj) rfl (Nat.le_of_ble_eq_true rfl) (by decide) (s_isEnded hW hxj) (fun v h1 h9 => ?_)
        obtain ⟨rfl, e9⟩ := h9
        have e9 := e9.symm
        subst e9
        refine xr_if_ne (tgt := 63) d_Run_cancelAll_40 rfl (fun c40 => ?_) (fun c40 => ?_)
        · have hnx : k_stopN s r (j + 1) = C := hk.trans (if_pos (Or.inr (kbi_n0 c40)))
          refine xr_iinc1 d_Run_cancelAll_63 rfl ?_
          refine xr_goto (tgt := 7) d_Run_cancelAll_66 rfl ?_
          rw [nI_1]
          exact ih (j + 1) _ _ (by rw [hnx]; exact hW) (by rw [hnx]; exact hI) he (by omega) (by omega)
        · refine xr_aload_n d_Run_cancelAll_43 rfl ?_
          refine xr_getf d_Run_cancelAll_44 xf_1_27 (hW.run hr) rfl ?_
          refine xr_iload_n d_Run_cancelAll_47 rfl ?_
          refine kr_tks (j := j) hW hr d_Run_cancelAll_48 rfl hjl ?_
          refine xr_V0v d_Run_cancelAll_49 xv_1_53 (hW.tsk hxj) rfl (Nat.le_of_ble_eq_true rfl) (by decide) (s_leave hW hxj (fun u q => (hI.2.1 _ u q).2.1)) (fun h1 h9 => ?_)
          obtain ⟨hW, he1⟩ := h9
          rw [hI.lv (by have := hI.x120 hxj; omega)] at hW
          refine xr_aload_n d_Run_cancelAll_52 rfl ?_
          refine xr_getf d_Run_cancelAll_53 xf_1_27 (hW.run hr) rfl ?_
          refine xr_iload_n d_Run_cancelAll_56 rfl ?_
          refine kr_tks (j := j) hW hr d_Run_cancelAll_57 rfl hjl ?_
          refine xr_bipush (v := 6) d_Run_cancelAll_58 rfl ?_
          refine kr_pt (f := 9) hW hxj d_Run_cancelAll_60 xf_1_35 (by decide) (fun h2 hW he2 => ?_)
          have hI := hI.cancel hxj (kbi_0.mp c40)
          have he := he2.trans (he1.trans he)
          have hnx : k_stopN s r (j + 1) = kw (k_free C (12 * r + j)) 9 (12 * r + j) 6 := hk.trans (if_neg (fun q => q.elim (fun z => z c28) (kbi_0.mp c40)))
          refine xr_iinc1 d_Run_cancelAll_63 rfl ?_
          refine xr_goto (tgt := 7) d_Run_cancelAll_66 rfl ?_
          rw [nI_1]
          exact ih (j + 1) _ _ (by rw [hnx]; exact hW) (by rw [hnx]; exact hI) he (by omega) (by omega)
theorem s_cancelAll {g : xm_G} {h : xm_H} {s m : kS} {R : Nat → Option Nat} {A : kA} (hW : kW s R m A h) {r : Nat} (hr : r < kq s) (hI : kI s R) : xm_S g 1 m_Run_cancelAll (xm_entry m_Run_cancelAll [.ref (A 3 r)]) h (xq_v fun h' => ∃ R', kW (k_stop s r) R' m A h' ∧ kI (k_stop s r) R' ∧ h'.2 = h.2) := by
  show xm_S g 1 m_Run_cancelAll (0, [some (.ref (A 3 r)), none], []) h _
  refine xr_aload_n d_Run_cancelAll_0 rfl ?_
  refine xr_iconst (v := 1) d_Run_cancelAll_1 rfl ?_
  refine kr_pcan hW hr d_Run_cancelAll_2 xf_1_9 rfl (fun h1 hW he => ?_)
  refine xr_iconst (v := 0) d_Run_cancelAll_5 rfl ?_
  refine xr_istore_n d_Run_cancelAll_6 (Nat.le_of_ble_eq_true rfl) ?_
  have e : k_stop s r = k_stopN (kw s 8 r 1) r (kj s) := (k_stop_c s r (kj s)).symm
  rw [e]
  exact (l_cancelAll (s := kw s 8 r 1) (h0 := h) hr (kj s + 1) 0 R h1 hW (hI.other (by omega)) he (by omega) (by show kj s < _; omega))
theorem l_settleTasks {g : xm_G} {h0 : xm_H} {s m : kS} {A : kA} {R : Nat → Option Nat} {r : Nat} (hr0 : r < kq s)  : ∀ (n : Nat) (j : Nat) (h : xm_H), kW (k_settleN s (12 * r + j)) R m A h → kI (k_settleN s (12 * r + j)) R → kI8 (k_settleN s (12 * r + j)) → h.2 = h0.2 → j ≤ kj s → kj s < j + n → xm_S g 3 m_Run_settleTasks (2, [some (.ref (A 3 r)), some (.int (nI j))], []) h (xq_v fun h' => kW (k_settleN s (12 * r + kj s)) R m A h' ∧ kI (k_settleN s (12 * r + kj s)) R ∧ kI8 (k_settleN s (12 * r + kj s)) ∧ h'.2 = h0.2) := by
  intro n
  induction n with
  | zero => intros; omega
  | succ n ih =>
    intro j h hW hI h8 he hj hn
    have e1 := k_settleN_1 s (12 * r + j)
    have hk : k_settleN s (12 * r + j + 1) = k_set1 (k_settleN s (12 * r + j)) (12 * r + j) := rfl
    generalize hC : k_settleN s (12 * r + j) = C at *
    have hr : r < kq C := by rw [show kq C = kq s from congrArg (fun z => z.2.2) e1]; exact hr0
    have hkj : kj C = kj s := congrArg (fun z => z.1) e1
    rw [← hkj] at hj hn
    refine xr_iload_n d_Run_settleTasks_2 rfl ?_
    refine xr_aload_n d_Run_settleTasks_3 rfl ?_
    refine xr_getf d_Run_settleTasks_4 xf_1_27 (hW.run hr) rfl ?_
    refine xr_alen d_Run_settleTasks_7 (hW.tks hr) rfl ?_
    refine xr_icmp_ge (tgt := 48) d_Run_settleTasks_8 rfl (fun c8 => ?_) (fun c8 => ?_)
    · have hje : j = kj C := by
        rcases Nat.lt_or_ge j (kj C) with q | q
        · exact absurd c8 (nI_ge q (by have := hW.2.2.1; omega))
        · omega
      refine xr_return d_Run_settleTasks_48 rfl rfl ?_
      refine ⟨rfl, ?_, ?_, ?_, he⟩
      · rw [← hkj, ← hje, hC]; exact hW
      · rw [← hkj, ← hje, hC]; exact hI
      · rw [← hkj, ← hje, hC]; exact h8
    · have hjl : j < kj C := by
        rcases Nat.lt_or_ge j (kj C) with q | q
        · exact q
        · exact absurd (nI_le q (by have := hW.2.2.1; omega)) c8
      have hxj := k_okx hW hr hjl
      have hm : (12 * r + j) % 12 = j := kx_m (by have := hW.2.2.1; omega)
      refine xr_aload_n d_Run_settleTasks_11 rfl ?_
      refine xr_getf d_Run_settleTasks_12 xf_1_27 (hW.run hr) rfl ?_
      refine xr_iload_n d_Run_settleTasks_15 rfl ?_
      refine kr_tks (j := j) hW hr d_Run_settleTasks_16 rfl hjl ?_
      refine xr_getf d_Run_settleTasks_17 xf_1_35 (hW.tsk hxj) rfl ?_
      refine xr_if_ne (tgt := 42) d_Run_settleTasks_20 rfl (fun c20 => ?_) (fun c20 => ?_)
      · have hnx : k_settleN s (12 * r + (j + 1)) = C := hk.trans (if_neg (fun q => c20 q.2))
        refine xr_iinc1 d_Run_settleTasks_42 rfl ?_
        refine xr_goto (tgt := 2) d_Run_settleTasks_45 rfl ?_
        rw [nI_1]
        exact ih (j + 1) _ (by rw [hnx]; exact hW) (by rw [hnx]; exact hI) (by rw [hnx]; exact h8) he (by omega) (by omega)
      · refine xr_aload_n d_Run_settleTasks_23 rfl ?_
        refine xr_getf d_Run_settleTasks_24 xf_1_27 (hW.run hr) rfl ?_
        refine xr_iload_n d_Run_settleTasks_27 rfl ?_
        refine kr_tks (j := j) hW hr d_Run_settleTasks_28 rfl hjl ?_
        refine xr_aload_n d_Run_settleTasks_29 rfl ?_
        refine xr_aload_n d_Run_settleTasks_30 rfl ?_
        refine xr_getf d_Run_settleTasks_31 xf_1_27 (hW.run hr) rfl ?_
        refine xr_iload_n d_Run_settleTasks_34 rfl ?_
        refine kr_tks (j := j) hW hr d_Run_settleTasks_35 rfl hjl ?_
        refine xr_V1i d_Run_settleTasks_36 xv_1_59 (hW.run hr) rfl rfl (Nat.le_of_ble_eq_true rfl) (by decide) (s_saw hW hr hjl (hI.2.2.2.2.2.2.2.2 _)) (fun v h1 h9 => ?_)
        obtain ⟨rfl, e9⟩ := h9
        have e9 := e9.symm
        subst e9
        have hd : (12 * r + j) / 12 = r := kx_d (by have := hI.1.1; omega)
        have hb := h8 _ hxj c20
        rw [hd, hm] at hb
        rw [hI.saw hjl hb]
        refine kr_pt (f := 9) hW hxj d_Run_settleTasks_39 xf_1_35 (by decide) (fun h2 hW he2 => ?_)
        have hnx : k_settleN s (12 * r + (j + 1)) = kw C 9 (12 * r + j) (k_bec C r j) := by
          refine hk.trans ?_
          unfold k_set1
          rw [if_pos ⟨hxj.2, c20⟩, hd, hm]
        have hnx2 : kw C 9 (12 * r + j) (k_bec C r j) = k_set1 C (12 * r + j) := hnx.symm.trans hk
        have hI := hI.set hxj.1
        have h8 := h8.set (12 * r + j)
        rw [← hnx2] at hI h8
        have he := he2.trans he
        refine xr_iinc1 d_Run_settleTasks_42 rfl ?_
        refine xr_goto (tgt := 2) d_Run_settleTasks_45 rfl ?_
        rw [nI_1]
        exact ih (j + 1) _ (by rw [hnx]; exact hW) (by rw [hnx]; exact hI) (by rw [hnx]; exact h8) he (by omega) (by omega)
theorem s_settleTasks {g : xm_G} {h : xm_H} {s m : kS} {R : Nat → Option Nat} {A : kA} {r : Nat} (hr : r < kq s) (hW : kW (k_settleN s (12 * r)) R m A h) (hI : kI (k_settleN s (12 * r)) R) (h8 : kI8 (k_settleN s (12 * r))) : xm_S g 3 m_Run_settleTasks (xm_entry m_Run_settleTasks [.ref (A 3 r)]) h (xq_v fun h' => kW (k_settleN s (12 * r + kj s)) R m A h' ∧ kI (k_settleN s (12 * r + kj s)) R ∧ kI8 (k_settleN s (12 * r + kj s)) ∧ h'.2 = h.2) := by
  show xm_S g 3 m_Run_settleTasks (0, [some (.ref (A 3 r)), none], []) h _
  refine xr_iconst (v := 0) d_Run_settleTasks_0 rfl ?_
  refine xr_istore_n d_Run_settleTasks_1 (Nat.le_of_ble_eq_true rfl) ?_
  exact l_settleTasks (h0 := h) hr (kj s + 1) 0 h hW hI h8 rfl (by omega) (by omega)
theorem l_redoFailed {g : xm_G} {h0 : xm_H} {s m : kS} {A : kA} {R : Nat → Option Nat} {r : Nat} (hr0 : r < kq s)  : ∀ (n : Nat) (j : Nat) (h : xm_H), kW (k_agN s r j) R m A h → kI (k_agN s r j) R → h.2 = h0.2 → j ≤ kj s → kj s < j + n → xm_S g 1 m_Run_redoFailed (4, [some (.ref (A 3 r)), some (.int (k_agC s r j)), some (.int (nI j))], []) h (xq_i fun v h' => v = k_agC s r (kj s) ∧ kW (k_agN s r (kj s)) R m A h' ∧ kI (k_agN s r (kj s)) R ∧ h'.2 = h0.2) := by
  intro n
  induction n with
  | zero => intros; omega
  | succ n ih =>
    intro j h hW hI he hj hn
    have e1 := k_agN_1 s r j
    have hk : k_agN s r (j + 1) = k_ag1 (k_agN s r j) (12 * r + j) := rfl
    have hkC : k_agC s r (j + 1) = if k_re (k_agN s r j) (12 * r + j) then k_agC s r j + 1 else k_agC s r j := rfl
    generalize hC : k_agN s r j = C at *
    have hr : r < kq C := by rw [show kq C = kq s from congrArg (fun z => z.2.2) e1]; exact hr0
    have hkj : kj C = kj s := congrArg (fun z => z.1) e1
    rw [← hkj] at hj hn
    refine xr_iload_n d_Run_redoFailed_4 rfl ?_
    refine xr_aload_n d_Run_redoFailed_5 rfl ?_
    refine xr_getf d_Run_redoFailed_6 xf_1_27 (hW.run hr) rfl ?_
    refine xr_alen d_Run_redoFailed_9 (hW.tks hr) rfl ?_
    refine xr_icmp_ge (tgt := 57) d_Run_redoFailed_10 rfl (fun c10 => ?_) (fun c10 => ?_)
    · have hje : j = kj C := by
        rcases Nat.lt_or_ge j (kj C) with q | q
        · exact absurd c10 (nI_ge q (by have := hW.2.2.1; omega))
        · omega
      refine xr_iload_n d_Run_redoFailed_57 rfl ?_
      refine xr_ireturn d_Run_redoFailed_58 rfl rfl rfl ?_
      refine ⟨_, rfl, by rw [← hkj, ← hje], ?_, ?_, he⟩
      · rw [← hkj, ← hje, hC]; exact hW
      · rw [← hkj, ← hje, hC]; exact hI
    · have hjl : j < kj C := by
        rcases Nat.lt_or_ge j (kj C) with q | q
        · exact q
        · exact absurd (nI_le q (by have := hW.2.2.1; omega)) c10
      have hxj := k_okx hW hr hjl
      have hm : (12 * r + j) % 12 = j := kx_m (by have := hW.2.2.1; omega)
      refine xr_aload_n d_Run_redoFailed_13 rfl ?_
      refine xr_getf d_Run_redoFailed_14 xf_1_27 (hW.run hr) rfl ?_
      refine xr_iload_n d_Run_redoFailed_17 rfl ?_
      refine kr_tks (j := j) hW hr d_Run_redoFailed_18 rfl hjl ?_
      refine xr_getf d_Run_redoFailed_19 xf_1_35 (hW.tsk hxj) rfl ?_
      refine xr_iconst (v := 4) d_Run_redoFailed_22 rfl ?_
      refine xr_icmp_eq (tgt := 39) d_Run_redoFailed_23 rfl (fun c23 => ?_) (fun c23 => ?_)
      · have hre : k_re C (12 * r + j) := Or.inl c23
        have hnx : k_agN s r (j + 1) = kw (kw (kw C 9 (12 * r + j) 0) 12 (12 * r + j) 0) 14 (12 * r + j) 0 := hk.trans (if_pos hre)
        have hnc : k_agC s r (j + 1) = k_agC s r j + 1 := hkC.trans (if_pos hre)
        refine xr_aload_n d_Run_redoFailed_39 rfl ?_
        refine xr_getf d_Run_redoFailed_40 xf_1_27 (hW.run hr) rfl ?_
        refine xr_iload_n d_Run_redoFailed_43 rfl ?_
        refine kr_tks (j := j) hW hr d_Run_redoFailed_44 rfl hjl ?_
        refine xr_V0v d_Run_redoFailed_45 xv_1_56 (hW.tsk hxj) rfl (Nat.le_of_ble_eq_true rfl) (by decide) (s_waitAgain hW hxj) (fun h1 h9 => ?_)
        obtain ⟨hW, he1⟩ := h9
        have he := he1.trans he
        have hI := hI.again hxj hre
        refine xr_iinc1 d_Run_redoFailed_48 rfl ?_
        refine xr_iinc1 d_Run_redoFailed_51 rfl ?_
        refine xr_goto (tgt := 4) d_Run_redoFailed_54 rfl ?_
        rw [nI_1, ← hnc]
        exact ih (j + 1) _ (by rw [hnx]; exact hW) (by rw [hnx]; exact hI) he (by omega) (by omega)
      · refine xr_aload_n d_Run_redoFailed_26 rfl ?_
        refine xr_getf d_Run_redoFailed_27 xf_1_27 (hW.run hr) rfl ?_
        refine xr_iload_n d_Run_redoFailed_30 rfl ?_
        refine kr_tks (j := j) hW hr d_Run_redoFailed_31 rfl hjl ?_
        refine xr_getf d_Run_redoFailed_32 xf_1_35 (hW.tsk hxj) rfl ?_
        refine xr_iconst (v := 5) d_Run_redoFailed_35 rfl ?_
        refine xr_icmp_ne (tgt := 51) d_Run_redoFailed_36 rfl (fun c36 => ?_) (fun c36 => ?_)
        · have hnx : k_agN s r (j + 1) = C := hk.trans (if_neg (fun q => q.elim c23 c36))
          have hnc : k_agC s r (j + 1) = k_agC s r j := hkC.trans (if_neg (fun q => q.elim c23 c36))
          refine xr_iinc1 d_Run_redoFailed_51 rfl ?_
          refine xr_goto (tgt := 4) d_Run_redoFailed_54 rfl ?_
          rw [nI_1, ← hnc]
          exact ih (j + 1) _ (by rw [hnx]; exact hW) (by rw [hnx]; exact hI) he (by omega) (by omega)
        · have hre : k_re C (12 * r + j) := Or.inr c36
          have hnx : k_agN s r (j + 1) = kw (kw (kw C 9 (12 * r + j) 0) 12 (12 * r + j) 0) 14 (12 * r + j) 0 := hk.trans (if_pos hre)
          have hnc : k_agC s r (j + 1) = k_agC s r j + 1 := hkC.trans (if_pos hre)
          refine xr_aload_n d_Run_redoFailed_39 rfl ?_
          refine xr_getf d_Run_redoFailed_40 xf_1_27 (hW.run hr) rfl ?_
          refine xr_iload_n d_Run_redoFailed_43 rfl ?_
          refine kr_tks (j := j) hW hr d_Run_redoFailed_44 rfl hjl ?_
          refine xr_V0v d_Run_redoFailed_45 xv_1_56 (hW.tsk hxj) rfl (Nat.le_of_ble_eq_true rfl) (by decide) (s_waitAgain hW hxj) (fun h1 h9 => ?_)
          obtain ⟨hW, he1⟩ := h9
          have he := he1.trans he
          have hI := hI.again hxj hre
          refine xr_iinc1 d_Run_redoFailed_48 rfl ?_
          refine xr_iinc1 d_Run_redoFailed_51 rfl ?_
          refine xr_goto (tgt := 4) d_Run_redoFailed_54 rfl ?_
          rw [nI_1, ← hnc]
          exact ih (j + 1) _ (by rw [hnx]; exact hW) (by rw [hnx]; exact hI) he (by omega) (by omega)
theorem s_redoFailed {g : xm_G} {h : xm_H} {s m : kS} {R : Nat → Option Nat} {A : kA} {r : Nat} (hW : kW s R m A h) (hr : r < kq s) (hI : kI s R) : xm_S g 1 m_Run_redoFailed (xm_entry m_Run_redoFailed [.ref (A 3 r)]) h (xq_i fun v h' => v = k_agC s r (kj s) ∧ kW (k_agN s r (kj s)) R m A h' ∧ kI (k_agN s r (kj s)) R ∧ h'.2 = h.2) := by
  show xm_S g 1 m_Run_redoFailed (0, [some (.ref (A 3 r)), none, none], []) h _
  refine xr_iconst (v := 0) d_Run_redoFailed_0 rfl ?_
  refine xr_istore_n d_Run_redoFailed_1 (Nat.le_of_ble_eq_true rfl) ?_
  refine xr_iconst (v := 0) d_Run_redoFailed_2 rfl ?_
  refine xr_istore_n d_Run_redoFailed_3 (Nat.le_of_ble_eq_true rfl) ?_
  exact l_redoFailed (h0 := h) hr (kj s + 1) 0 h hW hI rfl (by omega) (by omega)
theorem l_first {g : xm_G} {h : xm_H} {c m : kS} {R : Nat → Option Nat} {A : kA} (hW : kW c R m A h) {r u : Nat} (hr : r < kq c) (hu : u < kr c) : ∀ (n : Nat) (j : Nat), j ≤ kj c → kj c < j + n → (∀ k, k < j → ¬ k_fit c u (12 * r + k)) → xm_S g 0 m_Run_firstReadyFor (2, [some (.ref (A 3 r)), some (.ref (A 2 u)), some (.int (nI j))], []) h (xq_r fun o h' => h' = h ∧ ((o = none ∧ ∀ k, k < kj c → ¬ k_fit c u (12 * r + k)) ∨ ∃ j, j < kj c ∧ o = some (A 5 (12 * r + j)) ∧ k_fit c u (12 * r + j) ∧ ∀ k, k < j → ¬ k_fit c u (12 * r + k))) := by
  intro n
  induction n with
  | zero => intros; omega
  | succ n ih =>
    intro j h1 h2 hI
    refine xr_iload_n d_Run_firstReadyFor_2 rfl ?_
    refine xr_aload_n d_Run_firstReadyFor_3 rfl ?_
    refine xr_getf d_Run_firstReadyFor_4 xf_1_27 (hW.run hr) rfl ?_
    refine xr_alen d_Run_firstReadyFor_7 (hW.tks hr) rfl ?_
    refine xr_icmp_ge (tgt := 59) d_Run_firstReadyFor_8 rfl (fun c8 => ?_) (fun c8 => ?_)
    · have hje : j = kj c := by
        rcases Nat.lt_or_ge j (kj c) with q | q
        · exact absurd c8 (nI_ge q (by have := hW.2.2.1; omega))
        · omega
      refine xr_null d_Run_firstReadyFor_59 ?_
      refine xr_areturn (v := none) d_Run_firstReadyFor_60 rfl rfl ?_
      exact ⟨_, rfl, rfl, Or.inl ⟨rfl, fun k hk => hI k (by omega)⟩⟩
    · have hjl : j < kj c := by
        rcases Nat.lt_or_ge j (kj c) with q | q
        · exact q
        · exact absurd (nI_le q (by have := hW.2.2.1; omega)) c8
      have hxj := k_okx hW hr hjl
      refine xr_aload_n d_Run_firstReadyFor_11 rfl ?_
      refine xr_getf d_Run_firstReadyFor_12 xf_1_27 (hW.run hr) rfl ?_
      refine xr_iload_n d_Run_firstReadyFor_15 rfl ?_
      refine kr_tks (j := j) hW hr d_Run_firstReadyFor_16 rfl hjl ?_
      refine xr_getf d_Run_firstReadyFor_17 xf_1_35 (hW.tsk hxj) rfl ?_
      refine xr_iconst (v := 1) d_Run_firstReadyFor_20 rfl ?_
      refine xr_icmp_ne (tgt := 53) d_Run_firstReadyFor_21 rfl (fun c21 => ?_) (fun c21 => ?_)
      · have hnf : ¬ k_fit c u (12 * r + j) := fun q => c21 q.1
        refine xr_iinc1 d_Run_firstReadyFor_53 rfl ?_
        refine xr_goto (tgt := 2) d_Run_firstReadyFor_56 rfl ?_
        rw [nI_1]
        exact ih (j + 1) (by omega) (by omega) (lt_s hI hnf)
      · refine xr_aload_n d_Run_firstReadyFor_24 rfl ?_
        refine xr_getf d_Run_firstReadyFor_25 xf_1_27 (hW.run hr) rfl ?_
        refine xr_iload_n d_Run_firstReadyFor_28 rfl ?_
        refine kr_tks (j := j) hW hr d_Run_firstReadyFor_29 rfl hjl ?_
        refine xr_getf d_Run_firstReadyFor_30 xf_1_44 (hW.tsk hxj) rfl ?_
        refine xr_getf d_Run_firstReadyFor_33 xf_1_70 (hW.job hxj.2) rfl ?_
        refine xr_aload_n d_Run_firstReadyFor_36 rfl ?_
        refine xr_getf d_Run_firstReadyFor_37 xf_1_73 (hW.rnr hu) rfl ?_
        refine xr_iconst (v := -1) d_Run_firstReadyFor_40 rfl ?_
        refine xr_ixor d_Run_firstReadyFor_41 ?_
        refine xr_iand d_Run_firstReadyFor_42 ?_
        refine xr_if_ne (tgt := 53) d_Run_firstReadyFor_43 rfl (fun c43 => ?_) (fun c43 => ?_)
        · have hnf : ¬ k_fit c u (12 * r + j) := fun q => c43 q.2
          refine xr_iinc1 d_Run_firstReadyFor_53 rfl ?_
          refine xr_goto (tgt := 2) d_Run_firstReadyFor_56 rfl ?_
          rw [nI_1]
          exact ih (j + 1) (by omega) (by omega) (lt_s hI hnf)
        · refine xr_aload_n d_Run_firstReadyFor_46 rfl ?_
          refine xr_getf d_Run_firstReadyFor_47 xf_1_27 (hW.run hr) rfl ?_
          refine xr_iload_n d_Run_firstReadyFor_50 rfl ?_
          refine kr_tks (j := j) hW hr d_Run_firstReadyFor_51 rfl hjl ?_
          refine xr_areturn (v := some (A 5 (12 * r + j))) d_Run_firstReadyFor_52 rfl rfl ?_
          exact ⟨_, rfl, rfl, Or.inr ⟨j, hjl, rfl, ⟨c21, c43⟩, hI⟩⟩
theorem s_first {g : xm_G} {h : xm_H} {c m : kS} {R : Nat → Option Nat} {A : kA} (hW : kW c R m A h) {r u : Nat} (hr : r < kq c) (hu : u < kr c) : xm_S g 0 m_Run_firstReadyFor (xm_entry m_Run_firstReadyFor [.ref (A 3 r), .ref (A 2 u)]) h (xq_r fun o h' => h' = h ∧ ((o = none ∧ ∀ k, k < kj c → ¬ k_fit c u (12 * r + k)) ∨ ∃ j, j < kj c ∧ o = some (A 5 (12 * r + j)) ∧ k_fit c u (12 * r + j) ∧ ∀ k, k < j → ¬ k_fit c u (12 * r + k))) := by
  show xm_S g 0 m_Run_firstReadyFor (0, [some (.ref (A 3 r)), some (.ref (A 2 u)), none], []) h _
  refine xr_iconst (v := 0) d_Run_firstReadyFor_0 rfl ?_
  refine xr_istore_n d_Run_firstReadyFor_1 (Nat.le_of_ble_eq_true rfl) ?_
  exact l_first hW hr hu (kj c + 1) 0 (by omega) (by omega) lt_0
theorem l_art {g : xm_G} {h : xm_H} {c m : kS} {R : Nat → Option Nat} {A : kA} (hW : kW c R m A h) {r j : Nat} (hr : r < kq c) (hj : j < kj c) : ∀ (n : Nat) (i : Nat), i ≤ kj c → kj c < i + n → xm_S g 1 m_Run_artefactsFor (4, [some (.ref (A 3 r)), some (.ref (A 1 j)), some (.int (k_art c r j i)), some (.int (nI i))], []) h (xq_i fun v h' => v = k_art c r j (kj c) ∧ h' = h) := by
  intro n
  induction n with
  | zero => intros; omega
  | succ n ih =>
    intro i h1 h2
    refine xr_iload_n d_Run_artefactsFor_4 rfl ?_
    refine xr_aload_n d_Run_artefactsFor_5 rfl ?_
    refine xr_getf d_Run_artefactsFor_6 xf_1_27 (hW.run hr) rfl ?_
    refine xr_alen d_Run_artefactsFor_9 (hW.tks hr) rfl ?_
    refine xr_icmp_ge (tgt := 39) d_Run_artefactsFor_10 rfl (fun c10 => ?_) (fun c10 => ?_)
    · have hie : i = kj c := by
        rcases Nat.lt_or_ge i (kj c) with q | q
        · exact absurd c10 (nI_ge q (by have := hW.2.2.1; omega))
        · omega
      refine xr_iload_n d_Run_artefactsFor_39 rfl ?_
      refine xr_ireturn d_Run_artefactsFor_40 rfl rfl rfl ?_
      exact ⟨_, rfl, by rw [hie], rfl⟩
    · have hil : i < kj c := by
        rcases Nat.lt_or_ge i (kj c) with q | q
        · exact q
        · exact absurd (nI_le q (by have := hW.2.2.1; omega)) c10
      have hxi := k_okx hW hr hil
      have hk : k_art c r j (i + 1) = if k_bit (kF c 3 j) i then k_art c r j i ^^^ kF c 15 (12 * r + i) else k_art c r j i := rfl
      refine xr_aload_n d_Run_artefactsFor_13 rfl ?_
      refine xr_iload_n d_Run_artefactsFor_14 rfl ?_
      refine xr_V1i d_Run_artefactsFor_15 xv_1_63 (hW.job hj) rfl rfl (Nat.le_of_ble_eq_true rfl) (by decide) (s_isNeeding (k := i) hW hj) (fun v h1 h9 => ?_)
      obtain ⟨rfl, e9⟩ := h9
      have e9 := e9.symm
      subst e9
      refine xr_if_eq (tgt := 33) d_Run_artefactsFor_18 rfl (fun c18 => ?_) (fun c18 => ?_)
      · have hnx := hk.trans (if_neg (kbi_0.mp c18))
        refine xr_iinc1 d_Run_artefactsFor_33 rfl ?_
        refine xr_goto (tgt := 4) d_Run_artefactsFor_36 rfl ?_
        rw [nI_1, ← hnx]
        exact ih (i + 1) (by omega) (by omega)
      · have hnx := hk.trans (if_pos (kbi_n0 c18))
        refine xr_iload_n d_Run_artefactsFor_21 rfl ?_
        refine xr_aload_n d_Run_artefactsFor_22 rfl ?_
        refine xr_getf d_Run_artefactsFor_23 xf_1_27 (hW.run hr) rfl ?_
        refine xr_iload_n d_Run_artefactsFor_26 rfl ?_
        refine kr_tks (j := i) hW hr d_Run_artefactsFor_27 rfl hil ?_
        refine xr_getf d_Run_artefactsFor_28 xf_1_76 (hW.tsk hxi) rfl ?_
        refine xr_ixor d_Run_artefactsFor_31 ?_
        refine xr_istore_n d_Run_artefactsFor_32 (Nat.le_of_ble_eq_true rfl) ?_
        refine xr_iinc1 d_Run_artefactsFor_33 rfl ?_
        refine xr_goto (tgt := 4) d_Run_artefactsFor_36 rfl ?_
        rw [nI_1, ← hnx]
        exact ih (i + 1) (by omega) (by omega)
theorem s_art {g : xm_G} {h : xm_H} {c m : kS} {R : Nat → Option Nat} {A : kA} (hW : kW c R m A h) {r j : Nat} (hr : r < kq c) (hj : j < kj c) : xm_S g 1 m_Run_artefactsFor (xm_entry m_Run_artefactsFor [.ref (A 3 r), .ref (A 1 j)]) h (xq_i fun v h' => v = k_art c r j (kj c) ∧ h' = h) := by
  show xm_S g 1 m_Run_artefactsFor (0, [some (.ref (A 3 r)), some (.ref (A 1 j)), none, none], []) h _
  refine xr_iconst (v := 0) d_Run_artefactsFor_0 rfl ?_
  refine xr_istore_n d_Run_artefactsFor_1 (Nat.le_of_ble_eq_true rfl) ?_
  refine xr_iconst (v := 0) d_Run_artefactsFor_2 rfl ?_
  refine xr_istore_n d_Run_artefactsFor_3 (Nat.le_of_ble_eq_true rfl) ?_
  exact l_art hW hr hj (kj c + 1) 0 (by omega) (by omega)
