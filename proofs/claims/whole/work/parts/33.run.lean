/-! a run's methods that only look -/
theorem k_okx {c : kS} {R : Nat → Option Nat} {m : kS} {A : kA} {h : xm_H} (hW : kW c R m A h) {r j : Nat} (hr : r < kq c) (hj : j < kj c) : 12 * r + j < 12 * kq c ∧ (12 * r + j) % 12 < kj c := by
  have h1 := hW.2.2.1
  omega
theorem l_isOver {g : xm_G} {h : xm_H} {c m : kS} {R : Nat → Option Nat} {A : kA} (hW : kW c R m A h) {r : Nat} (hr : r < kq c) : ∀ (n : Nat) (j : Nat), j ≤ kj c → kj c < j + n → (∀ k, k < j → 2 < kF c 9 (12 * r + k)) → xm_S g 1 m_Run_isOver (2, [some (.ref (A 3 r)), some (.int (nI j))], []) h (xq_i fun v h' => v = kbi (k_over c r) ∧ h' = h) := by
  intro n
  induction n with
  | zero => intros; omega
  | succ n ih =>
    intro j h1 h2 hI
    refine xr_iload_n d_Run_isOver_2 rfl ?_
    refine xr_aload_n d_Run_isOver_3 rfl ?_
    refine xr_getf d_Run_isOver_4 xf_1_27 (hW.run hr) rfl ?_
    refine xr_alen d_Run_isOver_7 (hW.tks hr) rfl ?_
    refine xr_icmp_ge (tgt := 31) d_Run_isOver_8 rfl (fun c8 => ?_) (fun c8 => ?_)
    · have hje : j = kj c := by
        rcases Nat.lt_or_ge j (kj c) with q | q
        · exact absurd c8 (nI_ge q (by have := hW.2.2.1; omega))
        · omega
      refine xr_iconst (v := 1) d_Run_isOver_31 rfl ?_
      refine xr_ireturn d_Run_isOver_32 rfl rfl rfl ?_
      exact ⟨_, rfl, (kbi_t (fun k hk => hI k (by omega))).symm, rfl⟩
    · have hjl : j < kj c := by
        rcases Nat.lt_or_ge j (kj c) with q | q
        · exact q
        · exact absurd (nI_le q (by have := hW.2.2.1; omega)) c8
      have hxj := k_okx hW hr hjl
      refine xr_aload_n d_Run_isOver_11 rfl ?_
      refine xr_getf d_Run_isOver_12 xf_1_27 (hW.run hr) rfl ?_
      refine xr_iload_n d_Run_isOver_15 rfl ?_
      refine kr_tks (j := j) hW hr d_Run_isOver_16 rfl hjl ?_
      refine xr_V0i d_Run_isOver_17 xv_1_31 (hW.tsk hxj) rfl (Nat.le_of_ble_eq_true rfl) (by decide) (s_isEnded hW hxj) (fun v h1 h9 => ?_)
      obtain ⟨rfl, e9⟩ := h9
      have e9 := e9.symm
      subst e9
      refine xr_if_ne (tgt := 25) d_Run_isOver_20 rfl (fun c20 => ?_) (fun c20 => ?_)
      · refine xr_iinc1 d_Run_isOver_25 rfl ?_
        refine xr_goto (tgt := 2) d_Run_isOver_28 rfl ?_
        rw [nI_1]
        exact ih (j + 1) (by omega) (by omega) (lt_s hI (by first | assumption | exact Classical.byContradiction (fun q => c20 (kbi_0.mpr q))))
      · refine xr_iconst (v := 0) d_Run_isOver_23 rfl ?_
        refine xr_ireturn d_Run_isOver_24 rfl rfl rfl ?_
        exact ⟨_, rfl, (kbi_f (fun q => absurd (q j hjl) (kbi_0.mp c20))).symm, rfl⟩
theorem s_isOver {g : xm_G} {h : xm_H} {c m : kS} {R : Nat → Option Nat} {A : kA} (hW : kW c R m A h) {r : Nat} (hr : r < kq c) : xm_S g 1 m_Run_isOver (xm_entry m_Run_isOver [.ref (A 3 r)]) h (xq_i fun v h' => v = kbi (k_over c r) ∧ h' = h) := by
  show xm_S g 1 m_Run_isOver (0, [some (.ref (A 3 r)), none], []) h _
  refine xr_iconst (v := 0) d_Run_isOver_0 rfl ?_
  refine xr_istore_n d_Run_isOver_1 (Nat.le_of_ble_eq_true rfl) ?_
  exact l_isOver hW hr (kj c + 1) 0 (by omega) (by omega) lt_0
theorem l_isAnyFailed {g : xm_G} {h : xm_H} {c m : kS} {R : Nat → Option Nat} {A : kA} (hW : kW c R m A h) {r : Nat} (hr : r < kq c) : ∀ (n : Nat) (j : Nat), j ≤ kj c → kj c < j + n → (∀ k, k < j → ¬ kF c 9 (12 * r + k) = 4) → xm_S g 0 m_Run_isAnyFailed (2, [some (.ref (A 3 r)), some (.int (nI j))], []) h (xq_i fun v h' => v = kbi (k_anyf c r) ∧ h' = h) := by
  intro n
  induction n with
  | zero => intros; omega
  | succ n ih =>
    intro j h1 h2 hI
    refine xr_iload_n d_Run_isAnyFailed_2 rfl ?_
    refine xr_aload_n d_Run_isAnyFailed_3 rfl ?_
    refine xr_getf d_Run_isAnyFailed_4 xf_1_27 (hW.run hr) rfl ?_
    refine xr_alen d_Run_isAnyFailed_7 (hW.tks hr) rfl ?_
    refine xr_icmp_ge (tgt := 32) d_Run_isAnyFailed_8 rfl (fun c8 => ?_) (fun c8 => ?_)
    · have hje : j = kj c := by
        rcases Nat.lt_or_ge j (kj c) with q | q
        · exact absurd c8 (nI_ge q (by have := hW.2.2.1; omega))
        · omega
      refine xr_iconst (v := 0) d_Run_isAnyFailed_32 rfl ?_
      refine xr_ireturn d_Run_isAnyFailed_33 rfl rfl rfl ?_
      exact ⟨_, rfl, (kbi_f (p := k_anyf c r) (fun q => q (fun k hk => hI k (by omega)))).symm, rfl⟩
    · have hjl : j < kj c := by
        rcases Nat.lt_or_ge j (kj c) with q | q
        · exact q
        · exact absurd (nI_le q (by have := hW.2.2.1; omega)) c8
      have hxj := k_okx hW hr hjl
      refine xr_aload_n d_Run_isAnyFailed_11 rfl ?_
      refine xr_getf d_Run_isAnyFailed_12 xf_1_27 (hW.run hr) rfl ?_
      refine xr_iload_n d_Run_isAnyFailed_15 rfl ?_
      refine kr_tks (j := j) hW hr d_Run_isAnyFailed_16 rfl hjl ?_
      refine xr_getf d_Run_isAnyFailed_17 xf_1_35 (hW.tsk hxj) rfl ?_
      refine xr_iconst (v := 4) d_Run_isAnyFailed_20 rfl ?_
      refine xr_icmp_ne (tgt := 26) d_Run_isAnyFailed_21 rfl (fun c21 => ?_) (fun c21 => ?_)
      · refine xr_iinc1 d_Run_isAnyFailed_26 rfl ?_
        refine xr_goto (tgt := 2) d_Run_isAnyFailed_29 rfl ?_
        rw [nI_1]
        exact ih (j + 1) (by omega) (by omega) (lt_s hI c21)
      · refine xr_iconst (v := 1) d_Run_isAnyFailed_24 rfl ?_
        refine xr_ireturn d_Run_isAnyFailed_25 rfl rfl rfl ?_
        exact ⟨_, rfl, (kbi_t (p := k_anyf c r) (fun q => q j hjl c21)).symm, rfl⟩
theorem s_isAnyFailed {g : xm_G} {h : xm_H} {c m : kS} {R : Nat → Option Nat} {A : kA} (hW : kW c R m A h) {r : Nat} (hr : r < kq c) : xm_S g 0 m_Run_isAnyFailed (xm_entry m_Run_isAnyFailed [.ref (A 3 r)]) h (xq_i fun v h' => v = kbi (k_anyf c r) ∧ h' = h) := by
  show xm_S g 0 m_Run_isAnyFailed (0, [some (.ref (A 3 r)), none], []) h _
  refine xr_iconst (v := 0) d_Run_isAnyFailed_0 rfl ?_
  refine xr_istore_n d_Run_isAnyFailed_1 (Nat.le_of_ble_eq_true rfl) ?_
  exact l_isAnyFailed hW hr (kj c + 1) 0 (by omega) (by omega) lt_0
theorem s_judge {g : xm_G} {h : xm_H} {c m : kS} {R : Nat → Option Nat} {A : kA} (hW : kW c R m A h) {r : Nat} (hr : r < kq c) : xm_S g 2 m_Run_judge (xm_entry m_Run_judge [.ref (A 3 r)]) h (xq_i fun v h' => v = (if ¬ k_over c r then 0 else if ¬ kF c 8 r = 0 then 3 else if k_anyf c r then 2 else 1) ∧ h' = h) := by
  show xm_S g 2 m_Run_judge (0, [some (.ref (A 3 r))], []) h _
  refine xr_aload_n d_Run_judge_0 rfl ?_
  refine xr_V0i d_Run_judge_1 xv_1_38 (hW.run hr) rfl (Nat.le_of_ble_eq_true rfl) (by decide) (s_isOver hW hr) (fun v h1 h9 => ?_)
  obtain ⟨rfl, e9⟩ := h9
  have e9 := e9.symm
  subst e9
  refine xr_if_ne (tgt := 9) d_Run_judge_4 rfl (fun c4 => ?_) (fun c4 => ?_)
  · refine xr_aload_n d_Run_judge_9 rfl ?_
    refine xr_getf d_Run_judge_10 xf_1_9 (hW.run hr) rfl ?_
    refine xr_if_eq (tgt := 18) d_Run_judge_13 rfl (fun c13 => ?_) (fun c13 => ?_)
    · refine xr_aload_n d_Run_judge_18 rfl ?_
      refine xr_V0i d_Run_judge_19 xv_1_41 (hW.run hr) rfl (Nat.le_of_ble_eq_true rfl) (by decide) (s_isAnyFailed hW hr) (fun v h1 h9 => ?_)
      obtain ⟨rfl, e9⟩ := h9
      have e9 := e9.symm
      subst e9
      refine xr_if_eq (tgt := 29) d_Run_judge_22 rfl (fun c22 => ?_) (fun c22 => ?_)
      · refine xr_iconst (v := 1) d_Run_judge_29 rfl ?_
        refine xr_ireturn d_Run_judge_30 rfl rfl rfl ?_
        refine ⟨_, rfl, ?_, rfl⟩
        rw [if_neg (fun q => q (kbi_n0 c4)), if_neg (fun q => q c13)]
        first | rw [if_neg (kbi_0.mp c22)] | rw [if_pos (kbi_n0 c22)]
      · refine xr_iconst (v := 2) d_Run_judge_25 rfl ?_
        refine xr_goto (tgt := 30) d_Run_judge_26 rfl ?_
        refine xr_ireturn d_Run_judge_30 rfl rfl rfl ?_
        refine ⟨_, rfl, ?_, rfl⟩
        rw [if_neg (fun q => q (kbi_n0 c4)), if_neg (fun q => q c13)]
        first | rw [if_neg (kbi_0.mp c22)] | rw [if_pos (kbi_n0 c22)]
    · refine xr_iconst (v := 3) d_Run_judge_16 rfl ?_
      refine xr_ireturn d_Run_judge_17 rfl rfl rfl ?_
      exact ⟨_, rfl, by rw [if_neg (fun q => q (kbi_n0 c4)), if_pos c13], rfl⟩
  · refine xr_iconst (v := 0) d_Run_judge_7 rfl ?_
    refine xr_ireturn d_Run_judge_8 rfl rfl rfl ?_
    exact ⟨_, rfl, (if_pos (kbi_0.mp c4)).symm, rfl⟩
set_option maxHeartbeats 4000000 in
theorem l_saw {g : xm_G} {h : xm_H} {c m : kS} {R : Nat → Option Nat} {A : kA} (hW : kW c R m A h) {r j : Nat} (hr : r < kq c) (hj : j < kj c) (ha : ∃ a, a < 256 ∧ kF c 16 (12 * r + j) = nI a) : ∀ (n : Nat) (i : Nat) (b2 b3 : Int32), i ≤ kj c → kj c < i + n → b2 = kbi (k_E c r j i) → b3 = kbi (k_B c r j i) → xm_S g 2 m_Run_stateAfterWaiting (7, [some (.ref (A 3 r)), some (.ref (A 5 (12 * r + j))), some (.int b2), some (.int b3), some (.int (nI i))], []) h (xq_i fun v h' => v = k_saw c r j ∧ h' = h) := by
  intro n
  induction n with
  | zero => intros; omega
  | succ n ih =>
    intro i b2 b3 h1 h2 e2 e3
    have hxj := k_okx hW hr hj
    have hm : (12 * r + j) % 12 = j := kx_m (by have := hW.2.2.1; omega)
    refine xr_iload d_Run_stateAfterWaiting_7 rfl ?_
    refine xr_aload_n d_Run_stateAfterWaiting_9 rfl ?_
    refine xr_getf d_Run_stateAfterWaiting_10 xf_1_27 (hW.run hr) rfl ?_
    refine xr_alen d_Run_stateAfterWaiting_13 (hW.tks hr) rfl ?_
    refine xr_icmp_ge (tgt := 95) d_Run_stateAfterWaiting_14 rfl (fun c14 => ?_) (fun c14 => ?_)
    · have hie : i = kj c := by
        rcases Nat.lt_or_ge i (kj c) with q | q
        · exact absurd c14 (nI_ge q (by have := hW.2.2.1; omega))
        · omega
      subst hie
      refine xr_iload_n d_Run_stateAfterWaiting_95 rfl ?_
      refine xr_if_ne (tgt := 111) d_Run_stateAfterWaiting_96 rfl (fun c96 => ?_) (fun c96 => ?_)
      · refine xr_iload_n d_Run_stateAfterWaiting_111 rfl ?_
        refine xr_if_eq (tgt := 126) d_Run_stateAfterWaiting_112 rfl (fun c112 => ?_) (fun c112 => ?_)
        · refine xr_iconst (v := 0) d_Run_stateAfterWaiting_126 rfl ?_
          refine xr_ireturn d_Run_stateAfterWaiting_127 rfl rfl rfl ?_
          refine ⟨_, rfl, ?_, rfl⟩
          unfold k_saw
          rw [if_neg (by rintro ⟨q1, q2⟩; first | exact c106 q1 | exact q2 (kbi_n0 (fun z => c96 (e3.trans z))))]
          first | exact (if_pos ⟨kbi_n0 (fun z => c112 (e2.trans z)), kbi_n0 c119⟩).symm | exact (if_neg (fun q => absurd q.2 (kbi_0.mp c119))).symm | exact (if_neg (fun q => absurd q.1 (kbi_0.mp (e2.symm.trans c112)))).symm
        · refine xr_aload_n d_Run_stateAfterWaiting_115 rfl ?_
          refine xr_V0i d_Run_stateAfterWaiting_116 xv_1_67 (hW.tsk hxj) rfl (Nat.le_of_ble_eq_true rfl) (by decide) (s_isFreeToRun hW hxj ha) (fun v h1 h9 => ?_)
          obtain ⟨rfl, e9⟩ := h9
          have e9 := e9.symm
          subst e9
          rw [hm]
          refine xr_if_eq (tgt := 126) d_Run_stateAfterWaiting_119 rfl (fun c119 => ?_) (fun c119 => ?_)
          · refine xr_iconst (v := 0) d_Run_stateAfterWaiting_126 rfl ?_
            refine xr_ireturn d_Run_stateAfterWaiting_127 rfl rfl rfl ?_
            refine ⟨_, rfl, ?_, rfl⟩
            unfold k_saw
            rw [if_neg (by rintro ⟨q1, q2⟩; first | exact c106 q1 | exact q2 (kbi_n0 (fun z => c96 (e3.trans z))))]
            first | exact (if_pos ⟨kbi_n0 (fun z => c112 (e2.trans z)), kbi_n0 c119⟩).symm | exact (if_neg (fun q => absurd q.2 (kbi_0.mp c119))).symm | exact (if_neg (fun q => absurd q.1 (kbi_0.mp (e2.symm.trans c112)))).symm
          · refine xr_iconst (v := 1) d_Run_stateAfterWaiting_122 rfl ?_
            refine xr_goto (tgt := 127) d_Run_stateAfterWaiting_123 rfl ?_
            refine xr_ireturn d_Run_stateAfterWaiting_127 rfl rfl rfl ?_
            refine ⟨_, rfl, ?_, rfl⟩
            unfold k_saw
            rw [if_neg (by rintro ⟨q1, q2⟩; first | exact c106 q1 | exact q2 (kbi_n0 (fun z => c96 (e3.trans z))))]
            first | exact (if_pos ⟨kbi_n0 (fun z => c112 (e2.trans z)), kbi_n0 c119⟩).symm | exact (if_neg (fun q => absurd q.2 (kbi_0.mp c119))).symm | exact (if_neg (fun q => absurd q.1 (kbi_0.mp (e2.symm.trans c112)))).symm
      · refine xr_aload_n d_Run_stateAfterWaiting_99 rfl ?_
        refine xr_getf d_Run_stateAfterWaiting_100 xf_1_44 (hW.tsk hxj) rfl ?_
        refine xr_getf d_Run_stateAfterWaiting_103 xf_1_48 (hW.job hxj.2) rfl ?_
        rw [hm]
        refine xr_if_ne (tgt := 111) d_Run_stateAfterWaiting_106 rfl (fun c106 => ?_) (fun c106 => ?_)
        · refine xr_iload_n d_Run_stateAfterWaiting_111 rfl ?_
          refine xr_if_eq (tgt := 126) d_Run_stateAfterWaiting_112 rfl (fun c112 => ?_) (fun c112 => ?_)
          · refine xr_iconst (v := 0) d_Run_stateAfterWaiting_126 rfl ?_
            refine xr_ireturn d_Run_stateAfterWaiting_127 rfl rfl rfl ?_
            refine ⟨_, rfl, ?_, rfl⟩
            unfold k_saw
            rw [if_neg (by rintro ⟨q1, q2⟩; first | exact c106 q1 | exact q2 (kbi_n0 (fun z => c96 (e3.trans z))))]
            first | exact (if_pos ⟨kbi_n0 (fun z => c112 (e2.trans z)), kbi_n0 c119⟩).symm | exact (if_neg (fun q => absurd q.2 (kbi_0.mp c119))).symm | exact (if_neg (fun q => absurd q.1 (kbi_0.mp (e2.symm.trans c112)))).symm
          · refine xr_aload_n d_Run_stateAfterWaiting_115 rfl ?_
            refine xr_V0i d_Run_stateAfterWaiting_116 xv_1_67 (hW.tsk hxj) rfl (Nat.le_of_ble_eq_true rfl) (by decide) (s_isFreeToRun hW hxj ha) (fun v h1 h9 => ?_)
            obtain ⟨rfl, e9⟩ := h9
            have e9 := e9.symm
            subst e9
            rw [hm]
            refine xr_if_eq (tgt := 126) d_Run_stateAfterWaiting_119 rfl (fun c119 => ?_) (fun c119 => ?_)
            · refine xr_iconst (v := 0) d_Run_stateAfterWaiting_126 rfl ?_
              refine xr_ireturn d_Run_stateAfterWaiting_127 rfl rfl rfl ?_
              refine ⟨_, rfl, ?_, rfl⟩
              unfold k_saw
              rw [if_neg (by rintro ⟨q1, q2⟩; first | exact c106 q1 | exact q2 (kbi_n0 (fun z => c96 (e3.trans z))))]
              first | exact (if_pos ⟨kbi_n0 (fun z => c112 (e2.trans z)), kbi_n0 c119⟩).symm | exact (if_neg (fun q => absurd q.2 (kbi_0.mp c119))).symm | exact (if_neg (fun q => absurd q.1 (kbi_0.mp (e2.symm.trans c112)))).symm
            · refine xr_iconst (v := 1) d_Run_stateAfterWaiting_122 rfl ?_
              refine xr_goto (tgt := 127) d_Run_stateAfterWaiting_123 rfl ?_
              refine xr_ireturn d_Run_stateAfterWaiting_127 rfl rfl rfl ?_
              refine ⟨_, rfl, ?_, rfl⟩
              unfold k_saw
              rw [if_neg (by rintro ⟨q1, q2⟩; first | exact c106 q1 | exact q2 (kbi_n0 (fun z => c96 (e3.trans z))))]
              first | exact (if_pos ⟨kbi_n0 (fun z => c112 (e2.trans z)), kbi_n0 c119⟩).symm | exact (if_neg (fun q => absurd q.2 (kbi_0.mp c119))).symm | exact (if_neg (fun q => absurd q.1 (kbi_0.mp (e2.symm.trans c112)))).symm
        · refine xr_iconst (v := 5) d_Run_stateAfterWaiting_109 rfl ?_
          refine xr_ireturn d_Run_stateAfterWaiting_110 rfl rfl rfl ?_
          exact ⟨_, rfl, (if_pos ⟨c106, kbi_0.mp (e3.symm.trans c96)⟩).symm, rfl⟩
    · have hil : i < kj c := by
        rcases Nat.lt_or_ge i (kj c) with q | q
        · exact q
        · exact absurd (nI_le q (by have := hW.2.2.1; omega)) c14
      have hxi := k_okx hW hr hil
      refine xr_aload_n d_Run_stateAfterWaiting_17 rfl ?_
      refine xr_getf d_Run_stateAfterWaiting_18 xf_1_44 (hW.tsk hxj) rfl ?_
      refine xr_iload d_Run_stateAfterWaiting_21 rfl ?_
      refine xr_V1i d_Run_stateAfterWaiting_23 xv_1_63 (hW.job hxj.2) rfl rfl (Nat.le_of_ble_eq_true rfl) (by decide) (s_isNeeding (k := i) hW hxj.2) (fun v h1 h9 => ?_)
      obtain ⟨rfl, e9⟩ := h9
      have e9 := e9.symm
      subst e9
      rw [hm]
      refine xr_if_eq (tgt := 89) d_Run_stateAfterWaiting_26 rfl (fun c26 => ?_) (fun c26 => ?_)
      · have hnb : ¬ k_bit (kF c 3 j) i := kbi_0.mp c26
        refine xr_iinc1 d_Run_stateAfterWaiting_89 rfl ?_
        refine xr_goto (tgt := 7) d_Run_stateAfterWaiting_92 rfl ?_
        rw [nI_1]
        exact ih (i + 1) _ _ (by omega) (by omega) (e2.trans (kbi_c (kq_s.trans ⟨fun q => q.1, fun q => ⟨q, fun z => absurd z hnb⟩⟩).symm)) (e3.trans (kbi_c (kq_s.trans ⟨fun q => q.1, fun q => ⟨q, fun z => absurd z hnb⟩⟩).symm))
      · have hnb : k_bit (kF c 3 j) i := kbi_n0 c26
        have hE : kbi (k_E c r j (i + 1)) = kbi (k_E c r j i ∧ 2 < kF c 9 (12 * r + i)) := kbi_c (kq_s.trans ⟨fun q => ⟨q.1, q.2 hnb⟩, fun q => ⟨q.1, fun _ => q.2⟩⟩)
        have hB : kbi (k_B c r j (i + 1)) = kbi (k_B c r j i ∧ (2 < kF c 9 (12 * r + i) → kF c 9 (12 * r + i) = 3)) := kbi_c (kq_s.trans ⟨fun q => ⟨q.1, q.2 hnb⟩, fun q => ⟨q.1, fun _ => q.2⟩⟩)
        have K52 : ∀ b2 : Int32, b2 = kbi (k_E c r j (i + 1)) → xm_S g 2 m_Run_stateAfterWaiting (52, [some (.ref (A 3 r)), some (.ref (A 5 (12 * r + j))), some (.int b2), some (.int b3), some (.int (nI i))], []) h (xq_i fun v h' => v = k_saw c r j ∧ h' = h) := by
          intro b2 hb2
          refine xr_iload_n d_Run_stateAfterWaiting_52 rfl ?_
          refine xr_if_eq (tgt := 87) d_Run_stateAfterWaiting_53 rfl (fun c53 => ?_) (fun c53 => ?_)
          · have w3 : kbi (k_B c r j i ∧ (2 < kF c 9 (12 * r + i) → kF c 9 (12 * r + i) = 3)) = 0 := kbi_f (fun q => absurd q.1 (kbi_0.mp (e3.symm.trans c53)))
            refine xr_iconst (v := 0) d_Run_stateAfterWaiting_87 rfl ?_
            refine xr_istore_n d_Run_stateAfterWaiting_88 (Nat.le_of_ble_eq_true rfl) ?_
            refine xr_iinc1 d_Run_stateAfterWaiting_89 rfl ?_
            refine xr_goto (tgt := 7) d_Run_stateAfterWaiting_92 rfl ?_
            rw [nI_1]
            exact ih (i + 1) _ _ (by omega) (by omega) hb2 (hB.trans w3).symm
          · refine xr_aload_n d_Run_stateAfterWaiting_56 rfl ?_
            refine xr_getf d_Run_stateAfterWaiting_57 xf_1_27 (hW.run hr) rfl ?_
            refine xr_iload d_Run_stateAfterWaiting_60 rfl ?_
            refine kr_tks (j := i) hW hr d_Run_stateAfterWaiting_62 rfl hil ?_
            refine xr_getf d_Run_stateAfterWaiting_63 xf_1_35 (hW.tsk hxi) rfl ?_
            refine xr_iconst (v := 3) d_Run_stateAfterWaiting_66 rfl ?_
            refine xr_icmp_eq (tgt := 83) d_Run_stateAfterWaiting_67 rfl (fun c67 => ?_) (fun c67 => ?_)
            · have w3 : kbi (k_B c r j i ∧ (2 < kF c 9 (12 * r + i) → kF c 9 (12 * r + i) = 3)) = 1 := kbi_t ⟨kbi_n0 (fun z => c53 (e3.trans z)), fun _ => c67⟩
              refine xr_iconst (v := 1) d_Run_stateAfterWaiting_83 rfl ?_
              refine xr_goto (tgt := 88) d_Run_stateAfterWaiting_84 rfl ?_
              refine xr_istore_n d_Run_stateAfterWaiting_88 (Nat.le_of_ble_eq_true rfl) ?_
              refine xr_iinc1 d_Run_stateAfterWaiting_89 rfl ?_
              refine xr_goto (tgt := 7) d_Run_stateAfterWaiting_92 rfl ?_
              rw [nI_1]
              exact ih (i + 1) _ _ (by omega) (by omega) hb2 (hB.trans w3).symm
            · refine xr_aload_n d_Run_stateAfterWaiting_70 rfl ?_
              refine xr_getf d_Run_stateAfterWaiting_71 xf_1_27 (hW.run hr) rfl ?_
              refine xr_iload d_Run_stateAfterWaiting_74 rfl ?_
              refine kr_tks (j := i) hW hr d_Run_stateAfterWaiting_76 rfl hil ?_
              refine xr_V0i d_Run_stateAfterWaiting_77 xv_1_31 (hW.tsk hxi) rfl (Nat.le_of_ble_eq_true rfl) (by decide) (s_isEnded hW hxi) (fun v h1 h9 => ?_)
              obtain ⟨rfl, e9⟩ := h9
              have e9 := e9.symm
              subst e9
              refine xr_if_ne (tgt := 87) d_Run_stateAfterWaiting_80 rfl (fun c80 => ?_) (fun c80 => ?_)
              · have w3 : kbi (k_B c r j i ∧ (2 < kF c 9 (12 * r + i) → kF c 9 (12 * r + i) = 3)) = 0 := kbi_f (fun q => c67 (q.2 (kbi_n0 c80)))
                refine xr_iconst (v := 0) d_Run_stateAfterWaiting_87 rfl ?_
                refine xr_istore_n d_Run_stateAfterWaiting_88 (Nat.le_of_ble_eq_true rfl) ?_
                refine xr_iinc1 d_Run_stateAfterWaiting_89 rfl ?_
                refine xr_goto (tgt := 7) d_Run_stateAfterWaiting_92 rfl ?_
                rw [nI_1]
                exact ih (i + 1) _ _ (by omega) (by omega) hb2 (hB.trans w3).symm
              · have w3 : kbi (k_B c r j i ∧ (2 < kF c 9 (12 * r + i) → kF c 9 (12 * r + i) = 3)) = 1 := kbi_t ⟨kbi_n0 (fun z => c53 (e3.trans z)), fun z => absurd z (kbi_0.mp c80)⟩
                refine xr_iconst (v := 1) d_Run_stateAfterWaiting_83 rfl ?_
                refine xr_goto (tgt := 88) d_Run_stateAfterWaiting_84 rfl ?_
                refine xr_istore_n d_Run_stateAfterWaiting_88 (Nat.le_of_ble_eq_true rfl) ?_
                refine xr_iinc1 d_Run_stateAfterWaiting_89 rfl ?_
                refine xr_goto (tgt := 7) d_Run_stateAfterWaiting_92 rfl ?_
                rw [nI_1]
                exact ih (i + 1) _ _ (by omega) (by omega) hb2 (hB.trans w3).symm
        refine xr_iload_n d_Run_stateAfterWaiting_29 rfl ?_
        refine xr_if_eq (tgt := 50) d_Run_stateAfterWaiting_30 rfl (fun c30 => ?_) (fun c30 => ?_)
        · have w2 : kbi (k_E c r j i ∧ 2 < kF c 9 (12 * r + i)) = 0 := kbi_f (fun q => absurd q.1 (kbi_0.mp (e2.symm.trans c30)))
          refine xr_iconst (v := 0) d_Run_stateAfterWaiting_50 rfl ?_
          refine xr_istore_n d_Run_stateAfterWaiting_51 (Nat.le_of_ble_eq_true rfl) ?_
          exact K52 _ (hE.trans w2).symm
        · refine xr_aload_n d_Run_stateAfterWaiting_33 rfl ?_
          refine xr_getf d_Run_stateAfterWaiting_34 xf_1_27 (hW.run hr) rfl ?_
          refine xr_iload d_Run_stateAfterWaiting_37 rfl ?_
          refine kr_tks (j := i) hW hr d_Run_stateAfterWaiting_39 rfl hil ?_
          refine xr_V0i d_Run_stateAfterWaiting_40 xv_1_31 (hW.tsk hxi) rfl (Nat.le_of_ble_eq_true rfl) (by decide) (s_isEnded hW hxi) (fun v h1 h9 => ?_)
          obtain ⟨rfl, e9⟩ := h9
          have e9 := e9.symm
          subst e9
          refine xr_if_eq (tgt := 50) d_Run_stateAfterWaiting_43 rfl (fun c43 => ?_) (fun c43 => ?_)
          · have w2 : kbi (k_E c r j i ∧ 2 < kF c 9 (12 * r + i)) = 0 := kbi_f (fun q => absurd q.2 (kbi_0.mp c43))
            refine xr_iconst (v := 0) d_Run_stateAfterWaiting_50 rfl ?_
            refine xr_istore_n d_Run_stateAfterWaiting_51 (Nat.le_of_ble_eq_true rfl) ?_
            exact K52 _ (hE.trans w2).symm
          · have w2 : kbi (k_E c r j i ∧ 2 < kF c 9 (12 * r + i)) = 1 := kbi_t ⟨kbi_n0 (fun z => c30 (e2.trans z)), kbi_n0 c43⟩
            refine xr_iconst (v := 1) d_Run_stateAfterWaiting_46 rfl ?_
            refine xr_goto (tgt := 51) d_Run_stateAfterWaiting_47 rfl ?_
            refine xr_istore_n d_Run_stateAfterWaiting_51 (Nat.le_of_ble_eq_true rfl) ?_
            exact K52 _ (hE.trans w2).symm
theorem s_saw {g : xm_G} {h : xm_H} {c m : kS} {R : Nat → Option Nat} {A : kA} (hW : kW c R m A h) {r j : Nat} (hr : r < kq c) (hj : j < kj c) (ha : ∃ a, a < 256 ∧ kF c 16 (12 * r + j) = nI a) : xm_S g 2 m_Run_stateAfterWaiting (xm_entry m_Run_stateAfterWaiting [.ref (A 3 r), .ref (A 5 (12 * r + j))]) h (xq_i fun v h' => v = k_saw c r j ∧ h' = h) := by
  show xm_S g 2 m_Run_stateAfterWaiting (0, [some (.ref (A 3 r)), some (.ref (A 5 (12 * r + j))), none, none, none], []) h _
  refine xr_iconst (v := 1) d_Run_stateAfterWaiting_0 rfl ?_
  refine xr_istore_n d_Run_stateAfterWaiting_1 (Nat.le_of_ble_eq_true rfl) ?_
  refine xr_iconst (v := 1) d_Run_stateAfterWaiting_2 rfl ?_
  refine xr_istore_n d_Run_stateAfterWaiting_3 (Nat.le_of_ble_eq_true rfl) ?_
  refine xr_iconst (v := 0) d_Run_stateAfterWaiting_4 rfl ?_
  refine xr_istore d_Run_stateAfterWaiting_5 (Nat.le_of_ble_eq_true rfl) ?_
  exact l_saw hW hr hj ha (kj c + 1) 0 1 1 (by omega) (by omega) (kbi_t lt_0).symm (kbi_t lt_0).symm
