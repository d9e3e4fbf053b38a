/-! the reference's methods -/
theorem q_isJob {g : xm_G} {h : xm_H} {c m : kS} {R : Nat → Option Nat} {A : kA} (hW : kW c R m A h) {a : Int32} : xm_S g 0 m_M_isJob (xm_entry m_M_isJob [.ref (A 6 0), .int a]) h (xq_i fun v h' => v = kbi (k_in a (kj m)) ∧ h' = h) := by
  show xm_S g 0 m_M_isJob (0, [some (.ref (A 6 0)), some (.int a)], []) h _
  refine xr_iload_n d_M_isJob_0 rfl ?_
  refine xr_if_lt (tgt := 16) d_M_isJob_1 rfl (fun c1 => ?_) (fun c1 => ?_)
  · have w : kbi (k_in a (kj m)) = 0 := kbi_f (fun q => q.1 c1)
    refine xr_iconst (v := 0) d_M_isJob_16 rfl ?_
    refine xr_ireturn d_M_isJob_17 rfl rfl rfl ?_
    exact ⟨_, rfl, w.symm, rfl⟩
  · refine xr_iload_n d_M_isJob_4 rfl ?_
    refine xr_aload_n d_M_isJob_5 rfl ?_
    refine xr_getf d_M_isJob_6 xf_5_78 hW.ref rfl ?_
    refine xr_icmp_ge (tgt := 16) d_M_isJob_9 rfl (fun c9 => ?_) (fun c9 => ?_)
    · have w : kbi (k_in a (kj m)) = 0 := kbi_f (fun q => q.2 c9)
      refine xr_iconst (v := 0) d_M_isJob_16 rfl ?_
      refine xr_ireturn d_M_isJob_17 rfl rfl rfl ?_
      exact ⟨_, rfl, w.symm, rfl⟩
    · have w : kbi (k_in a (kj m)) = 1 := kbi_t ⟨c1, c9⟩
      refine xr_iconst (v := 1) d_M_isJob_12 rfl ?_
      refine xr_goto (tgt := 17) d_M_isJob_13 rfl ?_
      refine xr_ireturn d_M_isJob_17 rfl rfl rfl ?_
      exact ⟨_, rfl, w.symm, rfl⟩
theorem q_isRun {g : xm_G} {h : xm_H} {c m : kS} {R : Nat → Option Nat} {A : kA} (hW : kW c R m A h) {a : Int32} : xm_S g 0 m_M_isRun (xm_entry m_M_isRun [.ref (A 6 0), .int a]) h (xq_i fun v h' => v = kbi (k_in a (kq m)) ∧ h' = h) := by
  show xm_S g 0 m_M_isRun (0, [some (.ref (A 6 0)), some (.int a)], []) h _
  refine xr_iload_n d_M_isRun_0 rfl ?_
  refine xr_if_lt (tgt := 16) d_M_isRun_1 rfl (fun c1 => ?_) (fun c1 => ?_)
  · have w : kbi (k_in a (kq m)) = 0 := kbi_f (fun q => q.1 c1)
    refine xr_iconst (v := 0) d_M_isRun_16 rfl ?_
    refine xr_ireturn d_M_isRun_17 rfl rfl rfl ?_
    exact ⟨_, rfl, w.symm, rfl⟩
  · refine xr_iload_n d_M_isRun_4 rfl ?_
    refine xr_aload_n d_M_isRun_5 rfl ?_
    refine xr_getf d_M_isRun_6 xf_5_81 hW.ref rfl ?_
    refine xr_icmp_ge (tgt := 16) d_M_isRun_9 rfl (fun c9 => ?_) (fun c9 => ?_)
    · have w : kbi (k_in a (kq m)) = 0 := kbi_f (fun q => q.2 c9)
      refine xr_iconst (v := 0) d_M_isRun_16 rfl ?_
      refine xr_ireturn d_M_isRun_17 rfl rfl rfl ?_
      exact ⟨_, rfl, w.symm, rfl⟩
    · have w : kbi (k_in a (kq m)) = 1 := kbi_t ⟨c1, c9⟩
      refine xr_iconst (v := 1) d_M_isRun_12 rfl ?_
      refine xr_goto (tgt := 17) d_M_isRun_13 rfl ?_
      refine xr_ireturn d_M_isRun_17 rfl rfl rfl ?_
      exact ⟨_, rfl, w.symm, rfl⟩
theorem q_isRunner {g : xm_G} {h : xm_H} {c m : kS} {R : Nat → Option Nat} {A : kA} (hW : kW c R m A h) {a : Int32} : xm_S g 0 m_M_isRunner (xm_entry m_M_isRunner [.ref (A 6 0), .int a]) h (xq_i fun v h' => v = kbi (k_in a (kr m)) ∧ h' = h) := by
  show xm_S g 0 m_M_isRunner (0, [some (.ref (A 6 0)), some (.int a)], []) h _
  refine xr_iload_n d_M_isRunner_0 rfl ?_
  refine xr_if_lt (tgt := 16) d_M_isRunner_1 rfl (fun c1 => ?_) (fun c1 => ?_)
  · have w : kbi (k_in a (kr m)) = 0 := kbi_f (fun q => q.1 c1)
    refine xr_iconst (v := 0) d_M_isRunner_16 rfl ?_
    refine xr_ireturn d_M_isRunner_17 rfl rfl rfl ?_
    exact ⟨_, rfl, w.symm, rfl⟩
  · refine xr_iload_n d_M_isRunner_4 rfl ?_
    refine xr_aload_n d_M_isRunner_5 rfl ?_
    refine xr_getf d_M_isRunner_6 xf_5_84 hW.ref rfl ?_
    refine xr_icmp_ge (tgt := 16) d_M_isRunner_9 rfl (fun c9 => ?_) (fun c9 => ?_)
    · have w : kbi (k_in a (kr m)) = 0 := kbi_f (fun q => q.2 c9)
      refine xr_iconst (v := 0) d_M_isRunner_16 rfl ?_
      refine xr_ireturn d_M_isRunner_17 rfl rfl rfl ?_
      exact ⟨_, rfl, w.symm, rfl⟩
    · have w : kbi (k_in a (kr m)) = 1 := kbi_t ⟨c1, c9⟩
      refine xr_iconst (v := 1) d_M_isRunner_12 rfl ?_
      refine xr_goto (tgt := 17) d_M_isRunner_13 rfl ?_
      refine xr_ireturn d_M_isRunner_17 rfl rfl rfl ?_
      exact ⟨_, rfl, w.symm, rfl⟩
theorem q_isEnd {g : xm_G} {h : xm_H} {v : Int32} : xm_S g 0 m_M_isEnd (xm_entry m_M_isEnd [.int v]) h (xq_i fun r h' => r = kbi (2 < v) ∧ h' = h) := by
  show xm_S g 0 m_M_isEnd (0, [some (.int v)], []) h _
  refine xr_iload_n d_M_isEnd_0 rfl ?_
  refine xr_iconst (v := 2) d_M_isEnd_1 rfl ?_
  refine xr_icmp_le (tgt := 9) d_M_isEnd_2 rfl (fun c2 => ?_) (fun c2 => ?_)
  · have w : kbi (2 < v) = 0 := kbi_f (ki_nlt.mpr c2)
    refine xr_iconst (v := 0) d_M_isEnd_9 rfl ?_
    refine xr_ireturn d_M_isEnd_10 rfl rfl rfl ?_
    exact ⟨_, rfl, w.symm, rfl⟩
  · have w : kbi (2 < v) = 1 := kbi_t (ki_nle.mp c2)
    refine xr_iconst (v := 1) d_M_isEnd_5 rfl ?_
    refine xr_goto (tgt := 10) d_M_isEnd_6 rfl ?_
    refine xr_ireturn d_M_isEnd_10 rfl rfl rfl ?_
    exact ⟨_, rfl, w.symm, rfl⟩
theorem ql_isOver {g : xm_G} {h : xm_H} {c m : kS} {R : Nat → Option Nat} {A : kA} (hW : kW c R m A h) (hB : kMb m) {r : Nat} (hr : r < 10) : ∀ (n : Nat) (j : Nat) (b2 : Int32), j ≤ kj m → kj m < j + n → b2 = kbi (∀ k, k < j → 2 < kF m 9 (12 * r + k)) → xm_S g 1 m_M_isOver (4, [some (.ref (A 6 0)), some (.int (nI r)), some (.int b2), some (.int (nI j))], []) h (xq_i fun v h' => v = kbi (k_over m r) ∧ h' = h) := by
  intro n
  induction n with
  | zero => intros; omega
  | succ n ih =>
    intro j b2 h1 h2 e2
    refine xr_iload_n d_M_isOver_4 rfl ?_
    refine xr_aload_n d_M_isOver_5 rfl ?_
    refine xr_getf d_M_isOver_6 xf_5_78 hW.ref rfl ?_
    refine xr_icmp_ge (tgt := 45) d_M_isOver_9 rfl (fun c9 => ?_) (fun c9 => ?_)
    · have hje : j = kj m := by have := k_ge_ge (by omega) c9; omega
      refine xr_iload_n d_M_isOver_45 rfl ?_
      refine xr_ireturn d_M_isOver_46 rfl rfl (by rw [e2]; exact kbi_n) ?_
      exact ⟨_, rfl, by rw [e2, hje], rfl⟩
    · have hjl : j < kj m := k_ge_lt (by omega) (by omega) c9
      have hE : kbi (∀ k, k < j + 1 → 2 < kF m 9 (12 * r + k)) = kbi ((∀ k, k < j → 2 < kF m 9 (12 * r + k)) ∧ 2 < kF m 9 (12 * r + j)) := kbi_c kq_s
      refine xr_iload_n d_M_isOver_12 rfl ?_
      refine xr_if_eq (tgt := 37) d_M_isOver_13 rfl (fun c13 => ?_) (fun c13 => ?_)
      · have w2 : kbi ((∀ k, k < j → 2 < kF m 9 (12 * r + k)) ∧ 2 < kF m 9 (12 * r + j)) = 0 := kbi_f (fun q => absurd q.1 (kbi_0.mp (e2.symm.trans c13)))
        refine xr_iconst (v := 0) d_M_isOver_37 rfl ?_
        refine xr_istore_n d_M_isOver_38 (Nat.le_of_ble_eq_true rfl) ?_
        refine xr_iinc1 d_M_isOver_39 rfl ?_
        refine xr_goto (tgt := 4) d_M_isOver_42 rfl ?_
        rw [nI_1]
        exact ih (j + 1) _ (by omega) (by omega) (hE.trans w2).symm
      · refine xr_aload_n d_M_isOver_16 rfl ?_
        refine xr_getf d_M_isOver_17 xf_5_42 hW.ref rfl ?_
        refine xr_bipush (v := 12) d_M_isOver_20 rfl ?_
        refine xr_iload_n d_M_isOver_22 rfl ?_
        refine xr_imul d_M_isOver_23 ?_
        refine xr_iload_n d_M_isOver_24 rfl ?_
        refine xr_iadd d_M_isOver_25 ?_
        refine kr_ild hW (f := 9) (by decide) rfl d_M_isOver_26 (n := 12 * r + j) kx_i (show 12 * r + j < 120 by omega) ?_
        refine xr_S1i d_M_isOver_27 xs_5_94 rfl rfl (Nat.le_of_ble_eq_true rfl) (by decide) q_isEnd (fun v h1 h9 => ?_)
        obtain ⟨rfl, e9⟩ := h9
        have e9 := e9.symm
        subst e9
        refine xr_if_eq (tgt := 37) d_M_isOver_30 rfl (fun c30 => ?_) (fun c30 => ?_)
        · have w2 : kbi ((∀ k, k < j → 2 < kF m 9 (12 * r + k)) ∧ 2 < kF m 9 (12 * r + j)) = 0 := kbi_f (fun q => absurd q.2 (kbi_0.mp c30))
          refine xr_iconst (v := 0) d_M_isOver_37 rfl ?_
          refine xr_istore_n d_M_isOver_38 (Nat.le_of_ble_eq_true rfl) ?_
          refine xr_iinc1 d_M_isOver_39 rfl ?_
          refine xr_goto (tgt := 4) d_M_isOver_42 rfl ?_
          rw [nI_1]
          exact ih (j + 1) _ (by omega) (by omega) (hE.trans w2).symm
        · have w2 : kbi ((∀ k, k < j → 2 < kF m 9 (12 * r + k)) ∧ 2 < kF m 9 (12 * r + j)) = 1 := kbi_t ⟨kbi_n0 (fun z => c13 (e2.trans z)), kbi_n0 c30⟩
          refine xr_iconst (v := 1) d_M_isOver_33 rfl ?_
          refine xr_goto (tgt := 38) d_M_isOver_34 rfl ?_
          refine xr_istore_n d_M_isOver_38 (Nat.le_of_ble_eq_true rfl) ?_
          refine xr_iinc1 d_M_isOver_39 rfl ?_
          refine xr_goto (tgt := 4) d_M_isOver_42 rfl ?_
          rw [nI_1]
          exact ih (j + 1) _ (by omega) (by omega) (hE.trans w2).symm
theorem q_isOver {g : xm_G} {h : xm_H} {c m : kS} {R : Nat → Option Nat} {A : kA} (hW : kW c R m A h) (hB : kMb m) {r : Nat} (hr : r < 10) : xm_S g 1 m_M_isOver (xm_entry m_M_isOver [.ref (A 6 0), .int (nI r)]) h (xq_i fun v h' => v = kbi (k_over m r) ∧ h' = h) := by
  show xm_S g 1 m_M_isOver (0, [some (.ref (A 6 0)), some (.int (nI r)), none, none], []) h _
  refine xr_iconst (v := 1) d_M_isOver_0 rfl ?_
  refine xr_istore_n d_M_isOver_1 (Nat.le_of_ble_eq_true rfl) ?_
  refine xr_iconst (v := 0) d_M_isOver_2 rfl ?_
  refine xr_istore_n d_M_isOver_3 (Nat.le_of_ble_eq_true rfl) ?_
  exact ql_isOver hW hB hr (kj m + 1) 0 1 (by omega) (by omega) (kbi_t lt_0).symm
theorem ql_isApproved {g : xm_G} {h : xm_H} {c m : kS} {R : Nat → Option Nat} {A : kA} (hW : kW c R m A h) {x : Nat} (hx : x < 120) : ∀ (n : Nat) (p : Nat), p ≤ 8 → 8 < p + n → xm_S g 0 m_M_isApproved (4, [some (.ref (A 6 0)), some (.int (nI x)), some (.int (k_cnt (kF m 16 x) p)), some (.int (nI p))], []) h (xq_i fun v h' => v = kbi (1 < k_cnt (kF m 16 x) 8) ∧ h' = h) := by
  intro n
  induction n with
  | zero => intros; omega
  | succ n ih =>
    intro p h1 h2
    refine xr_iload_n d_M_isApproved_4 rfl ?_
    refine xr_bipush (v := 8) d_M_isApproved_5 rfl ?_
    refine xr_icmp_ge (tgt := 29) d_M_isApproved_7 rfl (fun c7 => ?_) (fun c7 => ?_)
    · have hpe : p = 8 := by have := k_ge_ge (b := 8) (by decide) c7; omega
      subst hpe
      refine xr_iload_n d_M_isApproved_29 rfl ?_
      refine xr_iconst (v := 1) d_M_isApproved_30 rfl ?_
      refine xr_icmp_le (tgt := 38) d_M_isApproved_31 rfl (fun c31 => ?_) (fun c31 => ?_)
      · have w : kbi (1 < k_cnt (kF m 16 x) 8) = 0 := kbi_f (ki_nlt.mpr c31)
        refine xr_iconst (v := 0) d_M_isApproved_38 rfl ?_
        refine xr_ireturn d_M_isApproved_39 rfl rfl rfl ?_
        exact ⟨_, rfl, w.symm, rfl⟩
      · have w : kbi (1 < k_cnt (kF m 16 x) 8) = 1 := kbi_t (ki_nle.mp c31)
        refine xr_iconst (v := 1) d_M_isApproved_34 rfl ?_
        refine xr_goto (tgt := 39) d_M_isApproved_35 rfl ?_
        refine xr_ireturn d_M_isApproved_39 rfl rfl rfl ?_
        exact ⟨_, rfl, w.symm, rfl⟩
    · have hpl : p < 8 := k_ge_lt (b := 8) (by decide) (by omega) c7
      refine xr_iload_n d_M_isApproved_10 rfl ?_
      refine xr_aload_n d_M_isApproved_11 rfl ?_
      refine xr_getf d_M_isApproved_12 xf_5_63 hW.ref rfl ?_
      refine xr_iload_n d_M_isApproved_15 rfl ?_
      refine kr_ild hW (f := 16) (by decide) rfl d_M_isApproved_16 (n := x) rfl (show x < 120 from hx) ?_
      refine xr_iload_n d_M_isApproved_17 rfl ?_
      refine xr_ishr d_M_isApproved_18 ?_
      refine xr_iconst (v := 1) d_M_isApproved_19 rfl ?_
      refine xr_iand d_M_isApproved_20 ?_
      refine xr_iadd d_M_isApproved_21 ?_
      refine xr_istore_n d_M_isApproved_22 (Nat.le_of_ble_eq_true rfl) ?_
      refine xr_iinc1 d_M_isApproved_23 rfl ?_
      refine xr_goto (tgt := 4) d_M_isApproved_26 rfl ?_
      rw [nI_1]
      exact ih (p + 1) (by omega) (by omega)
theorem q_isApproved {g : xm_G} {h : xm_H} {c m : kS} {R : Nat → Option Nat} {A : kA} (hW : kW c R m A h) {x : Nat} (hx : x < 120) : xm_S g 0 m_M_isApproved (xm_entry m_M_isApproved [.ref (A 6 0), .int (nI x)]) h (xq_i fun v h' => v = kbi (1 < k_cnt (kF m 16 x) 8) ∧ h' = h) := by
  show xm_S g 0 m_M_isApproved (0, [some (.ref (A 6 0)), some (.int (nI x)), none, none], []) h _
  refine xr_iconst (v := 0) d_M_isApproved_0 rfl ?_
  refine xr_istore_n d_M_isApproved_1 (Nat.le_of_ble_eq_true rfl) ?_
  refine xr_iconst (v := 0) d_M_isApproved_2 rfl ?_
  refine xr_istore_n d_M_isApproved_3 (Nat.le_of_ble_eq_true rfl) ?_
  exact ql_isApproved hW hx 9 0 (by omega) (by omega)
theorem ql_becomes {g : xm_G} {h : xm_H} {c m : kS} {R : Nat → Option Nat} {A : kA} (hW : kW c R m A h) {r j : Nat} (hr : r < 10) (hj : j < 12) (hc : ¬ (¬ kF m 8 r = 0 ∧ kF m 4 j = 0)) : ∀ (n : Nat) (i : Nat) (b3 : Int32) (x5 : Option Value), i ≤ j → j < i + n → b3 = kbi (k_E m r j i) → (kF m 4 j = 0 → k_B m r j i) → xm_S g 1 m_M_becomes (26, [some (.ref (A 6 0)), some (.int (nI r)), some (.int (nI j)), some (.int b3), some (.int (nI i)), x5], []) h (xq_i fun v h' => v = k_bec m r j ∧ h' = h) := by
  intro n
  induction n with
  | zero => intros; omega
  | succ n ih =>
    intro i b3 x5 h1 h2 e3 hN
    refine xr_iload d_M_becomes_26 rfl ?_
    refine xr_iload_n d_M_becomes_28 rfl ?_
    refine xr_icmp_ge (tgt := 112) d_M_becomes_29 rfl (fun c29 => ?_) (fun c29 => ?_)
    · have hie : i = j := by have := k_ge_ge (by omega) c29; omega
      subst hie
      refine xr_iload_n d_M_becomes_112 rfl ?_
      refine xr_if_eq (tgt := 142) d_M_becomes_113 rfl (fun c113 => ?_) (fun c113 => ?_)
      · have w : k_bec m r i = 0 := by
          unfold k_bec
          rw [if_neg hc, if_neg (fun q => q.2 (hN q.1)), if_neg (fun q => absurd q.1 (kbi_0.mp (e3.symm.trans c113)))]
        refine xr_iconst (v := 0) d_M_becomes_142 rfl ?_
        refine xr_ireturn d_M_becomes_143 rfl rfl rfl ?_
        exact ⟨_, rfl, w.symm, rfl⟩
      · have hall : k_all m r i := kbi_n0 (fun z => c113 (e3.trans z))
        refine xr_aload_n d_M_becomes_116 rfl ?_
        refine xr_getf d_M_becomes_117 xf_5_30 hW.ref rfl ?_
        refine xr_iload_n d_M_becomes_120 rfl ?_
        refine kr_zld hW (f := 5) (by decide) rfl d_M_becomes_121 (n := i) rfl (show i < 12 from hj) ?_
        refine xr_if_eq (tgt := 138) d_M_becomes_122 rfl (fun c122 => ?_) (fun c122 => ?_)
        · have w : k_bec m r i = 1 := by
            unfold k_bec
            rw [if_neg hc, if_neg (fun q => q.2 (hN q.1)), if_pos ⟨hall, Or.inl c122⟩]
          refine xr_iconst (v := 1) d_M_becomes_138 rfl ?_
          refine xr_goto (tgt := 143) d_M_becomes_139 rfl ?_
          refine xr_ireturn d_M_becomes_143 rfl rfl rfl ?_
          exact ⟨_, rfl, w.symm, rfl⟩
        · refine xr_aload_n d_M_becomes_125 rfl ?_
          refine xr_bipush (v := 12) d_M_becomes_126 rfl ?_
          refine xr_iload_n d_M_becomes_128 rfl ?_
          refine xr_imul d_M_becomes_129 ?_
          refine xr_iload_n d_M_becomes_130 rfl ?_
          refine xr_iadd d_M_becomes_131 ?_
          rw [kx_i]
          refine xr_V1i d_M_becomes_132 xv_5_97 hW.ref rfl rfl (Nat.le_of_ble_eq_true rfl) (by decide) (q_isApproved hW (x := 12 * r + i) (by omega)) (fun v h1 h9 => ?_)
          obtain ⟨rfl, e9⟩ := h9
          have e9 := e9.symm
          subst e9
          refine xr_if_eq (tgt := 142) d_M_becomes_135 rfl (fun c135 => ?_) (fun c135 => ?_)
          · have w : k_bec m r i = 0 := by
              unfold k_bec
              rw [if_neg hc, if_neg (fun q => q.2 (hN q.1)), if_neg (fun q => q.2.elim c122 (kbi_0.mp c135))]
            refine xr_iconst (v := 0) d_M_becomes_142 rfl ?_
            refine xr_ireturn d_M_becomes_143 rfl rfl rfl ?_
            exact ⟨_, rfl, w.symm, rfl⟩
          · have w : k_bec m r i = 1 := by
              unfold k_bec
              rw [if_neg hc, if_neg (fun q => q.2 (hN q.1)), if_pos ⟨hall, Or.inr (kbi_n0 c135)⟩]
            refine xr_iconst (v := 1) d_M_becomes_138 rfl ?_
            refine xr_goto (tgt := 143) d_M_becomes_139 rfl ?_
            refine xr_ireturn d_M_becomes_143 rfl rfl rfl ?_
            exact ⟨_, rfl, w.symm, rfl⟩
    · have hil : i < j := k_ge_lt (by omega) (by omega) c29
      refine xr_aload_n d_M_becomes_32 rfl ?_
      refine xr_getf d_M_becomes_33 xf_5_23 hW.ref rfl ?_
      refine xr_iload_n d_M_becomes_36 rfl ?_
      refine kr_ild hW (f := 3) (by decide) rfl d_M_becomes_37 (n := j) rfl (show j < 12 from hj) ?_
      refine xr_iload d_M_becomes_38 rfl ?_
      refine xr_ishr d_M_becomes_40 ?_
      refine xr_iconst (v := 1) d_M_becomes_41 rfl ?_
      refine xr_iand d_M_becomes_42 ?_
      refine xr_if_ne (tgt := 49) d_M_becomes_43 rfl (fun c43 => ?_) (fun c43 => ?_)
      · have hbt : k_bit (kF m 3 j) i := c43
        have hE : kbi (k_E m r j (i + 1)) = kbi (k_E m r j i ∧ 2 < kF m 9 (12 * r + i)) := kbi_c (kq_s.trans ⟨fun q => ⟨q.1, q.2 hbt⟩, fun q => ⟨q.1, fun _ => q.2⟩⟩)
        refine xr_aload_n d_M_becomes_49 rfl ?_
        refine xr_getf d_M_becomes_50 xf_5_42 hW.ref rfl ?_
        refine xr_bipush (v := 12) d_M_becomes_53 rfl ?_
        refine xr_iload_n d_M_becomes_55 rfl ?_
        refine xr_imul d_M_becomes_56 ?_
        refine xr_iload d_M_becomes_57 rfl ?_
        refine xr_iadd d_M_becomes_59 ?_
        refine kr_ild hW (f := 9) (by decide) rfl d_M_becomes_60 (n := 12 * r + i) kx_i (show 12 * r + i < 120 by omega) ?_
        refine xr_istore d_M_becomes_61 (Nat.le_of_ble_eq_true rfl) ?_
        refine xr_iload d_M_becomes_63 rfl ?_
        refine xr_S1i d_M_becomes_65 xs_5_94 rfl rfl (Nat.le_of_ble_eq_true rfl) (by decide) q_isEnd (fun v h1 h9 => ?_)
        obtain ⟨rfl, e9⟩ := h9
        have e9 := e9.symm
        subst e9
        refine xr_if_eq (tgt := 88) d_M_becomes_68 rfl (fun c68 => ?_) (fun c68 => ?_)
        · have hN' : kF m 4 j = 0 → k_B m r j (i + 1) := fun z => kq_s.mpr ⟨hN z, fun _ y => absurd y (kbi_0.mp c68)⟩
          refine xr_iload_n d_M_becomes_88 rfl ?_
          refine xr_if_eq (tgt := 104) d_M_becomes_89 rfl (fun c89 => ?_) (fun c89 => ?_)
          · have w3 : kbi (k_E m r j i ∧ 2 < kF m 9 (12 * r + i)) = 0 := kbi_f (fun q => absurd q.1 (kbi_0.mp (e3.symm.trans c89)))
            refine xr_iconst (v := 0) d_M_becomes_104 rfl ?_
            refine xr_istore_n d_M_becomes_105 (Nat.le_of_ble_eq_true rfl) ?_
            have e3' := (hE.trans w3).symm
            refine xr_iinc1 d_M_becomes_106 rfl ?_
            refine xr_goto (tgt := 26) d_M_becomes_109 rfl ?_
            rw [nI_1]
            exact ih (i + 1) _ _ (by omega) (by omega) e3' hN'
          · refine xr_iload d_M_becomes_92 rfl ?_
            refine xr_S1i d_M_becomes_94 xs_5_94 rfl rfl (Nat.le_of_ble_eq_true rfl) (by decide) q_isEnd (fun v h1 h9 => ?_)
            obtain ⟨rfl, e9⟩ := h9
            have e9 := e9.symm
            subst e9
            refine xr_if_eq (tgt := 104) d_M_becomes_97 rfl (fun c97 => ?_) (fun c97 => ?_)
            · have w3 : kbi (k_E m r j i ∧ 2 < kF m 9 (12 * r + i)) = 0 := kbi_f (fun q => absurd q.2 (kbi_0.mp c97))
              refine xr_iconst (v := 0) d_M_becomes_104 rfl ?_
              refine xr_istore_n d_M_becomes_105 (Nat.le_of_ble_eq_true rfl) ?_
              have e3' := (hE.trans w3).symm
              refine xr_iinc1 d_M_becomes_106 rfl ?_
              refine xr_goto (tgt := 26) d_M_becomes_109 rfl ?_
              rw [nI_1]
              exact ih (i + 1) _ _ (by omega) (by omega) e3' hN'
            · have w3 : kbi (k_E m r j i ∧ 2 < kF m 9 (12 * r + i)) = 1 := kbi_t ⟨kbi_n0 (fun z => c89 (e3.trans z)), kbi_n0 c97⟩
              refine xr_iconst (v := 1) d_M_becomes_100 rfl ?_
              refine xr_goto (tgt := 105) d_M_becomes_101 rfl ?_
              refine xr_istore_n d_M_becomes_105 (Nat.le_of_ble_eq_true rfl) ?_
              have e3' := (hE.trans w3).symm
              refine xr_iinc1 d_M_becomes_106 rfl ?_
              refine xr_goto (tgt := 26) d_M_becomes_109 rfl ?_
              rw [nI_1]
              exact ih (i + 1) _ _ (by omega) (by omega) e3' hN'
        · refine xr_iload d_M_becomes_71 rfl ?_
          refine xr_iconst (v := 3) d_M_becomes_73 rfl ?_
          refine xr_icmp_eq (tgt := 88) d_M_becomes_74 rfl (fun c74 => ?_) (fun c74 => ?_)
          · have hN' : kF m 4 j = 0 → k_B m r j (i + 1) := fun z => kq_s.mpr ⟨hN z, fun _ _ => c74⟩
            refine xr_iload_n d_M_becomes_88 rfl ?_
            refine xr_if_eq (tgt := 104) d_M_becomes_89 rfl (fun c89 => ?_) (fun c89 => ?_)
            · have w3 : kbi (k_E m r j i ∧ 2 < kF m 9 (12 * r + i)) = 0 := kbi_f (fun q => absurd q.1 (kbi_0.mp (e3.symm.trans c89)))
              refine xr_iconst (v := 0) d_M_becomes_104 rfl ?_
              refine xr_istore_n d_M_becomes_105 (Nat.le_of_ble_eq_true rfl) ?_
              have e3' := (hE.trans w3).symm
              refine xr_iinc1 d_M_becomes_106 rfl ?_
              refine xr_goto (tgt := 26) d_M_becomes_109 rfl ?_
              rw [nI_1]
              exact ih (i + 1) _ _ (by omega) (by omega) e3' hN'
            · refine xr_iload d_M_becomes_92 rfl ?_
              refine xr_S1i d_M_becomes_94 xs_5_94 rfl rfl (Nat.le_of_ble_eq_true rfl) (by decide) q_isEnd (fun v h1 h9 => ?_)
              obtain ⟨rfl, e9⟩ := h9
              have e9 := e9.symm
              subst e9
              refine xr_if_eq (tgt := 104) d_M_becomes_97 rfl (fun c97 => ?_) (fun c97 => ?_)
              · have w3 : kbi (k_E m r j i ∧ 2 < kF m 9 (12 * r + i)) = 0 := kbi_f (fun q => absurd q.2 (kbi_0.mp c97))
                refine xr_iconst (v := 0) d_M_becomes_104 rfl ?_
                refine xr_istore_n d_M_becomes_105 (Nat.le_of_ble_eq_true rfl) ?_
                have e3' := (hE.trans w3).symm
                refine xr_iinc1 d_M_becomes_106 rfl ?_
                refine xr_goto (tgt := 26) d_M_becomes_109 rfl ?_
                rw [nI_1]
                exact ih (i + 1) _ _ (by omega) (by omega) e3' hN'
              · have w3 : kbi (k_E m r j i ∧ 2 < kF m 9 (12 * r + i)) = 1 := kbi_t ⟨kbi_n0 (fun z => c89 (e3.trans z)), kbi_n0 c97⟩
                refine xr_iconst (v := 1) d_M_becomes_100 rfl ?_
                refine xr_goto (tgt := 105) d_M_becomes_101 rfl ?_
                refine xr_istore_n d_M_becomes_105 (Nat.le_of_ble_eq_true rfl) ?_
                have e3' := (hE.trans w3).symm
                refine xr_iinc1 d_M_becomes_106 rfl ?_
                refine xr_goto (tgt := 26) d_M_becomes_109 rfl ?_
                rw [nI_1]
                exact ih (i + 1) _ _ (by omega) (by omega) e3' hN'
          · refine xr_aload_n d_M_becomes_77 rfl ?_
            refine xr_getf d_M_becomes_78 xf_5_26 hW.ref rfl ?_
            refine xr_iload_n d_M_becomes_81 rfl ?_
            refine kr_zld hW (f := 4) (by decide) rfl d_M_becomes_82 (n := j) rfl (show j < 12 from hj) ?_
            refine xr_if_ne (tgt := 88) d_M_becomes_83 rfl (fun c83 => ?_) (fun c83 => ?_)
            · have hN' : kF m 4 j = 0 → k_B m r j (i + 1) := fun z => absurd z c83
              refine xr_iload_n d_M_becomes_88 rfl ?_
              refine xr_if_eq (tgt := 104) d_M_becomes_89 rfl (fun c89 => ?_) (fun c89 => ?_)
              · have w3 : kbi (k_E m r j i ∧ 2 < kF m 9 (12 * r + i)) = 0 := kbi_f (fun q => absurd q.1 (kbi_0.mp (e3.symm.trans c89)))
                refine xr_iconst (v := 0) d_M_becomes_104 rfl ?_
                refine xr_istore_n d_M_becomes_105 (Nat.le_of_ble_eq_true rfl) ?_
                have e3' := (hE.trans w3).symm
                refine xr_iinc1 d_M_becomes_106 rfl ?_
                refine xr_goto (tgt := 26) d_M_becomes_109 rfl ?_
                rw [nI_1]
                exact ih (i + 1) _ _ (by omega) (by omega) e3' hN'
              · refine xr_iload d_M_becomes_92 rfl ?_
                refine xr_S1i d_M_becomes_94 xs_5_94 rfl rfl (Nat.le_of_ble_eq_true rfl) (by decide) q_isEnd (fun v h1 h9 => ?_)
                obtain ⟨rfl, e9⟩ := h9
                have e9 := e9.symm
                subst e9
                refine xr_if_eq (tgt := 104) d_M_becomes_97 rfl (fun c97 => ?_) (fun c97 => ?_)
                · have w3 : kbi (k_E m r j i ∧ 2 < kF m 9 (12 * r + i)) = 0 := kbi_f (fun q => absurd q.2 (kbi_0.mp c97))
                  refine xr_iconst (v := 0) d_M_becomes_104 rfl ?_
                  refine xr_istore_n d_M_becomes_105 (Nat.le_of_ble_eq_true rfl) ?_
                  have e3' := (hE.trans w3).symm
                  refine xr_iinc1 d_M_becomes_106 rfl ?_
                  refine xr_goto (tgt := 26) d_M_becomes_109 rfl ?_
                  rw [nI_1]
                  exact ih (i + 1) _ _ (by omega) (by omega) e3' hN'
                · have w3 : kbi (k_E m r j i ∧ 2 < kF m 9 (12 * r + i)) = 1 := kbi_t ⟨kbi_n0 (fun z => c89 (e3.trans z)), kbi_n0 c97⟩
                  refine xr_iconst (v := 1) d_M_becomes_100 rfl ?_
                  refine xr_goto (tgt := 105) d_M_becomes_101 rfl ?_
                  refine xr_istore_n d_M_becomes_105 (Nat.le_of_ble_eq_true rfl) ?_
                  have e3' := (hE.trans w3).symm
                  refine xr_iinc1 d_M_becomes_106 rfl ?_
                  refine xr_goto (tgt := 26) d_M_becomes_109 rfl ?_
                  rw [nI_1]
                  exact ih (i + 1) _ _ (by omega) (by omega) e3' hN'
            · refine xr_iconst (v := 5) d_M_becomes_86 rfl ?_
              refine xr_ireturn d_M_becomes_87 rfl rfl rfl ?_
              refine ⟨_, rfl, ?_, rfl⟩
              unfold k_bec
              rw [if_neg hc, if_pos ⟨c83, fun q => c74 (q i hil hbt (kbi_n0 c68))⟩]
      · have hbt : ¬ k_bit (kF m 3 j) i := fun q => q c43
        have e3' : b3 = kbi (k_E m r j (i + 1)) := e3.trans (kbi_c (kq_s.trans ⟨fun q => q.1, fun q => ⟨q, fun z => absurd z hbt⟩⟩).symm)
        have hN' : kF m 4 j = 0 → k_B m r j (i + 1) := fun z => kq_s.mpr ⟨hN z, fun y => absurd y hbt⟩
        refine xr_goto (tgt := 106) d_M_becomes_46 rfl ?_
        refine xr_iinc1 d_M_becomes_106 rfl ?_
        refine xr_goto (tgt := 26) d_M_becomes_109 rfl ?_
        rw [nI_1]
        exact ih (i + 1) _ _ (by omega) (by omega) e3' hN'
theorem q_becomes {g : xm_G} {h : xm_H} {c m : kS} {R : Nat → Option Nat} {A : kA} (hW : kW c R m A h) {r j : Nat} (hr : r < 10) (hj : j < 12) : xm_S g 1 m_M_becomes (xm_entry m_M_becomes [.ref (A 6 0), .int (nI r), .int (nI j)]) h (xq_i fun v h' => v = k_bec m r j ∧ h' = h) := by
  show xm_S g 1 m_M_becomes (0, [some (.ref (A 6 0)), some (.int (nI r)), some (.int (nI j)), none, none, none], []) h _
  refine xr_aload_n d_M_becomes_0 rfl ?_
  refine xr_getf d_M_becomes_1 xf_5_39 hW.ref rfl ?_
  refine xr_iload_n d_M_becomes_4 rfl ?_
  refine kr_zld hW (f := 8) (by decide) rfl d_M_becomes_5 (n := r) rfl (show r < 10 from hr) ?_
  refine xr_if_eq (tgt := 21) d_M_becomes_6 rfl (fun c6 => ?_) (fun c6 => ?_)
  · have hc : ¬ (¬ kF m 8 r = 0 ∧ kF m 4 j = 0) := fun q => q.1 c6
    refine xr_iconst (v := 1) d_M_becomes_21 rfl ?_
    refine xr_istore_n d_M_becomes_22 (Nat.le_of_ble_eq_true rfl) ?_
    refine xr_iconst (v := 0) d_M_becomes_23 rfl ?_
    refine xr_istore d_M_becomes_24 (Nat.le_of_ble_eq_true rfl) ?_
    exact ql_becomes hW hr hj hc (j + 1) 0 1 none (by omega) (by omega) (kbi_t lt_0).symm (fun _ => lt_0)
  · refine xr_aload_n d_M_becomes_9 rfl ?_
    refine xr_getf d_M_becomes_10 xf_5_26 hW.ref rfl ?_
    refine xr_iload_n d_M_becomes_13 rfl ?_
    refine kr_zld hW (f := 4) (by decide) rfl d_M_becomes_14 (n := j) rfl (show j < 12 from hj) ?_
    refine xr_if_ne (tgt := 21) d_M_becomes_15 rfl (fun c15 => ?_) (fun c15 => ?_)
    · have hc : ¬ (¬ kF m 8 r = 0 ∧ kF m 4 j = 0) := fun q => c15 q.2
      refine xr_iconst (v := 1) d_M_becomes_21 rfl ?_
      refine xr_istore_n d_M_becomes_22 (Nat.le_of_ble_eq_true rfl) ?_
      refine xr_iconst (v := 0) d_M_becomes_23 rfl ?_
      refine xr_istore d_M_becomes_24 (Nat.le_of_ble_eq_true rfl) ?_
      exact ql_becomes hW hr hj hc (j + 1) 0 1 none (by omega) (by omega) (kbi_t lt_0).symm (fun _ => lt_0)
    · refine xr_bipush (v := 6) d_M_becomes_18 rfl ?_
      refine xr_ireturn d_M_becomes_20 rfl rfl rfl ?_
      refine ⟨_, rfl, ?_, rfl⟩
      unfold k_bec
      rw [if_pos ⟨c6, c15⟩]
theorem ql_settle {g : xm_G} {h0 : xm_H} {c m : kS} {R : Nat → Option Nat} {A : kA} (hB : kMb m) : ∀ (n : Nat) (x : Nat) (h : xm_H), kW c R (k_settleN m x) A h → h.2 = h0.2 → x ≤ 12 * kq m → 12 * kq m < x + n → xm_S g 2 m_M_settle (2, [some (.ref (A 6 0)), some (.int (nI x))], []) h (xq_v fun h' => kW c R (k_settle m) A h' ∧ h'.2 = h0.2) := by
  intro n
  induction n with
  | zero => intros; omega
  | succ n ih =>
    intro x h hW he h1 h2
    have e1 := k_settleN_1 m x
    have hk : k_settleN m (x + 1) = k_set1 (k_settleN m x) x := rfl
    generalize hC : k_settleN m x = C at *
    have hkq : kq C = kq m := congrArg (fun z => z.2.2) e1
    have hkj : kj C = kj m := congrArg (fun z => z.1) e1
    rw [← hkq] at h1 h2
    have hB3 : kq C ≤ 10 := by rw [hkq]; exact hB.2.2
    have hB1 : kj C ≤ 12 := by rw [hkj]; exact hB.1
    refine xr_iload_n d_M_settle_2 rfl ?_
    refine xr_bipush (v := 12) d_M_settle_3 rfl ?_
    refine xr_aload_n d_M_settle_5 rfl ?_
    refine xr_getf d_M_settle_6 xf_5_81 hW.ref rfl ?_
    refine xr_imul d_M_settle_9 ?_
    rw [k12m]
    refine xr_icmp_ge (tgt := 57) d_M_settle_10 rfl (fun c10 => ?_) (fun c10 => ?_)
    · have hxe : x = 12 * kq C := by have := k_ge_ge (by omega) c10; omega
      refine xr_return d_M_settle_57 rfl rfl ?_
      refine ⟨rfl, ?_, he⟩
      unfold k_settle
      rw [← hkq, ← hxe, hC]
      exact hW
    · have hxl : x < 12 * kq C := k_ge_lt (by omega) (by omega) c10
      refine xr_iload_n d_M_settle_13 rfl ?_
      refine xr_bipush (v := 12) d_M_settle_14 rfl ?_
      refine xr_irem d_M_settle_16 (by decide) ?_
      rw [k12r (by omega)]
      refine xr_aload_n d_M_settle_17 rfl ?_
      refine xr_getf d_M_settle_18 xf_5_78 hW.ref rfl ?_
      refine xr_icmp_ge (tgt := 51) d_M_settle_21 rfl (fun c21 => ?_) (fun c21 => ?_)
      · have hnx : k_settleN m (x + 1) = C := hk.trans (if_neg (fun q => by have := k_ge_ge (by omega) c21; omega))
        refine xr_iinc1 d_M_settle_51 rfl ?_
        refine xr_goto (tgt := 2) d_M_settle_54 rfl ?_
        rw [nI_1]
        exact ih (x + 1) _ (by rw [hnx]; exact hW) he (by omega) (by omega)
      · have hxj : x % 12 < kj C := k_ge_lt (by omega) (by omega) c21
        refine xr_aload_n d_M_settle_24 rfl ?_
        refine xr_getf d_M_settle_25 xf_5_42 hW.ref rfl ?_
        refine xr_iload_n d_M_settle_28 rfl ?_
        refine kr_ild hW (f := 9) (by decide) rfl d_M_settle_29 (n := x) rfl (show x < 120 by omega) ?_
        refine xr_if_ne (tgt := 51) d_M_settle_30 rfl (fun c30 => ?_) (fun c30 => ?_)
        · have hnx : k_settleN m (x + 1) = C := hk.trans (if_neg (fun q => c30 q.2))
          refine xr_iinc1 d_M_settle_51 rfl ?_
          refine xr_goto (tgt := 2) d_M_settle_54 rfl ?_
          rw [nI_1]
          exact ih (x + 1) _ (by rw [hnx]; exact hW) he (by omega) (by omega)
        · have hnx : k_settleN m (x + 1) = kw C 9 x (k_bec C (x / 12) (x % 12)) := hk.trans (if_pos ⟨hxj, c30⟩)
          refine xr_aload_n d_M_settle_33 rfl ?_
          refine xr_getf d_M_settle_34 xf_5_42 hW.ref rfl ?_
          refine xr_iload_n d_M_settle_37 rfl ?_
          refine xr_aload_n d_M_settle_38 rfl ?_
          refine xr_iload_n d_M_settle_39 rfl ?_
          refine xr_bipush (v := 12) d_M_settle_40 rfl ?_
          refine xr_idiv d_M_settle_42 (by decide) ?_
          refine xr_iload_n d_M_settle_43 rfl ?_
          refine xr_bipush (v := 12) d_M_settle_44 rfl ?_
          refine xr_irem d_M_settle_46 (by decide) ?_
          rw [k12r (by omega), k12d (by omega)]
          refine xr_V2i d_M_settle_47 xv_5_100 hW.ref rfl rfl rfl (Nat.le_of_ble_eq_true rfl) (by decide) (q_becomes hW (r := x / 12) (j := x % 12) (by omega) (by omega)) (fun v h1 h9 => ?_)
          obtain ⟨rfl, e9⟩ := h9
          have e9 := e9.symm
          subst e9
          refine kr_ist hW (f := 9) (by decide) rfl d_M_settle_50 (n := x) rfl (show x < 120 by omega) (fun h9s hW he9 => ?_)
          have he := he9.trans he
          refine xr_iinc1 d_M_settle_51 rfl ?_
          refine xr_goto (tgt := 2) d_M_settle_54 rfl ?_
          rw [nI_1]
          exact ih (x + 1) _ (by rw [hnx]; exact hW) he (by omega) (by omega)
theorem q_settle {g : xm_G} {h : xm_H} {c m : kS} {R : Nat → Option Nat} {A : kA} (hW : kW c R m A h) (hB : kMb m) : xm_S g 2 m_M_settle (xm_entry m_M_settle [.ref (A 6 0)]) h (xq_v fun h' => kW c R (k_settle m) A h' ∧ h'.2 = h.2) := by
  show xm_S g 2 m_M_settle (0, [some (.ref (A 6 0)), none], []) h _
  refine xr_iconst (v := 0) d_M_settle_0 rfl ?_
  refine xr_istore_n d_M_settle_1 (Nat.le_of_ble_eq_true rfl) ?_
  exact ql_settle (h0 := h) hB (12 * kq m + 1) 0 h hW rfl (by omega) (by omega)
