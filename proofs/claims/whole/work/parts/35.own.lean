/-! the class's own methods: finding, settling, looking -/
theorem s_isPerson {g : xm_G} {h : xm_H} {p : Int32} : xm_S g 0 m_S_isPerson (xm_entry m_S_isPerson [.int p]) h (xq_i fun v h' => v = kbi (k_in p 8) ∧ h' = h) := by
  show xm_S g 0 m_S_isPerson (0, [some (.int p)], []) h _
  refine xr_iload_n d_S_isPerson_0 rfl ?_
  refine xr_if_lt (tgt := 14) d_S_isPerson_1 rfl (fun c1 => ?_) (fun c1 => ?_)
  · have w : kbi (k_in p 8) = 0 := kbi_f (fun q => q.1 c1)
    refine xr_iconst (v := 0) d_S_isPerson_14 rfl ?_
    refine xr_ireturn d_S_isPerson_15 rfl rfl rfl ?_
    exact ⟨_, rfl, w.symm, rfl⟩
  · refine xr_iload_n d_S_isPerson_4 rfl ?_
    refine xr_bipush (v := 8) d_S_isPerson_5 rfl ?_
    refine xr_icmp_ge (tgt := 14) d_S_isPerson_7 rfl (fun c7 => ?_) (fun c7 => ?_)
    · have w : kbi (k_in p 8) = 0 := kbi_f (fun q => q.2 c7)
      refine xr_iconst (v := 0) d_S_isPerson_14 rfl ?_
      refine xr_ireturn d_S_isPerson_15 rfl rfl rfl ?_
      exact ⟨_, rfl, w.symm, rfl⟩
    · have w : kbi (k_in p 8) = 1 := kbi_t ⟨c1, c7⟩
      refine xr_iconst (v := 1) d_S_isPerson_10 rfl ?_
      refine xr_goto (tgt := 15) d_S_isPerson_11 rfl ?_
      refine xr_ireturn d_S_isPerson_15 rfl rfl rfl ?_
      exact ⟨_, rfl, w.symm, rfl⟩
theorem s_findRun {g : xm_G} {h : xm_H} {c m : kS} {R : Nat → Option Nat} {A : kA} (hW : kW c R m A h) {v : Int32} : xm_S g 0 m_S_findRun (xm_entry m_S_findRun [.ref (A 0 0), .int v]) h (xq_r fun o h' => h' = h ∧ ((o = none ∧ ¬ k_in v (kq c)) ∨ ∃ r, r < kq c ∧ v = nI r ∧ o = some (A 3 r))) := by
  show xm_S g 0 m_S_findRun (0, [some (.ref (A 0 0)), some (.int v)], []) h _
  have hb : kq c < 2 ^ 31 := by have := hW.2.2; omega
  refine xr_iload_n d_S_findRun_0 rfl ?_
  refine xr_if_lt (tgt := 21) d_S_findRun_1 rfl (fun c1 => ?_) (fun c1 => ?_)
  · have hout : ¬ k_in v (kq c) := fun q => q.1 c1
    refine xr_null d_S_findRun_21 ?_
    refine xr_areturn (v := none) d_S_findRun_22 rfl rfl ?_
    first | exact ⟨_, rfl, rfl, Or.inl ⟨rfl, hout⟩⟩ | exact ⟨_, rfl, rfl, Or.inr ⟨r, hr, rfl, rfl⟩⟩
  · refine xr_iload_n d_S_findRun_4 rfl ?_
    refine xr_aload_n d_S_findRun_5 rfl ?_
    refine xr_getf d_S_findRun_6 xf_4_34 hW.this rfl ?_
    refine xr_icmp_ge (tgt := 21) d_S_findRun_9 rfl (fun c9 => ?_) (fun c9 => ?_)
    · have hout : ¬ k_in v (kq c) := fun q => q.2 c9
      refine xr_null d_S_findRun_21 ?_
      refine xr_areturn (v := none) d_S_findRun_22 rfl rfl ?_
      first | exact ⟨_, rfl, rfl, Or.inl ⟨rfl, hout⟩⟩ | exact ⟨_, rfl, rfl, Or.inr ⟨r, hr, rfl, rfl⟩⟩
    · obtain ⟨r, hr, rfl⟩ := k_in_ex hb ⟨c1, c9⟩
      refine xr_aload_n d_S_findRun_12 rfl ?_
      refine xr_getf d_S_findRun_13 xf_4_23 hW.this rfl ?_
      refine xr_iload_n d_S_findRun_16 rfl ?_
      refine kr_runs (r := r) hW d_S_findRun_17 rfl hr ?_
      refine xr_goto (tgt := 22) d_S_findRun_18 rfl ?_
      refine xr_areturn (v := some (A 3 r)) d_S_findRun_22 rfl rfl ?_
      first | exact ⟨_, rfl, rfl, Or.inl ⟨rfl, hout⟩⟩ | exact ⟨_, rfl, rfl, Or.inr ⟨r, hr, rfl, rfl⟩⟩
theorem s_findRunner {g : xm_G} {h : xm_H} {c m : kS} {R : Nat → Option Nat} {A : kA} (hW : kW c R m A h) {v : Int32} : xm_S g 0 m_S_findRunner (xm_entry m_S_findRunner [.ref (A 0 0), .int v]) h (xq_r fun o h' => h' = h ∧ ((o = none ∧ ¬ k_in v (kr c)) ∨ ∃ r, r < kr c ∧ v = nI r ∧ o = some (A 2 r))) := by
  show xm_S g 0 m_S_findRunner (0, [some (.ref (A 0 0)), some (.int v)], []) h _
  have hb : kr c < 2 ^ 31 := by have := hW.2.2; omega
  refine xr_iload_n d_S_findRunner_0 rfl ?_
  refine xr_if_lt (tgt := 21) d_S_findRunner_1 rfl (fun c1 => ?_) (fun c1 => ?_)
  · have hout : ¬ k_in v (kr c) := fun q => q.1 c1
    refine xr_null d_S_findRunner_21 ?_
    refine xr_areturn (v := none) d_S_findRunner_22 rfl rfl ?_
    first | exact ⟨_, rfl, rfl, Or.inl ⟨rfl, hout⟩⟩ | exact ⟨_, rfl, rfl, Or.inr ⟨r, hr, rfl, rfl⟩⟩
  · refine xr_iload_n d_S_findRunner_4 rfl ?_
    refine xr_aload_n d_S_findRunner_5 rfl ?_
    refine xr_getf d_S_findRunner_6 xf_4_31 hW.this rfl ?_
    refine xr_icmp_ge (tgt := 21) d_S_findRunner_9 rfl (fun c9 => ?_) (fun c9 => ?_)
    · have hout : ¬ k_in v (kr c) := fun q => q.2 c9
      refine xr_null d_S_findRunner_21 ?_
      refine xr_areturn (v := none) d_S_findRunner_22 rfl rfl ?_
      first | exact ⟨_, rfl, rfl, Or.inl ⟨rfl, hout⟩⟩ | exact ⟨_, rfl, rfl, Or.inr ⟨r, hr, rfl, rfl⟩⟩
    · obtain ⟨r, hr, rfl⟩ := k_in_ex hb ⟨c1, c9⟩
      refine xr_aload_n d_S_findRunner_12 rfl ?_
      refine xr_getf d_S_findRunner_13 xf_4_17 hW.this rfl ?_
      refine xr_iload_n d_S_findRunner_16 rfl ?_
      refine kr_rnrs (u := r) hW d_S_findRunner_17 rfl hr ?_
      refine xr_goto (tgt := 22) d_S_findRunner_18 rfl ?_
      refine xr_areturn (v := some (A 2 r)) d_S_findRunner_22 rfl rfl ?_
      first | exact ⟨_, rfl, rfl, Or.inl ⟨rfl, hout⟩⟩ | exact ⟨_, rfl, rfl, Or.inr ⟨r, hr, rfl, rfl⟩⟩
theorem s_findTask {g : xm_G} {h : xm_H} {c m : kS} {R : Nat → Option Nat} {A : kA} (hW : kW c R m A h) {v w : Int32} : xm_S g 1 m_S_findTask (xm_entry m_S_findTask [.ref (A 0 0), .int v, .int w]) h (xq_r fun o h' => h' = h ∧ ((o = none ∧ ¬ (k_in v (kq c) ∧ k_in w (kj c))) ∨ ∃ r j, r < kq c ∧ j < kj c ∧ v = nI r ∧ w = nI j ∧ o = some (A 5 (12 * r + j)))) := by
  show xm_S g 1 m_S_findTask (0, [some (.ref (A 0 0)), some (.int v), some (.int w), none], []) h _
  refine xr_aload_n d_S_findTask_0 rfl ?_
  refine xr_iload_n d_S_findTask_1 rfl ?_
  refine xr_V1r d_S_findTask_2 xv_4_133 hW.this rfl rfl (Nat.le_of_ble_eq_true rfl) (by decide) (s_findRun hW) (fun o h1 h9 => ?_)
  obtain ⟨e9, h9⟩ := h9
  have e9 := e9.symm
  subst e9
  have hb : kj c < 2 ^ 31 := by have := hW.2.2; omega
  rcases h9 with ⟨rfl, hno⟩ | ⟨r, hr, rfl, rfl⟩
  · have hout : ¬ (k_in v (kq c) ∧ k_in w (kj c)) := fun q => hno q.1
    refine xr_astore_nN d_S_findTask_5 (Nat.le_of_ble_eq_true rfl) ?_
    refine xr_aload_nN d_S_findTask_6 rfl ?_
    refine xr_ifnullN (tgt := 23) d_S_findTask_7 rfl ?_
    refine xr_null d_S_findTask_23 ?_
    refine xr_areturn (v := none) d_S_findTask_24 rfl rfl ?_
    exact ⟨_, rfl, rfl, Or.inl ⟨rfl, hout⟩⟩
  · have hq := k_in_of hr (by have := hW.2.2; omega)
    refine xr_astore_n d_S_findTask_5 (Nat.le_of_ble_eq_true rfl) ?_
    refine xr_aload_n d_S_findTask_6 rfl ?_
    refine xr_ifnull d_S_findTask_7 ?_
    refine xr_iload_n d_S_findTask_10 rfl ?_
    refine xr_if_lt (tgt := 23) d_S_findTask_11 rfl (fun c11 => ?_) (fun c11 => ?_)
    · have hout : ¬ (k_in (nI r) (kq c) ∧ k_in w (kj c)) := fun q => q.2.1 c11
      refine xr_null d_S_findTask_23 ?_
      refine xr_areturn (v := none) d_S_findTask_24 rfl rfl ?_
      exact ⟨_, rfl, rfl, Or.inl ⟨rfl, hout⟩⟩
    · refine xr_iload_n d_S_findTask_14 rfl ?_
      refine xr_aload_n d_S_findTask_15 rfl ?_
      refine xr_getf d_S_findTask_16 xf_4_171 (hW.run hr) rfl ?_
      refine xr_alen d_S_findTask_19 (hW.tks hr) rfl ?_
      refine xr_icmp_lt (tgt := 25) d_S_findTask_20 rfl (fun c20 => ?_) (fun c20 => ?_)
      · obtain ⟨j, hj, rfl⟩ := k_in_ex hb ⟨c11, ki_nle.mpr c20⟩
        refine xr_aload_n d_S_findTask_25 rfl ?_
        refine xr_getf d_S_findTask_26 xf_4_171 (hW.run hr) rfl ?_
        refine xr_iload_n d_S_findTask_29 rfl ?_
        refine kr_tks (j := j) hW hr d_S_findTask_30 rfl hj ?_
        refine xr_areturn (v := some (A 5 (12 * r + j))) d_S_findTask_31 rfl rfl ?_
        exact ⟨_, rfl, rfl, Or.inr ⟨r, j, hr, hj, rfl, rfl, rfl⟩⟩
      · have hout : ¬ (k_in (nI r) (kq c) ∧ k_in w (kj c)) := fun q => q.2.2 (ki_nlt.mp c20)
        refine xr_null d_S_findTask_23 ?_
        refine xr_areturn (v := none) d_S_findTask_24 rfl rfl ?_
        exact ⟨_, rfl, rfl, Or.inl ⟨rfl, hout⟩⟩
theorem k_settleN_kq (s : kS) (n : Nat) : kq (k_settleN s n) = kq s := congrArg (fun z => z.2.2) (k_settleN_1 s n)
theorem l_settle {g : xm_G} {h0 : xm_H} {s m : kS} {A : kA} {R : Nat → Option Nat}  : ∀ (n : Nat) (r : Nat) (h : xm_H), kW (k_settleN s (12 * r)) R m A h → kI (k_settleN s (12 * r)) R → kI8 (k_settleN s (12 * r)) → h.2 = h0.2 → r ≤ kq s → kq s < r + n → xm_S g 4 m_S_settle (2, [some (.ref (A 0 0)), some (.int (nI r))], []) h (xq_v fun h' => kW (k_settle s) R m A h' ∧ kI (k_settle s) R ∧ kI8 (k_settle s) ∧ h'.2 = h0.2) := by
  intro n
  induction n with
  | zero => intros; omega
  | succ n ih =>
    intro r h hW hI h8 he hr1 hn
    have hb : kq s ≤ 10 := by have := hI.1.2.2; rw [k_settleN_kq] at this; exact this
    have hkq := k_settleN_kq s (12 * r)
    refine xr_iload_n d_S_settle_2 rfl ?_
    refine xr_aload_n d_S_settle_3 rfl ?_
    refine xr_getf d_S_settle_4 xf_4_34 hW.this rfl ?_
    refine xr_icmp_ge (tgt := 25) d_S_settle_7 rfl (fun c7 => ?_) (fun c7 => ?_)
    · rw [hkq] at c7
      have hre : r = kq s := by
        rcases Nat.lt_or_ge r (kq s) with q | q
        · exact absurd c7 (nI_ge q (by omega))
        · omega
      refine xr_return d_S_settle_25 rfl rfl ?_
      refine ⟨rfl, ?_⟩
      subst hre
      exact ⟨hW, hI, h8, he⟩
    · rw [hkq] at c7
      have hr : r < kq s := by
        rcases Nat.lt_or_ge r (kq s) with q | q
        · exact q
        · exact absurd (nI_le q (by omega)) c7
      have hr' : r < kq (k_settleN s (12 * r)) := by rw [hkq]; exact hr
      refine xr_aload_n d_S_settle_10 rfl ?_
      refine xr_getf d_S_settle_11 xf_4_23 hW.this rfl ?_
      refine xr_iload_n d_S_settle_14 rfl ?_
      refine kr_runs (r := r) hW d_S_settle_15 rfl hr' ?_
      refine xr_V0v d_S_settle_16 xv_4_184 (hW.run hr') rfl (Nat.le_of_ble_eq_true rfl) (by decide) (s_settleTasks hr hW hI h8) (fun h1 h9 => ?_)
      obtain ⟨hW, hI, h8, he1⟩ := h9
      have h12 : kj s ≤ 12 := by have := hI.1.1; rw [show kj (k_settleN s (12 * r + kj s)) = kj s from congrArg (fun z => z.1) (k_settleN_1 s _)] at this; exact this
      have ht := k_settle_tail s r h12 (12 - kj s) (by omega)
      rw [show 12 * r + (kj s + (12 - kj s)) = 12 * (r + 1) by omega] at ht
      rw [← ht] at hW hI h8
      refine xr_iinc1 d_S_settle_19 rfl ?_
      refine xr_goto (tgt := 2) d_S_settle_22 rfl ?_
      rw [nI_1]
      exact ih (r + 1) h1 hW hI h8 (he1.trans he) (by omega) (by omega)
theorem s_settle {g : xm_G} {h : xm_H} {s m : kS} {R : Nat → Option Nat} {A : kA} (hW : kW s R m A h) (hI : kI s R) (h8 : kI8 s) : xm_S g 4 m_S_settle (xm_entry m_S_settle [.ref (A 0 0)]) h (xq_v fun h' => kW (k_settle s) R m A h' ∧ kI (k_settle s) R ∧ kI8 (k_settle s) ∧ h'.2 = h.2) := by
  show xm_S g 4 m_S_settle (0, [some (.ref (A 0 0)), none], []) h _
  refine xr_iconst (v := 0) d_S_settle_0 rfl ?_
  refine xr_istore_n d_S_settle_1 (Nat.le_of_ble_eq_true rfl) ?_
  exact l_settle (h0 := h) (kq s + 1) 0 h hW hI h8 rfl (by omega) (by omega)
theorem p_state {g : xm_G} {h : xm_H} {c m : kS} {R : Nat → Option Nat} {A : kA} (hW : kW c R m A h) {a b : Int32} (hI : kI c R) (h8 : kI8 c) : xm_S g 2 m_S_state (xm_entry m_S_state [.ref (A 0 0), .int a, .int b]) h (xq_i fun v h' => v = k_state c a b ∧ kQ c m A h h') := by
  show xm_S g 2 m_S_state (0, [some (.ref (A 0 0)), some (.int a), some (.int b), none], []) h _
  refine xr_aload_n d_S_state_0 rfl ?_
  refine xr_iload_n d_S_state_1 rfl ?_
  refine xr_iload_n d_S_state_2 rfl ?_
  refine xr_V2r d_S_state_3 xv_4_70 hW.this rfl rfl rfl (Nat.le_of_ble_eq_true rfl) (by decide) (s_findTask hW) (fun o h1 h9 => ?_)
  obtain ⟨e9, h9⟩ := h9
  have e9 := e9.symm
  subst e9
  have hb1 := hW.2.2.1
  have hb2 := hW.2.2.2.2
  rcases h9 with ⟨rfl, hout⟩ | ⟨r, j, hr, hj, rfl, rfl, rfl⟩
  · have w : k_state c a b = -1 := if_neg hout
    refine xr_astore_nN d_S_state_6 (Nat.le_of_ble_eq_true rfl) ?_
    refine xr_aload_nN d_S_state_7 rfl ?_
    refine xr_ifnonnullN d_S_state_8 ?_
    refine xr_iconst (v := -1) d_S_state_11 rfl ?_
    refine xr_goto (tgt := 19) d_S_state_12 rfl ?_
    refine xr_ireturn d_S_state_19 rfl rfl rfl ?_
    exact ⟨_, rfl, w.symm, kQ.of hW hI h8 rfl⟩
  · have hx := k_okx hW hr hj
    have hin : k_in (nI r) (kq c) ∧ k_in (nI j) (kj c) := ⟨k_in_of hr (by omega), k_in_of hj (by omega)⟩
    have hnr : k_n (nI r) = r := nI_clamp (by omega)
    have hnj : k_n (nI j) = j := nI_clamp (by omega)
    have w : k_state c (nI r) (nI j) = kF c 9 (12 * r + j) := by unfold k_state; rw [if_pos hin, hnr, hnj]
    refine xr_astore_n d_S_state_6 (Nat.le_of_ble_eq_true rfl) ?_
    refine xr_aload_n d_S_state_7 rfl ?_
    refine xr_ifnonnull (tgt := 15) d_S_state_8 rfl ?_
    refine xr_aload_n d_S_state_15 rfl ?_
    refine xr_getf d_S_state_16 xf_4_149 (hW.tsk hx) rfl ?_
    refine xr_ireturn d_S_state_19 rfl rfl rfl ?_
    exact ⟨_, rfl, w.symm, kQ.of hW hI h8 rfl⟩
theorem p_verdict {g : xm_G} {h : xm_H} {c m : kS} {R : Nat → Option Nat} {A : kA} (hW : kW c R m A h) {a : Int32} (hI : kI c R) (h8 : kI8 c) : xm_S g 3 m_S_verdict (xm_entry m_S_verdict [.ref (A 0 0), .int a]) h (xq_i fun v h' => v = k_verd c a ∧ kQ c m A h h') := by
  show xm_S g 3 m_S_verdict (0, [some (.ref (A 0 0)), some (.int a), none], []) h _
  refine xr_aload_n d_S_verdict_0 rfl ?_
  refine xr_iload_n d_S_verdict_1 rfl ?_
  refine xr_V1r d_S_verdict_2 xv_4_133 hW.this rfl rfl (Nat.le_of_ble_eq_true rfl) (by decide) (s_findRun hW) (fun o h1 h9 => ?_)
  obtain ⟨e9, h9⟩ := h9
  have e9 := e9.symm
  subst e9
  have hb1 := hW.2.2.1
  have hb2 := hW.2.2.2.2
  rcases h9 with ⟨rfl, hout⟩ | ⟨r, hr, rfl, rfl⟩
  · have w : k_verd c a = -1 := if_neg hout
    refine xr_astore_nN d_S_verdict_5 (Nat.le_of_ble_eq_true rfl) ?_
    refine xr_aload_nN d_S_verdict_6 rfl ?_
    refine xr_ifnonnullN d_S_verdict_7 ?_
    refine xr_iconst (v := -1) d_S_verdict_10 rfl ?_
    refine xr_goto (tgt := 18) d_S_verdict_11 rfl ?_
    refine xr_ireturn d_S_verdict_18 rfl rfl rfl ?_
    exact ⟨_, rfl, w.symm, kQ.of hW hI h8 rfl⟩
  · have hin := k_in_of hr (by omega)
    have hnr : k_n (nI r) = r := nI_clamp (by omega)
    have w : k_verd c (nI r) = k_judge c r := by unfold k_verd; rw [if_pos hin, hnr]
    refine xr_astore_n d_S_verdict_5 (Nat.le_of_ble_eq_true rfl) ?_
    refine xr_aload_n d_S_verdict_6 rfl ?_
    refine xr_ifnonnull (tgt := 14) d_S_verdict_7 rfl ?_
    refine xr_aload_n d_S_verdict_14 rfl ?_
    refine xr_V0i d_S_verdict_15 xv_4_168 (hW.run hr) rfl (Nat.le_of_ble_eq_true rfl) (by decide) (s_judge hW hr) (fun v h1 h9 => ?_)
    obtain ⟨rfl, e9⟩ := h9
    have e9 := e9.symm
    subst e9
    refine xr_ireturn d_S_verdict_18 rfl rfl rfl ?_
    exact ⟨_, rfl, w.symm, kQ.of hW hI h8 rfl⟩
