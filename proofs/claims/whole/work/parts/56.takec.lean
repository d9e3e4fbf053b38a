/-! the class's take and tick -/
theorem l_running {g : xm_G} {h : xm_H} {c m : kS} {R : Nat → Option Nat} {A : kA} (hW : kW c R m A h) (hI : kI c R) {p : Int32} : ∀ (n : Nat) (u : Nat) (x4 : Option Value), u ≤ kr c → kr c < u + n → xm_S g 0 m_S_runningOf (4, [some (.ref (A 0 0)), some (.int p), some (.int (nI (k_runsN c p u))), some (.int (nI u)), x4], []) h (xq_i fun v h' => v = nI (k_runsN c p (kr c)) ∧ h' = h) := by
  intro n
  induction n with
  | zero => intros; omega
  | succ n ih =>
    intro u x4 h1 h2
    have hb := hI.1
    refine xr_iload_n d_S_runningOf_4 rfl ?_
    refine xr_aload_n d_S_runningOf_5 rfl ?_
    refine xr_getf d_S_runningOf_6 xf_4_31 hW.this rfl ?_
    refine xr_icmp_ge (tgt := 49) d_S_runningOf_9 rfl (fun c9 => ?_) (fun c9 => ?_)
    · have hre : u = kr c := by have := k_ge_ge (by omega) c9; omega
      refine xr_iload_n d_S_runningOf_49 rfl ?_
      refine xr_ireturn d_S_runningOf_50 rfl rfl rfl ?_
      exact ⟨_, rfl, by rw [hre], rfl⟩
    · have hu : u < kr c := k_ge_lt (by omega) (by omega) c9
      refine xr_aload_n d_S_runningOf_12 rfl ?_
      refine xr_getf d_S_runningOf_13 xf_4_17 hW.this rfl ?_
      refine xr_iload_n d_S_runningOf_16 rfl ?_
      refine kr_rnrs (u := u) hW d_S_runningOf_17 rfl hu ?_
      rcases hI.2.2.1 u hu with e | ⟨x, eR⟩
      · have hst : nI (k_runsN c p u) = nI (k_runsN c p (u + 1)) := by rw [k_runsN_s, k_b1_f (fun q => q.1 e)]; rfl
        refine xr_getf d_S_runningOf_18 xf_4_102 (hW.rnrN hu e) rfl ?_
        refine xr_astoreN d_S_runningOf_21 (Nat.le_of_ble_eq_true rfl) ?_
        refine xr_aloadN d_S_runningOf_23 rfl ?_
        refine xr_ifnullN (tgt := 43) d_S_runningOf_25 rfl ?_
        refine xr_iinc1 d_S_runningOf_43 rfl ?_
        refine xr_goto (tgt := 4) d_S_runningOf_46 rfl ?_
        rw [nI_1 u, hst]
        exact ih (u + 1) _ (by omega) (by omega)
      · obtain ⟨hx, -, e⟩ := hI.2.1 x u eR
        have hxx := hx
        unfold k_ok at hx
        have hx2 : x < 2 ^ 31 := by have := hI.x120 hx; omega
        have hnx : k_n (nI x) = x := nI_clamp hx2
        refine xr_getf d_S_runningOf_18 xf_4_102 (hW.rnrS hu hx2 e) rfl ?_
        refine xr_astore d_S_runningOf_21 (Nat.le_of_ble_eq_true rfl) ?_
        refine xr_aload d_S_runningOf_23 rfl ?_
        refine xr_ifnull d_S_runningOf_25 ?_
        refine xr_aload d_S_runningOf_28 rfl ?_
        refine xr_getf d_S_runningOf_30 xf_4_88 (hW.tsk hx) rfl ?_
        refine xr_getf d_S_runningOf_33 xf_4_92 (hW.run (by omega)) rfl ?_
        refine xr_iload_n d_S_runningOf_36 rfl ?_
        refine xr_icmp_ne (tgt := 43) d_S_runningOf_37 rfl (fun c37 => ?_) (fun c37 => ?_)
        · have hst : nI (k_runsN c p u) = nI (k_runsN c p (u + 1)) := by rw [k_runsN_s, k_b1_f (fun q => c37 (by have z := q.2; rw [e, hnx] at z; exact z))]; rfl
          refine xr_iinc1 d_S_runningOf_43 rfl ?_
          refine xr_goto (tgt := 4) d_S_runningOf_46 rfl ?_
          rw [nI_1 u, hst]
          exact ih (u + 1) _ (by omega) (by omega)
        · have hst : nI (k_runsN c p u) + 1 = nI (k_runsN c p (u + 1)) := by
            rw [k_runsN_s, show k_b1 (¬ kF c 19 u = -1 ∧ kF c 6 (k_n (kF c 19 u) / 12) = p) = 1 from if_pos ⟨by rw [e]; exact nI_ne hx2, by rw [e, hnx]; exact c37⟩, nI_1]
          refine xr_iinc1 d_S_runningOf_40 rfl ?_
          refine xr_iinc1 d_S_runningOf_43 rfl ?_
          refine xr_goto (tgt := 4) d_S_runningOf_46 rfl ?_
          rw [nI_1 u, hst]
          exact ih (u + 1) _ (by omega) (by omega)
theorem s_running {g : xm_G} {h : xm_H} {c m : kS} {R : Nat → Option Nat} {A : kA} (hW : kW c R m A h) (hI : kI c R) {p : Int32} : xm_S g 0 m_S_runningOf (xm_entry m_S_runningOf [.ref (A 0 0), .int p]) h (xq_i fun v h' => v = nI (k_busy c p) ∧ h' = h) := by
  show xm_S g 0 m_S_runningOf (0, [some (.ref (A 0 0)), some (.int p), none, none, none], []) h _
  refine xr_iconst (v := 0) d_S_runningOf_0 rfl ?_
  refine xr_istore_n d_S_runningOf_1 (Nat.le_of_ble_eq_true rfl) ?_
  refine xr_iconst (v := 0) d_S_runningOf_2 rfl ?_
  refine xr_istore_n d_S_runningOf_3 (Nat.le_of_ble_eq_true rfl) ?_
  rw [← hI.busy p]
  exact l_running hW hI (kr c + 1) 0 none (by omega) (by omega)
theorem s_served {g : xm_G} {h : xm_H} {c m : kS} {R : Nat → Option Nat} {A : kA} (hW : kW c R m A h) (hI : kI c R) {p q : Int32} : xm_S g 1 m_S_isServedBefore (xm_entry m_S_isServedBefore [.ref (A 0 0), .int p, .int q]) h (xq_i fun v h' => v = kbi (k_pre c p q) ∧ h' = h) := by
  show xm_S g 1 m_S_isServedBefore (0, [some (.ref (A 0 0)), some (.int p), some (.int q), none, none], []) h _
  refine xr_aload_n d_S_isServedBefore_0 rfl ?_
  refine xr_iload_n d_S_isServedBefore_1 rfl ?_
  refine xr_V1i d_S_isServedBefore_2 xv_4_194 hW.this rfl rfl (Nat.le_of_ble_eq_true rfl) (by decide) (s_running hW hI) (fun v h1 h9 => ?_)
  obtain ⟨rfl, e9⟩ := h9
  have e9 := e9.symm
  subst e9
  refine xr_istore_n d_S_isServedBefore_5 (Nat.le_of_ble_eq_true rfl) ?_
  refine xr_aload_n d_S_isServedBefore_6 rfl ?_
  refine xr_iload_n d_S_isServedBefore_7 rfl ?_
  refine xr_V1i d_S_isServedBefore_8 xv_4_194 hW.this rfl rfl (Nat.le_of_ble_eq_true rfl) (by decide) (s_running hW hI) (fun v h1 h9 => ?_)
  obtain ⟨rfl, e9⟩ := h9
  have e9 := e9.symm
  subst e9
  have hb := hI.1
  have hp : k_busy c p ≤ 12 * kq c := k_busyN_le c p _
  have hq : k_busy c q ≤ 12 * kq c := k_busyN_le c q _
  refine xr_istore d_S_isServedBefore_11 (Nat.le_of_ble_eq_true rfl) ?_
  refine xr_iload_n d_S_isServedBefore_13 rfl ?_
  refine xr_iload d_S_isServedBefore_14 rfl ?_
  refine xr_icmp_lt (tgt := 30) d_S_isServedBefore_16 rfl (fun c16 => ?_) (fun c16 => ?_)
  · have w : kbi (k_pre c p q) = 1 := kbi_t (Or.inl (k_ge_lt (by omega) (by omega) (ki_nle.mpr c16)))
    refine xr_iconst (v := 1) d_S_isServedBefore_30 rfl ?_
    refine xr_goto (tgt := 35) d_S_isServedBefore_31 rfl ?_
    refine xr_ireturn d_S_isServedBefore_35 rfl rfl rfl ?_
    exact ⟨_, rfl, w.symm, rfl⟩
  · have hge : k_busy c q ≤ k_busy c p := k_ge_ge (by omega) (ki_nlt.mp c16)
    refine xr_iload_n d_S_isServedBefore_19 rfl ?_
    refine xr_iload d_S_isServedBefore_20 rfl ?_
    refine xr_icmp_ne (tgt := 34) d_S_isServedBefore_22 rfl (fun c22 => ?_) (fun c22 => ?_)
    · have w : kbi (k_pre c p q) = 0 := kbi_f (fun z => z.elim (fun y => by omega) (fun y => c22 (by rw [y.1])))
      refine xr_iconst (v := 0) d_S_isServedBefore_34 rfl ?_
      refine xr_ireturn d_S_isServedBefore_35 rfl rfl rfl ?_
      exact ⟨_, rfl, w.symm, rfl⟩
    · have heq : k_busy c p = k_busy c q := (nI_eq (by omega) (by omega)).mp c22
      refine xr_iload_n d_S_isServedBefore_25 rfl ?_
      refine xr_iload_n d_S_isServedBefore_26 rfl ?_
      refine xr_icmp_ge (tgt := 34) d_S_isServedBefore_27 rfl (fun c27 => ?_) (fun c27 => ?_)
      · have w : kbi (k_pre c p q) = 0 := kbi_f (fun z => z.elim (fun y => by omega) (fun y => ki_nlt.mpr c27 y.2))
        refine xr_iconst (v := 0) d_S_isServedBefore_34 rfl ?_
        refine xr_ireturn d_S_isServedBefore_35 rfl rfl rfl ?_
        exact ⟨_, rfl, w.symm, rfl⟩
      · have w : kbi (k_pre c p q) = 1 := kbi_t (Or.inr ⟨heq, ki_nle.mp c27⟩)
        refine xr_iconst (v := 1) d_S_isServedBefore_30 rfl ?_
        refine xr_goto (tgt := 35) d_S_isServedBefore_31 rfl ?_
        refine xr_ireturn d_S_isServedBefore_35 rfl rfl rfl ?_
        exact ⟨_, rfl, w.symm, rfl⟩
theorem l_next {g : xm_G} {h : xm_H} {c m : kS} {R : Nat → Option Nat} {A : kA} (hW : kW c R m A h) (hI : kI c R) {u : Nat} (hu : u < kr c) : ∀ (n : Nat) (r : Nat) (x4 : Option Value), r ≤ kq c → kq c < r + n → xm_S g 2 m_S_nextFor (4, [some (.ref (A 0 0)), some (.ref (A 2 u)), some (va_rf ((k_bestN c u (12 * r)).map (A 5))), some (.int (nI r)), x4], []) h (xq_r fun o h' => h' = h ∧ o = (k_best c u).map (A 5)) := by
  intro n
  induction n with
  | zero => intros; omega
  | succ n ih =>
    intro r x4 h1 h2
    have hb := hI.1
    rcases hB : k_bestN c u (12 * r) with _ | b
    · show xm_S g 2 m_S_nextFor (4, [some (.ref (A 0 0)), some (.ref (A 2 u)), some .null, some (.int (nI r)), x4], []) h _
      refine xr_iload_n d_S_nextFor_4 rfl ?_
      refine xr_aload_n d_S_nextFor_5 rfl ?_
      refine xr_getf d_S_nextFor_6 xf_4_34 hW.this rfl ?_
      refine xr_icmp_ge (tgt := 64) d_S_nextFor_9 rfl (fun c9 => ?_) (fun c9 => ?_)
      · have hre : r = kq c := by have := k_ge_ge (by omega) c9; omega
        refine xr_aload_nN d_S_nextFor_64 rfl ?_
        refine xr_areturn (v := none) d_S_nextFor_65 rfl rfl ?_
        refine ⟨_, rfl, rfl, ?_⟩
        show none = _
        rw [show k_best c u = none from by unfold k_best; rw [← hre]; exact hB]
        rfl
      · have hr : r < kq c := k_ge_lt (by omega) (by omega) c9
        refine xr_aload_n d_S_nextFor_12 rfl ?_
        refine xr_getf d_S_nextFor_13 xf_4_23 hW.this rfl ?_
        refine xr_iload_n d_S_nextFor_16 rfl ?_
        refine kr_runs (r := r) hW d_S_nextFor_17 rfl hr ?_
        refine xr_aload_n d_S_nextFor_18 rfl ?_
        refine xr_V1r d_S_nextFor_19 xv_4_187 (hW.run hr) rfl rfl (Nat.le_of_ble_eq_true rfl) (by decide) (s_first hW hr hu) (fun o h1 h9 => ?_)
        obtain ⟨e9, h9⟩ := h9
        have e9 := e9.symm
        subst e9
        rcases h9 with ⟨rfl, hno⟩ | ⟨j, hj, rfl, hf, hnf⟩
        · have hst := (hI.bestR hno).trans hB
          refine xr_astoreN d_S_nextFor_22 (Nat.le_of_ble_eq_true rfl) ?_
          refine xr_aloadN d_S_nextFor_24 rfl ?_
          refine xr_ifnullN (tgt := 58) d_S_nextFor_26 rfl ?_
          refine xr_iinc1 d_S_nextFor_58 rfl ?_
          refine xr_goto (tgt := 4) d_S_nextFor_61 rfl ?_
          rw [nI_1]
          have z := fun y => ih (r + 1) y (by omega) (by omega)
          simp only [hst] at z
          exact z _
        · have hx := k_okx hW hr hj
          have hbe := k_bestS (by omega) hf hnf
          rw [hB] at hbe
          refine xr_astore d_S_nextFor_22 (Nat.le_of_ble_eq_true rfl) ?_
          refine xr_aload d_S_nextFor_24 rfl ?_
          refine xr_ifnull d_S_nextFor_26 ?_
          refine xr_aload_nN d_S_nextFor_29 rfl ?_
          refine xr_ifnullN (tgt := 55) d_S_nextFor_30 rfl ?_
          refine xr_aload d_S_nextFor_55 rfl ?_
          refine xr_astore_n d_S_nextFor_57 (Nat.le_of_ble_eq_true rfl) ?_
          have hst := hbe
          refine xr_iinc1 d_S_nextFor_58 rfl ?_
          refine xr_goto (tgt := 4) d_S_nextFor_61 rfl ?_
          rw [nI_1]
          have z := fun y => ih (r + 1) y (by omega) (by omega)
          simp only [hst] at z
          exact z _
    · have hxb : b < 12 * kq c ∧ b % 12 < kj c := hI.okfit (k_best_sp _ b hB).2
      show xm_S g 2 m_S_nextFor (4, [some (.ref (A 0 0)), some (.ref (A 2 u)), some (.ref (A 5 b)), some (.int (nI r)), x4], []) h _
      refine xr_iload_n d_S_nextFor_4 rfl ?_
      refine xr_aload_n d_S_nextFor_5 rfl ?_
      refine xr_getf d_S_nextFor_6 xf_4_34 hW.this rfl ?_
      refine xr_icmp_ge (tgt := 64) d_S_nextFor_9 rfl (fun c9 => ?_) (fun c9 => ?_)
      · have hre : r = kq c := by have := k_ge_ge (by omega) c9; omega
        refine xr_aload_n d_S_nextFor_64 rfl ?_
        refine xr_areturn (v := some (A 5 b)) d_S_nextFor_65 rfl rfl ?_
        refine ⟨_, rfl, rfl, ?_⟩
        show some (A 5 b) = _
        rw [show k_best c u = some b from by unfold k_best; rw [← hre]; exact hB]
        rfl
      · have hr : r < kq c := k_ge_lt (by omega) (by omega) c9
        refine xr_aload_n d_S_nextFor_12 rfl ?_
        refine xr_getf d_S_nextFor_13 xf_4_23 hW.this rfl ?_
        refine xr_iload_n d_S_nextFor_16 rfl ?_
        refine kr_runs (r := r) hW d_S_nextFor_17 rfl hr ?_
        refine xr_aload_n d_S_nextFor_18 rfl ?_
        refine xr_V1r d_S_nextFor_19 xv_4_187 (hW.run hr) rfl rfl (Nat.le_of_ble_eq_true rfl) (by decide) (s_first hW hr hu) (fun o h1 h9 => ?_)
        obtain ⟨e9, h9⟩ := h9
        have e9 := e9.symm
        subst e9
        rcases h9 with ⟨rfl, hno⟩ | ⟨j, hj, rfl, hf, hnf⟩
        · have hst := (hI.bestR hno).trans hB
          refine xr_astoreN d_S_nextFor_22 (Nat.le_of_ble_eq_true rfl) ?_
          refine xr_aloadN d_S_nextFor_24 rfl ?_
          refine xr_ifnullN (tgt := 58) d_S_nextFor_26 rfl ?_
          refine xr_iinc1 d_S_nextFor_58 rfl ?_
          refine xr_goto (tgt := 4) d_S_nextFor_61 rfl ?_
          rw [nI_1]
          have z := fun y => ih (r + 1) y (by omega) (by omega)
          simp only [hst] at z
          exact z _
        · have hx := k_okx hW hr hj
          have hbe := k_bestS (by omega) hf hnf
          rw [hB] at hbe
          refine xr_astore d_S_nextFor_22 (Nat.le_of_ble_eq_true rfl) ?_
          refine xr_aload d_S_nextFor_24 rfl ?_
          refine xr_ifnull d_S_nextFor_26 ?_
          refine xr_aload_n d_S_nextFor_29 rfl ?_
          refine xr_ifnull d_S_nextFor_30 ?_
          refine xr_aload_n d_S_nextFor_33 rfl ?_
          refine xr_aload d_S_nextFor_34 rfl ?_
          refine xr_getf d_S_nextFor_36 xf_4_88 (hW.tsk hx) rfl ?_
          refine xr_getf d_S_nextFor_39 xf_4_92 (hW.run (by omega)) rfl ?_
          refine xr_aload_n d_S_nextFor_42 rfl ?_
          refine xr_getf d_S_nextFor_43 xf_4_88 (hW.tsk hxb) rfl ?_
          refine xr_getf d_S_nextFor_46 xf_4_92 (hW.run (by omega)) rfl ?_
          refine xr_V2i d_S_nextFor_49 xv_4_190 hW.this rfl rfl rfl (Nat.le_of_ble_eq_true rfl) (by decide) (s_served hW hI) (fun v h1 h9 => ?_)
          obtain ⟨rfl, e9⟩ := h9
          have e9 := e9.symm
          subst e9
          refine xr_if_eq (tgt := 58) d_S_nextFor_52 rfl (fun c52 => ?_) (fun c52 => ?_)
          · have hst := hbe.trans (if_neg (kbi_0.mp c52))
            refine xr_iinc1 d_S_nextFor_58 rfl ?_
            refine xr_goto (tgt := 4) d_S_nextFor_61 rfl ?_
            rw [nI_1]
            have z := fun y => ih (r + 1) y (by omega) (by omega)
            simp only [hst] at z
            exact z _
          · have hbe := hbe.trans (if_pos (kbi_n0 c52))
            refine xr_aload d_S_nextFor_55 rfl ?_
            refine xr_astore_n d_S_nextFor_57 (Nat.le_of_ble_eq_true rfl) ?_
            have hst := hbe
            refine xr_iinc1 d_S_nextFor_58 rfl ?_
            refine xr_goto (tgt := 4) d_S_nextFor_61 rfl ?_
            rw [nI_1]
            have z := fun y => ih (r + 1) y (by omega) (by omega)
            simp only [hst] at z
            exact z _
theorem s_next {g : xm_G} {h : xm_H} {c m : kS} {R : Nat → Option Nat} {A : kA} (hW : kW c R m A h) (hI : kI c R) {u : Nat} (hu : u < kr c) : xm_S g 2 m_S_nextFor (xm_entry m_S_nextFor [.ref (A 0 0), .ref (A 2 u)]) h (xq_r fun o h' => h' = h ∧ o = (k_best c u).map (A 5)) := by
  show xm_S g 2 m_S_nextFor (0, [some (.ref (A 0 0)), some (.ref (A 2 u)), none, none, none], []) h _
  refine xr_null d_S_nextFor_0 ?_
  refine xr_astore_nN d_S_nextFor_1 (Nat.le_of_ble_eq_true rfl) ?_
  refine xr_iconst (v := 0) d_S_nextFor_2 rfl ?_
  refine xr_istore_n d_S_nextFor_3 (Nat.le_of_ble_eq_true rfl) ?_
  exact l_next hW hI hu (kq c + 1) 0 none (by omega) (by omega)
theorem p_take {g : xm_G} {h : xm_H} {c m : kS} {R : Nat → Option Nat} {A : kA} (hW : kW c R m A h) {a : Int32} (hI : kI c R) (h8 : kI8 c) : xm_S g 3 m_S_take (xm_entry m_S_take [.ref (A 0 0), .int a]) h (xq_i fun v h' => v = (o_take c a).2 ∧ kQ (o_take c a).1 m A h h') := by
  show xm_S g 3 m_S_take (0, [some (.ref (A 0 0)), some (.int a), none, none], []) h _
  refine xr_aload_n d_S_take_0 rfl ?_
  refine xr_iload_n d_S_take_1 rfl ?_
  refine xr_V1r d_S_take_2 xv_4_98 hW.this rfl rfl (Nat.le_of_ble_eq_true rfl) (by decide) (s_findRunner hW) (fun o h1 h9 => ?_)
  obtain ⟨e9, h9⟩ := h9
  have e9 := e9.symm
  subst e9
  have hb1 := hW.2.2.1
  have hb2 := hW.2.2.2.1
  have hb3 := hW.2.2.2.2
  rcases h9 with ⟨rfl, hout⟩ | ⟨u, hu, rfl, rfl⟩
  · have w : o_take c a = (c, -1) := if_neg (fun q => hout q.1)
    refine xr_astore_nN d_S_take_5 (Nat.le_of_ble_eq_true rfl) ?_
    refine xr_aload_nN d_S_take_6 rfl ?_
    refine xr_ifnullN (tgt := 17) d_S_take_7 rfl ?_
    refine xr_iconst (v := -1) d_S_take_17 rfl ?_
    refine xr_ireturn d_S_take_18 rfl rfl rfl ?_
    rw [w]
    exact ⟨_, rfl, rfl, kQ.of hW hI h8 rfl⟩
  · have hin := k_in_of hu (by omega)
    have hnu : k_n (nI u) = u := nI_clamp (by omega)
    refine xr_astore_n d_S_take_5 (Nat.le_of_ble_eq_true rfl) ?_
    refine xr_aload_n d_S_take_6 rfl ?_
    refine xr_ifnull d_S_take_7 ?_
    refine xr_aload_n d_S_take_10 rfl ?_
    rcases hI.2.2.1 u hu with e | ⟨x, eR⟩
    · refine xr_getf d_S_take_11 xf_4_102 (hW.rnrN hu e) rfl ?_
      refine xr_ifnullN (tgt := 19) d_S_take_14 rfl ?_
      refine xr_aload_n d_S_take_19 rfl ?_
      refine xr_aload_n d_S_take_20 rfl ?_
      refine xr_V1r d_S_take_21 xv_4_106 hW.this rfl rfl (Nat.le_of_ble_eq_true rfl) (by decide) (s_next hW hI hu) (fun o h1 h9 => ?_)
      obtain ⟨e9, h9⟩ := h9
      have e9 := e9.symm
      subst e9
      rcases hB : k_best c u with _ | x
      · obtain rfl : o = none := by rw [h9, hB]; rfl
        have w := o_take_N hu hb2 e hB
        refine xr_astore_nN d_S_take_24 (Nat.le_of_ble_eq_true rfl) ?_
        refine xr_aload_nN d_S_take_25 rfl ?_
        refine xr_ifnonnullN d_S_take_26 ?_
        refine xr_iconst (v := -1) d_S_take_29 rfl ?_
        refine xr_ireturn d_S_take_30 rfl rfl rfl ?_
        rw [w]
        exact ⟨_, rfl, rfl, kQ.of hW hI h8 rfl⟩
      · obtain rfl : o = some (A 5 x) := by rw [h9, hB]; rfl
        have w := o_take_S hu hb2 e hB
        have hf := (k_best_sp _ x hB).2
        have hx := hI.okfit hf
        refine xr_astore_n d_S_take_24 (Nat.le_of_ble_eq_true rfl) ?_
        refine xr_aload_n d_S_take_25 rfl ?_
        refine xr_ifnonnull (tgt := 31) d_S_take_26 rfl ?_
        refine xr_aload_n d_S_take_31 rfl ?_
        refine xr_aload_n d_S_take_32 rfl ?_
        refine xr_aload_n d_S_take_33 rfl ?_
        refine xr_getf d_S_take_34 xf_4_37 hW.this rfl ?_
        refine xr_V2v d_S_take_37 xv_4_110 (hW.tsk hx) rfl rfl rfl (Nat.le_of_ble_eq_true rfl) (by decide) (s_startOn hW hx hu) (fun h1 h9 => ?_)
        obtain ⟨hW, he⟩ := h9
        rw [k_start_c] at hW
        have hI := hI.start hu hx hf.1 e
        have h8 := h8.start u x
        have hx : x < 12 * kq (k_start c u x) ∧ x % 12 < kj (k_start c u x) := hx
        refine xr_aload_n d_S_take_40 rfl ?_
        refine xr_V0i d_S_take_41 xv_4_114 (hW.tsk hx) rfl (Nat.le_of_ble_eq_true rfl) (by decide) (s_place hW hx) (fun v h2 h9 => ?_)
        obtain ⟨rfl, e9⟩ := h9
        have e9 := e9.symm
        subst e9
        refine xr_ireturn d_S_take_44 rfl rfl rfl ?_
        rw [w]
        exact ⟨_, rfl, rfl, kQ.of hW hI h8 he⟩
    · obtain ⟨hx, -, e⟩ := hI.2.1 x u eR
      have hxx := hx
      unfold k_ok at hx
      have hx2 : x < 2 ^ 31 := by have := hI.x120 hx; omega
      have hnx : k_n (nI x) = x := nI_clamp hx2
      have w : o_take c (nI u) = (c, -1) := if_neg (fun q => nI_ne hx2 (e.symm.trans (by have z := q.2; rw [hnu] at z; exact z)))
      refine xr_getf d_S_take_11 xf_4_102 (hW.rnrS hu hx2 e) rfl ?_
      refine xr_ifnull d_S_take_14 ?_
      refine xr_iconst (v := -1) d_S_take_17 rfl ?_
      refine xr_ireturn d_S_take_18 rfl rfl rfl ?_
      rw [w]
      exact ⟨_, rfl, rfl, kQ.of hW hI h8 rfl⟩
theorem l_anyb {g : xm_G} {h : xm_H} {c m : kS} {R : Nat → Option Nat} {A : kA} (hW : kW c R m A h) (hI : kI c R) : ∀ (n : Nat) (u : Nat), u ≤ kr c → kr c < u + n → (∀ k, k < u → kF c 19 k = -1) → xm_S g 0 m_S_isAnyRunnerBusy (2, [some (.ref (A 0 0)), some (.int (nI u))], []) h (xq_i fun v h' => v = kbi (¬ k_idle c) ∧ h' = h) := by
  intro n
  induction n with
  | zero => intros; omega
  | succ n ih =>
    intro u h1 h2 h3
    have hb := hI.1
    refine xr_iload_n d_S_isAnyRunnerBusy_2 rfl ?_
    refine xr_aload_n d_S_isAnyRunnerBusy_3 rfl ?_
    refine xr_getf d_S_isAnyRunnerBusy_4 xf_4_31 hW.this rfl ?_
    refine xr_icmp_ge (tgt := 30) d_S_isAnyRunnerBusy_7 rfl (fun c7 => ?_) (fun c7 => ?_)
    · have hre : u = kr c := by have := k_ge_ge (by omega) c7; omega
      subst hre
      refine xr_iconst (v := 0) d_S_isAnyRunnerBusy_30 rfl ?_
      refine xr_ireturn d_S_isAnyRunnerBusy_31 rfl rfl rfl ?_
      exact ⟨_, rfl, (kbi_f (p := ¬ k_idle c) (fun q => q h3)).symm, rfl⟩
    · have hu : u < kr c := k_ge_lt (by omega) (by omega) c7
      refine xr_aload_n d_S_isAnyRunnerBusy_10 rfl ?_
      refine xr_getf d_S_isAnyRunnerBusy_11 xf_4_17 hW.this rfl ?_
      refine xr_iload_n d_S_isAnyRunnerBusy_14 rfl ?_
      refine kr_rnrs (u := u) hW d_S_isAnyRunnerBusy_15 rfl hu ?_
      rcases hI.2.2.1 u hu with e | ⟨x, eR⟩
      · refine xr_getf d_S_isAnyRunnerBusy_16 xf_4_102 (hW.rnrN hu e) rfl ?_
        refine xr_ifnullN (tgt := 24) d_S_isAnyRunnerBusy_19 rfl ?_
        refine xr_iinc1 d_S_isAnyRunnerBusy_24 rfl ?_
        refine xr_goto (tgt := 2) d_S_isAnyRunnerBusy_27 rfl ?_
        rw [nI_1]
        exact ih (u + 1) (by omega) (by omega) (kq_s.mpr ⟨h3, e⟩)
      · obtain ⟨hx, -, e⟩ := hI.2.1 x u eR
        have hxx := hx
        unfold k_ok at hx
        have hx2 : x < 2 ^ 31 := by have := hI.x120 hx; omega
        have hnx : k_n (nI x) = x := nI_clamp hx2
        refine xr_getf d_S_isAnyRunnerBusy_16 xf_4_102 (hW.rnrS hu hx2 e) rfl ?_
        refine xr_ifnull d_S_isAnyRunnerBusy_19 ?_
        refine xr_iconst (v := 1) d_S_isAnyRunnerBusy_22 rfl ?_
        refine xr_ireturn d_S_isAnyRunnerBusy_23 rfl rfl rfl ?_
        exact ⟨_, rfl, (kbi_t (p := ¬ k_idle c) (fun q => nI_ne hx2 (e.symm.trans (q u hu)))).symm, rfl⟩
theorem s_anyb {g : xm_G} {h : xm_H} {c m : kS} {R : Nat → Option Nat} {A : kA} (hW : kW c R m A h) (hI : kI c R) : xm_S g 0 m_S_isAnyRunnerBusy (xm_entry m_S_isAnyRunnerBusy [.ref (A 0 0)]) h (xq_i fun v h' => v = kbi (¬ k_idle c) ∧ h' = h) := by
  show xm_S g 0 m_S_isAnyRunnerBusy (0, [some (.ref (A 0 0)), none], []) h _
  refine xr_iconst (v := 0) d_S_isAnyRunnerBusy_0 rfl ?_
  refine xr_istore_n d_S_isAnyRunnerBusy_1 (Nat.le_of_ble_eq_true rfl) ?_
  exact l_anyb hW hI (kr c + 1) 0 (by omega) (by omega) (fun k hk => absurd hk (Nat.not_lt_zero _))
theorem l_check {g : xm_G} {h0 : xm_H} {s m : kS} {A : kA}  : ∀ (n : Nat) (u : Nat) (R : Nat → Option Nat) (x2 : Option Value) (h : xm_H), kW (k_chN s u) R m A h → kI (k_chN s u) R → kI8 (k_chN s u) → h.2 = h0.2 → u ≤ kr s → kr s < u + n → xm_S g 2 m_S_checkRunners (2, [some (.ref (A 0 0)), some (.int (nI u)), x2], []) h (xq_v fun h' => ∃ R', kW (k_chN s (kr s)) R' m A h' ∧ kI (k_chN s (kr s)) R' ∧ kI8 (k_chN s (kr s)) ∧ h'.2 = h0.2) := by
  intro n
  induction n with
  | zero => intros; omega
  | succ n ih =>
    intro u R x2 h hW hI h8 he h1 h2
    have e1 := k_chN_1 s u
    have hk : k_chN s (u + 1) = k_ch1 (k_chN s u) u := rfl
    generalize hC : k_chN s u = C at *
    have hkr : kr C = kr s := congrArg (fun z => z.2.1) e1
    rw [← hkr] at h1 h2
    have hb := hI.1
    refine xr_iload_n d_S_checkRunners_2 rfl ?_
    refine xr_aload_n d_S_checkRunners_3 rfl ?_
    refine xr_getf d_S_checkRunners_4 xf_4_31 hW.this rfl ?_
    refine xr_icmp_ge (tgt := 73) d_S_checkRunners_7 rfl (fun c7 => ?_) (fun c7 => ?_)
    · have hre : u = kr C := by have := k_ge_ge (by omega) c7; omega
      refine xr_return d_S_checkRunners_73 rfl rfl ?_
      refine ⟨rfl, R, ?_, ?_, ?_, he⟩
      · rw [← hkr, ← hre, hC]; exact hW
      · rw [← hkr, ← hre, hC]; exact hI
      · rw [← hkr, ← hre, hC]; exact h8
    · have hu : u < kr C := k_ge_lt (by omega) (by omega) c7
      refine xr_aload_n d_S_checkRunners_10 rfl ?_
      refine xr_getf d_S_checkRunners_11 xf_4_17 hW.this rfl ?_
      refine xr_iload_n d_S_checkRunners_14 rfl ?_
      refine kr_rnrs (u := u) hW d_S_checkRunners_15 rfl hu ?_
      rcases hI.2.2.1 u hu with e | ⟨x, eR⟩
      · have hst : k_chN s (u + 1) = C := hk.trans (if_pos e)
        refine xr_getf d_S_checkRunners_16 xf_4_102 (hW.rnrN hu e) rfl ?_
        refine xr_astore_nN d_S_checkRunners_19 (Nat.le_of_ble_eq_true rfl) ?_
        refine xr_aload_nN d_S_checkRunners_20 rfl ?_
        refine xr_ifnullN (tgt := 67) d_S_checkRunners_21 rfl ?_
        refine xr_iinc1 d_S_checkRunners_67 rfl ?_
        refine xr_goto (tgt := 2) d_S_checkRunners_70 rfl ?_
        rw [nI_1]
        exact ih (u + 1) _ _ _ (by rw [hst]; exact hW) (by rw [hst]; exact hI) (by rw [hst]; exact h8) he (by omega) (by omega)
      · obtain ⟨hx, -, e⟩ := hI.2.1 x u eR
        have hxx := hx
        unfold k_ok at hx
        have hx2 : x < 2 ^ 31 := by have := hI.x120 hx; omega
        have hnx : k_n (nI x) = x := nI_clamp hx2
        have hs2 := hI.runR eR
        have hk2 : k_chN s (u + 1) = if k_lat C u then k_lose C x else if k_lim C x then k_fail C x else C := by
          rw [hk]
          unfold k_ch1
          rw [e, hnx, if_neg (nI_ne hx2)]
        have ha := k_14a hI (x := x) (by rw [hs2]; decide)
        refine xr_getf d_S_checkRunners_16 xf_4_102 (hW.rnrS hu hx2 e) rfl ?_
        refine xr_astore_n d_S_checkRunners_19 (Nat.le_of_ble_eq_true rfl) ?_
        refine xr_aload_n d_S_checkRunners_20 rfl ?_
        refine xr_ifnull d_S_checkRunners_21 ?_
        refine xr_aload_n d_S_checkRunners_24 rfl ?_
        refine xr_getf d_S_checkRunners_25 xf_4_37 hW.this rfl ?_
        refine xr_aload_n d_S_checkRunners_28 rfl ?_
        refine xr_getf d_S_checkRunners_29 xf_4_17 hW.this rfl ?_
        refine xr_iload_n d_S_checkRunners_32 rfl ?_
        refine kr_rnrs (u := u) hW d_S_checkRunners_33 rfl hu ?_
        refine xr_getf d_S_checkRunners_34 xf_4_118 (hW.rnr hu) rfl ?_
        refine xr_isub d_S_checkRunners_37 ?_
        refine xr_aload_n d_S_checkRunners_38 rfl ?_
        refine xr_getf d_S_checkRunners_39 xf_4_40 hW.this rfl ?_
        refine xr_icmp_le (tgt := 52) d_S_checkRunners_42 rfl (fun c42 => ?_) (fun c42 => ?_)
        · have hk3 := hk2.trans (if_neg (ki_nlt.mpr c42))
          refine xr_aload_n d_S_checkRunners_52 rfl ?_
          refine xr_aload_n d_S_checkRunners_53 rfl ?_
          refine xr_getf d_S_checkRunners_54 xf_4_37 hW.this rfl ?_
          refine xr_V1i d_S_checkRunners_57 xv_4_201 (hW.tsk hx) rfl rfl (Nat.le_of_ble_eq_true rfl) (by decide) (s_isPastLimit hW hx) (fun v h9s h9 => ?_)
          obtain ⟨rfl, e9⟩ := h9
          have e9 := e9.symm
          subst e9
          refine xr_if_eq (tgt := 67) d_S_checkRunners_60 rfl (fun c60 => ?_) (fun c60 => ?_)
          · have hst := hk3.trans (if_neg (kbi_0.mp c60))
            refine xr_iinc1 d_S_checkRunners_67 rfl ?_
            refine xr_goto (tgt := 2) d_S_checkRunners_70 rfl ?_
            rw [nI_1]
            exact ih (u + 1) _ _ _ (by rw [hst]; exact hW) (by rw [hst]; exact hI) (by rw [hst]; exact h8) he (by omega) (by omega)
          · have hst := hk3.trans (if_pos (kbi_n0 c60))
            refine xr_aload_n d_S_checkRunners_63 rfl ?_
            refine xr_V0v d_S_checkRunners_64 xv_4_124 (hW.tsk hx) rfl (Nat.le_of_ble_eq_true rfl) (by decide) (s_failTry hW hx (fun u q => (hI.2.1 _ u q).2.1)) (fun h1 h9 => ?_)
            obtain ⟨hW, he1⟩ := h9
            rw [hI.lv hx2, k_fail_c] at hW
            have hI := hI.fail hx hs2
            have h8 := h8.fail x
            have he := he1.trans he
            refine xr_iinc1 d_S_checkRunners_67 rfl ?_
            refine xr_goto (tgt := 2) d_S_checkRunners_70 rfl ?_
            rw [nI_1]
            exact ih (u + 1) _ _ _ (by rw [hst]; exact hW) (by rw [hst]; exact hI) (by rw [hst]; exact h8) he (by omega) (by omega)
        · have hst := hk2.trans (if_pos (ki_nle.mp c42))
          refine xr_aload_n d_S_checkRunners_45 rfl ?_
          refine xr_V0v d_S_checkRunners_46 xv_4_198 (hW.tsk hx) rfl (Nat.le_of_ble_eq_true rfl) (by decide) (s_loseRunner hW hx (fun u q => (hI.2.1 _ u q).2.1) (by rcases ha with q | q <;> rw [q] <;> decide)) (fun h1 h9 => ?_)
          obtain ⟨hW, he1⟩ := h9
          rw [hI.lv hx2, k_lose_c ha] at hW
          have hI := hI.lose hx hs2
          have h8 := h8.lose x
          have he := he1.trans he
          refine xr_goto (tgt := 67) d_S_checkRunners_49 rfl ?_
          refine xr_iinc1 d_S_checkRunners_67 rfl ?_
          refine xr_goto (tgt := 2) d_S_checkRunners_70 rfl ?_
          rw [nI_1]
          exact ih (u + 1) _ _ _ (by rw [hst]; exact hW) (by rw [hst]; exact hI) (by rw [hst]; exact h8) he (by omega) (by omega)
theorem s_check {g : xm_G} {h : xm_H} {s m : kS} {R : Nat → Option Nat} {A : kA} (hW : kW s R m A h) (hI : kI s R) (h8 : kI8 s) : xm_S g 2 m_S_checkRunners (xm_entry m_S_checkRunners [.ref (A 0 0)]) h (xq_v fun h' => ∃ R', kW (k_passN s (12 * kq s)) R' m A h' ∧ kI (k_passN s (12 * kq s)) R' ∧ kI8 (k_passN s (12 * kq s)) ∧ h'.2 = h.2) := by
  rw [← hI.check]
  show xm_S g 2 m_S_checkRunners (0, [some (.ref (A 0 0)), none, none], []) h _
  refine xr_iconst (v := 0) d_S_checkRunners_0 rfl ?_
  refine xr_istore_n d_S_checkRunners_1 (Nat.le_of_ble_eq_true rfl) ?_
  exact l_check (h0 := h) (kr s + 1) 0 R none h hW hI h8 rfl (by omega) (by omega)
theorem k_le1000 {a : Int32} (h : a ≤ 1000) : ¬ nI 1001 ≤ a := fun q => by
  have q1 := Int32.le_iff_toInt_le.mp q
  have q2 := Int32.le_iff_toInt_le.mp h
  rw [ti_1000] at q2
  rw [show (nI 1001).toInt = 1001 by decide] at q1
  omega
theorem l_tick {g : xm_G} {h0 : xm_H} {s m : kS} {A : kA} {N : Nat} (hN : N < 1001) : ∀ (n : Nat) (i : Nat) (R : Nat → Option Nat) (h : xm_H), kW (k_tickN s i) R m A h → kI (k_tickN s i) R → kI8 (k_tickN s i) → h.2 = h0.2 → i ≤ N → N < i + n → xm_S g 5 m_S_tick (22, [some (.ref (A 0 0)), some (.int (nI N)), some (.int (kc s + nI N)), some (.int (nI i))], []) h (xq_i fun v h' => v = kc (k_settle (k_tickN s N)) ∧ kQ (k_settle (k_tickN s N)) m A h0 h') := by
  intro n
  induction n with
  | zero => intros; omega
  | succ n ih =>
    intro i R h hW hI h8 he h1 h2
    have hk : k_tickN s (i + 1) = k_tick1 (k_tickN s i) := rfl
    have hTi : k_idle (k_tickN s i) → kck (k_tickN s i) (kc s + nI N) = k_tickN s N := fun q => hI.tick_i q h1
    have hTe : i = N → kck (k_tickN s i) (kc s + nI N) = k_tickN s N := fun q => by rw [q]; exact k_tick_e s N
    generalize hC : k_tickN s i = C at *
    refine xr_iload_n d_S_tick_22 rfl ?_
    refine xr_iload_n d_S_tick_23 rfl ?_
    refine xr_icmp_ge (tgt := 54) d_S_tick_24 rfl (fun c24 => ?_) (fun c24 => ?_)
    · have hT := hTe (by have := k_ge_ge (by omega) c24; omega)
      refine xr_aload_n d_S_tick_54 rfl ?_
      refine xr_iload_n d_S_tick_55 rfl ?_
      refine kr_pclk hW d_S_tick_56 xf_4_37 (fun h9s hW he9 => ?_)
      have hW : kW (kck C (kc s + nI N)) R m A h9s := hW
      have hI : kI (kck C (kc s + nI N)) R := hI.clk _
      have h8 : kI8 (kck C (kc s + nI N)) := h8.clk _
      rw [hT] at hW hI h8
      refine xr_aload_n d_S_tick_59 rfl ?_
      refine xr_V0v d_S_tick_60 xv_4_67 hW.this rfl (Nat.le_of_ble_eq_true rfl) (by decide) (s_settle hW hI h8) (fun h9s h9 => ?_)
      obtain ⟨hW, hI, h8, hes⟩ := h9
      refine xr_aload_n d_S_tick_63 rfl ?_
      refine xr_getf d_S_tick_64 xf_4_37 hW.this rfl ?_
      refine xr_ireturn d_S_tick_67 rfl rfl rfl ?_
      exact ⟨_, rfl, rfl, kQ.of hW hI h8 (hes.trans (he9.trans he))⟩
    · have hil : i < N := k_ge_lt (by omega) (by omega) c24
      refine xr_aload_n d_S_tick_27 rfl ?_
      refine xr_V0i d_S_tick_28 xv_4_127 hW.this rfl (Nat.le_of_ble_eq_true rfl) (by decide) (s_anyb hW hI) (fun v h1s h9 => ?_)
      obtain ⟨rfl, e9⟩ := h9
      have e9 := e9.symm
      subst e9
      refine xr_if_eq (tgt := 54) d_S_tick_31 rfl (fun c31 => ?_) (fun c31 => ?_)
      · have hT := hTi (Classical.byContradiction (kbi_0.mp c31))
        refine xr_aload_n d_S_tick_54 rfl ?_
        refine xr_iload_n d_S_tick_55 rfl ?_
        refine kr_pclk hW d_S_tick_56 xf_4_37 (fun h9s hW he9 => ?_)
        have hW : kW (kck C (kc s + nI N)) R m A h9s := hW
        have hI : kI (kck C (kc s + nI N)) R := hI.clk _
        have h8 : kI8 (kck C (kc s + nI N)) := h8.clk _
        rw [hT] at hW hI h8
        refine xr_aload_n d_S_tick_59 rfl ?_
        refine xr_V0v d_S_tick_60 xv_4_67 hW.this rfl (Nat.le_of_ble_eq_true rfl) (by decide) (s_settle hW hI h8) (fun h9s h9 => ?_)
        obtain ⟨hW, hI, h8, hes⟩ := h9
        refine xr_aload_n d_S_tick_63 rfl ?_
        refine xr_getf d_S_tick_64 xf_4_37 hW.this rfl ?_
        refine xr_ireturn d_S_tick_67 rfl rfl rfl ?_
        exact ⟨_, rfl, rfl, kQ.of hW hI h8 (hes.trans (he9.trans he))⟩
      · refine xr_aload_n d_S_tick_34 rfl ?_
        refine xr_dup d_S_tick_35 rfl ?_
        refine xr_getf d_S_tick_36 xf_4_37 hW.this rfl ?_
        refine xr_iconst (v := 1) d_S_tick_39 rfl ?_
        refine xr_iadd d_S_tick_40 ?_
        refine kr_pclk hW d_S_tick_41 xf_4_37 (fun h9s hW he9 => ?_)
        have hW : kW (kck C (kc C + 1)) R m A h9s := hW
        have hI : kI (kck C (kc C + 1)) R := hI.clk _
        have h8 : kI8 (kck C (kc C + 1)) := h8.clk _
        refine xr_aload_n d_S_tick_44 rfl ?_
        refine xr_V0v d_S_tick_45 xv_4_130 hW.this rfl (Nat.le_of_ble_eq_true rfl) (by decide) (s_check hW hI h8) (fun h9t h9 => ?_)
        obtain ⟨R, hW, hI, h8, he2⟩ := h9
        have he := he2.trans (he9.trans he)
        have hst : k_tickN s (i + 1) = k_passN (kck C (kc C + 1)) (12 * kq C) := hk
        refine xr_iinc1 d_S_tick_48 rfl ?_
        refine xr_goto (tgt := 22) d_S_tick_51 rfl ?_
        rw [nI_1]
        exact ih (i + 1) R _ (by rw [hst]; exact hW) (by rw [hst]; exact hI) (by rw [hst]; exact h8) he (by omega) (by omega)
theorem p_tick {g : xm_G} {h : xm_H} {c m : kS} {R : Nat → Option Nat} {A : kA} (hW : kW c R m A h) {a : Int32} (hI : kI c R) (h8 : kI8 c) : xm_S g 5 m_S_tick (xm_entry m_S_tick [.ref (A 0 0), .int a]) h (xq_i fun v h' => v = (o_tick c a).2 ∧ kQ (o_tick c a).1 m A h h') := by
  show xm_S g 5 m_S_tick (0, [some (.ref (A 0 0)), some (.int a), none, none], []) h _
  refine xr_iload_n d_S_tick_0 rfl ?_
  refine xr_if_lt (tgt := 11) d_S_tick_1 rfl (fun c1 => ?_) (fun c1 => ?_)
  · have w : o_tick c a = (c, -1) := if_pos (Or.inl c1)
    refine xr_iconst (v := -1) d_S_tick_11 rfl ?_
    refine xr_ireturn d_S_tick_12 rfl rfl rfl ?_
    rw [w]
    exact ⟨_, rfl, rfl, kQ.of hW hI h8 rfl⟩
  · refine xr_iload_n d_S_tick_4 rfl ?_
    refine xr_sipush (v := 1000) d_S_tick_5 rfl ?_
    refine xr_icmp_le (tgt := 13) d_S_tick_8 rfl (fun c8 => ?_) (fun c8 => ?_)
    · obtain ⟨N, hN, rfl⟩ := k_in_ex (v := a) (n := 1001) (by decide) ⟨c1, k_le1000 c8⟩
      have w : o_tick c (nI N) = (k_settle (k_tickN c N), kc (k_settle (k_tickN c N))) := by
        unfold o_tick
        rw [show k_n (nI N) = N from nI_clamp (by omega), if_neg (fun q => q.elim c1 (ki_nlt.mpr c8))]
      refine xr_aload_n d_S_tick_13 rfl ?_
      refine xr_getf d_S_tick_14 xf_4_37 hW.this rfl ?_
      refine xr_iload_n d_S_tick_17 rfl ?_
      refine xr_iadd d_S_tick_18 ?_
      refine xr_istore_n d_S_tick_19 (Nat.le_of_ble_eq_true rfl) ?_
      refine xr_iconst (v := 0) d_S_tick_20 rfl ?_
      refine xr_istore_n d_S_tick_21 (Nat.le_of_ble_eq_true rfl) ?_
      rw [w]
      dsimp only
      exact l_tick (h0 := h) hN (N + 1) 0 R h hW hI h8 rfl (by omega) (by omega)
    · have w : o_tick c a = (c, -1) := if_pos (Or.inr (ki_nle.mp c8))
      refine xr_iconst (v := -1) d_S_tick_11 rfl ?_
      refine xr_ireturn d_S_tick_12 rfl rfl rfl ?_
      rw [w]
      exact ⟨_, rfl, rfl, kQ.of hW hI h8 rfl⟩
