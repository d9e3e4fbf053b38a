/-! jobs and runners are made -/
theorem r_Job_init {g : xm_G} {h : xm_H} {a : Nat} {v0 v1 v2 v3 v4 v5 : Value} {l li re al ap : Int32} (ha : h.1 a = some (.inl (0, [v0, v1, v2, v3, v4, v5]))) (h1 : al = 0 ∨ al = 1) (h2 : ap = 0 ∨ ap = 1) : xm_S g 1 m_Job_init (xm_entry m_Job_init [.ref a, .int l, .int li, .int re, .int al, .int ap]) h (xq_v fun h' => h' = (xm_up h.1 a (.inl (0, [.int l, .int li, .int re, .int al, .int ap, .int 0])), h.2)) := by
  show xm_S g 1 m_Job_init (0, [some (.ref a), some (.int l), some (.int li), some (.int re), some (.int al), some (.int ap)], []) h _
  refine xr_aload_n d_Job_init_0 rfl ?_
  refine xr_objInit d_Job_init_1 xo_0_1 (Nat.le_of_ble_eq_true rfl) ?_
  refine xr_aload_n d_Job_init_4 rfl ?_
  refine xr_iconst (v := 0) d_Job_init_5 rfl ?_
  refine xr_putf d_Job_init_6 xf_0_7 ha rfl rfl rfl ?_
  refine xr_aload_n d_Job_init_9 rfl ?_
  refine xr_iload_n d_Job_init_10 rfl ?_
  refine xr_putF d_Job_init_11 xf_0_13 (xm_up_self _ _ _) rfl rfl rfl rfl rfl ?_
  refine xr_aload_n d_Job_init_14 rfl ?_
  refine xr_iload_n d_Job_init_15 rfl ?_
  refine xr_putF d_Job_init_16 xf_0_16 (xm_up_self _ _ _) rfl rfl rfl rfl rfl ?_
  refine xr_aload_n d_Job_init_19 rfl ?_
  refine xr_iload_n d_Job_init_20 rfl ?_
  refine xr_putF d_Job_init_21 xf_0_19 (xm_up_self _ _ _) rfl rfl rfl rfl rfl ?_
  refine xr_aload_n d_Job_init_24 rfl ?_
  refine xr_iload d_Job_init_25 rfl ?_
  refine xr_putF d_Job_init_27 xf_0_22 (xm_up_self _ _ _) rfl rfl rfl (by rcases h1 with rfl | rfl <;> rfl) (by rcases h1 with rfl | rfl <;> rfl) ?_
  refine xr_aload_n d_Job_init_30 rfl ?_
  refine xr_iload d_Job_init_31 rfl ?_
  refine xr_putF d_Job_init_33 xf_0_26 (xm_up_self _ _ _) rfl rfl rfl (by rcases h2 with rfl | rfl <;> rfl) (by rcases h2 with rfl | rfl <;> rfl) ?_
  refine xr_return d_Job_init_36 rfl rfl ?_
  refine ⟨rfl, ?_⟩
  simp only [xm_up_up]
  rfl
theorem r_Rnr_init {g : xm_G} {h : xm_H} {a : Nat} {v0 v1 v2 v3 : Value} {n l b : Int32} (ha : h.1 a = some (.inl (2, [v0, v1, v2, v3])))  : xm_S g 1 m_Rnr_init (xm_entry m_Rnr_init [.ref a, .int n, .int l, .int b]) h (xq_v fun h' => h' = (xm_up h.1 a (.inl (2, [.int n, .int l, .int b, .null])), h.2)) := by
  show xm_S g 1 m_Rnr_init (0, [some (.ref a), some (.int n), some (.int l), some (.int b)], []) h _
  refine xr_aload_n d_Rnr_init_0 rfl ?_
  refine xr_objInit d_Rnr_init_1 xo_2_1 (Nat.le_of_ble_eq_true rfl) ?_
  refine xr_aload_n d_Rnr_init_4 rfl ?_
  refine xr_null d_Rnr_init_5 ?_
  refine xr_putf d_Rnr_init_6 xf_2_7 ha rfl rfl rfl ?_
  refine xr_aload_n d_Rnr_init_9 rfl ?_
  refine xr_iload_n d_Rnr_init_10 rfl ?_
  refine xr_putF d_Rnr_init_11 xf_2_13 (xm_up_self _ _ _) rfl rfl rfl rfl rfl ?_
  refine xr_aload_n d_Rnr_init_14 rfl ?_
  refine xr_iload_n d_Rnr_init_15 rfl ?_
  refine xr_putF d_Rnr_init_16 xf_2_17 (xm_up_self _ _ _) rfl rfl rfl rfl rfl ?_
  refine xr_aload_n d_Rnr_init_19 rfl ?_
  refine xr_iload_n d_Rnr_init_20 rfl ?_
  refine xr_putf d_Rnr_init_21 xf_2_20 (xm_up_self _ _ _) rfl rfl rfl ?_
  refine xr_return d_Rnr_init_24 rfl rfl ?_
  refine ⟨rfl, ?_⟩
  simp only [xm_up_up]
  rfl
theorem p_job {g : xm_G} {h : xm_H} {c m : kS} {R : Nat → Option Nat} {A : kA} (hW : kW c R m A h) {l li re al ap : Int32} (g1 : al = 0 ∨ al = 1) (g2 : ap = 0 ∨ ap = 1) (hI : kI c R) (h8 : kI8 c) : xm_S g 2 m_S_job (xm_entry m_S_job [.ref (A 0 0), .int l, .int li, .int re, .int al, .int ap]) h (xq_i fun v h' => v = (o_job c l li re al ap).2 ∧ kQ (o_job c l li re al ap).1 m A h h') := by
  show xm_S g 2 m_S_job (0, [some (.ref (A 0 0)), some (.int l), some (.int li), some (.int re), some (.int al), some (.int ap), none], []) h _
  have hb1 := hW.2.2.1
  have hb3 := hW.2.2.2.2
  refine xr_aload_n d_S_job_0 rfl ?_
  refine xr_getf d_S_job_1 xf_4_27 hW.this rfl ?_
  refine xr_bipush (v := 12) d_S_job_4 rfl ?_
  refine xr_icmp_ge (tgt := 16) d_S_job_6 rfl (fun c6 => ?_) (fun c6 => ?_)
  · have w : o_job c l li re al ap = (c, -1) := if_pos (Or.inl (by
      rcases Nat.lt_or_ge (kj c) 12 with q | q
      · exact absurd c6 (nI_ge (b := 12) q (by decide))
      · omega))
    refine xr_iconst (v := -1) d_S_job_16 rfl ?_
    refine xr_ireturn d_S_job_17 rfl rfl rfl ?_
    rw [w]
    exact ⟨_, rfl, rfl, kQ.of hW hI h8 rfl⟩
  · refine xr_aload_n d_S_job_9 rfl ?_
    refine xr_getf d_S_job_10 xf_4_34 hW.this rfl ?_
    refine xr_if_le (tgt := 18) d_S_job_13 rfl (fun c13 => ?_) (fun c13 => ?_)
    · have hq0 : kq c = 0 := by
        rcases Nat.eq_zero_or_pos (kq c) with q | q
        · exact q
        · exact absurd c13 (ki_nle.mpr (show (0 : Int32) < nI (kq c) from nI_lt (a := 0) q (by omega)))
      refine xr_iload_n d_S_job_18 rfl ?_
      refine xr_if_lt (tgt := 31) d_S_job_19 rfl (fun c19 => ?_) (fun c19 => ?_)
      · have w : o_job c l li re al ap = (c, -1) := if_pos (Or.inr (Or.inr (Or.inl c19)))
        refine xr_iconst (v := -1) d_S_job_31 rfl ?_
        refine xr_ireturn d_S_job_32 rfl rfl rfl ?_
        rw [w]
        exact ⟨_, rfl, rfl, kQ.of hW hI h8 rfl⟩
      · refine xr_iload_n d_S_job_22 rfl ?_
        refine xr_if_lt (tgt := 31) d_S_job_23 rfl (fun c23 => ?_) (fun c23 => ?_)
        · have w : o_job c l li re al ap = (c, -1) := if_pos (Or.inr (Or.inr (Or.inr (Or.inl c23))))
          refine xr_iconst (v := -1) d_S_job_31 rfl ?_
          refine xr_ireturn d_S_job_32 rfl rfl rfl ?_
          rw [w]
          exact ⟨_, rfl, rfl, kQ.of hW hI h8 rfl⟩
        · refine xr_iload_n d_S_job_26 rfl ?_
          refine xr_iconst (v := 3) d_S_job_27 rfl ?_
          refine xr_icmp_le (tgt := 33) d_S_job_28 rfl (fun c28 => ?_) (fun c28 => ?_)
          · have h12 : kj c < 12 := by
              rcases Nat.lt_or_ge (kj c) 12 with q | q
              · exact q
              · exact absurd (nI_le (a := 12) q (by omega)) c6
            have w : o_job c l li re al ap = (k_addJ c (l &&& 255) li re al ap, nI (kj c)) := if_neg (by
              rintro (q | q | q | q | q)
              · omega
              · exact q hq0
              · exact c19 q
              · exact c23 q
              · exact ki_nlt.mpr c28 q)
            refine xr_aload_n d_S_job_33 rfl ?_
            refine xr_getf d_S_job_34 xf_4_27 hW.this rfl ?_
            refine xr_istore d_S_job_37 (Nat.le_of_ble_eq_true rfl) ?_
            refine xr_aload_n d_S_job_39 rfl ?_
            refine xr_getf d_S_job_40 xf_4_11 hW.this rfl ?_
            refine xr_iload d_S_job_43 rfl ?_
            refine xr_new (fs := [.int 0, .int 0, .int 0, .int 0, .int 0, .int 0]) (N := 6) d_S_job_45 xc_4_9 rfl rfl ?_
            refine xr_dup d_S_job_48 rfl ?_
            refine xr_iload_n d_S_job_49 rfl ?_
            refine xr_sipush (v := 255) d_S_job_50 rfl ?_
            refine xr_iand d_S_job_53 ?_
            refine xr_iload_n d_S_job_54 rfl ?_
            refine xr_iload_n d_S_job_55 rfl ?_
            refine xr_iload d_S_job_56 rfl ?_
            refine xr_iload d_S_job_58 rfl ?_
            refine xr_I5v d_S_job_60 xi_4_43 rfl rfl rfl rfl rfl rfl (Nat.le_of_ble_eq_true rfl) (by decide) (r_Job_init (xm_up_self _ _ _) g1 g2) (fun h1 h9 => ?_)
            have ha : ∀ k i, kv c k i → A k i ≠ h.2.1 := fun k i hk => Nat.ne_of_lt (hW.1 k i hk).2
            have hW1 : kW c R m A h1 := hW.frame (fun q hq => by rw [h9]; show xm_up (xm_up h.1 h.2.1 _) h.2.1 _ q = _; rw [xm_up_ne _ _ (Nat.ne_of_lt hq), xm_up_ne _ _ (Nat.ne_of_lt hq)]) (by rw [h9]; exact Nat.le_succ _)
            have ho : h1.1 h.2.1 = some (.inl (0, [.int (l &&& 255), .int li, .int re, .int al, .int ap, .int 0])) := by rw [h9]; exact xm_up_self _ _ _
            have hz : h1.2 = (h.2.1 + 1, h.2.2 + 6) := by rw [h9]
            have n01 : A 0 0 ≠ A 0 1 := fun z => absurd (hW.2.1 0 0 0 1 (show 0 < 4 by decide) (show 1 < 4 by decide) z).2 (by decide)
            clear h9
            refine xr_aast (ci := 0) (Cn := "JobStates$Job") d_S_job_63 hW1.ajob rfl rfl ho (vp_in_nI h12 (by decide)) ?_
            refine xr_aload_n d_S_job_64 rfl ?_
            refine xr_dup d_S_job_65 rfl ?_
            refine xr_getf d_S_job_66 xf_4_27 (show xm_up h1.1 (A 0 1) _ (A 0 0) = _ from (xm_up_ne _ _ n01).trans hW1.this) rfl ?_
            refine xr_iconst (v := 1) d_S_job_69 rfl ?_
            refine xr_iadd d_S_job_70 ?_
            refine xr_putf d_S_job_71 xf_4_27 (show xm_up h1.1 (A 0 1) _ (A 0 0) = _ from (xm_up_ne _ _ n01).trans hW1.this) rfl rfl rfl ?_
            refine xr_iload d_S_job_74 rfl ?_
            refine xr_ireturn d_S_job_76 rfl rfl rfl ?_
            rw [w]
            refine ⟨_, rfl, rfl, R, upA A 1 (kj c) h.2.1, hW1.addJ hq0 h12 ((hI.2.2.2.2.2.1 (kj c)).2 (Nat.le_refl _)) ha (by rw [hz]; exact Nat.lt_succ_self _) ho, hI.addJ hq0 h12, kI8.none hq0, upA_k A (by decide), upA_k A (by decide), ?_, ?_⟩
            · show h1.2.1 ≤ _; rw [hz]; show h.2.1 + 1 ≤ _; omega
            · show h1.2.2 ≤ _; rw [hz]; show h.2.2 + 6 ≤ _; omega
          · have w : o_job c l li re al ap = (c, -1) := if_pos (Or.inr (Or.inr (Or.inr (Or.inr (ki_nle.mp c28)))))
            refine xr_iconst (v := -1) d_S_job_31 rfl ?_
            refine xr_ireturn d_S_job_32 rfl rfl rfl ?_
            rw [w]
            exact ⟨_, rfl, rfl, kQ.of hW hI h8 rfl⟩
    · have w : o_job c l li re al ap = (c, -1) := if_pos (Or.inr (Or.inl (fun q => by rw [q] at c13; exact absurd (show nI 0 ≤ 0 by decide) c13)))
      refine xr_iconst (v := -1) d_S_job_16 rfl ?_
      refine xr_ireturn d_S_job_17 rfl rfl rfl ?_
      rw [w]
      exact ⟨_, rfl, rfl, kQ.of hW hI h8 rfl⟩
theorem p_runner {g : xm_G} {h : xm_H} {c m : kS} {R : Nat → Option Nat} {A : kA} (hW : kW c R m A h) {l : Int32} (hI : kI c R) (h8 : kI8 c) : xm_S g 2 m_S_runner (xm_entry m_S_runner [.ref (A 0 0), .int l]) h (xq_i fun v h' => v = (o_runner c l).2 ∧ kQ (o_runner c l).1 m A h h') := by
  show xm_S g 2 m_S_runner (0, [some (.ref (A 0 0)), some (.int l), none], []) h _
  have hb2 := hW.2.2.2.1
  refine xr_aload_n d_S_runner_0 rfl ?_
  refine xr_getf d_S_runner_1 xf_4_31 hW.this rfl ?_
  refine xr_bipush (v := 6) d_S_runner_4 rfl ?_
  refine xr_icmp_lt (tgt := 11) d_S_runner_6 rfl (fun c6 => ?_) (fun c6 => ?_)
  · have h6 : kr c < 6 := (nI_ltI (by omega) (by decide)).mp c6
    have w : o_runner c l = (k_addU c (l &&& 255), nI (kr c)) := if_neg (by omega)
    refine xr_aload_n d_S_runner_11 rfl ?_
    refine xr_getf d_S_runner_12 xf_4_31 hW.this rfl ?_
    refine xr_istore_n d_S_runner_15 (Nat.le_of_ble_eq_true rfl) ?_
    refine xr_aload_n d_S_runner_16 rfl ?_
    refine xr_getf d_S_runner_17 xf_4_17 hW.this rfl ?_
    refine xr_iload_n d_S_runner_20 rfl ?_
    refine xr_new (fs := [.int 0, .int 0, .int 0, .null]) (N := 4) d_S_runner_21 xc_4_15 rfl rfl ?_
    refine xr_dup d_S_runner_24 rfl ?_
    refine xr_iload_n d_S_runner_25 rfl ?_
    refine xr_iload_n d_S_runner_26 rfl ?_
    refine xr_sipush (v := 255) d_S_runner_27 rfl ?_
    refine xr_iand d_S_runner_30 ?_
    refine xr_aload_n d_S_runner_31 rfl ?_
    refine xr_getf d_S_runner_32 xf_4_37 (show xm_up h.1 h.2.1 _ (A 0 0) = _ from (xm_up_ne _ _ (Nat.ne_of_lt (hW.1 0 0 (show 0 < 4 by decide)).2)).trans hW.this) rfl ?_
    refine xr_I3v d_S_runner_35 xi_4_53 rfl rfl rfl rfl (Nat.le_of_ble_eq_true rfl) (by decide) (r_Rnr_init (xm_up_self _ _ _)) (fun h1 h9 => ?_)
    have ha : ∀ k i, kv c k i → A k i ≠ h.2.1 := fun k i hk => Nat.ne_of_lt (hW.1 k i hk).2
    have hW1 : kW c R m A h1 := hW.frame (fun q hq => by rw [h9]; show xm_up (xm_up h.1 h.2.1 _) h.2.1 _ q = _; rw [xm_up_ne _ _ (Nat.ne_of_lt hq), xm_up_ne _ _ (Nat.ne_of_lt hq)]) (by rw [h9]; exact Nat.le_succ _)
    have ho : h1.1 h.2.1 = some (.inl (2, [.int (nI (kr c)), .int (l &&& 255), .int (kc c), .null])) := by rw [h9]; exact xm_up_self _ _ _
    have hz : h1.2 = (h.2.1 + 1, h.2.2 + 4) := by rw [h9]
    have n02 : A 0 0 ≠ A 0 2 := fun z => absurd (hW.2.1 0 0 0 2 (show 0 < 4 by decide) (show 2 < 4 by decide) z).2 (by decide)
    clear h9
    refine xr_aast (ci := 2) (Cn := "JobStates$Runner") d_S_runner_38 hW1.arnr rfl rfl ho (vp_in_nI h6 (by decide)) ?_
    refine xr_aload_n d_S_runner_39 rfl ?_
    refine xr_dup d_S_runner_40 rfl ?_
    refine xr_getf d_S_runner_41 xf_4_31 (show xm_up h1.1 (A 0 2) _ (A 0 0) = _ from (xm_up_ne _ _ n02).trans hW1.this) rfl ?_
    refine xr_iconst (v := 1) d_S_runner_44 rfl ?_
    refine xr_iadd d_S_runner_45 ?_
    refine xr_putf d_S_runner_46 xf_4_31 (show xm_up h1.1 (A 0 2) _ (A 0 0) = _ from (xm_up_ne _ _ n02).trans hW1.this) rfl rfl rfl ?_
    refine xr_iload_n d_S_runner_49 rfl ?_
    refine xr_ireturn d_S_runner_50 rfl rfl rfl ?_
    rw [w]
    refine ⟨_, rfl, rfl, R, upA A 2 (kr c) h.2.1, hW1.addU h6 (fun x u e => (hI.2.1 x u e).2.1) ha (by rw [hz]; exact Nat.lt_succ_self _) ho, hI.addU h6, h8.addU _, upA_k A (by decide), upA_k A (by decide), ?_, ?_⟩
    · show h1.2.1 ≤ _; rw [hz]; show h.2.1 + 1 ≤ _; omega
    · show h1.2.2 ≤ _; rw [hz]; show h.2.2 + 4 ≤ _; omega
  · have w : o_runner c l = (c, -1) := if_pos (by
      rcases Nat.lt_or_ge (kr c) 6 with q | q
      · exact absurd (nI_lt (b := 6) q (by decide)) c6
      · omega)
    refine xr_iconst (v := -1) d_S_runner_9 rfl ?_
    refine xr_ireturn d_S_runner_10 rfl rfl rfl ?_
    rw [w]
    exact ⟨_, rfl, rfl, kQ.of hW hI h8 rfl⟩
