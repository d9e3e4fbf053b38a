/-! a run is triggered: the class's methods -/
theorem r_Tsk_init {g : xm_G} {h : xm_H} {a : Nat} {v0 v1 v2 v3 v4 v5 v6 v7 v8 v9 v10 v11 : Value} {b j : Nat} {n : Int32} (ha : h.1 a = some (.inl (3, [v0, v1, v2, v3, v4, v5, v6, v7, v8, v9, v10, v11])))  : xm_S g 1 m_Tsk_init (xm_entry m_Tsk_init [.ref a, .ref b, .int n, .ref j]) h (xq_v fun h' => h' = (xm_up h.1 a (.inl (3, [.ref b, .int n, .ref j, .int 0, .null, .int 0, .int 0, .int 0, .int 0, .int 0, .int 0, .int 0])), h.2)) := by
  show xm_S g 1 m_Tsk_init (0, [some (.ref a), some (.ref b), some (.int n), some (.ref j)], []) h _
  refine xr_aload_n d_Tsk_init_0 rfl ?_
  refine xr_objInit d_Tsk_init_1 xo_3_3 (Nat.le_of_ble_eq_true rfl) ?_
  refine xr_aload_n d_Tsk_init_4 rfl ?_
  refine xr_iconst (v := 0) d_Tsk_init_5 rfl ?_
  refine xr_putf d_Tsk_init_6 xf_3_9 ha rfl rfl rfl ?_
  refine xr_aload_n d_Tsk_init_9 rfl ?_
  refine xr_null d_Tsk_init_10 ?_
  refine xr_putf d_Tsk_init_11 xf_3_15 (xm_up_self _ _ _) rfl rfl rfl ?_
  refine xr_aload_n d_Tsk_init_14 rfl ?_
  refine xr_iconst (v := 0) d_Tsk_init_15 rfl ?_
  refine xr_putf d_Tsk_init_16 xf_3_19 (xm_up_self _ _ _) rfl rfl rfl ?_
  refine xr_aload_n d_Tsk_init_19 rfl ?_
  refine xr_iconst (v := 0) d_Tsk_init_20 rfl ?_
  refine xr_putf d_Tsk_init_21 xf_3_22 (xm_up_self _ _ _) rfl rfl rfl ?_
  refine xr_aload_n d_Tsk_init_24 rfl ?_
  refine xr_iconst (v := 0) d_Tsk_init_25 rfl ?_
  refine xr_putf d_Tsk_init_26 xf_3_25 (xm_up_self _ _ _) rfl rfl rfl ?_
  refine xr_aload_n d_Tsk_init_29 rfl ?_
  refine xr_iconst (v := 0) d_Tsk_init_30 rfl ?_
  refine xr_putf d_Tsk_init_31 xf_3_28 (xm_up_self _ _ _) rfl rfl rfl ?_
  refine xr_aload_n d_Tsk_init_34 rfl ?_
  refine xr_iconst (v := 0) d_Tsk_init_35 rfl ?_
  refine xr_putf d_Tsk_init_36 xf_3_31 (xm_up_self _ _ _) rfl rfl rfl ?_
  refine xr_aload_n d_Tsk_init_39 rfl ?_
  refine xr_iconst (v := 0) d_Tsk_init_40 rfl ?_
  refine xr_putf d_Tsk_init_41 xf_3_34 (xm_up_self _ _ _) rfl rfl rfl ?_
  refine xr_aload_n d_Tsk_init_44 rfl ?_
  refine xr_iconst (v := 0) d_Tsk_init_45 rfl ?_
  refine xr_putf d_Tsk_init_46 xf_3_37 (xm_up_self _ _ _) rfl rfl rfl ?_
  refine xr_aload_n d_Tsk_init_49 rfl ?_
  refine xr_aload_n d_Tsk_init_50 rfl ?_
  refine xr_putF d_Tsk_init_51 xf_3_41 (xm_up_self _ _ _) rfl rfl rfl rfl rfl ?_
  refine xr_aload_n d_Tsk_init_54 rfl ?_
  refine xr_iload_n d_Tsk_init_55 rfl ?_
  refine xr_putF d_Tsk_init_56 xf_3_45 (xm_up_self _ _ _) rfl rfl rfl rfl rfl ?_
  refine xr_aload_n d_Tsk_init_59 rfl ?_
  refine xr_aload_n d_Tsk_init_60 rfl ?_
  refine xr_putF d_Tsk_init_61 xf_3_48 (xm_up_self _ _ _) rfl rfl rfl rfl rfl ?_
  refine xr_return d_Tsk_init_64 rfl rfl ?_
  refine ⟨rfl, ?_⟩
  simp only [xm_up_up]
  rfl
theorem r_Run_init {g : xm_G} {h : xm_H} {a N : Nat} {v0 v1 v2 v3 v4 : Value} {n p q : Int32} (ha : h.1 a = some (.inl (1, [v0, v1, v2, v3, v4]))) (hal : a < h.2.1) (hN : N < 13) : xm_S g 1 m_Run_init (xm_entry m_Run_init [.ref a, .int n, .int p, .int q, .int (nI N)]) h (xq_v fun h' => h'.1 a = some (.inl (1, [.int n, .int p, .int q, .ref h.2.1, .int 0])) ∧ h'.1 h.2.1 = some (.inr (5, N, fun _ => .null)) ∧ (∀ x, x ≠ a → x ≠ h.2.1 → h'.1 x = h.1 x) ∧ h'.2 = (h.2.1 + 1, h.2.2 + N)) := by
  show xm_S g 1 m_Run_init (0, [some (.ref a), some (.int n), some (.int p), some (.int q), some (.int (nI N))], []) h _
  refine xr_aload_n d_Run_init_0 rfl ?_
  refine xr_objInit d_Run_init_1 xo_1_3 (Nat.le_of_ble_eq_true rfl) ?_
  refine xr_aload_n d_Run_init_4 rfl ?_
  refine xr_iconst (v := 0) d_Run_init_5 rfl ?_
  refine xr_putf d_Run_init_6 xf_1_9 ha rfl rfl rfl ?_
  refine xr_aload_n d_Run_init_9 rfl ?_
  refine xr_iload_n d_Run_init_10 rfl ?_
  refine xr_putF d_Run_init_11 xf_1_15 (xm_up_self _ _ _) rfl rfl rfl rfl rfl ?_
  refine xr_aload_n d_Run_init_14 rfl ?_
  refine xr_iload_n d_Run_init_15 rfl ?_
  refine xr_putF d_Run_init_16 xf_1_19 (xm_up_self _ _ _) rfl rfl rfl rfl rfl ?_
  refine xr_aload_n d_Run_init_19 rfl ?_
  refine xr_iload_n d_Run_init_20 rfl ?_
  refine xr_putF d_Run_init_21 xf_1_22 (xm_up_self _ _ _) rfl rfl rfl rfl rfl ?_
  refine xr_aload_n d_Run_init_24 rfl ?_
  refine xr_iload d_Run_init_25 rfl ?_
  refine xr_anew (t := 5) (N := N) d_Run_init_27 xa_1_25 (nI_pos (by omega)) (nI_clamp (by omega)) (by omega) ?_
  refine xr_putF d_Run_init_30 xf_1_27 (show xm_up _ h.2.1 _ a = _ from (xm_up_ne _ _ (Nat.ne_of_lt hal)).trans (xm_up_self _ _ _)) rfl rfl rfl rfl rfl ?_
  refine xr_return d_Run_init_33 rfl rfl ?_
  refine ⟨rfl, xm_up_self _ _ _, ?_, fun x n1 n2 => ?_, rfl⟩
  · show xm_up _ a _ h.2.1 = _
    rw [xm_up_ne _ _ (Nat.ne_of_gt hal)]
    exact xm_up_self _ _ _
  · show xm_up _ a _ x = _
    rw [xm_up_ne _ _ n1]
    show xm_up _ h.2.1 _ x = _
    rw [xm_up_ne _ _ n2]
    simp only [xm_up_up]
    exact xm_up_ne _ _ n1
set_option maxHeartbeats 400000 in
theorem l_newRun {g : xm_G} {c m : kS} {R : Nat → Option Nat} {A : kA} {z b : Nat} {v p q : Int32} (hlo : ∀ k i, kv c k i → A k i < z)  : ∀ (n : Nat) (j : Nat) (h : xm_H), kW c R m A h → h.1 z = some (.inl (1, [.int v, .int p, .int q, .ref (z + 1), .int 0])) → h.1 (z + 1) = some (.inr (5, kj c, fun i => if i < j then Value.ref (z + 2 + i) else .null)) → (∀ i, i < j → h.1 (z + 2 + i) = some (.inl (3, [.ref z, .int (nI i), .ref (A 1 i), .int 0, .null, .int 0, .int 0, .int 0, .int 0, .int 0, .int 0, .int 0]))) → h.2 = (z + 2 + j, b + 12 * j) → j ≤ kj c → kj c < j + n → xm_S g 2 m_S_newRun (19, [some (.ref (A 0 0)), some (.int v), some (.int p), some (.int q), some (.ref z), some (.int (nI j))], []) h (xq_r fun o h' => o = some z ∧ h'.1 z = some (.inl (1, [.int v, .int p, .int q, .ref (z + 1), .int 0])) ∧ h'.1 (z + 1) = some (.inr (5, kj c, fun i => if i < 12 then .ref (z + 2 + i) else .null)) ∧ (∀ i, i < kj c → h'.1 (z + 2 + i) = some (.inl (3, [.ref z, .int (nI i), .ref (A 1 i), .int 0, .null, .int 0, .int 0, .int 0, .int 0, .int 0, .int 0, .int 0]))) ∧ kW c R m A h' ∧ h'.2 = (z + 2 + kj c, b + 12 * kj c)) := by
  intro n
  induction n with
  | zero => intros; omega
  | succ n ih =>
    intro j h hW hr1 hr2 hr3 hz hj hn
    have hb1 := hW.2.2.1
    have hsz : h.2.1 = z + 2 + j := congrArg Prod.fst hz
    refine xr_iload d_S_newRun_19 rfl ?_
    refine xr_aload_n d_S_newRun_21 rfl ?_
    refine xr_getf d_S_newRun_22 xf_4_27 hW.this rfl ?_
    refine xr_icmp_ge (tgt := 60) d_S_newRun_25 rfl (fun c25 => ?_) (fun c25 => ?_)
    · have hje : j = kj c := by
        rcases Nat.lt_or_ge j (kj c) with q | q
        · exact absurd c25 (nI_ge q (by omega))
        · omega
      refine xr_ext (f' := fun i => if i < 12 then .ref (z + 2 + i) else .null) hr2 (fun i hi => by rw [if_pos (by omega), if_pos (by omega)]) ?_
      refine xr_aload d_S_newRun_60 rfl ?_
      refine xr_areturn (v := some z) d_S_newRun_62 rfl rfl ?_
      subst hje
      refine ⟨_, rfl, rfl, ?_, xm_up_self _ _ _, fun i hi => ?_, ?_, hz⟩
      · show xm_up h.1 (z + 1) _ z = _
        rw [xm_up_ne _ _ (by omega)]; exact hr1
      · show xm_up h.1 (z + 1) _ (z + 2 + i) = _
        rw [xm_up_ne _ _ (by omega)]; exact hr3 i hi
      · refine hW.frameZ hlo (fun q hq => ?_) (Nat.le_refl _)
        exact xm_up_ne _ _ (by omega)
    · have hjl : j < kj c := by
        rcases Nat.lt_or_ge j (kj c) with q | q
        · exact q
        · exact absurd (nI_le q (by omega)) c25
      refine xr_aload d_S_newRun_28 rfl ?_
      refine xr_getf d_S_newRun_30 xf_4_171 hr1 rfl ?_
      refine xr_iload d_S_newRun_33 rfl ?_
      refine xr_new (fs := [.null, .int 0, .null, .int 0, .null, .int 0, .int 0, .int 0, .int 0, .int 0, .int 0, .int 0]) (N := 12) d_S_newRun_35 xc_4_75 rfl rfl ?_
      refine xr_dup d_S_newRun_38 rfl ?_
      refine xr_aload d_S_newRun_39 rfl ?_
      refine xr_iload d_S_newRun_41 rfl ?_
      refine xr_aload_n d_S_newRun_43 rfl ?_
      refine xr_getf d_S_newRun_44 xf_4_11 (show xm_up h.1 h.2.1 _ (A 0 0) = _ from (xm_up_ne _ _ (Nat.ne_of_lt (hW.1 0 0 (show 0 < 4 by decide)).2)).trans hW.this) rfl ?_
      refine xr_iload d_S_newRun_47 rfl ?_
      have hW0 := hW
      have hW : kW c R m A (xm_up h.1 h.2.1 (.inl (3, [.null, .int 0, .null, .int 0, .null, .int 0, .int 0, .int 0, .int 0, .int 0, .int 0, .int 0])), h.2.1 + 1, h.2.2 + 12) := hW0.frame (fun q hq => xm_up_ne _ _ (Nat.ne_of_lt hq)) (Nat.le_succ _)
      refine kr_jobs (j := j) hW d_S_newRun_49 rfl hjl ?_
      refine xr_I3v d_S_newRun_50 xi_4_178 rfl rfl rfl rfl (Nat.le_of_ble_eq_true rfl) (by decide) (r_Tsk_init (xm_up_self _ _ _)) (fun h1 h9 => ?_)
      have hk : ∀ q, q ≠ h.2.1 → h1.1 q = h.1 q := fun q hq => by rw [h9]; show xm_up (xm_up h.1 h.2.1 _) h.2.1 _ q = _; rw [xm_up_ne _ _ hq, xm_up_ne _ _ hq]
      have ho : h1.1 h.2.1 = some (.inl (3, [.ref z, .int (nI j), .ref (A 1 j), .int 0, .null, .int 0, .int 0, .int 0, .int 0, .int 0, .int 0, .int 0])) := by rw [h9]; exact xm_up_self _ _ _
      have hz1 : h1.2 = (h.2.1 + 1, h.2.2 + 12) := by rw [h9]
      clear h9
      refine xr_aast (ci := 3) (Cn := "JobStates$Task") d_S_newRun_53 ((hk (z + 1) (by omega)).trans hr2) rfl rfl ho (vp_in_nI hjl (by omega)) ?_
      refine xr_iinc1 d_S_newRun_54 rfl ?_
      refine xr_goto (tgt := 19) d_S_newRun_57 rfl ?_
      rw [nI_1]
      refine ih (j + 1) _ ?_ ?_ ?_ ?_ ?_ (by omega) (by omega)
      · refine hW0.frameZ hlo (fun q hq => ?_) (by show h.2.1 ≤ h1.2.1; rw [hz1]; exact Nat.le_succ _)
        show xm_up h1.1 (z + 1) _ q = _
        rw [xm_up_ne _ _ (by omega), hk q (by omega)]
      · show xm_up h1.1 (z + 1) _ z = _
        rw [xm_up_ne _ _ (by omega), hk z (by omega)]; exact hr1
      · show xm_up h1.1 (z + 1) _ (z + 1) = _
        rw [xm_up_self, nI_clamp (by omega), hsz]
        congr 4
        funext i
        unfold updV
        dsimp only
        by_cases e : i = j
        · rw [if_pos e, e, if_pos (by omega)]
        · rw [if_neg e]
          by_cases q : i < j
          · rw [if_pos q, if_pos (by omega)]
          · rw [if_neg q, if_neg (by omega)]
      · intro i hi
        show xm_up h1.1 (z + 1) _ (z + 2 + i) = _
        rw [xm_up_ne _ _ (by omega)]
        by_cases e : i = j
        · rw [e, ← hsz]; exact ho
        · rw [hk _ (by omega)]; exact hr3 i (by omega)
      · show h1.2 = _
        rw [hz1, hsz, show h.2.2 = b + 12 * j from congrArg Prod.snd hz]
        congr 1
theorem s_newRun {g : xm_G} {h : xm_H} {c m : kS} {R : Nat → Option Nat} {A : kA} {v p q : Int32} (hW : kW c R m A h) : xm_S g 2 m_S_newRun (xm_entry m_S_newRun [.ref (A 0 0), .int v, .int p, .int q]) h (xq_r fun o h' => o = some h.2.1 ∧ h'.1 h.2.1 = some (.inl (1, [.int v, .int p, .int q, .ref (h.2.1 + 1), .int 0])) ∧ h'.1 (h.2.1 + 1) = some (.inr (5, kj c, fun i => if i < 12 then .ref (h.2.1 + 2 + i) else .null)) ∧ (∀ i, i < kj c → h'.1 (h.2.1 + 2 + i) = some (.inl (3, [.ref h.2.1, .int (nI i), .ref (A 1 i), .int 0, .null, .int 0, .int 0, .int 0, .int 0, .int 0, .int 0, .int 0]))) ∧ kW c R m A h' ∧ h'.2 = (h.2.1 + 2 + kj c, h.2.2 + 5 + kj c + 12 * kj c)) := by
  show xm_S g 2 m_S_newRun (0, [some (.ref (A 0 0)), some (.int v), some (.int p), some (.int q), none, none], []) h _
  have hb1 := hW.2.2.1
  have hlo : ∀ k i, kv c k i → A k i < h.2.1 := fun k i hk => (hW.1 k i hk).2
  refine xr_new (fs := [.int 0, .int 0, .int 0, .null, .int 0]) (N := 5) d_S_newRun_0 xc_4_21 rfl rfl ?_
  refine xr_dup d_S_newRun_3 rfl ?_
  refine xr_iload_n d_S_newRun_4 rfl ?_
  refine xr_iload_n d_S_newRun_5 rfl ?_
  refine xr_iload_n d_S_newRun_6 rfl ?_
  refine xr_aload_n d_S_newRun_7 rfl ?_
  refine xr_getf d_S_newRun_8 xf_4_27 (show xm_up h.1 h.2.1 _ (A 0 0) = _ from (xm_up_ne _ _ (Nat.ne_of_lt (hlo 0 0 (show 0 < 4 by decide)))).trans hW.this) rfl ?_
  refine xr_I4v d_S_newRun_11 xi_4_175 rfl rfl rfl rfl rfl (Nat.le_of_ble_eq_true rfl) (by decide) (r_Run_init (xm_up_self _ _ _) (Nat.lt_succ_self _) (by omega)) (fun h1 h9 => ?_)
  obtain ⟨f1, f2, f3, f4⟩ := h9
  have f1 : h1.1 h.2.1 = some (.inl (1, [.int v, .int p, .int q, .ref (h.2.1 + 1), .int 0])) := f1
  have f2 : h1.1 (h.2.1 + 1) = some (.inr (5, kj c, fun _ => .null)) := f2
  have hk : ∀ x, x < h.2.1 → h1.1 x = h.1 x := fun x hx => (f3 x (by omega) (show x ≠ h.2.1 + 1 by omega)).trans (xm_up_ne _ _ (by omega))
  refine xr_astore d_S_newRun_14 (Nat.le_of_ble_eq_true rfl) ?_
  refine xr_iconst (v := 0) d_S_newRun_16 rfl ?_
  refine xr_istore d_S_newRun_17 (Nat.le_of_ble_eq_true rfl) ?_
  refine l_newRun (b := h.2.2 + 5 + kj c) hlo (kj c + 1) 0 h1 (hW.frame hk ?_) f1 ?_ (fun i hi => absurd hi (Nat.not_lt_zero _)) ?_ (by omega) (by omega)
  · rw [f4]; show h.2.1 ≤ h.2.1 + 1 + 1; omega
  · rw [f2]; congr 4
  · rw [f4]; rfl
theorem l_cancelGroup {g : xm_G} {h0 : xm_H} {s m : kS} {A : kA} {q : Int32}  : ∀ (n : Nat) (r : Nat) (R : Nat → Option Nat) (h : xm_H), kW (k_grpN s q r) R m A h → kI (k_grpN s q r) R → kI8 (k_grpN s q r) → h.2 = h0.2 → r ≤ kq s → kq s < r + n → xm_S g 2 m_S_cancelGroup (2, [some (.ref (A 0 0)), some (.int q), some (.int (nI r))], []) h (xq_v fun h' => ∃ R', kW (k_grpN s q (kq s)) R' m A h' ∧ kI (k_grpN s q (kq s)) R' ∧ kI8 (k_grpN s q (kq s)) ∧ h'.2 = h0.2) := by
  intro n
  induction n with
  | zero => intros; omega
  | succ n ih =>
    intro r R h hW hI h8 he hr1 hn
    have e1 := k_grpN_1 s q r
    have hk : k_grpN s q (r + 1) = k_grp1 (k_grpN s q r) q r := rfl
    generalize hC : k_grpN s q r = C at *
    have hkq : kq C = kq s := congrArg (fun z => z.2.2) e1
    rw [← hkq] at hr1 hn
    have hb1 := hW.2.2.1
    have hb3 := hW.2.2.2.2
    refine xr_iload_n d_S_cancelGroup_2 rfl ?_
    refine xr_aload_n d_S_cancelGroup_3 rfl ?_
    refine xr_getf d_S_cancelGroup_4 xf_4_34 hW.this rfl ?_
    refine xr_icmp_ge (tgt := 50) d_S_cancelGroup_7 rfl (fun c7 => ?_) (fun c7 => ?_)
    · have hre : r = kq C := by
        rcases Nat.lt_or_ge r (kq C) with z | z
        · exact absurd c7 (nI_ge z (by omega))
        · omega
      refine xr_return d_S_cancelGroup_50 rfl rfl ?_
      refine ⟨rfl, R, ?_, ?_, ?_, he⟩
      · rw [← hkq, ← hre, hC]; exact hW
      · rw [← hkq, ← hre, hC]; exact hI
      · rw [← hkq, ← hre, hC]; exact h8
    · have hr : r < kq C := by
        rcases Nat.lt_or_ge r (kq C) with z | z
        · exact z
        · exact absurd (nI_le z (by omega)) c7
      refine xr_aload_n d_S_cancelGroup_10 rfl ?_
      refine xr_getf d_S_cancelGroup_11 xf_4_23 hW.this rfl ?_
      refine xr_iload_n d_S_cancelGroup_14 rfl ?_
      refine kr_runs (r := r) hW d_S_cancelGroup_15 rfl hr ?_
      refine xr_getf d_S_cancelGroup_16 xf_4_181 (hW.run hr) rfl ?_
      refine xr_iload_n d_S_cancelGroup_19 rfl ?_
      refine xr_icmp_ne (tgt := 44) d_S_cancelGroup_20 rfl (fun c20 => ?_) (fun c20 => ?_)
      · have hnx : k_grpN s q (r + 1) = C := hk.trans (if_neg (fun z => c20 z.1))
        refine xr_iinc1 d_S_cancelGroup_44 rfl ?_
        refine xr_goto (tgt := 2) d_S_cancelGroup_47 rfl ?_
        rw [nI_1]
        exact ih (r + 1) _ _ (by rw [hnx]; exact hW) (by rw [hnx]; exact hI) (by rw [hnx]; exact h8) he (by omega) (by omega)
      · refine xr_aload_n d_S_cancelGroup_23 rfl ?_
        refine xr_getf d_S_cancelGroup_24 xf_4_23 hW.this rfl ?_
        refine xr_iload_n d_S_cancelGroup_27 rfl ?_
        refine kr_runs (r := r) hW d_S_cancelGroup_28 rfl hr ?_
        refine xr_V0i d_S_cancelGroup_29 xv_4_140 (hW.run hr) rfl (Nat.le_of_ble_eq_true rfl) (by decide) (s_isOver hW hr) (fun v h1 h9 => ?_)
        obtain ⟨rfl, e9⟩ := h9
        have e9 := e9.symm
        subst e9
        refine xr_if_ne (tgt := 44) d_S_cancelGroup_32 rfl (fun c32 => ?_) (fun c32 => ?_)
        · have hnx : k_grpN s q (r + 1) = C := hk.trans (if_neg (fun z => z.2 (kbi_n0 c32)))
          refine xr_iinc1 d_S_cancelGroup_44 rfl ?_
          refine xr_goto (tgt := 2) d_S_cancelGroup_47 rfl ?_
          rw [nI_1]
          exact ih (r + 1) _ _ (by rw [hnx]; exact hW) (by rw [hnx]; exact hI) (by rw [hnx]; exact h8) he (by omega) (by omega)
        · have hnx : k_grpN s q (r + 1) = k_stop C r := hk.trans (if_pos ⟨c20, kbi_0.mp c32⟩)
          refine xr_aload_n d_S_cancelGroup_35 rfl ?_
          refine xr_getf d_S_cancelGroup_36 xf_4_23 hW.this rfl ?_
          refine xr_iload_n d_S_cancelGroup_39 rfl ?_
          refine kr_runs (r := r) hW d_S_cancelGroup_40 rfl hr ?_
          refine xr_V0v d_S_cancelGroup_41 xv_4_143 (hW.run hr) rfl (Nat.le_of_ble_eq_true rfl) (by decide) (s_cancelAll hW hr hI) (fun h1 h9 => ?_)
          have h8 := h8.stop hb1 r
          obtain ⟨R', hW, hI, he1⟩ := h9
          have he := he1.trans he
          refine xr_iinc1 d_S_cancelGroup_44 rfl ?_
          refine xr_goto (tgt := 2) d_S_cancelGroup_47 rfl ?_
          rw [nI_1]
          exact ih (r + 1) _ _ (by rw [hnx]; exact hW) (by rw [hnx]; exact hI) (by rw [hnx]; exact h8) he (by omega) (by omega)
theorem s_cancelGroup {g : xm_G} {h : xm_H} {s m : kS} {R : Nat → Option Nat} {A : kA} {q : Int32} (hW : kW s R m A h) (hI : kI s R) (h8 : kI8 s) : xm_S g 2 m_S_cancelGroup (xm_entry m_S_cancelGroup [.ref (A 0 0), .int q]) h (xq_v fun h' => ∃ R', kW (k_grpN s q (kq s)) R' m A h' ∧ kI (k_grpN s q (kq s)) R' ∧ kI8 (k_grpN s q (kq s)) ∧ h'.2 = h.2) := by
  show xm_S g 2 m_S_cancelGroup (0, [some (.ref (A 0 0)), some (.int q), none], []) h _
  refine xr_iconst (v := 0) d_S_cancelGroup_0 rfl ?_
  refine xr_istore_n d_S_cancelGroup_1 (Nat.le_of_ble_eq_true rfl) ?_
  exact l_cancelGroup (h0 := h) (kq s + 1) 0 R h hW hI h8 rfl (by omega) (by omega)
set_option maxHeartbeats 200000 in
theorem p_trigger {g : xm_G} {h : xm_H} {c m : kS} {R : Nat → Option Nat} {A : kA} (hW : kW c R m A h) {p q : Int32} (hI : kI c R) (h8 : kI8 c) : xm_S g 5 m_S_trigger (xm_entry m_S_trigger [.ref (A 0 0), .int p, .int q]) h (xq_i fun v h' => v = (o_trig c p q).2 ∧ kQ (o_trig c p q).1 m A h h') := by
  show xm_S g 5 m_S_trigger (0, [some (.ref (A 0 0)), some (.int p), some (.int q), none], []) h _
  have hb3 := hW.2.2.2.2
  refine xr_aload_n d_S_trigger_0 rfl ?_
  refine xr_getf d_S_trigger_1 xf_4_34 hW.this rfl ?_
  refine xr_bipush (v := 10) d_S_trigger_4 rfl ?_
  refine xr_icmp_ge (tgt := 16) d_S_trigger_6 rfl (fun c6 => ?_) (fun c6 => ?_)
  · have w : o_trig c p q = (c, -1) := if_pos (Or.inl (by
      rcases Nat.lt_or_ge (kq c) 10 with z | z
      · exact absurd c6 (nI_ge (b := 10) z (by decide))
      · omega))
    refine xr_iconst (v := -1) d_S_trigger_16 rfl ?_
    refine xr_ireturn d_S_trigger_17 rfl rfl rfl ?_
    rw [w]
    exact ⟨_, rfl, rfl, kQ.of hW hI h8 rfl⟩
  · have h10 : kq c < 10 := by
      rcases Nat.lt_or_ge (kq c) 10 with z | z
      · exact z
      · exact absurd (nI_le (a := 10) z (by omega)) c6
    refine xr_iload_n d_S_trigger_9 rfl ?_
    refine xr_S1i d_S_trigger_10 xs_4_56 rfl rfl (Nat.le_of_ble_eq_true rfl) (by decide) s_isPerson (fun v h1 h9 => ?_)
    obtain ⟨rfl, e9⟩ := h9
    have e9 := e9.symm
    subst e9
    refine xr_if_ne (tgt := 18) d_S_trigger_13 rfl (fun c13 => ?_) (fun c13 => ?_)
    · refine xr_iload_n d_S_trigger_18 rfl ?_
      refine xr_iconst (v := -1) d_S_trigger_19 rfl ?_
      refine xr_icmp_eq (tgt := 34) d_S_trigger_20 rfl (fun c20 => ?_) (fun c20 => ?_)
      · have hg : ¬ (q < -1 ∨ 4 ≤ q) := by rw [c20]; decide
        have w : o_trig c p q = (k_settle (k_addQ (k_grp c q) p q), nI (kq c)) := if_neg (by
          rintro (z | z | z | z)
          · omega
          · exact z (kbi_n0 c13)
          · exact hg (Or.inl z)
          · exact hg (Or.inr z))
        have K44 : ∀ (R : Nat → Option Nat) (h1 : xm_H), kW (k_grp c q) R m A h1 → kI (k_grp c q) R → kI8 (k_grp c q) → h1.2 = h.2 → xm_S g 5 m_S_trigger (44, [some (.ref (A 0 0)), some (.int p), some (.int q), none], []) h1 (xq_i fun v h' => v = (o_trig c p q).2 ∧ kQ (o_trig c p q).1 m A h h') := by
          intro R h1 hW hI h8 he1
          have e1 := k_grp_1 c q
          have hkq : kq (k_grp c q) = kq c := congrArg (fun z => z.2.2) e1
          rw [← hkq] at w h10
          rw [w]
          generalize k_grp c q = C at *
          have hb1 := hW.2.2.1
          refine xr_aload_n d_S_trigger_44 rfl ?_
          refine xr_getf d_S_trigger_45 xf_4_34 hW.this rfl ?_
          refine xr_istore_n d_S_trigger_48 (Nat.le_of_ble_eq_true rfl) ?_
          refine xr_aload_n d_S_trigger_49 rfl ?_
          refine xr_getf d_S_trigger_50 xf_4_23 hW.this rfl ?_
          refine xr_iload_n d_S_trigger_53 rfl ?_
          refine xr_aload_n d_S_trigger_54 rfl ?_
          refine xr_iload_n d_S_trigger_55 rfl ?_
          refine xr_iload_n d_S_trigger_56 rfl ?_
          refine xr_iload_n d_S_trigger_57 rfl ?_
          refine xr_V3r d_S_trigger_58 xv_4_63 hW.this rfl rfl rfl rfl (Nat.le_of_ble_eq_true rfl) (by decide) (s_newRun hW) (fun o h2 h9 => ?_)
          obtain ⟨rfl, f1, f2, f3, hW2, hz⟩ := h9
          have hz1 : h2.2.1 = h1.2.1 + 2 + kj C := congrArg Prod.fst hz
          have hz2 : h2.2.2 = h1.2.2 + 5 + kj C + 12 * kj C := congrArg Prod.snd hz
          have n03 : A 0 0 ≠ A 0 3 := fun z => absurd (hW.2.1 0 0 0 3 (show 0 < 4 by decide) (show 3 < 4 by decide) z).2 (by decide)
          have hlo : ∀ k i, kv C k i → A k i < h1.2.1 := fun k i hk => (hW.1 k i hk).2
          refine xr_aast (v := h1.2.1) (ci := 1) (Cn := "JobStates$Run") d_S_trigger_61 hW2.arun rfl rfl f1 (vp_in_nI h10 (by decide)) ?_
          refine xr_aload_n d_S_trigger_62 rfl ?_
          refine xr_dup d_S_trigger_63 rfl ?_
          refine xr_getf d_S_trigger_64 xf_4_34 (show xm_up h2.1 (A 0 3) _ (A 0 0) = _ from (xm_up_ne _ _ n03).trans hW2.this) rfl ?_
          refine xr_iconst (v := 1) d_S_trigger_67 rfl ?_
          refine xr_iadd d_S_trigger_68 ?_
          refine xr_putf d_S_trigger_69 xf_4_34 (show xm_up h2.1 (A 0 3) _ (A 0 0) = _ from (xm_up_ne _ _ n03).trans hW2.this) rfl rfl rfl ?_
          have hW3 := hW2.addQ (p := p) (g := q) hI h10 hlo ⟨f1, f2, f3, by rw [hz1]; exact Nat.le_refl _⟩
          have hA0 : kAq A (kq C) h1.2.1 0 0 = A 0 0 := kAq_o A _ _ (by decide) 0
          have hA6 : kAq A (kq C) h1.2.1 6 0 = A 6 0 := kAq_o A _ _ (by decide) 0
          rw [← hA0]
          refine xr_aload_n d_S_trigger_72 rfl ?_
          refine xr_V0v d_S_trigger_73 xv_4_67 hW3.this rfl (Nat.le_of_ble_eq_true rfl) (by decide) (s_settle hW3 (hI.addQ h10) (h8.addQ hI p q)) (fun h3 h9 => ?_)
          obtain ⟨hW4, hI4, h84, he4⟩ := h9
          refine xr_iload_n d_S_trigger_76 rfl ?_
          refine xr_ireturn d_S_trigger_77 rfl rfl rfl ?_
          have hQ : kQ (k_settle (k_addQ C p q)) m A h h3 := by
            refine ⟨R, kAq A (kq C) h1.2.1, hW4, hI4, h84, hA0, hA6, ?_, ?_⟩
            · rw [he4]; show h2.2.1 ≤ _; rw [hz1, he1]; omega
            · rw [he4]; show h2.2.2 ≤ _; rw [hz2, he1]; omega
          refine ⟨_, rfl, ?_, ?_⟩
          · dsimp only
          · dsimp only; exact hQ
        refine xr_iload_n d_S_trigger_34 rfl ?_
        refine xr_iconst (v := -1) d_S_trigger_35 rfl ?_
        refine xr_icmp_eq (tgt := 44) d_S_trigger_36 rfl (fun c36 => ?_) (fun c36 => ?_)
        · exact K44 R h (by unfold k_grp; rw [if_pos c36]; exact hW) (by unfold k_grp; rw [if_pos c36]; exact hI) (by unfold k_grp; rw [if_pos c36]; exact h8) rfl
        · have hgr : k_grp c q = k_grpN c q (kq c) := if_neg c36
          refine xr_aload_n d_S_trigger_39 rfl ?_
          refine xr_iload_n d_S_trigger_40 rfl ?_
          refine xr_V1v d_S_trigger_41 xv_4_59 hW.this rfl rfl (Nat.le_of_ble_eq_true rfl) (by decide) (s_cancelGroup hW hI h8) (fun h1 h9 => ?_)
          obtain ⟨R', hW1, hI1, h81, he1⟩ := h9
          rw [← hgr] at hW1 hI1 h81
          exact K44 R' h1 hW1 hI1 h81 he1
      · refine xr_iload_n d_S_trigger_23 rfl ?_
        refine xr_if_lt (tgt := 32) d_S_trigger_24 rfl (fun c24 => ?_) (fun c24 => ?_)
        · have w : o_trig c p q = (c, -1) := if_pos (Or.inr (Or.inr (Or.inl (by simp only [Int32.lt_iff_toInt_lt, ti_eq, ti_m1, ti_0] at *; omega))))
          refine xr_iconst (v := -1) d_S_trigger_32 rfl ?_
          refine xr_ireturn d_S_trigger_33 rfl rfl rfl ?_
          rw [w]
          exact ⟨_, rfl, rfl, kQ.of hW hI h8 rfl⟩
        · refine xr_iload_n d_S_trigger_27 rfl ?_
          refine xr_iconst (v := 4) d_S_trigger_28 rfl ?_
          refine xr_icmp_lt (tgt := 34) d_S_trigger_29 rfl (fun c29 => ?_) (fun c29 => ?_)
          · have hg : ¬ (q < -1 ∨ 4 ≤ q) := fun z => z.elim (fun y => c24 (by simp only [Int32.lt_iff_toInt_lt, ti_m1, ti_0] at *; omega)) (fun y => ki_nle.mpr c29 y)
            have w : o_trig c p q = (k_settle (k_addQ (k_grp c q) p q), nI (kq c)) := if_neg (by
              rintro (z | z | z | z)
              · omega
              · exact z (kbi_n0 c13)
              · exact hg (Or.inl z)
              · exact hg (Or.inr z))
            have K44 : ∀ (R : Nat → Option Nat) (h1 : xm_H), kW (k_grp c q) R m A h1 → kI (k_grp c q) R → kI8 (k_grp c q) → h1.2 = h.2 → xm_S g 5 m_S_trigger (44, [some (.ref (A 0 0)), some (.int p), some (.int q), none], []) h1 (xq_i fun v h' => v = (o_trig c p q).2 ∧ kQ (o_trig c p q).1 m A h h') := by
              intro R h1 hW hI h8 he1
              have e1 := k_grp_1 c q
              have hkq : kq (k_grp c q) = kq c := congrArg (fun z => z.2.2) e1
              rw [← hkq] at w h10
              rw [w]
              generalize k_grp c q = C at *
              have hb1 := hW.2.2.1
              refine xr_aload_n d_S_trigger_44 rfl ?_
              refine xr_getf d_S_trigger_45 xf_4_34 hW.this rfl ?_
              refine xr_istore_n d_S_trigger_48 (Nat.le_of_ble_eq_true rfl) ?_
              refine xr_aload_n d_S_trigger_49 rfl ?_
              refine xr_getf d_S_trigger_50 xf_4_23 hW.this rfl ?_
              refine xr_iload_n d_S_trigger_53 rfl ?_
              refine xr_aload_n d_S_trigger_54 rfl ?_
              refine xr_iload_n d_S_trigger_55 rfl ?_
              refine xr_iload_n d_S_trigger_56 rfl ?_
              refine xr_iload_n d_S_trigger_57 rfl ?_
              refine xr_V3r d_S_trigger_58 xv_4_63 hW.this rfl rfl rfl rfl (Nat.le_of_ble_eq_true rfl) (by decide) (s_newRun hW) (fun o h2 h9 => ?_)
              obtain ⟨rfl, f1, f2, f3, hW2, hz⟩ := h9
              have hz1 : h2.2.1 = h1.2.1 + 2 + kj C := congrArg Prod.fst hz
              have hz2 : h2.2.2 = h1.2.2 + 5 + kj C + 12 * kj C := congrArg Prod.snd hz
              have n03 : A 0 0 ≠ A 0 3 := fun z => absurd (hW.2.1 0 0 0 3 (show 0 < 4 by decide) (show 3 < 4 by decide) z).2 (by decide)
              have hlo : ∀ k i, kv C k i → A k i < h1.2.1 := fun k i hk => (hW.1 k i hk).2
              refine xr_aast (v := h1.2.1) (ci := 1) (Cn := "JobStates$Run") d_S_trigger_61 hW2.arun rfl rfl f1 (vp_in_nI h10 (by decide)) ?_
              refine xr_aload_n d_S_trigger_62 rfl ?_
              refine xr_dup d_S_trigger_63 rfl ?_
              refine xr_getf d_S_trigger_64 xf_4_34 (show xm_up h2.1 (A 0 3) _ (A 0 0) = _ from (xm_up_ne _ _ n03).trans hW2.this) rfl ?_
              refine xr_iconst (v := 1) d_S_trigger_67 rfl ?_
              refine xr_iadd d_S_trigger_68 ?_
              refine xr_putf d_S_trigger_69 xf_4_34 (show xm_up h2.1 (A 0 3) _ (A 0 0) = _ from (xm_up_ne _ _ n03).trans hW2.this) rfl rfl rfl ?_
              have hW3 := hW2.addQ (p := p) (g := q) hI h10 hlo ⟨f1, f2, f3, by rw [hz1]; exact Nat.le_refl _⟩
              have hA0 : kAq A (kq C) h1.2.1 0 0 = A 0 0 := kAq_o A _ _ (by decide) 0
              have hA6 : kAq A (kq C) h1.2.1 6 0 = A 6 0 := kAq_o A _ _ (by decide) 0
              rw [← hA0]
              refine xr_aload_n d_S_trigger_72 rfl ?_
              refine xr_V0v d_S_trigger_73 xv_4_67 hW3.this rfl (Nat.le_of_ble_eq_true rfl) (by decide) (s_settle hW3 (hI.addQ h10) (h8.addQ hI p q)) (fun h3 h9 => ?_)
              obtain ⟨hW4, hI4, h84, he4⟩ := h9
              refine xr_iload_n d_S_trigger_76 rfl ?_
              refine xr_ireturn d_S_trigger_77 rfl rfl rfl ?_
              have hQ : kQ (k_settle (k_addQ C p q)) m A h h3 := by
                refine ⟨R, kAq A (kq C) h1.2.1, hW4, hI4, h84, hA0, hA6, ?_, ?_⟩
                · rw [he4]; show h2.2.1 ≤ _; rw [hz1, he1]; omega
                · rw [he4]; show h2.2.2 ≤ _; rw [hz2, he1]; omega
              refine ⟨_, rfl, ?_, ?_⟩
              · dsimp only
              · dsimp only; exact hQ
            refine xr_iload_n d_S_trigger_34 rfl ?_
            refine xr_iconst (v := -1) d_S_trigger_35 rfl ?_
            refine xr_icmp_eq (tgt := 44) d_S_trigger_36 rfl (fun c36 => ?_) (fun c36 => ?_)
            · exact K44 R h (by unfold k_grp; rw [if_pos c36]; exact hW) (by unfold k_grp; rw [if_pos c36]; exact hI) (by unfold k_grp; rw [if_pos c36]; exact h8) rfl
            · have hgr : k_grp c q = k_grpN c q (kq c) := if_neg c36
              refine xr_aload_n d_S_trigger_39 rfl ?_
              refine xr_iload_n d_S_trigger_40 rfl ?_
              refine xr_V1v d_S_trigger_41 xv_4_59 hW.this rfl rfl (Nat.le_of_ble_eq_true rfl) (by decide) (s_cancelGroup hW hI h8) (fun h1 h9 => ?_)
              obtain ⟨R', hW1, hI1, h81, he1⟩ := h9
              rw [← hgr] at hW1 hI1 h81
              exact K44 R' h1 hW1 hI1 h81 he1
          · have w : o_trig c p q = (c, -1) := if_pos (Or.inr (Or.inr (Or.inr (ki_nlt.mp c29))))
            refine xr_iconst (v := -1) d_S_trigger_32 rfl ?_
            refine xr_ireturn d_S_trigger_33 rfl rfl rfl ?_
            rw [w]
            exact ⟨_, rfl, rfl, kQ.of hW hI h8 rfl⟩
    · have w : o_trig c p q = (c, -1) := if_pos (Or.inr (Or.inl (kbi_0.mp c13)))
      refine xr_iconst (v := -1) d_S_trigger_16 rfl ?_
      refine xr_ireturn d_S_trigger_17 rfl rfl rfl ?_
      rw [w]
      exact ⟨_, rfl, rfl, kQ.of hW hI h8 rfl⟩
