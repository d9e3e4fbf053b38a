/-! the class's calls, one by one -/
theorem p_has {g : xm_G} {h : xm_H} {c m : kS} {R : Nat → Option Nat} {A : kA} (hW : kW c R m A h) {a : Int32} (hI : kI c R) (h8 : kI8 c) : xm_S g 2 m_S_has (xm_entry m_S_has [.ref (A 0 0), .int a]) h (xq_i fun v h' => v = k_has c a ∧ kQ c m A h h') := by
  show xm_S g 2 m_S_has (0, [some (.ref (A 0 0)), some (.int a), none, none], []) h _
  refine xr_aload_n d_S_has_0 rfl ?_
  refine xr_iload_n d_S_has_1 rfl ?_
  refine xr_V1r d_S_has_2 xv_4_98 hW.this rfl rfl (Nat.le_of_ble_eq_true rfl) (by decide) (s_findRunner hW) (fun o h1 h9 => ?_)
  obtain ⟨e9, h9⟩ := h9
  have e9 := e9.symm
  subst e9
  have hb1 := hW.2.2.1
  have hb2 := hW.2.2.2.1
  have hb3 := hW.2.2.2.2
  rcases h9 with ⟨rfl, hout⟩ | ⟨u, hu, rfl, rfl⟩
  · have w : k_has c a = -1 := if_neg hout
    refine xr_astore_nN d_S_has_5 (Nat.le_of_ble_eq_true rfl) ?_
    refine xr_aload_nN d_S_has_6 rfl ?_
    refine xr_ifnonnullN d_S_has_7 ?_
    refine xr_iconst (v := -1) d_S_has_10 rfl ?_
    refine xr_ireturn d_S_has_11 rfl rfl rfl ?_
    exact ⟨_, rfl, w.symm, kQ.of hW hI h8 rfl⟩
  · have hin := k_in_of hu (by omega)
    have hnu : k_n (nI u) = u := nI_clamp (by omega)
    have w0 : k_has c (nI u) = kF c 19 u := by unfold k_has; rw [if_pos hin, hnu]
    refine xr_astore_n d_S_has_5 (Nat.le_of_ble_eq_true rfl) ?_
    refine xr_aload_n d_S_has_6 rfl ?_
    refine xr_ifnonnull (tgt := 12) d_S_has_7 rfl ?_
    refine xr_aload_n d_S_has_12 rfl ?_
    rcases hI.2.2.1 u hu with e | ⟨x, eR⟩
    · have w := w0.trans e
      refine xr_getf d_S_has_13 xf_4_102 (hW.rnrN hu e) rfl ?_
      refine xr_astore_nN d_S_has_16 (Nat.le_of_ble_eq_true rfl) ?_
      refine xr_aload_nN d_S_has_17 rfl ?_
      refine xr_ifnonnullN d_S_has_18 ?_
      refine xr_iconst (v := -1) d_S_has_21 rfl ?_
      refine xr_goto (tgt := 29) d_S_has_22 rfl ?_
      refine xr_ireturn d_S_has_29 rfl rfl rfl ?_
      exact ⟨_, rfl, w.symm, kQ.of hW hI h8 rfl⟩
    · obtain ⟨hx, -, e⟩ := hI.2.1 x u eR
      have hx2 : x < 2 ^ 31 := by have := hI.x120 hx; omega
      have hnx : k_n (nI x) = x := nI_clamp hx2
      have w := w0.trans e
      refine xr_getf d_S_has_13 xf_4_102 (hW.rnrS hu hx2 e) rfl ?_
      refine xr_astore_n d_S_has_16 (Nat.le_of_ble_eq_true rfl) ?_
      refine xr_aload_n d_S_has_17 rfl ?_
      refine xr_ifnonnull (tgt := 25) d_S_has_18 rfl ?_
      refine xr_aload_n d_S_has_25 rfl ?_
      refine xr_V0i d_S_has_26 xv_4_114 (hW.tsk hx) rfl (Nat.le_of_ble_eq_true rfl) (by decide) (s_place hW hx) (fun v h1 h9 => ?_)
      obtain ⟨rfl, e9⟩ := h9
      have e9 := e9.symm
      subst e9
      refine xr_ireturn d_S_has_29 rfl rfl rfl ?_
      exact ⟨_, rfl, w.symm, kQ.of hW hI h8 rfl⟩
theorem p_about {g : xm_G} {h : xm_H} {c m : kS} {R : Nat → Option Nat} {A : kA} (hW : kW c R m A h) {a b w : Int32} (hI : kI c R) (h8 : kI8 c) : xm_S g 2 m_S_about (xm_entry m_S_about [.ref (A 0 0), .int a, .int b, .int w]) h (xq_i fun v h' => v = k_about c a b w ∧ kQ c m A h h') := by
  show xm_S g 2 m_S_about (0, [some (.ref (A 0 0)), some (.int a), some (.int b), some (.int w), none], []) h _
  refine xr_aload_n d_S_about_0 rfl ?_
  refine xr_iload_n d_S_about_1 rfl ?_
  refine xr_iload_n d_S_about_2 rfl ?_
  refine xr_V2r d_S_about_3 xv_4_70 hW.this rfl rfl rfl (Nat.le_of_ble_eq_true rfl) (by decide) (s_findTask hW) (fun o h1 h9 => ?_)
  obtain ⟨e9, h9⟩ := h9
  have e9 := e9.symm
  subst e9
  have hb1 := hW.2.2.1
  have hb2 := hW.2.2.2.2
  rcases h9 with ⟨rfl, hout⟩ | ⟨r, j, hr, hj, rfl, rfl, rfl⟩
  · have w : k_about c a b w = -1 := if_neg hout
    refine xr_astoreN d_S_about_6 (Nat.le_of_ble_eq_true rfl) ?_
    refine xr_aloadN d_S_about_8 rfl ?_
    refine xr_ifnonnullN d_S_about_10 ?_
    refine xr_iconst (v := -1) d_S_about_13 rfl ?_
    refine xr_ireturn d_S_about_14 rfl rfl rfl ?_
    exact ⟨_, rfl, w.symm, kQ.of hW hI h8 rfl⟩
  · have hx := k_okx hW hr hj
    have hin : k_in (nI r) (kq c) ∧ k_in (nI j) (kj c) := ⟨k_in_of hr (by omega), k_in_of hj (by omega)⟩
    have hnr : k_n (nI r) = r := nI_clamp (by omega)
    have hnj : k_n (nI j) = j := nI_clamp (by omega)
    have hx2 : 12 * r + j < 2 ^ 31 := by omega
    have hd : (12 * r + j) / 12 = r := kx_d (by omega)
    have hm : (12 * r + j) % 12 = j := kx_m (by omega)
    have w9 : k_about c (nI r) (nI j) w = k_abt c r j w := by unfold k_about; rw [if_pos hin, hnr, hnj]
    refine xr_astore d_S_about_6 (Nat.le_of_ble_eq_true rfl) ?_
    refine xr_aload d_S_about_8 rfl ?_
    refine xr_ifnonnull (tgt := 15) d_S_about_10 rfl ?_
    refine xr_iload_n d_S_about_15 rfl ?_
    by_cases w0 : w = 0
    · subst w0
      refine xr_tableIn (tgt := 52) d_S_about_16 (by decide) (by decide) rfl rfl ?_
      refine xr_aload d_S_about_52 rfl ?_
      refine xr_V0i d_S_about_54 xv_4_152 (hW.tsk hx) rfl (Nat.le_of_ble_eq_true rfl) (by decide) (s_runnerNumber hW hx (fun u q => (hI.2.1 _ u q).2.1)) (fun v h1 h9 => ?_)
      obtain ⟨rfl, e9⟩ := h9
      have e9 := e9.symm
      subst e9
      rw [← hI.rof hx2]
      refine xr_ireturn d_S_about_57 rfl rfl rfl ?_
      exact ⟨_, rfl, w9.symm, kQ.of hW hI h8 rfl⟩
    by_cases w1 : w = 1
    · subst w1
      refine xr_tableIn (tgt := 58) d_S_about_16 (by decide) (by decide) rfl rfl ?_
      refine xr_aload d_S_about_58 rfl ?_
      refine xr_getf d_S_about_60 xf_4_155 (hW.tsk hx) rfl ?_
      refine xr_ireturn d_S_about_63 rfl rfl rfl ?_
      exact ⟨_, rfl, w9.symm, kQ.of hW hI h8 rfl⟩
    by_cases w2 : w = 2
    · subst w2
      refine xr_tableIn (tgt := 64) d_S_about_16 (by decide) (by decide) rfl rfl ?_
      refine xr_aload d_S_about_64 rfl ?_
      refine xr_getf d_S_about_66 xf_4_158 (hW.tsk hx) rfl ?_
      refine xr_ireturn d_S_about_69 rfl rfl rfl ?_
      exact ⟨_, rfl, w9.symm, kQ.of hW hI h8 rfl⟩
    by_cases w3 : w = 3
    · subst w3
      refine xr_tableIn (tgt := 70) d_S_about_16 (by decide) (by decide) rfl rfl ?_
      refine xr_aload d_S_about_70 rfl ?_
      refine xr_getf d_S_about_72 xf_4_161 (hW.tsk hx) rfl ?_
      refine xr_ireturn d_S_about_75 rfl rfl rfl ?_
      exact ⟨_, rfl, w9.symm, kQ.of hW hI h8 rfl⟩
    by_cases w4 : w = 4
    · subst w4
      refine xr_tableIn (tgt := 76) d_S_about_16 (by decide) (by decide) rfl rfl ?_
      refine xr_aload d_S_about_76 rfl ?_
      refine xr_getf d_S_about_78 xf_4_88 (hW.tsk hx) rfl ?_
      refine xr_aload d_S_about_81 rfl ?_
      refine xr_getf d_S_about_83 xf_4_74 (hW.tsk hx) rfl ?_
      refine xr_V1i d_S_about_86 xv_4_164 (hW.run (by omega)) rfl rfl (Nat.le_of_ble_eq_true rfl) (by decide) (s_art hW (by omega) hx.2) (fun v h1 h9 => ?_)
      obtain ⟨rfl, e9⟩ := h9
      have e9 := e9.symm
      subst e9
      rw [hd, hm, show kj c = j + (kj c - j) by omega, hI.art (kj c - j) (by omega)]
      refine xr_ireturn d_S_about_89 rfl rfl rfl ?_
      exact ⟨_, rfl, w9.symm, kQ.of hW hI h8 rfl⟩
    refine xr_tableOut (tgt := 90) d_S_about_16 (by simp only [ti_eq, ti_0, ti_1, ti_2, ti_3, ti_4] at w0 w1 w2 w3 w4; omega) rfl ?_
    refine xr_iconst (v := 0) d_S_about_90 rfl ?_
    refine xr_ireturn d_S_about_91 rfl rfl rfl ?_
    exact ⟨_, rfl, by rw [w9, k_abt, if_neg w0, if_neg w1, if_neg w2, if_neg w3, if_neg w4], kQ.of hW hI h8 rfl⟩
theorem p_lost {g : xm_G} {h : xm_H} {c m : kS} {R : Nat → Option Nat} {A : kA} (hW : kW c R m A h) {t : Int32} (hI : kI c R) (h8 : kI8 c) : xm_S g 0 m_S_lost (xm_entry m_S_lost [.ref (A 0 0), .int t]) h (xq_i fun v h' => v = (o_lost c t).2 ∧ kQ (o_lost c t).1 m A h h') := by
  show xm_S g 0 m_S_lost (0, [some (.ref (A 0 0)), some (.int t)], []) h _
  refine xr_iload_n d_S_lost_0 rfl ?_
  refine xr_iconst (v := 1) d_S_lost_1 rfl ?_
  refine xr_icmp_lt (tgt := 11) d_S_lost_2 rfl (fun c2 => ?_) (fun c2 => ?_)
  · have w : o_lost c t = (c, 0) := if_pos (Or.inl c2)
    refine xr_iconst (v := 0) d_S_lost_11 rfl ?_
    refine xr_ireturn d_S_lost_12 rfl rfl rfl ?_
    rw [w]
    exact ⟨_, rfl, rfl, kQ.of hW hI h8 rfl⟩
  · refine xr_iload_n d_S_lost_5 rfl ?_
    refine xr_bipush (v := 100) d_S_lost_6 rfl ?_
    refine xr_icmp_le (tgt := 13) d_S_lost_8 rfl (fun c8 => ?_) (fun c8 => ?_)
    · have w : o_lost c t = ((c.1, (kc c, t), kF c), 1) := if_neg (fun q => q.elim c2 (ki_nlt.mpr c8))
      refine xr_aload_n d_S_lost_13 rfl ?_
      refine xr_iload_n d_S_lost_14 rfl ?_
      refine kr_plst hW d_S_lost_15 xf_4_40 (fun h1 hW he => ?_)
      refine xr_iconst (v := 1) d_S_lost_18 rfl ?_
      refine xr_ireturn d_S_lost_19 rfl rfl rfl ?_
      rw [w]
      exact ⟨_, rfl, rfl, kQ.of hW (hI.clk _) (h8.clk _) he⟩
    · have w : o_lost c t = (c, 0) := if_pos (Or.inr (ki_nle.mp c8))
      refine xr_iconst (v := 0) d_S_lost_11 rfl ?_
      refine xr_ireturn d_S_lost_12 rfl rfl rfl ?_
      rw [w]
      exact ⟨_, rfl, rfl, kQ.of hW hI h8 rfl⟩
theorem p_beat {g : xm_G} {h : xm_H} {c m : kS} {R : Nat → Option Nat} {A : kA} (hW : kW c R m A h) {a : Int32} (hI : kI c R) (h8 : kI8 c) : xm_S g 1 m_S_beat (xm_entry m_S_beat [.ref (A 0 0), .int a]) h (xq_i fun v h' => v = (o_beat c a).2 ∧ kQ (o_beat c a).1 m A h h') := by
  show xm_S g 1 m_S_beat (0, [some (.ref (A 0 0)), some (.int a), none], []) h _
  refine xr_aload_n d_S_beat_0 rfl ?_
  refine xr_iload_n d_S_beat_1 rfl ?_
  refine xr_V1r d_S_beat_2 xv_4_98 hW.this rfl rfl (Nat.le_of_ble_eq_true rfl) (by decide) (s_findRunner hW) (fun o h1 h9 => ?_)
  obtain ⟨e9, h9⟩ := h9
  have e9 := e9.symm
  subst e9
  have hb1 := hW.2.2.1
  have hb2 := hW.2.2.2.1
  have hb3 := hW.2.2.2.2
  rcases h9 with ⟨rfl, hout⟩ | ⟨u, hu, rfl, rfl⟩
  · have w : o_beat c a = (c, 0) := if_neg (fun q => hout q.1)
    refine xr_astore_nN d_S_beat_5 (Nat.le_of_ble_eq_true rfl) ?_
    refine xr_aload_nN d_S_beat_6 rfl ?_
    refine xr_ifnullN (tgt := 17) d_S_beat_7 rfl ?_
    refine xr_iconst (v := 0) d_S_beat_17 rfl ?_
    refine xr_ireturn d_S_beat_18 rfl rfl rfl ?_
    rw [w]
    exact ⟨_, rfl, rfl, kQ.of hW hI h8 rfl⟩
  · have hin := k_in_of hu (by omega)
    have hnu : k_n (nI u) = u := nI_clamp (by omega)
    refine xr_astore_n d_S_beat_5 (Nat.le_of_ble_eq_true rfl) ?_
    refine xr_aload_n d_S_beat_6 rfl ?_
    refine xr_ifnull d_S_beat_7 ?_
    refine xr_aload_n d_S_beat_10 rfl ?_
    rcases hI.2.2.1 u hu with e | ⟨x, eR⟩
    · have w : o_beat c (nI u) = (c, 0) := if_neg (fun q => q.2 (by rw [hnu]; exact e))
      refine xr_getf d_S_beat_11 xf_4_102 (hW.rnrN hu e) rfl ?_
      refine xr_ifnonnullN d_S_beat_14 ?_
      refine xr_iconst (v := 0) d_S_beat_17 rfl ?_
      refine xr_ireturn d_S_beat_18 rfl rfl rfl ?_
      rw [w]
      exact ⟨_, rfl, rfl, kQ.of hW hI h8 rfl⟩
    · obtain ⟨hx, -, e⟩ := hI.2.1 x u eR
      have hx2 : x < 2 ^ 31 := by have := hI.x120 hx; omega
      have hnx : k_n (nI x) = x := nI_clamp hx2
      have w : o_beat c (nI u) = (kw c 18 u (kc c), 1) := by
        unfold o_beat
        rw [hnu, if_pos ⟨hin, by rw [e]; exact nI_ne hx2⟩]
      refine xr_getf d_S_beat_11 xf_4_102 (hW.rnrS hu hx2 e) rfl ?_
      refine xr_ifnonnull (tgt := 19) d_S_beat_14 rfl ?_
      refine xr_aload_n d_S_beat_19 rfl ?_
      refine xr_aload_n d_S_beat_20 rfl ?_
      refine xr_getf d_S_beat_21 xf_4_37 hW.this rfl ?_
      refine kr_pbeat hW hu d_S_beat_24 xf_4_118 (fun h1 hW he => ?_)
      refine xr_iconst (v := 1) d_S_beat_27 rfl ?_
      refine xr_ireturn d_S_beat_28 rfl rfl rfl ?_
      rw [w]
      exact ⟨_, rfl, rfl, kQ.of hW (hI.other (by omega)) (h8.other (by decide) (by decide) (by decide)) he⟩
theorem p_end {g : xm_G} {h : xm_H} {c m : kS} {R : Nat → Option Nat} {A : kA} (hW : kW c R m A h) {a b v : Int32} (hI : kI c R) (h8 : kI8 c) : xm_S g 5 m_S_end (xm_entry m_S_end [.ref (A 0 0), .int a, .int b, .int v]) h (xq_i fun r h' => r = (o_end c a b v).2 ∧ kQ (o_end c a b v).1 m A h h') := by
  show xm_S g 5 m_S_end (0, [some (.ref (A 0 0)), some (.int a), some (.int b), some (.int v), none, none], []) h _
  refine xr_aload_n d_S_end_0 rfl ?_
  refine xr_iload_n d_S_end_1 rfl ?_
  refine xr_V1r d_S_end_2 xv_4_98 hW.this rfl rfl (Nat.le_of_ble_eq_true rfl) (by decide) (s_findRunner hW) (fun o h1 h9 => ?_)
  obtain ⟨e9, h9⟩ := h9
  have e9 := e9.symm
  subst e9
  have hb1 := hW.2.2.1
  have hb2 := hW.2.2.2.1
  have hb3 := hW.2.2.2.2
  rcases h9 with ⟨rfl, hout⟩ | ⟨u, hu, rfl, rfl⟩
  · have w : o_end c a b v = (c, 0) := if_neg (fun q => hout q.1)
    refine xr_astoreN d_S_end_5 (Nat.le_of_ble_eq_true rfl) ?_
    refine xr_aloadN d_S_end_7 rfl ?_
    refine xr_ifnonnullN d_S_end_9 ?_
    refine xr_iconst (v := 0) d_S_end_12 rfl ?_
    refine xr_ireturn d_S_end_13 rfl rfl rfl ?_
    rw [w]
    exact ⟨_, rfl, rfl, kQ.of hW hI h8 rfl⟩
  · have hin := k_in_of hu (by omega)
    have hnu : k_n (nI u) = u := nI_clamp (by omega)
    refine xr_astore d_S_end_5 (Nat.le_of_ble_eq_true rfl) ?_
    refine xr_aload d_S_end_7 rfl ?_
    refine xr_ifnonnull (tgt := 14) d_S_end_9 rfl ?_
    refine xr_aload d_S_end_14 rfl ?_
    rcases hI.2.2.1 u hu with e | ⟨x, eR⟩
    · have w : o_end c (nI u) b v = (c, 0) := if_neg (fun q => q.2 (by rw [hnu]; exact e))
      refine xr_getf d_S_end_16 xf_4_102 (hW.rnrN hu e) rfl ?_
      refine xr_astoreN d_S_end_19 (Nat.le_of_ble_eq_true rfl) ?_
      refine xr_aloadN d_S_end_21 rfl ?_
      refine xr_ifnonnullN d_S_end_23 ?_
      refine xr_iconst (v := 0) d_S_end_26 rfl ?_
      refine xr_ireturn d_S_end_27 rfl rfl rfl ?_
      rw [w]
      exact ⟨_, rfl, rfl, kQ.of hW hI h8 rfl⟩
    · obtain ⟨hx, -, e⟩ := hI.2.1 x u eR
      have hx2 : x < 2 ^ 31 := by have := hI.x120 hx; omega
      have hnx : k_n (nI x) = x := nI_clamp hx2
      have hs2 : kF c 9 x = 2 := (hI.2.2.2.1 x hx).mpr (by rw [eR]; exact fun q => by cases q)
      have w0 : o_end c (nI u) b v = (k_settle (if ¬ b = 0 then k_done c x v else k_fail c x), 1) := by
        unfold o_end
        rw [hnu, if_pos ⟨hin, by rw [e]; exact nI_ne hx2⟩, e, hnx]
      refine xr_getf d_S_end_16 xf_4_102 (hW.rnrS hu hx2 e) rfl ?_
      refine xr_astore d_S_end_19 (Nat.le_of_ble_eq_true rfl) ?_
      refine xr_aload d_S_end_21 rfl ?_
      refine xr_ifnonnull (tgt := 28) d_S_end_23 rfl ?_
      refine xr_iload_n d_S_end_28 rfl ?_
      refine xr_if_eq (tgt := 41) d_S_end_29 rfl (fun c29 => ?_) (fun c29 => ?_)
      · have w := w0.trans (by rw [if_neg (fun q => q c29)])
        refine xr_aload d_S_end_41 rfl ?_
        refine xr_V0v d_S_end_43 xv_4_124 (hW.tsk hx) rfl (Nat.le_of_ble_eq_true rfl) (by decide) (s_failTry hW hx (fun u q => (hI.2.1 _ u q).2.1)) (fun h1 h9 => ?_)
        obtain ⟨hW, he⟩ := h9
        rw [hI.lv hx2, k_fail_c] at hW
        have hI := hI.fail hx hs2
        have h8 := h8.fail x
        refine xr_aload_n d_S_end_46 rfl ?_
        refine xr_V0v d_S_end_47 xv_4_67 hW.this rfl (Nat.le_of_ble_eq_true rfl) (by decide) (s_settle hW hI h8) (fun h9s h9 => ?_)
        obtain ⟨hW, hI, h8, hes⟩ := h9
        refine xr_iconst (v := 1) d_S_end_50 rfl ?_
        refine xr_ireturn d_S_end_51 rfl rfl rfl ?_
        rw [w]
        exact ⟨_, rfl, rfl, kQ.of hW hI h8 (hes.trans he)⟩
      · have w := w0.trans (by rw [if_pos c29])
        refine xr_aload d_S_end_32 rfl ?_
        refine xr_iload_n d_S_end_34 rfl ?_
        refine xr_V1v d_S_end_35 xv_4_121 (hW.tsk hx) rfl rfl (Nat.le_of_ble_eq_true rfl) (by decide) (s_finish hW hx (fun u q => (hI.2.1 _ u q).2.1)) (fun h1 h9 => ?_)
        obtain ⟨hW, he⟩ := h9
        rw [hI.lv hx2] at hW
        have hI := hI.done (v := v) hx hs2
        have h8 := h8.done x v
        refine xr_goto (tgt := 46) d_S_end_38 rfl ?_
        refine xr_aload_n d_S_end_46 rfl ?_
        refine xr_V0v d_S_end_47 xv_4_67 hW.this rfl (Nat.le_of_ble_eq_true rfl) (by decide) (s_settle hW hI h8) (fun h9s h9 => ?_)
        obtain ⟨hW, hI, h8, hes⟩ := h9
        refine xr_iconst (v := 1) d_S_end_50 rfl ?_
        refine xr_ireturn d_S_end_51 rfl rfl rfl ?_
        rw [w]
        exact ⟨_, rfl, rfl, kQ.of hW hI h8 (hes.trans he)⟩
theorem p_cancel {g : xm_G} {h : xm_H} {c m : kS} {R : Nat → Option Nat} {A : kA} (hW : kW c R m A h) {a : Int32} (hI : kI c R) (h8 : kI8 c) : xm_S g 5 m_S_cancel (xm_entry m_S_cancel [.ref (A 0 0), .int a]) h (xq_i fun v h' => v = (o_cancel c a).2 ∧ kQ (o_cancel c a).1 m A h h') := by
  show xm_S g 5 m_S_cancel (0, [some (.ref (A 0 0)), some (.int a), none], []) h _
  refine xr_aload_n d_S_cancel_0 rfl ?_
  refine xr_iload_n d_S_cancel_1 rfl ?_
  refine xr_V1r d_S_cancel_2 xv_4_133 hW.this rfl rfl (Nat.le_of_ble_eq_true rfl) (by decide) (s_findRun hW) (fun o h1 h9 => ?_)
  obtain ⟨e9, h9⟩ := h9
  have e9 := e9.symm
  subst e9
  have hb1 := hW.2.2.1
  have hb2 := hW.2.2.2.2
  rcases h9 with ⟨rfl, hout⟩ | ⟨r, hr, rfl, rfl⟩
  · have w : o_cancel c a = (c, 0) := if_neg (fun q => hout q.1)
    refine xr_astore_nN d_S_cancel_5 (Nat.le_of_ble_eq_true rfl) ?_
    refine xr_aload_nN d_S_cancel_6 rfl ?_
    refine xr_ifnullN (tgt := 24) d_S_cancel_7 rfl ?_
    refine xr_iconst (v := 0) d_S_cancel_24 rfl ?_
    refine xr_ireturn d_S_cancel_25 rfl rfl rfl ?_
    rw [w]
    exact ⟨_, rfl, rfl, kQ.of hW hI h8 rfl⟩
  · have hin := k_in_of hr (by omega)
    have hnr : k_n (nI r) = r := nI_clamp (by omega)
    refine xr_astore_n d_S_cancel_5 (Nat.le_of_ble_eq_true rfl) ?_
    refine xr_aload_n d_S_cancel_6 rfl ?_
    refine xr_ifnull d_S_cancel_7 ?_
    refine xr_aload_n d_S_cancel_10 rfl ?_
    refine xr_getf d_S_cancel_11 xf_4_137 (hW.run hr) rfl ?_
    refine xr_if_ne (tgt := 24) d_S_cancel_14 rfl (fun c14 => ?_) (fun c14 => ?_)
    · have w : o_cancel c (nI r) = (c, 0) := if_neg (fun q => c14 (by have := q.2.1; rw [hnr] at this; exact this))
      refine xr_iconst (v := 0) d_S_cancel_24 rfl ?_
      refine xr_ireturn d_S_cancel_25 rfl rfl rfl ?_
      rw [w]
      exact ⟨_, rfl, rfl, kQ.of hW hI h8 rfl⟩
    · refine xr_aload_n d_S_cancel_17 rfl ?_
      refine xr_V0i d_S_cancel_18 xv_4_140 (hW.run hr) rfl (Nat.le_of_ble_eq_true rfl) (by decide) (s_isOver hW hr) (fun v h1 h9 => ?_)
      obtain ⟨rfl, e9⟩ := h9
      have e9 := e9.symm
      subst e9
      refine xr_if_eq (tgt := 26) d_S_cancel_21 rfl (fun c21 => ?_) (fun c21 => ?_)
      · have w : o_cancel c (nI r) = (k_settle (k_stop c r), 1) := by
          unfold o_cancel
          rw [hnr, if_pos ⟨hin, c14, kbi_0.mp c21⟩]
        refine xr_aload_n d_S_cancel_26 rfl ?_
        refine xr_V0v d_S_cancel_27 xv_4_143 (hW.run hr) rfl (Nat.le_of_ble_eq_true rfl) (by decide) (s_cancelAll hW hr hI) (fun h1 h9 => ?_)
        have h8 := h8.stop hb1 r
        obtain ⟨R', hW, hI, he⟩ := h9
        refine xr_aload_n d_S_cancel_30 rfl ?_
        refine xr_V0v d_S_cancel_31 xv_4_67 hW.this rfl (Nat.le_of_ble_eq_true rfl) (by decide) (s_settle hW hI h8) (fun h9s h9 => ?_)
        obtain ⟨hW, hI, h8, hes⟩ := h9
        refine xr_iconst (v := 1) d_S_cancel_34 rfl ?_
        refine xr_ireturn d_S_cancel_35 rfl rfl rfl ?_
        rw [w]
        exact ⟨_, rfl, rfl, kQ.of hW hI h8 (hes.trans he)⟩
      · have w : o_cancel c (nI r) = (c, 0) := by
          unfold o_cancel
          rw [hnr, if_neg (fun q => q.2.2 (kbi_n0 c21))]
        refine xr_iconst (v := 0) d_S_cancel_24 rfl ?_
        refine xr_ireturn d_S_cancel_25 rfl rfl rfl ?_
        rw [w]
        exact ⟨_, rfl, rfl, kQ.of hW hI h8 rfl⟩
theorem p_again {g : xm_G} {h : xm_H} {c m : kS} {R : Nat → Option Nat} {A : kA} (hW : kW c R m A h) {a : Int32} (hI : kI c R) (h8 : kI8 c) : xm_S g 5 m_S_again (xm_entry m_S_again [.ref (A 0 0), .int a]) h (xq_i fun v h' => v = (o_again c a).2 ∧ kQ (o_again c a).1 m A h h') := by
  show xm_S g 5 m_S_again (0, [some (.ref (A 0 0)), some (.int a), none, none], []) h _
  refine xr_aload_n d_S_again_0 rfl ?_
  refine xr_iload_n d_S_again_1 rfl ?_
  refine xr_V1r d_S_again_2 xv_4_133 hW.this rfl rfl (Nat.le_of_ble_eq_true rfl) (by decide) (s_findRun hW) (fun o h1 h9 => ?_)
  obtain ⟨e9, h9⟩ := h9
  have e9 := e9.symm
  subst e9
  have hb1 := hW.2.2.1
  have hb2 := hW.2.2.2.2
  rcases h9 with ⟨rfl, hout⟩ | ⟨r, hr, rfl, rfl⟩
  · have w : o_again c a = (c, -1) := if_neg (fun q => hout q.1)
    refine xr_astore_nN d_S_again_5 (Nat.le_of_ble_eq_true rfl) ?_
    refine xr_aload_nN d_S_again_6 rfl ?_
    refine xr_ifnullN (tgt := 24) d_S_again_7 rfl ?_
    refine xr_iconst (v := -1) d_S_again_24 rfl ?_
    refine xr_ireturn d_S_again_25 rfl rfl rfl ?_
    rw [w]
    exact ⟨_, rfl, rfl, kQ.of hW hI h8 rfl⟩
  · have hin := k_in_of hr (by omega)
    have hnr : k_n (nI r) = r := nI_clamp (by omega)
    refine xr_astore_n d_S_again_5 (Nat.le_of_ble_eq_true rfl) ?_
    refine xr_aload_n d_S_again_6 rfl ?_
    refine xr_ifnull d_S_again_7 ?_
    refine xr_aload_n d_S_again_10 rfl ?_
    refine xr_getf d_S_again_11 xf_4_137 (hW.run hr) rfl ?_
    refine xr_if_ne (tgt := 24) d_S_again_14 rfl (fun c14 => ?_) (fun c14 => ?_)
    · have w : o_again c (nI r) = (c, -1) := if_neg (fun q => c14 (by have := q.2.1; rw [hnr] at this; exact this))
      refine xr_iconst (v := -1) d_S_again_24 rfl ?_
      refine xr_ireturn d_S_again_25 rfl rfl rfl ?_
      rw [w]
      exact ⟨_, rfl, rfl, kQ.of hW hI h8 rfl⟩
    · refine xr_aload_n d_S_again_17 rfl ?_
      refine xr_V0i d_S_again_18 xv_4_140 (hW.run hr) rfl (Nat.le_of_ble_eq_true rfl) (by decide) (s_isOver hW hr) (fun v h1 h9 => ?_)
      obtain ⟨rfl, e9⟩ := h9
      have e9 := e9.symm
      subst e9
      refine xr_if_ne (tgt := 26) d_S_again_21 rfl (fun c21 => ?_) (fun c21 => ?_)
      · have w : o_again c (nI r) = (k_settle (k_agN c r (kj c)), k_agC c r (kj c)) := by
          unfold o_again
          rw [hnr, if_pos ⟨hin, c14, kbi_n0 c21⟩]
        refine xr_aload_n d_S_again_26 rfl ?_
        refine xr_V0i d_S_again_27 xv_4_146 (hW.run hr) rfl (Nat.le_of_ble_eq_true rfl) (by decide) (s_redoFailed hW hr hI) (fun v h1 h9 => ?_)
        obtain ⟨rfl, hW, hI, he⟩ := h9
        have h8 := h8.again c14 (kj c) hb1
        refine xr_istore_n d_S_again_30 (Nat.le_of_ble_eq_true rfl) ?_
        refine xr_aload_n d_S_again_31 rfl ?_
        refine xr_V0v d_S_again_32 xv_4_67 hW.this rfl (Nat.le_of_ble_eq_true rfl) (by decide) (s_settle hW hI h8) (fun h9s h9 => ?_)
        obtain ⟨hW, hI, h8, hes⟩ := h9
        refine xr_iload_n d_S_again_35 rfl ?_
        refine xr_ireturn d_S_again_36 rfl rfl rfl ?_
        rw [w]
        exact ⟨_, rfl, rfl, kQ.of hW hI h8 (hes.trans he)⟩
      · have w : o_again c (nI r) = (c, -1) := by
          unfold o_again
          rw [hnr, if_neg (fun q => kbi_0.mp c21 q.2.2)]
        refine xr_iconst (v := -1) d_S_again_24 rfl ?_
        refine xr_ireturn d_S_again_25 rfl rfl rfl ?_
        rw [w]
        exact ⟨_, rfl, rfl, kQ.of hW hI h8 rfl⟩
theorem p_approve {g : xm_G} {h : xm_H} {c m : kS} {R : Nat → Option Nat} {A : kA} (hW : kW c R m A h) {a b p : Int32} (hI : kI c R) (h8 : kI8 c) : xm_S g 5 m_S_approve (xm_entry m_S_approve [.ref (A 0 0), .int a, .int b, .int p]) h (xq_i fun v h' => v = (o_appr c a b p).2 ∧ kQ (o_appr c a b p).1 m A h h') := by
  show xm_S g 5 m_S_approve (0, [some (.ref (A 0 0)), some (.int a), some (.int b), some (.int p), none, none], []) h _
  refine xr_aload_n d_S_approve_0 rfl ?_
  refine xr_iload_n d_S_approve_1 rfl ?_
  refine xr_iload_n d_S_approve_2 rfl ?_
  refine xr_V2r d_S_approve_3 xv_4_70 hW.this rfl rfl rfl (Nat.le_of_ble_eq_true rfl) (by decide) (s_findTask hW) (fun o h1 h9 => ?_)
  obtain ⟨e9, h9⟩ := h9
  have e9 := e9.symm
  subst e9
  have hb1 := hW.2.2.1
  have hb2 := hW.2.2.2.2
  rcases h9 with ⟨rfl, hout⟩ | ⟨r, j, hr, hj, rfl, rfl, rfl⟩
  · have w : o_appr c a b p = (c, -1) := if_neg (fun q => hout ⟨q.1, q.2.1⟩)
    refine xr_astoreN d_S_approve_6 (Nat.le_of_ble_eq_true rfl) ?_
    refine xr_aloadN d_S_approve_8 rfl ?_
    refine xr_ifnullN (tgt := 39) d_S_approve_10 rfl ?_
    refine xr_iconst (v := -1) d_S_approve_39 rfl ?_
    refine xr_ireturn d_S_approve_40 rfl rfl rfl ?_
    rw [w]
    exact ⟨_, rfl, rfl, kQ.of hW hI h8 rfl⟩
  · have hx := k_okx hW hr hj
    have hin : k_in (nI r) (kq c) ∧ k_in (nI j) (kj c) := ⟨k_in_of hr (by omega), k_in_of hj (by omega)⟩
    have hnr : k_n (nI r) = r := nI_clamp (by omega)
    have hnj : k_n (nI j) = j := nI_clamp (by omega)
    have hx2 : 12 * r + j < 2 ^ 31 := by omega
    have hd : (12 * r + j) / 12 = r := kx_d (by omega)
    have hm : (12 * r + j) % 12 = j := kx_m (by omega)
    refine xr_astore d_S_approve_6 (Nat.le_of_ble_eq_true rfl) ?_
    refine xr_aload d_S_approve_8 rfl ?_
    refine xr_ifnull d_S_approve_10 ?_
    refine xr_iload_n d_S_approve_13 rfl ?_
    refine xr_S1i d_S_approve_14 xs_4_56 rfl rfl (Nat.le_of_ble_eq_true rfl) (by decide) s_isPerson (fun v h1 h9 => ?_)
    obtain ⟨rfl, e9⟩ := h9
    have e9 := e9.symm
    subst e9
    refine xr_if_eq (tgt := 39) d_S_approve_17 rfl (fun c17 => ?_) (fun c17 => ?_)
    · have w : o_appr c (nI r) (nI j) p = (c, -1) := if_neg (fun q => kbi_0.mp c17 q.2.2.1)
      refine xr_iconst (v := -1) d_S_approve_39 rfl ?_
      refine xr_ireturn d_S_approve_40 rfl rfl rfl ?_
      rw [w]
      exact ⟨_, rfl, rfl, kQ.of hW hI h8 rfl⟩
    · obtain ⟨p, hp, rfl⟩ := k_in_ex (by decide) (kbi_n0 c17)
      have hnp : k_n (nI p) = p := nI_clamp (by omega)
      refine xr_aload d_S_approve_20 rfl ?_
      refine xr_getf d_S_approve_22 xf_4_74 (hW.tsk hx) rfl ?_
      refine xr_getf d_S_approve_25 xf_4_80 (hW.job hx.2) rfl ?_
      rw [hm]
      refine xr_if_eq (tgt := 39) d_S_approve_28 rfl (fun c28 => ?_) (fun c28 => ?_)
      · have w : o_appr c (nI r) (nI j) (nI p) = (c, -1) := by
          unfold o_appr
          rw [hnr, hnj, if_neg (fun q => q.2.2.2.1 c28)]
        refine xr_iconst (v := -1) d_S_approve_39 rfl ?_
        refine xr_ireturn d_S_approve_40 rfl rfl rfl ?_
        rw [w]
        exact ⟨_, rfl, rfl, kQ.of hW hI h8 rfl⟩
      · refine xr_aload d_S_approve_31 rfl ?_
        refine xr_V0i d_S_approve_33 xv_4_84 (hW.tsk hx) rfl (Nat.le_of_ble_eq_true rfl) (by decide) (s_isEnded hW hx) (fun v h1 h9 => ?_)
        obtain ⟨rfl, e9⟩ := h9
        have e9 := e9.symm
        subst e9
        refine xr_if_eq (tgt := 41) d_S_approve_36 rfl (fun c36 => ?_) (fun c36 => ?_)
        · have w0 : o_appr c (nI r) (nI j) (nI p) = (if kF c 6 r = nI p then (c, -2) else if k_bit (kF c 16 (12 * r + j)) p then (c, 0) else (k_settle (kw c 16 (12 * r + j) (kF c 16 (12 * r + j) ||| ((1 : Int32) <<< (nI p &&& 31)))), 1)) := by
            unfold o_appr
            rw [hnr, hnj, hnp, if_pos ⟨hin.1, hin.2, kbi_n0 c17, c28, kbi_0.mp c36⟩]
          refine xr_iload_n d_S_approve_41 rfl ?_
          refine xr_aload d_S_approve_42 rfl ?_
          refine xr_getf d_S_approve_44 xf_4_88 (hW.tsk hx) rfl ?_
          refine xr_getf d_S_approve_47 xf_4_92 (hW.run (by omega)) rfl ?_
          rw [hd]
          refine xr_icmp_ne (tgt := 56) d_S_approve_50 rfl (fun c50 => ?_) (fun c50 => ?_)
          · have w1 := w0.trans (if_neg (fun q => c50 q.symm))
            refine xr_iconst (v := 1) d_S_approve_56 rfl ?_
            refine xr_iload_n d_S_approve_57 rfl ?_
            refine xr_ishl d_S_approve_58 ?_
            refine xr_istore d_S_approve_59 (Nat.le_of_ble_eq_true rfl) ?_
            obtain ⟨n9, hn9, ea⟩ := hI.2.2.2.2.2.2.2.2 (12 * r + j)
            have hap := k_ap n9 hn9 p hp
            rw [← ea] at hap
            refine xr_aload d_S_approve_61 rfl ?_
            refine xr_getf d_S_approve_63 xf_4_95 (hW.tsk hx) rfl ?_
            refine xr_iload d_S_approve_66 rfl ?_
            refine xr_iand d_S_approve_68 ?_
            refine xr_if_eq (tgt := 74) d_S_approve_69 rfl (fun c69 => ?_) (fun c69 => ?_)
            · have w := w1.trans (if_neg (hap.2.2.mp c69))
              refine xr_aload d_S_approve_74 rfl ?_
              refine xr_dup d_S_approve_76 rfl ?_
              refine xr_getf d_S_approve_77 xf_4_95 (hW.tsk hx) rfl ?_
              refine xr_iload d_S_approve_80 rfl ?_
              refine xr_ior d_S_approve_82 ?_
              refine kr_pt (f := 16) hW hx d_S_approve_83 xf_4_95 (by decide) (fun h1 hW he => ?_)
              have hI := hI.appr hx hp
              have h8 := h8.other (f := 16) (i := 12 * r + j) (v := kF c 16 (12 * r + j) ||| ((1 : Int32) <<< (nI p &&& 31))) (by decide) (by decide) (by decide)
              refine xr_aload_n d_S_approve_86 rfl ?_
              refine xr_V0v d_S_approve_87 xv_4_67 hW.this rfl (Nat.le_of_ble_eq_true rfl) (by decide) (s_settle hW hI h8) (fun h9s h9 => ?_)
              obtain ⟨hW, hI, h8, hes⟩ := h9
              refine xr_iconst (v := 1) d_S_approve_90 rfl ?_
              refine xr_ireturn d_S_approve_91 rfl rfl rfl ?_
              rw [w]
              exact ⟨_, rfl, rfl, kQ.of hW hI h8 (hes.trans he)⟩
            · have w := w1.trans (if_pos (Classical.byContradiction (fun q => c69 (hap.2.2.mpr q))))
              refine xr_iconst (v := 0) d_S_approve_72 rfl ?_
              refine xr_ireturn d_S_approve_73 rfl rfl rfl ?_
              rw [w]
              exact ⟨_, rfl, rfl, kQ.of hW hI h8 rfl⟩
          · have w := w0.trans (if_pos c50.symm)
            refine xr_bipush (v := -2) d_S_approve_53 rfl ?_
            refine xr_ireturn d_S_approve_55 rfl rfl rfl ?_
            rw [w]
            exact ⟨_, rfl, rfl, kQ.of hW hI h8 rfl⟩
        · have w : o_appr c (nI r) (nI j) (nI p) = (c, -1) := by
            unfold o_appr
            rw [hnr, hnj, if_neg (fun q => q.2.2.2.2 (kbi_n0 c36))]
          refine xr_iconst (v := -1) d_S_approve_39 rfl ?_
          refine xr_ireturn d_S_approve_40 rfl rfl rfl ?_
          rw [w]
          exact ⟨_, rfl, rfl, kQ.of hW hI h8 rfl⟩
theorem p_needs {g : xm_G} {h : xm_H} {c m : kS} {R : Nat → Option Nat} {A : kA} (hW : kW c R m A h) {a b : Int32} (hI : kI c R) (h8 : kI8 c) : xm_S g 1 m_S_needs (xm_entry m_S_needs [.ref (A 0 0), .int a, .int b]) h (xq_i fun v h' => v = (o_needs c a b).2 ∧ kQ (o_needs c a b).1 m A h h') := by
  show xm_S g 1 m_S_needs (0, [some (.ref (A 0 0)), some (.int a), some (.int b), none], []) h _
  have hb1 := hW.2.2.1
  have hb3 := hW.2.2.2.2
  refine xr_aload_n d_S_needs_0 rfl ?_
  refine xr_getf d_S_needs_1 xf_4_34 hW.this rfl ?_
  refine xr_if_gt (tgt := 24) d_S_needs_4 rfl (fun c4 => ?_) (fun c4 => ?_)
  · have w : o_needs c a b = (c, 0) := if_neg (fun q => by rw [q.1] at c4; exact absurd c4 (by decide))
    refine xr_iconst (v := 0) d_S_needs_24 rfl ?_
    refine xr_ireturn d_S_needs_25 rfl rfl rfl ?_
    rw [w]
    exact ⟨_, rfl, rfl, kQ.of hW hI h8 rfl⟩
  · refine xr_iload_n d_S_needs_7 rfl ?_
    refine xr_if_lt (tgt := 24) d_S_needs_8 rfl (fun c8 => ?_) (fun c8 => ?_)
    · have w : o_needs c a b = (c, 0) := if_neg (fun q => q.2.1 c8)
      refine xr_iconst (v := 0) d_S_needs_24 rfl ?_
      refine xr_ireturn d_S_needs_25 rfl rfl rfl ?_
      rw [w]
      exact ⟨_, rfl, rfl, kQ.of hW hI h8 rfl⟩
    · refine xr_iload_n d_S_needs_11 rfl ?_
      refine xr_iload_n d_S_needs_12 rfl ?_
      refine xr_icmp_ge (tgt := 24) d_S_needs_13 rfl (fun c13 => ?_) (fun c13 => ?_)
      · have w : o_needs c a b = (c, 0) := if_neg (fun q => q.2.2.1 c13)
        refine xr_iconst (v := 0) d_S_needs_24 rfl ?_
        refine xr_ireturn d_S_needs_25 rfl rfl rfl ?_
        rw [w]
        exact ⟨_, rfl, rfl, kQ.of hW hI h8 rfl⟩
      · refine xr_iload_n d_S_needs_16 rfl ?_
        refine xr_aload_n d_S_needs_17 rfl ?_
        refine xr_getf d_S_needs_18 xf_4_27 hW.this rfl ?_
        refine xr_icmp_lt (tgt := 26) d_S_needs_21 rfl (fun c21 => ?_) (fun c21 => ?_)
        · have hq0 : kq c = 0 := by
            rcases Nat.eq_zero_or_pos (kq c) with q | q
            · exact q
            · exact absurd (show (0 : Int32) < nI (kq c) from nI_lt (a := 0) q (by omega)) c4
          obtain ⟨a, ha, rfl⟩ := k_in_ex (v := a) (n := kj c) (by omega) ⟨fun q => by rw [ki_nle] at c13; rw [ki_nlt] at c8; exact absurd (show (0 : Int32) < a by rw [Int32.lt_iff_toInt_lt] at *; rw [Int32.le_iff_toInt_le] at c8; omega) (by rw [ki_nlt]; rw [Int32.lt_iff_toInt_lt] at q; rw [Int32.le_iff_toInt_le]; omega), ki_nle.mpr c21⟩
          obtain ⟨b, hb, rfl⟩ := k_in_ex (v := b) (n := a) (by omega) ⟨c8, c13⟩
          have hna : k_n (nI a) = a := nI_clamp (by omega)
          have hnb : k_n (nI b) = b := nI_clamp (by omega)
          refine xr_aload_n d_S_needs_26 rfl ?_
          refine xr_getf d_S_needs_27 xf_4_11 hW.this rfl ?_
          refine xr_iload_n d_S_needs_30 rfl ?_
          refine kr_jobs (j := a) hW d_S_needs_31 rfl ha ?_
          refine xr_astore_n d_S_needs_32 (Nat.le_of_ble_eq_true rfl) ?_
          refine xr_aload_n d_S_needs_33 rfl ?_
          refine xr_iload_n d_S_needs_34 rfl ?_
          refine xr_V1i d_S_needs_35 xv_4_46 (hW.job ha) rfl rfl (Nat.le_of_ble_eq_true rfl) (by decide) (s_isNeeding (k := b) hW ha) (fun v h1 h9 => ?_)
          obtain ⟨rfl, e9⟩ := h9
          have e9 := e9.symm
          subst e9
          refine xr_if_eq (tgt := 43) d_S_needs_38 rfl (fun c38 => ?_) (fun c38 => ?_)
          · have w : o_needs c (nI a) (nI b) = (kw c 3 a (kF c 3 a ||| ((1 : Int32) <<< (nI b &&& 31))), 1) := by
              unfold o_needs
              rw [hna, hnb, if_pos ⟨hq0, c8, c13, ki_nle.mpr c21, kbi_0.mp c38⟩]
            refine xr_aload_n d_S_needs_43 rfl ?_
            refine xr_dup d_S_needs_44 rfl ?_
            refine xr_getf d_S_needs_45 xf_4_50 (hW.job ha) rfl ?_
            refine xr_iconst (v := 1) d_S_needs_48 rfl ?_
            refine xr_iload_n d_S_needs_49 rfl ?_
            refine xr_ishl d_S_needs_50 ?_
            refine xr_ior d_S_needs_51 ?_
            refine kr_pneed hW ha d_S_needs_52 xf_4_50 (fun h1 hW he => ?_)
            refine xr_iconst (v := 1) d_S_needs_55 rfl ?_
            refine xr_ireturn d_S_needs_56 rfl rfl rfl ?_
            rw [w]
            exact ⟨_, rfl, rfl, kQ.of hW (hI.needs hb ha (fun k q1 q2 q3 => (k_bit_or _ _ q2 q3).elim (hI.2.2.2.2.2.2.2.1 a k q1 q2) (fun z => by have := k_bit_1 b (by omega) k q2 z; omega))) (h8.other (by decide) (by decide) (by decide)) he⟩
          · have w : o_needs c (nI a) (nI b) = (c, 0) := by
              unfold o_needs
              rw [hna, hnb, if_neg (fun q => q.2.2.2.2 (kbi_n0 c38))]
            refine xr_iconst (v := 0) d_S_needs_41 rfl ?_
            refine xr_ireturn d_S_needs_42 rfl rfl rfl ?_
            rw [w]
            exact ⟨_, rfl, rfl, kQ.of hW hI h8 rfl⟩
        · have w : o_needs c a b = (c, 0) := if_neg (fun q => q.2.2.2.1 (ki_nlt.mp c21))
          refine xr_iconst (v := 0) d_S_needs_24 rfl ?_
          refine xr_ireturn d_S_needs_25 rfl rfl rfl ?_
          rw [w]
          exact ⟨_, rfl, rfl, kQ.of hW hI h8 rfl⟩
