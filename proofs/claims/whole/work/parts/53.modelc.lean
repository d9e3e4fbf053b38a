/-! the reference's calls, on -/
theorem m_needs {g : xm_G} {h : xm_H} {c m : kS} {R : Nat → Option Nat} {A : kA} (hW : kW c R m A h) (hB : kMb m) {a b : Int32} : xm_S g 1 m_M_needs (xm_entry m_M_needs [.ref (A 6 0), .int a, .int b]) h (xq_i fun v h' => v = (o_needs m a b).2 ∧ kW c R (o_needs m a b).1 A h' ∧ h'.2 = h.2) := by
  show xm_S g 1 m_M_needs (0, [some (.ref (A 6 0)), some (.int a), some (.int b)], []) h _
  refine xr_aload_n d_M_needs_0 rfl ?_
  refine xr_iconst (v := 0) d_M_needs_1 rfl ?_
  refine kr_pm (m' := m) hW d_M_needs_2 xf_5_75 (by decide) rfl rfl (fun h1 hW he0 => ?_)
  refine xr_aload_n d_M_needs_5 rfl ?_
  refine xr_iload_n d_M_needs_6 rfl ?_
  refine xr_V1i d_M_needs_7 xv_5_87 hW.ref rfl rfl (Nat.le_of_ble_eq_true rfl) (by decide) (q_isJob hW) (fun v h2 h9 => ?_)
  obtain ⟨rfl, e9⟩ := h9
  have e9 := e9.symm
  subst e9
  refine xr_if_eq (tgt := 43) d_M_needs_10 rfl (fun c10 => ?_) (fun c10 => ?_)
  · have w : o_needs m a b = (m, 0) := if_neg (fun q => kbi_0.mp c10 ⟨fun z => q.2.2.1 (by have e := q.2.1; simp only [Int32.lt_iff_toInt_lt, Int32.le_iff_toInt_le, ti_0] at *; omega), q.2.2.2.1⟩)
    refine xr_iconst (v := 0) d_M_needs_43 rfl ?_
    refine xr_ireturn d_M_needs_44 rfl rfl rfl ?_
    rw [w]
    exact ⟨_, rfl, rfl, hW, he0⟩
  · have hin := kbi_n0 c10
    obtain ⟨a, ha, rfl⟩ := k_in_ex (by omega) hin
    have hna : k_n (nI a) = a := nI_clamp (by omega)
    refine xr_iload_n d_M_needs_13 rfl ?_
    refine xr_if_lt (tgt := 43) d_M_needs_14 rfl (fun c14 => ?_) (fun c14 => ?_)
    · have w : o_needs m (nI a) b = (m, 0) := if_neg (fun q => q.2.1 c14)
      refine xr_iconst (v := 0) d_M_needs_43 rfl ?_
      refine xr_ireturn d_M_needs_44 rfl rfl rfl ?_
      rw [w]
      exact ⟨_, rfl, rfl, hW, he0⟩
    · refine xr_iload_n d_M_needs_17 rfl ?_
      refine xr_iload_n d_M_needs_18 rfl ?_
      refine xr_icmp_ge (tgt := 43) d_M_needs_19 rfl (fun c19 => ?_) (fun c19 => ?_)
      · have w : o_needs m (nI a) b = (m, 0) := if_neg (fun q => q.2.2.1 c19)
        refine xr_iconst (v := 0) d_M_needs_43 rfl ?_
        refine xr_ireturn d_M_needs_44 rfl rfl rfl ?_
        rw [w]
        exact ⟨_, rfl, rfl, hW, he0⟩
      · obtain ⟨b, hb, rfl⟩ := k_in_ex (v := b) (n := a) (by omega) ⟨c14, c19⟩
        have hnb : k_n (nI b) = b := nI_clamp (by omega)
        refine xr_aload_n d_M_needs_22 rfl ?_
        refine xr_getf d_M_needs_23 xf_5_23 hW.ref rfl ?_
        refine xr_iload_n d_M_needs_26 rfl ?_
        refine kr_ild hW (f := 3) (by decide) rfl d_M_needs_27 (n := a) rfl (show a < 12 by omega) ?_
        refine xr_iload_n d_M_needs_28 rfl ?_
        refine xr_ishr d_M_needs_29 ?_
        refine xr_iconst (v := 1) d_M_needs_30 rfl ?_
        refine xr_iand d_M_needs_31 ?_
        refine xr_iconst (v := 1) d_M_needs_32 rfl ?_
        refine xr_icmp_eq (tgt := 43) d_M_needs_33 rfl (fun c33 => ?_) (fun c33 => ?_)
        · have w : o_needs m (nI a) (nI b) = (m, 0) := by
            unfold o_needs
            rw [hna, hnb, if_neg (fun q => q.2.2.2.2 (k_bit1.mp c33))]
          refine xr_iconst (v := 0) d_M_needs_43 rfl ?_
          refine xr_ireturn d_M_needs_44 rfl rfl rfl ?_
          rw [w]
          exact ⟨_, rfl, rfl, hW, he0⟩
        · refine xr_aload_n d_M_needs_36 rfl ?_
          refine xr_getf d_M_needs_37 xf_5_81 hW.ref rfl ?_
          refine xr_if_le (tgt := 45) d_M_needs_40 rfl (fun c40 => ?_) (fun c40 => ?_)
          · have hq0 : kq m = 0 := by
              rcases Nat.eq_zero_or_pos (kq m) with q | q
              · exact q
              · exact absurd c40 (ki_nle.mpr (show (0 : Int32) < nI (kq m) from nI_lt (a := 0) q (by omega)))
            have w : o_needs m (nI a) (nI b) = (kw m 3 a (kF m 3 a ||| ((1 : Int32) <<< (nI b &&& 31))), 1) := by
              unfold o_needs
              rw [hna, hnb, if_pos ⟨hq0, c14, c19, hin.2, fun q => c33 (k_bit1.mpr q)⟩]
            refine xr_aload_n d_M_needs_45 rfl ?_
            refine xr_getf d_M_needs_46 xf_5_23 hW.ref rfl ?_
            refine xr_iload_n d_M_needs_49 rfl ?_
            refine xr_dup2 d_M_needs_50 rfl rfl ?_
            refine kr_ild hW (f := 3) (by decide) rfl d_M_needs_51 (n := a) rfl (show a < 12 by omega) ?_
            refine xr_iconst (v := 1) d_M_needs_52 rfl ?_
            refine xr_iload_n d_M_needs_53 rfl ?_
            refine xr_ishl d_M_needs_54 ?_
            refine xr_ior d_M_needs_55 ?_
            refine kr_ist hW (f := 3) (by decide) rfl d_M_needs_56 (n := a) rfl (show a < 12 by omega) (fun h9s hW he9 => ?_)
            have he1 := he9
            refine xr_iconst (v := 1) d_M_needs_57 rfl ?_
            refine xr_ireturn d_M_needs_58 rfl rfl rfl ?_
            rw [w]
            exact ⟨_, rfl, rfl, hW, he1.trans he0⟩
          · have w : o_needs m (nI a) (nI b) = (m, 0) := if_neg (fun q => by rw [q.1] at c40; exact absurd (show nI 0 ≤ 0 by decide) c40)
            refine xr_iconst (v := 0) d_M_needs_43 rfl ?_
            refine xr_ireturn d_M_needs_44 rfl rfl rfl ?_
            rw [w]
            exact ⟨_, rfl, rfl, hW, he0⟩
theorem m_approve {g : xm_G} {h : xm_H} {c m : kS} {R : Nat → Option Nat} {A : kA} (hW : kW c R m A h) (hB : kMb m) {a b p : Int32} : xm_S g 3 m_M_approve (xm_entry m_M_approve [.ref (A 6 0), .int a, .int b, .int p]) h (xq_i fun v h' => v = (o_appr m a b p).2 ∧ kW c R (o_appr m a b p).1 A h' ∧ h'.2 = h.2) := by
  show xm_S g 3 m_M_approve (0, [some (.ref (A 6 0)), some (.int a), some (.int b), some (.int p)], []) h _
  refine xr_aload_n d_M_approve_0 rfl ?_
  refine xr_iconst (v := 0) d_M_approve_1 rfl ?_
  refine kr_pm (m' := m) hW d_M_approve_2 xf_5_75 (by decide) rfl rfl (fun h1 hW he0 => ?_)
  refine xr_aload_n d_M_approve_5 rfl ?_
  refine xr_iload_n d_M_approve_6 rfl ?_
  refine xr_iload_n d_M_approve_7 rfl ?_
  refine xr_V2i d_M_approve_8 xv_5_120 hW.ref rfl rfl rfl (Nat.le_of_ble_eq_true rfl) (by decide) (q_isThere hW) (fun v h2 h9 => ?_)
  obtain ⟨rfl, e9⟩ := h9
  have e9 := e9.symm
  subst e9
  refine xr_if_eq (tgt := 50) d_M_approve_11 rfl (fun c11 => ?_) (fun c11 => ?_)
  · have w : o_appr m a b p = (m, -1) := if_neg (fun q => kbi_0.mp c11 ⟨q.1, q.2.1⟩)
    refine xr_iconst (v := -1) d_M_approve_50 rfl ?_
    refine xr_ireturn d_M_approve_51 rfl rfl rfl ?_
    rw [w]
    exact ⟨_, rfl, rfl, hW, he0⟩
  · obtain ⟨hina, hinb⟩ := kbi_n0 c11
    obtain ⟨r, hr, rfl⟩ := k_in_ex (by omega) hina
    obtain ⟨j, hj, rfl⟩ := k_in_ex (by omega) hinb
    have hnr : k_n (nI r) = r := nI_clamp (by omega)
    have hnj : k_n (nI j) = j := nI_clamp (by omega)
    refine xr_iload_n d_M_approve_14 rfl ?_
    refine xr_if_lt (tgt := 50) d_M_approve_15 rfl (fun c15 => ?_) (fun c15 => ?_)
    · have w : o_appr m (nI r) (nI j) p = (m, -1) := if_neg (fun q => q.2.2.1.1 c15)
      refine xr_iconst (v := -1) d_M_approve_50 rfl ?_
      refine xr_ireturn d_M_approve_51 rfl rfl rfl ?_
      rw [w]
      exact ⟨_, rfl, rfl, hW, he0⟩
    · refine xr_iload_n d_M_approve_18 rfl ?_
      refine xr_bipush (v := 8) d_M_approve_19 rfl ?_
      refine xr_icmp_ge (tgt := 50) d_M_approve_21 rfl (fun c21 => ?_) (fun c21 => ?_)
      · have w : o_appr m (nI r) (nI j) p = (m, -1) := if_neg (fun q => q.2.2.1.2 c21)
        refine xr_iconst (v := -1) d_M_approve_50 rfl ?_
        refine xr_ireturn d_M_approve_51 rfl rfl rfl ?_
        rw [w]
        exact ⟨_, rfl, rfl, hW, he0⟩
      · obtain ⟨p, hp, rfl⟩ := k_in_ex (v := p) (n := 8) (by decide) ⟨c15, c21⟩
        have hnp : k_n (nI p) = p := nI_clamp (by omega)
        refine xr_aload_n d_M_approve_24 rfl ?_
        refine xr_getf d_M_approve_25 xf_5_30 hW.ref rfl ?_
        refine xr_iload_n d_M_approve_28 rfl ?_
        refine kr_zld hW (f := 5) (by decide) rfl d_M_approve_29 (n := j) rfl (show j < 12 by omega) ?_
        refine xr_if_eq (tgt := 50) d_M_approve_30 rfl (fun c30 => ?_) (fun c30 => ?_)
        · have w : o_appr m (nI r) (nI j) (nI p) = (m, -1) := by
            unfold o_appr
            rw [hnr, hnj, if_neg (fun q => q.2.2.2.1 c30)]
          refine xr_iconst (v := -1) d_M_approve_50 rfl ?_
          refine xr_ireturn d_M_approve_51 rfl rfl rfl ?_
          rw [w]
          exact ⟨_, rfl, rfl, hW, he0⟩
        · refine xr_aload_n d_M_approve_33 rfl ?_
          refine xr_getf d_M_approve_34 xf_5_42 hW.ref rfl ?_
          refine xr_bipush (v := 12) d_M_approve_37 rfl ?_
          refine xr_iload_n d_M_approve_39 rfl ?_
          refine xr_imul d_M_approve_40 ?_
          refine xr_iload_n d_M_approve_41 rfl ?_
          refine xr_iadd d_M_approve_42 ?_
          refine kr_ild hW (f := 9) (by decide) rfl d_M_approve_43 (n := 12 * r + j) kx_i (show 12 * r + j < 120 by omega) ?_
          refine xr_S1i d_M_approve_44 xs_5_94 rfl rfl (Nat.le_of_ble_eq_true rfl) (by decide) q_isEnd (fun v h1 h9 => ?_)
          obtain ⟨rfl, e9⟩ := h9
          have e9 := e9.symm
          subst e9
          refine xr_if_eq (tgt := 52) d_M_approve_47 rfl (fun c47 => ?_) (fun c47 => ?_)
          · have w0 : o_appr m (nI r) (nI j) (nI p) = (if kF m 6 r = nI p then (m, -2) else if k_bit (kF m 16 (12 * r + j)) p then (m, 0) else (k_settle (kw m 16 (12 * r + j) (kF m 16 (12 * r + j) ||| ((1 : Int32) <<< (nI p &&& 31)))), 1)) := by
              unfold o_appr
              rw [hnr, hnj, hnp, if_pos ⟨hina, hinb, ⟨c15, c21⟩, c30, kbi_0.mp c47⟩]
            refine xr_aload_n d_M_approve_52 rfl ?_
            refine xr_getf d_M_approve_53 xf_5_33 hW.ref rfl ?_
            refine xr_iload_n d_M_approve_56 rfl ?_
            refine kr_ild hW (f := 6) (by decide) rfl d_M_approve_57 (n := r) rfl (show r < 10 by omega) ?_
            refine xr_iload_n d_M_approve_58 rfl ?_
            refine xr_icmp_ne (tgt := 65) d_M_approve_59 rfl (fun c59 => ?_) (fun c59 => ?_)
            · have w1 := w0.trans (if_neg c59)
              refine xr_aload_n d_M_approve_65 rfl ?_
              refine xr_getf d_M_approve_66 xf_5_63 hW.ref rfl ?_
              refine xr_bipush (v := 12) d_M_approve_69 rfl ?_
              refine xr_iload_n d_M_approve_71 rfl ?_
              refine xr_imul d_M_approve_72 ?_
              refine xr_iload_n d_M_approve_73 rfl ?_
              refine xr_iadd d_M_approve_74 ?_
              refine kr_ild hW (f := 16) (by decide) rfl d_M_approve_75 (n := 12 * r + j) kx_i (show 12 * r + j < 120 by omega) ?_
              refine xr_iload_n d_M_approve_76 rfl ?_
              refine xr_ishr d_M_approve_77 ?_
              refine xr_iconst (v := 1) d_M_approve_78 rfl ?_
              refine xr_iand d_M_approve_79 ?_
              refine xr_iconst (v := 1) d_M_approve_80 rfl ?_
              refine xr_icmp_ne (tgt := 86) d_M_approve_81 rfl (fun c81 => ?_) (fun c81 => ?_)
              · have w := w1.trans (if_neg (fun q => c81 (k_bit1.mpr q)))
                refine xr_aload_n d_M_approve_86 rfl ?_
                refine xr_getf d_M_approve_87 xf_5_63 hW.ref rfl ?_
                refine xr_bipush (v := 12) d_M_approve_90 rfl ?_
                refine xr_iload_n d_M_approve_92 rfl ?_
                refine xr_imul d_M_approve_93 ?_
                refine xr_iload_n d_M_approve_94 rfl ?_
                refine xr_iadd d_M_approve_95 ?_
                refine xr_dup2 d_M_approve_96 rfl rfl ?_
                refine kr_ild hW (f := 16) (by decide) rfl d_M_approve_97 (n := 12 * r + j) kx_i (show 12 * r + j < 120 by omega) ?_
                refine xr_iconst (v := 1) d_M_approve_98 rfl ?_
                refine xr_iload_n d_M_approve_99 rfl ?_
                refine xr_ishl d_M_approve_100 ?_
                refine xr_ior d_M_approve_101 ?_
                refine kr_ist hW (f := 16) (by decide) rfl d_M_approve_102 (n := 12 * r + j) kx_i (show 12 * r + j < 120 by omega) (fun h9s hW he9 => ?_)
                have he1 := he9
                refine xr_aload_n d_M_approve_103 rfl ?_
                refine xr_V0v d_M_approve_104 xv_5_114 hW.ref rfl (Nat.le_of_ble_eq_true rfl) (by decide) (q_settle hW hB) (fun h9s h9 => ?_)
                obtain ⟨hW, he2⟩ := h9
                refine xr_iconst (v := 1) d_M_approve_107 rfl ?_
                refine xr_ireturn d_M_approve_108 rfl rfl rfl ?_
                rw [w]
                exact ⟨_, rfl, rfl, hW, he2.trans (he1.trans he0)⟩
              · have w := w1.trans (if_pos (k_bit1.mp c81))
                refine xr_iconst (v := 0) d_M_approve_84 rfl ?_
                refine xr_ireturn d_M_approve_85 rfl rfl rfl ?_
                rw [w]
                exact ⟨_, rfl, rfl, hW, he0⟩
            · have w := w0.trans (if_pos c59)
              refine xr_bipush (v := -2) d_M_approve_62 rfl ?_
              refine xr_ireturn d_M_approve_64 rfl rfl rfl ?_
              rw [w]
              exact ⟨_, rfl, rfl, hW, he0⟩
          · have w : o_appr m (nI r) (nI j) (nI p) = (m, -1) := by
              unfold o_appr
              rw [hnr, hnj, if_neg (fun q => q.2.2.2.2 (kbi_n0 c47))]
            refine xr_iconst (v := -1) d_M_approve_50 rfl ?_
            refine xr_ireturn d_M_approve_51 rfl rfl rfl ?_
            rw [w]
            exact ⟨_, rfl, rfl, hW, he0⟩
theorem ql_about {g : xm_G} {h h0 : xm_H} {c m : kS} {R : Nat → Option Nat} {A : kA} (hW : kW c R m A h) (he : h.2 = h0.2) (hB : kMb m) {r j : Nat} {w : Int32} (hr : r < 10) (hj : j < kj m) : ∀ (n : Nat) (i : Nat), i ≤ j → j < i + n → xm_S g 1 m_M_about (30, [some (.ref (A 6 0)), some (.int (nI r)), some (.int (nI j)), some (.int w), some (.int (nI (12 * r + j))), some (.int (k_art m r j i)), some (.int (nI i))], []) h (xq_i fun v h' => v = k_abt m r j w ∧ kW c R m A h' ∧ h'.2 = h0.2) := by
  intro n
  induction n with
  | zero => intros; omega
  | succ n ih =>
    intro i h1 h2
    refine xr_iload d_M_about_30 rfl ?_
    refine xr_iload_n d_M_about_32 rfl ?_
    refine xr_icmp_ge (tgt := 78) d_M_about_33 rfl (fun c33 => ?_) (fun c33 => ?_)
    · have hie : i = j := by have := k_ge_ge (by omega) c33; omega
      subst hie
      refine xr_iload_n d_M_about_78 rfl ?_
      refine xr_if_ne (tgt := 91) d_M_about_79 rfl (fun c79 => ?_) (fun c79 => ?_)
      · refine xr_iload_n d_M_about_91 rfl ?_
        refine xr_iconst (v := 1) d_M_about_92 rfl ?_
        refine xr_icmp_ne (tgt := 106) d_M_about_93 rfl (fun c93 => ?_) (fun c93 => ?_)
        · refine xr_iload_n d_M_about_106 rfl ?_
          refine xr_iconst (v := 2) d_M_about_107 rfl ?_
          refine xr_icmp_ne (tgt := 121) d_M_about_108 rfl (fun c108 => ?_) (fun c108 => ?_)
          · refine xr_iload_n d_M_about_121 rfl ?_
            refine xr_iconst (v := 3) d_M_about_122 rfl ?_
            refine xr_icmp_ne (tgt := 136) d_M_about_123 rfl (fun c123 => ?_) (fun c123 => ?_)
            · refine xr_iload_n d_M_about_136 rfl ?_
              refine xr_iconst (v := 4) d_M_about_137 rfl ?_
              refine xr_icmp_ne (tgt := 146) d_M_about_138 rfl (fun c138 => ?_) (fun c138 => ?_)
              · have w9 : k_abt m r i w = 0 := by rw [k_abt, if_neg c79, if_neg c93, if_neg c108, if_neg c123, if_neg c138]
                refine xr_iconst (v := 0) d_M_about_146 rfl ?_
                refine xr_ireturn d_M_about_147 rfl rfl rfl ?_
                exact ⟨_, rfl, w9.symm, hW, he⟩
              · have w9 : k_abt m r i w = k_art m r i i := by rw [k_abt, if_neg c79, if_neg c93, if_neg c108, if_neg c123, if_pos c138]
                refine xr_iload d_M_about_141 rfl ?_
                refine xr_goto (tgt := 147) d_M_about_143 rfl ?_
                refine xr_ireturn d_M_about_147 rfl rfl rfl ?_
                exact ⟨_, rfl, w9.symm, hW, he⟩
            · have w9 : k_abt m r i w = kF m 15 (12 * r + i) := by rw [k_abt, if_neg c79, if_neg c93, if_neg c108, if_pos c123]
              refine xr_aload_n d_M_about_126 rfl ?_
              refine xr_getf d_M_about_127 xf_5_60 hW.ref rfl ?_
              refine xr_iload d_M_about_130 rfl ?_
              refine kr_ild hW (f := 15) (by decide) rfl d_M_about_132 (n := 12 * r + i) rfl (show 12 * r + i < 120 by omega) ?_
              refine xr_goto (tgt := 147) d_M_about_133 rfl ?_
              refine xr_ireturn d_M_about_147 rfl rfl rfl ?_
              exact ⟨_, rfl, w9.symm, hW, he⟩
          · have w9 : k_abt m r i w = kF m 13 (12 * r + i) := by rw [k_abt, if_neg c79, if_neg c93, if_pos c108]
            refine xr_aload_n d_M_about_111 rfl ?_
            refine xr_getf d_M_about_112 xf_5_54 hW.ref rfl ?_
            refine xr_iload d_M_about_115 rfl ?_
            refine kr_ild hW (f := 13) (by decide) rfl d_M_about_117 (n := 12 * r + i) rfl (show 12 * r + i < 120 by omega) ?_
            refine xr_goto (tgt := 147) d_M_about_118 rfl ?_
            refine xr_ireturn d_M_about_147 rfl rfl rfl ?_
            exact ⟨_, rfl, w9.symm, hW, he⟩
        · have w9 : k_abt m r i w = kF m 11 (12 * r + i) := by rw [k_abt, if_neg c79, if_pos c93]
          refine xr_aload_n d_M_about_96 rfl ?_
          refine xr_getf d_M_about_97 xf_5_48 hW.ref rfl ?_
          refine xr_iload d_M_about_100 rfl ?_
          refine kr_ild hW (f := 11) (by decide) rfl d_M_about_102 (n := 12 * r + i) rfl (show 12 * r + i < 120 by omega) ?_
          refine xr_goto (tgt := 147) d_M_about_103 rfl ?_
          refine xr_ireturn d_M_about_147 rfl rfl rfl ?_
          exact ⟨_, rfl, w9.symm, hW, he⟩
      · have w9 : k_abt m r i w = k_rof m (12 * r + i) := if_pos c79
        refine xr_aload_n d_M_about_82 rfl ?_
        refine xr_iload d_M_about_83 rfl ?_
        refine xr_V1i d_M_about_85 xv_5_134 hW.ref rfl rfl (Nat.le_of_ble_eq_true rfl) (by decide) (q_runnerOf hW hB) (fun v h2 h9 => ?_)
        obtain ⟨rfl, e9⟩ := h9
        have e9 := e9.symm
        subst e9
        refine xr_goto (tgt := 147) d_M_about_88 rfl ?_
        refine xr_ireturn d_M_about_147 rfl rfl rfl ?_
        exact ⟨_, rfl, w9.symm, hW, he⟩
    · have hil : i < j := k_ge_lt (by omega) (by omega) c33
      have hk : k_art m r j (i + 1) = if k_bit (kF m 3 j) i then k_art m r j i ^^^ kF m 15 (12 * r + i) else k_art m r j i := rfl
      refine xr_iload d_M_about_36 rfl ?_
      refine xr_aload_n d_M_about_38 rfl ?_
      refine xr_getf d_M_about_39 xf_5_23 hW.ref rfl ?_
      refine xr_iload_n d_M_about_42 rfl ?_
      refine kr_ild hW (f := 3) (by decide) rfl d_M_about_43 (n := j) rfl (show j < 12 by omega) ?_
      refine xr_iload d_M_about_44 rfl ?_
      refine xr_ishr d_M_about_46 ?_
      refine xr_iconst (v := 1) d_M_about_47 rfl ?_
      refine xr_iand d_M_about_48 ?_
      refine xr_iconst (v := 1) d_M_about_49 rfl ?_
      refine xr_icmp_ne (tgt := 68) d_M_about_50 rfl (fun c50 => ?_) (fun c50 => ?_)
      · have hnx : k_art m r j (i + 1) = k_art m r j i ^^^ 0 := (hk.trans (if_neg (fun q => c50 (k_bit1.mpr q)))).trans (by simp)
        refine xr_iconst (v := 0) d_M_about_68 rfl ?_
        refine xr_ixor d_M_about_69 ?_
        refine xr_istore d_M_about_70 (Nat.le_of_ble_eq_true rfl) ?_
        refine xr_iinc1 d_M_about_72 rfl ?_
        refine xr_goto (tgt := 30) d_M_about_75 rfl ?_
        rw [nI_1, ← hnx]
        exact ih (i + 1) (by omega) (by omega)
      · have hnx := hk.trans (if_pos (k_bit1.mp c50))
        refine xr_aload_n d_M_about_53 rfl ?_
        refine xr_getf d_M_about_54 xf_5_60 hW.ref rfl ?_
        refine xr_bipush (v := 12) d_M_about_57 rfl ?_
        refine xr_iload_n d_M_about_59 rfl ?_
        refine xr_imul d_M_about_60 ?_
        refine xr_iload d_M_about_61 rfl ?_
        refine xr_iadd d_M_about_63 ?_
        refine kr_ild hW (f := 15) (by decide) rfl d_M_about_64 (n := 12 * r + i) kx_i (show 12 * r + i < 120 by omega) ?_
        refine xr_goto (tgt := 69) d_M_about_65 rfl ?_
        refine xr_ixor d_M_about_69 ?_
        refine xr_istore d_M_about_70 (Nat.le_of_ble_eq_true rfl) ?_
        refine xr_iinc1 d_M_about_72 rfl ?_
        refine xr_goto (tgt := 30) d_M_about_75 rfl ?_
        rw [nI_1, ← hnx]
        exact ih (i + 1) (by omega) (by omega)
theorem m_about {g : xm_G} {h : xm_H} {c m : kS} {R : Nat → Option Nat} {A : kA} (hW : kW c R m A h) (hB : kMb m) {a b w : Int32} : xm_S g 2 m_M_about (xm_entry m_M_about [.ref (A 6 0), .int a, .int b, .int w]) h (xq_i fun v h' => v = k_about m a b w ∧ kW c R m A h' ∧ h'.2 = h.2) := by
  show xm_S g 2 m_M_about (0, [some (.ref (A 6 0)), some (.int a), some (.int b), some (.int w), none, none, none], []) h _
  refine xr_aload_n d_M_about_0 rfl ?_
  refine xr_iconst (v := 0) d_M_about_1 rfl ?_
  refine kr_pm (m' := m) hW d_M_about_2 xf_5_75 (by decide) rfl rfl (fun h1 hW he0 => ?_)
  refine xr_aload_n d_M_about_5 rfl ?_
  refine xr_iload_n d_M_about_6 rfl ?_
  refine xr_iload_n d_M_about_7 rfl ?_
  refine xr_V2i d_M_about_8 xv_5_120 hW.ref rfl rfl rfl (Nat.le_of_ble_eq_true rfl) (by decide) (q_isThere hW) (fun v h2 h9 => ?_)
  obtain ⟨rfl, e9⟩ := h9
  have e9 := e9.symm
  subst e9
  refine xr_if_ne (tgt := 16) d_M_about_11 rfl (fun c11 => ?_) (fun c11 => ?_)
  · obtain ⟨hina, hinb⟩ := kbi_n0 c11
    obtain ⟨r, hr, rfl⟩ := k_in_ex (by omega) hina
    obtain ⟨j, hj, rfl⟩ := k_in_ex (by omega) hinb
    have hnr : k_n (nI r) = r := nI_clamp (by omega)
    have hnj : k_n (nI j) = j := nI_clamp (by omega)
    have w9 : k_about m (nI r) (nI j) w = k_abt m r j w := by unfold k_about; rw [if_pos ⟨hina, hinb⟩, hnr, hnj]
    refine xr_bipush (v := 12) d_M_about_16 rfl ?_
    refine xr_iload_n d_M_about_18 rfl ?_
    refine xr_imul d_M_about_19 ?_
    refine xr_iload_n d_M_about_20 rfl ?_
    refine xr_iadd d_M_about_21 ?_
    rw [kx_i]
    refine xr_istore d_M_about_22 (Nat.le_of_ble_eq_true rfl) ?_
    refine xr_iconst (v := 0) d_M_about_24 rfl ?_
    refine xr_istore d_M_about_25 (Nat.le_of_ble_eq_true rfl) ?_
    refine xr_iconst (v := 0) d_M_about_27 rfl ?_
    refine xr_istore d_M_about_28 (Nat.le_of_ble_eq_true rfl) ?_
    rw [w9]
    exact (ql_about (h0 := h) hW he0 hB (by omega) hj (j + 1) 0 (by omega) (by omega)).up (by decide)
  · have w9 : k_about m a b w = -1 := if_neg (kbi_0.mp c11)
    refine xr_iconst (v := -1) d_M_about_14 rfl ?_
    refine xr_ireturn d_M_about_15 rfl rfl rfl ?_
    exact ⟨_, rfl, w9.symm, hW, he0⟩
theorem k_done_c {s : kS} {R : Nat → Option Nat} (h : kI s R) {x u : Nat} {v : Int32} (hx : x < 2 ^ 31) (hu : u < kr s) (e : kF s 19 u = nI x) : kw (kw (kw s 9 x 3) 15 x v) 19 u (-1) = k_done s x v := by
  have hR := h.inj hx hu e
  refine kS_ext rfl rfl (fun f i => ?_)
  unfold k_done
  simp only [kw_F, k_free_F]
  by_cases a : f = 19
  · subst a
    by_cases b : i = u
    · subst b; simp [hu, e]
    · have : ¬ (i < kr s ∧ kF s 19 i = nI x) := fun q => b (Option.some.inj ((h.inj hx q.1 q.2).symm.trans hR))
      simp [b, this]
  · by_cases b : f = 15
    · subst b; simp
    · simp [a, b]
theorem m_end {g : xm_G} {h : xm_H} {c m : kS} {R : Nat → Option Nat} {A : kA} (hW : kW c R m A h) (hB : kMb m) {R0 : Nat → Option Nat} (hI : kI m R0) {a b v : Int32} : xm_S g 3 m_M_end (xm_entry m_M_end [.ref (A 6 0), .int a, .int b, .int v]) h (xq_i fun r9 h' => r9 = (o_end m a b v).2 ∧ kW c R (o_end m a b v).1 A h' ∧ h'.2 = h.2) := by
  show xm_S g 3 m_M_end (0, [some (.ref (A 6 0)), some (.int a), some (.int b), some (.int v), none], []) h _
  refine xr_aload_n d_M_end_0 rfl ?_
  refine xr_iconst (v := 0) d_M_end_1 rfl ?_
  refine kr_pm (m' := m) hW d_M_end_2 xf_5_75 (by decide) rfl rfl (fun h1 hW he0 => ?_)
  refine xr_aload_n d_M_end_5 rfl ?_
  refine xr_iload_n d_M_end_6 rfl ?_
  refine xr_V1i d_M_end_7 xv_5_124 hW.ref rfl rfl (Nat.le_of_ble_eq_true rfl) (by decide) (q_isRunner hW) (fun v h2 h9 => ?_)
  obtain ⟨rfl, e9⟩ := h9
  have e9 := e9.symm
  subst e9
  refine xr_if_eq (tgt := 23) d_M_end_10 rfl (fun c10 => ?_) (fun c10 => ?_)
  · have w : o_end m a b v = (m, 0) := if_neg (fun q => kbi_0.mp c10 q.1)
    refine xr_iconst (v := 0) d_M_end_23 rfl ?_
    refine xr_ireturn d_M_end_24 rfl rfl rfl ?_
    rw [w]
    exact ⟨_, rfl, rfl, hW, he0⟩
  · have hin := kbi_n0 c10
    obtain ⟨u, hu, rfl⟩ := k_in_ex (by omega) (kbi_n0 c10)
    have hnu : k_n (nI u) = u := nI_clamp (by omega)
    refine xr_aload_n d_M_end_13 rfl ?_
    refine xr_getf d_M_end_14 xf_5_72 hW.ref rfl ?_
    refine xr_iload_n d_M_end_17 rfl ?_
    refine kr_ild hW (f := 19) (by decide) rfl d_M_end_18 (n := u) rfl (show u < 6 by omega) ?_
    refine xr_iconst (v := -1) d_M_end_19 rfl ?_
    refine xr_icmp_ne (tgt := 25) d_M_end_20 rfl (fun c20 => ?_) (fun c20 => ?_)
    · have hx2 : ∃ x, kF m 19 u = nI x ∧ x < 120 := by
        rcases hI.2.2.1 u hu with q | ⟨x, q⟩
        · exact absurd q c20
        · exact ⟨x, (hI.2.1 x u q).2.2, hI.x120 (hI.2.1 x u q).1⟩
      obtain ⟨x, ex, hx⟩ := hx2
      have hnx : k_n (nI x) = x := nI_clamp (by omega)
      have w0 : o_end m (nI u) b v = (k_settle (if ¬ b = 0 then k_done m x v else k_fail m x), 1) := by
        unfold o_end
        rw [hnu, if_pos ⟨hin, c20⟩, ex, hnx]
      refine xr_aload_n d_M_end_25 rfl ?_
      refine xr_getf d_M_end_26 xf_5_72 hW.ref rfl ?_
      refine xr_iload_n d_M_end_29 rfl ?_
      refine kr_ild hW (f := 19) (by decide) rfl d_M_end_30 (n := u) rfl (show u < 6 by omega) ?_
      rw [ex]
      refine xr_istore d_M_end_31 (Nat.le_of_ble_eq_true rfl) ?_
      refine xr_iload_n d_M_end_33 rfl ?_
      refine xr_if_eq (tgt := 63) d_M_end_34 rfl (fun c34 => ?_) (fun c34 => ?_)
      · have w := w0.trans (by rw [if_neg (fun q => q c34)])
        refine xr_aload_n d_M_end_63 rfl ?_
        refine xr_iload d_M_end_64 rfl ?_
        refine xr_V1v d_M_end_66 xv_5_131 hW.ref rfl rfl (Nat.le_of_ble_eq_true rfl) (by decide) (q_failTry hW hB hx) (fun h9s h9 => ?_)
        obtain ⟨hW, he3⟩ := h9
        have hB2 : kMb (k_fail m x) := hB
        refine xr_aload_n d_M_end_69 rfl ?_
        refine xr_V0v d_M_end_70 xv_5_114 hW.ref rfl (Nat.le_of_ble_eq_true rfl) (by decide) (q_settle hW hB2) (fun h9s h9 => ?_)
        obtain ⟨hW, he4⟩ := h9
        refine xr_iconst (v := 1) d_M_end_73 rfl ?_
        refine xr_ireturn d_M_end_74 rfl rfl rfl ?_
        rw [w]
        exact ⟨_, rfl, rfl, hW, he4.trans (he3.trans he0)⟩
      · have w := w0.trans (by rw [if_pos c34])
        refine xr_aload_n d_M_end_37 rfl ?_
        refine xr_getf d_M_end_38 xf_5_42 hW.ref rfl ?_
        refine xr_iload d_M_end_41 rfl ?_
        refine xr_iconst (v := 3) d_M_end_43 rfl ?_
        refine kr_ist hW (f := 9) (by decide) rfl d_M_end_44 (n := x) rfl (show x < 120 from hx) (fun h9s hW he9 => ?_)
        have he1 := he9
        refine xr_aload_n d_M_end_45 rfl ?_
        refine xr_getf d_M_end_46 xf_5_60 hW.ref rfl ?_
        refine xr_iload d_M_end_49 rfl ?_
        refine xr_iload_n d_M_end_51 rfl ?_
        refine kr_ist hW (f := 15) (by decide) rfl d_M_end_52 (n := x) rfl (show x < 120 from hx) (fun h9s hW he9 => ?_)
        have he2 := he9
        refine xr_aload_n d_M_end_53 rfl ?_
        refine xr_getf d_M_end_54 xf_5_72 hW.ref rfl ?_
        refine xr_iload_n d_M_end_57 rfl ?_
        refine xr_iconst (v := -1) d_M_end_58 rfl ?_
        refine kr_ist hW (f := 19) (by decide) rfl d_M_end_59 (n := u) rfl (show u < 6 by omega) (fun h9s hW he9 => ?_)
        have he3 := he9.trans (he2.trans he1)
        rw [k_done_c hI (by omega) hu ex] at hW
        have hB2 : kMb (k_done m x v) := hB
        refine xr_goto (tgt := 69) d_M_end_60 rfl ?_
        refine xr_aload_n d_M_end_69 rfl ?_
        refine xr_V0v d_M_end_70 xv_5_114 hW.ref rfl (Nat.le_of_ble_eq_true rfl) (by decide) (q_settle hW hB2) (fun h9s h9 => ?_)
        obtain ⟨hW, he4⟩ := h9
        refine xr_iconst (v := 1) d_M_end_73 rfl ?_
        refine xr_ireturn d_M_end_74 rfl rfl rfl ?_
        rw [w]
        exact ⟨_, rfl, rfl, hW, he4.trans (he3.trans he0)⟩
    · have w : o_end m (nI u) b v = (m, 0) := by
        unfold o_end
        rw [hnu, if_neg (fun q => q.2 c20)]
      refine xr_iconst (v := 0) d_M_end_23 rfl ?_
      refine xr_ireturn d_M_end_24 rfl rfl rfl ?_
      rw [w]
      exact ⟨_, rfl, rfl, hW, he0⟩
theorem m_job {g : xm_G} {h : xm_H} {c m : kS} {R : Nat → Option Nat} {A : kA} (hW : kW c R m A h) (hB : kMb m) {l li re al ap : Int32} (g1 : al = 0 ∨ al = 1) (g2 : ap = 0 ∨ ap = 1) : xm_S g 0 m_M_job (xm_entry m_M_job [.ref (A 6 0), .int l, .int li, .int re, .int al, .int ap]) h (xq_i fun v h' => v = (o_job m l li re al ap).2 ∧ kW c R (o_job m l li re al ap).1 A h' ∧ h'.2 = h.2) := by
  show xm_S g 0 m_M_job (0, [some (.ref (A 6 0)), some (.int l), some (.int li), some (.int re), some (.int al), some (.int ap)], []) h _
  refine xr_aload_n d_M_job_0 rfl ?_
  refine xr_iconst (v := 0) d_M_job_1 rfl ?_
  refine kr_pm (m' := m) hW d_M_job_2 xf_5_75 (by decide) rfl rfl (fun h1 hW he0 => ?_)
  refine xr_aload_n d_M_job_5 rfl ?_
  refine xr_getf d_M_job_6 xf_5_78 hW.ref rfl ?_
  refine xr_bipush (v := 12) d_M_job_9 rfl ?_
  refine xr_icmp_eq (tgt := 34) d_M_job_11 rfl (fun c11 => ?_) (fun c11 => ?_)
  · have w : o_job m l li re al ap = (m, -1) := if_pos (Or.inl ((nI_eq (b := 12) (by omega) (by decide)).mp c11))
    refine xr_iconst (v := -1) d_M_job_34 rfl ?_
    refine xr_ireturn d_M_job_35 rfl rfl rfl ?_
    rw [w]
    exact ⟨_, rfl, rfl, hW, he0⟩
  · have h12 : kj m < 12 := by
      rcases Nat.lt_or_ge (kj m) 12 with q | q
      · exact q
      · exact absurd (show nI (kj m) = nI 12 by rw [show kj m = 12 by omega]) c11
    refine xr_aload_n d_M_job_14 rfl ?_
    refine xr_getf d_M_job_15 xf_5_81 hW.ref rfl ?_
    refine xr_if_gt (tgt := 34) d_M_job_18 rfl (fun c18 => ?_) (fun c18 => ?_)
    · have w : o_job m l li re al ap = (m, -1) := if_pos (Or.inr (Or.inl (fun q => by rw [q] at c18; exact absurd c18 (by decide))))
      refine xr_iconst (v := -1) d_M_job_34 rfl ?_
      refine xr_ireturn d_M_job_35 rfl rfl rfl ?_
      rw [w]
      exact ⟨_, rfl, rfl, hW, he0⟩
    · have hq0 : kq m = 0 := by
        rcases Nat.eq_zero_or_pos (kq m) with q | q
        · exact q
        · exact absurd (show (0 : Int32) < nI (kq m) from nI_lt (a := 0) q (by omega)) c18
      refine xr_iload_n d_M_job_21 rfl ?_
      refine xr_if_lt (tgt := 34) d_M_job_22 rfl (fun c22 => ?_) (fun c22 => ?_)
      · have w : o_job m l li re al ap = (m, -1) := if_pos (Or.inr (Or.inr (Or.inl c22)))
        refine xr_iconst (v := -1) d_M_job_34 rfl ?_
        refine xr_ireturn d_M_job_35 rfl rfl rfl ?_
        rw [w]
        exact ⟨_, rfl, rfl, hW, he0⟩
      · refine xr_iload_n d_M_job_25 rfl ?_
        refine xr_if_lt (tgt := 34) d_M_job_26 rfl (fun c26 => ?_) (fun c26 => ?_)
        · have w : o_job m l li re al ap = (m, -1) := if_pos (Or.inr (Or.inr (Or.inr (Or.inl c26))))
          refine xr_iconst (v := -1) d_M_job_34 rfl ?_
          refine xr_ireturn d_M_job_35 rfl rfl rfl ?_
          rw [w]
          exact ⟨_, rfl, rfl, hW, he0⟩
        · refine xr_iload_n d_M_job_29 rfl ?_
          refine xr_iconst (v := 3) d_M_job_30 rfl ?_
          refine xr_icmp_le (tgt := 36) d_M_job_31 rfl (fun c31 => ?_) (fun c31 => ?_)
          · have w : o_job m l li re al ap = (k_addJ m (l &&& 255) li re al ap, nI (kj m)) := if_neg (by
              rintro (q | q | q | q | q)
              · omega
              · exact q hq0
              · exact c22 q
              · exact c26 q
              · exact ki_nlt.mpr c31 q)
            refine xr_aload_n d_M_job_36 rfl ?_
            refine xr_getf d_M_job_37 xf_5_13 hW.ref rfl ?_
            refine xr_aload_n d_M_job_40 rfl ?_
            refine xr_getf d_M_job_41 xf_5_78 hW.ref rfl ?_
            refine xr_iload_n d_M_job_44 rfl ?_
            refine xr_sipush (v := 255) d_M_job_45 rfl ?_
            refine xr_iand d_M_job_48 ?_
            refine kr_ist hW (f := 0) (by decide) rfl d_M_job_49 (n := kj m) rfl (show kj m < 12 from h12) (fun h9s hW he9 => ?_)
            have he1 := he9
            refine xr_aload_n d_M_job_50 rfl ?_
            refine xr_getf d_M_job_51 xf_5_17 hW.ref rfl ?_
            refine xr_aload_n d_M_job_54 rfl ?_
            refine xr_getf d_M_job_55 xf_5_78 hW.ref rfl ?_
            refine xr_iload_n d_M_job_58 rfl ?_
            refine kr_ist hW (f := 1) (by decide) rfl d_M_job_59 (n := kj m) rfl (show kj m < 12 from h12) (fun h9s hW he9 => ?_)
            have he2 := he9
            refine xr_aload_n d_M_job_60 rfl ?_
            refine xr_getf d_M_job_61 xf_5_20 hW.ref rfl ?_
            refine xr_aload_n d_M_job_64 rfl ?_
            refine xr_getf d_M_job_65 xf_5_78 hW.ref rfl ?_
            refine xr_iload_n d_M_job_68 rfl ?_
            refine kr_ist hW (f := 2) (by decide) rfl d_M_job_69 (n := kj m) rfl (show kj m < 12 from h12) (fun h9s hW he9 => ?_)
            have he3 := he9
            refine xr_aload_n d_M_job_70 rfl ?_
            refine xr_getf d_M_job_71 xf_5_26 hW.ref rfl ?_
            refine xr_aload_n d_M_job_74 rfl ?_
            refine xr_getf d_M_job_75 xf_5_78 hW.ref rfl ?_
            refine xr_iload d_M_job_78 rfl ?_
            refine kr_zst hW (f := 4) (by decide) rfl d_M_job_80 (n := kj m) rfl (show kj m < 12 from h12) g1 (fun h9s hW he9 => ?_)
            have he4 := he9
            refine xr_aload_n d_M_job_81 rfl ?_
            refine xr_getf d_M_job_82 xf_5_30 hW.ref rfl ?_
            refine xr_aload_n d_M_job_85 rfl ?_
            refine xr_getf d_M_job_86 xf_5_78 hW.ref rfl ?_
            refine xr_iload d_M_job_89 rfl ?_
            refine kr_zst hW (f := 5) (by decide) rfl d_M_job_91 (n := kj m) rfl (show kj m < 12 from h12) g2 (fun h9s hW he9 => ?_)
            have he5 := he9
            refine xr_aload_n d_M_job_92 rfl ?_
            refine xr_dup d_M_job_93 rfl ?_
            refine xr_getf d_M_job_94 xf_5_78 hW.ref rfl ?_
            refine xr_iconst (v := 1) d_M_job_97 rfl ?_
            refine xr_iadd d_M_job_98 ?_
            rw [show nI (kj (kw (kw (kw (kw (kw m 0 (kj m) (l &&& 255)) 1 (kj m) li) 2 (kj m) re) 4 (kj m) al) 5 (kj m) ap)) + 1 = nI (kj m + 1) from nI_1 (kj m)]
            refine kr_pm (m' := k_addJ m (l &&& 255) li re al ap) hW d_M_job_99 xf_5_78 (by decide) rfl rfl (fun h9s hW he6 => ?_)
            refine xr_aload_n d_M_job_102 rfl ?_
            refine xr_getf d_M_job_103 xf_5_78 hW.ref rfl ?_
            refine xr_iconst (v := 1) d_M_job_106 rfl ?_
            refine xr_isub d_M_job_107 ?_
            rw [show nI (kj (k_addJ m (l &&& 255) li re al ap)) - 1 = nI (kj m) from nI_pred (kj m)]
            refine xr_ireturn d_M_job_108 rfl rfl rfl ?_
            rw [w]
            exact ⟨_, rfl, rfl, hW, he6.trans (he5.trans (he4.trans (he3.trans (he2.trans (he1.trans he0)))))⟩
          · have w : o_job m l li re al ap = (m, -1) := if_pos (Or.inr (Or.inr (Or.inr (Or.inr (ki_nle.mp c31)))))
            refine xr_iconst (v := -1) d_M_job_34 rfl ?_
            refine xr_ireturn d_M_job_35 rfl rfl rfl ?_
            rw [w]
            exact ⟨_, rfl, rfl, hW, he0⟩
theorem m_runner {g : xm_G} {h : xm_H} {c m : kS} {R : Nat → Option Nat} {A : kA} (hW : kW c R m A h) (hB : kMb m) {l : Int32} : xm_S g 0 m_M_runner (xm_entry m_M_runner [.ref (A 6 0), .int l]) h (xq_i fun v h' => v = (o_runner m l).2 ∧ kW c R (o_runner m l).1 A h' ∧ h'.2 = h.2) := by
  show xm_S g 0 m_M_runner (0, [some (.ref (A 6 0)), some (.int l)], []) h _
  refine xr_aload_n d_M_runner_0 rfl ?_
  refine xr_iconst (v := 0) d_M_runner_1 rfl ?_
  refine kr_pm (m' := m) hW d_M_runner_2 xf_5_75 (by decide) rfl rfl (fun h1 hW he0 => ?_)
  refine xr_aload_n d_M_runner_5 rfl ?_
  refine xr_getf d_M_runner_6 xf_5_84 hW.ref rfl ?_
  refine xr_bipush (v := 6) d_M_runner_9 rfl ?_
  refine xr_icmp_ne (tgt := 16) d_M_runner_11 rfl (fun c11 => ?_) (fun c11 => ?_)
  · have h6 : kr m < 6 := by
      rcases Nat.lt_or_ge (kr m) 6 with q | q
      · exact q
      · exact absurd (show nI (kr m) = nI 6 by rw [show kr m = 6 by omega]) c11
    have w : o_runner m l = (k_addU m (l &&& 255), nI (kr m)) := if_neg (by omega)
    refine xr_aload_n d_M_runner_16 rfl ?_
    refine xr_getf d_M_runner_17 xf_5_66 hW.ref rfl ?_
    refine xr_aload_n d_M_runner_20 rfl ?_
    refine xr_getf d_M_runner_21 xf_5_84 hW.ref rfl ?_
    refine xr_iload_n d_M_runner_24 rfl ?_
    refine xr_sipush (v := 255) d_M_runner_25 rfl ?_
    refine xr_iand d_M_runner_28 ?_
    refine kr_ist hW (f := 17) (by decide) rfl d_M_runner_29 (n := kr m) rfl (show kr m < 6 from h6) (fun h9s hW he9 => ?_)
    have he1 := he9
    refine xr_aload_n d_M_runner_30 rfl ?_
    refine xr_getf d_M_runner_31 xf_5_69 hW.ref rfl ?_
    refine xr_aload_n d_M_runner_34 rfl ?_
    refine xr_getf d_M_runner_35 xf_5_84 hW.ref rfl ?_
    refine xr_aload_n d_M_runner_38 rfl ?_
    refine xr_getf d_M_runner_39 xf_5_91 hW.ref rfl ?_
    refine kr_ist hW (f := 18) (by decide) rfl d_M_runner_42 (n := kr m) rfl (show kr m < 6 from h6) (fun h9s hW he9 => ?_)
    have he2 := he9
    refine xr_aload_n d_M_runner_43 rfl ?_
    refine xr_getf d_M_runner_44 xf_5_72 hW.ref rfl ?_
    refine xr_aload_n d_M_runner_47 rfl ?_
    refine xr_getf d_M_runner_48 xf_5_84 hW.ref rfl ?_
    refine xr_iconst (v := -1) d_M_runner_51 rfl ?_
    refine kr_ist hW (f := 19) (by decide) rfl d_M_runner_52 (n := kr m) rfl (show kr m < 6 from h6) (fun h9s hW he9 => ?_)
    have he3 := he9
    refine xr_aload_n d_M_runner_53 rfl ?_
    refine xr_dup d_M_runner_54 rfl ?_
    refine xr_getf d_M_runner_55 xf_5_84 hW.ref rfl ?_
    refine xr_iconst (v := 1) d_M_runner_58 rfl ?_
    refine xr_iadd d_M_runner_59 ?_
    rw [show nI (kr (kw (kw (kw m 17 (kr m) (l &&& 255)) 18 (kr m) (kc (kw m 17 (kr m) (l &&& 255)))) 19 (kr m) (-1))) + 1 = nI (kr m + 1) from nI_1 (kr m)]
    refine kr_pm (m' := k_addU m (l &&& 255)) hW d_M_runner_60 xf_5_84 (by decide) rfl rfl (fun h9s hW he4 => ?_)
    refine xr_aload_n d_M_runner_63 rfl ?_
    refine xr_getf d_M_runner_64 xf_5_84 hW.ref rfl ?_
    refine xr_iconst (v := 1) d_M_runner_67 rfl ?_
    refine xr_isub d_M_runner_68 ?_
    rw [show nI (kr (k_addU m (l &&& 255))) - 1 = nI (kr m) from nI_pred (kr m)]
    refine xr_ireturn d_M_runner_69 rfl rfl rfl ?_
    rw [w]
    exact ⟨_, rfl, rfl, hW, he4.trans (he3.trans (he2.trans (he1.trans he0)))⟩
  · have w : o_runner m l = (m, -1) := if_pos ((nI_eq (b := 6) (by omega) (by decide)).mp c11)
    refine xr_iconst (v := -1) d_M_runner_14 rfl ?_
    refine xr_ireturn d_M_runner_15 rfl rfl rfl ?_
    rw [w]
    exact ⟨_, rfl, rfl, hW, he0⟩
theorem k_settle_kq (s : kS) : kq (k_settle s) = kq s := by
  unfold k_settle
  exact k_settleN_kq _ _
def k_tgN (s : kS) (g : Int32) (r : Nat) : kS := if g = -1 then s else k_grpN s g r
theorem k_tgN_1 (s : kS) (g : Int32) (r : Nat) : (k_tgN s g r).1 = s.1 := by
  unfold k_tgN
  split
  · rfl
  · exact k_grpN_1 s g r
theorem ql_trigger {g : xm_G} {h0 : xm_H} {c m : kS} {R : Nat → Option Nat} {A : kA} (hB : kMb m) {p q : Int32} (h10 : kq m < 10) : ∀ (n : Nat) (r : Nat) (h : xm_H), kW c R (k_tgN m q r) A h → h.2 = h0.2 → r ≤ kq m → kq m < r + n → xm_S g 3 m_M_trigger (38, [some (.ref (A 6 0)), some (.int p), some (.int q), some (.int (nI r))], []) h (xq_i fun v h' => v = nI (kq m) ∧ kW c R (k_settle (k_addQ (k_grp m q) p q)) A h' ∧ h'.2 = h0.2) := by
  intro n
  induction n with
  | zero => intros; omega
  | succ n ih =>
    intro r h hW he h1 h2
    have e1 := k_tgN_1 m q r
    have hk1 : q = -1 → k_tgN m q (r + 1) = k_tgN m q r := fun z => by unfold k_tgN; rw [if_pos z, if_pos z]
    have hk2 : ¬ q = -1 → k_tgN m q (r + 1) = k_grp1 (k_tgN m q r) q r := fun z => by unfold k_tgN; rw [if_neg z, if_neg z]; rfl
    have hend : k_tgN m q (kq m) = k_grp m q := rfl
    generalize hC : k_tgN m q r = C at *
    have hkq : kq C = kq m := congrArg (fun z => z.2.2) e1
    have hBC : kMb C := by unfold kMb kj kr kq at *; rw [e1]; exact hB
    rw [← hkq] at h1 h2 h10
    refine xr_iload_n d_M_trigger_38 rfl ?_
    refine xr_aload_n d_M_trigger_39 rfl ?_
    refine xr_getf d_M_trigger_40 xf_5_81 hW.ref rfl ?_
    refine xr_icmp_ge (tgt := 80) d_M_trigger_43 rfl (fun c43 => ?_) (fun c43 => ?_)
    · have hre : r = kq C := by have := k_ge_ge (by omega) c43; omega
      have hCe : k_grp m q = C := by rw [← hend, ← hC, ← hkq, hre]
      refine xr_aload_n d_M_trigger_80 rfl ?_
      refine xr_getf d_M_trigger_81 xf_5_33 hW.ref rfl ?_
      refine xr_aload_n d_M_trigger_84 rfl ?_
      refine xr_getf d_M_trigger_85 xf_5_81 hW.ref rfl ?_
      refine xr_iload_n d_M_trigger_88 rfl ?_
      refine kr_ist hW (f := 6) (by decide) rfl d_M_trigger_89 (n := kq C) rfl (show kq C < 10 by omega) (fun h9s hW he9 => ?_)
      have he := he9.trans he
      refine xr_aload_n d_M_trigger_90 rfl ?_
      refine xr_getf d_M_trigger_91 xf_5_36 hW.ref rfl ?_
      refine xr_aload_n d_M_trigger_94 rfl ?_
      refine xr_getf d_M_trigger_95 xf_5_81 hW.ref rfl ?_
      refine xr_iload_n d_M_trigger_98 rfl ?_
      refine kr_ist hW (f := 7) (by decide) rfl d_M_trigger_99 (n := kq C) rfl (show kq C < 10 by omega) (fun h9s hW he9 => ?_)
      have he := he9.trans he
      refine xr_aload_n d_M_trigger_100 rfl ?_
      refine xr_dup d_M_trigger_101 rfl ?_
      refine xr_getf d_M_trigger_102 xf_5_81 hW.ref rfl ?_
      refine xr_iconst (v := 1) d_M_trigger_105 rfl ?_
      refine xr_iadd d_M_trigger_106 ?_
      rw [show nI (kq (kw (kw C 6 (kq C) p) 7 (kq C) q)) + 1 = nI (kq C + 1) from nI_1 (kq C)]
      refine kr_pm (m' := k_addQ C p q) hW d_M_trigger_107 xf_5_81 (by decide) rfl rfl (fun h9s hW he6 => ?_)
      have he := he6.trans he
      have hB2 : kMb (k_addQ C p q) := ⟨hBC.1, hBC.2.1, by show kq C + 1 ≤ 10; omega⟩
      refine xr_aload_n d_M_trigger_110 rfl ?_
      refine xr_V0v d_M_trigger_111 xv_5_114 hW.ref rfl (Nat.le_of_ble_eq_true rfl) (by decide) (q_settle hW hB2) (fun h9s h9 => ?_)
      obtain ⟨hW, he7⟩ := h9
      have ek : kq (k_settle (k_addQ C p q)) = kq C + 1 := k_settle_kq _
      refine xr_aload_n d_M_trigger_114 rfl ?_
      refine xr_getf d_M_trigger_115 xf_5_81 hW.ref rfl ?_
      refine xr_iconst (v := 1) d_M_trigger_118 rfl ?_
      refine xr_isub d_M_trigger_119 ?_
      rw [ek, nI_pred]
      refine xr_ireturn d_M_trigger_120 rfl rfl rfl ?_
      refine ⟨_, rfl, ?_, ?_, he7.trans he⟩
      · rw [hkq]
      · rw [hCe]; exact hW
    · have hr : r < kq C := k_ge_lt (by omega) (by omega) c43
      refine xr_iload_n d_M_trigger_46 rfl ?_
      refine xr_iconst (v := -1) d_M_trigger_47 rfl ?_
      refine xr_icmp_eq (tgt := 74) d_M_trigger_48 rfl (fun c48 => ?_) (fun c48 => ?_)
      · have hnx : k_tgN m q (r + 1) = C := hk1 c48
        refine xr_iinc1 d_M_trigger_74 rfl ?_
        refine xr_goto (tgt := 38) d_M_trigger_77 rfl ?_
        rw [nI_1]
        exact ih (r + 1) _ (by rw [hnx]; exact hW) he (by omega) (by omega)
      · refine xr_aload_n d_M_trigger_51 rfl ?_
        refine xr_getf d_M_trigger_52 xf_5_36 hW.ref rfl ?_
        refine xr_iload_n d_M_trigger_55 rfl ?_
        refine kr_ild hW (f := 7) (by decide) rfl d_M_trigger_56 (n := r) rfl (show r < 10 by omega) ?_
        refine xr_iload_n d_M_trigger_57 rfl ?_
        refine xr_icmp_ne (tgt := 74) d_M_trigger_58 rfl (fun c58 => ?_) (fun c58 => ?_)
        · have hnx : k_tgN m q (r + 1) = C := (hk2 c48).trans (if_neg (fun z => c58 z.1))
          refine xr_iinc1 d_M_trigger_74 rfl ?_
          refine xr_goto (tgt := 38) d_M_trigger_77 rfl ?_
          rw [nI_1]
          exact ih (r + 1) _ (by rw [hnx]; exact hW) he (by omega) (by omega)
        · refine xr_aload_n d_M_trigger_61 rfl ?_
          refine xr_iload_n d_M_trigger_62 rfl ?_
          refine xr_V1i d_M_trigger_63 xv_5_108 hW.ref rfl rfl (Nat.le_of_ble_eq_true rfl) (by decide) (q_isOver hW hBC (r := r) (by omega)) (fun v h2 h9 => ?_)
          obtain ⟨rfl, e9⟩ := h9
          have e9 := e9.symm
          subst e9
          refine xr_if_ne (tgt := 74) d_M_trigger_66 rfl (fun c66 => ?_) (fun c66 => ?_)
          · have hnx : k_tgN m q (r + 1) = C := (hk2 c48).trans (if_neg (fun z => z.2 (kbi_n0 c66)))
            refine xr_iinc1 d_M_trigger_74 rfl ?_
            refine xr_goto (tgt := 38) d_M_trigger_77 rfl ?_
            rw [nI_1]
            exact ih (r + 1) _ (by rw [hnx]; exact hW) he (by omega) (by omega)
          · have hnx : k_tgN m q (r + 1) = k_stop C r := (hk2 c48).trans (if_pos ⟨c58, kbi_0.mp c66⟩)
            refine xr_aload_n d_M_trigger_69 rfl ?_
            refine xr_iload_n d_M_trigger_70 rfl ?_
            refine xr_V1v d_M_trigger_71 xv_5_111 hW.ref rfl rfl (Nat.le_of_ble_eq_true rfl) (by decide) (q_stop hW hBC (r := r) (by omega)) (fun h9s h9 => ?_)
            obtain ⟨hW, he1⟩ := h9
            have he := he1.trans he
            refine xr_iinc1 d_M_trigger_74 rfl ?_
            refine xr_goto (tgt := 38) d_M_trigger_77 rfl ?_
            rw [nI_1]
            exact ih (r + 1) _ (by rw [hnx]; exact hW) he (by omega) (by omega)
theorem m_trigger {g : xm_G} {h : xm_H} {c m : kS} {R : Nat → Option Nat} {A : kA} (hW : kW c R m A h) (hB : kMb m) {p q : Int32} : xm_S g 3 m_M_trigger (xm_entry m_M_trigger [.ref (A 6 0), .int p, .int q]) h (xq_i fun v h' => v = (o_trig m p q).2 ∧ kW c R (o_trig m p q).1 A h' ∧ h'.2 = h.2) := by
  show xm_S g 3 m_M_trigger (0, [some (.ref (A 6 0)), some (.int p), some (.int q), none], []) h _
  refine xr_aload_n d_M_trigger_0 rfl ?_
  refine xr_iconst (v := 0) d_M_trigger_1 rfl ?_
  refine kr_pm (m' := m) hW d_M_trigger_2 xf_5_75 (by decide) rfl rfl (fun h1 hW he0 => ?_)
  refine xr_aload_n d_M_trigger_5 rfl ?_
  refine xr_getf d_M_trigger_6 xf_5_81 hW.ref rfl ?_
  refine xr_bipush (v := 10) d_M_trigger_9 rfl ?_
  refine xr_icmp_eq (tgt := 34) d_M_trigger_11 rfl (fun c11 => ?_) (fun c11 => ?_)
  · have w : o_trig m p q = (m, -1) := if_pos (Or.inl ((nI_eq (b := 10) (by omega) (by decide)).mp c11))
    refine xr_iconst (v := -1) d_M_trigger_34 rfl ?_
    refine xr_ireturn d_M_trigger_35 rfl rfl rfl ?_
    rw [w]
    exact ⟨_, rfl, rfl, hW, he0⟩
  · have h10 : kq m < 10 := by
      rcases Nat.lt_or_ge (kq m) 10 with z | z
      · exact z
      · exact absurd (show nI (kq m) = nI 10 by rw [show kq m = 10 by omega]) c11
    refine xr_iload_n d_M_trigger_14 rfl ?_
    refine xr_if_lt (tgt := 34) d_M_trigger_15 rfl (fun c15 => ?_) (fun c15 => ?_)
    · have w : o_trig m p q = (m, -1) := if_pos (Or.inr (Or.inl (fun z => z.1 c15)))
      refine xr_iconst (v := -1) d_M_trigger_34 rfl ?_
      refine xr_ireturn d_M_trigger_35 rfl rfl rfl ?_
      rw [w]
      exact ⟨_, rfl, rfl, hW, he0⟩
    · refine xr_iload_n d_M_trigger_18 rfl ?_
      refine xr_bipush (v := 8) d_M_trigger_19 rfl ?_
      refine xr_icmp_ge (tgt := 34) d_M_trigger_21 rfl (fun c21 => ?_) (fun c21 => ?_)
      · have w : o_trig m p q = (m, -1) := if_pos (Or.inr (Or.inl (fun z => z.2 c21)))
        refine xr_iconst (v := -1) d_M_trigger_34 rfl ?_
        refine xr_ireturn d_M_trigger_35 rfl rfl rfl ?_
        rw [w]
        exact ⟨_, rfl, rfl, hW, he0⟩
      · refine xr_iload_n d_M_trigger_24 rfl ?_
        refine xr_iconst (v := -1) d_M_trigger_25 rfl ?_
        refine xr_icmp_lt (tgt := 34) d_M_trigger_26 rfl (fun c26 => ?_) (fun c26 => ?_)
        · have w : o_trig m p q = (m, -1) := if_pos (Or.inr (Or.inr (Or.inl c26)))
          refine xr_iconst (v := -1) d_M_trigger_34 rfl ?_
          refine xr_ireturn d_M_trigger_35 rfl rfl rfl ?_
          rw [w]
          exact ⟨_, rfl, rfl, hW, he0⟩
        · refine xr_iload_n d_M_trigger_29 rfl ?_
          refine xr_iconst (v := 4) d_M_trigger_30 rfl ?_
          refine xr_icmp_lt (tgt := 36) d_M_trigger_31 rfl (fun c31 => ?_) (fun c31 => ?_)
          · have w : o_trig m p q = (k_settle (k_addQ (k_grp m q) p q), nI (kq m)) := if_neg (by
              rintro (z | z | z | z)
              · omega
              · exact z ⟨c15, c21⟩
              · exact c26 z
              · exact ki_nle.mpr c31 z)
            refine xr_iconst (v := 0) d_M_trigger_36 rfl ?_
            refine xr_istore_n d_M_trigger_37 (Nat.le_of_ble_eq_true rfl) ?_
            rw [w]
            dsimp only
            exact ql_trigger (h0 := h) hB h10 (kq m + 1) 0 h1 (by unfold k_tgN; split <;> exact hW) he0 (by omega) (by omega)
          · have w : o_trig m p q = (m, -1) := if_pos (Or.inr (Or.inr (Or.inr (ki_nlt.mp c31))))
            refine xr_iconst (v := -1) d_M_trigger_34 rfl ?_
            refine xr_ireturn d_M_trigger_35 rfl rfl rfl ?_
            rw [w]
            exact ⟨_, rfl, rfl, hW, he0⟩
