/-! the reference's take and tick -/
theorem ql_busy {g : xm_G} {h : xm_H} {c m : kS} {R : Nat → Option Nat} {A : kA} (hW : kW c R m A h) (hB : kMb m) {p : Int32} : ∀ (n : Nat) (x : Nat), x ≤ 12 * kq m → 12 * kq m < x + n → xm_S g 0 m_M_busy (4, [some (.ref (A 6 0)), some (.int p), some (.int (nI (k_busyN m p x))), some (.int (nI x))], []) h (xq_i fun v h' => v = nI (k_busy m p) ∧ h' = h) := by
  intro n
  induction n with
  | zero => intros; omega
  | succ n ih =>
    intro x h1 h2
    refine xr_iload_n d_M_busy_4 rfl ?_
    refine xr_bipush (v := 12) d_M_busy_5 rfl ?_
    refine xr_aload_n d_M_busy_7 rfl ?_
    refine xr_getf d_M_busy_8 xf_5_81 hW.ref rfl ?_
    refine xr_imul d_M_busy_11 ?_
    rw [k12m]
    refine xr_icmp_ge (tgt := 52) d_M_busy_12 rfl (fun c12 => ?_) (fun c12 => ?_)
    · have hre : x = 12 * kq m := by have := k_ge_ge (by omega) c12; omega
      refine xr_iload_n d_M_busy_52 rfl ?_
      refine xr_ireturn d_M_busy_53 rfl rfl rfl ?_
      exact ⟨_, rfl, by rw [hre]; rfl, rfl⟩
    · have hxl : x < 12 * kq m := k_ge_lt (by omega) (by omega) c12
      refine xr_iload_n d_M_busy_15 rfl ?_
      refine xr_aload_n d_M_busy_16 rfl ?_
      refine xr_getf d_M_busy_17 xf_5_42 hW.ref rfl ?_
      refine xr_iload_n d_M_busy_20 rfl ?_
      refine kr_ild hW (f := 9) (by decide) rfl d_M_busy_21 (n := x) rfl (show x < 120 by omega) ?_
      refine xr_iconst (v := 2) d_M_busy_22 rfl ?_
      refine xr_icmp_ne (tgt := 43) d_M_busy_23 rfl (fun c23 => ?_) (fun c23 => ?_)
      · have hst : nI (k_busyN m p x) + 0 = nI (k_busyN m p (x + 1)) := by rw [k_busyN_s, k_b1_f (fun q => c23 q.1), show (0 : Int32) = nI 0 from rfl, nI_add]
        refine xr_iconst (v := 0) d_M_busy_43 rfl ?_
        refine xr_iadd d_M_busy_44 ?_
        refine xr_istore_n d_M_busy_45 (Nat.le_of_ble_eq_true rfl) ?_
        refine xr_iinc1 d_M_busy_46 rfl ?_
        refine xr_goto (tgt := 4) d_M_busy_49 rfl ?_
        rw [nI_1 x, hst]
        exact ih (x + 1) (by omega) (by omega)
      · refine xr_aload_n d_M_busy_26 rfl ?_
        refine xr_getf d_M_busy_27 xf_5_33 hW.ref rfl ?_
        refine xr_iload_n d_M_busy_30 rfl ?_
        refine xr_bipush (v := 12) d_M_busy_31 rfl ?_
        refine xr_idiv d_M_busy_33 (by decide) ?_
        rw [k12d (by omega)]
        refine kr_ild hW (f := 6) (by decide) rfl d_M_busy_34 (n := x / 12) rfl (show x / 12 < 10 by omega) ?_
        refine xr_iload_n d_M_busy_35 rfl ?_
        refine xr_icmp_ne (tgt := 43) d_M_busy_36 rfl (fun c36 => ?_) (fun c36 => ?_)
        · have hst : nI (k_busyN m p x) + 0 = nI (k_busyN m p (x + 1)) := by rw [k_busyN_s, k_b1_f (fun q => c36 q.2), show (0 : Int32) = nI 0 from rfl, nI_add]
          refine xr_iconst (v := 0) d_M_busy_43 rfl ?_
          refine xr_iadd d_M_busy_44 ?_
          refine xr_istore_n d_M_busy_45 (Nat.le_of_ble_eq_true rfl) ?_
          refine xr_iinc1 d_M_busy_46 rfl ?_
          refine xr_goto (tgt := 4) d_M_busy_49 rfl ?_
          rw [nI_1 x, hst]
          exact ih (x + 1) (by omega) (by omega)
        · have hst : nI (k_busyN m p x) + 1 = nI (k_busyN m p (x + 1)) := by
            rw [k_busyN_s, show k_b1 (kF m 9 x = 2 ∧ kF m 6 (x / 12) = p) = 1 from if_pos ⟨c23, c36⟩, nI_1]
          refine xr_iconst (v := 1) d_M_busy_39 rfl ?_
          refine xr_goto (tgt := 44) d_M_busy_40 rfl ?_
          refine xr_iadd d_M_busy_44 ?_
          refine xr_istore_n d_M_busy_45 (Nat.le_of_ble_eq_true rfl) ?_
          refine xr_iinc1 d_M_busy_46 rfl ?_
          refine xr_goto (tgt := 4) d_M_busy_49 rfl ?_
          rw [nI_1 x, hst]
          exact ih (x + 1) (by omega) (by omega)
theorem q_busy {g : xm_G} {h : xm_H} {c m : kS} {R : Nat → Option Nat} {A : kA} (hW : kW c R m A h) (hB : kMb m) {p : Int32} : xm_S g 0 m_M_busy (xm_entry m_M_busy [.ref (A 6 0), .int p]) h (xq_i fun v h' => v = nI (k_busy m p) ∧ h' = h) := by
  show xm_S g 0 m_M_busy (0, [some (.ref (A 6 0)), some (.int p), none, none], []) h _
  refine xr_iconst (v := 0) d_M_busy_0 rfl ?_
  refine xr_istore_n d_M_busy_1 (Nat.le_of_ble_eq_true rfl) ?_
  refine xr_iconst (v := 0) d_M_busy_2 rfl ?_
  refine xr_istore_n d_M_busy_3 (Nat.le_of_ble_eq_true rfl) ?_
  exact ql_busy hW hB (12 * kq m + 1) 0 (by omega) (by omega)
theorem ql_take {g : xm_G} {h h0 : xm_H} {c m : kS} {R : Nat → Option Nat} {A : kA} (hW : kW c R m A h) (he : h.2 = h0.2) (hB : kMb m) {u : Nat} (hu : u < kr m) (hr6 : kr m ≤ 6) (h19 : kF m 19 u = -1) : ∀ (n : Nat) (x : Nat) (x4 x5 : Option Value), x ≤ 12 * kq m → 12 * kq m < x + n → xm_S g 1 m_M_take (29, [some (.ref (A 6 0)), some (.int (nI u)), some (.int (k_ru (k_bestN m u x))), some (.int (nI x)), x4, x5], []) h (xq_i fun v h' => v = (o_take m (nI u)).2 ∧ kW c R (o_take m (nI u)).1 A h' ∧ h'.2 = h0.2) := by
  intro n
  induction n with
  | zero => intros; omega
  | succ n ih =>
    intro x x4 x5 h1 h2
    have hk : k_bestN m u (x + 1) = if k_fit m u x then k_bst m (k_bestN m u x) x else k_bestN m u x := rfl
    rcases hB0 : k_bestN m u x with _ | b
    · rw [hB0] at hk
      show xm_S g 1 m_M_take (29, [some (.ref (A 6 0)), some (.int (nI u)), some (.int (-1)), some (.int (nI x)), x4, x5], []) h _
      refine xr_iload_n d_M_take_29 rfl ?_
      refine xr_bipush (v := 12) d_M_take_30 rfl ?_
      refine xr_aload_n d_M_take_32 rfl ?_
      refine xr_getf d_M_take_33 xf_5_81 hW.ref rfl ?_
      refine xr_imul d_M_take_36 ?_
      rw [k12m]
      refine xr_icmp_ge (tgt := 155) d_M_take_37 rfl (fun c37 => ?_) (fun c37 => ?_)
      · have hre : x = 12 * kq m := by have := k_ge_ge (by omega) c37; omega
        subst hre
        refine xr_iload_n d_M_take_155 rfl ?_
        refine xr_iconst (v := -1) d_M_take_156 rfl ?_
        refine xr_icmp_ne (tgt := 162) d_M_take_157 rfl (fun n9 => absurd n9 (fun q => q rfl)) (fun _ => ?_)
        refine xr_iconst (v := -1) d_M_take_160 rfl ?_
        refine xr_ireturn d_M_take_161 rfl rfl rfl ?_
        have w := o_take_N hu hr6 h19 hB0
        rw [w]
        exact ⟨_, rfl, rfl, hW, he⟩
      · have hxl : x < 12 * kq m := k_ge_lt (by omega) (by omega) c37
        refine xr_aload_n d_M_take_40 rfl ?_
        refine xr_getf d_M_take_41 xf_5_42 hW.ref rfl ?_
        refine xr_iload_n d_M_take_44 rfl ?_
        refine kr_ild hW (f := 9) (by decide) rfl d_M_take_45 (n := x) rfl (show x < 120 by omega) ?_
        refine xr_iconst (v := 1) d_M_take_46 rfl ?_
        refine xr_icmp_ne (tgt := 149) d_M_take_47 rfl (fun c47 => ?_) (fun c47 => ?_)
        · have hst := hk.trans (if_neg (fun q => c47 q.1))
          refine xr_iinc1 d_M_take_149 rfl ?_
          refine xr_goto (tgt := 29) d_M_take_152 rfl ?_
          rw [nI_1]
          have z := fun y w => ih (x + 1) y w (by omega) (by omega)
          simp only [hst] at z
          exact z _ _
        · refine xr_aload_n d_M_take_50 rfl ?_
          refine xr_getf d_M_take_51 xf_5_13 hW.ref rfl ?_
          refine xr_iload_n d_M_take_54 rfl ?_
          refine xr_bipush (v := 12) d_M_take_55 rfl ?_
          refine xr_irem d_M_take_57 (by decide) ?_
          rw [k12r (by omega)]
          refine kr_ild hW (f := 0) (by decide) rfl d_M_take_58 (n := x % 12) rfl (show x % 12 < 12 by omega) ?_
          refine xr_aload_n d_M_take_59 rfl ?_
          refine xr_getf d_M_take_60 xf_5_66 hW.ref rfl ?_
          refine xr_iload_n d_M_take_63 rfl ?_
          refine kr_ild hW (f := 17) (by decide) rfl d_M_take_64 (n := u) rfl (show u < 6 by omega) ?_
          refine xr_iconst (v := -1) d_M_take_65 rfl ?_
          refine xr_ixor d_M_take_66 ?_
          refine xr_iand d_M_take_67 ?_
          refine xr_if_eq (tgt := 74) d_M_take_68 rfl (fun c68 => ?_) (fun c68 => ?_)
          · have hk := hk.trans (if_pos ⟨c47, c68⟩)
            refine xr_aload_n d_M_take_74 rfl ?_
            refine xr_getf d_M_take_75 xf_5_33 hW.ref rfl ?_
            refine xr_iload_n d_M_take_78 rfl ?_
            refine xr_bipush (v := 12) d_M_take_79 rfl ?_
            refine xr_idiv d_M_take_81 (by decide) ?_
            rw [k12d (by omega)]
            refine kr_ild hW (f := 6) (by decide) rfl d_M_take_82 (n := x / 12) rfl (show x / 12 < 10 by omega) ?_
            refine xr_istore d_M_take_83 (Nat.le_of_ble_eq_true rfl) ?_
            refine xr_iload_n d_M_take_85 rfl ?_
            refine xr_iconst (v := -1) d_M_take_86 rfl ?_
            refine xr_icmp_ne (tgt := 94) d_M_take_87 rfl (fun n9 => absurd n9 (fun q => q rfl)) (fun _ => ?_)
            refine xr_iconst (v := -1) d_M_take_90 rfl ?_
            refine xr_goto (tgt := 103) d_M_take_91 rfl ?_
            refine xr_istore d_M_take_103 (Nat.le_of_ble_eq_true rfl) ?_
            refine xr_iload_n d_M_take_105 rfl ?_
            refine xr_iconst (v := -1) d_M_take_106 rfl ?_
            refine xr_icmp_eq (tgt := 147) d_M_take_107 rfl (fun _ => ?_) (fun n9 => absurd rfl n9)
            refine xr_iload_n d_M_take_147 rfl ?_
            refine xr_istore_n d_M_take_148 (Nat.le_of_ble_eq_true rfl) ?_
            have hst := hk
            refine xr_iinc1 d_M_take_149 rfl ?_
            refine xr_goto (tgt := 29) d_M_take_152 rfl ?_
            rw [nI_1]
            have z := fun y w => ih (x + 1) y w (by omega) (by omega)
            simp only [hst] at z
            exact z _ _
          · have hst := hk.trans (if_neg (fun q => c68 q.2))
            refine xr_goto (tgt := 149) d_M_take_71 rfl ?_
            refine xr_iinc1 d_M_take_149 rfl ?_
            refine xr_goto (tgt := 29) d_M_take_152 rfl ?_
            rw [nI_1]
            have z := fun y w => ih (x + 1) y w (by omega) (by omega)
            simp only [hst] at z
            exact z _ _
    · have hbx := (k_best_sp _ b hB0).1
      have hbn : ¬ nI b = -1 := nI_ne (by omega)
      rw [hB0] at hk
      show xm_S g 1 m_M_take (29, [some (.ref (A 6 0)), some (.int (nI u)), some (.int (nI b)), some (.int (nI x)), x4, x5], []) h _
      refine xr_iload_n d_M_take_29 rfl ?_
      refine xr_bipush (v := 12) d_M_take_30 rfl ?_
      refine xr_aload_n d_M_take_32 rfl ?_
      refine xr_getf d_M_take_33 xf_5_81 hW.ref rfl ?_
      refine xr_imul d_M_take_36 ?_
      rw [k12m]
      refine xr_icmp_ge (tgt := 155) d_M_take_37 rfl (fun c37 => ?_) (fun c37 => ?_)
      · have hre : x = 12 * kq m := by have := k_ge_ge (by omega) c37; omega
        subst hre
        refine xr_iload_n d_M_take_155 rfl ?_
        refine xr_iconst (v := -1) d_M_take_156 rfl ?_
        refine xr_icmp_ne (tgt := 162) d_M_take_157 rfl (fun _ => ?_) (fun n9 => absurd n9 hbn)
        refine xr_aload_n d_M_take_162 rfl ?_
        refine xr_getf d_M_take_163 xf_5_72 hW.ref rfl ?_
        refine xr_iload_n d_M_take_166 rfl ?_
        refine xr_iload_n d_M_take_167 rfl ?_
        refine kr_ist hW (f := 19) (by decide) rfl d_M_take_168 (n := u) rfl (show u < 6 by omega) (fun h9s hW he9 => ?_)
        have he1 := he9
        refine xr_aload_n d_M_take_169 rfl ?_
        refine xr_getf d_M_take_170 xf_5_69 hW.ref rfl ?_
        refine xr_iload_n d_M_take_173 rfl ?_
        refine xr_aload_n d_M_take_174 rfl ?_
        refine xr_getf d_M_take_175 xf_5_91 hW.ref rfl ?_
        refine kr_ist hW (f := 18) (by decide) rfl d_M_take_178 (n := u) rfl (show u < 6 by omega) (fun h9s hW he9 => ?_)
        have he2 := he9.trans he1
        refine xr_aload_n d_M_take_179 rfl ?_
        refine xr_getf d_M_take_180 xf_5_42 hW.ref rfl ?_
        refine xr_iload_n d_M_take_183 rfl ?_
        refine xr_iconst (v := 2) d_M_take_184 rfl ?_
        refine kr_ist hW (f := 9) (by decide) rfl d_M_take_185 (n := b) rfl (show b < 120 by omega) (fun h9s hW he9 => ?_)
        have he3 := he9.trans he2
        refine xr_aload_n d_M_take_186 rfl ?_
        refine xr_getf d_M_take_187 xf_5_45 hW.ref rfl ?_
        refine xr_iload_n d_M_take_190 rfl ?_
        refine xr_aload_n d_M_take_191 rfl ?_
        refine xr_getf d_M_take_192 xf_5_91 hW.ref rfl ?_
        refine kr_ist hW (f := 10) (by decide) rfl d_M_take_195 (n := b) rfl (show b < 120 by omega) (fun h9s hW he9 => ?_)
        have he4 := he9.trans he3
        refine xr_aload_n d_M_take_196 rfl ?_
        refine xr_getf d_M_take_197 xf_5_48 hW.ref rfl ?_
        refine xr_iload_n d_M_take_200 rfl ?_
        refine xr_dup2 d_M_take_201 rfl rfl ?_
        refine kr_ild hW (f := 11) (by decide) rfl d_M_take_202 (n := b) rfl (show b < 120 by omega) ?_
        refine xr_iconst (v := 1) d_M_take_203 rfl ?_
        refine xr_iadd d_M_take_204 ?_
        refine kr_ist hW (f := 11) (by decide) rfl d_M_take_205 (n := b) rfl (show b < 120 by omega) (fun h9s hW he9 => ?_)
        have he5 := he9.trans he4
        refine xr_iload_n d_M_take_206 rfl ?_
        refine xr_ireturn d_M_take_207 rfl rfl rfl ?_
        have w := o_take_S hu hr6 h19 hB0
        rw [w]
        exact ⟨_, rfl, rfl, hW, he5.trans he⟩
      · have hxl : x < 12 * kq m := k_ge_lt (by omega) (by omega) c37
        refine xr_aload_n d_M_take_40 rfl ?_
        refine xr_getf d_M_take_41 xf_5_42 hW.ref rfl ?_
        refine xr_iload_n d_M_take_44 rfl ?_
        refine kr_ild hW (f := 9) (by decide) rfl d_M_take_45 (n := x) rfl (show x < 120 by omega) ?_
        refine xr_iconst (v := 1) d_M_take_46 rfl ?_
        refine xr_icmp_ne (tgt := 149) d_M_take_47 rfl (fun c47 => ?_) (fun c47 => ?_)
        · have hst := hk.trans (if_neg (fun q => c47 q.1))
          refine xr_iinc1 d_M_take_149 rfl ?_
          refine xr_goto (tgt := 29) d_M_take_152 rfl ?_
          rw [nI_1]
          have z := fun y w => ih (x + 1) y w (by omega) (by omega)
          simp only [hst] at z
          exact z _ _
        · refine xr_aload_n d_M_take_50 rfl ?_
          refine xr_getf d_M_take_51 xf_5_13 hW.ref rfl ?_
          refine xr_iload_n d_M_take_54 rfl ?_
          refine xr_bipush (v := 12) d_M_take_55 rfl ?_
          refine xr_irem d_M_take_57 (by decide) ?_
          rw [k12r (by omega)]
          refine kr_ild hW (f := 0) (by decide) rfl d_M_take_58 (n := x % 12) rfl (show x % 12 < 12 by omega) ?_
          refine xr_aload_n d_M_take_59 rfl ?_
          refine xr_getf d_M_take_60 xf_5_66 hW.ref rfl ?_
          refine xr_iload_n d_M_take_63 rfl ?_
          refine kr_ild hW (f := 17) (by decide) rfl d_M_take_64 (n := u) rfl (show u < 6 by omega) ?_
          refine xr_iconst (v := -1) d_M_take_65 rfl ?_
          refine xr_ixor d_M_take_66 ?_
          refine xr_iand d_M_take_67 ?_
          refine xr_if_eq (tgt := 74) d_M_take_68 rfl (fun c68 => ?_) (fun c68 => ?_)
          · have hk := hk.trans (if_pos ⟨c47, c68⟩)
            refine xr_aload_n d_M_take_74 rfl ?_
            refine xr_getf d_M_take_75 xf_5_33 hW.ref rfl ?_
            refine xr_iload_n d_M_take_78 rfl ?_
            refine xr_bipush (v := 12) d_M_take_79 rfl ?_
            refine xr_idiv d_M_take_81 (by decide) ?_
            rw [k12d (by omega)]
            refine kr_ild hW (f := 6) (by decide) rfl d_M_take_82 (n := x / 12) rfl (show x / 12 < 10 by omega) ?_
            refine xr_istore d_M_take_83 (Nat.le_of_ble_eq_true rfl) ?_
            refine xr_iload_n d_M_take_85 rfl ?_
            refine xr_iconst (v := -1) d_M_take_86 rfl ?_
            refine xr_icmp_ne (tgt := 94) d_M_take_87 rfl (fun _ => ?_) (fun n9 => absurd n9 hbn)
            refine xr_aload_n d_M_take_94 rfl ?_
            refine xr_getf d_M_take_95 xf_5_33 hW.ref rfl ?_
            refine xr_iload_n d_M_take_98 rfl ?_
            refine xr_bipush (v := 12) d_M_take_99 rfl ?_
            refine xr_idiv d_M_take_101 (by decide) ?_
            rw [k12d (by omega)]
            refine kr_ild hW (f := 6) (by decide) rfl d_M_take_102 (n := b / 12) rfl (show b / 12 < 10 by omega) ?_
            refine xr_istore d_M_take_103 (Nat.le_of_ble_eq_true rfl) ?_
            refine xr_iload_n d_M_take_105 rfl ?_
            refine xr_iconst (v := -1) d_M_take_106 rfl ?_
            refine xr_icmp_eq (tgt := 147) d_M_take_107 rfl (fun n9 => absurd n9 hbn) (fun _ => ?_)
            refine xr_aload_n d_M_take_110 rfl ?_
            refine xr_iload d_M_take_111 rfl ?_
            refine xr_V1i d_M_take_113 xv_5_127 hW.ref rfl rfl (Nat.le_of_ble_eq_true rfl) (by decide) (q_busy hW hB) (fun v h9s h9 => ?_)
            obtain ⟨rfl, e9⟩ := h9
            have e9 := e9.symm
            subst e9
            refine xr_aload_n d_M_take_116 rfl ?_
            refine xr_iload d_M_take_117 rfl ?_
            refine xr_V1i d_M_take_119 xv_5_127 hW.ref rfl rfl (Nat.le_of_ble_eq_true rfl) (by decide) (q_busy hW hB) (fun v h9s h9 => ?_)
            obtain ⟨rfl, e9⟩ := h9
            have e9 := e9.symm
            subst e9
            have hb1 : k_busy m (kF m 6 (x / 12)) ≤ 12 * kq m := k_busyN_le m _ _
            have hb2 : k_busy m (kF m 6 (b / 12)) ≤ 12 * kq m := k_busyN_le m _ _
            refine xr_icmp_lt (tgt := 147) d_M_take_122 rfl (fun c122 => ?_) (fun c122 => ?_)
            · have hk := hk.trans (if_pos (Or.inl (k_ge_lt (by omega) (by omega) (ki_nle.mpr c122))))
              refine xr_iload_n d_M_take_147 rfl ?_
              refine xr_istore_n d_M_take_148 (Nat.le_of_ble_eq_true rfl) ?_
              have hst := hk
              refine xr_iinc1 d_M_take_149 rfl ?_
              refine xr_goto (tgt := 29) d_M_take_152 rfl ?_
              rw [nI_1]
              have z := fun y w => ih (x + 1) y w (by omega) (by omega)
              simp only [hst] at z
              exact z _ _
            · have hge := k_ge_ge (a := k_busy m (kF m 6 (x / 12))) (b := k_busy m (kF m 6 (b / 12))) (by omega) (ki_nlt.mp c122)
              refine xr_aload_n d_M_take_125 rfl ?_
              refine xr_iload d_M_take_126 rfl ?_
              refine xr_V1i d_M_take_128 xv_5_127 hW.ref rfl rfl (Nat.le_of_ble_eq_true rfl) (by decide) (q_busy hW hB) (fun v h9s h9 => ?_)
              obtain ⟨rfl, e9⟩ := h9
              have e9 := e9.symm
              subst e9
              refine xr_aload_n d_M_take_131 rfl ?_
              refine xr_iload d_M_take_132 rfl ?_
              refine xr_V1i d_M_take_134 xv_5_127 hW.ref rfl rfl (Nat.le_of_ble_eq_true rfl) (by decide) (q_busy hW hB) (fun v h9s h9 => ?_)
              obtain ⟨rfl, e9⟩ := h9
              have e9 := e9.symm
              subst e9
              refine xr_icmp_ne (tgt := 149) d_M_take_137 rfl (fun c137 => ?_) (fun c137 => ?_)
              · have hst := hk.trans (if_neg (fun z => z.elim (fun y => by omega) (fun y => c137 (by rw [y.1]))))
                refine xr_iinc1 d_M_take_149 rfl ?_
                refine xr_goto (tgt := 29) d_M_take_152 rfl ?_
                rw [nI_1]
                have z := fun y w => ih (x + 1) y w (by omega) (by omega)
                simp only [hst] at z
                exact z _ _
              · have heq := (nI_eq (by omega) (by omega)).mp c137
                refine xr_iload d_M_take_140 rfl ?_
                refine xr_iload d_M_take_142 rfl ?_
                refine xr_icmp_ge (tgt := 149) d_M_take_144 rfl (fun c144 => ?_) (fun c144 => ?_)
                · have hst := hk.trans (if_neg (fun z => z.elim (fun y => by omega) (fun y => ki_nlt.mpr c144 y.2)))
                  refine xr_iinc1 d_M_take_149 rfl ?_
                  refine xr_goto (tgt := 29) d_M_take_152 rfl ?_
                  rw [nI_1]
                  have z := fun y w => ih (x + 1) y w (by omega) (by omega)
                  simp only [hst] at z
                  exact z _ _
                · have hk := hk.trans (if_pos (Or.inr ⟨heq, ki_nle.mp c144⟩))
                  refine xr_iload_n d_M_take_147 rfl ?_
                  refine xr_istore_n d_M_take_148 (Nat.le_of_ble_eq_true rfl) ?_
                  have hst := hk
                  refine xr_iinc1 d_M_take_149 rfl ?_
                  refine xr_goto (tgt := 29) d_M_take_152 rfl ?_
                  rw [nI_1]
                  have z := fun y w => ih (x + 1) y w (by omega) (by omega)
                  simp only [hst] at z
                  exact z _ _
          · have hst := hk.trans (if_neg (fun q => c68 q.2))
            refine xr_goto (tgt := 149) d_M_take_71 rfl ?_
            refine xr_iinc1 d_M_take_149 rfl ?_
            refine xr_goto (tgt := 29) d_M_take_152 rfl ?_
            rw [nI_1]
            have z := fun y w => ih (x + 1) y w (by omega) (by omega)
            simp only [hst] at z
            exact z _ _
theorem m_take {g : xm_G} {h : xm_H} {c m : kS} {R : Nat → Option Nat} {A : kA} (hW : kW c R m A h) (hB : kMb m) {a : Int32} : xm_S g 1 m_M_take (xm_entry m_M_take [.ref (A 6 0), .int a]) h (xq_i fun v h' => v = (o_take m a).2 ∧ kW c R (o_take m a).1 A h' ∧ h'.2 = h.2) := by
  show xm_S g 1 m_M_take (0, [some (.ref (A 6 0)), some (.int a), none, none, none, none], []) h _
  refine xr_aload_n d_M_take_0 rfl ?_
  refine xr_iconst (v := 0) d_M_take_1 rfl ?_
  refine kr_pm (m' := m) hW d_M_take_2 xf_5_75 (by decide) rfl rfl (fun h1 hW he0 => ?_)
  refine xr_aload_n d_M_take_5 rfl ?_
  refine xr_iload_n d_M_take_6 rfl ?_
  refine xr_V1i d_M_take_7 xv_5_124 hW.ref rfl rfl (Nat.le_of_ble_eq_true rfl) (by decide) (q_isRunner hW) (fun v h2 h9 => ?_)
  obtain ⟨rfl, e9⟩ := h9
  have e9 := e9.symm
  subst e9
  refine xr_if_eq (tgt := 23) d_M_take_10 rfl (fun c10 => ?_) (fun c10 => ?_)
  · have w : o_take m a = (m, -1) := if_neg (fun q => kbi_0.mp c10 q.1)
    refine xr_iconst (v := -1) d_M_take_23 rfl ?_
    refine xr_ireturn d_M_take_24 rfl rfl rfl ?_
    rw [w]
    exact ⟨_, rfl, rfl, hW, he0⟩
  · have hin := kbi_n0 c10
    obtain ⟨u, hu, rfl⟩ := k_in_ex (by omega) (kbi_n0 c10)
    have hnu : k_n (nI u) = u := nI_clamp (by omega)
    refine xr_aload_n d_M_take_13 rfl ?_
    refine xr_getf d_M_take_14 xf_5_72 hW.ref rfl ?_
    refine xr_iload_n d_M_take_17 rfl ?_
    refine kr_ild hW (f := 19) (by decide) rfl d_M_take_18 (n := u) rfl (show u < 6 by omega) ?_
    refine xr_iconst (v := -1) d_M_take_19 rfl ?_
    refine xr_icmp_eq (tgt := 25) d_M_take_20 rfl (fun c20 => ?_) (fun c20 => ?_)
    · refine xr_iconst (v := -1) d_M_take_25 rfl ?_
      refine xr_istore_n d_M_take_26 (Nat.le_of_ble_eq_true rfl) ?_
      refine xr_iconst (v := 0) d_M_take_27 rfl ?_
      refine xr_istore_n d_M_take_28 (Nat.le_of_ble_eq_true rfl) ?_
      exact ql_take (h0 := h) hW he0 hB hu hB.2.1 c20 (12 * kq m + 1) 0 none none (by omega) (by omega)
    · have w : o_take m (nI u) = (m, -1) := if_neg (fun q => c20 (by have z := q.2; rw [hnu] at z; exact z))
      refine xr_iconst (v := -1) d_M_take_23 rfl ?_
      refine xr_ireturn d_M_take_24 rfl rfl rfl ?_
      rw [w]
      exact ⟨_, rfl, rfl, hW, he0⟩
theorem q_pass {g : xm_G} {h : xm_H} {c m : kS} {R : Nat → Option Nat} {A : kA} (hW : kW c R m A h) (hB : kMb m) {R0 : Nat → Option Nat} (hI : kI m R0) {x : Nat} (hx : x < 120) : xm_S g 2 m_M_pass (xm_entry m_M_pass [.ref (A 6 0), .int (nI x)]) h (xq_v fun h' => kW c R (k_pass m x) A h' ∧ h'.2 = h.2) := by
  show xm_S g 2 m_M_pass (0, [some (.ref (A 6 0)), some (.int (nI x)), none], []) h _
  refine xr_aload_n d_M_pass_0 rfl ?_
  refine xr_getf d_M_pass_1 xf_5_42 hW.ref rfl ?_
  refine xr_iload_n d_M_pass_4 rfl ?_
  refine kr_ild hW (f := 9) (by decide) rfl d_M_pass_5 (n := x) rfl (show x < 120 from hx) ?_
  refine xr_iconst (v := 2) d_M_pass_6 rfl ?_
  refine xr_icmp_eq (tgt := 11) d_M_pass_7 rfl (fun c7 => ?_) (fun c7 => ?_)
  · obtain ⟨u, hR⟩ := hI.run2 c7
    have hu := (hI.2.1 x u hR).2.1
    have hro : k_rof m x = nI u := by rw [hI.rof (by omega), hR]; rfl
    have hk : k_pass m x = if k_lat m u then k_lose m x else if k_lim m x then k_fail m x else m := by
      unfold k_pass
      rw [if_pos c7, hro, show k_n (nI u) = u from nI_clamp (by omega)]
    refine xr_iload_n d_M_pass_11 rfl ?_
    refine xr_bipush (v := 12) d_M_pass_12 rfl ?_
    refine xr_irem d_M_pass_14 (by decide) ?_
    rw [k12r (by omega)]
    refine xr_istore_n d_M_pass_15 (Nat.le_of_ble_eq_true rfl) ?_
    refine xr_aload_n d_M_pass_16 rfl ?_
    refine xr_getf d_M_pass_17 xf_5_91 hW.ref rfl ?_
    refine xr_aload_n d_M_pass_20 rfl ?_
    refine xr_getf d_M_pass_21 xf_5_69 hW.ref rfl ?_
    refine xr_aload_n d_M_pass_24 rfl ?_
    refine xr_iload_n d_M_pass_25 rfl ?_
    refine xr_V1i d_M_pass_26 xv_5_134 hW.ref rfl rfl (Nat.le_of_ble_eq_true rfl) (by decide) (q_runnerOf hW hB (x := x)) (fun v h9s h9 => ?_)
    obtain ⟨rfl, e9⟩ := h9
    have e9 := e9.symm
    subst e9
    rw [hro]
    refine kr_ild hW (f := 18) (by decide) rfl d_M_pass_29 (n := u) rfl (show u < 6 by omega) ?_
    refine xr_isub d_M_pass_30 ?_
    refine xr_aload_n d_M_pass_31 rfl ?_
    refine xr_getf d_M_pass_32 xf_5_7 hW.ref rfl ?_
    refine xr_icmp_le (tgt := 87) d_M_pass_35 rfl (fun c35 => ?_) (fun c35 => ?_)
    · have hk := hk.trans (if_neg (ki_nlt.mpr c35))
      refine xr_aload_n d_M_pass_87 rfl ?_
      refine xr_getf d_M_pass_88 xf_5_17 hW.ref rfl ?_
      refine xr_iload_n d_M_pass_91 rfl ?_
      refine kr_ild hW (f := 1) (by decide) rfl d_M_pass_92 (n := x % 12) rfl (show x % 12 < 12 by omega) ?_
      refine xr_if_le (tgt := 121) d_M_pass_93 rfl (fun c93 => ?_) (fun c93 => ?_)
      · have w := hk.trans (if_neg (fun q => ki_nlt.mpr c93 q.1))
        have he : h.2 = h.2 := rfl
        refine xr_return d_M_pass_121 rfl rfl ?_
        exact ⟨rfl, by rw [w]; exact hW, he⟩
      · refine xr_aload_n d_M_pass_96 rfl ?_
        refine xr_getf d_M_pass_97 xf_5_91 hW.ref rfl ?_
        refine xr_aload_n d_M_pass_100 rfl ?_
        refine xr_getf d_M_pass_101 xf_5_45 hW.ref rfl ?_
        refine xr_iload_n d_M_pass_104 rfl ?_
        refine kr_ild hW (f := 10) (by decide) rfl d_M_pass_105 (n := x) rfl (show x < 120 from hx) ?_
        refine xr_isub d_M_pass_106 ?_
        refine xr_aload_n d_M_pass_107 rfl ?_
        refine xr_getf d_M_pass_108 xf_5_17 hW.ref rfl ?_
        refine xr_iload_n d_M_pass_111 rfl ?_
        refine kr_ild hW (f := 1) (by decide) rfl d_M_pass_112 (n := x % 12) rfl (show x % 12 < 12 by omega) ?_
        refine xr_icmp_lt (tgt := 121) d_M_pass_113 rfl (fun c113 => ?_) (fun c113 => ?_)
        · have w := hk.trans (if_neg (fun q => ki_nle.mpr c113 q.2))
          have he : h.2 = h.2 := rfl
          refine xr_return d_M_pass_121 rfl rfl ?_
          exact ⟨rfl, by rw [w]; exact hW, he⟩
        · have w := hk.trans (if_pos ⟨ki_nle.mp c93, ki_nlt.mp c113⟩)
          refine xr_aload_n d_M_pass_116 rfl ?_
          refine xr_iload_n d_M_pass_117 rfl ?_
          refine xr_V1v d_M_pass_118 xv_5_131 hW.ref rfl rfl (Nat.le_of_ble_eq_true rfl) (by decide) (q_failTry hW hB (x := x) hx) (fun h9s h9 => ?_)
          obtain ⟨hW, he⟩ := h9
          refine xr_return d_M_pass_121 rfl rfl ?_
          exact ⟨rfl, by rw [w]; exact hW, he⟩
    · have w := hk.trans (if_pos (ki_nle.mp c35))
      refine xr_aload_n d_M_pass_38 rfl ?_
      refine xr_getf d_M_pass_39 xf_5_54 hW.ref rfl ?_
      refine xr_iload_n d_M_pass_42 rfl ?_
      refine xr_dup2 d_M_pass_43 rfl rfl ?_
      refine kr_ild hW (f := 13) (by decide) rfl d_M_pass_44 (n := x) rfl (show x < 120 from hx) ?_
      refine xr_iconst (v := 1) d_M_pass_45 rfl ?_
      refine xr_iadd d_M_pass_46 ?_
      refine kr_ist hW (f := 13) (by decide) rfl d_M_pass_47 (n := x) rfl (show x < 120 from hx) (fun h9s hW he9 => ?_)
      have he1 := he9
      refine xr_aload_n d_M_pass_48 rfl ?_
      refine xr_getf d_M_pass_49 xf_5_57 hW.ref rfl ?_
      refine xr_iload_n d_M_pass_52 rfl ?_
      refine xr_dup2 d_M_pass_53 rfl rfl ?_
      refine kr_ild hW (f := 14) (by decide) rfl d_M_pass_54 (n := x) rfl (show x < 120 from hx) ?_
      rw [kw_F, if_neg (fun q => absurd q.1 (by decide))]
      refine xr_iconst (v := 1) d_M_pass_55 rfl ?_
      refine xr_iadd d_M_pass_56 ?_
      refine kr_ist hW (f := 14) (by decide) rfl d_M_pass_57 (n := x) rfl (show x < 120 from hx) (fun h9s hW he9 => ?_)
      have he2 := he9.trans he1
      refine xr_aload_n d_M_pass_58 rfl ?_
      refine xr_getf d_M_pass_59 xf_5_42 hW.ref rfl ?_
      refine xr_iload_n d_M_pass_62 rfl ?_
      refine xr_aload_n d_M_pass_63 rfl ?_
      refine xr_getf d_M_pass_64 xf_5_57 hW.ref rfl ?_
      refine xr_iload_n d_M_pass_67 rfl ?_
      refine kr_ild hW (f := 14) (by decide) rfl d_M_pass_68 (n := x) rfl (show x < 120 from hx) ?_
      rw [kw_F, if_pos ⟨rfl, rfl⟩]
      refine xr_iconst (v := 1) d_M_pass_69 rfl ?_
      refine xr_icmp_le (tgt := 77) d_M_pass_70 rfl (fun c70 => ?_) (fun c70 => ?_)
      · have hv : (if 1 < kF m 14 x + 1 then (4 : Int32) else 1) = 1 := if_neg (ki_nlt.mpr c70)
        refine xr_iconst (v := 1) d_M_pass_77 rfl ?_
        refine kr_ist hW (f := 9) (by decide) rfl d_M_pass_78 (n := x) rfl (show x < 120 from hx) (fun h9s hW he9 => ?_)
        have he3 := he9.trans he2
        refine xr_aload_n d_M_pass_79 rfl ?_
        refine xr_iload_n d_M_pass_80 rfl ?_
        refine xr_V1v d_M_pass_81 xv_5_104 hW.ref rfl rfl (Nat.le_of_ble_eq_true rfl) (by decide) (q_free hW hB (x := x)) (fun h9s h9 => ?_)
        obtain ⟨hW, he4⟩ := h9
        have he := he4.trans he3
        have hW : kW c R (k_lose m x) A h9s := by unfold k_lose; rw [hv]; exact hW
        refine xr_goto (tgt := 121) d_M_pass_84 rfl ?_
        refine xr_return d_M_pass_121 rfl rfl ?_
        exact ⟨rfl, by rw [w]; exact hW, he⟩
      · have hv : (if 1 < kF m 14 x + 1 then (4 : Int32) else 1) = 4 := if_pos (ki_nle.mp c70)
        refine xr_iconst (v := 4) d_M_pass_73 rfl ?_
        refine xr_goto (tgt := 78) d_M_pass_74 rfl ?_
        refine kr_ist hW (f := 9) (by decide) rfl d_M_pass_78 (n := x) rfl (show x < 120 from hx) (fun h9s hW he9 => ?_)
        have he3 := he9.trans he2
        refine xr_aload_n d_M_pass_79 rfl ?_
        refine xr_iload_n d_M_pass_80 rfl ?_
        refine xr_V1v d_M_pass_81 xv_5_104 hW.ref rfl rfl (Nat.le_of_ble_eq_true rfl) (by decide) (q_free hW hB (x := x)) (fun h9s h9 => ?_)
        obtain ⟨hW, he4⟩ := h9
        have he := he4.trans he3
        have hW : kW c R (k_lose m x) A h9s := by unfold k_lose; rw [hv]; exact hW
        refine xr_goto (tgt := 121) d_M_pass_84 rfl ?_
        refine xr_return d_M_pass_121 rfl rfl ?_
        exact ⟨rfl, by rw [w]; exact hW, he⟩
  · have w : k_pass m x = m := if_neg c7
    refine xr_return d_M_pass_10 rfl rfl ?_
    exact ⟨rfl, by rw [w]; exact hW, rfl⟩
theorem ql_tick2 {g : xm_G} {h0 : xm_H} {c : kS} {R : Nat → Option Nat} {A : kA} {s : kS} (hB : kMb s) {N i : Nat} {Q : Option Value → xm_H → Prop} (hQ : ∀ (h : xm_H) (R0 : Nat → Option Nat) (x3 : Option Value), kW c R (k_passN s (12 * kq s)) A h → kI (k_passN s (12 * kq s)) R0 → h.2 = h0.2 → xm_S g 4 m_M_tick (59, [some (.ref (A 6 0)), some (.int (nI N)), some (.int (nI i)), x3], []) h Q) : ∀ (n : Nat) (x : Nat) (R0 : Nat → Option Nat) (h : xm_H), kW c R (k_passN s x) A h → kI (k_passN s x) R0 → h.2 = h0.2 → x ≤ 12 * kq s → 12 * kq s < x + n → xm_S g 4 m_M_tick (37, [some (.ref (A 6 0)), some (.int (nI N)), some (.int (nI i)), some (.int (nI x))], []) h (Q) := by
  intro n
  induction n with
  | zero => intros; omega
  | succ n ih =>
    intro x R0 h hW hI he h1 h2
    have e1 := k_passN_1 s x
    obtain ⟨R1, hI1⟩ := hI.pass x
    have hk : k_passN s (x + 1) = k_pass (k_passN s x) x := rfl
    generalize hC : k_passN s x = C at *
    have hkq : kq C = kq s := congrArg (fun z => z.2.2) e1
    have hBC : kMb C := by unfold kMb kj kr kq at *; rw [e1]; exact hB
    rw [← hkq] at h1 h2
    refine xr_iload_n d_M_tick_37 rfl ?_
    refine xr_bipush (v := 12) d_M_tick_38 rfl ?_
    refine xr_aload_n d_M_tick_40 rfl ?_
    refine xr_getf d_M_tick_41 xf_5_81 hW.ref rfl ?_
    refine xr_imul d_M_tick_44 ?_
    rw [k12m]
    refine xr_icmp_ge (tgt := 59) d_M_tick_45 rfl (fun c45 => ?_) (fun c45 => ?_)
    · have hre : x = 12 * kq C := by have := k_ge_ge (by omega) c45; omega
      have hCe : k_passN s (12 * kq s) = C := by rw [← hkq, ← hre]; exact hC
      exact hQ h R0 _ (by rw [hCe]; exact hW) (by rw [hCe]; exact hI) he
    · have hxl : x < 12 * kq C := k_ge_lt (by omega) (by omega) c45
      refine xr_aload_n d_M_tick_48 rfl ?_
      refine xr_iload_n d_M_tick_49 rfl ?_
      refine xr_V1v d_M_tick_50 xv_5_137 hW.ref rfl rfl (Nat.le_of_ble_eq_true rfl) (by decide) (q_pass hW hBC hI (x := x) (by omega)) (fun h9s h9 => ?_)
      obtain ⟨hW, he1⟩ := h9
      refine xr_iinc1 d_M_tick_53 rfl ?_
      refine xr_goto (tgt := 37) d_M_tick_56 rfl ?_
      rw [nI_1]
      exact ih (x + 1) R1 _ (by rw [hk]; exact hW) (by rw [hk]; exact hI1) (he1.trans he) (by omega) (by omega)
theorem ql_tick {g : xm_G} {h0 : xm_H} {c m : kS} {R : Nat → Option Nat} {A : kA} (hB : kMb m) {N : Nat} (hN : N < 1001) : ∀ (n : Nat) (i : Nat) (R0 : Nat → Option Nat) (x3 : Option Value) (h : xm_H), kW c R (k_tickN m i) A h → kI (k_tickN m i) R0 → h.2 = h0.2 → i ≤ N → N < i + n → xm_S g 4 m_M_tick (20, [some (.ref (A 6 0)), some (.int (nI N)), some (.int (nI i)), x3], []) h (xq_i fun v h' => v = kc (k_settle (k_tickN m N)) ∧ kW c R (k_settle (k_tickN m N)) A h' ∧ h'.2 = h0.2) := by
  intro n
  induction n with
  | zero => intros; omega
  | succ n ih =>
    intro i R0 x3 h hW hI he h1 h2
    have e1 := k_tickN_1 m i
    have hk : k_tickN m (i + 1) = k_tick1 (k_tickN m i) := rfl
    generalize hC : k_tickN m i = C at *
    have hBC : kMb C := by unfold kMb kj kr kq at *; rw [e1]; exact hB
    refine xr_iload_n d_M_tick_20 rfl ?_
    refine xr_iload_n d_M_tick_21 rfl ?_
    refine xr_icmp_ge (tgt := 65) d_M_tick_22 rfl (fun c22 => ?_) (fun c22 => ?_)
    · have hie : i = N := by have := k_ge_ge (by omega) c22; omega
      have hCe : k_tickN m N = C := by rw [← hie]; exact hC
      refine xr_aload_n d_M_tick_65 rfl ?_
      refine xr_V0v d_M_tick_66 xv_5_114 hW.ref rfl (Nat.le_of_ble_eq_true rfl) (by decide) (q_settle hW hBC) (fun h9s h9 => ?_)
      obtain ⟨hW, he7⟩ := h9
      refine xr_aload_n d_M_tick_69 rfl ?_
      refine xr_getf d_M_tick_70 xf_5_91 hW.ref rfl ?_
      refine xr_ireturn d_M_tick_73 rfl rfl rfl ?_
      refine ⟨_, rfl, ?_, ?_, he7.trans he⟩
      · rw [hCe]
      · rw [hCe]; exact hW
    · have hil : i < N := k_ge_lt (by omega) (by omega) c22
      refine xr_aload_n d_M_tick_25 rfl ?_
      refine xr_dup d_M_tick_26 rfl ?_
      refine xr_getf d_M_tick_27 xf_5_91 hW.ref rfl ?_
      refine xr_iconst (v := 1) d_M_tick_30 rfl ?_
      refine xr_iadd d_M_tick_31 ?_
      refine kr_pm (m' := kck C (kc C + 1)) hW d_M_tick_32 xf_5_91 (by decide) rfl rfl (fun h9s hW he9 => ?_)
      have hI : kI (kck C (kc C + 1)) R0 := hI.clk _
      refine xr_iconst (v := 0) d_M_tick_35 rfl ?_
      refine xr_istore_n d_M_tick_36 (Nat.le_of_ble_eq_true rfl) ?_
      refine ql_tick2 (h0 := h0) (s := kck C (kc C + 1)) hBC (fun h R1 x3 hW hI he => ?_) (12 * kq C + 1) 0 R0 _ hW hI (he9.trans he) (by omega) (by show 12 * kq C < _; omega)
      have hst : k_tickN m (i + 1) = k_passN (kck C (kc C + 1)) (12 * kq C) := hk
      refine xr_iinc1 d_M_tick_59 rfl ?_
      refine xr_goto (tgt := 20) d_M_tick_62 rfl ?_
      rw [nI_1]
      exact ih (i + 1) R1 _ _ (by rw [hst]; exact hW) (by rw [hst]; exact hI) he (by omega) (by omega)
theorem m_tick {g : xm_G} {h : xm_H} {c m : kS} {R : Nat → Option Nat} {A : kA} (hW : kW c R m A h) (hB : kMb m) {R0 : Nat → Option Nat} (hI : kI m R0) {a : Int32} : xm_S g 4 m_M_tick (xm_entry m_M_tick [.ref (A 6 0), .int a]) h (xq_i fun v h' => v = (o_tick m a).2 ∧ kW c R (o_tick m a).1 A h' ∧ h'.2 = h.2) := by
  show xm_S g 4 m_M_tick (0, [some (.ref (A 6 0)), some (.int a), none, none], []) h _
  refine xr_aload_n d_M_tick_0 rfl ?_
  refine xr_iconst (v := 0) d_M_tick_1 rfl ?_
  refine kr_pm (m' := m) hW d_M_tick_2 xf_5_75 (by decide) rfl rfl (fun h1 hW he0 => ?_)
  refine xr_iload_n d_M_tick_5 rfl ?_
  refine xr_if_lt (tgt := 16) d_M_tick_6 rfl (fun c6 => ?_) (fun c6 => ?_)
  · have w : o_tick m a = (m, -1) := if_pos (Or.inl c6)
    refine xr_iconst (v := -1) d_M_tick_16 rfl ?_
    refine xr_ireturn d_M_tick_17 rfl rfl rfl ?_
    rw [w]
    exact ⟨_, rfl, rfl, hW, he0⟩
  · refine xr_iload_n d_M_tick_9 rfl ?_
    refine xr_sipush (v := 1000) d_M_tick_10 rfl ?_
    refine xr_icmp_le (tgt := 18) d_M_tick_13 rfl (fun c13 => ?_) (fun c13 => ?_)
    · obtain ⟨N, hN, rfl⟩ := k_in_ex (v := a) (n := 1001) (by decide) ⟨c6, k_le1000 c13⟩
      have w : o_tick m (nI N) = (k_settle (k_tickN m N), kc (k_settle (k_tickN m N))) := by
        unfold o_tick
        rw [show k_n (nI N) = N from nI_clamp (by omega), if_neg (fun q => q.elim c6 (ki_nlt.mpr c13))]
      refine xr_iconst (v := 0) d_M_tick_18 rfl ?_
      refine xr_istore_n d_M_tick_19 (Nat.le_of_ble_eq_true rfl) ?_
      rw [w]
      dsimp only
      exact ql_tick (h0 := h) hB hN (N + 1) 0 R0 none h1 hW hI he0 (by omega) (by omega)
    · have w : o_tick m a = (m, -1) := if_pos (Or.inr (ki_nle.mp c13))
      refine xr_iconst (v := -1) d_M_tick_16 rfl ?_
      refine xr_ireturn d_M_tick_17 rfl rfl rfl ?_
      rw [w]
      exact ⟨_, rfl, rfl, hW, he0⟩
