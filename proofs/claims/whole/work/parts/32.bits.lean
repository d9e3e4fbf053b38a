/-! bits: what Integer.bitCount answers; a job's needs; whether a task may run -/
def kus (x z : Int32) : Int32 := (x.toUInt32 >>> (z.toUInt32 &&& Int32.toUInt32 31)).toInt32
def kbc1 (v : Int32) : Int32 := v - (kus v 1 &&& 1431655765)
def kbc2 (v : Int32) : Int32 := (v &&& 858993459) + (kus v 2 &&& 858993459)
def kbc3 (v : Int32) : Int32 := (v + kus v 4) &&& 252645135
def kbc4 (v : Int32) : Int32 := v + kus v 8
def kbc5 (v : Int32) : Int32 := v + kus v 16
def kbc (v : Int32) : Int32 := kbc5 (kbc4 (kbc3 (kbc2 (kbc1 v)))) &&& 63
theorem kbc_ok : ∀ a, a < 256 → (2 ≤ kbc (nI a) ↔ 1 < k_cnt (nI a) 8) := by decide +kernel
theorem s_bitCount {g : xm_G} {h : xm_H} {v : Int32} : xm_S g 0 m_I_bitCount (xm_entry m_I_bitCount [.int v]) h (xq_i fun r h' => r = kbc v ∧ h' = h) := by
  show xm_S g 0 m_I_bitCount (0, [some (.int v)], []) h _
  refine xr_iload_n d_I_bitCount_0 rfl ?_
  refine xr_iload_n d_I_bitCount_1 rfl ?_
  refine xr_iconst (v := 1) d_I_bitCount_2 rfl ?_
  refine xr_iushr d_I_bitCount_3 ?_
  refine xr_ldcw d_I_bitCount_4 xl_7_265 ?_
  refine xr_iand d_I_bitCount_7 ?_
  refine xr_isub d_I_bitCount_8 ?_
  refine xr_istore_n d_I_bitCount_9 (Nat.le_of_ble_eq_true rfl) ?_
  refine xr_iload_n d_I_bitCount_10 rfl ?_
  refine xr_ldcw d_I_bitCount_11 xl_7_266 ?_
  refine xr_iand d_I_bitCount_14 ?_
  refine xr_iload_n d_I_bitCount_15 rfl ?_
  refine xr_iconst (v := 2) d_I_bitCount_16 rfl ?_
  refine xr_iushr d_I_bitCount_17 ?_
  refine xr_ldcw d_I_bitCount_18 xl_7_266 ?_
  refine xr_iand d_I_bitCount_21 ?_
  refine xr_iadd d_I_bitCount_22 ?_
  refine xr_istore_n d_I_bitCount_23 (Nat.le_of_ble_eq_true rfl) ?_
  refine xr_iload_n d_I_bitCount_24 rfl ?_
  refine xr_iload_n d_I_bitCount_25 rfl ?_
  refine xr_iconst (v := 4) d_I_bitCount_26 rfl ?_
  refine xr_iushr d_I_bitCount_27 ?_
  refine xr_iadd d_I_bitCount_28 ?_
  refine xr_ldcw d_I_bitCount_29 xl_7_267 ?_
  refine xr_iand d_I_bitCount_32 ?_
  refine xr_istore_n d_I_bitCount_33 (Nat.le_of_ble_eq_true rfl) ?_
  refine xr_iload_n d_I_bitCount_34 rfl ?_
  refine xr_iload_n d_I_bitCount_35 rfl ?_
  refine xr_bipush (v := 8) d_I_bitCount_36 rfl ?_
  refine xr_iushr d_I_bitCount_38 ?_
  refine xr_iadd d_I_bitCount_39 ?_
  refine xr_istore_n d_I_bitCount_40 (Nat.le_of_ble_eq_true rfl) ?_
  refine xr_iload_n d_I_bitCount_41 rfl ?_
  refine xr_iload_n d_I_bitCount_42 rfl ?_
  refine xr_bipush (v := 16) d_I_bitCount_43 rfl ?_
  refine xr_iushr d_I_bitCount_45 ?_
  refine xr_iadd d_I_bitCount_46 ?_
  refine xr_istore_n d_I_bitCount_47 (Nat.le_of_ble_eq_true rfl) ?_
  refine xr_iload_n d_I_bitCount_48 rfl ?_
  refine xr_bipush (v := 63) d_I_bitCount_49 rfl ?_
  refine xr_iand d_I_bitCount_51 ?_
  refine xr_ireturn d_I_bitCount_52 rfl rfl rfl ?_
  exact ⟨_, rfl, rfl, rfl⟩
theorem s_isNeeding {g : xm_G} {h : xm_H} {c m : kS} {R : Nat → Option Nat} {A : kA} (hW : kW c R m A h) {j k : Nat} (hj : j < kj c) : xm_S g 0 m_Job_isNeeding (xm_entry m_Job_isNeeding [.ref (A 1 j), .int (nI k)]) h (xq_i fun v h' => v = kbi (k_bit (kF c 3 j) k) ∧ h' = h) := by
  show xm_S g 0 m_Job_isNeeding (0, [some (.ref (A 1 j)), some (.int (nI k))], []) h _
  refine xr_aload_n d_Job_isNeeding_0 rfl ?_
  refine xr_getf d_Job_isNeeding_1 xf_0_7 (hW.job hj) rfl ?_
  refine xr_iload_n d_Job_isNeeding_4 rfl ?_
  refine xr_ishr d_Job_isNeeding_5 ?_
  refine xr_iconst (v := 1) d_Job_isNeeding_6 rfl ?_
  refine xr_iand d_Job_isNeeding_7 ?_
  refine xr_if_eq (tgt := 15) d_Job_isNeeding_8 rfl (fun c8 => ?_) (fun c8 => ?_)
  · refine xr_iconst (v := 0) d_Job_isNeeding_15 rfl ?_
    refine xr_ireturn d_Job_isNeeding_16 rfl rfl rfl ?_
    refine ⟨_, rfl, ?_, rfl⟩
    first | exact (kbi_t (by assumption)).symm | exact (kbi_f (fun q => q (by assumption))).symm
  · refine xr_iconst (v := 1) d_Job_isNeeding_11 rfl ?_
    refine xr_goto (tgt := 16) d_Job_isNeeding_12 rfl ?_
    refine xr_ireturn d_Job_isNeeding_16 rfl rfl rfl ?_
    refine ⟨_, rfl, ?_, rfl⟩
    first | exact (kbi_t (by assumption)).symm | exact (kbi_f (fun q => q (by assumption))).symm
theorem s_isFreeToRun {g : xm_G} {h : xm_H} {c m : kS} {R : Nat → Option Nat} {A : kA} (hW : kW c R m A h) {x : Nat} (hx : x < 12 * kq c ∧ x % 12 < kj c) (ha : ∃ a, a < 256 ∧ kF c 16 x = nI a) : xm_S g 1 m_Tsk_isFreeToRun (xm_entry m_Tsk_isFreeToRun [.ref (A 5 x)]) h (xq_i fun v h' => v = kbi (kF c 5 (x % 12) = 0 ∨ 1 < k_cnt (kF c 16 x) 8) ∧ h' = h) := by
  show xm_S g 1 m_Tsk_isFreeToRun (0, [some (.ref (A 5 x))], []) h _
  refine xr_aload_n d_Tsk_isFreeToRun_0 rfl ?_
  refine xr_getf d_Tsk_isFreeToRun_1 xf_3_48 (hW.tsk hx) rfl ?_
  refine xr_getf d_Tsk_isFreeToRun_4 xf_3_55 (hW.job hx.2) rfl ?_
  refine xr_if_eq (tgt := 21) d_Tsk_isFreeToRun_7 rfl (fun c7 => ?_) (fun c7 => ?_)
  · refine xr_iconst (v := 1) d_Tsk_isFreeToRun_21 rfl ?_
    refine xr_goto (tgt := 26) d_Tsk_isFreeToRun_22 rfl ?_
    refine xr_ireturn d_Tsk_isFreeToRun_26 rfl rfl rfl ?_
    refine ⟨_, rfl, ?_, rfl⟩
    first | exact (kbi_t (Or.inl (by assumption))).symm | exact (kbi_t (Or.inr (hbc.mp (ki_nlt.mp (by assumption))))).symm | exact (kbi_f (fun q => q.elim (by assumption) (fun z => absurd (hbc.mpr z) (ki_nle.mpr (by assumption))))).symm
  · refine xr_aload_n d_Tsk_isFreeToRun_10 rfl ?_
    refine xr_getf d_Tsk_isFreeToRun_11 xf_3_22 (hW.tsk hx) rfl ?_
    refine xr_S1i d_Tsk_isFreeToRun_14 xs_3_60 rfl rfl (Nat.le_of_ble_eq_true rfl) (by decide) s_bitCount (fun v h1 h9 => ?_)
    obtain ⟨rfl, rfl⟩ := h9
    obtain ⟨a, ha1, ha2⟩ := ha
    have hbc := kbc_ok a ha1
    rw [← ha2] at hbc
    refine xr_iconst (v := 2) d_Tsk_isFreeToRun_17 rfl ?_
    refine xr_icmp_lt (tgt := 25) d_Tsk_isFreeToRun_18 rfl (fun c18 => ?_) (fun c18 => ?_)
    · refine xr_iconst (v := 0) d_Tsk_isFreeToRun_25 rfl ?_
      refine xr_ireturn d_Tsk_isFreeToRun_26 rfl rfl rfl ?_
      refine ⟨_, rfl, ?_, rfl⟩
      first | exact (kbi_t (Or.inl (by assumption))).symm | exact (kbi_t (Or.inr (hbc.mp (ki_nlt.mp (by assumption))))).symm | exact (kbi_f (fun q => q.elim (by assumption) (fun z => absurd (hbc.mpr z) (ki_nle.mpr (by assumption))))).symm
    · refine xr_iconst (v := 1) d_Tsk_isFreeToRun_21 rfl ?_
      refine xr_goto (tgt := 26) d_Tsk_isFreeToRun_22 rfl ?_
      refine xr_ireturn d_Tsk_isFreeToRun_26 rfl rfl rfl ?_
      refine ⟨_, rfl, ?_, rfl⟩
      first | exact (kbi_t (Or.inl (by assumption))).symm | exact (kbi_t (Or.inr (hbc.mp (ki_nlt.mp (by assumption))))).symm | exact (kbi_f (fun q => q.elim (by assumption) (fun z => absurd (hbc.mpr z) (ki_nle.mpr (by assumption))))).symm
