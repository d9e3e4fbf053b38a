/-! the world at the beginning; the law's road -/
def k_s0 : kS := ((0, 0, 0), (0, 10), fun _ _ => 0)
theorem k_bit_0 : ∀ k, k < 12 → ¬ k_bit 0 k := by decide +kernel
theorem kI.s0 : kI k_s0 (fun _ => none) := ⟨⟨by decide, by decide, by decide⟩, fun _ _ q => (by cases q), fun u hu => absurd hu (Nat.not_lt_zero _), fun x hx => absurd hx.1 (Nat.not_lt_zero _), fun _ _ _ _ _ => rfl, fun _ => ⟨fun _ => rfl, fun _ => rfl⟩, fun _ => Or.inl rfl, fun _ k _ hk => k_bit_0 k hk, fun _ => ⟨0, by decide, rfl⟩⟩
theorem kI8.s0 : kI8 k_s0 := fun _ hx => absurd hx.1 (Nat.not_lt_zero _)
theorem csM_get {n f : Nat} (h : f < n) : (csM n)[f]? = some (.inr (km_ty f, km_len f, fun _ => .int 0)) := by
  unfold csM
  rw [List.getElem?_map, List.getElem?_range h]
  rfl
/-- where the law's objects lie, at the beginning -/
def kA0 (z : Nat) : kA := fun k i => if k = 6 then z + 4 + i else z + i
theorem kW.s0 {h1 h2 : xm_H} {z : Nat} (hs : h2.2.1 = z + 25) (h00 : h2.1 z = some (.inl (4, [.ref (z + 1 + 0), .ref (z + 1 + 1), .ref (z + 1 + 2), .int 0, .int 0, .int 0, .int 0, .int 10]))) (h0j : ∀ j e, ([.inr (2, 12, fun _ => .null), .inr (3, 6, fun _ => .null), .inr (4, 10, fun _ => .null)] : List xm_E)[j]? = some e → h2.1 (z + 1 + j) = some e) (h60 : h2.1 (z + 4) = some (.inl (5, [.int 0, .int 0, .int 10, .int 0, .int 0, .int 0, .ref (z + 4 + 1 + 0), .ref (z + 4 + 1 + 1), .ref (z + 4 + 1 + 2), .ref (z + 4 + 1 + 3), .ref (z + 4 + 1 + 4), .ref (z + 4 + 1 + 5), .ref (z + 4 + 1 + 6), .ref (z + 4 + 1 + 7), .ref (z + 4 + 1 + 8), .ref (z + 4 + 1 + 9), .ref (z + 4 + 1 + 10), .ref (z + 4 + 1 + 11), .ref (z + 4 + 1 + 12), .ref (z + 4 + 1 + 13), .ref (z + 4 + 1 + 14), .ref (z + 4 + 1 + 15), .ref (z + 4 + 1 + 16), .ref (z + 4 + 1 + 17), .ref (z + 4 + 1 + 18), .ref (z + 4 + 1 + 19)]))) (h6j : ∀ j e, (csM 20)[j]? = some e → h2.1 (z + 4 + 1 + j) = some e) : kW k_s0 (fun _ => none) k_s0 (kA0 z) h2 := by
  have e1 : ∀ (a : Nat → Nat) (n : Nat), (fun j => va_rf (if j < 0 then some (a j) else none)) = fun _ => Value.null := fun a n => funext fun j => by rw [if_neg (Nat.not_lt_zero _)]; rfl
  have hv : ∀ k i, kv k_s0 k i → (k = 0 ∧ i < 4) ∨ (k = 6 ∧ i < 21) := fun k i hk => by
    match k with
    | 0 => exact Or.inl ⟨rfl, hk⟩
    | 1 => exact absurd hk (Nat.not_lt_zero _)
    | 2 => exact absurd hk (Nat.not_lt_zero _)
    | 3 => exact absurd hk (Nat.not_lt_zero _)
    | 4 => exact absurd hk (Nat.not_lt_zero _)
    | 5 => exact absurd hk.1 (Nat.not_lt_zero _)
    | 6 => exact Or.inr ⟨rfl, hk⟩
    | k + 7 => exact hk.elim
  refine ⟨fun k i hk => ?_, fun k i k' i' hk hk' e => ?_, by decide, by decide, by decide⟩
  · rcases hv k i hk with ⟨rfl, hi⟩ | ⟨rfl, hi⟩
    · refine ⟨?_, by show z + i < _; omega⟩
      rcases (show i = 0 ∨ i = 1 ∨ i = 2 ∨ i = 3 by omega) with rfl | rfl | rfl | rfl
      · exact h00
      · refine (h0j 0 _ rfl).trans ?_
        show _ = some (Sum.inr (2, 12, fun j => va_rf (if j < 0 then some (kA0 z 1 j) else none)))
        rw [e1 _ 0]
      · refine (h0j 1 _ rfl).trans ?_
        show _ = some (Sum.inr (3, 6, fun j => va_rf (if j < 0 then some (kA0 z 2 j) else none)))
        rw [e1 _ 0]
      · refine (h0j 2 _ rfl).trans ?_
        show _ = some (Sum.inr (4, 10, fun j => va_rf (if j < 0 then some (kA0 z 3 j) else none)))
        rw [e1 _ 0]
    · refine ⟨?_, by show z + 4 + i < _; omega⟩
      match i, hi with
      | 0, _ => exact h60
      | f + 1, hi =>
        have q := h6j f _ (csM_get (by omega))
        rw [show z + 4 + 1 + f = z + 4 + (f + 1) by omega] at q
        exact q
  · rcases hv k i hk with ⟨rfl, hi⟩ | ⟨rfl, hi⟩ <;> rcases hv k' i' hk' with ⟨rfl, hi'⟩ | ⟨rfl, hi'⟩
    · have e : z + i = z + i' := e
      exact ⟨rfl, by omega⟩
    · have e : z + i = z + 4 + i' := e
      omega
    · have e : z + 4 + i = z + i' := e
      omega
    · have e : z + 4 + i = z + 4 + i' := e
      exact ⟨rfl, by omega⟩
theorem kr_sld {g : xm_G} {d pc : Nat} {y : xm_M} {ls : List (Option Value)} {st : List Value} {h : xm_H} {Q : Option Value → xm_H → Prop} {n : Nat} {x : Int32} (hd : decode (xt_code y) pc = .ok (.iaload, 1)) (hx : x = nI n) (hn : n < xm_n g) (hL : xm_n g ≤ 3072) (K : xm_S g d y (pc + 1, ls, .int (xm_x g n) :: st) h Q) : xm_S g d y (pc, ls, .int x :: .ref (xm_b g) :: st) h Q := by
  subst hx
  refine xr_sld hd (vp_in_nI hn (by omega)) ?_
  rw [nI_clamp (by omega)]
  exact K
theorem k_l6 {L i : Nat} (hL : L ≤ 3072) (hi : i ≤ 3072) : nI L - 6 < nI i ↔ L < i + 6 := by
  rw [Int32.lt_iff_toInt_lt, Int32.toInt_sub, nI_toInt (by omega), nI_toInt (by omega), ti_6, Int.bmod_eq_of_le (by omega) (by omega)]
  omega
/-- class and reference have the same numbers -/
def kLI (X M : Nat) (s : kS) (h : xm_H) : Prop := ∃ (R : Nat → Option Nat) (A : kA), kW s R s A h ∧ kI s R ∧ kI8 s ∧ A 0 0 = X ∧ A 6 0 = M
theorem law_job {g : xm_G} {h : xm_H} {s : kS} {X M i : Nat} {Q : Option Value → xm_H → Prop} (hs : kLI X M s h) (hL : xm_n g ≤ 3072) (hi : i + 6 ≤ xm_n g) (K : ∀ (s' : kS) (h' : xm_H), kLI X M s' h' → h'.2.1 ≤ h.2.1 + 14 → h'.2.2 ≤ h.2.2 + 170 → xm_S g 6 m_L_law (18, [some (.ref (xm_b g)), some (.ref X), some (.ref M), some (.int (nI (i + 6)))], []) h' Q) : xm_S g 6 m_L_law (112, [some (.ref (xm_b g)), some (.ref X), some (.ref M), some (.int (nI i))], []) h Q := by
  obtain ⟨R, A, hW, hI, h8, rfl, rfl⟩ := hs
  have hI0 := hI
  have hB : kMb s := hI.1
  rcases Classical.em (xm_x g (i + 4) = 0) with z4 | z4 <;> rcases Classical.em (xm_x g (i + 5) = 0) with z5 | z5
  · refine xr_aload_n d_L_law_112 rfl ?_
    refine xr_aload_n d_L_law_113 rfl ?_
    refine xr_iload_n d_L_law_114 rfl ?_
    refine xr_iconst (v := 1) d_L_law_115 rfl ?_
    refine xr_iadd d_L_law_116 ?_
    refine kr_sld (n := i + 1) d_L_law_117 (nI_add i 1) (by omega) hL ?_
    refine xr_aload_n d_L_law_118 rfl ?_
    refine xr_iload_n d_L_law_119 rfl ?_
    refine xr_iconst (v := 2) d_L_law_120 rfl ?_
    refine xr_iadd d_L_law_121 ?_
    refine kr_sld (n := i + 2) d_L_law_122 (nI_add i 2) (by omega) hL ?_
    refine xr_aload_n d_L_law_123 rfl ?_
    refine xr_iload_n d_L_law_124 rfl ?_
    refine xr_iconst (v := 3) d_L_law_125 rfl ?_
    refine xr_iadd d_L_law_126 ?_
    refine kr_sld (n := i + 3) d_L_law_127 (nI_add i 3) (by omega) hL ?_
    refine xr_aload_n d_L_law_128 rfl ?_
    refine xr_iload_n d_L_law_129 rfl ?_
    refine xr_iconst (v := 4) d_L_law_130 rfl ?_
    refine xr_iadd d_L_law_131 ?_
    refine kr_sld (n := i + 4) d_L_law_132 (nI_add i 4) (by omega) hL ?_
    refine xr_if_eq (tgt := 140) d_L_law_133 rfl (fun _ => ?_) (fun n9 => absurd z4 n9)
    refine xr_iconst (v := 0) d_L_law_140 rfl ?_
    refine xr_aload_n d_L_law_141 rfl ?_
    refine xr_iload_n d_L_law_142 rfl ?_
    refine xr_iconst (v := 5) d_L_law_143 rfl ?_
    refine xr_iadd d_L_law_144 ?_
    refine kr_sld (n := i + 5) d_L_law_145 (nI_add i 5) (by omega) hL ?_
    refine xr_if_eq (tgt := 153) d_L_law_146 rfl (fun _ => ?_) (fun n9 => absurd z5 n9)
    refine xr_iconst (v := 0) d_L_law_153 rfl ?_
    refine xr_V5i d_L_law_154 xv_6_13 hW.this rfl rfl rfl rfl rfl rfl (Nat.le_of_ble_eq_true rfl) (by decide) (p_job hW (Or.inl rfl) (Or.inl rfl) hI h8) (fun v h1 h9 => ?_)
    obtain ⟨rfl, R', A', hW, hI', h8', e0, e6, g1, g2⟩ := h9
    rw [← e0, ← e6] at K ⊢
    refine xr_aload_n d_L_law_157 rfl ?_
    refine xr_aload_n d_L_law_158 rfl ?_
    refine xr_iload_n d_L_law_159 rfl ?_
    refine xr_iconst (v := 1) d_L_law_160 rfl ?_
    refine xr_iadd d_L_law_161 ?_
    refine kr_sld (n := i + 1) d_L_law_162 (nI_add i 1) (by omega) hL ?_
    refine xr_aload_n d_L_law_163 rfl ?_
    refine xr_iload_n d_L_law_164 rfl ?_
    refine xr_iconst (v := 2) d_L_law_165 rfl ?_
    refine xr_iadd d_L_law_166 ?_
    refine kr_sld (n := i + 2) d_L_law_167 (nI_add i 2) (by omega) hL ?_
    refine xr_aload_n d_L_law_168 rfl ?_
    refine xr_iload_n d_L_law_169 rfl ?_
    refine xr_iconst (v := 3) d_L_law_170 rfl ?_
    refine xr_iadd d_L_law_171 ?_
    refine kr_sld (n := i + 3) d_L_law_172 (nI_add i 3) (by omega) hL ?_
    refine xr_aload_n d_L_law_173 rfl ?_
    refine xr_iload_n d_L_law_174 rfl ?_
    refine xr_iconst (v := 4) d_L_law_175 rfl ?_
    refine xr_iadd d_L_law_176 ?_
    refine kr_sld (n := i + 4) d_L_law_177 (nI_add i 4) (by omega) hL ?_
    refine xr_if_eq (tgt := 185) d_L_law_178 rfl (fun _ => ?_) (fun n9 => absurd z4 n9)
    refine xr_iconst (v := 0) d_L_law_185 rfl ?_
    refine xr_aload_n d_L_law_186 rfl ?_
    refine xr_iload_n d_L_law_187 rfl ?_
    refine xr_iconst (v := 5) d_L_law_188 rfl ?_
    refine xr_iadd d_L_law_189 ?_
    refine kr_sld (n := i + 5) d_L_law_190 (nI_add i 5) (by omega) hL ?_
    refine xr_if_eq (tgt := 198) d_L_law_191 rfl (fun _ => ?_) (fun n9 => absurd z5 n9)
    refine xr_iconst (v := 0) d_L_law_198 rfl ?_
    refine xr_V5i d_L_law_199 xv_6_17 hW.ref rfl rfl rfl rfl rfl rfl (Nat.le_of_ble_eq_true rfl) (by decide) (m_job hW hB (Or.inl rfl) (Or.inl rfl)) (fun v h2 h9 => ?_)
    obtain ⟨rfl, hW, he⟩ := h9
    refine xr_icmp_eq (tgt := 658) d_L_law_202 rfl (fun _ => ?_) (fun n9 => absurd rfl n9)
    refine xr_iinc (v := nI (i + 6)) d_L_law_658 rfl (nI_add i 6) ?_
    refine xr_goto (tgt := 18) d_L_law_661 rfl ?_
    exact K _ _ ⟨R', A', hW, hI', h8', rfl, rfl⟩ (by rw [he]; exact g1) (by rw [he]; exact g2)
  · refine xr_aload_n d_L_law_112 rfl ?_
    refine xr_aload_n d_L_law_113 rfl ?_
    refine xr_iload_n d_L_law_114 rfl ?_
    refine xr_iconst (v := 1) d_L_law_115 rfl ?_
    refine xr_iadd d_L_law_116 ?_
    refine kr_sld (n := i + 1) d_L_law_117 (nI_add i 1) (by omega) hL ?_
    refine xr_aload_n d_L_law_118 rfl ?_
    refine xr_iload_n d_L_law_119 rfl ?_
    refine xr_iconst (v := 2) d_L_law_120 rfl ?_
    refine xr_iadd d_L_law_121 ?_
    refine kr_sld (n := i + 2) d_L_law_122 (nI_add i 2) (by omega) hL ?_
    refine xr_aload_n d_L_law_123 rfl ?_
    refine xr_iload_n d_L_law_124 rfl ?_
    refine xr_iconst (v := 3) d_L_law_125 rfl ?_
    refine xr_iadd d_L_law_126 ?_
    refine kr_sld (n := i + 3) d_L_law_127 (nI_add i 3) (by omega) hL ?_
    refine xr_aload_n d_L_law_128 rfl ?_
    refine xr_iload_n d_L_law_129 rfl ?_
    refine xr_iconst (v := 4) d_L_law_130 rfl ?_
    refine xr_iadd d_L_law_131 ?_
    refine kr_sld (n := i + 4) d_L_law_132 (nI_add i 4) (by omega) hL ?_
    refine xr_if_eq (tgt := 140) d_L_law_133 rfl (fun _ => ?_) (fun n9 => absurd z4 n9)
    refine xr_iconst (v := 0) d_L_law_140 rfl ?_
    refine xr_aload_n d_L_law_141 rfl ?_
    refine xr_iload_n d_L_law_142 rfl ?_
    refine xr_iconst (v := 5) d_L_law_143 rfl ?_
    refine xr_iadd d_L_law_144 ?_
    refine kr_sld (n := i + 5) d_L_law_145 (nI_add i 5) (by omega) hL ?_
    refine xr_if_eq (tgt := 153) d_L_law_146 rfl (fun n9 => absurd n9 z5) (fun _ => ?_)
    refine xr_iconst (v := 1) d_L_law_149 rfl ?_
    refine xr_goto (tgt := 154) d_L_law_150 rfl ?_
    refine xr_V5i d_L_law_154 xv_6_13 hW.this rfl rfl rfl rfl rfl rfl (Nat.le_of_ble_eq_true rfl) (by decide) (p_job hW (Or.inl rfl) (Or.inr rfl) hI h8) (fun v h1 h9 => ?_)
    obtain ⟨rfl, R', A', hW, hI', h8', e0, e6, g1, g2⟩ := h9
    rw [← e0, ← e6] at K ⊢
    refine xr_aload_n d_L_law_157 rfl ?_
    refine xr_aload_n d_L_law_158 rfl ?_
    refine xr_iload_n d_L_law_159 rfl ?_
    refine xr_iconst (v := 1) d_L_law_160 rfl ?_
    refine xr_iadd d_L_law_161 ?_
    refine kr_sld (n := i + 1) d_L_law_162 (nI_add i 1) (by omega) hL ?_
    refine xr_aload_n d_L_law_163 rfl ?_
    refine xr_iload_n d_L_law_164 rfl ?_
    refine xr_iconst (v := 2) d_L_law_165 rfl ?_
    refine xr_iadd d_L_law_166 ?_
    refine kr_sld (n := i + 2) d_L_law_167 (nI_add i 2) (by omega) hL ?_
    refine xr_aload_n d_L_law_168 rfl ?_
    refine xr_iload_n d_L_law_169 rfl ?_
    refine xr_iconst (v := 3) d_L_law_170 rfl ?_
    refine xr_iadd d_L_law_171 ?_
    refine kr_sld (n := i + 3) d_L_law_172 (nI_add i 3) (by omega) hL ?_
    refine xr_aload_n d_L_law_173 rfl ?_
    refine xr_iload_n d_L_law_174 rfl ?_
    refine xr_iconst (v := 4) d_L_law_175 rfl ?_
    refine xr_iadd d_L_law_176 ?_
    refine kr_sld (n := i + 4) d_L_law_177 (nI_add i 4) (by omega) hL ?_
    refine xr_if_eq (tgt := 185) d_L_law_178 rfl (fun _ => ?_) (fun n9 => absurd z4 n9)
    refine xr_iconst (v := 0) d_L_law_185 rfl ?_
    refine xr_aload_n d_L_law_186 rfl ?_
    refine xr_iload_n d_L_law_187 rfl ?_
    refine xr_iconst (v := 5) d_L_law_188 rfl ?_
    refine xr_iadd d_L_law_189 ?_
    refine kr_sld (n := i + 5) d_L_law_190 (nI_add i 5) (by omega) hL ?_
    refine xr_if_eq (tgt := 198) d_L_law_191 rfl (fun n9 => absurd n9 z5) (fun _ => ?_)
    refine xr_iconst (v := 1) d_L_law_194 rfl ?_
    refine xr_goto (tgt := 199) d_L_law_195 rfl ?_
    refine xr_V5i d_L_law_199 xv_6_17 hW.ref rfl rfl rfl rfl rfl rfl (Nat.le_of_ble_eq_true rfl) (by decide) (m_job hW hB (Or.inl rfl) (Or.inr rfl)) (fun v h2 h9 => ?_)
    obtain ⟨rfl, hW, he⟩ := h9
    refine xr_icmp_eq (tgt := 658) d_L_law_202 rfl (fun _ => ?_) (fun n9 => absurd rfl n9)
    refine xr_iinc (v := nI (i + 6)) d_L_law_658 rfl (nI_add i 6) ?_
    refine xr_goto (tgt := 18) d_L_law_661 rfl ?_
    exact K _ _ ⟨R', A', hW, hI', h8', rfl, rfl⟩ (by rw [he]; exact g1) (by rw [he]; exact g2)
  · refine xr_aload_n d_L_law_112 rfl ?_
    refine xr_aload_n d_L_law_113 rfl ?_
    refine xr_iload_n d_L_law_114 rfl ?_
    refine xr_iconst (v := 1) d_L_law_115 rfl ?_
    refine xr_iadd d_L_law_116 ?_
    refine kr_sld (n := i + 1) d_L_law_117 (nI_add i 1) (by omega) hL ?_
    refine xr_aload_n d_L_law_118 rfl ?_
    refine xr_iload_n d_L_law_119 rfl ?_
    refine xr_iconst (v := 2) d_L_law_120 rfl ?_
    refine xr_iadd d_L_law_121 ?_
    refine kr_sld (n := i + 2) d_L_law_122 (nI_add i 2) (by omega) hL ?_
    refine xr_aload_n d_L_law_123 rfl ?_
    refine xr_iload_n d_L_law_124 rfl ?_
    refine xr_iconst (v := 3) d_L_law_125 rfl ?_
    refine xr_iadd d_L_law_126 ?_
    refine kr_sld (n := i + 3) d_L_law_127 (nI_add i 3) (by omega) hL ?_
    refine xr_aload_n d_L_law_128 rfl ?_
    refine xr_iload_n d_L_law_129 rfl ?_
    refine xr_iconst (v := 4) d_L_law_130 rfl ?_
    refine xr_iadd d_L_law_131 ?_
    refine kr_sld (n := i + 4) d_L_law_132 (nI_add i 4) (by omega) hL ?_
    refine xr_if_eq (tgt := 140) d_L_law_133 rfl (fun n9 => absurd n9 z4) (fun _ => ?_)
    refine xr_iconst (v := 1) d_L_law_136 rfl ?_
    refine xr_goto (tgt := 141) d_L_law_137 rfl ?_
    refine xr_aload_n d_L_law_141 rfl ?_
    refine xr_iload_n d_L_law_142 rfl ?_
    refine xr_iconst (v := 5) d_L_law_143 rfl ?_
    refine xr_iadd d_L_law_144 ?_
    refine kr_sld (n := i + 5) d_L_law_145 (nI_add i 5) (by omega) hL ?_
    refine xr_if_eq (tgt := 153) d_L_law_146 rfl (fun _ => ?_) (fun n9 => absurd z5 n9)
    refine xr_iconst (v := 0) d_L_law_153 rfl ?_
    refine xr_V5i d_L_law_154 xv_6_13 hW.this rfl rfl rfl rfl rfl rfl (Nat.le_of_ble_eq_true rfl) (by decide) (p_job hW (Or.inr rfl) (Or.inl rfl) hI h8) (fun v h1 h9 => ?_)
    obtain ⟨rfl, R', A', hW, hI', h8', e0, e6, g1, g2⟩ := h9
    rw [← e0, ← e6] at K ⊢
    refine xr_aload_n d_L_law_157 rfl ?_
    refine xr_aload_n d_L_law_158 rfl ?_
    refine xr_iload_n d_L_law_159 rfl ?_
    refine xr_iconst (v := 1) d_L_law_160 rfl ?_
    refine xr_iadd d_L_law_161 ?_
    refine kr_sld (n := i + 1) d_L_law_162 (nI_add i 1) (by omega) hL ?_
    refine xr_aload_n d_L_law_163 rfl ?_
    refine xr_iload_n d_L_law_164 rfl ?_
    refine xr_iconst (v := 2) d_L_law_165 rfl ?_
    refine xr_iadd d_L_law_166 ?_
    refine kr_sld (n := i + 2) d_L_law_167 (nI_add i 2) (by omega) hL ?_
    refine xr_aload_n d_L_law_168 rfl ?_
    refine xr_iload_n d_L_law_169 rfl ?_
    refine xr_iconst (v := 3) d_L_law_170 rfl ?_
    refine xr_iadd d_L_law_171 ?_
    refine kr_sld (n := i + 3) d_L_law_172 (nI_add i 3) (by omega) hL ?_
    refine xr_aload_n d_L_law_173 rfl ?_
    refine xr_iload_n d_L_law_174 rfl ?_
    refine xr_iconst (v := 4) d_L_law_175 rfl ?_
    refine xr_iadd d_L_law_176 ?_
    refine kr_sld (n := i + 4) d_L_law_177 (nI_add i 4) (by omega) hL ?_
    refine xr_if_eq (tgt := 185) d_L_law_178 rfl (fun n9 => absurd n9 z4) (fun _ => ?_)
    refine xr_iconst (v := 1) d_L_law_181 rfl ?_
    refine xr_goto (tgt := 186) d_L_law_182 rfl ?_
    refine xr_aload_n d_L_law_186 rfl ?_
    refine xr_iload_n d_L_law_187 rfl ?_
    refine xr_iconst (v := 5) d_L_law_188 rfl ?_
    refine xr_iadd d_L_law_189 ?_
    refine kr_sld (n := i + 5) d_L_law_190 (nI_add i 5) (by omega) hL ?_
    refine xr_if_eq (tgt := 198) d_L_law_191 rfl (fun _ => ?_) (fun n9 => absurd z5 n9)
    refine xr_iconst (v := 0) d_L_law_198 rfl ?_
    refine xr_V5i d_L_law_199 xv_6_17 hW.ref rfl rfl rfl rfl rfl rfl (Nat.le_of_ble_eq_true rfl) (by decide) (m_job hW hB (Or.inr rfl) (Or.inl rfl)) (fun v h2 h9 => ?_)
    obtain ⟨rfl, hW, he⟩ := h9
    refine xr_icmp_eq (tgt := 658) d_L_law_202 rfl (fun _ => ?_) (fun n9 => absurd rfl n9)
    refine xr_iinc (v := nI (i + 6)) d_L_law_658 rfl (nI_add i 6) ?_
    refine xr_goto (tgt := 18) d_L_law_661 rfl ?_
    exact K _ _ ⟨R', A', hW, hI', h8', rfl, rfl⟩ (by rw [he]; exact g1) (by rw [he]; exact g2)
  · refine xr_aload_n d_L_law_112 rfl ?_
    refine xr_aload_n d_L_law_113 rfl ?_
    refine xr_iload_n d_L_law_114 rfl ?_
    refine xr_iconst (v := 1) d_L_law_115 rfl ?_
    refine xr_iadd d_L_law_116 ?_
    refine kr_sld (n := i + 1) d_L_law_117 (nI_add i 1) (by omega) hL ?_
    refine xr_aload_n d_L_law_118 rfl ?_
    refine xr_iload_n d_L_law_119 rfl ?_
    refine xr_iconst (v := 2) d_L_law_120 rfl ?_
    refine xr_iadd d_L_law_121 ?_
    refine kr_sld (n := i + 2) d_L_law_122 (nI_add i 2) (by omega) hL ?_
    refine xr_aload_n d_L_law_123 rfl ?_
    refine xr_iload_n d_L_law_124 rfl ?_
    refine xr_iconst (v := 3) d_L_law_125 rfl ?_
    refine xr_iadd d_L_law_126 ?_
    refine kr_sld (n := i + 3) d_L_law_127 (nI_add i 3) (by omega) hL ?_
    refine xr_aload_n d_L_law_128 rfl ?_
    refine xr_iload_n d_L_law_129 rfl ?_
    refine xr_iconst (v := 4) d_L_law_130 rfl ?_
    refine xr_iadd d_L_law_131 ?_
    refine kr_sld (n := i + 4) d_L_law_132 (nI_add i 4) (by omega) hL ?_
    refine xr_if_eq (tgt := 140) d_L_law_133 rfl (fun n9 => absurd n9 z4) (fun _ => ?_)
    refine xr_iconst (v := 1) d_L_law_136 rfl ?_
    refine xr_goto (tgt := 141) d_L_law_137 rfl ?_
    refine xr_aload_n d_L_law_141 rfl ?_
    refine xr_iload_n d_L_law_142 rfl ?_
    refine xr_iconst (v := 5) d_L_law_143 rfl ?_
    refine xr_iadd d_L_law_144 ?_
    refine kr_sld (n := i + 5) d_L_law_145 (nI_add i 5) (by omega) hL ?_
    refine xr_if_eq (tgt := 153) d_L_law_146 rfl (fun n9 => absurd n9 z5) (fun _ => ?_)
    refine xr_iconst (v := 1) d_L_law_149 rfl ?_
    refine xr_goto (tgt := 154) d_L_law_150 rfl ?_
    refine xr_V5i d_L_law_154 xv_6_13 hW.this rfl rfl rfl rfl rfl rfl (Nat.le_of_ble_eq_true rfl) (by decide) (p_job hW (Or.inr rfl) (Or.inr rfl) hI h8) (fun v h1 h9 => ?_)
    obtain ⟨rfl, R', A', hW, hI', h8', e0, e6, g1, g2⟩ := h9
    rw [← e0, ← e6] at K ⊢
    refine xr_aload_n d_L_law_157 rfl ?_
    refine xr_aload_n d_L_law_158 rfl ?_
    refine xr_iload_n d_L_law_159 rfl ?_
    refine xr_iconst (v := 1) d_L_law_160 rfl ?_
    refine xr_iadd d_L_law_161 ?_
    refine kr_sld (n := i + 1) d_L_law_162 (nI_add i 1) (by omega) hL ?_
    refine xr_aload_n d_L_law_163 rfl ?_
    refine xr_iload_n d_L_law_164 rfl ?_
    refine xr_iconst (v := 2) d_L_law_165 rfl ?_
    refine xr_iadd d_L_law_166 ?_
    refine kr_sld (n := i + 2) d_L_law_167 (nI_add i 2) (by omega) hL ?_
    refine xr_aload_n d_L_law_168 rfl ?_
    refine xr_iload_n d_L_law_169 rfl ?_
    refine xr_iconst (v := 3) d_L_law_170 rfl ?_
    refine xr_iadd d_L_law_171 ?_
    refine kr_sld (n := i + 3) d_L_law_172 (nI_add i 3) (by omega) hL ?_
    refine xr_aload_n d_L_law_173 rfl ?_
    refine xr_iload_n d_L_law_174 rfl ?_
    refine xr_iconst (v := 4) d_L_law_175 rfl ?_
    refine xr_iadd d_L_law_176 ?_
    refine kr_sld (n := i + 4) d_L_law_177 (nI_add i 4) (by omega) hL ?_
    refine xr_if_eq (tgt := 185) d_L_law_178 rfl (fun n9 => absurd n9 z4) (fun _ => ?_)
    refine xr_iconst (v := 1) d_L_law_181 rfl ?_
    refine xr_goto (tgt := 186) d_L_law_182 rfl ?_
    refine xr_aload_n d_L_law_186 rfl ?_
    refine xr_iload_n d_L_law_187 rfl ?_
    refine xr_iconst (v := 5) d_L_law_188 rfl ?_
    refine xr_iadd d_L_law_189 ?_
    refine kr_sld (n := i + 5) d_L_law_190 (nI_add i 5) (by omega) hL ?_
    refine xr_if_eq (tgt := 198) d_L_law_191 rfl (fun n9 => absurd n9 z5) (fun _ => ?_)
    refine xr_iconst (v := 1) d_L_law_194 rfl ?_
    refine xr_goto (tgt := 199) d_L_law_195 rfl ?_
    refine xr_V5i d_L_law_199 xv_6_17 hW.ref rfl rfl rfl rfl rfl rfl (Nat.le_of_ble_eq_true rfl) (by decide) (m_job hW hB (Or.inr rfl) (Or.inr rfl)) (fun v h2 h9 => ?_)
    obtain ⟨rfl, hW, he⟩ := h9
    refine xr_icmp_eq (tgt := 658) d_L_law_202 rfl (fun _ => ?_) (fun n9 => absurd rfl n9)
    refine xr_iinc (v := nI (i + 6)) d_L_law_658 rfl (nI_add i 6) ?_
    refine xr_goto (tgt := 18) d_L_law_661 rfl ?_
    exact K _ _ ⟨R', A', hW, hI', h8', rfl, rfl⟩ (by rw [he]; exact g1) (by rw [he]; exact g2)
theorem law_needs {g : xm_G} {h : xm_H} {s : kS} {X M i : Nat} {Q : Option Value → xm_H → Prop} (hs : kLI X M s h) (hL : xm_n g ≤ 3072) (hi : i + 6 ≤ xm_n g) (K : ∀ (s' : kS) (h' : xm_H), kLI X M s' h' → h'.2.1 ≤ h.2.1 + 14 → h'.2.2 ≤ h.2.2 + 170 → xm_S g 6 m_L_law (18, [some (.ref (xm_b g)), some (.ref X), some (.ref M), some (.int (nI (i + 6)))], []) h' Q) : xm_S g 6 m_L_law (207, [some (.ref (xm_b g)), some (.ref X), some (.ref M), some (.int (nI i))], []) h Q := by
  obtain ⟨R, A, hW, hI, h8, rfl, rfl⟩ := hs
  have hI0 := hI
  have hB : kMb s := hI.1
  refine xr_aload_n d_L_law_207 rfl ?_
  refine xr_aload_n d_L_law_208 rfl ?_
  refine xr_iload_n d_L_law_209 rfl ?_
  refine xr_iconst (v := 1) d_L_law_210 rfl ?_
  refine xr_iadd d_L_law_211 ?_
  refine kr_sld (n := i + 1) d_L_law_212 (nI_add i 1) (by omega) hL ?_
  refine xr_aload_n d_L_law_213 rfl ?_
  refine xr_iload_n d_L_law_214 rfl ?_
  refine xr_iconst (v := 2) d_L_law_215 rfl ?_
  refine xr_iadd d_L_law_216 ?_
  refine kr_sld (n := i + 2) d_L_law_217 (nI_add i 2) (by omega) hL ?_
  refine xr_V2i d_L_law_218 xv_6_18 hW.this rfl rfl rfl (Nat.le_of_ble_eq_true rfl) (by decide) (p_needs hW hI h8) (fun v h1 h9 => ?_)
  obtain ⟨rfl, R', A', hW, hI', h8', e0, e6, g1, g2⟩ := h9
  rw [← e0, ← e6] at K ⊢
  refine xr_aload_n d_L_law_221 rfl ?_
  refine xr_aload_n d_L_law_222 rfl ?_
  refine xr_iload_n d_L_law_223 rfl ?_
  refine xr_iconst (v := 1) d_L_law_224 rfl ?_
  refine xr_iadd d_L_law_225 ?_
  refine kr_sld (n := i + 1) d_L_law_226 (nI_add i 1) (by omega) hL ?_
  refine xr_aload_n d_L_law_227 rfl ?_
  refine xr_iload_n d_L_law_228 rfl ?_
  refine xr_iconst (v := 2) d_L_law_229 rfl ?_
  refine xr_iadd d_L_law_230 ?_
  refine kr_sld (n := i + 2) d_L_law_231 (nI_add i 2) (by omega) hL ?_
  refine xr_V2i d_L_law_232 xv_6_22 hW.ref rfl rfl rfl (Nat.le_of_ble_eq_true rfl) (by decide) (m_needs hW hB) (fun v h2 h9 => ?_)
  obtain ⟨rfl, hW, he⟩ := h9
  refine xr_icmp_eq (tgt := 658) d_L_law_235 rfl (fun _ => ?_) (fun n9 => absurd rfl n9)
  refine xr_iinc (v := nI (i + 6)) d_L_law_658 rfl (nI_add i 6) ?_
  refine xr_goto (tgt := 18) d_L_law_661 rfl ?_
  exact K _ _ ⟨R', A', hW, hI', h8', rfl, rfl⟩ (by rw [he]; exact g1) (by rw [he]; exact g2)
theorem law_runner {g : xm_G} {h : xm_H} {s : kS} {X M i : Nat} {Q : Option Value → xm_H → Prop} (hs : kLI X M s h) (hL : xm_n g ≤ 3072) (hi : i + 6 ≤ xm_n g) (K : ∀ (s' : kS) (h' : xm_H), kLI X M s' h' → h'.2.1 ≤ h.2.1 + 14 → h'.2.2 ≤ h.2.2 + 170 → xm_S g 6 m_L_law (18, [some (.ref (xm_b g)), some (.ref X), some (.ref M), some (.int (nI (i + 6)))], []) h' Q) : xm_S g 6 m_L_law (240, [some (.ref (xm_b g)), some (.ref X), some (.ref M), some (.int (nI i))], []) h Q := by
  obtain ⟨R, A, hW, hI, h8, rfl, rfl⟩ := hs
  have hI0 := hI
  have hB : kMb s := hI.1
  refine xr_aload_n d_L_law_240 rfl ?_
  refine xr_aload_n d_L_law_241 rfl ?_
  refine xr_iload_n d_L_law_242 rfl ?_
  refine xr_iconst (v := 1) d_L_law_243 rfl ?_
  refine xr_iadd d_L_law_244 ?_
  refine kr_sld (n := i + 1) d_L_law_245 (nI_add i 1) (by omega) hL ?_
  refine xr_V1i d_L_law_246 xv_6_23 hW.this rfl rfl (Nat.le_of_ble_eq_true rfl) (by decide) (p_runner hW hI h8) (fun v h1 h9 => ?_)
  obtain ⟨rfl, R', A', hW, hI', h8', e0, e6, g1, g2⟩ := h9
  rw [← e0, ← e6] at K ⊢
  refine xr_aload_n d_L_law_249 rfl ?_
  refine xr_aload_n d_L_law_250 rfl ?_
  refine xr_iload_n d_L_law_251 rfl ?_
  refine xr_iconst (v := 1) d_L_law_252 rfl ?_
  refine xr_iadd d_L_law_253 ?_
  refine kr_sld (n := i + 1) d_L_law_254 (nI_add i 1) (by omega) hL ?_
  refine xr_V1i d_L_law_255 xv_6_27 hW.ref rfl rfl (Nat.le_of_ble_eq_true rfl) (by decide) (m_runner hW hB) (fun v h2 h9 => ?_)
  obtain ⟨rfl, hW, he⟩ := h9
  refine xr_icmp_eq (tgt := 658) d_L_law_258 rfl (fun _ => ?_) (fun n9 => absurd rfl n9)
  refine xr_iinc (v := nI (i + 6)) d_L_law_658 rfl (nI_add i 6) ?_
  refine xr_goto (tgt := 18) d_L_law_661 rfl ?_
  exact K _ _ ⟨R', A', hW, hI', h8', rfl, rfl⟩ (by rw [he]; exact g1) (by rw [he]; exact g2)
theorem law_lost {g : xm_G} {h : xm_H} {s : kS} {X M i : Nat} {Q : Option Value → xm_H → Prop} (hs : kLI X M s h) (hL : xm_n g ≤ 3072) (hi : i + 6 ≤ xm_n g) (K : ∀ (s' : kS) (h' : xm_H), kLI X M s' h' → h'.2.1 ≤ h.2.1 + 14 → h'.2.2 ≤ h.2.2 + 170 → xm_S g 6 m_L_law (18, [some (.ref (xm_b g)), some (.ref X), some (.ref M), some (.int (nI (i + 6)))], []) h' Q) : xm_S g 6 m_L_law (263, [some (.ref (xm_b g)), some (.ref X), some (.ref M), some (.int (nI i))], []) h Q := by
  obtain ⟨R, A, hW, hI, h8, rfl, rfl⟩ := hs
  have hI0 := hI
  have hB : kMb s := hI.1
  refine xr_aload_n d_L_law_263 rfl ?_
  refine xr_aload_n d_L_law_264 rfl ?_
  refine xr_iload_n d_L_law_265 rfl ?_
  refine xr_iconst (v := 1) d_L_law_266 rfl ?_
  refine xr_iadd d_L_law_267 ?_
  refine kr_sld (n := i + 1) d_L_law_268 (nI_add i 1) (by omega) hL ?_
  refine xr_V1i d_L_law_269 xv_6_28 hW.this rfl rfl (Nat.le_of_ble_eq_true rfl) (by decide) (p_lost hW hI h8) (fun v h1 h9 => ?_)
  obtain ⟨rfl, R', A', hW, hI', h8', e0, e6, g1, g2⟩ := h9
  rw [← e0, ← e6] at K ⊢
  refine xr_aload_n d_L_law_272 rfl ?_
  refine xr_aload_n d_L_law_273 rfl ?_
  refine xr_iload_n d_L_law_274 rfl ?_
  refine xr_iconst (v := 1) d_L_law_275 rfl ?_
  refine xr_iadd d_L_law_276 ?_
  refine kr_sld (n := i + 1) d_L_law_277 (nI_add i 1) (by omega) hL ?_
  refine xr_V1i d_L_law_278 xv_6_32 hW.ref rfl rfl (Nat.le_of_ble_eq_true rfl) (by decide) (m_lost hW ) (fun v h2 h9 => ?_)
  obtain ⟨rfl, hW, he⟩ := h9
  refine xr_icmp_eq (tgt := 658) d_L_law_281 rfl (fun _ => ?_) (fun n9 => absurd rfl n9)
  refine xr_iinc (v := nI (i + 6)) d_L_law_658 rfl (nI_add i 6) ?_
  refine xr_goto (tgt := 18) d_L_law_661 rfl ?_
  exact K _ _ ⟨R', A', hW, hI', h8', rfl, rfl⟩ (by rw [he]; exact g1) (by rw [he]; exact g2)
theorem law_trigger {g : xm_G} {h : xm_H} {s : kS} {X M i : Nat} {Q : Option Value → xm_H → Prop} (hs : kLI X M s h) (hL : xm_n g ≤ 3072) (hi : i + 6 ≤ xm_n g) (K : ∀ (s' : kS) (h' : xm_H), kLI X M s' h' → h'.2.1 ≤ h.2.1 + 14 → h'.2.2 ≤ h.2.2 + 170 → xm_S g 6 m_L_law (18, [some (.ref (xm_b g)), some (.ref X), some (.ref M), some (.int (nI (i + 6)))], []) h' Q) : xm_S g 6 m_L_law (286, [some (.ref (xm_b g)), some (.ref X), some (.ref M), some (.int (nI i))], []) h Q := by
  obtain ⟨R, A, hW, hI, h8, rfl, rfl⟩ := hs
  have hI0 := hI
  have hB : kMb s := hI.1
  refine xr_aload_n d_L_law_286 rfl ?_
  refine xr_aload_n d_L_law_287 rfl ?_
  refine xr_iload_n d_L_law_288 rfl ?_
  refine xr_iconst (v := 1) d_L_law_289 rfl ?_
  refine xr_iadd d_L_law_290 ?_
  refine kr_sld (n := i + 1) d_L_law_291 (nI_add i 1) (by omega) hL ?_
  refine xr_aload_n d_L_law_292 rfl ?_
  refine xr_iload_n d_L_law_293 rfl ?_
  refine xr_iconst (v := 2) d_L_law_294 rfl ?_
  refine xr_iadd d_L_law_295 ?_
  refine kr_sld (n := i + 2) d_L_law_296 (nI_add i 2) (by omega) hL ?_
  refine xr_V2i d_L_law_297 xv_6_33 hW.this rfl rfl rfl (Nat.le_of_ble_eq_true rfl) (by decide) (p_trigger hW hI h8) (fun v h1 h9 => ?_)
  obtain ⟨rfl, R', A', hW, hI', h8', e0, e6, g1, g2⟩ := h9
  rw [← e0, ← e6] at K ⊢
  refine xr_aload_n d_L_law_300 rfl ?_
  refine xr_aload_n d_L_law_301 rfl ?_
  refine xr_iload_n d_L_law_302 rfl ?_
  refine xr_iconst (v := 1) d_L_law_303 rfl ?_
  refine xr_iadd d_L_law_304 ?_
  refine kr_sld (n := i + 1) d_L_law_305 (nI_add i 1) (by omega) hL ?_
  refine xr_aload_n d_L_law_306 rfl ?_
  refine xr_iload_n d_L_law_307 rfl ?_
  refine xr_iconst (v := 2) d_L_law_308 rfl ?_
  refine xr_iadd d_L_law_309 ?_
  refine kr_sld (n := i + 2) d_L_law_310 (nI_add i 2) (by omega) hL ?_
  refine xr_V2i d_L_law_311 xv_6_37 hW.ref rfl rfl rfl (Nat.le_of_ble_eq_true rfl) (by decide) (m_trigger hW hB) (fun v h2 h9 => ?_)
  obtain ⟨rfl, hW, he⟩ := h9
  refine xr_icmp_eq (tgt := 658) d_L_law_314 rfl (fun _ => ?_) (fun n9 => absurd rfl n9)
  refine xr_iinc (v := nI (i + 6)) d_L_law_658 rfl (nI_add i 6) ?_
  refine xr_goto (tgt := 18) d_L_law_661 rfl ?_
  exact K _ _ ⟨R', A', hW, hI', h8', rfl, rfl⟩ (by rw [he]; exact g1) (by rw [he]; exact g2)
theorem law_approve {g : xm_G} {h : xm_H} {s : kS} {X M i : Nat} {Q : Option Value → xm_H → Prop} (hs : kLI X M s h) (hL : xm_n g ≤ 3072) (hi : i + 6 ≤ xm_n g) (K : ∀ (s' : kS) (h' : xm_H), kLI X M s' h' → h'.2.1 ≤ h.2.1 + 14 → h'.2.2 ≤ h.2.2 + 170 → xm_S g 6 m_L_law (18, [some (.ref (xm_b g)), some (.ref X), some (.ref M), some (.int (nI (i + 6)))], []) h' Q) : xm_S g 6 m_L_law (319, [some (.ref (xm_b g)), some (.ref X), some (.ref M), some (.int (nI i))], []) h Q := by
  obtain ⟨R, A, hW, hI, h8, rfl, rfl⟩ := hs
  have hI0 := hI
  have hB : kMb s := hI.1
  refine xr_aload_n d_L_law_319 rfl ?_
  refine xr_aload_n d_L_law_320 rfl ?_
  refine xr_iload_n d_L_law_321 rfl ?_
  refine xr_iconst (v := 1) d_L_law_322 rfl ?_
  refine xr_iadd d_L_law_323 ?_
  refine kr_sld (n := i + 1) d_L_law_324 (nI_add i 1) (by omega) hL ?_
  refine xr_aload_n d_L_law_325 rfl ?_
  refine xr_iload_n d_L_law_326 rfl ?_
  refine xr_iconst (v := 2) d_L_law_327 rfl ?_
  refine xr_iadd d_L_law_328 ?_
  refine kr_sld (n := i + 2) d_L_law_329 (nI_add i 2) (by omega) hL ?_
  refine xr_aload_n d_L_law_330 rfl ?_
  refine xr_iload_n d_L_law_331 rfl ?_
  refine xr_iconst (v := 3) d_L_law_332 rfl ?_
  refine xr_iadd d_L_law_333 ?_
  refine kr_sld (n := i + 3) d_L_law_334 (nI_add i 3) (by omega) hL ?_
  refine xr_V3i d_L_law_335 xv_6_38 hW.this rfl rfl rfl rfl (Nat.le_of_ble_eq_true rfl) (by decide) (p_approve hW hI h8) (fun v h1 h9 => ?_)
  obtain ⟨rfl, R', A', hW, hI', h8', e0, e6, g1, g2⟩ := h9
  rw [← e0, ← e6] at K ⊢
  refine xr_aload_n d_L_law_338 rfl ?_
  refine xr_aload_n d_L_law_339 rfl ?_
  refine xr_iload_n d_L_law_340 rfl ?_
  refine xr_iconst (v := 1) d_L_law_341 rfl ?_
  refine xr_iadd d_L_law_342 ?_
  refine kr_sld (n := i + 1) d_L_law_343 (nI_add i 1) (by omega) hL ?_
  refine xr_aload_n d_L_law_344 rfl ?_
  refine xr_iload_n d_L_law_345 rfl ?_
  refine xr_iconst (v := 2) d_L_law_346 rfl ?_
  refine xr_iadd d_L_law_347 ?_
  refine kr_sld (n := i + 2) d_L_law_348 (nI_add i 2) (by omega) hL ?_
  refine xr_aload_n d_L_law_349 rfl ?_
  refine xr_iload_n d_L_law_350 rfl ?_
  refine xr_iconst (v := 3) d_L_law_351 rfl ?_
  refine xr_iadd d_L_law_352 ?_
  refine kr_sld (n := i + 3) d_L_law_353 (nI_add i 3) (by omega) hL ?_
  refine xr_V3i d_L_law_354 xv_6_42 hW.ref rfl rfl rfl rfl (Nat.le_of_ble_eq_true rfl) (by decide) (m_approve hW hB) (fun v h2 h9 => ?_)
  obtain ⟨rfl, hW, he⟩ := h9
  refine xr_icmp_eq (tgt := 658) d_L_law_357 rfl (fun _ => ?_) (fun n9 => absurd rfl n9)
  refine xr_iinc (v := nI (i + 6)) d_L_law_658 rfl (nI_add i 6) ?_
  refine xr_goto (tgt := 18) d_L_law_661 rfl ?_
  exact K _ _ ⟨R', A', hW, hI', h8', rfl, rfl⟩ (by rw [he]; exact g1) (by rw [he]; exact g2)
theorem law_take {g : xm_G} {h : xm_H} {s : kS} {X M i : Nat} {Q : Option Value → xm_H → Prop} (hs : kLI X M s h) (hL : xm_n g ≤ 3072) (hi : i + 6 ≤ xm_n g) (K : ∀ (s' : kS) (h' : xm_H), kLI X M s' h' → h'.2.1 ≤ h.2.1 + 14 → h'.2.2 ≤ h.2.2 + 170 → xm_S g 6 m_L_law (18, [some (.ref (xm_b g)), some (.ref X), some (.ref M), some (.int (nI (i + 6)))], []) h' Q) : xm_S g 6 m_L_law (362, [some (.ref (xm_b g)), some (.ref X), some (.ref M), some (.int (nI i))], []) h Q := by
  obtain ⟨R, A, hW, hI, h8, rfl, rfl⟩ := hs
  have hI0 := hI
  have hB : kMb s := hI.1
  refine xr_aload_n d_L_law_362 rfl ?_
  refine xr_aload_n d_L_law_363 rfl ?_
  refine xr_iload_n d_L_law_364 rfl ?_
  refine xr_iconst (v := 1) d_L_law_365 rfl ?_
  refine xr_iadd d_L_law_366 ?_
  refine kr_sld (n := i + 1) d_L_law_367 (nI_add i 1) (by omega) hL ?_
  refine xr_V1i d_L_law_368 xv_6_43 hW.this rfl rfl (Nat.le_of_ble_eq_true rfl) (by decide) (p_take hW hI h8) (fun v h1 h9 => ?_)
  obtain ⟨rfl, R', A', hW, hI', h8', e0, e6, g1, g2⟩ := h9
  rw [← e0, ← e6] at K ⊢
  refine xr_aload_n d_L_law_371 rfl ?_
  refine xr_aload_n d_L_law_372 rfl ?_
  refine xr_iload_n d_L_law_373 rfl ?_
  refine xr_iconst (v := 1) d_L_law_374 rfl ?_
  refine xr_iadd d_L_law_375 ?_
  refine kr_sld (n := i + 1) d_L_law_376 (nI_add i 1) (by omega) hL ?_
  refine xr_V1i d_L_law_377 xv_6_46 hW.ref rfl rfl (Nat.le_of_ble_eq_true rfl) (by decide) (m_take hW hB) (fun v h2 h9 => ?_)
  obtain ⟨rfl, hW, he⟩ := h9
  refine xr_icmp_eq (tgt := 658) d_L_law_380 rfl (fun _ => ?_) (fun n9 => absurd rfl n9)
  refine xr_iinc (v := nI (i + 6)) d_L_law_658 rfl (nI_add i 6) ?_
  refine xr_goto (tgt := 18) d_L_law_661 rfl ?_
  exact K _ _ ⟨R', A', hW, hI', h8', rfl, rfl⟩ (by rw [he]; exact g1) (by rw [he]; exact g2)
theorem law_beat {g : xm_G} {h : xm_H} {s : kS} {X M i : Nat} {Q : Option Value → xm_H → Prop} (hs : kLI X M s h) (hL : xm_n g ≤ 3072) (hi : i + 6 ≤ xm_n g) (K : ∀ (s' : kS) (h' : xm_H), kLI X M s' h' → h'.2.1 ≤ h.2.1 + 14 → h'.2.2 ≤ h.2.2 + 170 → xm_S g 6 m_L_law (18, [some (.ref (xm_b g)), some (.ref X), some (.ref M), some (.int (nI (i + 6)))], []) h' Q) : xm_S g 6 m_L_law (385, [some (.ref (xm_b g)), some (.ref X), some (.ref M), some (.int (nI i))], []) h Q := by
  obtain ⟨R, A, hW, hI, h8, rfl, rfl⟩ := hs
  have hI0 := hI
  have hB : kMb s := hI.1
  refine xr_aload_n d_L_law_385 rfl ?_
  refine xr_aload_n d_L_law_386 rfl ?_
  refine xr_iload_n d_L_law_387 rfl ?_
  refine xr_iconst (v := 1) d_L_law_388 rfl ?_
  refine xr_iadd d_L_law_389 ?_
  refine kr_sld (n := i + 1) d_L_law_390 (nI_add i 1) (by omega) hL ?_
  refine xr_V1i d_L_law_391 xv_6_47 hW.this rfl rfl (Nat.le_of_ble_eq_true rfl) (by decide) (p_beat hW hI h8) (fun v h1 h9 => ?_)
  obtain ⟨rfl, R', A', hW, hI', h8', e0, e6, g1, g2⟩ := h9
  rw [← e0, ← e6] at K ⊢
  refine xr_aload_n d_L_law_394 rfl ?_
  refine xr_aload_n d_L_law_395 rfl ?_
  refine xr_iload_n d_L_law_396 rfl ?_
  refine xr_iconst (v := 1) d_L_law_397 rfl ?_
  refine xr_iadd d_L_law_398 ?_
  refine kr_sld (n := i + 1) d_L_law_399 (nI_add i 1) (by omega) hL ?_
  refine xr_V1i d_L_law_400 xv_6_50 hW.ref rfl rfl (Nat.le_of_ble_eq_true rfl) (by decide) (m_beat hW hB) (fun v h2 h9 => ?_)
  obtain ⟨rfl, hW, he⟩ := h9
  refine xr_icmp_eq (tgt := 658) d_L_law_403 rfl (fun _ => ?_) (fun n9 => absurd rfl n9)
  refine xr_iinc (v := nI (i + 6)) d_L_law_658 rfl (nI_add i 6) ?_
  refine xr_goto (tgt := 18) d_L_law_661 rfl ?_
  exact K _ _ ⟨R', A', hW, hI', h8', rfl, rfl⟩ (by rw [he]; exact g1) (by rw [he]; exact g2)
theorem law_end {g : xm_G} {h : xm_H} {s : kS} {X M i : Nat} {Q : Option Value → xm_H → Prop} (hs : kLI X M s h) (hL : xm_n g ≤ 3072) (hi : i + 6 ≤ xm_n g) (K : ∀ (s' : kS) (h' : xm_H), kLI X M s' h' → h'.2.1 ≤ h.2.1 + 14 → h'.2.2 ≤ h.2.2 + 170 → xm_S g 6 m_L_law (18, [some (.ref (xm_b g)), some (.ref X), some (.ref M), some (.int (nI (i + 6)))], []) h' Q) : xm_S g 6 m_L_law (408, [some (.ref (xm_b g)), some (.ref X), some (.ref M), some (.int (nI i))], []) h Q := by
  obtain ⟨R, A, hW, hI, h8, rfl, rfl⟩ := hs
  have hI0 := hI
  have hB : kMb s := hI.1
  rcases Classical.em (xm_x g (i + 2) = 0) with z2 | z2
  · refine xr_aload_n d_L_law_408 rfl ?_
    refine xr_aload_n d_L_law_409 rfl ?_
    refine xr_iload_n d_L_law_410 rfl ?_
    refine xr_iconst (v := 1) d_L_law_411 rfl ?_
    refine xr_iadd d_L_law_412 ?_
    refine kr_sld (n := i + 1) d_L_law_413 (nI_add i 1) (by omega) hL ?_
    refine xr_aload_n d_L_law_414 rfl ?_
    refine xr_iload_n d_L_law_415 rfl ?_
    refine xr_iconst (v := 2) d_L_law_416 rfl ?_
    refine xr_iadd d_L_law_417 ?_
    refine kr_sld (n := i + 2) d_L_law_418 (nI_add i 2) (by omega) hL ?_
    refine xr_if_eq (tgt := 426) d_L_law_419 rfl (fun _ => ?_) (fun n9 => absurd z2 n9)
    refine xr_iconst (v := 0) d_L_law_426 rfl ?_
    refine xr_aload_n d_L_law_427 rfl ?_
    refine xr_iload_n d_L_law_428 rfl ?_
    refine xr_iconst (v := 3) d_L_law_429 rfl ?_
    refine xr_iadd d_L_law_430 ?_
    refine kr_sld (n := i + 3) d_L_law_431 (nI_add i 3) (by omega) hL ?_
    refine xr_V3i d_L_law_432 xv_6_51 hW.this rfl rfl rfl rfl (Nat.le_of_ble_eq_true rfl) (by decide) (p_end hW hI h8) (fun v h1 h9 => ?_)
    obtain ⟨rfl, R', A', hW, hI', h8', e0, e6, g1, g2⟩ := h9
    rw [← e0, ← e6] at K ⊢
    refine xr_aload_n d_L_law_435 rfl ?_
    refine xr_aload_n d_L_law_436 rfl ?_
    refine xr_iload_n d_L_law_437 rfl ?_
    refine xr_iconst (v := 1) d_L_law_438 rfl ?_
    refine xr_iadd d_L_law_439 ?_
    refine kr_sld (n := i + 1) d_L_law_440 (nI_add i 1) (by omega) hL ?_
    refine xr_aload_n d_L_law_441 rfl ?_
    refine xr_iload_n d_L_law_442 rfl ?_
    refine xr_iconst (v := 2) d_L_law_443 rfl ?_
    refine xr_iadd d_L_law_444 ?_
    refine kr_sld (n := i + 2) d_L_law_445 (nI_add i 2) (by omega) hL ?_
    refine xr_if_eq (tgt := 453) d_L_law_446 rfl (fun _ => ?_) (fun n9 => absurd z2 n9)
    refine xr_iconst (v := 0) d_L_law_453 rfl ?_
    refine xr_aload_n d_L_law_454 rfl ?_
    refine xr_iload_n d_L_law_455 rfl ?_
    refine xr_iconst (v := 3) d_L_law_456 rfl ?_
    refine xr_iadd d_L_law_457 ?_
    refine kr_sld (n := i + 3) d_L_law_458 (nI_add i 3) (by omega) hL ?_
    refine xr_V3i d_L_law_459 xv_6_55 hW.ref rfl rfl rfl rfl (Nat.le_of_ble_eq_true rfl) (by decide) (m_end hW hB hI0) (fun v h2 h9 => ?_)
    obtain ⟨rfl, hW, he⟩ := h9
    refine xr_icmp_eq (tgt := 658) d_L_law_462 rfl (fun _ => ?_) (fun n9 => absurd rfl n9)
    refine xr_iinc (v := nI (i + 6)) d_L_law_658 rfl (nI_add i 6) ?_
    refine xr_goto (tgt := 18) d_L_law_661 rfl ?_
    exact K _ _ ⟨R', A', hW, hI', h8', rfl, rfl⟩ (by rw [he]; exact g1) (by rw [he]; exact g2)
  · refine xr_aload_n d_L_law_408 rfl ?_
    refine xr_aload_n d_L_law_409 rfl ?_
    refine xr_iload_n d_L_law_410 rfl ?_
    refine xr_iconst (v := 1) d_L_law_411 rfl ?_
    refine xr_iadd d_L_law_412 ?_
    refine kr_sld (n := i + 1) d_L_law_413 (nI_add i 1) (by omega) hL ?_
    refine xr_aload_n d_L_law_414 rfl ?_
    refine xr_iload_n d_L_law_415 rfl ?_
    refine xr_iconst (v := 2) d_L_law_416 rfl ?_
    refine xr_iadd d_L_law_417 ?_
    refine kr_sld (n := i + 2) d_L_law_418 (nI_add i 2) (by omega) hL ?_
    refine xr_if_eq (tgt := 426) d_L_law_419 rfl (fun n9 => absurd n9 z2) (fun _ => ?_)
    refine xr_iconst (v := 1) d_L_law_422 rfl ?_
    refine xr_goto (tgt := 427) d_L_law_423 rfl ?_
    refine xr_aload_n d_L_law_427 rfl ?_
    refine xr_iload_n d_L_law_428 rfl ?_
    refine xr_iconst (v := 3) d_L_law_429 rfl ?_
    refine xr_iadd d_L_law_430 ?_
    refine kr_sld (n := i + 3) d_L_law_431 (nI_add i 3) (by omega) hL ?_
    refine xr_V3i d_L_law_432 xv_6_51 hW.this rfl rfl rfl rfl (Nat.le_of_ble_eq_true rfl) (by decide) (p_end hW hI h8) (fun v h1 h9 => ?_)
    obtain ⟨rfl, R', A', hW, hI', h8', e0, e6, g1, g2⟩ := h9
    rw [← e0, ← e6] at K ⊢
    refine xr_aload_n d_L_law_435 rfl ?_
    refine xr_aload_n d_L_law_436 rfl ?_
    refine xr_iload_n d_L_law_437 rfl ?_
    refine xr_iconst (v := 1) d_L_law_438 rfl ?_
    refine xr_iadd d_L_law_439 ?_
    refine kr_sld (n := i + 1) d_L_law_440 (nI_add i 1) (by omega) hL ?_
    refine xr_aload_n d_L_law_441 rfl ?_
    refine xr_iload_n d_L_law_442 rfl ?_
    refine xr_iconst (v := 2) d_L_law_443 rfl ?_
    refine xr_iadd d_L_law_444 ?_
    refine kr_sld (n := i + 2) d_L_law_445 (nI_add i 2) (by omega) hL ?_
    refine xr_if_eq (tgt := 453) d_L_law_446 rfl (fun n9 => absurd n9 z2) (fun _ => ?_)
    refine xr_iconst (v := 1) d_L_law_449 rfl ?_
    refine xr_goto (tgt := 454) d_L_law_450 rfl ?_
    refine xr_aload_n d_L_law_454 rfl ?_
    refine xr_iload_n d_L_law_455 rfl ?_
    refine xr_iconst (v := 3) d_L_law_456 rfl ?_
    refine xr_iadd d_L_law_457 ?_
    refine kr_sld (n := i + 3) d_L_law_458 (nI_add i 3) (by omega) hL ?_
    refine xr_V3i d_L_law_459 xv_6_55 hW.ref rfl rfl rfl rfl (Nat.le_of_ble_eq_true rfl) (by decide) (m_end hW hB hI0) (fun v h2 h9 => ?_)
    obtain ⟨rfl, hW, he⟩ := h9
    refine xr_icmp_eq (tgt := 658) d_L_law_462 rfl (fun _ => ?_) (fun n9 => absurd rfl n9)
    refine xr_iinc (v := nI (i + 6)) d_L_law_658 rfl (nI_add i 6) ?_
    refine xr_goto (tgt := 18) d_L_law_661 rfl ?_
    exact K _ _ ⟨R', A', hW, hI', h8', rfl, rfl⟩ (by rw [he]; exact g1) (by rw [he]; exact g2)
theorem law_tick {g : xm_G} {h : xm_H} {s : kS} {X M i : Nat} {Q : Option Value → xm_H → Prop} (hs : kLI X M s h) (hL : xm_n g ≤ 3072) (hi : i + 6 ≤ xm_n g) (K : ∀ (s' : kS) (h' : xm_H), kLI X M s' h' → h'.2.1 ≤ h.2.1 + 14 → h'.2.2 ≤ h.2.2 + 170 → xm_S g 6 m_L_law (18, [some (.ref (xm_b g)), some (.ref X), some (.ref M), some (.int (nI (i + 6)))], []) h' Q) : xm_S g 6 m_L_law (467, [some (.ref (xm_b g)), some (.ref X), some (.ref M), some (.int (nI i))], []) h Q := by
  obtain ⟨R, A, hW, hI, h8, rfl, rfl⟩ := hs
  have hI0 := hI
  have hB : kMb s := hI.1
  refine xr_aload_n d_L_law_467 rfl ?_
  refine xr_aload_n d_L_law_468 rfl ?_
  refine xr_iload_n d_L_law_469 rfl ?_
  refine xr_iconst (v := 1) d_L_law_470 rfl ?_
  refine xr_iadd d_L_law_471 ?_
  refine kr_sld (n := i + 1) d_L_law_472 (nI_add i 1) (by omega) hL ?_
  refine xr_V1i d_L_law_473 xv_6_56 hW.this rfl rfl (Nat.le_of_ble_eq_true rfl) (by decide) (p_tick hW hI h8) (fun v h1 h9 => ?_)
  obtain ⟨rfl, R', A', hW, hI', h8', e0, e6, g1, g2⟩ := h9
  rw [← e0, ← e6] at K ⊢
  refine xr_aload_n d_L_law_476 rfl ?_
  refine xr_aload_n d_L_law_477 rfl ?_
  refine xr_iload_n d_L_law_478 rfl ?_
  refine xr_iconst (v := 1) d_L_law_479 rfl ?_
  refine xr_iadd d_L_law_480 ?_
  refine kr_sld (n := i + 1) d_L_law_481 (nI_add i 1) (by omega) hL ?_
  refine xr_V1i d_L_law_482 xv_6_59 hW.ref rfl rfl (Nat.le_of_ble_eq_true rfl) (by decide) (m_tick hW hB hI0) (fun v h2 h9 => ?_)
  obtain ⟨rfl, hW, he⟩ := h9
  refine xr_icmp_eq (tgt := 658) d_L_law_485 rfl (fun _ => ?_) (fun n9 => absurd rfl n9)
  refine xr_iinc (v := nI (i + 6)) d_L_law_658 rfl (nI_add i 6) ?_
  refine xr_goto (tgt := 18) d_L_law_661 rfl ?_
  exact K _ _ ⟨R', A', hW, hI', h8', rfl, rfl⟩ (by rw [he]; exact g1) (by rw [he]; exact g2)
theorem law_cancel {g : xm_G} {h : xm_H} {s : kS} {X M i : Nat} {Q : Option Value → xm_H → Prop} (hs : kLI X M s h) (hL : xm_n g ≤ 3072) (hi : i + 6 ≤ xm_n g) (K : ∀ (s' : kS) (h' : xm_H), kLI X M s' h' → h'.2.1 ≤ h.2.1 + 14 → h'.2.2 ≤ h.2.2 + 170 → xm_S g 6 m_L_law (18, [some (.ref (xm_b g)), some (.ref X), some (.ref M), some (.int (nI (i + 6)))], []) h' Q) : xm_S g 6 m_L_law (490, [some (.ref (xm_b g)), some (.ref X), some (.ref M), some (.int (nI i))], []) h Q := by
  obtain ⟨R, A, hW, hI, h8, rfl, rfl⟩ := hs
  have hI0 := hI
  have hB : kMb s := hI.1
  refine xr_aload_n d_L_law_490 rfl ?_
  refine xr_aload_n d_L_law_491 rfl ?_
  refine xr_iload_n d_L_law_492 rfl ?_
  refine xr_iconst (v := 1) d_L_law_493 rfl ?_
  refine xr_iadd d_L_law_494 ?_
  refine kr_sld (n := i + 1) d_L_law_495 (nI_add i 1) (by omega) hL ?_
  refine xr_V1i d_L_law_496 xv_6_60 hW.this rfl rfl (Nat.le_of_ble_eq_true rfl) (by decide) (p_cancel hW hI h8) (fun v h1 h9 => ?_)
  obtain ⟨rfl, R', A', hW, hI', h8', e0, e6, g1, g2⟩ := h9
  rw [← e0, ← e6] at K ⊢
  refine xr_aload_n d_L_law_499 rfl ?_
  refine xr_aload_n d_L_law_500 rfl ?_
  refine xr_iload_n d_L_law_501 rfl ?_
  refine xr_iconst (v := 1) d_L_law_502 rfl ?_
  refine xr_iadd d_L_law_503 ?_
  refine kr_sld (n := i + 1) d_L_law_504 (nI_add i 1) (by omega) hL ?_
  refine xr_V1i d_L_law_505 xv_6_63 hW.ref rfl rfl (Nat.le_of_ble_eq_true rfl) (by decide) (m_cancel hW hB) (fun v h2 h9 => ?_)
  obtain ⟨rfl, hW, he⟩ := h9
  refine xr_icmp_eq (tgt := 658) d_L_law_508 rfl (fun _ => ?_) (fun n9 => absurd rfl n9)
  refine xr_iinc (v := nI (i + 6)) d_L_law_658 rfl (nI_add i 6) ?_
  refine xr_goto (tgt := 18) d_L_law_661 rfl ?_
  exact K _ _ ⟨R', A', hW, hI', h8', rfl, rfl⟩ (by rw [he]; exact g1) (by rw [he]; exact g2)
theorem law_again {g : xm_G} {h : xm_H} {s : kS} {X M i : Nat} {Q : Option Value → xm_H → Prop} (hs : kLI X M s h) (hL : xm_n g ≤ 3072) (hi : i + 6 ≤ xm_n g) (K : ∀ (s' : kS) (h' : xm_H), kLI X M s' h' → h'.2.1 ≤ h.2.1 + 14 → h'.2.2 ≤ h.2.2 + 170 → xm_S g 6 m_L_law (18, [some (.ref (xm_b g)), some (.ref X), some (.ref M), some (.int (nI (i + 6)))], []) h' Q) : xm_S g 6 m_L_law (513, [some (.ref (xm_b g)), some (.ref X), some (.ref M), some (.int (nI i))], []) h Q := by
  obtain ⟨R, A, hW, hI, h8, rfl, rfl⟩ := hs
  have hI0 := hI
  have hB : kMb s := hI.1
  refine xr_aload_n d_L_law_513 rfl ?_
  refine xr_aload_n d_L_law_514 rfl ?_
  refine xr_iload_n d_L_law_515 rfl ?_
  refine xr_iconst (v := 1) d_L_law_516 rfl ?_
  refine xr_iadd d_L_law_517 ?_
  refine kr_sld (n := i + 1) d_L_law_518 (nI_add i 1) (by omega) hL ?_
  refine xr_V1i d_L_law_519 xv_6_64 hW.this rfl rfl (Nat.le_of_ble_eq_true rfl) (by decide) (p_again hW hI h8) (fun v h1 h9 => ?_)
  obtain ⟨rfl, R', A', hW, hI', h8', e0, e6, g1, g2⟩ := h9
  rw [← e0, ← e6] at K ⊢
  refine xr_aload_n d_L_law_522 rfl ?_
  refine xr_aload_n d_L_law_523 rfl ?_
  refine xr_iload_n d_L_law_524 rfl ?_
  refine xr_iconst (v := 1) d_L_law_525 rfl ?_
  refine xr_iadd d_L_law_526 ?_
  refine kr_sld (n := i + 1) d_L_law_527 (nI_add i 1) (by omega) hL ?_
  refine xr_V1i d_L_law_528 xv_6_67 hW.ref rfl rfl (Nat.le_of_ble_eq_true rfl) (by decide) (m_again hW hB) (fun v h2 h9 => ?_)
  obtain ⟨rfl, hW, he⟩ := h9
  refine xr_icmp_eq (tgt := 658) d_L_law_531 rfl (fun _ => ?_) (fun n9 => absurd rfl n9)
  refine xr_iinc (v := nI (i + 6)) d_L_law_658 rfl (nI_add i 6) ?_
  refine xr_goto (tgt := 18) d_L_law_661 rfl ?_
  exact K _ _ ⟨R', A', hW, hI', h8', rfl, rfl⟩ (by rw [he]; exact g1) (by rw [he]; exact g2)
theorem law_state {g : xm_G} {h : xm_H} {s : kS} {X M i : Nat} {Q : Option Value → xm_H → Prop} (hs : kLI X M s h) (hL : xm_n g ≤ 3072) (hi : i + 6 ≤ xm_n g) (K : ∀ (s' : kS) (h' : xm_H), kLI X M s' h' → h'.2.1 ≤ h.2.1 + 14 → h'.2.2 ≤ h.2.2 + 170 → xm_S g 6 m_L_law (18, [some (.ref (xm_b g)), some (.ref X), some (.ref M), some (.int (nI (i + 6)))], []) h' Q) : xm_S g 6 m_L_law (536, [some (.ref (xm_b g)), some (.ref X), some (.ref M), some (.int (nI i))], []) h Q := by
  obtain ⟨R, A, hW, hI, h8, rfl, rfl⟩ := hs
  have hI0 := hI
  have hB : kMb s := hI.1
  refine xr_aload_n d_L_law_536 rfl ?_
  refine xr_aload_n d_L_law_537 rfl ?_
  refine xr_iload_n d_L_law_538 rfl ?_
  refine xr_iconst (v := 1) d_L_law_539 rfl ?_
  refine xr_iadd d_L_law_540 ?_
  refine kr_sld (n := i + 1) d_L_law_541 (nI_add i 1) (by omega) hL ?_
  refine xr_aload_n d_L_law_542 rfl ?_
  refine xr_iload_n d_L_law_543 rfl ?_
  refine xr_iconst (v := 2) d_L_law_544 rfl ?_
  refine xr_iadd d_L_law_545 ?_
  refine kr_sld (n := i + 2) d_L_law_546 (nI_add i 2) (by omega) hL ?_
  refine xr_V2i d_L_law_547 xv_6_68 hW.this rfl rfl rfl (Nat.le_of_ble_eq_true rfl) (by decide) (p_state hW hI h8) (fun v h1 h9 => ?_)
  obtain ⟨rfl, R', A', hW, hI', h8', e0, e6, g1, g2⟩ := h9
  rw [← e0, ← e6] at K ⊢
  refine xr_aload_n d_L_law_550 rfl ?_
  refine xr_aload_n d_L_law_551 rfl ?_
  refine xr_iload_n d_L_law_552 rfl ?_
  refine xr_iconst (v := 1) d_L_law_553 rfl ?_
  refine xr_iadd d_L_law_554 ?_
  refine kr_sld (n := i + 1) d_L_law_555 (nI_add i 1) (by omega) hL ?_
  refine xr_aload_n d_L_law_556 rfl ?_
  refine xr_iload_n d_L_law_557 rfl ?_
  refine xr_iconst (v := 2) d_L_law_558 rfl ?_
  refine xr_iadd d_L_law_559 ?_
  refine kr_sld (n := i + 2) d_L_law_560 (nI_add i 2) (by omega) hL ?_
  refine xr_V2i d_L_law_561 xv_6_71 hW.ref rfl rfl rfl (Nat.le_of_ble_eq_true rfl) (by decide) (m_state hW hB) (fun v h2 h9 => ?_)
  obtain ⟨rfl, hW, he⟩ := h9
  refine xr_icmp_eq (tgt := 658) d_L_law_564 rfl (fun _ => ?_) (fun n9 => absurd rfl n9)
  refine xr_iinc (v := nI (i + 6)) d_L_law_658 rfl (nI_add i 6) ?_
  refine xr_goto (tgt := 18) d_L_law_661 rfl ?_
  exact K _ _ ⟨R', A', hW, hI', h8', rfl, rfl⟩ (by rw [he]; exact g1) (by rw [he]; exact g2)
theorem law_about {g : xm_G} {h : xm_H} {s : kS} {X M i : Nat} {Q : Option Value → xm_H → Prop} (hs : kLI X M s h) (hL : xm_n g ≤ 3072) (hi : i + 6 ≤ xm_n g) (K : ∀ (s' : kS) (h' : xm_H), kLI X M s' h' → h'.2.1 ≤ h.2.1 + 14 → h'.2.2 ≤ h.2.2 + 170 → xm_S g 6 m_L_law (18, [some (.ref (xm_b g)), some (.ref X), some (.ref M), some (.int (nI (i + 6)))], []) h' Q) : xm_S g 6 m_L_law (569, [some (.ref (xm_b g)), some (.ref X), some (.ref M), some (.int (nI i))], []) h Q := by
  obtain ⟨R, A, hW, hI, h8, rfl, rfl⟩ := hs
  have hI0 := hI
  have hB : kMb s := hI.1
  refine xr_aload_n d_L_law_569 rfl ?_
  refine xr_aload_n d_L_law_570 rfl ?_
  refine xr_iload_n d_L_law_571 rfl ?_
  refine xr_iconst (v := 1) d_L_law_572 rfl ?_
  refine xr_iadd d_L_law_573 ?_
  refine kr_sld (n := i + 1) d_L_law_574 (nI_add i 1) (by omega) hL ?_
  refine xr_aload_n d_L_law_575 rfl ?_
  refine xr_iload_n d_L_law_576 rfl ?_
  refine xr_iconst (v := 2) d_L_law_577 rfl ?_
  refine xr_iadd d_L_law_578 ?_
  refine kr_sld (n := i + 2) d_L_law_579 (nI_add i 2) (by omega) hL ?_
  refine xr_aload_n d_L_law_580 rfl ?_
  refine xr_iload_n d_L_law_581 rfl ?_
  refine xr_iconst (v := 3) d_L_law_582 rfl ?_
  refine xr_iadd d_L_law_583 ?_
  refine kr_sld (n := i + 3) d_L_law_584 (nI_add i 3) (by omega) hL ?_
  refine xr_V3i d_L_law_585 xv_6_72 hW.this rfl rfl rfl rfl (Nat.le_of_ble_eq_true rfl) (by decide) (p_about hW hI h8) (fun v h1 h9 => ?_)
  obtain ⟨rfl, R', A', hW, hI', h8', e0, e6, g1, g2⟩ := h9
  rw [← e0, ← e6] at K ⊢
  refine xr_aload_n d_L_law_588 rfl ?_
  refine xr_aload_n d_L_law_589 rfl ?_
  refine xr_iload_n d_L_law_590 rfl ?_
  refine xr_iconst (v := 1) d_L_law_591 rfl ?_
  refine xr_iadd d_L_law_592 ?_
  refine kr_sld (n := i + 1) d_L_law_593 (nI_add i 1) (by omega) hL ?_
  refine xr_aload_n d_L_law_594 rfl ?_
  refine xr_iload_n d_L_law_595 rfl ?_
  refine xr_iconst (v := 2) d_L_law_596 rfl ?_
  refine xr_iadd d_L_law_597 ?_
  refine kr_sld (n := i + 2) d_L_law_598 (nI_add i 2) (by omega) hL ?_
  refine xr_aload_n d_L_law_599 rfl ?_
  refine xr_iload_n d_L_law_600 rfl ?_
  refine xr_iconst (v := 3) d_L_law_601 rfl ?_
  refine xr_iadd d_L_law_602 ?_
  refine kr_sld (n := i + 3) d_L_law_603 (nI_add i 3) (by omega) hL ?_
  refine xr_V3i d_L_law_604 xv_6_75 hW.ref rfl rfl rfl rfl (Nat.le_of_ble_eq_true rfl) (by decide) (m_about hW hB) (fun v h2 h9 => ?_)
  obtain ⟨rfl, hW, he⟩ := h9
  refine xr_icmp_eq (tgt := 658) d_L_law_607 rfl (fun _ => ?_) (fun n9 => absurd rfl n9)
  refine xr_iinc (v := nI (i + 6)) d_L_law_658 rfl (nI_add i 6) ?_
  refine xr_goto (tgt := 18) d_L_law_661 rfl ?_
  exact K _ _ ⟨R', A', hW, hI', h8', rfl, rfl⟩ (by rw [he]; exact g1) (by rw [he]; exact g2)
theorem law_verdict {g : xm_G} {h : xm_H} {s : kS} {X M i : Nat} {Q : Option Value → xm_H → Prop} (hs : kLI X M s h) (hL : xm_n g ≤ 3072) (hi : i + 6 ≤ xm_n g) (K : ∀ (s' : kS) (h' : xm_H), kLI X M s' h' → h'.2.1 ≤ h.2.1 + 14 → h'.2.2 ≤ h.2.2 + 170 → xm_S g 6 m_L_law (18, [some (.ref (xm_b g)), some (.ref X), some (.ref M), some (.int (nI (i + 6)))], []) h' Q) : xm_S g 6 m_L_law (612, [some (.ref (xm_b g)), some (.ref X), some (.ref M), some (.int (nI i))], []) h Q := by
  obtain ⟨R, A, hW, hI, h8, rfl, rfl⟩ := hs
  have hI0 := hI
  have hB : kMb s := hI.1
  refine xr_aload_n d_L_law_612 rfl ?_
  refine xr_aload_n d_L_law_613 rfl ?_
  refine xr_iload_n d_L_law_614 rfl ?_
  refine xr_iconst (v := 1) d_L_law_615 rfl ?_
  refine xr_iadd d_L_law_616 ?_
  refine kr_sld (n := i + 1) d_L_law_617 (nI_add i 1) (by omega) hL ?_
  refine xr_V1i d_L_law_618 xv_6_76 hW.this rfl rfl (Nat.le_of_ble_eq_true rfl) (by decide) (p_verdict hW hI h8) (fun v h1 h9 => ?_)
  obtain ⟨rfl, R', A', hW, hI', h8', e0, e6, g1, g2⟩ := h9
  rw [← e0, ← e6] at K ⊢
  refine xr_aload_n d_L_law_621 rfl ?_
  refine xr_aload_n d_L_law_622 rfl ?_
  refine xr_iload_n d_L_law_623 rfl ?_
  refine xr_iconst (v := 1) d_L_law_624 rfl ?_
  refine xr_iadd d_L_law_625 ?_
  refine kr_sld (n := i + 1) d_L_law_626 (nI_add i 1) (by omega) hL ?_
  refine xr_V1i d_L_law_627 xv_6_79 hW.ref rfl rfl (Nat.le_of_ble_eq_true rfl) (by decide) (m_verdict hW hB) (fun v h2 h9 => ?_)
  obtain ⟨rfl, hW, he⟩ := h9
  refine xr_icmp_eq (tgt := 658) d_L_law_630 rfl (fun _ => ?_) (fun n9 => absurd rfl n9)
  refine xr_iinc (v := nI (i + 6)) d_L_law_658 rfl (nI_add i 6) ?_
  refine xr_goto (tgt := 18) d_L_law_661 rfl ?_
  exact K _ _ ⟨R', A', hW, hI', h8', rfl, rfl⟩ (by rw [he]; exact g1) (by rw [he]; exact g2)
theorem law_has {g : xm_G} {h : xm_H} {s : kS} {X M i : Nat} {Q : Option Value → xm_H → Prop} (hs : kLI X M s h) (hL : xm_n g ≤ 3072) (hi : i + 6 ≤ xm_n g) (K : ∀ (s' : kS) (h' : xm_H), kLI X M s' h' → h'.2.1 ≤ h.2.1 + 14 → h'.2.2 ≤ h.2.2 + 170 → xm_S g 6 m_L_law (18, [some (.ref (xm_b g)), some (.ref X), some (.ref M), some (.int (nI (i + 6)))], []) h' Q) : xm_S g 6 m_L_law (635, [some (.ref (xm_b g)), some (.ref X), some (.ref M), some (.int (nI i))], []) h Q := by
  obtain ⟨R, A, hW, hI, h8, rfl, rfl⟩ := hs
  have hI0 := hI
  have hB : kMb s := hI.1
  refine xr_aload_n d_L_law_635 rfl ?_
  refine xr_aload_n d_L_law_636 rfl ?_
  refine xr_iload_n d_L_law_637 rfl ?_
  refine xr_iconst (v := 1) d_L_law_638 rfl ?_
  refine xr_iadd d_L_law_639 ?_
  refine kr_sld (n := i + 1) d_L_law_640 (nI_add i 1) (by omega) hL ?_
  refine xr_V1i d_L_law_641 xv_6_80 hW.this rfl rfl (Nat.le_of_ble_eq_true rfl) (by decide) (p_has hW hI h8) (fun v h1 h9 => ?_)
  obtain ⟨rfl, R', A', hW, hI', h8', e0, e6, g1, g2⟩ := h9
  rw [← e0, ← e6] at K ⊢
  refine xr_aload_n d_L_law_644 rfl ?_
  refine xr_aload_n d_L_law_645 rfl ?_
  refine xr_iload_n d_L_law_646 rfl ?_
  refine xr_iconst (v := 1) d_L_law_647 rfl ?_
  refine xr_iadd d_L_law_648 ?_
  refine kr_sld (n := i + 1) d_L_law_649 (nI_add i 1) (by omega) hL ?_
  refine xr_V1i d_L_law_650 xv_6_83 hW.ref rfl rfl (Nat.le_of_ble_eq_true rfl) (by decide) (m_has hW hB) (fun v h2 h9 => ?_)
  obtain ⟨rfl, hW, he⟩ := h9
  refine xr_icmp_eq (tgt := 658) d_L_law_653 rfl (fun _ => ?_) (fun n9 => absurd rfl n9)
  refine xr_iinc (v := nI (i + 6)) d_L_law_658 rfl (nI_add i 6) ?_
  refine xr_goto (tgt := 18) d_L_law_661 rfl ?_
  exact K _ _ ⟨R', A', hW, hI', h8', rfl, rfl⟩ (by rw [he]; exact g1) (by rw [he]; exact g2)
theorem l_law {g : xm_G} {X M B1 B2 : Nat} (hL : xm_n g ≤ 3072) : ∀ (n : Nat) (i : Nat) (s : kS) (h : xm_H), kLI X M s h → i ≤ xm_n g → xm_n g < i + 6 * n → h.2.1 + 14 * n ≤ B1 → h.2.2 + 170 * n ≤ B2 → xm_S g 6 m_L_law (18, [some (.ref (xm_b g)), some (.ref X), some (.ref M), some (.int (nI i))], []) h (fun r h' => r = some (.int 1) ∧ h'.2.1 ≤ B1 ∧ h'.2.2 ≤ B2) := by
  intro n
  induction n with
  | zero => intros; omega
  | succ n ih =>
    intro i s h hs h1 h2 b1 b2
    refine xr_iload_n d_L_law_18 rfl ?_
    refine xr_aload_n d_L_law_19 rfl ?_
    refine xr_slen d_L_law_20 ?_
    refine xr_bipush (v := 6) d_L_law_21 rfl ?_
    refine xr_isub d_L_law_23 ?_
    refine xr_icmp_gt (tgt := 664) d_L_law_24 rfl (fun c24 => ?_) (fun c24 => ?_)
    · refine xr_iconst (v := 1) d_L_law_664 rfl ?_
      refine xr_ireturn d_L_law_665 rfl rfl rfl ?_
      exact ⟨rfl, by omega, by omega⟩
    · have hi : i + 6 ≤ xm_n g := by
        rcases Nat.lt_or_ge (xm_n g) (i + 6) with q | q
        · exact absurd ((k_l6 hL (by omega)).mpr q) c24
        · exact q
      refine xr_aload_n d_L_law_27 rfl ?_
      refine xr_iload_n d_L_law_28 rfl ?_
      refine kr_sld (n := i + 0) d_L_law_29 rfl (by omega) hL ?_
      refine xr_bipush (v := 15) d_L_law_30 rfl ?_
      refine xr_iand d_L_law_32 ?_
      obtain ⟨j, hj, ej⟩ := pk_andE (xm_x g i) (m := 15) 4 (by decide)
      have hj : j < 16 := hj
      have e15 : xm_x g (i + 0) &&& 15 = nI j := ej
      rw [e15]
      have hK : ∀ (s' : kS) (h' : xm_H), kLI X M s' h' → h'.2.1 ≤ h.2.1 + 14 → h'.2.2 ≤ h.2.2 + 170 → xm_S g 6 m_L_law (18, [some (.ref (xm_b g)), some (.ref X), some (.ref M), some (.int (nI (i + 6)))], []) h' _ := fun s' h' q g1 g2 => ih (i + 6) s' h' q (by omega) (by omega) (by omega) (by omega)
      rcases (show j = 0 ∨ j = 1 ∨ j = 2 ∨ j = 3 ∨ j = 4 ∨ j = 5 ∨ j = 6 ∨ j = 7 ∨ j = 8 ∨ j = 9 ∨ j = 10 ∨ j = 11 ∨ j = 12 ∨ j = 13 ∨ j = 14 ∨ j = 15 by omega) with rfl | rfl | rfl | rfl | rfl | rfl | rfl | rfl | rfl | rfl | rfl | rfl | rfl | rfl | rfl | rfl
      · refine xr_tableIn (tgt := 112) d_L_law_33 (by decide) (by decide) rfl rfl ?_
        exact law_job hs hL hi hK
      · refine xr_tableIn (tgt := 207) d_L_law_33 (by decide) (by decide) rfl rfl ?_
        exact law_needs hs hL hi hK
      · refine xr_tableIn (tgt := 240) d_L_law_33 (by decide) (by decide) rfl rfl ?_
        exact law_runner hs hL hi hK
      · refine xr_tableIn (tgt := 263) d_L_law_33 (by decide) (by decide) rfl rfl ?_
        exact law_lost hs hL hi hK
      · refine xr_tableIn (tgt := 286) d_L_law_33 (by decide) (by decide) rfl rfl ?_
        exact law_trigger hs hL hi hK
      · refine xr_tableIn (tgt := 319) d_L_law_33 (by decide) (by decide) rfl rfl ?_
        exact law_approve hs hL hi hK
      · refine xr_tableIn (tgt := 362) d_L_law_33 (by decide) (by decide) rfl rfl ?_
        exact law_take hs hL hi hK
      · refine xr_tableIn (tgt := 385) d_L_law_33 (by decide) (by decide) rfl rfl ?_
        exact law_beat hs hL hi hK
      · refine xr_tableIn (tgt := 408) d_L_law_33 (by decide) (by decide) rfl rfl ?_
        exact law_end hs hL hi hK
      · refine xr_tableIn (tgt := 467) d_L_law_33 (by decide) (by decide) rfl rfl ?_
        exact law_tick hs hL hi hK
      · refine xr_tableIn (tgt := 490) d_L_law_33 (by decide) (by decide) rfl rfl ?_
        exact law_cancel hs hL hi hK
      · refine xr_tableIn (tgt := 513) d_L_law_33 (by decide) (by decide) rfl rfl ?_
        exact law_again hs hL hi hK
      · refine xr_tableIn (tgt := 536) d_L_law_33 (by decide) (by decide) rfl rfl ?_
        exact law_state hs hL hi hK
      · refine xr_tableIn (tgt := 569) d_L_law_33 (by decide) (by decide) rfl rfl ?_
        exact law_about hs hL hi hK
      · refine xr_tableIn (tgt := 612) d_L_law_33 (by decide) (by decide) rfl rfl ?_
        exact law_verdict hs hL hi hK
      · refine xr_tableIn (tgt := 635) d_L_law_33 (by decide) (by decide) rfl rfl ?_
        exact law_has hs hL hi hK
/-- the law, from its first instruction -/
theorem law_all {g : xm_G} {h : xm_H} (hL : xm_n g ≤ 3072) : xm_S g 6 m_L_law (xm_entry m_L_law [.ref (xm_b g)]) h (fun r h' => r = some (.int 1) ∧ h'.2.1 ≤ h.2.1 + 8000 ∧ h'.2.2 ≤ h.2.2 + 90000) := by
  show xm_S g 6 m_L_law (0, [some (.ref (xm_b g)), none, none, none], []) h _
  refine xr_new (fs := [.null, .null, .null, .int 0, .int 0, .int 0, .int 0, .int 0]) (N := 8) d_L_law_0 xc_6_7 rfl rfl ?_
  refine xr_dup d_L_law_3 rfl ?_
  refine xr_I0v d_L_law_4 xi_6_9 rfl (Nat.le_of_ble_eq_true rfl) (by decide) (r_S_init (xm_up_self _ _ _) (Nat.lt_succ_self _)) (fun h1 h9 => ?_)
  have hB1 := h9
  clear h9
  have e1 : h1.2 = (h.2.1 + 1 + 3, h.2.2 + 8 + 28) := hB1.2.2.2.1
  obtain ⟨f1, z1, t1⟩ := h1
  obtain ⟨rfl, rfl⟩ := Prod.mk.inj e1
  refine xr_astore_n d_L_law_7 (Nat.le_of_ble_eq_true rfl) ?_
  refine xr_new (fs := [.int 0, .int 0, .int 0, .int 0, .int 0, .int 0, .null, .null, .null, .null, .null, .null, .null, .null, .null, .null, .null, .null, .null, .null, .null, .null, .null, .null, .null, .null]) (N := 26) d_L_law_8 xc_6_10 rfl rfl ?_
  refine xr_dup d_L_law_11 rfl ?_
  refine xr_I0v d_L_law_12 xi_6_12 rfl (Nat.le_of_ble_eq_true rfl) (by decide) (r_M_init (xm_up_self _ _ _) (Nat.lt_succ_self _)) (fun h2 h9 => ?_)
  have hB2 := h9
  clear h9
  have e2 : h2.2 = (h.2.1 + 1 + 3 + 1 + (csM 20).length, h.2.2 + 8 + 28 + 26 + 1080) := hB2.2.2.2.1
  have e20 : (csM 20).length = 20 := rfl
  rw [e20] at e2
  refine xr_astore_n d_L_law_15 (Nat.le_of_ble_eq_true rfl) ?_
  refine xr_iconst (v := 0) d_L_law_16 rfl ?_
  refine xr_istore_n d_L_law_17 (Nat.le_of_ble_eq_true rfl) ?_
  have o1 : ∀ x, x < h.2.1 + 4 → h2.1 x = f1 x := fun x hx => by
    refine (hB2.2.2.1 x (by show x ≠ h.2.1 + 1 + 3; omega) (by show x < h.2.1 + 1 + 3 + 1; omega)).trans ?_
    exact xm_up_ne _ _ (by show x ≠ h.2.1 + 1 + 3; omega)
  have hs : kLI h.2.1 (h.2.1 + 1 + 3) k_s0 h2 := ⟨_, kA0 h.2.1, kW.s0 (h1 := h) (by rw [e2]) ((o1 _ (by omega)).trans hB1.1) (fun j e q => by
      have hj : j < 3 := (List.getElem?_eq_some_iff.mp q).1
      exact (o1 _ (by omega)).trans (hB1.2.1 j e q)) hB2.1 hB2.2.1, kI.s0, kI8.s0, rfl, rfl⟩
  have e21 : h2.2.1 = h.2.1 + 25 := by rw [e2]
  have e22 : h2.2.2 = h.2.2 + 1142 := by rw [e2]
  exact l_law hL 513 0 k_s0 h2 hs (by omega) (by omega) (by omega) (by omega)
