/-! the world grows: a job, a runner -/
theorem xm_up_up (f : Nat → Option xm_E) (a : Nat) (e e' : xm_E) : xm_up (xm_up f a e) a e' = xm_up f a e' := by
  funext q
  by_cases h : q = a
  · rw [h, xm_up_self, xm_up_self]
  · rw [xm_up_ne _ _ h, xm_up_ne _ _ h, xm_up_ne _ _ h]
theorem kW.frame {c : kS} {R : Nat → Option Nat} {m : kS} {A : kA} {h h2 : xm_H} (hW : kW c R m A h) (hq : ∀ q, q < h.2.1 → h2.1 q = h.1 q) (hz : h.2.1 ≤ h2.2.1) : kW c R m A h2 :=
  ⟨fun k i hk => ⟨(hq _ (hW.1 k i hk).2).trans (hW.1 k i hk).1, Nat.lt_of_lt_of_le (hW.1 k i hk).2 hz⟩, hW.2⟩
def upA (A : kA) (k0 i0 a : Nat) : kA := fun k i => if k = k0 ∧ i = i0 then a else A k i
theorem upA_s (A : kA) (k0 i0 a : Nat) : upA A k0 i0 a k0 i0 = a := if_pos ⟨rfl, rfl⟩
theorem upA_k (A : kA) {k0 i0 a k i : Nat} (h : k ≠ k0) : upA A k0 i0 a k i = A k i := if_neg (fun q => h q.1)
theorem upA_i (A : kA) {k0 i0 a k i : Nat} (h : i ≠ i0) : upA A k0 i0 a k i = A k i := if_neg (fun q => h q.2)
theorem upA_f (A : kA) {k0 i0 a k : Nat} (h : k ≠ k0) : upA A k0 i0 a k = A k := by
  funext i
  exact upA_k A h
theorem kd6_A {m : kS} {A A' : kA} (h : ∀ i, A' 6 i = A 6 i) (i : Nat) : kd6 m A' i = kd6 m A i := by
  match i with
  | 0 => simp only [kd6, h]
  | i + 1 => rfl
/-- a new job -/
def k_addJ (s : kS) (l li re al ap : Int32) : kS := ((kj s + 1, kr s, kq s), (kw (kw (kw (kw (kw s 0 (kj s) l) 1 (kj s) li) 2 (kj s) re) 4 (kj s) al) 5 (kj s) ap).2)
theorem k_addJ_F (s : kS) (l li re al ap : Int32) (f i : Nat) : kF (k_addJ s l li re al ap) f i = if f = 5 ∧ i = kj s then ap else if f = 4 ∧ i = kj s then al else if f = 2 ∧ i = kj s then re else if f = 1 ∧ i = kj s then li else if f = 0 ∧ i = kj s then l else kF s f i := rfl
theorem k_addJ_o (s : kS) (l li re al ap : Int32) {f i : Nat} (h : i ≠ kj s) : kF (k_addJ s l li re al ap) f i = kF s f i := by
  rw [k_addJ_F, if_neg (fun q => h q.2), if_neg (fun q => h q.2), if_neg (fun q => h q.2), if_neg (fun q => h q.2), if_neg (fun q => h q.2)]
theorem k_addJ_n (s : kS) (l li re al ap : Int32) {f i : Nat} (h : 6 ≤ f) : kF (k_addJ s l li re al ap) f i = kF s f i := by
  rw [k_addJ_F, if_neg (by omega), if_neg (by omega), if_neg (by omega), if_neg (by omega), if_neg (by omega)]
theorem kW.addJ {c : kS} {R : Nat → Option Nat} {m : kS} {A : kA} {h : xm_H} {l li re al ap : Int32} {a : Nat} (hW : kW c R m A h) (h0 : kq c = 0) (h12 : kj c < 12) (h3 : kF c 3 (kj c) = 0) (ha : ∀ k i, kv c k i → A k i ≠ a) (hal : a < h.2.1)
    (ho : h.1 a = some (.inl (0, [.int l, .int li, .int re, .int al, .int ap, .int 0]))) :
    kW (k_addJ c l li re al ap) R m (upA A 1 (kj c) a) (xm_up (xm_up h.1 (A 0 1) (.inr (2, 12, updV (fun j => va_rf (if j < kj c then some (A 1 j) else none)) (nI (kj c)).toNatClampNeg (.ref a)))) (A 0 0) (.inl (4, [.ref (A 0 1), .ref (A 0 2), .ref (A 0 3), .int (nI (kj c) + 1), .int (nI (kr c)), .int (nI (kq c)), .int (kc c), .int (kl c)])), h.2) := by
  have v00 : kv c 0 0 := show 0 < 4 by decide
  have v01 : kv c 0 1 := show 1 < 4 by decide
  have hA6 : ∀ i, upA A 1 (kj c) a 6 i = A 6 i := fun i => upA_k A (by decide)
  -- a cell that is neither of the two
  have old : ∀ k i, kv c k i → ¬ (k = 0 ∧ i = 0) → ¬ (k = 0 ∧ i = 1) → xm_up (xm_up h.1 (A 0 1) (.inr (2, 12, updV (fun j => va_rf (if j < kj c then some (A 1 j) else none)) (nI (kj c)).toNatClampNeg (.ref a)))) (A 0 0) (.inl (4, [.ref (A 0 1), .ref (A 0 2), .ref (A 0 3), .int (nI (kj c) + 1), .int (nI (kr c)), .int (nI (kq c)), .int (kc c), .int (kl c)])) (A k i) = some (kd c R m A k i) := fun k i hk n0 n1 => by
    rw [xm_up_ne _ _ (fun z => n0 (hW.2.1 k i 0 0 hk v00 z)), xm_up_ne _ _ (fun z => n1 (hW.2.1 k i 0 1 hk v01 z))]
    exact (hW.1 k i hk).1
  have inv : ∀ k i, kv (k_addJ c l li re al ap) k i → kv c k i ∨ (k = 1 ∧ i = kj c) := fun k i hk => by
    match k, hk with
    | 0, hk => exact Or.inl hk
    | 1, hk =>
      have hk : i < kj c + 1 := hk
      rcases Nat.lt_or_ge i (kj c) with q | q
      · exact Or.inl q
      · exact Or.inr ⟨rfl, by omega⟩
    | 2, hk => exact Or.inl hk
    | 3, hk => exact Or.inl hk
    | 4, hk => exact Or.inl hk
    | 5, hk =>
      have hk : i < 12 * kq c ∧ i % 12 < kj c + 1 := hk
      rw [h0] at hk
      exact absurd hk.1 (by omega)
    | 6, hk => exact Or.inl hk
    | k + 7, hk => exact hk.elim
  have up : ∀ k i, kv c k i → upA A 1 (kj c) a k i = A k i := fun k i hk => by
    by_cases e : k = 1 ∧ i = kj c
    · obtain ⟨rfl, rfl⟩ := e
      exact absurd hk (Nat.lt_irrefl _)
    · exact if_neg e
  refine ⟨fun k i hk => ?_, fun k i k' i' hk hk' e => ?_, ⟨Nat.succ_le_of_lt h12, hW.2.2.2⟩⟩
  · rcases inv k i hk with hk | ⟨rfl, rfl⟩
    · rw [up k i hk]
      refine ⟨?_, (hW.1 k i hk).2⟩
      by_cases n0 : k = 0 ∧ i = 0
      · obtain ⟨rfl, rfl⟩ := n0
        show xm_up _ (A 0 0) _ (A 0 0) = _
        rw [xm_up_self]
        simp only [kd, kd0, upA_k A (show (0 : Nat) ≠ 1 by decide), nI_1]
        rfl
      · by_cases n1 : k = 0 ∧ i = 1
        · obtain ⟨rfl, rfl⟩ := n1
          show xm_up _ (A 0 0) _ (A 0 1) = _
          rw [xm_up_ne _ _ (fun z => absurd (hW.2.1 0 1 0 0 v01 v00 z).2 (by decide)), xm_up_self]
          simp only [kd, kd0]
          rw [nI_clamp (by omega)]
          congr 4
          funext j
          show updV _ (kj c) _ j = va_rf (if j < kj c + 1 then some (upA A 1 (kj c) a 1 j) else none)
          unfold updV
          by_cases e : j = kj c
          · rw [if_pos e, e, if_pos (Nat.lt_succ_self _), upA_s]; rfl
          · rw [if_neg e, upA_i A e]
            by_cases q : j < kj c
            · dsimp only; rw [if_pos q, if_pos (by omega)]
            · dsimp only; rw [if_neg q, if_neg (by omega)]
        · refine (old k i hk n0 n1).trans ?_
          congr 1
          match k, hk with
          | 0, hk =>
            match i, n0, n1 with
            | 0, n0, _ => exact absurd ⟨rfl, rfl⟩ n0
            | 1, _, n1 => exact absurd ⟨rfl, rfl⟩ n1
            | 2, _, _ => simp only [kd, kd0, upA_k A (show (2 : Nat) ≠ 1 by decide)]; rfl
            | i + 3, _, _ => simp only [kd, kd0, upA_k A (show (3 : Nat) ≠ 1 by decide)]; rfl
          | 1, hk =>
            have hk : i < kj c := hk
            simp only [kd, kd1, k_addJ_o c l li re al ap (show i ≠ kj c by omega)]
          | 2, hk => simp only [kd, kd2, k_addJ_n c l li re al ap (show 6 ≤ 17 by decide), k_addJ_n c l li re al ap (show 6 ≤ 18 by decide), k_addJ_n c l li re al ap (show 6 ≤ 19 by decide), upA_f A (show (5 : Nat) ≠ 1 by decide)]
          | 3, hk => exact absurd (show i < kq c from hk) (by omega)
          | 4, hk => exact absurd (show i < kq c from hk) (by omega)
          | 5, hk => exact absurd (show i < 12 * kq c ∧ _ from hk).1 (by omega)
          | 6, hk => exact (kd6_A hA6 i).symm
          | k + 7, hk => exact hk.elim
    · rw [upA_s]
      refine ⟨?_, hal⟩
      show xm_up _ (A 0 0) _ a = _
      rw [xm_up_ne _ _ (fun z => ha 0 0 v00 z.symm), xm_up_ne _ _ (fun z => ha 0 1 v01 z.symm), ho]
      simp only [kd, kd1, k_addJ_F]
      simp [h3]
  · rcases inv k i hk with hk | ⟨rfl, rfl⟩ <;> rcases inv k' i' hk' with hk' | ⟨rfl, rfl⟩
    · rw [up k i hk, up k' i' hk'] at e
      exact hW.2.1 k i k' i' hk hk' e
    · rw [up k i hk, upA_s] at e
      exact absurd e (ha k i hk)
    · rw [up k' i' hk', upA_s] at e
      exact absurd e.symm (ha k' i' hk')
    · exact ⟨rfl, rfl⟩
theorem kI.addJ {s : kS} {R : Nat → Option Nat} (h : kI s R) {l li re al ap : Int32} (h0 : kq s = 0) (h12 : kj s < 12) : kI (k_addJ s l li re al ap) R := by
  obtain ⟨a1, a2, a3, a4, a5, a6, a7, a8, a9⟩ := h
  have no : ∀ x, ¬ k_ok s x := fun x q => by have := q.1; rw [h0] at this; omega
  have no' : ∀ x, ¬ k_ok (k_addJ s l li re al ap) x := fun x q => by
    have : x < 12 * kq s := q.1
    rw [h0] at this
    omega
  refine ⟨⟨Nat.succ_le_of_lt h12, a1.2⟩, fun x u e => absurd (a2 x u e).1 (no x), fun u hu => ?_, fun x hx => absurd hx (no' x), fun x hx f f1 f2 => ?_, fun r => ⟨fun hr => ?_, fun hr => ?_⟩, fun x => ?_, fun j k q1 q2 => ?_, fun x => ?_⟩
  · rw [k_addJ_n _ _ _ _ _ _ (by decide)]; exact a3 u hu
  · rw [k_addJ_n _ _ _ _ _ _ (by omega)]; exact a5 x (no x) f f1 f2
  · rw [k_addJ_n _ _ _ _ _ _ (by decide)]; exact (a6 r).1 hr
  · have hr : kj s + 1 ≤ r := hr
    rw [k_addJ_o _ _ _ _ _ _ (by omega)]; exact (a6 r).2 (by omega)
  · rw [k_addJ_n _ _ _ _ _ _ (by decide), k_addJ_n _ _ _ _ _ _ (by decide)]; exact a7 x
  · rw [k_addJ_F, if_neg (by omega), if_neg (by omega), if_neg (by omega), if_neg (by omega), if_neg (by omega)]; exact a8 j k q1 q2
  · rw [k_addJ_n _ _ _ _ _ _ (by decide)]; exact a9 x
theorem kI8.none {s : kS} (h0 : kq s = 0) : kI8 s := fun x hx => by
  have := hx.1
  rw [h0] at this
  omega
def o_job (s : kS) (l li re al ap : Int32) : kS × Int32 := if kj s = 12 ∨ ¬ kq s = 0 ∨ li < 0 ∨ re < 0 ∨ 3 < re then (s, -1) else (k_addJ s (l &&& 255) li re al ap, nI (kj s))
/-- a new runner -/
def k_addU (s : kS) (l : Int32) : kS := ((kj s, kr s + 1, kq s), (kw (kw (kw s 17 (kr s) l) 18 (kr s) (kc s)) 19 (kr s) (-1)).2)
theorem k_addU_F (s : kS) (l : Int32) (f i : Nat) : kF (k_addU s l) f i = if f = 19 ∧ i = kr s then -1 else if f = 18 ∧ i = kr s then kc s else if f = 17 ∧ i = kr s then l else kF s f i := rfl
theorem k_addU_o (s : kS) (l : Int32) {f i : Nat} (h : i ≠ kr s) : kF (k_addU s l) f i = kF s f i := by
  rw [k_addU_F, if_neg (fun q => h q.2), if_neg (fun q => h q.2), if_neg (fun q => h q.2)]
theorem k_addU_n (s : kS) (l : Int32) {f i : Nat} (h : f < 17) : kF (k_addU s l) f i = kF s f i := by
  rw [k_addU_F, if_neg (by omega), if_neg (by omega), if_neg (by omega)]
theorem kW.addU {c : kS} {R : Nat → Option Nat} {m : kS} {A : kA} {h : xm_H} {l : Int32} {a : Nat} (hW : kW c R m A h) (h6 : kr c < 6) (hR : ∀ x u, R x = some u → u < kr c) (ha : ∀ k i, kv c k i → A k i ≠ a) (hal : a < h.2.1)
    (ho : h.1 a = some (.inl (2, [.int (nI (kr c)), .int l, .int (kc c), .null]))) :
    kW (k_addU c l) R m (upA A 2 (kr c) a) (xm_up (xm_up h.1 (A 0 2) (.inr (3, 6, updV (fun j => va_rf (if j < kr c then some (A 2 j) else none)) (nI (kr c)).toNatClampNeg (.ref a)))) (A 0 0) (.inl (4, [.ref (A 0 1), .ref (A 0 2), .ref (A 0 3), .int (nI (kj c)), .int (nI (kr c) + 1), .int (nI (kq c)), .int (kc c), .int (kl c)])), h.2) := by
  have v00 : kv c 0 0 := show 0 < 4 by decide
  have v02 : kv c 0 2 := show 2 < 4 by decide
  have hA6 : ∀ i, upA A 2 (kr c) a 6 i = A 6 i := fun i => upA_k A (by decide)
  have old : ∀ k i, kv c k i → ¬ (k = 0 ∧ i = 0) → ¬ (k = 0 ∧ i = 2) → xm_up (xm_up h.1 (A 0 2) (.inr (3, 6, updV (fun j => va_rf (if j < kr c then some (A 2 j) else none)) (nI (kr c)).toNatClampNeg (.ref a)))) (A 0 0) (.inl (4, [.ref (A 0 1), .ref (A 0 2), .ref (A 0 3), .int (nI (kj c)), .int (nI (kr c) + 1), .int (nI (kq c)), .int (kc c), .int (kl c)])) (A k i) = some (kd c R m A k i) := fun k i hk n0 n1 => by
    rw [xm_up_ne _ _ (fun z => n0 (hW.2.1 k i 0 0 hk v00 z)), xm_up_ne _ _ (fun z => n1 (hW.2.1 k i 0 2 hk v02 z))]
    exact (hW.1 k i hk).1
  have inv : ∀ k i, kv (k_addU c l) k i → kv c k i ∨ (k = 2 ∧ i = kr c) := fun k i hk => by
    match k, hk with
    | 0, hk => exact Or.inl hk
    | 1, hk => exact Or.inl hk
    | 2, hk =>
      have hk : i < kr c + 1 := hk
      rcases Nat.lt_or_ge i (kr c) with q | q
      · exact Or.inl q
      · exact Or.inr ⟨rfl, by omega⟩
    | 3, hk => exact Or.inl hk
    | 4, hk => exact Or.inl hk
    | 5, hk => exact Or.inl hk
    | 6, hk => exact Or.inl hk
    | k + 7, hk => exact hk.elim
  have up : ∀ k i, kv c k i → upA A 2 (kr c) a k i = A k i := fun k i hk => by
    by_cases e : k = 2 ∧ i = kr c
    · obtain ⟨rfl, rfl⟩ := e
      exact absurd hk (Nat.lt_irrefl _)
    · exact if_neg e
  refine ⟨fun k i hk => ?_, fun k i k' i' hk hk' e => ?_, ⟨hW.2.2.1, Nat.succ_le_of_lt h6, hW.2.2.2.2⟩⟩
  · rcases inv k i hk with hk | ⟨rfl, rfl⟩
    · rw [up k i hk]
      refine ⟨?_, (hW.1 k i hk).2⟩
      by_cases n0 : k = 0 ∧ i = 0
      · obtain ⟨rfl, rfl⟩ := n0
        show xm_up _ (A 0 0) _ (A 0 0) = _
        rw [xm_up_self]
        simp only [kd, kd0, upA_k A (show (0 : Nat) ≠ 2 by decide), nI_1]
        rfl
      · by_cases n1 : k = 0 ∧ i = 2
        · obtain ⟨rfl, rfl⟩ := n1
          show xm_up _ (A 0 0) _ (A 0 2) = _
          rw [xm_up_ne _ _ (fun z => absurd (hW.2.1 0 2 0 0 v02 v00 z).2 (by decide)), xm_up_self]
          simp only [kd, kd0]
          rw [nI_clamp (by omega)]
          congr 4
          funext j
          show updV _ (kr c) _ j = va_rf (if j < kr c + 1 then some (upA A 2 (kr c) a 2 j) else none)
          unfold updV
          by_cases e : j = kr c
          · rw [if_pos e, e, if_pos (Nat.lt_succ_self _), upA_s]; rfl
          · rw [if_neg e, upA_i A e]
            by_cases q : j < kr c
            · dsimp only; rw [if_pos q, if_pos (by omega)]
            · dsimp only; rw [if_neg q, if_neg (by omega)]
        · refine (old k i hk n0 n1).trans ?_
          congr 1
          match k, hk with
          | 0, hk =>
            match i, n0, n1 with
            | 0, n0, _ => exact absurd ⟨rfl, rfl⟩ n0
            | 1, _, _ => simp only [kd, kd0, upA_k A (show (1 : Nat) ≠ 2 by decide)]; rfl
            | 2, _, n1 => exact absurd ⟨rfl, rfl⟩ n1
            | i + 3, _, _ => simp only [kd, kd0, upA_k A (show (3 : Nat) ≠ 2 by decide)]; rfl
          | 1, hk => simp only [kd, kd1, k_addU_n c l (show 0 < 17 by decide), k_addU_n c l (show 1 < 17 by decide), k_addU_n c l (show 2 < 17 by decide), k_addU_n c l (show 3 < 17 by decide), k_addU_n c l (show 4 < 17 by decide), k_addU_n c l (show 5 < 17 by decide)]
          | 2, hk =>
            have hk : i < kr c := hk
            simp only [kd, kd2, k_addU_o c l (show i ≠ kr c by omega), upA_f A (show (5 : Nat) ≠ 2 by decide)]
          | 3, hk => simp only [kd, kd3, k_addU_n c l (show 6 < 17 by decide), k_addU_n c l (show 7 < 17 by decide), k_addU_n c l (show 8 < 17 by decide), upA_k A (show (4 : Nat) ≠ 2 by decide)]
          | 4, hk => simp only [kd, kd4, upA_k A (show (5 : Nat) ≠ 2 by decide)]; rfl
          | 5, hk =>
            have e2 : (R i).map (upA A 2 (kr c) a 2) = (R i).map (A 2) := by
              cases hRi : R i with
              | none => rfl
              | some u => show some _ = some _; rw [upA_i A (show u ≠ kr c by have := hR i u hRi; omega)]
            simp only [kd, kd5, e2, k_addU_n c l (show 9 < 17 by decide), k_addU_n c l (show 10 < 17 by decide), k_addU_n c l (show 11 < 17 by decide), k_addU_n c l (show 12 < 17 by decide), k_addU_n c l (show 13 < 17 by decide), k_addU_n c l (show 14 < 17 by decide), k_addU_n c l (show 15 < 17 by decide), k_addU_n c l (show 16 < 17 by decide), upA_k A (show (3 : Nat) ≠ 2 by decide), upA_k A (show (1 : Nat) ≠ 2 by decide)]
          | 6, hk => exact (kd6_A hA6 i).symm
          | k + 7, hk => exact hk.elim
    · rw [upA_s]
      refine ⟨?_, hal⟩
      show xm_up _ (A 0 0) _ a = _
      rw [xm_up_ne _ _ (fun z => ha 0 0 v00 z.symm), xm_up_ne _ _ (fun z => ha 0 2 v02 z.symm), ho]
      simp only [kd, kd2, k_addU_F]
      simp [khx, va_rf]
  · rcases inv k i hk with hk | ⟨rfl, rfl⟩ <;> rcases inv k' i' hk' with hk' | ⟨rfl, rfl⟩
    · rw [up k i hk, up k' i' hk'] at e
      exact hW.2.1 k i k' i' hk hk' e
    · rw [up k i hk, upA_s] at e
      exact absurd e (ha k i hk)
    · rw [up k' i' hk', upA_s] at e
      exact absurd e.symm (ha k' i' hk')
    · exact ⟨rfl, rfl⟩
theorem kI.addU {s : kS} {R : Nat → Option Nat} (h : kI s R) {l : Int32} (h6 : kr s < 6) : kI (k_addU s l) R := by
  obtain ⟨a1, a2, a3, a4, a5, a6, a7, a8, a9⟩ := h
  refine ⟨⟨a1.1, Nat.succ_le_of_lt h6, a1.2.2⟩, fun x u e => ?_, fun u hu => ?_, fun x hx => ?_, fun x hx f f1 f2 => ?_, fun r => ⟨fun hr => ?_, fun hr => ?_⟩, fun x => ?_, fun j k q1 q2 => ?_, fun x => ?_⟩
  · obtain ⟨b1, b2, b3⟩ := a2 x u e
    refine ⟨b1, Nat.lt_succ_of_lt b2, ?_⟩
    rw [k_addU_o _ _ (by omega)]; exact b3
  · have hu : u < kr s + 1 := hu
    by_cases e : u = kr s
    · rw [k_addU_F, if_pos ⟨rfl, e⟩]; exact Or.inl rfl
    · rw [k_addU_o _ _ e]; exact a3 u (by omega)
  · rw [k_addU_n _ _ (by decide)]; exact a4 x hx
  · rw [k_addU_n _ _ (by omega)]; exact a5 x hx f f1 f2
  · rw [k_addU_n _ _ (by decide)]; exact (a6 r).1 hr
  · rw [k_addU_n _ _ (by decide)]; exact (a6 r).2 hr
  · rw [k_addU_n _ _ (by decide), k_addU_n _ _ (by decide)]; exact a7 x
  · rw [k_addU_n _ _ (by decide)]; exact a8 j k q1 q2
  · rw [k_addU_n _ _ (by decide)]; exact a9 x
theorem kI8.addU {s : kS} (h : kI8 s) (l : Int32) : kI8 (k_addU s l) := fun x hx h0 => by
  rw [k_addU_n _ _ (by decide)] at h0
  rw [k_addU_n _ _ (by decide), k_addU_n _ _ (by decide)]
  exact h x hx h0
def o_runner (s : kS) (l : Int32) : kS × Int32 := if kr s = 6 then (s, -1) else (k_addU s (l &&& 255), nI (kr s))
