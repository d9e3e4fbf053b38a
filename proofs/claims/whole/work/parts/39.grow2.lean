/-! the world grows: a run -/
theorem xr_ext {g : xm_G} {d : Nat} {y : xm_M} {fr : xm_F} {h : xm_H} {Q : Option Value → xm_H → Prop} {a t n : Nat} {f f' : Nat → Value} (ha : h.1 a = some (.inr (t, n, f))) (hf : ∀ i, i < n → f' i = f i) (K : xm_S g d y fr (xm_up h.1 a (.inr (t, n, f')), h.2) Q) : xm_S g d y fr h Q := by
  obtain ⟨r, h', hq, h1, h2, h3, k⟩ := K
  refine ⟨r, h', hq, h1, h2, h3, fun p e R s m args below meth c H locs cells slots Z la C hR hX hS hl kr => k p e R s m args below meth c H locs cells slots Z la C hR ?_ hS hl kr⟩
  obtain ⟨b1, b2, b3, b4, b5, b6⟩ := hX
  refine ⟨b1, b2, b3, b4, fun q e' hq' => ?_, b6⟩
  by_cases e1 : q = a
  · rw [e1, show (xm_up h.1 a (.inr (t, n, f')), h.2).1 a = some (.inr (t, n, f')) from xm_up_self _ _ _] at hq'
    cases hq'
    obtain ⟨c1, c2⟩ := b5 a _ ha
    refine ⟨by rw [e1]; exact c1, ?_⟩
    have c2 : H[a]? = some (arrV (xm_A g t) n f) := c2
    show H[q]? = some (arrV (xm_A g t) n f')
    rw [e1, c2]
    congr 1
    unfold arrV
    congr 1
    apply Array.ext
    · simp
    · intro i hi1 hi2
      simp only [Array.getElem_ofFn]
      exact (hf i (by simpa using hi1)).symm
  · rw [show (xm_up h.1 a (.inr (t, n, f')), h.2).1 q = h.1 q from xm_up_ne _ _ e1] at hq'
    exact b5 q e' hq'
def k_addQ (s : kS) (p g : Int32) : kS := ((kj s, kr s, kq s + 1), (kw (kw s 6 (kq s) p) 7 (kq s) g).2)
theorem k_addQ_F (s : kS) (p g : Int32) (f i : Nat) : kF (k_addQ s p g) f i = if f = 7 ∧ i = kq s then g else if f = 6 ∧ i = kq s then p else kF s f i := rfl
theorem k_addQ_o (s : kS) (p g : Int32) {f i : Nat} (h : i ≠ kq s) : kF (k_addQ s p g) f i = kF s f i := by
  rw [k_addQ_F, if_neg (fun q => h q.2), if_neg (fun q => h q.2)]
theorem k_addQ_n (s : kS) (p g : Int32) {f i : Nat} (h : f ≠ 6 ∧ f ≠ 7) : kF (k_addQ s p g) f i = kF s f i := by
  rw [k_addQ_F, if_neg (fun q => h.2 q.1), if_neg (fun q => h.1 q.1)]
def kAq (A : kA) (n z : Nat) : kA := fun k i => if k = 3 ∧ i = n then z else if k = 4 ∧ i = n then z + 1 else if k = 5 ∧ 12 * n ≤ i then z + 2 + (i - 12 * n) else A k i
theorem kAq_o (A : kA) (n z : Nat) {k : Nat} (h : k ≠ 3 ∧ k ≠ 4 ∧ k ≠ 5) (i : Nat) : kAq A n z k i = A k i := by
  unfold kAq
  rw [if_neg (fun q => h.1 q.1), if_neg (fun q => h.2.1 q.1), if_neg (fun q => h.2.2 q.1)]
theorem kAq_f (A : kA) (n z : Nat) {k : Nat} (h : k ≠ 3 ∧ k ≠ 4 ∧ k ≠ 5) : kAq A n z k = A k := funext (kAq_o A n z h)
theorem kAq_3 (A : kA) {n z i : Nat} (h : i ≠ n) : kAq A n z 3 i = A 3 i := by
  unfold kAq
  rw [if_neg (fun q => h q.2), if_neg (fun q => absurd q.1 (by decide)), if_neg (fun q => absurd q.1 (by decide))]
theorem kAq_4 (A : kA) {n z i : Nat} (h : i ≠ n) : kAq A n z 4 i = A 4 i := by
  unfold kAq
  rw [if_neg (fun q => absurd q.1 (by decide)), if_neg (fun q => h q.2), if_neg (fun q => absurd q.1 (by decide))]
theorem kAq_5 (A : kA) {n z i : Nat} (h : i < 12 * n) : kAq A n z 5 i = A 5 i := by
  unfold kAq
  rw [if_neg (fun q => absurd q.1 (by decide)), if_neg (fun q => absurd q.1 (by decide)), if_neg (by omega)]
theorem kAq_3n (A : kA) (n z : Nat) : kAq A n z 3 n = z := if_pos ⟨rfl, rfl⟩
theorem kAq_4n (A : kA) (n z : Nat) : kAq A n z 4 n = z + 1 := by
  unfold kAq
  rw [if_neg (fun q => absurd q.1 (by decide)), if_pos ⟨rfl, rfl⟩]
theorem kAq_5n (A : kA) (n z j : Nat) : kAq A n z 5 (12 * n + j) = z + 2 + j := by
  unfold kAq
  rw [if_neg (fun q => absurd q.1 (by decide)), if_neg (fun q => absurd q.1 (by decide)), if_pos ⟨rfl, by omega⟩]
  omega
/-- what a new run's cells are -/
def kNew (c : kS) (A : kA) (z : Nat) (p g : Int32) (h : xm_H) : Prop :=
  h.1 z = some (.inl (1, [.int (nI (kq c)), .int p, .int g, .ref (z + 1), .int 0])) ∧ h.1 (z + 1) = some (.inr (5, kj c, fun i => if i < 12 then .ref (z + 2 + i) else .null)) ∧
  (∀ i, i < kj c → h.1 (z + 2 + i) = some (.inl (3, [.ref z, .int (nI i), .ref (A 1 i), .int 0, .null, .int 0, .int 0, .int 0, .int 0, .int 0, .int 0, .int 0]))) ∧ z + 2 + kj c ≤ h.2.1
theorem kW.addQ {c : kS} {R : Nat → Option Nat} {m : kS} {A : kA} {h : xm_H} {p g : Int32} {z : Nat} (hW : kW c R m A h) (hI : kI c R) (h10 : kq c < 10) (ha : ∀ k i, kv c k i → A k i < z) (hN : kNew c A z p g h) :
    kW (k_addQ c p g) R m (kAq A (kq c) z) (xm_up (xm_up h.1 (A 0 3) (.inr (4, 10, updV (fun j => va_rf (if j < kq c then some (A 3 j) else none)) (nI (kq c)).toNatClampNeg (.ref z)))) (A 0 0) (.inl (4, [.ref (A 0 1), .ref (A 0 2), .ref (A 0 3), .int (nI (kj c)), .int (nI (kr c)), .int (nI (kq c) + 1), .int (kc c), .int (kl c)])), h.2) := by
  have v00 : kv c 0 0 := show 0 < 4 by decide
  have v03 : kv c 0 3 := show 3 < 4 by decide
  obtain ⟨n1, n2, n3, n4⟩ := hN
  have h12 := hW.2.2.1
  have hA6 : ∀ i, kAq A (kq c) z 6 i = A 6 i := kAq_o A _ _ (by decide)
  have far : ∀ q, z ≤ q → xm_up (xm_up h.1 (A 0 3) (.inr (4, 10, updV (fun j => va_rf (if j < kq c then some (A 3 j) else none)) (nI (kq c)).toNatClampNeg (.ref z)))) (A 0 0) (.inl (4, [.ref (A 0 1), .ref (A 0 2), .ref (A 0 3), .int (nI (kj c)), .int (nI (kr c)), .int (nI (kq c) + 1), .int (kc c), .int (kl c)])) q = h.1 q := fun q hq => by
    rw [xm_up_ne _ _ (fun e => absurd (ha 0 0 v00) (by omega)), xm_up_ne _ _ (fun e => absurd (ha 0 3 v03) (by omega))]
  have old : ∀ k i, kv c k i → ¬ (k = 0 ∧ i = 0) → ¬ (k = 0 ∧ i = 3) → xm_up (xm_up h.1 (A 0 3) (.inr (4, 10, updV (fun j => va_rf (if j < kq c then some (A 3 j) else none)) (nI (kq c)).toNatClampNeg (.ref z)))) (A 0 0) (.inl (4, [.ref (A 0 1), .ref (A 0 2), .ref (A 0 3), .int (nI (kj c)), .int (nI (kr c)), .int (nI (kq c) + 1), .int (kc c), .int (kl c)])) (A k i) = some (kd c R m A k i) := fun k i hk m0 m1 => by
    rw [xm_up_ne _ _ (fun z => m0 (hW.2.1 k i 0 0 hk v00 z)), xm_up_ne _ _ (fun z => m1 (hW.2.1 k i 0 3 hk v03 z))]
    exact (hW.1 k i hk).1
  -- old or new
  have inv : ∀ k i, kv (k_addQ c p g) k i → kv c k i ∨ (k = 3 ∧ i = kq c) ∨ (k = 4 ∧ i = kq c) ∨ (k = 5 ∧ ∃ j, j < kj c ∧ i = 12 * kq c + j) := fun k i hk => by
    match k, hk with
    | 0, hk => exact Or.inl hk
    | 1, hk => exact Or.inl hk
    | 2, hk => exact Or.inl hk
    | 3, hk =>
      have hk : i < kq c + 1 := hk
      rcases Nat.lt_or_ge i (kq c) with q | q
      · exact Or.inl q
      · exact Or.inr (Or.inl ⟨rfl, by omega⟩)
    | 4, hk =>
      have hk : i < kq c + 1 := hk
      rcases Nat.lt_or_ge i (kq c) with q | q
      · exact Or.inl q
      · exact Or.inr (Or.inr (Or.inl ⟨rfl, by omega⟩))
    | 5, hk =>
      have hk : i < 12 * (kq c + 1) ∧ i % 12 < kj c := hk
      rcases Nat.lt_or_ge i (12 * kq c) with q | q
      · exact Or.inl ⟨q, hk.2⟩
      · exact Or.inr (Or.inr (Or.inr ⟨rfl, i % 12, hk.2, by omega⟩))
    | 6, hk => exact Or.inl hk
    | k + 7, hk => exact hk.elim
  have up : ∀ k i, kv c k i → kAq A (kq c) z k i = A k i := fun k i hk => by
    match k, hk with
    | 0, _ => exact kAq_o A _ _ (by decide) i
    | 1, _ => exact kAq_o A _ _ (by decide) i
    | 2, _ => exact kAq_o A _ _ (by decide) i
    | 3, hk => exact kAq_3 A (Nat.ne_of_lt (show i < kq c from hk))
    | 4, hk => exact kAq_4 A (Nat.ne_of_lt (show i < kq c from hk))
    | 5, hk => exact kAq_5 A (show i < 12 * kq c ∧ _ from hk).1
    | 6, _ => exact kAq_o A _ _ (by decide) i
    | k + 7, hk => exact hk.elim
  have zero : ∀ j, j < kj c → ∀ f, 9 ≤ f → f ≤ 16 → kF c f (12 * kq c + j) = 0 := fun j hj f f1 f2 => hI.2.2.2.2.1 _ (fun q => by have := q.1; omega) f f1 f2
  have noR : ∀ j, R (12 * kq c + j) = none := fun j => by
    cases e : R (12 * kq c + j) with
    | none => rfl
    | some u => have := (hI.2.1 _ u e).1.1; omega
  refine ⟨fun k i hk => ?_, fun k i k' i' hk hk' e => ?_, ⟨hW.2.2.1, hW.2.2.2.1, Nat.succ_le_of_lt h10⟩⟩
  · rcases inv k i hk with hk | ⟨rfl, rfl⟩ | ⟨rfl, rfl⟩ | ⟨rfl, j, hj, rfl⟩
    · rw [up k i hk]
      refine ⟨?_, (hW.1 k i hk).2⟩
      by_cases m0 : k = 0 ∧ i = 0
      · obtain ⟨rfl, rfl⟩ := m0
        show xm_up _ (A 0 0) _ (A 0 0) = _
        rw [xm_up_self]
        simp only [kd, kd0, kAq_o A (kq c) z (show (0 : Nat) ≠ 3 ∧ (0 : Nat) ≠ 4 ∧ (0 : Nat) ≠ 5 by decide), nI_1]
        rfl
      · by_cases m1 : k = 0 ∧ i = 3
        · obtain ⟨rfl, rfl⟩ := m1
          show xm_up _ (A 0 0) _ (A 0 3) = _
          rw [xm_up_ne _ _ (fun z => absurd (hW.2.1 0 3 0 0 v03 v00 z).2 (by decide)), xm_up_self]
          simp only [kd, kd0]
          rw [nI_clamp (by omega)]
          congr 4
          funext j
          show updV _ (kq c) _ j = va_rf (if j < kq c + 1 then some (kAq A (kq c) z 3 j) else none)
          unfold updV
          by_cases e : j = kq c
          · rw [if_pos e, e, if_pos (Nat.lt_succ_self _), kAq_3n]; rfl
          · rw [if_neg e, kAq_3 A e]
            by_cases q : j < kq c
            · dsimp only; rw [if_pos q, if_pos (by omega)]
            · dsimp only; rw [if_neg q, if_neg (by omega)]
        · refine (old k i hk m0 m1).trans ?_
          congr 1
          match k, hk with
          | 0, hk =>
            match i, m0, m1 with
            | 0, m0, _ => exact absurd ⟨rfl, rfl⟩ m0
            | 1, _, _ => simp only [kd, kd0, kAq_f A (kq c) z (show (1 : Nat) ≠ 3 ∧ (1 : Nat) ≠ 4 ∧ (1 : Nat) ≠ 5 by decide)]; rfl
            | 2, _, _ => simp only [kd, kd0, kAq_f A (kq c) z (show (2 : Nat) ≠ 3 ∧ (2 : Nat) ≠ 4 ∧ (2 : Nat) ≠ 5 by decide)]; rfl
            | 3, _, m1 => exact absurd ⟨rfl, rfl⟩ m1
            | i + 4, _, _ => exact absurd (show i + 4 < 4 from hk) (by omega)
          | 1, hk => simp only [kd, kd1, k_addQ_n c p g (show (0 : Nat) ≠ 6 ∧ (0 : Nat) ≠ 7 by decide), k_addQ_n c p g (show (1 : Nat) ≠ 6 ∧ (1 : Nat) ≠ 7 by decide), k_addQ_n c p g (show (2 : Nat) ≠ 6 ∧ (2 : Nat) ≠ 7 by decide), k_addQ_n c p g (show (3 : Nat) ≠ 6 ∧ (3 : Nat) ≠ 7 by decide), k_addQ_n c p g (show (4 : Nat) ≠ 6 ∧ (4 : Nat) ≠ 7 by decide), k_addQ_n c p g (show (5 : Nat) ≠ 6 ∧ (5 : Nat) ≠ 7 by decide)]
          | 2, hk =>
            have e5 : (khx (kF c 19 i)).map (kAq A (kq c) z 5) = (khx (kF c 19 i)).map (A 5) := by
              rcases hI.2.2.1 i hk with q | ⟨x, q⟩
              · rw [q]; rfl
              · obtain ⟨q1, q2, q3⟩ := hI.2.1 x i q
                have := hI.x120 q1
                rw [q3, khx_nI (by omega)]
                show some _ = some _
                rw [kAq_5 A q1.1]
            simp only [kd, kd2, k_addQ_n c p g (show (17 : Nat) ≠ 6 ∧ (17 : Nat) ≠ 7 by decide), k_addQ_n c p g (show (18 : Nat) ≠ 6 ∧ (18 : Nat) ≠ 7 by decide), k_addQ_n c p g (show (19 : Nat) ≠ 6 ∧ (19 : Nat) ≠ 7 by decide), e5]
          | 3, hk =>
            have hk : i < kq c := hk
            simp only [kd, kd3, k_addQ_o c p g (show i ≠ kq c by omega), kAq_4 A (show i ≠ kq c by omega)]
          | 4, hk =>
            have hk : i < kq c := hk
            have ef : (fun j => if j < 12 then Value.ref (A 5 (12 * i + j)) else .null) = fun j => if j < 12 then Value.ref (kAq A (kq c) z 5 (12 * i + j)) else .null := by
              funext j
              by_cases q : j < 12
              · rw [if_pos q, if_pos q, kAq_5 A (by omega)]
              · rw [if_neg q, if_neg q]
            simp only [kd, kd4, ef]
            rfl
          | 5, hk =>
            have hk : i < 12 * kq c ∧ i % 12 < kj c := hk
            simp only [kd, kd5, k_addQ_n c p g (show (9 : Nat) ≠ 6 ∧ (9 : Nat) ≠ 7 by decide), k_addQ_n c p g (show (10 : Nat) ≠ 6 ∧ (10 : Nat) ≠ 7 by decide), k_addQ_n c p g (show (11 : Nat) ≠ 6 ∧ (11 : Nat) ≠ 7 by decide), k_addQ_n c p g (show (12 : Nat) ≠ 6 ∧ (12 : Nat) ≠ 7 by decide), k_addQ_n c p g (show (13 : Nat) ≠ 6 ∧ (13 : Nat) ≠ 7 by decide), k_addQ_n c p g (show (14 : Nat) ≠ 6 ∧ (14 : Nat) ≠ 7 by decide), k_addQ_n c p g (show (15 : Nat) ≠ 6 ∧ (15 : Nat) ≠ 7 by decide), k_addQ_n c p g (show (16 : Nat) ≠ 6 ∧ (16 : Nat) ≠ 7 by decide), kAq_3 A (show i / 12 ≠ kq c by omega), kAq_o A (kq c) z (show (1 : Nat) ≠ 3 ∧ (1 : Nat) ≠ 4 ∧ (1 : Nat) ≠ 5 by decide), kAq_f A (kq c) z (show (2 : Nat) ≠ 3 ∧ (2 : Nat) ≠ 4 ∧ (2 : Nat) ≠ 5 by decide)]
          | 6, hk => exact (kd6_A hA6 i).symm
          | k + 7, hk => exact hk.elim
    · rw [kAq_3n]
      refine ⟨(far z (Nat.le_refl _)).trans ?_, by show z < h.2.1; omega⟩
      rw [n1]
      simp only [kd, kd3, k_addQ_F, kAq_4n]
      simp [(hI.2.2.2.2.2.1 (kq c)).1 (Nat.le_refl _)]
    · rw [kAq_4n]
      refine ⟨(far (z + 1) (by omega)).trans ?_, by show z + 1 < h.2.1; omega⟩
      rw [n2]
      simp only [kd, kd4, kAq_5n]
      rfl
    · rw [kAq_5n]
      refine ⟨(far (z + 2 + j) (by omega)).trans ?_, by show z + 2 + j < h.2.1; omega⟩
      rw [n3 j hj]
      have hd : (12 * kq c + j) / 12 = kq c := by omega
      have hm : (12 * kq c + j) % 12 = j := by omega
      simp only [kd, kd5, hd, hm, kAq_3n, noR j, k_addQ_n c p g (show (9 : Nat) ≠ 6 ∧ (9 : Nat) ≠ 7 by decide), k_addQ_n c p g (show (10 : Nat) ≠ 6 ∧ (10 : Nat) ≠ 7 by decide), k_addQ_n c p g (show (11 : Nat) ≠ 6 ∧ (11 : Nat) ≠ 7 by decide), k_addQ_n c p g (show (12 : Nat) ≠ 6 ∧ (12 : Nat) ≠ 7 by decide), k_addQ_n c p g (show (13 : Nat) ≠ 6 ∧ (13 : Nat) ≠ 7 by decide), k_addQ_n c p g (show (14 : Nat) ≠ 6 ∧ (14 : Nat) ≠ 7 by decide), k_addQ_n c p g (show (15 : Nat) ≠ 6 ∧ (15 : Nat) ≠ 7 by decide), k_addQ_n c p g (show (16 : Nat) ≠ 6 ∧ (16 : Nat) ≠ 7 by decide), kAq_o A (kq c) z (show (1 : Nat) ≠ 3 ∧ (1 : Nat) ≠ 4 ∧ (1 : Nat) ≠ 5 by decide), zero j hj 9 (by omega) (by omega), zero j hj 10 (by omega) (by omega), zero j hj 11 (by omega) (by omega), zero j hj 12 (by omega) (by omega), zero j hj 13 (by omega) (by omega), zero j hj 14 (by omega) (by omega), zero j hj 15 (by omega) (by omega), zero j hj 16 (by omega) (by omega)]
      rfl
  · have lo : ∀ k i, kv c k i → kAq A (kq c) z k i < z := fun k i hk => by rw [up k i hk]; exact ha k i hk
    rcases inv k i hk with hk | ⟨rfl, rfl⟩ | ⟨rfl, rfl⟩ | ⟨rfl, j, hj, rfl⟩ <;> rcases inv k' i' hk' with hk' | ⟨rfl, rfl⟩ | ⟨rfl, rfl⟩ | ⟨rfl, j', hj', rfl⟩ <;>
      (try simp only [kAq_3n, kAq_4n, kAq_5n] at e) <;>
      first
        | exact ⟨rfl, rfl⟩
        | (rw [up k i hk, up k' i' hk'] at e; exact hW.2.1 k i k' i' hk hk' e)
        | (have q := lo k i hk; exact absurd e (by omega))
        | (have q := lo k' i' hk'; exact absurd e (by omega))
        | exact absurd e (by omega)
        | exact ⟨rfl, by omega⟩
