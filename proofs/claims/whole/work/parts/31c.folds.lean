/-! what holds, through the calls' loops -/
theorem k_stop1_1 (s : kS) (r j : Nat) : (k_stop1 s r j).1 = s.1 := by unfold k_stop1; split <;> rfl
theorem k_stopN_1 (s : kS) (r : Nat) : ∀ n, (k_stopN s r n).1 = s.1
  | 0 => rfl
  | n + 1 => (k_stop1_1 _ _ _).trans (k_stopN_1 s r n)
theorem k_set1_1 (s : kS) (x : Nat) : (k_set1 s x).1 = s.1 := by unfold k_set1; split <;> rfl
theorem k_settleN_1 (s : kS) : ∀ n, (k_settleN s n).1 = s.1
  | 0 => rfl
  | n + 1 => (k_set1_1 _ _).trans (k_settleN_1 s n)
theorem k_stop1_c (s : kS) (r j : Nat) : k_stop1 (kw s 8 r 1) r j = kw (k_stop1 s r j) 8 r 1 := by
  have e4 : kF (kw s 8 r 1) 4 j = kF s 4 j := by rw [kw_F, if_neg (fun q => absurd q.1 (by decide))]
  have e9 : kF (kw s 8 r 1) 9 (12 * r + j) = kF s 9 (12 * r + j) := by rw [kw_F, if_neg (fun q => absurd q.1 (by decide))]
  unfold k_stop1
  rw [e4, e9]
  by_cases h : ¬ kF s 4 j = 0 ∨ 2 < kF s 9 (12 * r + j)
  · rw [if_pos h, if_pos h]
  · rw [if_neg h, if_neg h]
    refine kS_ext rfl rfl (fun f i => ?_)
    simp only [kw_F, k_free_F]
    by_cases a : f = 9 ∧ i = 12 * r + j
    · obtain ⟨rfl, rfl⟩ := a; simp
    · by_cases b : f = 8 ∧ i = r
      · obtain ⟨rfl, rfl⟩ := b; simp
      · simp [a, b]; rfl
theorem k_stop_c (s : kS) (r : Nat) : ∀ n, k_stopN (kw s 8 r 1) r n = kw (k_stopN s r n) 8 r 1
  | 0 => rfl
  | n + 1 => by
    show k_stop1 (k_stopN (kw s 8 r 1) r n) r n = _
    rw [k_stop_c s r n, k_stop1_c]
    rfl
/-- no waiting task of a cancelled run is one that doesn't always run -/
def kI8 (s : kS) : Prop := ∀ x, k_ok s x → kF s 9 x = 0 → ¬ (¬ kF s 8 (x / 12) = 0 ∧ kF s 4 (x % 12) = 0)
theorem k_set1_F (s : kS) (x : Nat) {a b : Nat} (h : ¬ (a = 9 ∧ b = x)) : kF (k_set1 s x) a b = kF s a b := by
  unfold k_set1
  split
  · rw [kw_F, if_neg h]
  · rfl
theorem kI8.set {s : kS} (h : kI8 s) (x : Nat) : kI8 (k_set1 s x) := by
  intro y hy h0
  rw [k_ok_eq (k_set1_1 s x)] at hy
  rw [k_set1_F _ _ (fun q => absurd q.1 (by decide)), k_set1_F _ _ (fun q => absurd q.1 (by decide))]
  refine h y hy ?_
  by_cases e : y = x
  · unfold k_set1 at h0
    split at h0
    · rename_i q; rw [e]; exact q.2
    · exact h0
  · rw [k_set1_F _ _ (fun q => e q.2)] at h0
    exact h0
theorem kI.set {s : kS} {R : Nat → Option Nat} (h : kI s R) {x : Nat} (hx : x < 12 * kq s) : kI (k_set1 s x) R := by
  unfold k_set1
  split
  · rename_i q; exact h.state ⟨hx, q.1⟩ q.2 (k_bec_2 _ _ _)
  · exact h
theorem k_set1_id {s : kS} {x : Nat} (h : ¬ x % 12 < kj s) : k_set1 s x = s := by
  unfold k_set1
  rw [if_neg (fun q => h q.1)]
/-- the tail of a run's twelve places has no tasks -/
theorem k_settle_tail (s : kS) (r : Nat) (h12 : kj s ≤ 12) : ∀ n, kj s + n ≤ 12 → k_settleN s (12 * r + (kj s + n)) = k_settleN s (12 * r + kj s)
  | 0, _ => rfl
  | n + 1, hn => by
    show k_set1 (k_settleN s (12 * r + (kj s + n))) (12 * r + (kj s + n)) = _
    rw [k_set1_id, k_settle_tail s r h12 n (by omega)]
    rw [show kj (k_settleN s (12 * r + (kj s + n))) = kj s from congrArg (fun z => z.1) (k_settleN_1 s _)]
    omega
/-- done again: a run's failed and skipped tasks -/
abbrev k_re (s : kS) (x : Nat) : Prop := kF s 9 x = 4 ∨ kF s 9 x = 5
def k_ag1 (s : kS) (x : Nat) : kS := if k_re s x then kw (kw (kw s 9 x 0) 12 x 0) 14 x 0 else s
def k_agN (s : kS) (r : Nat) : Nat → kS
  | 0 => s
  | j + 1 => k_ag1 (k_agN s r j) (12 * r + j)
def k_agC (s : kS) (r : Nat) : Nat → Int32
  | 0 => 0
  | j + 1 => if k_re (k_agN s r j) (12 * r + j) then k_agC s r j + 1 else k_agC s r j
theorem k_ag1_1 (s : kS) (x : Nat) : (k_ag1 s x).1 = s.1 := by unfold k_ag1; split <;> rfl
theorem k_agN_1 (s : kS) (r : Nat) : ∀ n, (k_agN s r n).1 = s.1
  | 0 => rfl
  | n + 1 => (k_ag1_1 _ _).trans (k_agN_1 s r n)
theorem kI.again {s : kS} {R : Nat → Option Nat} (h : kI s R) {x : Nat} (hx : k_ok s x) (hr : k_re s x) : kI (kw (kw (kw s 9 x 0) 12 x 0) 14 x 0) R := by
  have hn : R x = none := by
    cases hR : R x with
    | none => rfl
    | some u =>
      have h2 := (h.2.2.2.1 x hx).mpr (by rw [hR]; exact fun q => by cases q)
      rcases hr with q | q <;> (rw [h2] at q; exact absurd q (by decide))
  have g : ∀ f y, kF (kw (kw (kw s 9 x 0) 12 x 0) 14 x 0) f y = if (f = 14 ∨ f = 12 ∨ f = 9) ∧ y = x then 0 else kF s f y := fun f y => by
    simp only [kw_F]
    by_cases e : y = x
    · by_cases a : f = 14
      · simp [a, e]
      · by_cases b : f = 12
        · simp [b, e]
        · by_cases d : f = 9
          · simp [d, e]
          · simp [a, b, d]
    · simp [e]
  refine h.step rfl (fun y u e => ?_) (fun u hu => ?_) (fun y hy => ?_) (fun y hy f f1 f2 => ?_) (fun r _ => ?_) (fun y => ?_) (fun j => ?_) (fun y => ?_)
  · rw [g, if_neg (by omega)]; exact h.2.1 y u e
  · rw [g, if_neg (by omega)]; exact h.2.2.1 u hu
  · rw [g]
    by_cases e : y = x
    · rw [if_pos ⟨Or.inr (Or.inr rfl), e⟩, e, hn]
      exact ⟨fun q => absurd q (by decide), fun q => absurd rfl q⟩
    · rw [if_neg (fun q => e q.2)]; exact h.2.2.2.1 y hy
  · rw [g, if_neg (fun q => hy (by rw [q.2]; exact hx))]
  · rw [g, if_neg (by omega)]
  · rw [g, g]
    by_cases e : y = x
    · rw [if_pos ⟨Or.inl rfl, e⟩]; exact Or.inl rfl
    · rw [if_neg (fun q => e q.2), if_neg (fun q => e q.2)]; exact h.2.2.2.2.2.2.1 y
  · rw [g, if_neg (by omega)]
  · rw [g, if_neg (by omega)]; exact h.2.2.2.2.2.2.2.2 y
/-- the artefacts of what a job needs -/
def k_art (s : kS) (r j : Nat) : Nat → Int32
  | 0 => 0
  | n + 1 => if k_bit (kF s 3 j) n then k_art s r j n ^^^ kF s 15 (12 * r + n) else k_art s r j n
theorem kI.art {s : kS} {R : Nat → Option Nat} (h : kI s R) {r j : Nat} : ∀ n, j + n ≤ 12 → k_art s r j (j + n) = k_art s r j j
  | 0, _ => rfl
  | n + 1, hn => by
    show (if k_bit (kF s 3 j) (j + n) then _ else _) = _
    rw [if_neg (h.2.2.2.2.2.2.2.1 j (j + n) (by omega) (by omega))]
    exact h.art n (by omega)
abbrev k_fit (s : kS) (u x : Nat) : Prop := kF s 9 x = 1 ∧ (kF s 0 (x % 12) &&& (kF s 17 u ^^^ (-1))) = 0
