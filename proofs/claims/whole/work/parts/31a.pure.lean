/-! WHAT THE CALLS DO TO THE NUMBERS, in one way for the class and the reference -/
abbrev k_bit (v : Int32) (k : Nat) : Prop := ¬ ((v >>> (nI k &&& 31)) &&& 1) = 0
/-- what has the task has it no more -/
def k_free (s : kS) (x : Nat) : kS := (s.1, s.2.1, fun f i => if f = 19 ∧ i < kr s ∧ kF s 19 i = nI x then -1 else kF s f i)
def k_fail (s : kS) (x : Nat) : kS := k_free (kw (kw s 12 x (kF s 12 x + 1)) 9 x (if kF s 2 (x % 12) < kF s 12 x + 1 then 4 else 1)) x
def k_lose (s : kS) (x : Nat) : kS := k_free (kw (kw (kw s 13 x (kF s 13 x + 1)) 14 x (kF s 14 x + 1)) 9 x (if 1 < kF s 14 x + 1 then 4 else 1)) x
abbrev k_over (s : kS) (r : Nat) : Prop := ∀ j, j < kj s → 2 < kF s 9 (12 * r + j)
def k_cnt (v : Int32) : Nat → Int32
  | 0 => 0
  | n + 1 => k_cnt v n + ((v >>> (nI n &&& 31)) &&& 1)
abbrev k_bad (s : kS) (r j : Nat) : Prop := ∀ k, k < j → k_bit (kF s 3 j) k → 2 < kF s 9 (12 * r + k) → kF s 9 (12 * r + k) = 3
abbrev k_all (s : kS) (r j : Nat) : Prop := ∀ k, k < j → k_bit (kF s 3 j) k → 2 < kF s 9 (12 * r + k)
def k_bec (s : kS) (r j : Nat) : Int32 :=
  if ¬ kF s 8 r = 0 ∧ kF s 4 j = 0 then 6 else if kF s 4 j = 0 ∧ ¬ k_bad s r j then 5 else if k_all s r j ∧ (kF s 5 j = 0 ∨ 1 < k_cnt (kF s 16 (12 * r + j)) 8) then 1 else 0
def k_set1 (s : kS) (x : Nat) : kS := if x % 12 < kj s ∧ kF s 9 x = 0 then kw s 9 x (k_bec s (x / 12) (x % 12)) else s
def k_settleN (s : kS) : Nat → kS
  | 0 => s
  | x + 1 => k_set1 (k_settleN s x) x
def k_settle (s : kS) : kS := k_settleN s (12 * kq s)
def k_stop1 (s : kS) (r j : Nat) : kS := if ¬ kF s 4 j = 0 ∨ 2 < kF s 9 (12 * r + j) then s else kw (k_free s (12 * r + j)) 9 (12 * r + j) 6
def k_stopN (s : kS) (r : Nat) : Nat → kS
  | 0 => s
  | j + 1 => k_stop1 (k_stopN s r j) r j
def k_stop (s : kS) (r : Nat) : kS := kw (k_stopN s r (kj s)) 8 r 1
theorem k_free_F (s : kS) (x a b : Nat) : kF (k_free s x) a b = if a = 19 ∧ b < kr s ∧ kF s 19 b = nI x then -1 else kF s a b := rfl
theorem k_free_n (s : kS) (x : Nat) {a b : Nat} (h : a ≠ 19) : kF (k_free s x) a b = kF s a b := by rw [k_free_F, if_neg (fun q => h q.1)]
theorem kS_ext {s t : kS} (h1 : s.1 = t.1) (h2 : s.2.1 = t.2.1) (h3 : ∀ f i, kF s f i = kF t f i) : s = t := by
  obtain ⟨a, b, F⟩ := s
  obtain ⟨a', b', F'⟩ := t
  cases h1
  cases h2
  have e : F = F' := funext fun f => funext fun i => h3 f i
  rw [e]
/-! what holds of the numbers and of who knows whom, at every call's end -/
def k_ok (s : kS) (x : Nat) : Prop := x < 12 * kq s ∧ x % 12 < kj s
def kI (s : kS) (R : Nat → Option Nat) : Prop :=
  (kj s ≤ 12 ∧ kr s ≤ 6 ∧ kq s ≤ 10) ∧
  (∀ x u, R x = some u → k_ok s x ∧ u < kr s ∧ kF s 19 u = nI x) ∧
  (∀ u, u < kr s → kF s 19 u = -1 ∨ ∃ x, R x = some u) ∧
  (∀ x, k_ok s x → (kF s 9 x = 2 ↔ R x ≠ none)) ∧
  (∀ x, ¬ k_ok s x → ∀ f, 9 ≤ f → f ≤ 16 → kF s f x = 0) ∧
  (∀ r, (kq s ≤ r → kF s 8 r = 0) ∧ (kj s ≤ r → kF s 3 r = 0)) ∧
  (∀ x, kF s 14 x = 0 ∨ kF s 14 x = 1 ∨ (kF s 14 x = 2 ∧ kF s 9 x = 4)) ∧
  (∀ j k, j ≤ k → k < 12 → ¬ k_bit (kF s 3 j) k) ∧
  (∀ x, ∃ a, a < 256 ∧ kF s 16 x = nI a)
theorem kI.x120 {s : kS} {R : Nat → Option Nat} (h : kI s R) {x : Nat} (hx : k_ok s x) : x < 120 := by
  have h1 := h.1.2.2
  have h2 := hx.1
  omega
theorem kI.inj {s : kS} {R : Nat → Option Nat} (h : kI s R) {x : Nat} (hx : x < 2 ^ 31) {u : Nat} (hu : u < kr s) (e : kF s 19 u = nI x) : R x = some u := by
  rcases h.2.2.1 u hu with e1 | ⟨x', e1⟩
  · rw [e1] at e
    have h2 := nI_toInt hx
    rw [← e, ti_m1] at h2
    omega
  · obtain ⟨h2, -, h3⟩ := h.2.1 x' u e1
    have h4 := h.x120 h2
    have h5 : x = x' := (nI_eq hx (by omega)).mp (e.symm.trans h3)
    rw [h5]; exact e1
/-- a task leaves its runner: both ways of saying it -/
theorem kI.lv {s : kS} {R : Nat → Option Nat} (h : kI s R) {x : Nat} (hx : x < 2 ^ 31) : k_lv s R x = k_free s x := by
  refine kS_ext (k_lv_1 _ _ _) (k_lv_21 _ _ _) (fun f i => ?_)
  rw [k_free_F]
  unfold k_lv
  cases hR : R x with
  | none =>
    dsimp only
    rw [if_neg]
    rintro ⟨-, h1, h2⟩
    rw [h.inj hx h1 h2] at hR
    cases hR
  | some u =>
    dsimp only
    obtain ⟨h1, h2, h3⟩ := h.2.1 x u hR
    rw [kw_F]
    by_cases e : f = 19 ∧ i = u
    · rw [if_pos e, if_pos ⟨e.1, by rw [e.2]; exact h2, by rw [e.2]; exact h3⟩]
    · rw [if_neg e, if_neg]
      rintro ⟨e1, e2, e3⟩
      have h4 := h.inj hx e2 e3
      rw [hR] at h4
      exact e ⟨e1, (Option.some.inj h4).symm⟩
theorem k_free_1 (s : kS) (x : Nat) : (k_free s x).1 = s.1 := rfl
abbrev k_anyf (s : kS) (r : Nat) : Prop := ¬ ∀ k, k < kj s → ¬ kF s 9 (12 * r + k) = 4
abbrev k_E (s : kS) (r j n : Nat) : Prop := ∀ k, k < n → k_bit (kF s 3 j) k → 2 < kF s 9 (12 * r + k)
abbrev k_B (s : kS) (r j n : Nat) : Prop := ∀ k, k < n → k_bit (kF s 3 j) k → 2 < kF s 9 (12 * r + k) → kF s 9 (12 * r + k) = 3
theorem kq_s {n : Nat} {P : Nat → Prop} : (∀ k, k < n + 1 → P k) ↔ (∀ k, k < n → P k) ∧ P n :=
  ⟨fun h => ⟨fun k hk => h k (by omega), h n (by omega)⟩, fun h k hk => by
    rcases Nat.lt_or_ge k n with q | q
    · exact h.1 k q
    · rw [show k = n by omega]; exact h.2⟩
theorem kbi_c {p q : Prop} [Decidable p] [Decidable q] (h : p ↔ q) : kbi p = kbi q := by
  by_cases hp : p
  · rw [kbi_t hp, kbi_t (h.mp hp)]
  · rw [kbi_f hp, kbi_f (fun z => hp (h.mpr z))]
theorem kbi_n0 {p : Prop} [Decidable p] (h : ¬ kbi p = 0) : p := Classical.byContradiction (fun q => h (kbi_0.mpr q))
theorem ki_c {α : Sort _} {p q : Prop} [Decidable p] [Decidable q] (h : p ↔ q) {x y : α} : (if p then x else y) = (if q then x else y) := by
  by_cases hp : p
  · rw [if_pos hp, if_pos (h.mp hp)]
  · rw [if_neg hp, if_neg (fun z => hp (h.mpr z))]
/-- the class's word of what a waiting task becomes -/
def k_saw (s : kS) (r j : Nat) : Int32 := if kF s 4 j = 0 ∧ ¬ k_B s r j (kj s) then 5 else if k_E s r j (kj s) ∧ (kF s 5 j = 0 ∨ 1 < k_cnt (kF s 16 (12 * r + j)) 8) then 1 else 0
theorem kI.saw {s : kS} {R : Nat → Option Nat} (h : kI s R) {r j : Nat} (hj : j < kj s) (hc : ¬ (¬ kF s 8 r = 0 ∧ kF s 4 j = 0)) : k_saw s r j = k_bec s r j := by
  have h12 := h.1.1
  have hb : ∀ k, k < kj s → k_bit (kF s 3 j) k → k < j := fun k hk q => by
    rcases Nat.lt_or_ge k j with z | z
    · exact z
    · exact absurd q (h.2.2.2.2.2.2.2.1 j k z (by omega))
  have e1 : k_B s r j (kj s) ↔ k_bad s r j := ⟨fun q k hk => q k (by omega), fun q k hk b => q k (hb k hk b) b⟩
  have e2 : k_E s r j (kj s) ↔ k_all s r j := ⟨fun q k hk => q k (by omega), fun q k hk b => q k (hb k hk b) b⟩
  unfold k_saw k_bec
  rw [if_neg hc, ki_c (p := kF s 4 j = 0 ∧ ¬ k_B s r j (kj s)) (q := kF s 4 j = 0 ∧ ¬ k_bad s r j) ⟨fun q => ⟨q.1, fun z => q.2 (e1.mpr z)⟩, fun q => ⟨q.1, fun z => q.2 (e1.mp z)⟩⟩]
  rw [ki_c (p := k_E s r j (kj s) ∧ (kF s 5 j = 0 ∨ 1 < k_cnt (kF s 16 (12 * r + j)) 8)) (q := k_all s r j ∧ (kF s 5 j = 0 ∨ 1 < k_cnt (kF s 16 (12 * r + j)) 8)) ⟨fun q => ⟨e2.mp q.1, q.2⟩, fun q => ⟨e2.mpr q.1, q.2⟩⟩]
