/-! what holds goes on holding -/
theorem k_ok_eq {s s' : kS} (h : s'.1 = s.1) (x : Nat) : k_ok s' x = k_ok s x := by
  unfold k_ok
  rw [show kq s' = kq s from congrArg (fun z => z.2.2) h, show kj s' = kj s from congrArg (fun z => z.1) h]
theorem kI.step {s s' : kS} {R R' : Nat → Option Nat} (h : kI s R) (h1 : s'.1 = s.1)
    (hR : ∀ x u, R' x = some u → k_ok s x ∧ u < kr s ∧ kF s' 19 u = nI x) (hU : ∀ u, u < kr s → kF s' 19 u = -1 ∨ ∃ x, R' x = some u)
    (h9 : ∀ x, k_ok s x → (kF s' 9 x = 2 ↔ R' x ≠ none)) (hz : ∀ x, ¬ k_ok s x → ∀ f, 9 ≤ f → f ≤ 16 → kF s' f x = kF s f x) (h8 : ∀ r, kq s ≤ r → kF s' 8 r = kF s 8 r)
    (h14 : ∀ x, kF s' 14 x = 0 ∨ kF s' 14 x = 1 ∨ (kF s' 14 x = 2 ∧ kF s' 9 x = 4)) (h3 : ∀ j, kF s' 3 j = kF s 3 j) (h16 : ∀ x, ∃ a, a < 256 ∧ kF s' 16 x = nI a) : kI s' R' := by
  have e1 : kj s' = kj s := congrArg (fun z => z.1) h1
  have e2 : kr s' = kr s := congrArg (fun z => z.2.1) h1
  have e3 : kq s' = kq s := congrArg (fun z => z.2.2) h1
  obtain ⟨a1, a2, a3, a4, a5, a6, a7, a8, a9⟩ := h
  refine ⟨by rw [e1, e2, e3]; exact a1, fun x u hx => ?_, fun u hu => hU u (by rw [← e2]; exact hu), fun x hx => h9 x (by rw [← k_ok_eq h1]; exact hx), fun x hx f f1 f2 => ?_, fun r => ⟨fun hr => ?_, fun hr => by rw [h3]; exact (a6 r).2 (by rw [← e1]; exact hr)⟩, h14, fun j k q1 q2 => by rw [h3]; exact a8 j k q1 q2, h16⟩
  · rw [k_ok_eq h1, e2]; exact hR x u hx
  · rw [k_ok_eq h1] at hx
    rw [hz x hx f f1 f2]; exact a5 x hx f f1 f2
  · rw [e3] at hr
    rw [h8 r hr]; exact (a6 r).1 hr
/-- the links behind a task that left its runner -/
theorem kI.frR {s : kS} {R : Nat → Option Nat} (h : kI s R) {x : Nat} (hx : x < 2 ^ 31) {y u : Nat} (e : up1 R x none y = some u) : k_ok s y ∧ u < kr s ∧ kF (k_free s x) 19 u = nI y := by
  by_cases hy : y = x
  · rw [hy, up1_s] at e; cases e
  · rw [up1_n _ _ hy] at e
    obtain ⟨h1, h2, h3⟩ := h.2.1 y u e
    refine ⟨h1, h2, ?_⟩
    rw [k_free_F, if_neg, h3]
    rintro ⟨-, -, h4⟩
    have h5 := h.x120 h1
    exact hy ((nI_eq (by omega) hx).mp (h3.symm.trans h4))
theorem kI.frU {s : kS} {R : Nat → Option Nat} (h : kI s R) {x : Nat} (hx : x < 2 ^ 31) {u : Nat} (hu : u < kr s) : kF (k_free s x) 19 u = -1 ∨ ∃ y, up1 R x none y = some u := by
  rw [k_free_F]
  by_cases e : kF s 19 u = nI x
  · exact Or.inl (if_pos ⟨rfl, hu, e⟩)
  · rw [if_neg (fun q => e q.2.2)]
    rcases h.2.2.1 u hu with q | ⟨y, q⟩
    · exact Or.inl q
    · refine Or.inr ⟨y, ?_⟩
      rw [up1_n _ _ (fun z => e (by rw [← z]; exact (h.2.1 y u q).2.2)), q]
/-- a task that ends or is ready again: its runner has it no more, its state is v, which isn't 2; some of its other numbers change too -/
theorem kI.left {s s' : kS} {R : Nat → Option Nat} (h : kI s R) {x : Nat} (hx : k_ok s x) (h1 : s'.1 = s.1) (h19 : ∀ u, kF s' 19 u = kF (k_free s x) 19 u) (h9 : ∀ y, y ≠ x → kF s' 9 y = kF s 9 y) (h9x : kF s' 9 x ≠ 2)
    (ho : ∀ f, f ≠ 9 → f ≠ 19 → ∀ y, y ≠ x → kF s' f y = kF s f y) (h8 : ∀ r, kF s' 8 r = kF s 8 r) (h3 : ∀ j, kF s' 3 j = kF s 3 j) (h14 : kF s' 14 x = 0 ∨ kF s' 14 x = 1 ∨ (kF s' 14 x = 2 ∧ kF s' 9 x = 4)) (h16 : kF s' 16 x = kF s 16 x) : kI s' (up1 R x none) := by
  have hxx := h.x120 hx
  refine h.step h1 (fun y u e => ?_) (fun u hu => ?_) (fun y hy => ?_) (fun y hy f f1 f2 => ?_) (fun r _ => h8 r) (fun y => ?_) h3 (fun y => ?_)
  · rw [h19]; exact h.frR (by omega) e
  · rw [h19]; exact h.frU (by omega) hu
  · by_cases e : y = x
    · rw [e, up1_s]
      exact ⟨fun q => absurd q h9x, fun q => absurd rfl q⟩
    · rw [h9 y e, up1_n _ _ e]; exact h.2.2.2.1 y hy
  · have e : y ≠ x := fun z => hy (by rw [z]; exact hx)
    by_cases g : f = 9
    · rw [g]; exact h9 y e
    · exact ho f g (by omega) y e
  · by_cases e : y = x
    · rw [e]; exact h14
    · rw [ho 14 (by decide) (by decide) y e, h9 y e]; exact h.2.2.2.2.2.2.1 y
  · by_cases e : y = x
    · rw [e, h16]; exact h.2.2.2.2.2.2.2.2 x
    · rw [ho 16 (by decide) (by decide) y e]; exact h.2.2.2.2.2.2.2.2 y
theorem k_14a {s : kS} {R : Nat → Option Nat} (h : kI s R) {x : Nat} (h4 : ¬ kF s 9 x = 4) : kF s 14 x = 0 ∨ kF s 14 x = 1 := by
  rcases h.2.2.2.2.2.2.1 x with q | q | q
  · exact Or.inl q
  · exact Or.inr q
  · exact absurd q.2 h4
/-- a task is cancelled -/
theorem kI.cancel {s : kS} {R : Nat → Option Nat} (h : kI s R) {x : Nat} (hx : k_ok s x) (hn : ¬ 2 < kF s 9 x) : kI (kw (k_free s x) 9 x 6) (up1 R x none) := by
  have h4 : ¬ kF s 9 x = 4 := fun e => hn (by rw [e]; decide)
  refine h.left hx rfl (fun u => rfl) (fun y hy => ?_) (by rw [kw_F, if_pos ⟨rfl, rfl⟩]; decide) (fun f f1 f2 y hy => ?_) (fun r => ?_) (fun j => ?_) ?_ ?_
  · rw [kw_F, if_neg (fun q => hy q.2), k_free_n _ _ (by decide)]
  · rw [kw_F, if_neg (fun q => f1 q.1), k_free_n _ _ f2]
  · rw [kw_F, if_neg (fun q => absurd q.1 (by decide)), k_free_n _ _ (by decide)]
  · rw [kw_F, if_neg (fun q => absurd q.1 (by decide)), k_free_n _ _ (by decide)]
  · rw [kw_F, if_neg (fun q => absurd q.1 (by decide)), k_free_n _ _ (by decide)]
    rcases k_14a h h4 with q | q
    · exact Or.inl q
    · exact Or.inr (Or.inl q)
  · rw [kw_F, if_neg (fun q => absurd q.1 (by decide)), k_free_n _ _ (by decide)]
/-- a task that doesn't run gets another state, which isn't to run -/
theorem kI.state {s : kS} {R : Nat → Option Nat} (h : kI s R) {x : Nat} {v : Int32} (hx : k_ok s x) (h0 : kF s 9 x = 0) (hv : v ≠ 2) : kI (kw s 9 x v) R := by
  have hn : R x = none := by
    cases hR : R x with
    | none => rfl
    | some u =>
      have h2 := (h.2.2.2.1 x hx).mpr (by rw [hR]; exact fun q => by cases q)
      rw [h0] at h2
      exact absurd h2 (by decide)
  have h4 : ¬ kF s 9 x = 4 := fun e => by rw [h0] at e; exact absurd e (by decide)
  refine h.step rfl (fun y u e => ?_) (fun u hu => ?_) (fun y hy => ?_) (fun y hy f f1 f2 => ?_) (fun r _ => ?_) (fun y => ?_) (fun j => ?_) (fun y => ?_)
  · rw [kw_F, if_neg (fun q => absurd q.1 (by decide))]; exact h.2.1 y u e
  · rw [kw_F, if_neg (fun q => absurd q.1 (by decide))]; exact h.2.2.1 u hu
  · rw [kw_F]
    by_cases e : y = x
    · rw [if_pos ⟨rfl, e⟩, e, hn]
      exact ⟨fun q => absurd q hv, fun q => absurd rfl q⟩
    · rw [if_neg (fun q => e q.2)]; exact h.2.2.2.1 y hy
  · rw [kw_F, if_neg (fun q => hy (by rw [q.2]; exact hx))]
  · rw [kw_F, if_neg (fun q => absurd q.1 (by decide))]
  · rw [kw_F, if_neg (fun q => absurd q.1 (by decide)), kw_F]
    by_cases e : y = x
    · rw [e, if_pos ⟨rfl, rfl⟩]
      rcases k_14a h h4 with q | q
      · exact Or.inl q
      · exact Or.inr (Or.inl q)
    · rw [if_neg (fun q => e q.2)]; exact h.2.2.2.2.2.2.1 y
  · rw [kw_F, if_neg (fun q => absurd q.1 (by decide))]
  · rw [kw_F, if_neg (fun q => absurd q.1 (by decide))]; exact h.2.2.2.2.2.2.2.2 y
/-- a number that no link hangs on -/
theorem kI.other {s : kS} {R : Nat → Option Nat} (h : kI s R) {f i : Nat} {v : Int32} (hf : f = 0 ∨ f = 1 ∨ f = 2 ∨ f = 4 ∨ f = 5 ∨ f = 6 ∨ f = 7 ∨ f = 17 ∨ f = 18 ∨ (f = 8 ∧ i < kq s)) : kI (kw s f i v) R := by
  have hn : ∀ a, 9 ≤ a → a ≤ 16 → ∀ b, kF (kw s f i v) a b = kF s a b := fun a a1 a2 b => by rw [kw_F, if_neg (by omega)]
  refine h.step rfl (fun y u e => ?_) (fun u hu => ?_) (fun y hy => ?_) (fun y hy a a1 a2 => hn a a1 a2 y) (fun r hr => ?_) (fun y => ?_) (fun j => ?_) (fun y => ?_)
  · rw [kw_F, if_neg (by omega)]; exact h.2.1 y u e
  · rw [kw_F, if_neg (by omega)]; exact h.2.2.1 u hu
  · rw [hn 9 (by omega) (by omega)]; exact h.2.2.2.1 y hy
  · rw [kw_F, if_neg (by omega)]
  · rw [hn 14 (by omega) (by omega), hn 9 (by omega) (by omega)]; exact h.2.2.2.2.2.2.1 y
  · rw [kw_F, if_neg (by omega)]
  · rw [hn 16 (by omega) (by omega)]; exact h.2.2.2.2.2.2.2.2 y
/-- what a waiting task becomes isn't to run -/
theorem k_bec_2 (s : kS) (r j : Nat) : k_bec s r j ≠ 2 := by
  unfold k_bec
  split
  · decide
  · split
    · decide
    · split <;> decide
