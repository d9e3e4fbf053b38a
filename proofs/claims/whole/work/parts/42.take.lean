/-! a runner takes a task: what a person has running, counted by tasks and by runners; the best task -/
def ksum (f : Nat → Nat) : Nat → Nat
  | 0 => 0
  | n + 1 => ksum f n + f n
theorem ksum_c {f g : Nat → Nat} : ∀ n, (∀ i, i < n → f i = g i) → ksum f n = ksum g n
  | 0, _ => rfl
  | n + 1, h => by
    show ksum f n + f n = ksum g n + g n
    rw [ksum_c n (fun i hi => h i (by omega)), h n (by omega)]
theorem ksum_0 {f : Nat → Nat} : ∀ n, (∀ i, i < n → f i = 0) → ksum f n = 0
  | 0, _ => rfl
  | n + 1, h => by
    show ksum f n + f n = 0
    rw [ksum_0 n (fun i hi => h i (by omega)), h n (by omega)]
theorem ksum_1 {f : Nat → Nat} {i : Nat} : ∀ n, i < n → (∀ j, j < n → j ≠ i → f j = 0) → ksum f n = f i
  | 0, h, _ => absurd h (Nat.not_lt_zero _)
  | n + 1, h, h1 => by
    show ksum f n + f n = f i
    by_cases e : i = n
    · rw [e, ksum_0 n (fun j hj => h1 j (by omega) (by omega))]; omega
    · rw [ksum_1 n (by omega) (fun j hj => h1 j (by omega)), h1 n (by omega) (fun q => e q.symm)]; omega
theorem ksum_add (f g : Nat → Nat) : ∀ n, ksum (fun i => f i + g i) n = ksum f n + ksum g n
  | 0 => rfl
  | n + 1 => by
    show ksum (fun i => f i + g i) n + (f n + g n) = ksum f n + f n + (ksum g n + g n)
    rw [ksum_add f g n]; omega
theorem ksum_swap (f : Nat → Nat → Nat) (m : Nat) : ∀ n, ksum (fun x => ksum (f x) m) n = ksum (fun u => ksum (fun x => f x u) n) m
  | 0 => (ksum_0 m (fun _ _ => rfl)).symm
  | n + 1 => by
    show ksum (fun x => ksum (f x) m) n + ksum (f n) m = ksum (fun u => ksum (fun x => f x u) n + f n u) m
    rw [ksum_swap f m n, ← ksum_add]
theorem ksum_le {f : Nat → Nat} (h : ∀ i, f i ≤ 1) : ∀ n, ksum f n ≤ n
  | 0 => Nat.le_refl _
  | n + 1 => by
    have h1 := ksum_le h n
    have h2 := h n
    show ksum f n + f n ≤ n + 1
    omega
def k_b1 (p : Prop) [Decidable p] : Nat := if p then 1 else 0
theorem k_b1_le {p : Prop} [Decidable p] : k_b1 p ≤ 1 := by unfold k_b1; split <;> omega
def k_busyN (s : kS) (p : Int32) (n : Nat) : Nat := ksum (fun x => k_b1 (kF s 9 x = 2 ∧ kF s 6 (x / 12) = p)) n
def k_busy (s : kS) (p : Int32) : Nat := k_busyN s p (12 * kq s)
def k_runsN (s : kS) (p : Int32) (n : Nat) : Nat := ksum (fun u => k_b1 (¬ kF s 19 u = -1 ∧ kF s 6 (k_n (kF s 19 u) / 12) = p)) n
theorem k_busyN_s (s : kS) (p : Int32) (n : Nat) : k_busyN s p (n + 1) = k_busyN s p n + k_b1 (kF s 9 n = 2 ∧ kF s 6 (n / 12) = p) := rfl
theorem k_runsN_s (s : kS) (p : Int32) (n : Nat) : k_runsN s p (n + 1) = k_runsN s p n + k_b1 (¬ kF s 19 n = -1 ∧ kF s 6 (k_n (kF s 19 n) / 12) = p) := rfl
theorem k_busyN_le (s : kS) (p : Int32) (n : Nat) : k_busyN s p n ≤ n := ksum_le (fun _ => k_b1_le) n
theorem k_runsN_le (s : kS) (p : Int32) (n : Nat) : k_runsN s p n ≤ n := ksum_le (fun _ => k_b1_le) n
theorem k_b1_c {p q : Prop} [Decidable p] [Decidable q] (h : p ↔ q) : k_b1 p = k_b1 q := ki_c h
theorem k_b1_f {p : Prop} [Decidable p] (h : ¬ p) : k_b1 p = 0 := if_neg h
theorem kI.run2 {s : kS} {R : Nat → Option Nat} (h : kI s R) {x : Nat} (h2 : kF s 9 x = 2) : ∃ u, R x = some u := by
  have hk : k_ok s x := Classical.byContradiction (fun q => by
    have e := h.2.2.2.2.1 x q 9 (by omega) (by omega)
    rw [h2] at e
    exact absurd e (by decide))
  cases hR : R x with
  | none => exact absurd hR ((h.2.2.2.1 x hk).mp h2)
  | some u => exact ⟨u, rfl⟩
theorem kI.runR {s : kS} {R : Nat → Option Nat} (h : kI s R) {x u : Nat} (hR : R x = some u) : kF s 9 x = 2 := (h.2.2.2.1 x (h.2.1 x u hR).1).mpr (by rw [hR]; exact fun q => by cases q)
theorem kI.busy {s : kS} {R : Nat → Option Nat} (h : kI s R) (p : Int32) : k_runsN s p (kr s) = k_busy s p := by
  have hb := h.1
  have e1 : k_busy s p = ksum (fun x => ksum (fun u => k_b1 (kF s 19 u = nI x ∧ kF s 6 (x / 12) = p)) (kr s)) (12 * kq s) := by
    refine ksum_c _ (fun x hx => ?_)
    by_cases h2 : kF s 9 x = 2
    · obtain ⟨u, hR⟩ := h.run2 h2
      obtain ⟨-, h3, h4⟩ := h.2.1 x u hR
      rw [ksum_1 (i := u) (kr s) h3 (fun j hj hne => k_b1_f (fun q => by
        have e := h.inj (by omega) hj q.1
        rw [hR] at e
        exact hne (Option.some.inj e).symm))]
      exact k_b1_c ⟨fun q => ⟨h4, q.2⟩, fun q => ⟨h2, q.2⟩⟩
    · rw [k_b1_f (fun q => h2 q.1), ksum_0 (kr s) (fun j hj => k_b1_f (fun q => h2 (h.runR (h.inj (by omega) hj q.1))))]
  have e2 : k_runsN s p (kr s) = ksum (fun u => ksum (fun x => k_b1 (kF s 19 u = nI x ∧ kF s 6 (x / 12) = p)) (12 * kq s)) (kr s) := by
    refine ksum_c _ (fun u hu => ?_)
    rcases h.2.2.1 u hu with q | ⟨x, hR⟩
    · rw [k_b1_f (fun z => z.1 q), ksum_0 (12 * kq s) (fun x hx => k_b1_f (fun z => nI_ne (x := x) (by omega) (z.1.symm.trans q)))]
    · obtain ⟨h3, -, h4⟩ := h.2.1 x u hR
      have hx := h.x120 h3
      rw [ksum_1 (i := x) (12 * kq s) h3.1 (fun y hy hne => k_b1_f (fun z => hne ((nI_eq (by omega) (by omega)).mp (z.1.symm.trans h4))))]
      rw [h4, show k_n (nI x) = x from nI_clamp (by omega)]
      exact k_b1_c ⟨fun q => ⟨rfl, q.2⟩, fun q => ⟨nI_ne (by omega), q.2⟩⟩
  rw [e1, e2, ksum_swap]
/-- who is served first -/
abbrev k_pre (s : kS) (p q : Int32) : Prop := k_busy s p < k_busy s q ∨ (k_busy s p = k_busy s q ∧ p < q)
theorem k_pre_n (s : kS) (p : Int32) : ¬ k_pre s p p := by
  rintro (q | q)
  · omega
  · exact absurd q.2 (ki_nlt.mpr (Int32.le_refl _))
def k_bst (s : kS) (o : Option Nat) (x : Nat) : Option Nat := match o with
  | none => some x
  | some b => if k_pre s (kF s 6 (x / 12)) (kF s 6 (b / 12)) then some x else some b
def k_bestN (s : kS) (u : Nat) : Nat → Option Nat
  | 0 => none
  | x + 1 => if k_fit s u x then k_bst s (k_bestN s u x) x else k_bestN s u x
def k_best (s : kS) (u : Nat) : Option Nat := k_bestN s u (12 * kq s)
theorem k_bst_2 (s : kS) (o : Option Nat) {x y : Nat} (e : x / 12 = y / 12) : k_bst s (k_bst s o y) x = k_bst s o y := by
  cases o with
  | none =>
    show (if k_pre s (kF s 6 (x / 12)) (kF s 6 (y / 12)) then _ else _) = _
    rw [e, if_neg (k_pre_n _ _)]
    rfl
  | some b =>
    by_cases q : k_pre s (kF s 6 (y / 12)) (kF s 6 (b / 12))
    · rw [show k_bst s (some b) y = some y from if_pos q]
      show (if k_pre s (kF s 6 (x / 12)) (kF s 6 (y / 12)) then _ else _) = _
      rw [e, if_neg (k_pre_n _ _)]
    · rw [show k_bst s (some b) y = some b from if_neg q]
      show (if k_pre s (kF s 6 (x / 12)) (kF s 6 (b / 12)) then _ else _) = _
      rw [e, if_neg q]
theorem k_best_no {s : kS} {u y : Nat} : ∀ n, (∀ k, k < n → ¬ k_fit s u (y + k)) → k_bestN s u (y + n) = k_bestN s u y
  | 0, _ => rfl
  | n + 1, h => by
    show (if k_fit s u (y + n) then _ else k_bestN s u (y + n)) = _
    rw [if_neg (h n (by omega)), k_best_no n (fun k hk => h k (by omega))]
theorem k_best_in {s : kS} {u r j : Nat} (hf : k_fit s u (12 * r + j)) (hn : ∀ k, k < j → ¬ k_fit s u (12 * r + k)) : ∀ n, j + 1 + n ≤ 12 → k_bestN s u (12 * r + j + 1 + n) = k_bst s (k_bestN s u (12 * r)) (12 * r + j)
  | 0, _ => by
    show (if k_fit s u (12 * r + j) then k_bst s (k_bestN s u (12 * r + j)) (12 * r + j) else _) = _
    rw [if_pos hf, k_best_no j hn]
  | n + 1, h => by
    show (if k_fit s u (12 * r + j + 1 + n) then k_bst s (k_bestN s u (12 * r + j + 1 + n)) (12 * r + j + 1 + n) else k_bestN s u (12 * r + j + 1 + n)) = _
    rw [k_best_in hf hn n (by omega)]
    by_cases q : k_fit s u (12 * r + j + 1 + n)
    · rw [if_pos q, k_bst_2 s _ (by omega)]
    · rw [if_neg q]
theorem k_best_sp {s : kS} {u : Nat} : ∀ n b, k_bestN s u n = some b → b < n ∧ k_fit s u b
  | 0, b, h => by cases h
  | n + 1, b, h => by
    have h : (if k_fit s u n then k_bst s (k_bestN s u n) n else k_bestN s u n) = some b := h
    by_cases q : k_fit s u n
    · rw [if_pos q] at h
      cases ho : k_bestN s u n with
      | none =>
        rw [ho] at h
        have e := Option.some.inj (show some n = some b from h)
        rw [← e]; exact ⟨by omega, q⟩
      | some a =>
        rw [ho] at h
        have h : (if k_pre s (kF s 6 (n / 12)) (kF s 6 (a / 12)) then some n else some a) = some b := h
        split at h
        · have e := Option.some.inj h
          rw [← e]; exact ⟨by omega, q⟩
        · have e := Option.some.inj h
          obtain ⟨h1, h2⟩ := k_best_sp n a ho
          rw [← e]; exact ⟨by omega, h2⟩
    · rw [if_neg q] at h
      obtain ⟨h1, h2⟩ := k_best_sp n b h
      exact ⟨by omega, h2⟩
/-- the places behind a run's jobs fit nobody -/
theorem kI.nofit {s : kS} {R : Nat → Option Nat} (h : kI s R) {u x : Nat} (hx : ¬ x % 12 < kj s) : ¬ k_fit s u x := fun q => by
  have e := h.2.2.2.2.1 x (fun z => hx z.2) 9 (by omega) (by omega)
  have q1 := q.1
  rw [e] at q1
  exact absurd q1 (by decide)
theorem kI.okfit {s : kS} {R : Nat → Option Nat} (h : kI s R) {u x : Nat} (hf : k_fit s u x) : k_ok s x := Classical.byContradiction (fun z => by
  have e := h.2.2.2.2.1 x z 9 (by omega) (by omega)
  have q1 := hf.1
  rw [e] at q1
  exact absurd q1 (by decide))
theorem kI.bestR {s : kS} {R : Nat → Option Nat} (h : kI s R) {u r : Nat} (hn : ∀ k, k < kj s → ¬ k_fit s u (12 * r + k)) : k_bestN s u (12 * (r + 1)) = k_bestN s u (12 * r) := by
  rw [show 12 * (r + 1) = 12 * r + 12 by omega]
  refine k_best_no 12 (fun k hk => ?_)
  rcases Nat.lt_or_ge k (kj s) with q | q
  · exact hn k q
  · exact h.nofit (by omega)
theorem k_bestS {s : kS} {u r j : Nat} (hj : j < 12) (hf : k_fit s u (12 * r + j)) (hn : ∀ k, k < j → ¬ k_fit s u (12 * r + k)) : k_bestN s u (12 * (r + 1)) = k_bst s (k_bestN s u (12 * r)) (12 * r + j) := by
  rw [← k_best_in hf hn (11 - j) (by omega), show 12 * r + j + 1 + (11 - j) = 12 * (r + 1) by omega]
/-- a task is begun -/
def k_start (s : kS) (u x : Nat) : kS := kw (kw (kw (kw (kw s 19 u (nI x)) 18 u (kc s)) 9 x 2) 10 x (kc s)) 11 x (kF s 11 x + 1)
theorem k_start_F (s : kS) (u x f i : Nat) : kF (k_start s u x) f i = if f = 11 ∧ i = x then kF s 11 x + 1 else if f = 10 ∧ i = x then kc s else if f = 9 ∧ i = x then 2 else if f = 18 ∧ i = u then kc s else if f = 19 ∧ i = u then nI x else kF s f i := rfl
theorem k_start_c (s : kS) (u x : Nat) : kw (kw (kw (kw (kw s 9 x 2) 10 x (kc s)) 11 x (kF s 11 x + 1)) 19 u (nI x)) 18 u (kc s) = k_start s u x := by
  refine kS_ext rfl rfl (fun f i => ?_)
  rw [k_start_F]
  simp only [kw_F]
  by_cases a : f = 18
  · subst a; simp
  · by_cases b : f = 19
    · subst b; simp
    · simp [a, b]
def o_take (s : kS) (a : Int32) : kS × Int32 := if k_in a (kr s) ∧ kF s 19 (k_n a) = -1 then (match k_best s (k_n a) with
  | none => (s, -1)
  | some x => (k_start s (k_n a) x, nI x)) else (s, -1)
theorem o_take_N {s : kS} {u : Nat} (hu : u < kr s) (hk : kr s ≤ 6) (h19 : kF s 19 u = -1) (hb : k_best s u = none) : o_take s (nI u) = (s, -1) := by
  unfold o_take
  rw [show k_n (nI u) = u from nI_clamp (by omega), if_pos ⟨k_in_of hu (by omega), h19⟩, hb]
theorem o_take_S {s : kS} {u x : Nat} (hu : u < kr s) (hk : kr s ≤ 6) (h19 : kF s 19 u = -1) (hb : k_best s u = some x) : o_take s (nI u) = (k_start s u x, nI x) := by
  unfold o_take
  rw [show k_n (nI u) = u from nI_clamp (by omega), if_pos ⟨k_in_of hu (by omega), h19⟩, hb]
theorem kI.start {s : kS} {R : Nat → Option Nat} (h : kI s R) {u x : Nat} (hu : u < kr s) (hx : k_ok s x) (h1 : kF s 9 x = 1) (h19 : kF s 19 u = -1) : kI (k_start s u x) (up1 R x (some u)) := by
  have hxx := h.x120 hx
  have hn : R x = none := by
    cases hR : R x with
    | none => rfl
    | some v => exact absurd ((h.runR hR).symm.trans h1) (by decide)
  have h4 : ¬ kF s 9 x = 4 := fun e => by rw [h1] at e; exact absurd e (by decide)
  have g19 : ∀ v, kF (k_start s u x) 19 v = if v = u then nI x else kF s 19 v := fun v => by rw [k_start_F]; simp
  have g9 : ∀ y, kF (k_start s u x) 9 y = if y = x then 2 else kF s 9 y := fun y => by rw [k_start_F]; simp
  refine h.step rfl (fun y v e => ?_) (fun v hv => ?_) (fun y hy => ?_) (fun y hy f f1 f2 => ?_) (fun r _ => ?_) (fun y => ?_) (fun j => ?_) (fun y => ?_)
  · rw [g19]
    by_cases q : y = x
    · rw [q, up1_s] at e
      rw [q, if_pos (Option.some.inj e).symm, ← Option.some.inj e]
      exact ⟨hx, hu, rfl⟩
    · rw [up1_n _ _ q] at e
      obtain ⟨h5, h6, h7⟩ := h.2.1 y v e
      have h8 := h.x120 h5
      rw [if_neg (fun z => nI_ne (x := y) (by omega) (by rw [← h7, z, h19]))]
      exact ⟨h5, h6, h7⟩
  · rw [g19]
    by_cases q : v = u
    · exact Or.inr ⟨x, by rw [up1_s, q]⟩
    · rw [if_neg q]
      rcases h.2.2.1 v hv with z | ⟨y, z⟩
      · exact Or.inl z
      · exact Or.inr ⟨y, by rw [up1_n _ _ (fun w => by rw [w, hn] at z; cases z)]; exact z⟩
  · rw [g9]
    by_cases q : y = x
    · rw [if_pos q, q, up1_s]
      exact ⟨fun _ => Option.some_ne_none u, fun _ => rfl⟩
    · rw [if_neg q, up1_n _ _ q]; exact h.2.2.2.1 y hy
  · have q : y ≠ x := fun z => hy (by rw [z]; exact hx)
    rw [k_start_F, if_neg (fun z => q z.2), if_neg (fun z => q z.2), if_neg (fun z => q z.2), if_neg (by omega), if_neg (by omega)]
  · rw [k_start_F, if_neg (by omega), if_neg (by omega), if_neg (by omega), if_neg (by omega), if_neg (by omega)]
  · have e14 : kF (k_start s u x) 14 y = kF s 14 y := by rw [k_start_F, if_neg (by omega), if_neg (by omega), if_neg (by omega), if_neg (by omega), if_neg (by omega)]
    rw [e14, g9]
    by_cases q : y = x
    · rw [q]
      rcases k_14a h h4 with z | z
      · exact Or.inl z
      · exact Or.inr (Or.inl z)
    · rw [if_neg q]; exact h.2.2.2.2.2.2.1 y
  · rw [k_start_F, if_neg (by omega), if_neg (by omega), if_neg (by omega), if_neg (by omega), if_neg (by omega)]
  · rw [k_start_F, if_neg (by omega), if_neg (by omega), if_neg (by omega), if_neg (by omega), if_neg (by omega)]; exact h.2.2.2.2.2.2.2.2 y
theorem kI8.start {s : kS} (h : kI8 s) (u x : Nat) : kI8 (k_start s u x) := by
  refine h.keep rfl (fun r => ?_) (fun j => ?_) (fun y h0 => ?_)
  · rw [k_start_F, if_neg (by omega), if_neg (by omega), if_neg (by omega), if_neg (by omega), if_neg (by omega)]
  · rw [k_start_F, if_neg (by omega), if_neg (by omega), if_neg (by omega), if_neg (by omega), if_neg (by omega)]
  · rw [k_start_F, if_neg (by omega), if_neg (by omega)] at h0
    split at h0
    · exact absurd h0 (by decide)
    · rw [if_neg (by omega), if_neg (by omega)] at h0; exact h0
