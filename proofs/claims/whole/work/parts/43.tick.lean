/-! time goes on: what becomes of a task that runs, by tasks and by runners -/
abbrev k_lat (s : kS) (u : Nat) : Prop := kl s < kc s - kF s 18 u
abbrev k_lim (s : kS) (x : Nat) : Prop := 0 < kF s 1 (x % 12) ∧ kF s 1 (x % 12) ≤ kc s - kF s 10 x
def k_pass (s : kS) (x : Nat) : kS := if kF s 9 x = 2 then (if k_lat s (k_n (k_rof s x)) then k_lose s x else if k_lim s x then k_fail s x else s) else s
def k_passN (s : kS) : Nat → kS
  | 0 => s
  | x + 1 => k_pass (k_passN s x) x
def kck (s : kS) (v : Int32) : kS := (s.1, (v, kl s), kF s)
def k_tick1 (s : kS) : kS := k_passN (kck s (kc s + 1)) (12 * kq s)
def k_tickN (s : kS) : Nat → kS
  | 0 => s
  | n + 1 => k_tick1 (k_tickN s n)
def o_tick (s : kS) (a : Int32) : kS × Int32 := if a < 0 ∨ 1000 < a then (s, -1) else (k_settle (k_tickN s (k_n a)), kc (k_settle (k_tickN s (k_n a))))
/-- by runners -/
def k_ch1 (s : kS) (u : Nat) : kS := if kF s 19 u = -1 then s else if k_lat s u then k_lose s (k_n (kF s 19 u)) else if k_lim s (k_n (kF s 19 u)) then k_fail s (k_n (kF s 19 u)) else s
def k_chN (s : kS) : Nat → kS
  | 0 => s
  | u + 1 => k_ch1 (k_chN s u) u
theorem k_pass_1 (s : kS) (x : Nat) : (k_pass s x).1 = s.1 := by
  unfold k_pass
  split
  · split
    · rfl
    · split <;> rfl
  · rfl
theorem k_pass_2 (s : kS) (x : Nat) : (k_pass s x).2.1 = s.2.1 := by
  unfold k_pass
  split
  · split
    · rfl
    · split <;> rfl
  · rfl
theorem k_passN_1 (s : kS) : ∀ n, (k_passN s n).1 = s.1
  | 0 => rfl
  | n + 1 => (k_pass_1 _ _).trans (k_passN_1 s n)
theorem k_passN_2 (s : kS) : ∀ n, (k_passN s n).2.1 = s.2.1
  | 0 => rfl
  | n + 1 => (k_pass_2 _ _).trans (k_passN_2 s n)
theorem k_ch1_1 (s : kS) (u : Nat) : (k_ch1 s u).1 = s.1 := by
  unfold k_ch1
  split
  · rfl
  · split
    · rfl
    · split <;> rfl
theorem k_chN_1 (s : kS) : ∀ n, (k_chN s n).1 = s.1
  | 0 => rfl
  | n + 1 => (k_ch1_1 _ _).trans (k_chN_1 s n)
theorem k_tickN_1 (s : kS) : ∀ n, (k_tickN s n).1 = s.1
  | 0 => rfl
  | n + 1 => (k_passN_1 _ _).trans (k_tickN_1 s n)
theorem k_tickN_c (s : kS) : ∀ n, kc (k_tickN s n) = kc s + nI n
  | 0 => (Int32.add_zero _).symm
  | n + 1 => by
    have e : kc (k_tickN s (n + 1)) = kc (k_tickN s n) + 1 := congrArg (fun z => z.1) (k_passN_2 (kck (k_tickN s n) (kc (k_tickN s n) + 1)) (12 * kq (k_tickN s n)))
    rw [e, k_tickN_c s n, Int32.add_assoc, nI_1]
theorem kI.pass {s : kS} {R : Nat → Option Nat} (h : kI s R) (x : Nat) : ∃ R', kI (k_pass s x) R' := by
  unfold k_pass
  by_cases h2 : kF s 9 x = 2
  · obtain ⟨u, hR⟩ := h.run2 h2
    have hx := (h.2.1 x u hR).1
    rw [if_pos h2]
    split
    · exact ⟨_, h.lose hx h2⟩
    · split
      · exact ⟨_, h.fail hx h2⟩
      · exact ⟨_, h⟩
  · rw [if_neg h2]; exact ⟨_, h⟩
/-- what happens to a task, as a number: 0 nothing, 1 it is lost, 2 it fails -/
def k_act (s : kS) (x : Nat) : Nat := if kF s 9 x = 2 then (if k_lat s (k_n (k_rof s x)) then 1 else if k_lim s x then 2 else 0) else 0
/-- these things happen -/
def k_PA (s : kS) (a : Nat → Nat) : kS := (s.1, s.2.1, fun f i =>
  if f = 19 then (if i < kr s ∧ ¬ kF s 19 i = -1 ∧ ¬ a (k_n (kF s 19 i)) = 0 then -1 else kF s 19 i)
  else if a i = 1 then (if f = 9 then (if 1 < kF s 14 i + 1 then 4 else 1) else if f = 14 then kF s 14 i + 1 else if f = 13 then kF s 13 i + 1 else kF s f i)
  else if a i = 2 then (if f = 9 then (if kF s 2 (i % 12) < kF s 12 i + 1 then 4 else 1) else if f = 12 then kF s 12 i + 1 else kF s f i)
  else kF s f i)
theorem k_PA_19 (s : kS) (a : Nat → Nat) (i : Nat) : kF (k_PA s a) 19 i = if i < kr s ∧ ¬ kF s 19 i = -1 ∧ ¬ a (k_n (kF s 19 i)) = 0 then -1 else kF s 19 i := rfl
theorem k_PA_F (s : kS) (a : Nat → Nat) {f : Nat} (i : Nat) (h : f ≠ 19) : kF (k_PA s a) f i = if a i = 1 then (if f = 9 then (if 1 < kF s 14 i + 1 then 4 else 1) else if f = 14 then kF s 14 i + 1 else if f = 13 then kF s 13 i + 1 else kF s f i)
  else if a i = 2 then (if f = 9 then (if kF s 2 (i % 12) < kF s 12 i + 1 then 4 else 1) else if f = 12 then kF s 12 i + 1 else kF s f i)
  else kF s f i := if_neg h
theorem k_PA_n (s : kS) (a : Nat → Nat) {f : Nat} (i : Nat) (h : f ≠ 19) (h0 : a i = 0) : kF (k_PA s a) f i = kF s f i := by
  rw [k_PA_F s a i h, if_neg (by omega), if_neg (by omega)]
theorem k_PA_o (s : kS) (a : Nat → Nat) {f : Nat} (i : Nat) (h : f ≠ 19 ∧ f ≠ 9 ∧ f ≠ 12 ∧ f ≠ 13 ∧ f ≠ 14) : kF (k_PA s a) f i = kF s f i := by
  rw [k_PA_F s a i h.1]
  split
  · rw [if_neg h.2.1, if_neg h.2.2.2.2, if_neg h.2.2.2.1]
  · split
    · rw [if_neg h.2.1, if_neg h.2.2.1]
    · rfl
theorem k_PA_0 (s : kS) : k_PA s (fun _ => 0) = s := by
  refine kS_ext rfl rfl (fun f i => ?_)
  by_cases h : f = 19
  · rw [h, k_PA_19, if_neg (fun q => q.2.2 rfl)]
  · exact k_PA_n s _ i h rfl
/-- what the runners have are places -/
def k_pl (s : kS) : Prop := ∀ i, i < kr s → kF s 19 i = -1 ∨ ∃ y, y < 120 ∧ kF s 19 i = nI y
theorem kI.pl {s : kS} {R : Nat → Option Nat} (h : kI s R) : k_pl s := fun i hi => by
  rcases h.2.2.1 i hi with q | ⟨x, q⟩
  · exact Or.inl q
  · obtain ⟨h1, -, h2⟩ := h.2.1 x i q
    exact Or.inr ⟨x, h.x120 h1, h2⟩
theorem k_PA_19n {s : kS} {a : Nat → Nat} {i : Nat} (h : kF s 19 i = -1) : kF (k_PA s a) 19 i = -1 := by
  rw [k_PA_19, if_neg (fun z => z.2.1 h), h]
theorem k_PA_19y {s : kS} {a : Nat → Nat} {i y : Nat} (hi : i < kr s) (hy : y < 120) (h : kF s 19 i = nI y) : kF (k_PA s a) 19 i = if a y = 0 then nI y else -1 := by
  rw [k_PA_19, h, show k_n (nI y) = y from nI_clamp (by omega)]
  by_cases z : a y = 0
  · rw [if_pos z, if_neg (fun w => w.2.2 z)]
  · rw [if_neg z, if_pos ⟨hi, nI_ne (by omega), z⟩]
theorem k_PA_free {s : kS} (hp : k_pl s) {a : Nat → Nat} {x v : Nat} (hx : x < 120) (hv : ¬ v = 0) (i : Nat) : (if i < kr s ∧ kF (k_PA s a) 19 i = nI x then -1 else kF (k_PA s a) 19 i) = kF (k_PA s (up1 a x v)) 19 i := by
  by_cases hi : i < kr s
  · rcases hp i hi with q | ⟨y, hy, q⟩
    · rw [k_PA_19n q, k_PA_19n q]
      split <;> rfl
    · rw [k_PA_19y hi hy q, k_PA_19y hi hy q]
      by_cases e : y = x
      · rw [e, up1_s, if_neg hv]
        by_cases z : a x = 0
        · rw [if_pos z, if_pos ⟨hi, rfl⟩]
        · rw [if_neg z]
          split <;> rfl
      · rw [up1_n _ _ e]
        by_cases z : a y = 0
        · rw [if_pos z, if_neg (fun w => e ((nI_eq (by omega) (by omega)).mp w.2))]
        · rw [if_neg z]
          split <;> rfl
  · rw [if_neg (fun z => hi z.1), k_PA_19, k_PA_19, if_neg (fun z => hi z.1), if_neg (fun z => hi z.1)]
theorem k_PA_lose {s : kS} (hp : k_pl s) {a : Nat → Nat} {x : Nat} (hx : x < 120) (h0 : a x = 0) : k_lose (k_PA s a) x = k_PA s (up1 a x 1) := by
  refine kS_ext rfl rfl (fun f i => ?_)
  by_cases h : f = 19
  · rw [h, ← k_PA_free hp hx (by decide)]
    unfold k_lose
    rw [k_free_F]
    simp only [kw_F]
    exact ki_c ⟨fun q => ⟨q.2.1, by simpa using q.2.2⟩, fun q => ⟨trivial, q.1, by simpa using q.2⟩⟩
  · unfold k_lose
    rw [k_free_n _ _ h, k_PA_F _ _ _ h, kw_F, kw_F, kw_F, k_PA_n s a x (by decide) h0, k_PA_n s a x (by decide) h0]
    by_cases e : i = x
    · rw [e, up1_s, if_pos (c := 1 = 1) rfl, k_PA_n s a x h h0]
      by_cases e1 : f = 9
      · rw [if_pos ⟨e1, rfl⟩, if_pos e1]
      · rw [if_neg (fun q => e1 q.1), if_neg e1]
        by_cases e2 : f = 14
        · rw [if_pos ⟨e2, rfl⟩, if_pos e2]
        · rw [if_neg (fun q => e2 q.1), if_neg e2]
          exact ki_c ⟨fun q => q.1, fun q => ⟨q, rfl⟩⟩
    · rw [if_neg (fun q => e q.2), if_neg (fun q => e q.2), if_neg (fun q => e q.2), up1_n _ _ e, k_PA_F _ _ _ h]
theorem k_PA_fail {s : kS} (hp : k_pl s) {a : Nat → Nat} {x : Nat} (hx : x < 120) (h0 : a x = 0) : k_fail (k_PA s a) x = k_PA s (up1 a x 2) := by
  refine kS_ext rfl rfl (fun f i => ?_)
  by_cases h : f = 19
  · rw [h, ← k_PA_free hp hx (by decide)]
    unfold k_fail
    rw [k_free_F]
    simp only [kw_F]
    exact ki_c ⟨fun q => ⟨q.2.1, by simpa using q.2.2⟩, fun q => ⟨trivial, q.1, by simpa using q.2⟩⟩
  · unfold k_fail
    rw [k_free_n _ _ h, k_PA_F _ _ _ h, kw_F, kw_F, k_PA_n s a x (by decide) h0, k_PA_o s a (x % 12) (by decide)]
    by_cases e : i = x
    · rw [e, up1_s, if_neg (c := 2 = 1) (by decide), if_pos (c := 2 = 2) rfl, k_PA_n s a x h h0]
      by_cases e1 : f = 9
      · rw [if_pos ⟨e1, rfl⟩, if_pos e1]
      · rw [if_neg (fun q => e1 q.1), if_neg e1]
        exact ki_c ⟨fun q => q.1, fun q => ⟨q, rfl⟩⟩
    · rw [if_neg (fun q => e q.2), if_neg (fun q => e q.2), up1_n _ _ e, k_PA_F _ _ _ h]
theorem up1_0 {a : Nat → Nat} {x : Nat} (h : a x = 0) : up1 a x 0 = a := by
  funext i
  by_cases e : i = x
  · rw [e, up1_s, h]
  · rw [up1_n _ _ e]
theorem kI.PAu {s : kS} {R : Nat → Option Nat} (h : kI s R) {a : Nat → Nat} {x u : Nat} (hR : R x = some u) (h0 : a x = 0) : kF (k_PA s a) 19 u = nI x := by
  obtain ⟨h1, h2, h3⟩ := h.2.1 x u hR
  have hx := h.x120 h1
  rw [k_PA_19, if_neg, h3]
  rw [h3, show k_n (nI x) = x from nI_clamp (by omega)]
  exact fun q => q.2.2 h0
theorem kI.PAr {s : kS} {R : Nat → Option Nat} (h : kI s R) {a : Nat → Nat} {x : Nat} (hx : x < 120) (h0 : a x = 0) : ∀ n, n ≤ kr s → k_rofN (k_PA s a) x n = k_rofN s x n
  | 0, _ => rfl
  | n + 1, hn => by
    show (if kF (k_PA s a) 19 n = nI x then nI n else k_rofN (k_PA s a) x n) = (if kF s 19 n = nI x then nI n else k_rofN s x n)
    rw [h.PAr hx h0 n (by omega)]
    refine ki_c ⟨fun q => ?_, fun q => ?_⟩
    · rw [k_PA_19] at q
      split at q
      · exact absurd q.symm (nI_ne (by omega))
      · exact q
    · exact h.PAu (h.inj (by omega) (by omega) q) h0
/-- one task's pass, in the midst of others' -/
theorem kI.PAp {s : kS} {R : Nat → Option Nat} (h : kI s R) {a : Nat → Nat} {x : Nat} (hx : x < 120) (h0 : a x = 0) : k_pass (k_PA s a) x = k_PA s (up1 a x (k_act s x)) := by
  have e9 := k_PA_n s a (f := 9) x (by decide) h0
  have er : k_rof (k_PA s a) x = k_rof s x := h.PAr hx h0 (kr s) (Nat.le_refl _)
  have e18 := k_PA_o s a (f := 18) (k_n (k_rof s x)) (by decide)
  have e1 := k_PA_o s a (f := 1) (x % 12) (by decide)
  have e10 := k_PA_o s a (f := 10) x (by decide)
  unfold k_pass k_act k_lat k_lim
  rw [e9, er, e18, e1, e10, show kl (k_PA s a) = kl s from rfl, show kc (k_PA s a) = kc s from rfl]
  by_cases q1 : kF s 9 x = 2
  · rw [if_pos q1, if_pos q1]
    by_cases q2 : kl s < kc s - kF s 18 (k_n (k_rof s x))
    · rw [if_pos q2, if_pos q2, k_PA_lose h.pl hx h0]
    · rw [if_neg q2, if_neg q2]
      by_cases q3 : 0 < kF s 1 (x % 12) ∧ kF s 1 (x % 12) ≤ kc s - kF s 10 x
      · rw [if_pos q3, if_pos q3, k_PA_fail h.pl hx h0]
      · rw [if_neg q3, if_neg q3, up1_0 h0]
  · rw [if_neg q1, if_neg q1, up1_0 h0]
theorem kI.passA {s : kS} {R : Nat → Option Nat} (h : kI s R) : ∀ n, n ≤ 120 → k_passN s n = k_PA s (fun x => if x < n then k_act s x else 0)
  | 0, _ => by
    rw [show (fun x => if x < 0 then k_act s x else 0) = fun _ => 0 from funext fun x => if_neg (by omega), k_PA_0]
    rfl
  | n + 1, hn => by
    show k_pass (k_passN s n) n = _
    rw [h.passA n (by omega), h.PAp (x := n) (by omega) (if_neg (by omega : ¬ n < n))]
    refine congrArg (k_PA s) (funext fun x => ?_)
    by_cases e : x = n
    · rw [e, up1_s, if_pos (by omega)]
    · rw [up1_n _ _ e]
      exact ki_c ⟨fun q => by omega, fun q => by omega⟩
/-- the runners' list of what happens -/
def k_chA (s : kS) : Nat → Nat → Nat
  | 0 => fun _ => 0
  | u + 1 => if kF s 19 u = -1 then k_chA s u else up1 (k_chA s u) (k_n (kF s 19 u)) (k_act s (k_n (kF s 19 u)))
theorem kI.chA {s : kS} {R : Nat → Option Nat} (h : kI s R) : ∀ n, n ≤ kr s → ∀ x, k_chA s n x = if ∃ u, u < n ∧ R x = some u then k_act s x else 0
  | 0, _, x => (if_neg (fun ⟨u, q, _⟩ => absurd q (Nat.not_lt_zero _))).symm
  | n + 1, hn, x => by
    show (if kF s 19 n = -1 then k_chA s n else up1 (k_chA s n) (k_n (kF s 19 n)) (k_act s (k_n (kF s 19 n)))) x = _
    rcases h.2.2.1 n (by omega) with q | ⟨y, q⟩
    · rw [if_pos q, h.chA n (by omega) x]
      refine ki_c ⟨fun ⟨u, z, w⟩ => ⟨u, by omega, w⟩, fun ⟨u, z, w⟩ => ⟨u, ?_, w⟩⟩
      rcases Nat.lt_or_ge u n with e | e
      · exact e
      · have e : u = n := by omega
        rw [e] at w
        obtain ⟨h1, -, h2⟩ := h.2.1 x n w
        have := h.x120 h1
        exact absurd (h2.symm.trans q) (nI_ne (by omega))
    · obtain ⟨h1, -, h2⟩ := h.2.1 y n q
      have hy := h.x120 h1
      rw [if_neg (fun z => nI_ne (x := y) (by omega) (h2.symm.trans z)), h2, show k_n (nI y) = y from nI_clamp (by omega)]
      by_cases e : x = y
      · rw [e, up1_s, if_pos ⟨n, by omega, q⟩]
      · rw [up1_n _ _ e, h.chA n (by omega) x]
        refine ki_c ⟨fun ⟨u, z, w⟩ => ⟨u, by omega, w⟩, fun ⟨u, z, w⟩ => ⟨u, ?_, w⟩⟩
        rcases Nat.lt_or_ge u n with g | g
        · exact g
        · have g : u = n := by omega
          rw [g] at w
          obtain ⟨h3, -, h4⟩ := h.2.1 x n w
          have := h.x120 h3
          exact absurd ((nI_eq (by omega) (by omega)).mp (h4.symm.trans h2)) e
theorem kI.chP {s : kS} {R : Nat → Option Nat} (h : kI s R) : ∀ n, n ≤ kr s → k_chN s n = k_PA s (k_chA s n)
  | 0, _ => (k_PA_0 s).symm
  | n + 1, hn => by
    show k_ch1 (k_chN s n) n = k_PA s (if kF s 19 n = -1 then k_chA s n else up1 (k_chA s n) (k_n (kF s 19 n)) (k_act s (k_n (kF s 19 n))))
    rw [h.chP n (by omega)]
    rcases h.2.2.1 n (by omega) with q | ⟨y, q⟩
    · rw [if_pos q]
      unfold k_ch1
      rw [if_pos]
      rw [k_PA_19, if_neg (fun z => z.2.1 q), q]
    · obtain ⟨h1, -, h2⟩ := h.2.1 y n q
      have hy := h.x120 h1
      have hn1 : ¬ nI y = -1 := nI_ne (by omega)
      have hcl : k_n (nI y) = y := nI_clamp (by omega)
      have h0 : k_chA s n y = 0 := by
        rw [h.chA n (by omega) y, if_neg]
        rintro ⟨u, z, w⟩
        rw [q] at w
        have := Option.some.inj w
        omega
      have hro : k_n (k_rof s y) = n := by
        rw [h.rof (by omega), q]
        exact nI_clamp (by have := h.1.2.1; omega)
      rw [if_neg (fun z => hn1 (h2.symm.trans z)), h2, hcl, ← h.PAp hy h0]
      unfold k_ch1 k_pass
      rw [h.PAu q h0, if_neg hn1, hcl, if_pos (c := kF (k_PA s (k_chA s n)) 9 y = 2) (by rw [k_PA_n s _ y (by decide) h0]; exact h.runR q)]
      rw [show k_rof (k_PA s (k_chA s n)) y = k_rof s y from h.PAr hy h0 (kr s) (Nat.le_refl _), hro]
theorem kI.check {s : kS} {R : Nat → Option Nat} (h : kI s R) : k_chN s (kr s) = k_passN s (12 * kq s) := by
  have hb := h.1
  rw [h.chP (kr s) (Nat.le_refl _), h.passA (12 * kq s) (by omega)]
  refine congrArg (k_PA s) (funext fun x => ?_)
  rw [h.chA (kr s) (Nat.le_refl _) x]
  by_cases e : ∃ u, u < kr s ∧ R x = some u
  · rw [if_pos e]
    obtain ⟨u, -, q⟩ := e
    rw [if_pos (h.2.1 x u q).1.1]
  · rw [if_neg e]
    have h0 : k_act s x = 0 := if_neg (fun q => e (by
      obtain ⟨u, w⟩ := h.run2 q
      exact ⟨u, (h.2.1 x u w).2.1, w⟩))
    rw [h0]
    split <;> rfl
/-- no runner has anything: nothing happens -/
abbrev k_idle (s : kS) : Prop := ∀ u, u < kr s → kF s 19 u = -1
theorem kI.idle {s : kS} {R : Nat → Option Nat} (h : kI s R) (hi : k_idle s) : ∀ x, ¬ kF s 9 x = 2 := fun x h2 => by
  obtain ⟨u, hR⟩ := h.run2 h2
  obtain ⟨h1, h3, h4⟩ := h.2.1 x u hR
  have := h.x120 h1
  exact nI_ne (x := x) (by omega) (h4.symm.trans (hi u h3))
theorem k_passN_i {s : kS} (h : ∀ x, ¬ kF s 9 x = 2) : ∀ n, k_passN s n = s
  | 0 => rfl
  | n + 1 => by
    show k_pass (k_passN s n) n = s
    rw [k_passN_i h n]
    exact if_neg (h n)
theorem kck_ck (s : kS) (v w : Int32) : kck (kck s v) w = kck s w := rfl
theorem kck_id (s : kS) : kck s (kc s) = s := rfl
theorem k_tick_i {s : kS} (h : ∀ x, ¬ kF s 9 x = 2) (i : Nat) {t : kS} (ht : k_tickN t i = s) : ∀ n, k_tickN t (i + n) = kck s (kc s + nI n)
  | 0 => by
    show k_tickN t i = kck s (kc s + nI 0)
    rw [ht, show kc s + nI 0 = kc s from Int32.add_zero _]
    rfl
  | n + 1 => by
    show k_tick1 (k_tickN t (i + n)) = _
    rw [k_tick_i h i ht n]
    unfold k_tick1
    rw [kck_ck, show kc (kck s (kc s + nI n)) = kc s + nI n from rfl, Int32.add_assoc, nI_1]
    exact k_passN_i (s := kck s (kc s + nI (n + 1))) h _
theorem kI.tick_i {t : kS} {i : Nat} {R : Nat → Option Nat} (h : kI (k_tickN t i) R) (hi : k_idle (k_tickN t i)) {n : Nat} (hn : i ≤ n) : kck (k_tickN t i) (kc t + nI n) = k_tickN t n := by
  have e := k_tick_i (h.idle hi) i (t := t) rfl (n - i)
  rw [show i + (n - i) = n by omega, k_tickN_c, Int32.add_assoc, nI_add, show i + (n - i) = n by omega] at e
  exact e.symm
theorem k_tick_e (t : kS) (n : Nat) : kck (k_tickN t n) (kc t + nI n) = k_tickN t n := by
  rw [← k_tickN_c]
  exact kck_id _
