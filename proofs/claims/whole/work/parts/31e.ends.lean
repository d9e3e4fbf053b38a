/-! tasks that end, fail, are lost; bits that are set -/
theorem k_bit_N {a k : Nat} (ha : a < 2 ^ 31) (hk : k < 31) : k_bit (nI a) k ↔ a / 2 ^ k % 2 = 1 := by
  have hs : ((nI k &&& 31).toBitVec.smod 32).toNat = k := by
    have : ∀ k, k < 31 → ((nI k &&& 31).toBitVec.smod 32).toNat = k := by decide +kernel
    exact this k hk
  have h1 : nI a >>> (nI k &&& 31) = nI (a / 2 ^ k) := pk_shrN ha _ k hs
  have h2 : a / 2 ^ k < 2 ^ 31 := Nat.lt_of_le_of_lt (Nat.div_le_self _ _) ha
  have h3 : nI (a / 2 ^ k) &&& 1 = nI (a / 2 ^ k % 2) := pk_andN (by omega) 1 (by decide)
  show ¬ (nI a >>> (nI k &&& 31)) &&& 1 = 0 ↔ _
  rw [h1, h3, show (0 : Int32) = nI 0 from rfl, nI_eq (by omega) (by decide)]
  omega
theorem kI.fail {s : kS} {R : Nat → Option Nat} (h : kI s R) {x : Nat} (hx : k_ok s x) (h2 : kF s 9 x = 2) : kI (k_fail s x) (up1 R x none) := by
  have h4 : ¬ kF s 9 x = 4 := fun e => by rw [h2] at e; exact absurd e (by decide)
  have g : ∀ f y, f ≠ 19 → kF (k_fail s x) f y = if f = 9 ∧ y = x then (if kF s 2 (x % 12) < kF s 12 x + 1 then 4 else 1) else if f = 12 ∧ y = x then kF s 12 x + 1 else kF s f y := fun f y hf => by
    unfold k_fail
    rw [k_free_n _ _ hf, kw_F, kw_F]
  refine h.left hx rfl (fun u => ?_) (fun y hy => ?_) ?_ (fun f f1 f2 y hy => ?_) (fun r => ?_) (fun j => ?_) ?_ ?_
  · unfold k_fail
    rw [k_free_F, k_free_F]
    simp only [kw_F]
    rfl
  · rw [g _ _ (by decide), if_neg (fun q => hy q.2), if_neg (fun q => hy q.2)]
  · rw [g _ _ (by decide), if_pos ⟨rfl, rfl⟩]; split <;> decide
  · rw [g _ _ f2, if_neg (fun q => hy q.2), if_neg (fun q => hy q.2)]
  · rw [g _ _ (by decide), if_neg (fun q => absurd q.1 (by decide)), if_neg (fun q => absurd q.1 (by decide))]
  · rw [g _ _ (by decide), if_neg (fun q => absurd q.1 (by decide)), if_neg (fun q => absurd q.1 (by decide))]
  · rw [g _ _ (by decide), if_neg (fun q => absurd q.1 (by decide)), if_neg (fun q => absurd q.1 (by decide))]
    rcases k_14a h h4 with q | q
    · exact Or.inl q
    · exact Or.inr (Or.inl q)
  · rw [g _ _ (by decide), if_neg (fun q => absurd q.1 (by decide)), if_neg (fun q => absurd q.1 (by decide))]
theorem kI.lose {s : kS} {R : Nat → Option Nat} (h : kI s R) {x : Nat} (hx : k_ok s x) (h2 : kF s 9 x = 2) : kI (k_lose s x) (up1 R x none) := by
  have h4 : ¬ kF s 9 x = 4 := fun e => by rw [h2] at e; exact absurd e (by decide)
  have g : ∀ f y, f ≠ 19 → kF (k_lose s x) f y = if f = 9 ∧ y = x then (if 1 < kF s 14 x + 1 then 4 else 1) else if f = 14 ∧ y = x then kF s 14 x + 1 else if f = 13 ∧ y = x then kF s 13 x + 1 else kF s f y := fun f y hf => by
    unfold k_lose
    rw [k_free_n _ _ hf, kw_F, kw_F, kw_F]
  refine h.left hx rfl (fun u => ?_) (fun y hy => ?_) ?_ (fun f f1 f2 y hy => ?_) (fun r => ?_) (fun j => ?_) ?_ ?_
  · unfold k_lose
    rw [k_free_F, k_free_F]
    simp only [kw_F]
    rfl
  · rw [g _ _ (by decide), if_neg (fun q => hy q.2), if_neg (fun q => hy q.2), if_neg (fun q => hy q.2)]
  · rw [g _ _ (by decide), if_pos ⟨rfl, rfl⟩]; split <;> decide
  · rw [g _ _ f2, if_neg (fun q => hy q.2), if_neg (fun q => hy q.2), if_neg (fun q => hy q.2)]
  · rw [g _ _ (by decide), if_neg (fun q => absurd q.1 (by decide)), if_neg (fun q => absurd q.1 (by decide)), if_neg (fun q => absurd q.1 (by decide))]
  · rw [g _ _ (by decide), if_neg (fun q => absurd q.1 (by decide)), if_neg (fun q => absurd q.1 (by decide)), if_neg (fun q => absurd q.1 (by decide))]
  · rw [g _ _ (by decide), if_neg (fun q => absurd q.1 (by decide)), if_pos ⟨rfl, rfl⟩, g _ _ (by decide), if_pos ⟨rfl, rfl⟩]
    rcases k_14a h h4 with q | q
    · rw [q]; exact Or.inr (Or.inl (by decide))
    · rw [q]; exact Or.inr (Or.inr (by decide))
  · rw [g _ _ (by decide), if_neg (fun q => absurd q.1 (by decide)), if_neg (fun q => absurd q.1 (by decide)), if_neg (fun q => absurd q.1 (by decide))]
/-- a task that ended well -/
def k_done (s : kS) (x : Nat) (v : Int32) : kS := kw (kw (k_free s x) 15 x v) 9 x 3
theorem kI.done {s : kS} {R : Nat → Option Nat} (h : kI s R) {x : Nat} {v : Int32} (hx : k_ok s x) (h2 : kF s 9 x = 2) : kI (k_done s x v) (up1 R x none) := by
  have h4 : ¬ kF s 9 x = 4 := fun e => by rw [h2] at e; exact absurd e (by decide)
  have g : ∀ f y, f ≠ 19 → kF (k_done s x v) f y = if f = 9 ∧ y = x then 3 else if f = 15 ∧ y = x then v else kF s f y := fun f y hf => by
    unfold k_done
    rw [kw_F, kw_F, k_free_n _ _ hf]
  refine h.left hx rfl (fun u => rfl) (fun y hy => ?_) ?_ (fun f f1 f2 y hy => ?_) (fun r => ?_) (fun j => ?_) ?_ ?_
  · rw [g _ _ (by decide), if_neg (fun q => hy q.2), if_neg (fun q => hy q.2)]
  · rw [g _ _ (by decide), if_pos ⟨rfl, rfl⟩]; decide
  · rw [g _ _ f2, if_neg (fun q => hy q.2), if_neg (fun q => hy q.2)]
  · rw [g _ _ (by decide), if_neg (fun q => absurd q.1 (by decide)), if_neg (fun q => absurd q.1 (by decide))]
  · rw [g _ _ (by decide), if_neg (fun q => absurd q.1 (by decide)), if_neg (fun q => absurd q.1 (by decide))]
  · rw [g _ _ (by decide), if_neg (fun q => absurd q.1 (by decide)), if_neg (fun q => absurd q.1 (by decide))]
    rcases k_14a h h4 with q | q
    · exact Or.inl q
    · exact Or.inr (Or.inl q)
  · rw [g _ _ (by decide), if_neg (fun q => absurd q.1 (by decide)), if_neg (fun q => absurd q.1 (by decide))]
/-- a task's change to a state that isn't to wait, leaves the flags' word as it was -/
theorem kI8.keep {s s' : kS} (h : kI8 s) (h1 : s'.1 = s.1) (h8 : ∀ r, kF s' 8 r = kF s 8 r) (h4 : ∀ j, kF s' 4 j = kF s 4 j) (h9 : ∀ y, kF s' 9 y = 0 → kF s 9 y = 0) : kI8 s' := by
  intro y hy h0
  rw [k_ok_eq h1] at hy
  rw [h8, h4]
  exact h y hy (h9 y h0)
theorem kI8.fail {s : kS} (h : kI8 s) (x : Nat) : kI8 (k_fail s x) := by
  refine h.keep rfl (fun r => ?_) (fun j => ?_) (fun y h0 => ?_)
  · unfold k_fail; rw [k_free_n _ _ (by decide), kw_F, if_neg (fun q => absurd q.1 (by decide)), kw_F, if_neg (fun q => absurd q.1 (by decide))]
  · unfold k_fail; rw [k_free_n _ _ (by decide), kw_F, if_neg (fun q => absurd q.1 (by decide)), kw_F, if_neg (fun q => absurd q.1 (by decide))]
  · unfold k_fail at h0
    rw [k_free_n _ _ (by decide), kw_F] at h0
    split at h0
    · split at h0 <;> exact absurd h0 (by decide)
    · rw [kw_F, if_neg (fun q => absurd q.1 (by decide))] at h0; exact h0
theorem kI8.lose {s : kS} (h : kI8 s) (x : Nat) : kI8 (k_lose s x) := by
  refine h.keep rfl (fun r => ?_) (fun j => ?_) (fun y h0 => ?_)
  · unfold k_lose; rw [k_free_n _ _ (by decide), kw_F, if_neg (fun q => absurd q.1 (by decide)), kw_F, if_neg (fun q => absurd q.1 (by decide)), kw_F, if_neg (fun q => absurd q.1 (by decide))]
  · unfold k_lose; rw [k_free_n _ _ (by decide), kw_F, if_neg (fun q => absurd q.1 (by decide)), kw_F, if_neg (fun q => absurd q.1 (by decide)), kw_F, if_neg (fun q => absurd q.1 (by decide))]
  · unfold k_lose at h0
    rw [k_free_n _ _ (by decide), kw_F] at h0
    split at h0
    · split at h0 <;> exact absurd h0 (by decide)
    · rw [kw_F, if_neg (fun q => absurd q.1 (by decide)), kw_F, if_neg (fun q => absurd q.1 (by decide))] at h0; exact h0
theorem kI8.done {s : kS} (h : kI8 s) (x : Nat) (v : Int32) : kI8 (k_done s x v) := by
  refine h.keep rfl (fun r => ?_) (fun j => ?_) (fun y h0 => ?_)
  · unfold k_done; rw [kw_F, if_neg (fun q => absurd q.1 (by decide)), kw_F, if_neg (fun q => absurd q.1 (by decide)), k_free_n _ _ (by decide)]
  · unfold k_done; rw [kw_F, if_neg (fun q => absurd q.1 (by decide)), kw_F, if_neg (fun q => absurd q.1 (by decide)), k_free_n _ _ (by decide)]
  · unfold k_done at h0
    rw [kw_F] at h0
    split at h0
    · exact absurd h0 (by decide)
    · rw [kw_F, if_neg (fun q => absurd q.1 (by decide)), k_free_n _ _ (by decide)] at h0; exact h0
/-- the class's order of writing is the reference's -/
theorem k_fail_c (s : kS) (x : Nat) : kw (kw (k_free s x) 12 x (kF s 12 x + 1)) 9 x (if kF s 2 (x % 12) < kF s 12 x + 1 then 4 else 1) = k_fail s x := by
  refine kS_ext rfl rfl (fun f i => ?_)
  unfold k_fail
  simp only [kw_F, k_free_F]
  by_cases a : f = 19
  · subst a; simp; rfl
  · simp [a]
theorem k_lose_c {s : kS} {x : Nat} (h14 : kF s 14 x = 0 ∨ kF s 14 x = 1) : kw (kw (kw (k_free s x) 13 x (kF s 13 x + 1)) 9 x (if kF s 14 x = 0 then 1 else 4)) 14 x (kF s 14 x + 1) = k_lose s x := by
  have e : (if kF s 14 x = 0 then (1 : Int32) else 4) = if 1 < kF s 14 x + 1 then 4 else 1 := by
    rcases h14 with q | q <;> rw [q] <;> rfl
  refine kS_ext rfl rfl (fun f i => ?_)
  unfold k_lose
  rw [e]
  simp only [kw_F, k_free_F]
  by_cases a : f = 19
  · subst a; simp; rfl
  · by_cases b : f = 14
    · subst b; simp
    · by_cases d : f = 9
      · subst d; simp
      · simp [a, b, d]
/-- a run that is stopped: those of its tasks that wait are ones that always run -/
theorem k_stop1_F (s : kS) (r j : Nat) {a b : Nat} (h1 : a ≠ 19) (h2 : ¬ (a = 9 ∧ b = 12 * r + j)) : kF (k_stop1 s r j) a b = kF s a b := by
  unfold k_stop1
  split
  · rfl
  · rw [kw_F, if_neg h2, k_free_n _ _ h1]
theorem k_stopN_F (s : kS) (r : Nat) {a b : Nat} (h1 : a ≠ 19) (h2 : a ≠ 9) : ∀ n, kF (k_stopN s r n) a b = kF s a b
  | 0 => rfl
  | n + 1 => (k_stop1_F _ r n h1 (fun q => h2 q.1)).trans (k_stopN_F s r h1 h2 n)
theorem k_stopN_9 (s : kS) (r : Nat) {x : Nat} : ∀ n, (∀ j, j < n → x ≠ 12 * r + j) → kF (k_stopN s r n) 9 x = kF s 9 x
  | 0, _ => rfl
  | n + 1, h => (k_stop1_F _ r n (by decide) (fun q => h n (by omega) q.2)).trans (k_stopN_9 s r n (fun j hj => h j (by omega)))
theorem k_stopN_0 (s : kS) (r : Nat) : ∀ n j, j < n → kF (k_stopN s r n) 9 (12 * r + j) = 0 → ¬ kF s 4 j = 0
  | 0, _, h, _ => absurd h (Nat.not_lt_zero _)
  | n + 1, j, h, h0 => by
    by_cases e : j = n
    · subst e
      have h0 : kF (k_stop1 (k_stopN s r j) r j) 9 (12 * r + j) = 0 := h0
      unfold k_stop1 at h0
      split at h0
      · rename_i q
        rcases q with q | q
        · rw [k_stopN_F s r (by decide) (by decide)] at q; exact q
        · rw [h0] at q; exact absurd q (by decide)
      · rw [kw_F, if_pos ⟨rfl, rfl⟩] at h0; exact absurd h0 (by decide)
    · have h0 : kF (k_stop1 (k_stopN s r n) r n) 9 (12 * r + j) = 0 := h0
      rw [k_stop1_F _ r n (by decide) (fun q => e (by omega))] at h0
      exact k_stopN_0 s r n j (by omega) h0
theorem kI8.stop {s : kS} (h : kI8 s) (h12 : kj s ≤ 12) (r : Nat) : kI8 (k_stop s r) := by
  intro x hx h0
  have e1 : (k_stop s r).1 = s.1 := k_stopN_1 s r (kj s)
  rw [k_ok_eq e1] at hx
  unfold k_stop at h0 ⊢
  rw [kw_F, if_neg (fun q => absurd q.1 (by decide))] at h0
  rw [kw_F, kw_F, if_neg (c := 4 = 8 ∧ x % 12 = r) (fun q => absurd q.1 (by decide)), k_stopN_F s r (by decide) (by decide), k_stopN_F s r (by decide) (by decide)]
  by_cases e : x / 12 = r
  · have hj := hx.2
    have hxe : x = 12 * r + x % 12 := by omega
    rw [hxe] at h0
    intro q
    exact k_stopN_0 s r (kj s) (x % 12) hj h0 q.2
  · rw [if_neg (fun q => e q.2)]
    rw [k_stopN_9 s r (kj s) (fun j hj q => e (by omega))] at h0
    exact h x hx h0
