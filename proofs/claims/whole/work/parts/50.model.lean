/-! numbers that the reference reckons with -/
theorem k12m (q : Nat) : (12 : Int32) * nI q = nI (12 * q) := pk_mul 12 q
theorem k12d {x : Nat} (hx : x < 2 ^ 31) : nI x / 12 = nI (x / 12) := pk_div (d := 12) hx (by decide) (by decide)
theorem k12r {x : Nat} (hx : x < 2 ^ 31) : nI x - nI x / 12 * 12 = nI (x % 12) := pk_rem (d := 12) hx (by decide) (by decide)
theorem k_and1 (v : Int32) : v &&& 1 = 0 ∨ v &&& 1 = 1 := by
  obtain ⟨j, hj, e⟩ := pk_andE v (m := 1) 1 (by decide)
  rw [e]
  rcases (show j = 0 ∨ j = 1 by omega) with rfl | rfl
  · exact Or.inl rfl
  · exact Or.inr rfl
theorem k_bit1 {v : Int32} {k : Nat} : (v >>> (nI k &&& 31)) &&& 1 = 1 ↔ k_bit v k := by
  rcases k_and1 (v >>> (nI k &&& 31)) with h | h
  · exact ⟨fun q => by rw [h] at q; exact absurd q (by decide), fun q => absurd h q⟩
  · exact ⟨fun _ q => by rw [h] at q; exact absurd q (by decide), fun _ => h⟩
abbrev kMb (m : kS) : Prop := kj m ≤ 12 ∧ kr m ≤ 6 ∧ kq m ≤ 10
theorem k_ge_lt {a b : Nat} (hb : b < 2 ^ 31) (ha : a < 2 ^ 31) (h : ¬ nI b ≤ nI a) : a < b := by
  rcases Nat.lt_or_ge a b with q | q
  · exact q
  · exact absurd (nI_le q ha) h
theorem k_ge_ge {a b : Nat} (hb : b < 2 ^ 31) (h : nI b ≤ nI a) : b ≤ a := by
  rcases Nat.lt_or_ge a b with q | q
  · exact absurd h (nI_ge q hb)
  · exact q
def k_freeN (s : kS) (x n : Nat) : kS := (s.1, s.2.1, fun f i => if f = 19 ∧ i < n ∧ kF s 19 i = nI x then -1 else kF s f i)
theorem k_freeN_F (s : kS) (x n a b : Nat) : kF (k_freeN s x n) a b = if a = 19 ∧ b < n ∧ kF s 19 b = nI x then -1 else kF s a b := rfl
theorem k_freeN_0 (s : kS) (x : Nat) : k_freeN s x 0 = s := kS_ext rfl rfl (fun f i => by rw [k_freeN_F, if_neg (by omega)])
theorem k_freeN_s (s : kS) (x n : Nat) {v : Int32} (hv : v = if kF s 19 n = nI x then -1 else kF s 19 n) : kw (k_freeN s x n) 19 n v = k_freeN s x (n + 1) := by
  refine kS_ext rfl rfl (fun f i => ?_)
  rw [kw_F, k_freeN_F, k_freeN_F]
  by_cases e : f = 19 ∧ i = n
  · rw [if_pos e, e.1, e.2, hv]
    by_cases q : kF s 19 n = nI x
    · rw [if_pos q, if_pos ⟨rfl, by omega, q⟩]
    · rw [if_neg q, if_neg (fun z => q z.2.2)]
  · rw [if_neg e]
    exact ki_c ⟨fun z => ⟨z.1, by omega, z.2.2⟩, fun z => ⟨z.1, by omega, z.2.2⟩⟩
