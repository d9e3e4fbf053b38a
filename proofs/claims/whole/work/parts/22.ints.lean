/-! numbers of 32 bits -/
theorem ti_m2 : (-2 : Int32).toInt = -2 := by decide
theorem ti_m1 : (-1 : Int32).toInt = -1 := by decide
theorem ti_0 : (0 : Int32).toInt = 0 := by decide
theorem ti_1 : (1 : Int32).toInt = 1 := by decide
theorem ti_2 : (2 : Int32).toInt = 2 := by decide
theorem ti_3 : (3 : Int32).toInt = 3 := by decide
theorem ti_4 : (4 : Int32).toInt = 4 := by decide
theorem ti_5 : (5 : Int32).toInt = 5 := by decide
theorem ti_6 : (6 : Int32).toInt = 6 := by decide
theorem ti_7 : (7 : Int32).toInt = 7 := by decide
theorem ti_8 : (8 : Int32).toInt = 8 := by decide
theorem ti_10 : (10 : Int32).toInt = 10 := by decide
theorem ti_12 : (12 : Int32).toInt = 12 := by decide
theorem ti_100 : (100 : Int32).toInt = 100 := by decide
theorem ti_1000 : (1000 : Int32).toInt = 1000 := by decide
theorem ti_eq {a b : Int32} : a = b ↔ a.toInt = b.toInt := Int32.toInt_inj.symm
theorem ki_nlt {a b : Int32} : ¬ a < b ↔ b ≤ a := by rw [Int32.lt_iff_toInt_lt, Int32.le_iff_toInt_le]; omega
theorem ki_nle {a b : Int32} : ¬ a ≤ b ↔ b < a := by rw [Int32.lt_iff_toInt_lt, Int32.le_iff_toInt_le]; omega
theorem ki_3 {a : Int32} : 3 ≤ a ↔ 2 < a := by rw [Int32.lt_iff_toInt_lt, Int32.le_iff_toInt_le, ti_3, ti_2]; omega
def kbi (p : Prop) [Decidable p] : Int32 := if p then 1 else 0
theorem kbi_t {p : Prop} [Decidable p] (h : p) : kbi p = 1 := if_pos h
theorem kbi_f {p : Prop} [Decidable p] (h : ¬ p) : kbi p = 0 := if_neg h
theorem kbi_1 {p : Prop} [Decidable p] : kbi p = 1 ↔ p := by
  unfold kbi
  split
  · exact ⟨fun _ => by assumption, fun _ => rfl⟩
  · exact ⟨fun h => absurd h (by decide), fun h => absurd h (by assumption)⟩
theorem kbi_0 {p : Prop} [Decidable p] : kbi p = 0 ↔ ¬ p := by
  unfold kbi
  split
  · exact ⟨fun h => absurd h (by decide), fun h => absurd (by assumption) h⟩
  · exact ⟨fun _ => by assumption, fun _ => rfl⟩
theorem kbi_b {p : Prop} [Decidable p] : kbi p = 0 ∨ kbi p = 1 := by
  unfold kbi
  split
  · exact Or.inr rfl
  · exact Or.inl rfl
theorem kbi_n {p : Prop} [Decidable p] : narrow .boolean (.int (kbi p)) = .int (kbi p) := by
  rcases kbi_b (p := p) with h | h <;> rw [h] <;> rfl
/-- 12 times the run, and the job -/
theorem kx_i {r j : Nat} : (12 : Int32) * nI r + nI j = nI (12 * r + j) := by
  rw [show (12 : Int32) = nI 12 from rfl, pk_mul, nI_add]
theorem kx_d {r j : Nat} (hj : j < 12) : (12 * r + j) / 12 = r := by omega
theorem kx_m {r j : Nat} (hj : j < 12) : (12 * r + j) % 12 = j := by omega
theorem kx_x {x : Nat} : 12 * (x / 12) + x % 12 = x := by omega
