/-! what the calls answer -/
abbrev k_in (v : Int32) (n : Nat) : Prop := ¬ v < 0 ∧ ¬ nI n ≤ v
abbrev k_n (v : Int32) : Nat := v.toNatClampNeg
theorem k_in_of {r n : Nat} (h : r < n) (hn : n < 2 ^ 31) : k_in (nI r) n := ⟨nI_pos (by omega), nI_ge h hn⟩
theorem k_n_of {r n : Nat} (h : r < n) (hn : n < 2 ^ 31) : k_n (nI r) = r := nI_clamp (by omega)
theorem k_in_ex {v : Int32} {n : Nat} (hn : n < 2 ^ 31) (h : k_in v n) : ∃ r, r < n ∧ v = nI r := by
  rcases pk_ix v hn with q | q | q
  · exact absurd q h.1
  · exact absurd q h.2
  · exact q
def k_state (s : kS) (a b : Int32) : Int32 := if k_in a (kq s) ∧ k_in b (kj s) then kF s 9 (12 * k_n a + k_n b) else -1
def k_judge (s : kS) (r : Nat) : Int32 := if ¬ k_over s r then 0 else if ¬ kF s 8 r = 0 then 3 else if k_anyf s r then 2 else 1
def k_verd (s : kS) (a : Int32) : Int32 := if k_in a (kq s) then k_judge s (k_n a) else -1
def k_has (s : kS) (a : Int32) : Int32 := if k_in a (kr s) then kF s 19 (k_n a) else -1
def k_rofN (s : kS) (x : Nat) : Nat → Int32
  | 0 => -1
  | u + 1 => if kF s 19 u = nI x then nI u else k_rofN s x u
def k_rof (s : kS) (x : Nat) : Int32 := k_rofN s x (kr s)
def k_abt (s : kS) (r j : Nat) (w : Int32) : Int32 := if w = 0 then k_rof s (12 * r + j) else if w = 1 then kF s 11 (12 * r + j) else if w = 2 then kF s 13 (12 * r + j) else if w = 3 then kF s 15 (12 * r + j) else if w = 4 then k_art s r j j else 0
def k_about (s : kS) (a b w : Int32) : Int32 := if k_in a (kq s) ∧ k_in b (kj s) then k_abt s (k_n a) (k_n b) w else -1
theorem kI.rofN {s : kS} {R : Nat → Option Nat} (h : kI s R) {x : Nat} (hx : x < 2 ^ 31) : ∀ n, n ≤ kr s → (∀ u, R x = some u → n ≤ u) → k_rofN s x n = -1
  | 0, _, _ => rfl
  | n + 1, hn, hu => by
    show (if kF s 19 n = nI x then _ else _) = _
    rw [if_neg, h.rofN hx n (by omega) (fun u e => Nat.le_of_succ_le (hu u e))]
    intro e
    have := hu n (h.inj hx (by omega) e)
    omega
theorem kI.rofS {s : kS} {R : Nat → Option Nat} (h : kI s R) {x u : Nat} (hx : x < 2 ^ 31) (hu : R x = some u) : ∀ n, u + 1 + n ≤ kr s → k_rofN s x (u + 1 + n) = nI u
  | 0, _ => by
    show (if kF s 19 u = nI x then _ else _) = _
    rw [if_pos (h.2.1 x u hu).2.2]
  | n + 1, hn => by
    show (if kF s 19 (u + 1 + n) = nI x then _ else _) = _
    rw [if_neg]
    · exact h.rofS hx hu n (by omega)
    · intro e
      have q := h.inj hx (by omega) e
      rw [hu] at q
      have := Option.some.inj q
      omega
theorem kI.rof {s : kS} {R : Nat → Option Nat} (h : kI s R) {x : Nat} (hx : x < 2 ^ 31) : k_rof s x = k_ru (R x) := by
  cases hR : R x with
  | none => exact h.rofN hx (kr s) (Nat.le_refl _) (fun u e => by rw [hR] at e; cases e)
  | some u =>
    have h1 := (h.2.1 x u hR).2.1
    have h2 := h.rofS hx hR (kr s - (u + 1)) (by omega)
    rw [show u + 1 + (kr s - (u + 1)) = kr s by omega] at h2
    exact h2
/-- what a call leaves behind on the class's side -/
def kQ (s' m : kS) (A : kA) (h h' : xm_H) : Prop := ∃ (R' : Nat → Option Nat) (A' : kA), kW s' R' m A' h' ∧ kI s' R' ∧ kI8 s' ∧ A' 0 0 = A 0 0 ∧ A' 6 0 = A 6 0 ∧ h'.2.1 ≤ h.2.1 + 14 ∧ h'.2.2 ≤ h.2.2 + 170
theorem kQ.of {s' m : kS} {A : kA} {h h' : xm_H} {R' : Nat → Option Nat} (hW : kW s' R' m A h') (hI : kI s' R') (h8 : kI8 s') (he : h'.2 = h.2) : kQ s' m A h h' := ⟨R', A, hW, hI, h8, rfl, rfl, by rw [he]; omega, by rw [he]; omega⟩
