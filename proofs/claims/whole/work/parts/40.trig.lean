/-! a run is triggered: what holds -/
theorem kI.addQ {s : kS} {R : Nat → Option Nat} (h : kI s R) {p g : Int32} (h10 : kq s < 10) : kI (k_addQ s p g) R := by
  obtain ⟨a1, a2, a3, a4, a5, a6, a7, a8, a9⟩ := h
  refine ⟨⟨a1.1, a1.2.1, Nat.succ_le_of_lt h10⟩, fun x u e => ?_, fun u hu => ?_, fun x hx => ?_, fun x hx f f1 f2 => ?_, fun r => ⟨fun hr => ?_, fun hr => ?_⟩, fun x => ?_, fun j k q1 q2 => ?_, fun x => ?_⟩
  · obtain ⟨b1, b2, b3⟩ := a2 x u e
    refine ⟨⟨?_, b1.2⟩, b2, ?_⟩
    · show x < 12 * (kq s + 1)
      have := b1.1
      omega
    · rw [k_addQ_n _ _ _ (by decide)]; exact b3
  · rw [k_addQ_n _ _ _ (by decide)]; exact a3 u hu
  · rw [k_addQ_n _ _ _ (by decide)]
    by_cases q : k_ok s x
    · exact a4 x q
    · rw [a5 x q 9 (by omega) (by omega)]
      refine ⟨fun z => absurd z (by decide), fun z => ?_⟩
      cases e : R x with
      | none => exact absurd e z
      | some u => exact absurd (a2 x u e).1 q
  · rw [k_addQ_n _ _ _ (by omega)]
    refine a5 x (fun q => hx ⟨?_, q.2⟩) f f1 f2
    show x < 12 * (kq s + 1)
    have := q.1
    omega
  · have hr : kq s + 1 ≤ r := hr
    rw [k_addQ_n _ _ _ (by decide)]; exact (a6 r).1 (by omega)
  · rw [k_addQ_n _ _ _ (by decide)]; exact (a6 r).2 hr
  · rw [k_addQ_n _ _ _ (by decide), k_addQ_n _ _ _ (by decide)]; exact a7 x
  · rw [k_addQ_n _ _ _ (by decide)]; exact a8 j k q1 q2
  · rw [k_addQ_n _ _ _ (by decide)]; exact a9 x
theorem kI8.addQ {s : kS} {R : Nat → Option Nat} (h : kI8 s) (hI : kI s R) (p g : Int32) : kI8 (k_addQ s p g) := fun x hx h0 => by
  have hx1 : x < 12 * (kq s + 1) ∧ x % 12 < kj s := hx
  rw [k_addQ_n _ _ _ (by decide)] at h0
  rw [k_addQ_n _ _ _ (by decide), k_addQ_n _ _ _ (by decide)]
  by_cases q : x < 12 * kq s
  · exact h x ⟨q, hx1.2⟩ h0
  · rw [show x / 12 = kq s by omega, (hI.2.2.2.2.2.1 (kq s)).1 (Nat.le_refl _)]
    exact fun z => z.1 rfl
def k_grp1 (s : kS) (g : Int32) (r : Nat) : kS := if kF s 7 r = g ∧ ¬ k_over s r then k_stop s r else s
def k_grpN (s : kS) (g : Int32) : Nat → kS
  | 0 => s
  | r + 1 => k_grp1 (k_grpN s g r) g r
theorem k_stop_1 (s : kS) (r : Nat) : (k_stop s r).1 = s.1 := k_stopN_1 s r (kj s)
theorem k_grp1_1 (s : kS) (g : Int32) (r : Nat) : (k_grp1 s g r).1 = s.1 := by
  unfold k_grp1
  split
  · exact k_stop_1 s r
  · rfl
theorem k_grpN_1 (s : kS) (g : Int32) : ∀ n, (k_grpN s g n).1 = s.1
  | 0 => rfl
  | n + 1 => (k_grp1_1 _ _ _).trans (k_grpN_1 s g n)
def k_grp (s : kS) (g : Int32) : kS := if g = -1 then s else k_grpN s g (kq s)
theorem k_grp_1 (s : kS) (g : Int32) : (k_grp s g).1 = s.1 := by
  unfold k_grp
  split
  · rfl
  · exact k_grpN_1 s g _
def o_trig (s : kS) (p g : Int32) : kS × Int32 := if kq s = 10 ∨ ¬ k_in p 8 ∨ g < -1 ∨ 4 ≤ g then (s, -1) else (k_settle (k_addQ (k_grp s g) p g), nI (kq s))
theorem kW.frameZ {c : kS} {R : Nat → Option Nat} {m : kS} {A : kA} {h h2 : xm_H} {z : Nat} (hW : kW c R m A h) (hlo : ∀ k i, kv c k i → A k i < z) (hq : ∀ q, q < z → h2.1 q = h.1 q) (hz : h.2.1 ≤ h2.2.1) : kW c R m A h2 :=
  ⟨fun k i hk => ⟨(hq _ (hlo k i hk)).trans (hW.1 k i hk).1, Nat.lt_of_lt_of_le (hW.1 k i hk).2 hz⟩, hW.2⟩
