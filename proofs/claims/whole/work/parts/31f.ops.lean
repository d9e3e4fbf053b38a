/-! the calls, as what they do and answer -/
def o_lost (s : kS) (t : Int32) : kS × Int32 := if t < 1 ∨ 100 < t then (s, 0) else ((s.1, (kc s, t), kF s), 1)
def o_beat (s : kS) (a : Int32) : kS × Int32 := if k_in a (kr s) ∧ ¬ kF s 19 (k_n a) = -1 then (kw s 18 (k_n a) (kc s), 1) else (s, 0)
def o_end (s : kS) (a w v : Int32) : kS × Int32 := if k_in a (kr s) ∧ ¬ kF s 19 (k_n a) = -1 then (k_settle (if ¬ w = 0 then k_done s (k_n (kF s 19 (k_n a))) v else k_fail s (k_n (kF s 19 (k_n a)))), 1) else (s, 0)
def o_cancel (s : kS) (a : Int32) : kS × Int32 := if k_in a (kq s) ∧ kF s 8 (k_n a) = 0 ∧ ¬ k_over s (k_n a) then (k_settle (k_stop s (k_n a)), 1) else (s, 0)
def o_again (s : kS) (a : Int32) : kS × Int32 := if k_in a (kq s) ∧ kF s 8 (k_n a) = 0 ∧ k_over s (k_n a) then (k_settle (k_agN s (k_n a) (kj s)), k_agC s (k_n a) (kj s)) else (s, -1)
def o_needs (s : kS) (a b : Int32) : kS × Int32 := if kq s = 0 ∧ ¬ b < 0 ∧ ¬ a ≤ b ∧ ¬ nI (kj s) ≤ a ∧ ¬ k_bit (kF s 3 (k_n a)) (k_n b) then (kw s 3 (k_n a) (kF s 3 (k_n a) ||| ((1 : Int32) <<< (b &&& 31))), 1) else (s, 0)
def o_appr (s : kS) (a b p : Int32) : kS × Int32 := if k_in a (kq s) ∧ k_in b (kj s) ∧ k_in p 8 ∧ ¬ kF s 5 (k_n b) = 0 ∧ ¬ 2 < kF s 9 (12 * k_n a + k_n b) then (if kF s 6 (k_n a) = p then (s, -2) else if k_bit (kF s 16 (12 * k_n a + k_n b)) (k_n p) then (s, 0) else (k_settle (kw s 16 (12 * k_n a + k_n b) (kF s 16 (12 * k_n a + k_n b) ||| ((1 : Int32) <<< (p &&& 31)))), 1)) else (s, -1)
/-- approvals are bits of eight persons -/
theorem k_ap : ∀ a, a < 256 → ∀ p, p < 8 → (nI a ||| ((1 : Int32) <<< (nI p &&& 31))) = nI (a ||| 2 ^ p) ∧ a ||| 2 ^ p < 256 ∧ ((nI a &&& ((1 : Int32) <<< (nI p &&& 31))) = 0 ↔ ¬ k_bit (nI a) p) := by decide +kernel
theorem kI.appr {s : kS} {R : Nat → Option Nat} (h : kI s R) {x p : Nat} (hx : k_ok s x) (hp : p < 8) : kI (kw s 16 x (kF s 16 x ||| ((1 : Int32) <<< (nI p &&& 31)))) R := by
  have hn : ∀ a b, a ≠ 16 → kF (kw s 16 x (kF s 16 x ||| ((1 : Int32) <<< (nI p &&& 31)))) a b = kF s a b := fun a b ha => by rw [kw_F, if_neg (fun q => ha q.1)]
  refine h.step rfl (fun y u e => ?_) (fun u hu => ?_) (fun y hy => ?_) (fun y hy f f1 f2 => ?_) (fun r hr => ?_) (fun y => ?_) (fun j => ?_) (fun y => ?_)
  · rw [hn _ _ (by decide)]; exact h.2.1 y u e
  · rw [hn _ _ (by decide)]; exact h.2.2.1 u hu
  · rw [hn _ _ (by decide)]; exact h.2.2.2.1 y hy
  · rw [kw_F, if_neg (fun q => hy (by rw [q.2]; exact hx))]
  · rw [hn _ _ (by decide)]
  · rw [hn _ _ (by decide), hn _ _ (by decide)]; exact h.2.2.2.2.2.2.1 y
  · rw [hn _ _ (by decide)]
  · rw [kw_F]
    split
    · obtain ⟨a, ha, e⟩ := h.2.2.2.2.2.2.2.2 x
      rw [e, (k_ap a ha p hp).1]
      exact ⟨_, (k_ap a ha p hp).2.1, rfl⟩
    · exact h.2.2.2.2.2.2.2.2 y
theorem kI8.other {s : kS} (h : kI8 s) {f i : Nat} {v : Int32} (h8 : f ≠ 8) (h4 : f ≠ 4) (h9 : f ≠ 9) : kI8 (kw s f i v) := by
  refine h.keep rfl (fun r => ?_) (fun j => ?_) (fun y h0 => ?_)
  · rw [kw_F, if_neg (fun q => h8 q.1.symm)]
  · rw [kw_F, if_neg (fun q => h4 q.1.symm)]
  · rw [kw_F, if_neg (fun q => h9 q.1.symm)] at h0; exact h0
theorem k_agN_F (s : kS) (r : Nat) {a b : Nat} (h : a ≠ 9 ∧ a ≠ 12 ∧ a ≠ 14) : ∀ n, kF (k_agN s r n) a b = kF s a b
  | 0 => rfl
  | n + 1 => by
    show kF (k_ag1 (k_agN s r n) (12 * r + n)) a b = _
    unfold k_ag1
    split
    · rw [kw_F, if_neg (by omega), kw_F, if_neg (by omega), kw_F, if_neg (by omega)]; exact k_agN_F s r h n
    · exact k_agN_F s r h n
theorem k_agN_9 (s : kS) (r : Nat) {x : Nat} : ∀ n, (∀ j, j < n → x ≠ 12 * r + j) → kF (k_agN s r n) 9 x = kF s 9 x
  | 0, _ => rfl
  | n + 1, h => by
    show kF (k_ag1 (k_agN s r n) (12 * r + n)) 9 x = _
    unfold k_ag1
    split
    · rw [kw_F, if_neg (by omega), kw_F, if_neg (by omega), kw_F, if_neg (fun q => h n (by omega) q.2)]; exact k_agN_9 s r n (fun j hj => h j (by omega))
    · exact k_agN_9 s r n (fun j hj => h j (by omega))
theorem kI8.again {s : kS} (h : kI8 s) {r : Nat} (h0 : kF s 8 r = 0) (n : Nat) (hn : n ≤ 12) : kI8 (k_agN s r n) := by
  intro x hx hz
  rw [k_ok_eq (k_agN_1 s r n)] at hx
  rw [k_agN_F s r (by decide), k_agN_F s r (by decide)]
  by_cases e : x / 12 = r
  · rw [e]; exact fun q => q.1 h0
  · rw [k_agN_9 s r n (fun j hj q => e (by omega))] at hz
    exact h x hx hz
/-- needs are bits of earlier jobs -/
theorem kI.needs {s : kS} {R : Nat → Option Nat} (h : kI s R) {a b : Nat} (hb : b < a) (ha : a < kj s) (hk : ∀ k, a ≤ k → k < 12 → ¬ k_bit (kF s 3 a ||| ((1 : Int32) <<< (nI b &&& 31))) k) : kI (kw s 3 a (kF s 3 a ||| ((1 : Int32) <<< (nI b &&& 31)))) R := by
  obtain ⟨a1, a2, a3, a4, a5, a6, a7, a8, a9⟩ := h
  have hn : ∀ f i, f ≠ 3 → kF (kw s 3 a (kF s 3 a ||| ((1 : Int32) <<< (nI b &&& 31)))) f i = kF s f i := fun f i hf => by rw [kw_F, if_neg (fun q => hf q.1)]
  refine ⟨a1, fun x u e => ?_, fun u hu => ?_, fun x hx => ?_, fun x hx f f1 f2 => ?_, fun r => ⟨fun hr => ?_, fun hr => ?_⟩, fun x => ?_, fun j k q1 q2 => ?_, fun x => ?_⟩
  · rw [hn _ _ (by decide)]; exact a2 x u e
  · rw [hn _ _ (by decide)]; exact a3 u hu
  · rw [hn _ _ (by decide)]; exact a4 x hx
  · rw [hn _ _ (by omega)]; exact a5 x hx f f1 f2
  · rw [hn _ _ (by decide)]; exact (a6 r).1 hr
  · rw [kw_F, if_neg (fun q => by have e : kj s ≤ r := hr; omega)]; exact (a6 r).2 hr
  · rw [hn _ _ (by decide), hn _ _ (by decide)]; exact a7 x
  · rw [kw_F]
    split
    · rename_i q; rw [q.2] at q1; exact hk k q1 q2
    · exact a8 j k q1 q2
  · rw [hn _ _ (by decide)]; exact a9 x
/-- bit by bit -/
theorem k_bit_or (v w : Int32) {k : Nat} (hk : k < 12) : k_bit (v ||| w) k → k_bit v k ∨ k_bit w k := by
  intro h
  refine Classical.byContradiction (fun q => ?_)
  have q1 : (v >>> (nI k &&& 31)) &&& 1 = 0 := Classical.byContradiction (fun z => q (Or.inl z))
  have q2 : (w >>> (nI k &&& 31)) &&& 1 = 0 := Classical.byContradiction (fun z => q (Or.inr z))
  apply h
  have e : (v ||| w) >>> (nI k &&& 31) = (v >>> (nI k &&& 31)) ||| (w >>> (nI k &&& 31)) := by
    apply Int32.toBitVec_inj.mp
    simp only [Int32.toBitVec_shiftRight, Int32.toBitVec_or]
    ext i hi
    simp [BitVec.getElem_sshiftRight]
    split <;> rfl
  rw [e]
  apply Int32.toBitVec_inj.mp
  have q1 := congrArg Int32.toBitVec q1
  have q2 := congrArg Int32.toBitVec q2
  simp only [Int32.toBitVec_and, Int32.toBitVec_or] at q1 q2 ⊢
  rw [BitVec.and_comm, BitVec.and_or_distrib_left, BitVec.and_comm _ (v >>> _).toBitVec, BitVec.and_comm _ (w >>> _).toBitVec, q1, q2]
  rfl
theorem k_bit_1 : ∀ b, b < 12 → ∀ k, k < 12 → k_bit ((1 : Int32) <<< (nI b &&& 31)) k → k = b := by decide +kernel
