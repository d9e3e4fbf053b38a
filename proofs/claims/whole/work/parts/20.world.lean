/-! THE STATE of class and reference alike, as numbers: how many jobs, runners, runs; clock, lost; and a family of ints by field and place: by job 0 labels, 1 limit, 2 retries, 3 need, 4 always, 5 wants; by run 6 person, 7 group, 8 cancelled; by task (12 times the run, and the job) 9 state, 10 since, 11 tries, 12 failures, 13 losses, 14 losses now, 15 artefact, 16 approvals; by runner 17 labels, 18 beat, 19 what it has (-1: nothing). -/
abbrev kS : Type := (Nat × Nat × Nat) × (Int32 × Int32) × (Nat → Nat → Int32)
abbrev kj (s : kS) : Nat := s.1.1
abbrev kr (s : kS) : Nat := s.1.2.1
abbrev kq (s : kS) : Nat := s.1.2.2
abbrev kc (s : kS) : Int32 := s.2.1.1
abbrev kl (s : kS) : Int32 := s.2.1.2
abbrev kF (s : kS) : Nat → Nat → Int32 := s.2.2
def up1 {α : Type} (f : Nat → α) (i : Nat) (v : α) : Nat → α := fun a => if a = i then v else f a
def up2 {α : Type} (f : Nat → Nat → α) (i k : Nat) (v : α) : Nat → Nat → α := fun a b => if a = i ∧ b = k then v else f a b
theorem up1_s {α : Type} (f : Nat → α) (i : Nat) (v : α) : up1 f i v i = v := by simp [up1]
theorem up1_n {α : Type} (f : Nat → α) {i j : Nat} (v : α) (h : j ≠ i) : up1 f i v j = f j := by simp [up1, h]
theorem up2_s {α : Type} (f : Nat → Nat → α) (i k : Nat) (v : α) : up2 f i k v i k = v := by simp [up2]
theorem up2_a {α : Type} (f : Nat → Nat → α) {i k a b : Nat} (v : α) (h : a ≠ i) : up2 f i k v a b = f a b := by simp [up2, h]
theorem up2_b {α : Type} (f : Nat → Nat → α) {i k a b : Nat} (v : α) (h : b ≠ k) : up2 f i k v a b = f a b := by simp [up2, h]
/-- one number is written -/
def kw (s : kS) (f i : Nat) (v : Int32) : kS := (s.1, s.2.1, up2 (kF s) f i v)
theorem kw_F (s : kS) (f i : Nat) (v : Int32) (a b : Nat) : kF (kw s f i v) a b = if a = f ∧ b = i then v else kF s a b := rfl
/-- what a runner has, as a place -/
def khx (v : Int32) : Option Nat := if v = -1 then none else some v.toNatClampNeg
def kbz (v : Int32) : Int32 := if v = 0 then 0 else 1
/-! THE WORLD: where the cells lie (kind, number), and what they are. Kinds: 0 the object (0) and its arrays of jobs, runners, runs (1, 2, 3); 1 jobs; 2 runners; 3 runs; 4 a run's array of tasks; 5 tasks; 6 the reference (0) and its arrays (1 + field). c: the class's numbers, R: which runner a task knows, m: the reference's numbers. -/
abbrev kA : Type := Nat → Nat → Nat
def kv (c : kS) (k i : Nat) : Prop := match k with
  | 0 => i < 4
  | 1 => i < kj c
  | 2 => i < kr c
  | 3 => i < kq c
  | 4 => i < kq c
  | 5 => i < 12 * kq c ∧ i % 12 < kj c
  | 6 => i < 21
  | _ => False
/-- the arrays of the reference: how long, of which type -/
def km_len (f : Nat) : Nat := if f < 6 then 12 else if f < 9 then 10 else if f < 17 then 120 else 6
def km_ty (f : Nat) : Nat := if f = 4 ∨ f = 5 ∨ f = 8 then 1 else 0
def kd0 (c : kS) (A : kA) (i : Nat) : xm_E := match i with
  | 0 => .inl (4, [.ref (A 0 1), .ref (A 0 2), .ref (A 0 3), .int (nI (kj c)), .int (nI (kr c)), .int (nI (kq c)), .int (kc c), .int (kl c)])
  | 1 => .inr (2, 12, fun j => va_rf (if j < kj c then some (A 1 j) else none))
  | 2 => .inr (3, 6, fun j => va_rf (if j < kr c then some (A 2 j) else none))
  | _ => .inr (4, 10, fun j => va_rf (if j < kq c then some (A 3 j) else none))
def kd1 (c : kS) (i : Nat) : xm_E := .inl (0, [.int (kF c 0 i), .int (kF c 1 i), .int (kF c 2 i), .int (kF c 4 i), .int (kF c 5 i), .int (kF c 3 i)])
def kd2 (c : kS) (A : kA) (i : Nat) : xm_E := .inl (2, [.int (nI i), .int (kF c 17 i), .int (kF c 18 i), va_rf ((khx (kF c 19 i)).map (A 5))])
def kd3 (c : kS) (A : kA) (i : Nat) : xm_E := .inl (1, [.int (nI i), .int (kF c 6 i), .int (kF c 7 i), .ref (A 4 i), .int (kF c 8 i)])
def kd4 (c : kS) (A : kA) (i : Nat) : xm_E := .inr (5, kj c, fun j => if j < 12 then .ref (A 5 (12 * i + j)) else .null)
def kd5 (c : kS) (R : Nat → Option Nat) (A : kA) (x : Nat) : xm_E := .inl (3, [.ref (A 3 (x / 12)), .int (nI (x % 12)), .ref (A 1 (x % 12)), .int (kF c 9 x), va_rf ((R x).map (A 2)), .int (kF c 10 x), .int (kF c 16 x), .int (kF c 15 x), .int (kF c 11 x), .int (kF c 13 x), .int (kF c 12 x), .int (kbz (kF c 14 x))])
def kd6 (m : kS) (A : kA) (i : Nat) : xm_E := match i with
  | 0 => .inl (5, [.int 0, .int (kc m), .int (kl m), .int (nI (kj m)), .int (nI (kq m)), .int (nI (kr m)), .ref (A 6 1), .ref (A 6 2), .ref (A 6 3), .ref (A 6 4), .ref (A 6 5), .ref (A 6 6), .ref (A 6 7), .ref (A 6 8), .ref (A 6 9), .ref (A 6 10), .ref (A 6 11), .ref (A 6 12), .ref (A 6 13), .ref (A 6 14), .ref (A 6 15), .ref (A 6 16), .ref (A 6 17), .ref (A 6 18), .ref (A 6 19), .ref (A 6 20)])
  | f + 1 => .inr (km_ty f, km_len f, fun j => .int (kF m f j))
def kd (c : kS) (R : Nat → Option Nat) (m : kS) (A : kA) (k i : Nat) : xm_E := match k with
  | 0 => kd0 c A i
  | 1 => kd1 c i
  | 2 => kd2 c A i
  | 3 => kd3 c A i
  | 4 => kd4 c A i
  | 5 => kd5 c R A i
  | 6 => kd6 m A i
  | _ => .inl (0, [])
def kW (c : kS) (R : Nat → Option Nat) (m : kS) (A : kA) (h : xm_H) : Prop :=
  (∀ k i, kv c k i → h.1 (A k i) = some (kd c R m A k i) ∧ A k i < h.2.1) ∧ (∀ k i k' i', kv c k i → kv c k' i' → A k i = A k' i' → k = k' ∧ i = i') ∧ kj c ≤ 12 ∧ kr c ≤ 6 ∧ kq c ≤ 10
theorem kv_eq {c c' : kS} (hc : c'.1 = c.1) (k i : Nat) : kv c' k i = kv c k i := by
  obtain ⟨a, b⟩ := c
  obtain ⟨a', b'⟩ := c'
  cases hc
  rfl
/-- one cell of the world is written: the numbers change so that this cell's picture alone changes -/
theorem kW.put {c c' : kS} {R R' : Nat → Option Nat} {m m' : kS} {A : kA} {h : xm_H} (hW : kW c R m A h) {k0 i0 : Nat} {e : xm_E} (h0 : kv c k0 i0) (hc : c'.1 = c.1) (he : kd c' R' m' A k0 i0 = e) (ho : ∀ k i, ¬ (k = k0 ∧ i = i0) → kd c' R' m' A k i = kd c R m A k i) : kW c' R' m' A (xm_up h.1 (A k0 i0) e, h.2) := by
  refine ⟨fun k i hk => ?_, fun k i k' i' hk hk' => ?_, by rw [show kj c' = kj c from congrArg (fun z => z.1) hc, show kr c' = kr c from congrArg (fun z => z.2.1) hc, show kq c' = kq c from congrArg (fun z => z.2.2) hc]; exact hW.2.2⟩
  · rw [kv_eq hc] at hk
    refine ⟨?_, (hW.1 k i hk).2⟩
    by_cases hq : k = k0 ∧ i = i0
    · obtain ⟨rfl, rfl⟩ := hq
      show xm_up h.1 (A k i) e (A k i) = _
      rw [xm_up_self, he]
    · show xm_up h.1 (A k0 i0) e (A k i) = _
      rw [xm_up_ne _ _ (fun z => hq (hW.2.1 k i k0 i0 hk h0 z)), (hW.1 k i hk).1, ho k i hq]
  · rw [kv_eq hc] at hk hk'
    exact hW.2.1 k i k' i' hk hk'
theorem kW.job {c : kS} {R : Nat → Option Nat} {m : kS} {A : kA} {h : xm_H} (hW : kW c R m A h) {i : Nat} (hi : i < kj c) : h.1 (A 1 i) = some (.inl (0, [.int (kF c 0 i), .int (kF c 1 i), .int (kF c 2 i), .int (kF c 4 i), .int (kF c 5 i), .int (kF c 3 i)])) := (hW.1 1 i hi).1
theorem kW.rnr {c : kS} {R : Nat → Option Nat} {m : kS} {A : kA} {h : xm_H} (hW : kW c R m A h) {i : Nat} (hi : i < kr c) : h.1 (A 2 i) = some (.inl (2, [.int (nI i), .int (kF c 17 i), .int (kF c 18 i), va_rf ((khx (kF c 19 i)).map (A 5))])) := (hW.1 2 i hi).1
theorem kW.run {c : kS} {R : Nat → Option Nat} {m : kS} {A : kA} {h : xm_H} (hW : kW c R m A h) {i : Nat} (hi : i < kq c) : h.1 (A 3 i) = some (.inl (1, [.int (nI i), .int (kF c 6 i), .int (kF c 7 i), .ref (A 4 i), .int (kF c 8 i)])) := (hW.1 3 i hi).1
theorem kW.tks {c : kS} {R : Nat → Option Nat} {m : kS} {A : kA} {h : xm_H} (hW : kW c R m A h) {i : Nat} (hi : i < kq c) : h.1 (A 4 i) = some (.inr (5, kj c, fun j => if j < 12 then .ref (A 5 (12 * i + j)) else .null)) := (hW.1 4 i hi).1
theorem kW.tsk {c : kS} {R : Nat → Option Nat} {m : kS} {A : kA} {h : xm_H} (hW : kW c R m A h) {x : Nat} (hx : x < 12 * kq c ∧ x % 12 < kj c) : h.1 (A 5 x) = some (.inl (3, [.ref (A 3 (x / 12)), .int (nI (x % 12)), .ref (A 1 (x % 12)), .int (kF c 9 x), va_rf ((R x).map (A 2)), .int (kF c 10 x), .int (kF c 16 x), .int (kF c 15 x), .int (kF c 11 x), .int (kF c 13 x), .int (kF c 12 x), .int (kbz (kF c 14 x))])) := (hW.1 5 x hx).1
theorem kW.this {c : kS} {R : Nat → Option Nat} {m : kS} {A : kA} {h : xm_H} (hW : kW c R m A h) : h.1 (A 0 0) = some (.inl (4, [.ref (A 0 1), .ref (A 0 2), .ref (A 0 3), .int (nI (kj c)), .int (nI (kr c)), .int (nI (kq c)), .int (kc c), .int (kl c)])) := (hW.1 0 0 (show 0 < 4 by decide)).1
theorem kW.ajob {c : kS} {R : Nat → Option Nat} {m : kS} {A : kA} {h : xm_H} (hW : kW c R m A h) : h.1 (A 0 1) = some (.inr (2, 12, fun j => va_rf (if j < kj c then some (A 1 j) else none))) := (hW.1 0 1 (show 1 < 4 by decide)).1
theorem kW.arnr {c : kS} {R : Nat → Option Nat} {m : kS} {A : kA} {h : xm_H} (hW : kW c R m A h) : h.1 (A 0 2) = some (.inr (3, 6, fun j => va_rf (if j < kr c then some (A 2 j) else none))) := (hW.1 0 2 (show 2 < 4 by decide)).1
theorem kW.arun {c : kS} {R : Nat → Option Nat} {m : kS} {A : kA} {h : xm_H} (hW : kW c R m A h) : h.1 (A 0 3) = some (.inr (4, 10, fun j => va_rf (if j < kq c then some (A 3 j) else none))) := (hW.1 0 3 (show 3 < 4 by decide)).1
theorem kW.ref {c : kS} {R : Nat → Option Nat} {m : kS} {A : kA} {h : xm_H} (hW : kW c R m A h) : h.1 (A 6 0) = some (.inl (5, [.int 0, .int (kc m), .int (kl m), .int (nI (kj m)), .int (nI (kq m)), .int (nI (kr m)), .ref (A 6 1), .ref (A 6 2), .ref (A 6 3), .ref (A 6 4), .ref (A 6 5), .ref (A 6 6), .ref (A 6 7), .ref (A 6 8), .ref (A 6 9), .ref (A 6 10), .ref (A 6 11), .ref (A 6 12), .ref (A 6 13), .ref (A 6 14), .ref (A 6 15), .ref (A 6 16), .ref (A 6 17), .ref (A 6 18), .ref (A 6 19), .ref (A 6 20)])) := (hW.1 6 0 (show 0 < 21 by decide)).1
theorem kW.arr {c : kS} {R : Nat → Option Nat} {m : kS} {A : kA} {h : xm_H} (hW : kW c R m A h) {f : Nat} (hf : f < 20) : h.1 (A 6 (f + 1)) = some (.inr (km_ty f, km_len f, fun j => .int (kF m f j))) := (hW.1 6 (f + 1) (by show f + 1 < 21; omega)).1
