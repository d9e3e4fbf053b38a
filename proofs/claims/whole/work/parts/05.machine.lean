/-! THE MACHINE OF PICTURES: a heap as a partial function from addresses to cells (objects by class number and fields, arrays by type number, length and contents), a frame as pc, locals, stack; a judgement xm_S over it, that says of the real machine what W says, for every caller. Its rows are xr_. -/
abbrev xm_E : Type := (Nat × List Value) ⊕ (Nat × Nat × (Nat → Value))
abbrev xm_H : Type := (Nat → Option xm_E) × Nat × Nat
abbrev xm_F : Type := Nat × List (Option Value) × List Value
/-- the facts by which the tables tell of a field, a class, a method that an instruction names: each is a row of part 03 -/
def xm_okF (o i ci k : Nat) : Prop := ∃ (C : String) (T : u_T) (N : Nat), xt_cl[ci]? = some (C, T, N) ∧ k < N ∧ Cond.fieldLink (xt_nm o) i (T k).1 (T k).2.1 (T k).2.2.1 ∈ xt_ws
def xm_okN (o i ci : Nat) : Prop := ∃ (C : String) (T : u_T) (N : Nat), xt_cl[ci]? = some (C, T, N) ∧ Cond.classLink (xt_nm o) i C ∈ xt_ws
def xm_okA (o i t : Nat) : Prop := ∃ C : String, xt_at[t]? = some (.object C) ∧ Cond.classLink (xt_nm o) i C ∈ xt_ws
def xm_okL (o i : Nat) (v : Int32) : Prop := Cond.constant (xt_nm o) i v ∈ xt_ws
def xm_okO (o i : Nat) : Prop := Cond.methodLink (xt_nm o) i objectInit ∈ xt_ws ∧ Cond.instanceMethod objectInit ∈ xt_ws ∧ Cond.code objectInit ⟨#[0xb1]⟩ 1 none ∈ xt_ws
def xm_okM (z : xm_M) : Prop := plainName (xt_y z).cls = true ∧ (xt_y z).cls = xt_nm (xt_own z) ∧ Cond.code (xt_y z) (xt_code z) (xt_maxL z) (xt_ret z) ∈ xt_ws ∧ Cond.initialized (xt_y z).cls ∈ xt_ws ∧ ((xt_y z).cls ≠ "java/lang/invoke/MethodHandle" ∧ (xt_y z).cls ≠ "java/lang/invoke/VarHandle" ∧ (parseMethodDescriptor (xt_y z).desc).map (fun d => d.parameters.length) = some (xt_np z)) ∧ xt_maxL z + 19 ≤ xt_LM
def xm_okV (o i : Nat) (z : xm_M) : Prop := xm_okM z ∧ Cond.methodLink (xt_nm o) i (xt_y z) ∈ xt_ws ∧ Cond.instanceMethod (xt_y z) ∈ xt_ws ∧ Cond.selects (xt_y z).cls (xt_y z) (xt_y z) ∈ xt_ws ∧ xt_np z + 1 ≤ xt_maxL z ∧ ∃ (T : u_T) (N : Nat), xt_cl[xt_own z]? = some (xt_nm (xt_own z), T, N)
def xm_okS (o i : Nat) (z : xm_M) : Prop := xm_okM z ∧ Cond.methodLink (xt_nm o) i (xt_y z) ∈ xt_ws ∧ Cond.static (xt_y z) ∈ xt_ws ∧ xt_np z ≤ xt_maxL z
def xm_okI (o i : Nat) (z : xm_M) : Prop := xm_okM z ∧ Cond.methodLink (xt_nm o) i (xt_y z) ∈ xt_ws ∧ Cond.instanceMethod (xt_y z) ∈ xt_ws ∧ (xt_y z).name = "<init>" ∧ xt_ret z = none ∧ xt_np z + 1 ≤ xt_maxL z
/-- what stays the same through the whole run: the launch, where the law's own cells begin, the script's address, length and ints, the classes' numbers and slots, the array classes' numbers -/
abbrev xm_G : Type := Launch × Nat × Nat × Nat × (Nat → Int32) × va_G × (Nat → ClassId)
abbrev xm_l (g : xm_G) : Launch := g.1
abbrev xm_N (g : xm_G) : Nat := g.2.1
abbrev xm_b (g : xm_G) : Nat := g.2.2.1
abbrev xm_n (g : xm_G) : Nat := g.2.2.2.1
abbrev xm_x (g : xm_G) : Nat → Int32 := g.2.2.2.2.1
abbrev xm_D (g : xm_G) : va_G := g.2.2.2.2.2.1
abbrev xm_A (g : xm_G) : Nat → ClassId := g.2.2.2.2.2.2
def xm_up (f : Nat → Option xm_E) (a : Nat) (e : xm_E) : Nat → Option xm_E := fun q => if q = a then some e else f q
theorem xm_up_self (f : Nat → Option xm_E) (a : Nat) (e : xm_E) : xm_up f a e a = some e := by simp [xm_up]
theorem xm_up_ne (f : Nat → Option xm_E) {a q : Nat} (e : xm_E) (h : q ≠ a) : xm_up f a e q = f q := by simp [xm_up, h]
/-- a cell of the real heap is as the picture says -/
def xm_at (g : xm_G) (a : Nat) (e : xm_E) (H : Heap) : Prop := match e with
  | .inl o => ∃ r : vw_C, xt_cl[o.1]? = some r ∧ o.2.length = r.2.2 ∧ t_OB a ((xm_D g).1 o.1) r.2.2 ((xm_D g).2 o.1) H (vp_V o.2)
  | .inr x => H[a]? = some (arrV (xm_A g x.1) x.2.1 x.2.2)
theorem xm_at.kept {g : xm_G} {a : Nat} {e : xm_E} {H H1 : Heap} (h : xm_at g a e H) (hq : H1[a]? = H[a]?) : xm_at g a e H1 := by
  cases e with
  | inl o =>
    obtain ⟨r, h1, h2, h3⟩ := h
    exact ⟨r, h1, h2, h3.kept hq⟩
  | inr x => exact hq.trans h
theorem xm_at.lt {g : xm_G} {a : Nat} {e : xm_E} {H : Heap} (h : xm_at g a e H) : a < H.size := by
  cases e with
  | inl o =>
    obtain ⟨r, h1, h2, cell, h3, -⟩ := h
    exact (Array.getElem?_eq_some_iff.mp h3).1
  | inr x => exact (Array.getElem?_eq_some_iff.mp h).1
def xm_R (g : xm_G) (h : xm_H) (U : State) (H : Heap) : Prop :=
  H.size = h.2.1 ∧ xm_N g ≤ H.size ∧ xm_b g < xm_N g ∧ va_X (xm_b g) (xm_n g) (xm_x g) U H ∧
  (∀ (a : Nat) (e : xm_E), h.1 a = some e → xm_N g ≤ a ∧ xm_at g a e H) ∧
  va_K (xm_D g) xt_cl [] U ∧ ∀ (t : Nat) (ty : FieldType), xt_at[t]? = some ty → ArrOfT U (xm_A g t) ty ∧ va_RA U (xm_A g t) ty ∧ ∀ C : String, ty = .object C → va_AO C U
theorem xm_R.moved {g : xm_G} {h : xm_H} {u U : State} {H : Heap} (hvm : u.vm.Alike U.vm) (hX : xm_R g h u H) : xm_R g h U H := by
  obtain ⟨h1, h2, h3, h4, h5, h6, h7⟩ := hX
  exact ⟨h1, h2, h3, h4.moved hvm, h5, h6.moved hvm, fun t ty ht => ⟨arrOfT_moved hvm (h7 t ty ht).1, (h7 t ty ht).2.1.moved hvm, fun C hC => ((h7 t ty ht).2.2 C hC).moved hvm⟩⟩
/-- one cell is written -/
theorem xm_R.set {g : xm_G} {h : xm_H} {U : State} {H H1 : Heap} {a : Nat} {e : xm_E} (hX : xm_R g h U H) (ha : xm_N g ≤ a) (he : xm_at g a e H1) (z : H1.size = H.size) (oq : ∀ q : Nat, q ≠ a → H1[q]? = H[q]?) : xm_R g (xm_up h.1 a e, h.2) U H1 := by
  obtain ⟨h1, h2, h3, h4, h5, h6, h7⟩ := hX
  refine ⟨by rw [z]; exact h1, by rw [z]; exact h2, h3, h4.kept (oq _ (by omega)), fun q e' hq => ?_, h6, h7⟩
  by_cases hqa : q = a
  · subst hqa
    rw [show (xm_up h.1 q e, h.2).1 q = some e from xm_up_self _ _ _] at hq
    cases hq
    exact ⟨ha, he⟩
  · rw [show (xm_up h.1 a e, h.2).1 q = h.1 q from xm_up_ne _ _ hqa] at hq
    obtain ⟨p1, p2⟩ := h5 q e' hq
    exact ⟨p1, p2.kept (oq q hqa)⟩
/-- one cell is made -/
theorem xm_R.push {g : xm_G} {h : xm_H} {U : State} {H H1 : Heap} {e : xm_E} {n : Nat} (hX : xm_R g h U H) (he : xm_at g h.2.1 e H1) (z : H1.size = H.size + 1) (oq : ∀ q : Nat, q < H.size → H1[q]? = H[q]?) : xm_R g (xm_up h.1 h.2.1 e, h.2.1 + 1, h.2.2 + n) U H1 := by
  obtain ⟨h1, h2, h3, h4, h5, h6, h7⟩ := hX
  refine ⟨by rw [z, h1], by rw [z]; omega, h3, h4.kept (oq _ (by omega)), fun q e' hq => ?_, h6, h7⟩
  by_cases hqa : q = h.2.1
  · rw [hqa, show (xm_up h.1 h.2.1 e, h.2.1 + 1, h.2.2 + n).1 h.2.1 = some e from xm_up_self _ _ _] at hq
    cases hq
    rw [hqa]
    exact ⟨by omega, he⟩
  · rw [show (xm_up h.1 h.2.1 e, h.2.1 + 1, h.2.2 + n).1 q = h.1 q from xm_up_ne _ _ hqa] at hq
    obtain ⟨p1, p2⟩ := h5 q e' hq
    exact ⟨p1, p2.kept (oq q p2.lt)⟩
theorem xm_R.obj {g : xm_G} {h : xm_H} {U : State} {H : Heap} {a ci : Nat} {fs : List Value} (hX : xm_R g h U H) (ha : h.1 a = some (.inl (ci, fs))) : xm_N g ≤ a ∧ va_P (xm_D g) xt_cl [(a, .inr (ci, fs))] H ∧ ∃ r : vw_C, xt_cl[ci]? = some r ∧ fs.length = r.2.2 := by
  obtain ⟨p1, r, q1, q2, q3⟩ := hX.2.2.2.2.1 a _ ha
  refine ⟨p1, fun k q hk => ?_, r, q1, q2⟩
  have hz : k < 1 := (List.getElem?_eq_some_iff.mp hk).1
  rw [show k = 0 by omega] at hk
  cases hk
  exact ⟨r, q1, q3⟩
theorem xm_R.arr {g : xm_G} {h : xm_H} {U : State} {H : Heap} {a t n : Nat} {f : Nat → Value} (hX : xm_R g h U H) (ha : h.1 a = some (.inr (t, n, f))) : xm_N g ≤ a ∧ H[a]? = some (arrV (xm_A g t) n f) := hX.2.2.2.2.1 a _ ha
/-- the locals -/
def xm_L (la : Array Slot) (ls : List (Option Value)) : Prop := la.size = ls.length ∧ lv_wf la ∧ ∀ (k : Nat) (v : Value), ls[k]? = some (some v) → la[k]? = some (.val v) ∧ v.category = 1
def xm_al (ls : List (Option Value)) : List (Nat × Value) := (List.range ls.length).filterMap fun k => match ls[k]? with
  | some (some v) => some (k, v)
  | _ => none
theorem xm_al_mem {ls : List (Option Value)} {q : Nat × Value} : q ∈ xm_al ls ↔ ls[q.1]? = some (some q.2) := by
  unfold xm_al
  rw [List.mem_filterMap]
  constructor
  · rintro ⟨k, -, h⟩
    split at h
    next v hv => cases h; exact hv
    next => cases h
  · intro h
    refine ⟨q.1, List.mem_range.mpr (List.getElem?_eq_some_iff.mp h).1, ?_⟩
    rw [h]
theorem xm_L.has {la : Array Slot} {ls : List (Option Value)} (h : xm_L la ls) : lv_has la ls.length (xm_al ls) := ⟨h.1, h.2.1, fun q hq => (h.2.2 q.1 q.2 (xm_al_mem.mp hq)).1⟩
theorem xm_L.of {la : Array Slot} {ls : List (Option Value)} {i : Nat} {v : Value} (h : xm_L la ls) (hc : v.category = 1) {la' : Array Slot} (hi : i < ls.length) (h' : lv_has la' ls.length ((i, v) :: (xm_al ls).filter (fun q => !(q.1 == i) && !(q.1 + 1 == i && q.2.category == 2)))) : xm_L la' (ls.set i (some v)) := by
  refine ⟨by rw [h'.1, List.length_set], h'.2.1, fun k w hk => ?_⟩
  by_cases hki : k = i
  · subst hki
    rw [List.getElem?_set_self hi] at hk
    cases hk
    exact ⟨h'.2.2 (k, v) List.mem_cons_self, hc⟩
  · rw [List.getElem?_set_ne (Ne.symm hki)] at hk
    obtain ⟨-, c1⟩ := h.2.2 k w hk
    refine ⟨h'.2.2 (k, w) (List.mem_cons_of_mem _ (List.mem_filter.mpr ⟨xm_al_mem.mpr hk, ?_⟩)), c1⟩
    simp [hki, c1]
/-- how a method ends -/
def xm_ret (y : xm_M) (I : Jvm.ClassFile.Instr) (st : List Value) (r : Option Value) : Prop :=
  (I = .ireturn ∧ ∃ (v : Int32) (ty : FieldType), st = [.int v] ∧ r = some (.int v) ∧ xt_ret y = some ty ∧ narrow ty (.int v) = .int v) ∨
  (I = .return_ ∧ st = [] ∧ r = none ∧ xt_ret y = none) ∨
  (I = .areturn ∧ ∃ (v : Value) (ty : FieldType), st = [v] ∧ r = some v ∧ xt_ret y = some ty ∧ ((∃ n, ty = .object n) ∨ ∃ t, ty = .array t) ∧ (v = .null ∨ ∃ a, v = .ref a))
def xm_C (p : Program) (s : State) (m : MethodId) (args : Array Value) (meth : Method) (c : Code) (y : xm_M) : Prop :=
  p.tables.exec = Jvm.exec ∧ c.code = xt_code y ∧ meth.sig.returnType = xt_ret y ∧ c.maxLocals = xt_maxL y ∧ s.vm.findClass (xt_nm (xt_own y)) = some m.cls ∧ (∀ w ∈ xt_ws, w.before args s = true) ∧ meth.locks = false ∧ ((xt_y y).name = "<init>" → meth.name = "<init>")
/-- THE JUDGEMENT: method y, d calls deep at most, from the frame f and the picture h, ends with an answer and a picture of which Q holds -/
def xm_S (g : xm_G) (d : Nat) (y : xm_M) (f : xm_F) (h : xm_H) (Q : Option Value → xm_H → Prop) : Prop :=
  ∃ (r : Option Value) (h' : xm_H), Q r h' ∧ h.2.1 ≤ h'.2.1 ∧ h.2.2 ≤ h'.2.2 ∧ f.2.1.length = xt_maxL y ∧
  ∀ (p : Program) (e : Env) (R : Room) (s : State) (m : MethodId) (args : Array Value) (below : List Frame) (meth : Method) (c : Code) (H : Heap) (locs : List Loc) (cells slots : Nat) (Z : State → Prop) (la : Array Slot),
    xm_C p s m args meth c y → (d ≤ R.frames ∧ d * xt_LM ≤ R.locals ∧ cells + (h'.2.1 - h.2.1) ≤ R.cells ∧ slots + (h'.2.2 - h.2.2) ≤ R.slots) →
    xm_R g h s H → va_S (fun q => xm_N g ≤ q) s.heap H locs → xm_L la f.2.1 →
    (∀ (pc' : Nat) (la' : Array Slot) (H' : Heap) (locs' : List Loc) (I : Jvm.ClassFile.Instr) (st' : List Value), decode (xt_code y) pc' = .ok (I, 1) → xm_ret y I st' r → xm_R g h' s H' → va_S (fun q => xm_N g ≤ q) s.heap H' locs' →
      W p (xm_l g) e R s m args below meth c H' locs' (cells + (h'.2.1 - h.2.1)) (slots + (h'.2.2 - h.2.2)) Z (F0 m pc' la' st')) →
    W p (xm_l g) e R s m args below meth c H locs cells slots Z (F0 m f.1 la f.2.2)
theorem xm_S.imp {g : xm_G} {d : Nat} {y : xm_M} {f : xm_F} {h : xm_H} {Q Q' : Option Value → xm_H → Prop} (hS : xm_S g d y f h Q) (hQ : ∀ r h', Q r h' → Q' r h') : xm_S g d y f h Q' := by
  obtain ⟨r, h', hq, k⟩ := hS
  exact ⟨r, h', hQ r h' hq, k⟩
theorem xm_S.up {g : xm_G} {d d' : Nat} {y : xm_M} {f : xm_F} {h : xm_H} {Q : Option Value → xm_H → Prop} (hd : d ≤ d') (hS : xm_S g d y f h Q) : xm_S g d' y f h Q := by
  obtain ⟨r, h', hq, h1, h2, h3, k⟩ := hS
  exact ⟨r, h', hq, h1, h2, h3, fun p e R s m args below meth c H locs cells slots Z la C hR => k p e R s m args below meth c H locs cells slots Z la C ⟨Nat.le_trans hd hR.1, Nat.le_trans (Nat.mul_le_mul_right _ hd) hR.2.1, hR.2.2⟩⟩
/-- an instruction that changes the frame alone, and of the locals nothing -/
theorem xm_pure {g : xm_G} {d pc pc' : Nat} {y : xm_M} {ls : List (Option Value)} {st st' : List Value} {h : xm_H} {Q : Option Value → xm_H → Prop}
    (hw : ∀ (p : Program) (e : Env) (R : Room) (s : State) (m : MethodId) (args : Array Value) (below : List Frame) (meth : Method) (c : Code) (H : Heap) (locs : List Loc) (cells slots : Nat) (Z : State → Prop) (la : Array Slot), xm_C p s m args meth c y → xm_R g h s H → xm_L la ls → W p (xm_l g) e R s m args below meth c H locs cells slots Z (F0 m pc' la st') → W p (xm_l g) e R s m args below meth c H locs cells slots Z (F0 m pc la st))
    (K : xm_S g d y (pc', ls, st') h Q) : xm_S g d y (pc, ls, st) h Q := by
  obtain ⟨r, h', hq, h1, h2, h3, k⟩ := K
  exact ⟨r, h', hq, h1, h2, h3, fun p e R s m args below meth c H locs cells slots Z la C hR hX hS hl kr => hw p e R s m args below meth c H locs cells slots Z la C hX hl (k p e R s m args below meth c H locs cells slots Z la C hR hX hS hl kr)⟩
