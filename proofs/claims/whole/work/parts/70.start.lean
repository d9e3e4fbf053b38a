/-! THE CLAIM OUT OF ONE WALK OF THE LAW'S BODY. Your part is whole_start (and what it stands on); all else here is the same for every law, but numbers. -/
def R_law : String := "JobStatesLaw"
def lw_P (b : Addr) (xs : List Int32) (args : Array Value) (s : State) : Prop := args = #[.ref b] ∧ s.IntsAt b xs ∧ xs.length ≤ 3072 ∧ (Jvm.Cond.and given_1 narrow_1).before args s = true
def lw_Q (_ : Array Value) (s : State) (o : Outcome) (t : State) : Prop := o = .returned (some (.int 1)) ∧ Framed s o t [] 600000 7302250
def lw_Z (below : List Frame) (a : Array Value) (s : State) : State → Prop := fun t => ∃ o, t.status = .running ∧ Ended t below o ∧ lw_Q a s o t
/-- the law's own end, with 1 on the stack, nothing written that was there before, its room as the claim has it -/
theorem lw_ret {p : Program} {l : Launch} {e : Env} {s : State} {m : MethodId} {below : List Frame} {meth : Method} {c : Code} {b : Nat} (hx : p.tables.exec = Jvm.exec) (hb : c.code = code) (hr : meth.sig.returnType = ret) (hlocks : meth.locks = false) {pc : Nat} {H : Heap} {ls : Array Slot} (hdg : decode code pc = .ok (.ireturn, 1)) : W p l e room_1 s m #[Value.ref b] below meth c H [] 600000 7302250 (lw_Z below #[Value.ref b] s) (F0 m pc ls [.int 1]) := by
  intro T hT X
  obtain ⟨fs, hret, hrun, hended, hW, hframe⟩ := X.leave (v := some (.int 1)) (hlocks := hlocks) (fun h => by rw [hr] at h; cases h)
  have hmeth' : T.vm.method? m = some meth := X.method'
  refine ⟨T.setFrames fs, ?_, .returned (some (.int 1)), hrun, hended, rfl, ⟨_, rfl⟩, hW, hframe⟩
  jvm_step X.here [X.here.top, hx, hb, hdg, hmeth', hr, ret, narrow_b1]
  (try refine ⟨rfl, ?_⟩); (try refine ⟨rfl, ?_⟩)
  first | (intro acts; rw [hret _ acts rfl rfl rfl]) | rw [hret _ _ rfl rfl rfl]
  exact Steps.refl _
/-- what holds at the law's entry: the machine, the code, the tables' words (any of lw_tbl by 'hts w (by decide +kernel)'), the script of L ints xs at the cell b, what the Statement gives of the start (any of its parts by flat_of_before) -/
def lw_At (p : Program) (s : State) (m : MethodId) (meth : Method) (c : Code) (b L : Nat) (xs : Nat → Int32) : Prop :=
  p.tables.exec = Jvm.exec ∧ c.code = code ∧ meth.sig.returnType = ret ∧ c.maxLocals = 4 ∧ s.vm.findClass R_law = some m.cls ∧ (∀ w ∈ lw_tbl, w.before #[Value.ref b] s = true) ∧ va_X b L xs s s.heap ∧ b < s.heap.size ∧ meth.locks = false ∧ (Jvm.Cond.and given_1 narrow_1).before #[Value.ref b] s = true
/-- YOUR PART: from the entry, for every script of at most 3072 ints, the law comes to its end with true -/
theorem whole_start {p : Program} {e : Env} {s : State} {m : MethodId} {below : List Frame} {meth : Method} {c : Code} (l : Launch) {b L : Nat} {xs : Nat → Int32} (hL : L ≤ 3072) (C0 : lw_At p s m meth c b L xs) : W p l e room_1 s m #[Value.ref b] below meth c s.heap [] 0 0 (lw_Z below #[Value.ref b] s) (entryFrame m ([Value.ref b] : List Value).toArray 4) := by
  obtain ⟨hx, hb, hr, hml, hown, hts, hX, hbl, hlocks, hgv⟩ := id C0
  have hws : ∀ w ∈ xt_ws, w.before #[Value.ref b] s = true := fun w hw => hts w (List.mem_filter.mp hw).1
  have hk2 : ∀ k : Nat, ∃ r : ClassId × (Nat → Nat), ∀ q : vw_C, xt_cl[k]? = some q → u_Kn s q.1 q.2.1 q.2.2 r.1 r.2 := fun k => by
    cases hq : xt_cl[k]? with
    | none => exact ⟨((0 : Nat), fun _ => 0), fun q h => by cases h⟩
    | some q =>
      obtain ⟨h1, -, -, h4, -⟩ := xt_cl_ok (ci := k) (C := q.1) (T := q.2.1) (N := q.2.2) hq
      obtain ⟨a, f, h⟩ := u_known hws h1 (hws _ h4)
      exact ⟨(a, f), fun q' h' => by cases h'; exact h⟩
  have ha : ∀ t : Nat, ∃ cA : ClassId, ∀ ty : FieldType, xt_at[t]? = some ty → ArrOfT s cA ty ∧ va_RA s cA ty ∧ ∀ C : String, ty = .object C → va_AO C s := fun t => match t with
    | 0 => by
      obtain ⟨c1, k, comp, f1, f2, f3⟩ := Cond.arrayClass_spec (hts (.arrayClass .int) (List.mem_of_getElem? (i := 498) (by decide +kernel)))
      exact ⟨c1, fun ty h => by
        cases h
        exact ⟨fun n z => ⟨fun k h => (by cases h), k, f2, comp, f3⟩, f1, fun C h => by cases h⟩⟩
    | 1 => by
      obtain ⟨c1, k, comp, f1, f2, f3⟩ := Cond.arrayClass_spec (hts (.arrayClass .boolean) (List.mem_of_getElem? (i := 499) (by decide +kernel)))
      exact ⟨c1, fun ty h => by
        cases h
        exact ⟨fun n z => ⟨fun k h => (by cases h), k, f2, comp, f3⟩, f1, fun C h => by cases h⟩⟩
    | 2 => by
      have h0 := hts (.arrayOver (.object "JobStates$Job")) (List.mem_of_getElem? (i := 42) (by decide +kernel))
      obtain ⟨comp, c1, k, f0, -, f2, f3, f1⟩ := Cond.arrayOver_spec h0
      exact ⟨c1, fun ty h => by
        cases h
        exact ⟨fun n z => ⟨fun k h => (by cases h), k, f2, comp, f3⟩, ⟨k, comp, f2, f3, f0, f1⟩, fun C h => by
          cases h
          exact va_AO.of h0⟩⟩
    | 3 => by
      have h0 := hts (.arrayOver (.object "JobStates$Runner")) (List.mem_of_getElem? (i := 44) (by decide +kernel))
      obtain ⟨comp, c1, k, f0, -, f2, f3, f1⟩ := Cond.arrayOver_spec h0
      exact ⟨c1, fun ty h => by
        cases h
        exact ⟨fun n z => ⟨fun k h => (by cases h), k, f2, comp, f3⟩, ⟨k, comp, f2, f3, f0, f1⟩, fun C h => by
          cases h
          exact va_AO.of h0⟩⟩
    | 4 => by
      have h0 := hts (.arrayOver (.object "JobStates$Run")) (List.mem_of_getElem? (i := 46) (by decide +kernel))
      obtain ⟨comp, c1, k, f0, -, f2, f3, f1⟩ := Cond.arrayOver_spec h0
      exact ⟨c1, fun ty h => by
        cases h
        exact ⟨fun n z => ⟨fun k h => (by cases h), k, f2, comp, f3⟩, ⟨k, comp, f2, f3, f0, f1⟩, fun C h => by
          cases h
          exact va_AO.of h0⟩⟩
    | 5 => by
      have h0 := hts (.arrayOver (.object "JobStates$Task")) (List.mem_of_getElem? (i := 184) (by decide +kernel))
      obtain ⟨comp, c1, k, f0, -, f2, f3, f1⟩ := Cond.arrayOver_spec h0
      exact ⟨c1, fun ty h => by
        cases h
        exact ⟨fun n z => ⟨fun k h => (by cases h), k, f2, comp, f3⟩, ⟨k, comp, f2, f3, f0, f1⟩, fun C h => by
          cases h
          exact va_AO.of h0⟩⟩
    | t + 6 => ⟨(0 : Nat), fun ty h => by simp [xt_at] at h⟩
  obtain ⟨G, hG⟩ : ∃ G : xm_G, G = (l, s.heap.size, b, L, xs, ((fun k => (hk2 k).choose.1), (fun k => (hk2 k).choose.2)), (fun t => (ha t).choose)) := ⟨_, rfl⟩
  have hGl : xm_l G = l := by rw [hG]
  have hGN : xm_N G = s.heap.size := by rw [hG]
  have hGb : xm_b G = b := by rw [hG]
  have hGn : xm_n G = L := by rw [hG]
  have hXr : xm_R G ((fun _ => none), s.heap.size, 0) s s.heap := by
    refine ⟨rfl, by rw [hGN]; exact Nat.le_refl _, by rw [hGb, hGN]; exact hbl, by rw [hG]; exact hX, fun a e h => (by cases h), ⟨fun k q hq => ?_, fun k q h => by simp at h⟩, fun t ty ht => ?_⟩
    · rw [hG]; exact (hk2 k).choose_spec q hq
    · rw [hG]; exact (ha t).choose_spec ty ht
  obtain ⟨r, h', ⟨rfl, hb1, hb2⟩, g1, g2, g3, k⟩ := law_all (g := G) (h := ((fun _ => none), s.heap.size, 0)) (by rw [hGn]; exact hL)
  have C : xm_C p s m #[Value.ref b] meth c m_L_law := ⟨hx, hb, hr, hml, hown, hws, hlocks, fun h9 => absurd h9 (by decide)⟩
  rw [lg_entry_eq]
  rw [hGl, hGb] at k
  have hc1 : ∀ v ∈ [Value.ref b], v.category = 1 := fun v hv => by
    rw [List.mem_singleton.mp hv]; rfl
  have n1 : h'.2.1 ≤ s.heap.size + 8000 := hb1
  have n2 : h'.2.2 ≤ 0 + 90000 := hb2
  refine k p e room_1 s m #[Value.ref b] below meth c s.heap [] 0 0 _ _ C ⟨by decide, by decide, ?_, ?_⟩ hXr va_S.rf (xm_L.entry (z := m_L_law) (as := [.ref b]) hc1 (Nat.le_of_ble_eq_true rfl)) ?_
  · show 0 + (h'.2.1 - s.heap.size) ≤ 600000
    omega
  · show 0 + (h'.2.2 - 0) ≤ 7302250
    omega
  intro pc' la' H' locs' I st' hd hret hX' hS'
  refine va_forget (fun q hq => by have z := hS'.2.2 q hq; rw [hGN] at z; exact z) ?_
  refine W.widen (k := 600000) (n := 7302250) (by show 0 + (h'.2.1 - s.heap.size) ≤ 600000; omega) (by show 0 + (h'.2.2 - 0) ≤ 7302250; omega) ?_
  rcases hret with ⟨rfl, v, ty, rfl, hv, -, -⟩ | ⟨-, -, hv, -⟩ | ⟨-, v, ty, -, -, hty, hq, -⟩
  · cases hv
    exact lw_ret hx hb hr hlocks hd
  · cases hv
  · cases hty
    rcases hq with ⟨n, h⟩ | ⟨t, h⟩ <;> cases h
