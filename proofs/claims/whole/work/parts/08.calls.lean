/-! calls: a judgement of the callee is a contract, and a row of the caller -/
def xm_ws (z : xm_M) : List Cond := .code (xt_y z) (xt_code z) (xt_maxL z) (xt_ret z) :: xt_ws
def xm_Qc (g : xm_G) (r : Option Value) (h' : xm_H) : Array Value → State → Outcome → State → Prop := fun _ st o t => (o = .returned r ∧ xm_R g h' t t.heap) ∧ va_F (fun q => xm_N g ≤ q) st t
def xm_entry (z : xm_M) (as : List Value) : xm_F := (0, as.map some ++ List.replicate (xt_maxL z - as.length) none, [])
theorem xm_sl {as : List Value} (h : ∀ v ∈ as, v.category = 1) : lg_sl as = as.map Slot.val := by
  induction as with
  | nil => rfl
  | cons v vs ih =>
    have h1 := h v List.mem_cons_self
    have h2 := ih (fun w hw => h w (List.mem_cons_of_mem _ hw))
    unfold lg_sl at h2 ⊢
    rw [List.flatMap_cons, h2, if_neg (by omega)]
    rfl
theorem xm_L.entry {z : xm_M} {as : List Value} (h : ∀ v ∈ as, v.category = 1) (hn : as.length ≤ xt_maxL z) : xm_L ((lg_sl as ++ List.replicate (xt_maxL z - (lg_sl as).length) Slot.unset).toArray) (xm_entry z as).2.1 := by
  have hs := xm_sl h
  have hl := lv_entry as (n := xt_maxL z) (by rw [hs, List.length_map]; exact hn)
  refine ⟨?_, hl.2.1, fun k v hk => ?_⟩
  · rw [hl.1]
    simp [xm_entry]
    omega
  · have hk2 : (as.map some ++ List.replicate (xt_maxL z - as.length) none)[k]? = some (some v) := hk
    by_cases hka : k < as.length
    · rw [List.getElem?_append_left (by rw [List.length_map]; exact hka), List.getElem?_map] at hk2
      cases hv : as[k]? with
      | none => rw [hv] at hk2; cases hk2
      | some w =>
        rw [hv] at hk2
        cases hk2
        refine ⟨?_, h v (List.mem_of_getElem? hv)⟩
        rw [hs, List.getElem?_toArray, List.getElem?_append_left (by rw [List.length_map]; exact hka), List.getElem?_map, hv]
        rfl
    · rw [List.getElem?_append_right (by rw [List.length_map]; omega)] at hk2
      have := List.eq_of_mem_replicate (List.mem_of_getElem? hk2)
      cases this
theorem xm_met {g : xm_G} {d : Nat} {z : xm_M} {as : List Value} {h h' : xm_H} {r : Option Value} (hz : xm_okM z) (hc : ∀ v ∈ as, v.category = 1) (hn : as.length ≤ xt_maxL z)
    (k : ∀ (p : Program) (e : Env) (R : Room) (s : State) (m : MethodId) (args : Array Value) (below : List Frame) (meth : Method) (c : Code) (H : Heap) (locs : List Loc) (cells slots : Nat) (Z : State → Prop) (la : Array Slot),
    xm_C p s m args meth c z → (d ≤ R.frames ∧ d * xt_LM ≤ R.locals ∧ cells + (h'.2.1 - h.2.1) ≤ R.cells ∧ slots + (h'.2.2 - h.2.2) ≤ R.slots) →
    xm_R g h s H → va_S (fun q => xm_N g ≤ q) s.heap H locs → xm_L la (xm_entry z as).2.1 →
    (∀ (pc' : Nat) (la' : Array Slot) (H' : Heap) (locs' : List Loc) (I : Jvm.ClassFile.Instr) (st' : List Value), decode (xt_code z) pc' = .ok (I, 1) → xm_ret z I st' r → xm_R g h' s H' → va_S (fun q => xm_N g ≤ q) s.heap H' locs' →
      W p (xm_l g) e R s m args below meth c H' locs' (cells + (h'.2.1 - h.2.1)) (slots + (h'.2.2 - h.2.2)) Z (F0 m pc' la' st')) →
    W p (xm_l g) e R s m args below meth c H locs cells slots Z (F0 m (xm_entry z as).1 la (xm_entry z as).2.2)) :
    Met (xm_l g) (xt_y z) (xm_ws z) { frames := d, cells := h'.2.1 - h.2.1, slots := h'.2.2 - h.2.2, locals := d * xt_LM } (va_Pc as fun U => xm_R g h U U.heap) (xm_Qc g r h') (h'.2.1 - h.2.1) (h'.2.2 - h.2.2) (fun q => xm_N g ≤ q) := by
  refine Met.ofW (cc := xt_code z) (maxL := xt_maxL z) (ret := xt_ret z) hz.1 rfl ?_
  intro p e s m args below meth c s₁ B hml hv
  obtain ⟨rfl, hX⟩ := hv
  have hts := atoms_spec (ws := xm_ws z) B.pre
  have hown : s.vm.findClass (xt_y z).cls = some m.cls := findClass_of_methodNamed B.named
  have hnm := (name_of_methodNamed B.named B.method).1
  have hlocks := B.notSynchronized
  rw [hz.2.1] at hown
  have C : xm_C p s m as.toArray meth c z := ⟨B.exec, B.bytes, B.returns, hml, hown, fun w hw => hts w (List.mem_cons_of_mem _ hw), hlocks, fun h9 => hnm.trans h9⟩
  rw [lg_entry_eq]
  refine k p e _ s m _ below meth c s.heap [] 0 0 _ _ C ⟨Nat.le_refl _, Nat.le_refl _, Nat.le_of_eq (Nat.zero_add _), Nat.le_of_eq (Nat.zero_add _)⟩ hX va_S.rf (xm_L.entry hc hn) ?_
  intro pc' la' H' locs' I st' hd hret hX' hS'
  refine W.cs (Nat.zero_add _) (Nat.zero_add _) ?_
  have hq : ∀ t : State, t.heap = H' → s.WarmedH t.vm → xm_Qc g r h' as.toArray s (.returned r) t := fun t ht hW => ⟨⟨rfl, by rw [ht]; exact hX'.moved hW.alike⟩, hS'.F ht⟩
  rcases hret with ⟨rfl, v, ty, rfl, rfl, hty, hnv⟩ | ⟨rfl, rfl, rfl, hty⟩ | ⟨rfl, v, ty, rfl, rfl, hty, hrt, hv⟩
  · exact W.zret (ty := ty) C.1 C.2.1 (C.2.2.1.trans hty) hnv hq hS'.2.2 hd hlocks
  · exact W.vret C.1 C.2.1 (C.2.2.1.trans hty) hq hS'.2.2 hd hlocks
  · exact W.aret C.1 C.2.1 (C.2.2.1.trans hty) hrt hv hq hS'.2.2 hd hlocks
theorem xm_blind {g : xm_G} {h : xm_H} {as : List Value} : FrameBlind (va_Pc as fun U => xm_R g h U U.heap) := fun a U f mk q => ⟨q.1, xm_R.moved (u := U) (U := U.calling f mk a) (Vm.Alike.refl U.vm) q.2⟩
theorem xm_cont {g : xm_G} {p : Program} {e : Env} {R : Room} {s : State} {m : MethodId} {args : Array Value} {below : List Frame} {meth : Method} {c : Code} {H : Heap} {locs : List Loc} {cells slots mc ms : Nat} {Z : State → Prop} {pc : Nat} {la : Array Slot} {st0 rest : List Value} {r : Option Value} {h' : xm_H} {a : Array Value} {H0 : Heap}
    (hr : va_Run p (xm_l g) e R s m args below meth c H locs cells slots mc ms (F0 m pc la st0) rest (xm_Qc g r h' a) (fun q => xm_N g ≤ q)) (hS : va_S (fun q => xm_N g ≤ q) H0 H locs)
    (kk : ∀ (H1 : Heap) (locs1 : List Loc), xm_R g h' s H1 → va_S (fun q => xm_N g ≤ q) H0 H1 locs1 → W p (xm_l g) e R s m args below meth c H1 locs1 (cells + mc) (slots + ms) Z (F0 m (pc + 3) la (r.toList ++ rest))) : W p (xm_l g) e R s m args below meth c H locs cells slots Z (F0 m pc la st0) := by
  intro T hT X
  obtain ⟨v, st₀, t, T', L, h0, X', hL, e1, e2, ⟨⟨hv, hb⟩, hz, hk⟩, st⟩ := hr T hT X
  cases hv
  rw [h0] at hz hk
  have hal : s.vm.Alike t.vm := by rw [← e2]; exact X'.warmed.alike
  obtain ⟨t2, a1, b1⟩ := kk T'.heap (locs ++ L) (by rw [e1]; exact hb.moved hal.symm)
    ⟨Nat.le_trans hS.1 (by rw [e1]; exact hz), fun q h1 h2 => by rw [e1, hk q (Nat.lt_of_lt_of_le h1 hS.1) h2]; exact hS.2.1 q h1 h2, fun q hq => by
      rcases List.mem_append.mp hq with h | h
      · exact hS.2.2 q h
      · exact hL q h⟩ T' rfl X'
  exact ⟨t2, st t2 a1, b1⟩
theorem xm_good (z : xm_M) (hz : xm_okM z) : GoodIn xt_ws (xm_ws z) := fun w hw => by
  rcases List.mem_cons.mp hw with rfl | h
  · exact ⟨hz.2.2.1, xt_good _ hz.2.2.1⟩
  · exact ⟨h, xt_good _ h⟩
theorem xm_roomc {a b c e R : Nat} (h1 : b ≤ c) (h2 : c ≤ e) (hr : a + (e - b) ≤ R) : a + (c - b) ≤ R ∧ a + (c - b) + (e - c) ≤ R ∧ a + (c - b) + (e - c) = a + (e - b) := by omega
theorem xm_rooml {d n k R : Nat} (hk : n + 19 ≤ k) (hr : (d + 1) * k ≤ R) : 8 + (n + 11) + d * k ≤ R := by
  rw [Nat.succ_mul] at hr
  omega
section XCall
variable {g : xm_G} {d pc : Nat} {y : xm_M} {ls : List (Option Value)} {st : List Value} {h : xm_H} {Q Qz : Option Value → xm_H → Prop} {z : xm_M} {i : Nat} {as rest : List Value}
theorem xr_callV {b : Nat} {fs : List Value} (hd : decode (xt_code y) pc = .ok (.invokevirtual i, 3)) (hm : xm_okV (xt_own y) i z) (hst : st = as.reverse ++ .ref b :: rest) (hb : h.1 b = some (.inl (xt_own z, fs))) (hn : as.length = xt_np z) (hc : ∀ v ∈ as, v.category = 1) (hrest : (rest.map fun v => v.category).sum ≤ 8)
    (Cz : xm_S g d z (xm_entry z (.ref b :: as)) h Qz) (K : ∀ (r : Option Value) (h' : xm_H), Qz r h' → xm_S g (d + 1) y (pc + 3, ls, r.toList ++ rest) h' Q) : xm_S g (d + 1) y (pc, ls, st) h Q := by
  obtain ⟨r, h', hq, h1, h2, -, k⟩ := Cz
  obtain ⟨r2, h2', hq2, g1, g2, g3, k2⟩ := K r h' hq
  obtain ⟨hz, hlink, hinst, hsel, hmx, T, N, hcl⟩ := hm
  refine ⟨r2, h2', hq2, Nat.le_trans h1 g1, Nat.le_trans h2 g2, g3, fun p e R s m args below meth c H locs cells slots Z la C hR hX hS hl kr => ?_⟩
  have hts := C.2.2.2.2.2.1
  have hc2 : ∀ v ∈ Value.ref b :: as, v.category = 1 := fun v hv => by
    rcases List.mem_cons.mp hv with rfl | h
    · rfl
    · exact hc v h
  have hM := xm_met (g := g) hz hc2 (by rw [List.length_cons, hn]; exact hmx) k
  obtain ⟨r1, r3, r4⟩ := xm_roomc h1 g1 hR.2.2.1
  obtain ⟨r5, r6, r7⟩ := xm_roomc h2 g2 hR.2.2.2
  have cw : CallW R s args (xt_nm (xt_own y)) (xt_y z).cls i (xt_y z) (xt_code z) (xt_maxL z) (xt_ret z) (xm_ws z) { frames := d, cells := h'.2.1 - h.2.1, slots := h'.2.2 - h.2.2, locals := d * xt_LM } (h'.2.1 - h.2.1) (h'.2.2 - h.2.2) (xt_np z) :=
    ⟨callB_of (xt_np z) hts (xm_good z hz) rfl rfl rfl (hts _ hz.2.2.2.1) (hts _ hlink) hz.2.2.2.2.1 ⟨hR.1, xm_rooml hz.2.2.2.2.2 hR.2.1⟩, hts _ hinst, hts _ hsel⟩
  have hrv : ∃ cellB : Cell, H[b]? = some cellB ∧ cellB.vm.isStatics = false ∧ s.vm.findClass (xt_y z).cls = some cellB.cls := by
    rw [hz.2.1]
    exact va_recv (q := (xt_nm (xt_own z), T, N)) hX.2.2.2.2.2.1 (hX.obj hb).2.1 hcl (q0 := 0) rfl
  refine xm_cont (r := r) (va_runV (As := as) (rest := rest) (b := b) (nL := xt_maxL y) ⟨C.1, C.2.1, C.2.2.2.1, C.2.2.2.2.1, hts⟩ hM cw ⟨xm_blind, hrv, fun U hU hW => ⟨rfl, by show xm_R g h U U.heap; rw [hU]; exact hX.moved hW.alike⟩⟩ rfl hn (by rw [← g3]; exact hl.1) hst (lv_room hrest) hd ⟨r1, r5⟩) hS (fun H1 locs1 hX1 hS1 => ?_)
  exact k2 p e R s m args below meth c H1 locs1 _ _ Z la C ⟨hR.1, hR.2.1, r3, r6⟩ hX1 hS1 hl (fun pc' la' H' locs' I st' a1 a2 a3 a4 => W.cs r4 r7 (kr pc' la' H' locs' I st' a1 a2 a3 a4))
theorem xr_callS (hd : decode (xt_code y) pc = .ok (.invokestatic i, 3)) (hm : xm_okS (xt_own y) i z) (hst : st = as.reverse ++ rest) (hn : as.length = xt_np z) (hc : ∀ v ∈ as, v.category = 1) (hrest : (rest.map fun v => v.category).sum ≤ 8)
    (Cz : xm_S g d z (xm_entry z as) h Qz) (K : ∀ (r : Option Value) (h' : xm_H), Qz r h' → xm_S g (d + 1) y (pc + 3, ls, r.toList ++ rest) h' Q) : xm_S g (d + 1) y (pc, ls, st) h Q := by
  obtain ⟨r, h', hq, h1, h2, -, k⟩ := Cz
  obtain ⟨r2, h2', hq2, g1, g2, g3, k2⟩ := K r h' hq
  obtain ⟨hz, hlink, hstc, hmx⟩ := hm
  refine ⟨r2, h2', hq2, Nat.le_trans h1 g1, Nat.le_trans h2 g2, g3, fun p e R s m args below meth c H locs cells slots Z la C hR hX hS hl kr => ?_⟩
  have hts := C.2.2.2.2.2.1
  have hM := xm_met (g := g) hz hc (by rw [hn]; exact hmx) k
  obtain ⟨r1, r3, r4⟩ := xm_roomc h1 g1 hR.2.2.1
  obtain ⟨r5, r6, r7⟩ := xm_roomc h2 g2 hR.2.2.2
  have cw : CallB R s args (xt_nm (xt_own y)) i (xt_y z) (xt_code z) (xt_maxL z) (xt_ret z) (xm_ws z) { frames := d, cells := h'.2.1 - h.2.1, slots := h'.2.2 - h.2.2, locals := d * xt_LM } (h'.2.1 - h.2.1) (h'.2.2 - h.2.2) (xt_np z) ∧ (Cond.static (xt_y z)).before args s = true :=
    ⟨callB_of (xt_np z) hts (xm_good z hz) rfl rfl rfl (hts _ hz.2.2.2.1) (hts _ hlink) hz.2.2.2.2.1 ⟨hR.1, xm_rooml hz.2.2.2.2.2 hR.2.1⟩, hts _ hstc⟩
  refine xm_cont (r := r) (va_runS (As := as) (rest := rest) (nL := xt_maxL y) ⟨C.1, C.2.1, C.2.2.2.1, C.2.2.2.2.1, hts⟩ hM cw ⟨xm_blind, fun U hU hW => ⟨rfl, by show xm_R g h U U.heap; rw [hU]; exact hX.moved hW.alike⟩⟩ rfl hn (by rw [← g3]; exact hl.1) hst (lv_room hrest) hd ⟨r1, r5⟩) hS (fun H1 locs1 hX1 hS1 => ?_)
  exact k2 p e R s m args below meth c H1 locs1 _ _ Z la C ⟨hR.1, hR.2.1, r3, r6⟩ hX1 hS1 hl (fun pc' la' H' locs' I st' a1 a2 a3 a4 => W.cs r4 r7 (kr pc' la' H' locs' I st' a1 a2 a3 a4))
theorem xr_callI {b : Nat} (hd : decode (xt_code y) pc = .ok (.invokespecial i, 3)) (hm : xm_okI (xt_own y) i z) (hst : st = as.reverse ++ .ref b :: rest) (hn : as.length = xt_np z) (hc : ∀ v ∈ as, v.category = 1) (hrest : (rest.map fun v => v.category).sum ≤ 8)
    (Cz : xm_S g d z (xm_entry z (.ref b :: as)) h Qz) (K : ∀ (r : Option Value) (h' : xm_H), Qz r h' → xm_S g (d + 1) y (pc + 3, ls, r.toList ++ rest) h' Q) : xm_S g (d + 1) y (pc, ls, st) h Q := by
  obtain ⟨r, h', hq, h1, h2, -, k⟩ := Cz
  obtain ⟨r2, h2', hq2, g1, g2, g3, k2⟩ := K r h' hq
  obtain ⟨hz, hlink, hinst, hname, hret, hmx⟩ := hm
  refine ⟨r2, h2', hq2, Nat.le_trans h1 g1, Nat.le_trans h2 g2, g3, fun p e R s m args below meth c H locs cells slots Z la C hR hX hS hl kr => ?_⟩
  have hts := C.2.2.2.2.2.1
  have hc2 : ∀ v ∈ Value.ref b :: as, v.category = 1 := fun v hv => by
    rcases List.mem_cons.mp hv with rfl | h
    · rfl
    · exact hc v h
  have hM := xm_met (g := g) hz hc2 (by rw [List.length_cons, hn]; exact hmx) k
  obtain ⟨r1, r3, r4⟩ := xm_roomc h1 g1 hR.2.2.1
  obtain ⟨r5, r6, r7⟩ := xm_roomc h2 g2 hR.2.2.2
  have cw : CallB R s args (xt_nm (xt_own y)) i (xt_y z) (xt_code z) (xt_maxL z) none (xm_ws z) { frames := d, cells := h'.2.1 - h.2.1, slots := h'.2.2 - h.2.2, locals := d * xt_LM } (h'.2.1 - h.2.1) (h'.2.2 - h.2.2) (xt_np z) ∧ (xt_y z).name = "<init>" ∧ (Cond.instanceMethod (xt_y z)).before args s = true :=
    ⟨callB_of (xt_np z) hts (xm_good z hz) (by unfold xm_ws; rw [hret]) rfl rfl (hts _ hz.2.2.2.1) (hts _ hlink) hz.2.2.2.2.1 ⟨hR.1, xm_rooml hz.2.2.2.2.2 hR.2.1⟩, hname, hts _ hinst⟩
  refine xm_cont (r := r) (va_runI (As := as) (rest := rest) (b := b) (nL := xt_maxL y) ⟨C.1, C.2.1, C.2.2.2.1, C.2.2.2.2.1, hts⟩ hM cw ⟨xm_blind, fun U hU hW => ⟨rfl, by show xm_R g h U U.heap; rw [hU]; exact hX.moved hW.alike⟩⟩ rfl hn (by rw [← g3]; exact hl.1) hst (lv_room hrest) hd ⟨r1, r5⟩) hS (fun H1 locs1 hX1 hS1 => ?_)
  exact k2 p e R s m args below meth c H1 locs1 _ _ Z la C ⟨hR.1, hR.2.1, r3, r6⟩ hX1 hS1 hl (fun pc' la' H' locs' I st' a1 a2 a3 a4 => W.cs r4 r7 (kr pc' la' H' locs' I st' a1 a2 a3 a4))
/-- Object's constructor -/
theorem xr_objInit {a : Nat} (hd : decode (xt_code y) pc = .ok (.invokespecial i, 3)) (hm : xm_okO (xt_own y) i) (hrest : (rest.map fun v => v.category).sum ≤ 8) (K : xm_S g (d + 1) y (pc + 3, ls, rest) h Q) : xm_S g (d + 1) y (pc, ls, .ref a :: rest) h Q := by
  obtain ⟨r2, h2', hq2, g1, g2, g3, k2⟩ := K
  obtain ⟨w1, w2, w3⟩ := hm
  refine ⟨r2, h2', hq2, g1, g2, g3, fun p e R s m args below meth c H locs cells slots Z la C hR hX hS hl kr => ?_⟩
  have hts := C.2.2.2.2.2.1
  refine W.objInit C.1 C.2.1 C.2.2.2.2.1 (hts _ w1) (hts _ w2) (hts _ w3) rfl (by rw [C.2.2.2.1, ← g3]; exact hl.1) rfl hd (Nat.le_trans (Nat.le_add_left 1 d) hR.1) ?_ ?_
  · have h0 := hR.2.1
    rw [Nat.succ_mul] at h0
    have h1 : 20 ≤ xt_LM := by decide
    show 2 * 0 + _ + 12 ≤ _
    omega
  · exact k2 p e R s m args below meth c H locs cells slots Z la C hR hX hS hl kr
end XCall
