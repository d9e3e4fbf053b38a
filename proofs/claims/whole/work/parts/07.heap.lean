/-! rows of the heap: fields, arrays, new cells -/
section XHeap
variable {g : xm_G} {d pc : Nat} {y : xm_M} {ls : List (Option Value)} {st : List Value} {h : xm_H} {Q : Option Value → xm_H → Prop}
theorem xr_getf {i ci k a : Nat} {fs : List Value} {v : Value} (hd : decode (xt_code y) pc = .ok (.getfield i, 3)) (hf : xm_okF (xt_own y) i ci k) (ha : h.1 a = some (.inl (ci, fs))) (hv : fs[k]? = some v) (K : xm_S g d y (pc + 3, ls, v :: st) h Q) : xm_S g d y (pc, ls, .ref a :: st) h Q := by
  obtain ⟨Cn, T, N, hc, hk, hlink⟩ := hf
  exact xm_pure (fun _ _ _ _ _ _ _ _ _ _ _ _ _ _ _ C hX hl kk => va_get (ref := (T k).1) C.1 C.2.1 C.2.2.2.2.2.1 (xt_cl_ok hc).1 C.2.2.2.2.1 hX.2.2.2.2.2.1 (hX.obj ha).2.1 0 rfl hc k hk (C.2.2.2.2.2.1 _ hlink) (fun _ h9 => h9) hv hd kk) K
theorem xr_putf {i ci k a : Nat} {fs : List Value} {v : Value} (hd : decode (xt_code y) pc = .ok (.putfield i, 3)) (hf : xm_okF (xt_own y) i ci k) (ha : h.1 a = some (.inl (ci, fs))) (hfin : xt_fin ci k = false) (hn : narrow (xt_ty ci k) v = v) (hfit : fits (xt_ty ci k) v = true) (K : xm_S g d y (pc + 3, ls, st) (xm_up h.1 a (.inl (ci, fs.set k v)), h.2) Q) : xm_S g d y (pc, ls, v :: .ref a :: st) h Q := by
  obtain ⟨r, h', hq, h1, h2, h3, kk⟩ := K
  refine ⟨r, h', hq, h1, h2, h3, fun p e R s m args below meth c H locs cells slots Z la C hR hX hS hl kr => ?_⟩
  obtain ⟨Cn, T, N, hc, hk, hlink⟩ := hf
  obtain ⟨hin, hty, hnm, -⟩ := xt_cl_ok hc
  obtain ⟨hN, hP, r0, hr0, hlen⟩ := hX.obj ha
  have hr1 : r0 = (Cn, T, N) := Option.some.inj (hr0.symm.trans hc)
  subst hr1
  have hfin' : (T k).2.2.2 = false := by
    have e := hfin
    unfold xt_fin at e
    rw [hc] at e
    exact e
  have hts := C.2.2.2.2.2.1
  have hK := hX.2.2.2.2.2.1
  have hap := va_apart (own := xt_nm (xt_own y)) hts hin (xt_ty ci) hty hnm hK hc
  obtain ⟨r', h1', cell, q1, q2, q3, q4⟩ := hP 0 _ rfl
  have hr : r' = (Cn, T, N) := Option.some.inj (h1'.symm.trans hc)
  subst hr
  obtain ⟨hSl, hfc, kC, hkC, hkind⟩ := hK.1 ci _ hc
  obtain ⟨cf, kf, fi, f, hi, hsl⟩ := hSl k hk
  have hlay := hts _ (hin _ (u_in_lay hk))
  unfold u_lay at hlay
  rw [if_neg (by rw [hfin']; decide)] at hlay
  have hst := (u_facts hfc hkC (u_lays hts hin hk) hi).1
  have h6 := u_store hfc hkC hkind hlay hi (hty k hk) hn hfit
  refine W.putK C.1 C.2.1 (f := f) ⟨C.2.2.2.2.1, hts _ hlink, ⟨_, _, _, hi⟩, hst⟩ (by rw [q2]; exact h6) q1 q3 (by rw [hsl]; exact k2_hasslot (q4 k hk)) rfl rfl hd fun H' e1 e2 e3 => ?_
  rw [hsl] at e1 ⊢
  have hat : xm_at g a (.inl (ci, fs.set k v)) H' := ⟨_, hc, by rw [List.length_set]; exact hlen, t_OB.to (V := updV (vp_V fs) k v) ⟨_, e1, q2, q3, t_set q4 hap hk v⟩ (fun j _ => vp_updV_set (by rw [hlen]; exact hk) v j)⟩
  exact kk p e R s m args below meth c H' _ cells slots Z la C hR (hX.set hN hat e2 e3) (hS.put e2 e3 hN) hl kr
theorem xr_putF {i ci k a : Nat} {fs : List Value} {v : Value} (hd : decode (xt_code y) pc = .ok (.putfield i, 3)) (hf : xm_okF (xt_own y) i ci k) (ha : h.1 a = some (.inl (ci, fs))) (hfin : xt_fin ci k = true) (hdec : xt_dec ci k = xt_nm (xt_own y)) (hini : (xt_y y).name = "<init>") (hn : narrow (xt_ty ci k) v = v) (hfit : fits (xt_ty ci k) v = true) (K : xm_S g d y (pc + 3, ls, st) (xm_up h.1 a (.inl (ci, fs.set k v)), h.2) Q) : xm_S g d y (pc, ls, v :: .ref a :: st) h Q := by
  obtain ⟨r, h', hq, h1, h2, h3, kk⟩ := K
  refine ⟨r, h', hq, h1, h2, h3, fun p e R s m args below meth c H locs cells slots Z la C hR hX hS hl kr => ?_⟩
  obtain ⟨Cn, T, N, hc, hk, hlink⟩ := hf
  obtain ⟨hin, hty, hnm, -⟩ := xt_cl_ok hc
  obtain ⟨hN, hP, r0, hr0, hlen⟩ := hX.obj ha
  have hr1 : r0 = (Cn, T, N) := Option.some.inj (hr0.symm.trans hc)
  subst hr1
  have hfin' : (T k).2.2.2 = true := by
    have e := hfin
    unfold xt_fin at e
    rw [hc] at e
    exact e
  have hdecl : (T k).1 = xt_nm (xt_own y) := by
    have e := hdec
    unfold xt_dec at e
    rw [hc] at e
    exact e
  have hts := C.2.2.2.2.2.1
  have hown := C.2.2.2.2.1
  have hK := hX.2.2.2.2.2.1
  have hap := va_apart (own := xt_nm (xt_own y)) hts hin (xt_ty ci) hty hnm hK hc
  obtain ⟨r', h1', cell, q1, q2, q3, q4⟩ := hP 0 _ rfl
  have hr : r' = (Cn, T, N) := Option.some.inj (h1'.symm.trans hc)
  subst hr
  obtain ⟨hSl, hfc, kC, hkC, hkind⟩ := hK.1 ci _ hc
  obtain ⟨cf, kf, fi, f, hi, hsl⟩ := hSl k hk
  have hlay := hts _ (hin _ (u_in_lay hk))
  unfold u_lay at hlay
  rw [if_pos hfin'] at hlay
  have hst := (u_facts hfc hkC (u_lays hts hin hk) hi).1
  have hcf : m.cls = cf := by
    obtain ⟨_, _, c', _, _, _, -, -, hf', -, -, -, hown2, -⟩ := Cond.laysFinal_spec hlay
    have e1 : c' = cf := by have := hi.symm.trans hf'; simp at this; exact this.1.symm
    rw [hdecl] at hown2
    rw [← e1]; exact Option.some.inj (hown.symm.trans hown2)
  have h6 := u_fits hfc hkC hkind (Or.inr hlay) hi (hty k hk) hn hfit
  refine W.putFinK C.1 C.2.1 hown (hts _ hlink) hi hst hcf (C.2.2.2.2.2.2.2 hini) (by rw [q2]; exact h6) q1 q3 (by rw [hsl]; exact k2_hasslot (q4 k hk)) rfl rfl hd fun H' e1 e2 e3 => ?_
  rw [hsl] at e1 ⊢
  have hat : xm_at g a (.inl (ci, fs.set k v)) H' := ⟨_, hc, by rw [List.length_set]; exact hlen, t_OB.to (V := updV (vp_V fs) k v) ⟨_, e1, q2, q3, t_set q4 hap hk v⟩ (fun j _ => vp_updV_set (by rw [hlen]; exact hk) v j)⟩
  exact kk p e R s m args below meth c H' _ cells slots Z la C hR (hX.set hN hat e2 e3) (hS.put e2 e3 hN) hl kr
theorem xm_room1 {a b c d e f : Nat} (h : b + 1 ≤ c) (hr : a + (c - b) ≤ d) : a + 1 ≤ d ∧ a + 1 + (c - (b + 1)) ≤ d ∧ a + 1 + (c - (b + 1)) = a + (c - b) := by omega
theorem xm_roomn {a b c d n : Nat} (h : b + n ≤ c) (hr : a + (c - b) ≤ d) : a + n ≤ d ∧ a + n + (c - (b + n)) ≤ d ∧ a + n + (c - (b + n)) = a + (c - b) := by omega
theorem va_S.made {A : Nat → Prop} {H0 H H1 : Heap} {locs : List Loc} (h : va_S A H0 H locs) (z : H1.size = H.size + 1) (oq : ∀ q : Nat, q < H.size → H1[q]? = H[q]?) : va_S A H0 H1 locs :=
  ⟨Nat.le_trans h.1 (by omega), fun x h1 h2 => (oq x (Nat.lt_of_lt_of_le h1 h.1)).trans (h.2.1 x h1 h2), h.2.2⟩
theorem xr_new {i ci : Nat} {fs : List Value} {N : Nat} (hd : decode (xt_code y) pc = .ok (.new i, 3)) (hn : xm_okN (xt_own y) i ci) (hfs : xt_dflt ci = fs) (hN : fs.length = N) (K : xm_S g d y (pc + 3, ls, .ref h.2.1 :: st) (xm_up h.1 h.2.1 (.inl (ci, fs)), h.2.1 + 1, h.2.2 + N) Q) : xm_S g d y (pc, ls, st) h Q := by
  obtain ⟨r, h', hq, h1, h2, h3, kk⟩ := K
  refine ⟨r, h', hq, Nat.le_trans (Nat.le_succ _) h1, Nat.le_trans (Nat.le_add_right _ _) h2, h3, fun p e R s m args below meth c H locs cells slots Z la C hR hX hS hl kr => ?_⟩
  obtain ⟨Cn, T, N', hc, hlink⟩ := hn
  obtain ⟨hin, hty, hnm, hinst, hini⟩ := xt_cl_ok hc
  have hts := C.2.2.2.2.2.1
  have hKn := hX.2.2.2.2.2.1.1 ci _ hc
  have hd0 : xt_dflt ci = (List.range N').map (fun k => defaultValue (xt_ty ci k)) := by
    unfold xt_dflt
    rw [hc]
  have hN' : N' = N := by rw [← hN, ← hfs, hd0]; simp
  subst hN'
  obtain ⟨r1, r2, r3⟩ := xm_roomn (n := 1) h1 hR.2.2.1
  obtain ⟨r4, r5, r6⟩ := xm_roomn (n := N') h2 hR.2.2.2
  refine W.newcK C.1 C.2.1 C.2.2.2.2.1 (hts _ hlink) (hts _ hinst) (hts _ hini) rfl hd r1 r4 hKn.2.1 hX.1 fun H1 kC hkC e1 z1 o1 => ?_
  have hz : H1.size = H.size + 1 := by rw [z1, hX.1]
  have hat : xm_at g h.2.1 (.inl (ci, fs)) H1 := by
    refine ⟨_, hc, hN, (u_born (xt_ty ci) hts hin hKn hkC e1 hty).to (fun j hj => ?_)⟩
    rw [← hfs, hd0]
    simp [vp_V, hj]
  exact kk p e R s m args below meth c H1 locs (cells + 1) (slots + N') Z la C ⟨hR.1, hR.2.1, r2, r5⟩ (hX.push hat hz (fun q hq => o1 q (by rw [← hX.1]; exact hq))) (hS.made hz (fun q hq => o1 q (by rw [← hX.1]; exact hq))) hl (fun pc' la' H' locs' I st' a1 a2 a3 a4 => W.cs r3 r6 (kr pc' la' H' locs' I st' a1 a2 a3 a4))
theorem xr_anew {i t : Nat} {n : Int32} {N : Nat} (hd : decode (xt_code y) pc = .ok (.anewarray i, 3)) (hn : xm_okA (xt_own y) i t) (h0 : ¬ n < 0) (hN : n.toNatClampNeg = N) (hb : N * 4 ≤ 536870912) (K : xm_S g d y (pc + 3, ls, .ref h.2.1 :: st) (xm_up h.1 h.2.1 (.inr (t, N, fun _ => .null)), h.2.1 + 1, h.2.2 + N) Q) : xm_S g d y (pc, ls, .int n :: st) h Q := by
  obtain ⟨r, h', hq, h1, h2, h3, kk⟩ := K
  refine ⟨r, h', hq, Nat.le_trans (Nat.le_succ _) h1, Nat.le_trans (Nat.le_add_right _ _) h2, h3, fun p e R s m args below meth c H locs cells slots Z la C hR hX hS hl kr => ?_⟩
  obtain ⟨Cn, hc, hlink⟩ := hn
  have hts := C.2.2.2.2.2.1
  obtain ⟨k1, k2, k3⟩ := hX.2.2.2.2.2.2 t _ hc
  subst hN
  obtain ⟨r1, r2, r3⟩ := xm_roomn (n := 1) h1 hR.2.2.1
  obtain ⟨r4, r5, r6⟩ := xm_roomn (n := n.toNatClampNeg) h2 hR.2.2.2
  refine W.anew C.1 C.2.1 C.2.2.2.2.1 (hts _ hlink) (va_AO.use (k3 Cn rfl)) rfl hd rfl h0 hb r1 r4 fun cA kA comp f1 f2 f3 f4 => ?_
  have hcA : cA = xm_A g t := by
    obtain ⟨kA', comp', -, -, -, f5⟩ := k2
    exact Option.some.inj (f1.symm.trans f5)
  subst hcA
  generalize hH1 : H.push ({ cls := xm_A g t, slots := Array.replicate n.toNatClampNeg .null, vm := .none } : Cell) = H1
  have hz : H1.size = H.size + 1 := by rw [← hH1, Array.size_push]
  have o1 : ∀ q : Nat, q < H.size → H1[q]? = H[q]? := fun q hq => by rw [← hH1, Array.getElem?_push, if_neg (Nat.ne_of_lt hq)]
  have hat : xm_at g h.2.1 (.inr (t, n.toNatClampNeg, fun _ => .null)) H1 := by
    show H1[h.2.1]? = _
    rw [← hX.1, ← hH1, Array.getElem?_push_size, ← arrV_new]
  rw [hX.1]
  exact kk p e R s m args below meth c H1 locs (cells + 1) (slots + n.toNatClampNeg) Z la C ⟨hR.1, hR.2.1, r2, r5⟩ (hX.push hat hz o1) (hS.made hz o1) hl (fun pc' la' H' locs' I st' a1 a2 a3 a4 => W.cs r3 r6 (kr pc' la' H' locs' I st' a1 a2 a3 a4))
theorem xr_newarr {atype : Jvm.ClassFile.ArrayType} {t : Nat} {n : Int32} {N : Nat} {dv : Value} (hd : decode (xt_code y) pc = .ok (.newarray atype, 2)) (ht : xt_at[t]? = some (newarray.typeOf atype)) (hw : Cond.arrayClass (newarray.typeOf atype) ∈ xt_ws) (hdv : defaultValue (newarray.typeOf atype) = dv) (h0 : ¬ n < 0) (hN : n.toNatClampNeg = N) (hb : N * componentBytes (newarray.typeOf atype) ≤ 536870912) (K : xm_S g d y (pc + 2, ls, .ref h.2.1 :: st) (xm_up h.1 h.2.1 (.inr (t, N, fun _ => dv)), h.2.1 + 1, h.2.2 + N) Q) : xm_S g d y (pc, ls, .int n :: st) h Q := by
  obtain ⟨r, h', hq, h1, h2, h3, kk⟩ := K
  refine ⟨r, h', hq, Nat.le_trans (Nat.le_succ _) h1, Nat.le_trans (Nat.le_add_right _ _) h2, h3, fun p e R s m args below meth c H locs cells slots Z la C hR hX hS hl kr => ?_⟩
  have hts := C.2.2.2.2.2.1
  obtain ⟨k1, k2, k3⟩ := hX.2.2.2.2.2.2 t _ ht
  subst hN
  subst hdv
  obtain ⟨r1, r2, r3⟩ := xm_roomn (n := 1) h1 hR.2.2.1
  obtain ⟨r4, r5, r6⟩ := xm_roomn (n := n.toNatClampNeg) h2 hR.2.2.2
  refine va_newaK C.1 C.2.1 (hts _ hw) rfl hd rfl h0 rfl hb r1 r4 hX.1 fun H1 cA e1 z1 o1 hAr f1 => ?_
  have hcA : cA = xm_A g t := by
    have f5 : s.vm.findClass ("[" ++ (newarray.typeOf atype).toString) = some (xm_A g t) := by
      cases atype <;> exact k2
    exact Option.some.inj (f1.symm.trans f5)
  subst hcA
  have hz : H1.size = H.size + 1 := by rw [z1, hX.1]
  have o2 : ∀ q : Nat, q < H.size → H1[q]? = H[q]? := fun q hq => o1 q (by rw [← hX.1]; exact hq)
  have hat : xm_at g h.2.1 (.inr (t, n.toNatClampNeg, fun _ => defaultValue (newarray.typeOf atype))) H1 := e1
  exact kk p e R s m args below meth c H1 locs (cells + 1) (slots + n.toNatClampNeg) Z la C ⟨hR.1, hR.2.1, r2, r5⟩ (hX.push hat hz o2) (hS.made hz o2) hl (fun pc' la' H' locs' I st' a1 a2 a3 a4 => W.cs r3 r6 (kr pc' la' H' locs' I st' a1 a2 a3 a4))
theorem xr_alen {a t n : Nat} {f : Nat → Value} {ty : FieldType} (hd : decode (xt_code y) pc = .ok (.arraylength, 1)) (ha : h.1 a = some (.inr (t, n, f))) (ht : xt_at[t]? = some ty) (K : xm_S g d y (pc + 1, ls, .int (nI n) :: st) h Q) : xm_S g d y (pc, ls, .ref a :: st) h Q :=
  xm_pure (fun _ _ _ _ _ _ _ _ _ _ _ _ _ _ _ C hX hl kk => W.alen (n := nI n) C.1 C.2.1 (hX.arr ha).2 ((hX.2.2.2.2.2.2 t _ ht).1 n f) (by rw [arrV_size]; rfl) rfl rfl hd kk) K
theorem xr_slen (hd : decode (xt_code y) pc = .ok (.arraylength, 1)) (K : xm_S g d y (pc + 1, ls, .int (nI (xm_n g)) :: st) h Q) : xm_S g d y (pc, ls, .ref (xm_b g) :: st) h Q :=
  xm_pure (fun _ _ _ _ _ _ _ _ _ _ _ _ _ _ _ C hX hl kk => by
    obtain ⟨scr, e1, e2, e3, e4, e5⟩ := hX.2.2.2.1
    exact W.alen (n := nI (xm_n g)) C.1 C.2.1 e1 e2 (by rw [e4]; rfl) rfl rfl hd kk) K
theorem xr_sld {i : Int32} (hd : decode (xt_code y) pc = .ok (.iaload, 1)) (hi : vp_in i (xm_n g)) (K : xm_S g d y (pc + 1, ls, .int (xm_x g i.toNatClampNeg) :: st) h Q) : xm_S g d y (pc, ls, .int i :: .ref (xm_b g) :: st) h Q :=
  xm_pure (fun _ _ _ _ _ _ _ _ _ _ _ _ _ _ _ C hX hl kk => by
    obtain ⟨scr, e1, e2, e3, e4, e5⟩ := hX.2.2.2.1
    exact W.iald (v := .int (xm_x g i.toNatClampNeg)) C.1 C.2.1 e1 e2 e3 (by rw [e4]; exact hi) (e5 _ (Nat.not_le.mp fun q => hi (Or.inr q))) rfl rfl hd kk) K
theorem xr_iald {a t n : Nat} {f : Nat → Value} {i : Int32} {v : Value} (hd : decode (xt_code y) pc = .ok (.iaload, 1)) (ha : h.1 a = some (.inr (t, n, f))) (ht : xt_at[t]? = some .int) (hi : vp_in i n) (hv : f i.toNatClampNeg = v) (K : xm_S g d y (pc + 1, ls, v :: st) h Q) : xm_S g d y (pc, ls, .int i :: .ref a :: st) h Q :=
  xm_pure (fun _ _ _ _ _ _ _ _ _ _ _ _ _ _ _ C hX hl kk => W.iald (v := v) C.1 C.2.1 (hX.arr ha).2 ((hX.2.2.2.2.2.2 t _ ht).1 n f) (fun q => by cases q) (by rw [arrV_size]; exact hi) (by rw [arrV_read _ _ (Nat.not_le.mp fun q => hi (Or.inr q)), hv]) rfl rfl hd kk) K
theorem xr_zald {a t n : Nat} {f : Nat → Value} {i : Int32} {v : Value} (hd : decode (xt_code y) pc = .ok (.baload, 1)) (ha : h.1 a = some (.inr (t, n, f))) (ht : xt_at[t]? = some .boolean) (hi : vp_in i n) (hv : f i.toNatClampNeg = v) (K : xm_S g d y (pc + 1, ls, v :: st) h Q) : xm_S g d y (pc, ls, .int i :: .ref a :: st) h Q :=
  xm_pure (fun _ _ _ _ _ _ _ _ _ _ _ _ _ _ _ C hX hl kk => W.zald (v := v) C.1 C.2.1 (hX.arr ha).2 ((hX.2.2.2.2.2.2 t _ ht).1 n f) (fun q => by cases q) (by rw [arrV_size]; exact hi) (by rw [arrV_read _ _ (Nat.not_le.mp fun q => hi (Or.inr q)), hv]) rfl rfl hd kk) K
theorem xr_aald {a t n : Nat} {f : Nat → Value} {i : Int32} {v : Value} {ty : FieldType} (hd : decode (xt_code y) pc = .ok (.aaload, 1)) (ha : h.1 a = some (.inr (t, n, f))) (ht : xt_at[t]? = some ty) (hr : ty.isReference = true) (hi : vp_in i n) (hv : f i.toNatClampNeg = v) (K : xm_S g d y (pc + 1, ls, v :: st) h Q) : xm_S g d y (pc, ls, .int i :: .ref a :: st) h Q :=
  xm_pure (fun _ _ _ _ _ _ _ _ _ _ _ _ _ _ _ C hX hl kk => W.aald (v := v) (ty := ty) C.1 C.2.1 (hX.arr ha).2 ((hX.2.2.2.2.2.2 t _ ht).1 n f) hr (fun q => by cases q) (by rw [arrV_size]; exact hi) (by rw [arrV_read _ _ (Nat.not_le.mp fun q => hi (Or.inr q)), hv]) rfl rfl hd kk) K
theorem xr_iast {a t n : Nat} {f : Nat → Value} {i x : Int32} (hd : decode (xt_code y) pc = .ok (.iastore, 1)) (ha : h.1 a = some (.inr (t, n, f))) (ht : xt_at[t]? = some .int) (hi : vp_in i n) (K : xm_S g d y (pc + 1, ls, st) (xm_up h.1 a (.inr (t, n, updV f i.toNatClampNeg (.int x))), h.2) Q) : xm_S g d y (pc, ls, .int x :: .int i :: .ref a :: st) h Q := by
  obtain ⟨r, h', hq, h1, h2, h3, kk⟩ := K
  refine ⟨r, h', hq, h1, h2, h3, fun p e R s m args below meth c H locs cells slots Z la C hR hX hS hl kr => ?_⟩
  obtain ⟨hN, hc⟩ := hX.arr ha
  refine W.iast C.1 C.2.1 hc ((hX.2.2.2.2.2.2 t _ ht).1 n f) (fun q => by cases q) (by rw [arrV_size]; exact hi) rfl rfl hd fun H' e1 e2 e3 => ?_
  have hat : xm_at g a (.inr (t, n, updV f i.toNatClampNeg (.int x))) H' := by rw [arrV_store] at e1; exact e1
  exact kk p e R s m args below meth c H' _ cells slots Z la C hR (hX.set hN hat e2 e3) (hS.put e2 e3 hN) hl kr
theorem xr_zast {a t n : Nat} {f : Nat → Value} {i x : Int32} (hd : decode (xt_code y) pc = .ok (.bastore, 1)) (ha : h.1 a = some (.inr (t, n, f))) (ht : xt_at[t]? = some .boolean) (hi : vp_in i n) (hx : narrow .boolean (.int x) = .int x) (K : xm_S g d y (pc + 1, ls, st) (xm_up h.1 a (.inr (t, n, updV f i.toNatClampNeg (.int x))), h.2) Q) : xm_S g d y (pc, ls, .int x :: .int i :: .ref a :: st) h Q := by
  obtain ⟨r, h', hq, h1, h2, h3, kk⟩ := K
  refine ⟨r, h', hq, h1, h2, h3, fun p e R s m args below meth c H locs cells slots Z la C hR hX hS hl kr => ?_⟩
  obtain ⟨hN, hc⟩ := hX.arr ha
  refine W.zast C.1 C.2.1 hc ((hX.2.2.2.2.2.2 t _ ht).1 n f) (fun q => by cases q) (by rw [arrV_size]; exact hi) rfl rfl hd fun H' e1 e2 e3 => ?_
  have hat : xm_at g a (.inr (t, n, updV f i.toNatClampNeg (.int x))) H' := by rw [hx, arrV_store] at e1; exact e1
  exact kk p e R s m args below meth c H' _ cells slots Z la C hR (hX.set hN hat e2 e3) (hS.put e2 e3 hN) hl kr
/-- a reference to an object of the array's own class is stored -/
theorem xr_aast {a t n v ci N : Nat} {fs : List Value} {f : Nat → Value} {i : Int32} {Cn : String} {T : u_T} (hd : decode (xt_code y) pc = .ok (.aastore, 1)) (ha : h.1 a = some (.inr (t, n, f))) (ht : xt_at[t]? = some (.object Cn)) (hc : xt_cl[ci]? = some (Cn, T, N)) (hv : h.1 v = some (.inl (ci, fs))) (hi : vp_in i n) (K : xm_S g d y (pc + 1, ls, st) (xm_up h.1 a (.inr (t, n, updV f i.toNatClampNeg (.ref v))), h.2) Q) : xm_S g d y (pc, ls, .ref v :: .int i :: .ref a :: st) h Q := by
  obtain ⟨r, h', hq, h1, h2, h3, kk⟩ := K
  refine ⟨r, h', hq, h1, h2, h3, fun p e R s m args below meth c H locs cells slots Z la C hR hX hS hl kr => ?_⟩
  obtain ⟨hN, hcell⟩ := hX.arr ha
  have hlt : i.toNatClampNeg < n := Nat.not_le.mp fun q => hi (Or.inr q)
  have hi0 : ¬ i < 0 := fun q => hi (Or.inl q)
  obtain ⟨r', hr', cellV, g1, g2, g3, -⟩ := (hX.obj hv).2.1 0 _ rfl
  have hcls := (hX.2.2.2.2.2.1.1 ci _ hc).2
  obtain ⟨kA, comp, k1, k2, k3, -⟩ := (hX.2.2.2.2.2.2 t _ ht).2.1
  have hcomp : comp = (xm_D g).1 ci := Option.some.inj (k3.symm.trans hcls.1)
  subst hcomp
  obtain ⟨kC, hkC, -⟩ := hcls.2
  refine W.aast C.1 C.2.1 hcell (fun q h => by cases h) (fun h => by cases h) k1 k2 rfl hkC ⟨hi0, by rw [arrV_size]; exact hlt⟩ g1 (fun q h => by rw [g3] at h; cases h) (by rw [g2]; exact hkC) (by rw [g2]; exact va_assign hcls) rfl rfl hd fun H' e1 e2 e3 => ?_
  have hat : xm_at g a (.inr (t, n, updV f i.toNatClampNeg (.ref v))) H' := by rw [arrV_store] at e1; exact e1
  exact kk p e R s m args below meth c H' _ cells slots Z la C hR (hX.set hN hat e2 e3) (hS.put e2 e3 hN) hl kr
end XHeap
