def csM (n : Nat) : List xm_E := (List.range n).map fun f => .inr (km_ty f, km_len f, fun _ => .int 0)
/-! the objects are made: the class's and the reference's constructors, over any heap -/
theorem xw_int : Cond.arrayClass .int ∈ xt_ws := xt_in 498 (by decide +kernel) rfl
theorem xw_bool : Cond.arrayClass .boolean ∈ xt_ws := xt_in 499 (by decide +kernel) rfl
/-- an object in the making: its cell, the cells made since, all else as before -/
def kB (h0 : xm_H) (a ci : Nat) (fs : List Value) (cs : List xm_E) (tot : Nat) (h : xm_H) : Prop :=
  h.1 a = some (.inl (ci, fs)) ∧ (∀ j e, cs[j]? = some e → h.1 (h0.2.1 + j) = some e) ∧ (∀ x, x ≠ a → x < h0.2.1 → h.1 x = h0.1 x) ∧ h.2 = (h0.2.1 + cs.length, h0.2.2 + tot) ∧ a < h0.2.1
theorem kB.put {h0 h : xm_H} {a ci : Nat} {fs fs' : List Value} {cs : List xm_E} {tot : Nat} (hB : kB h0 a ci fs cs tot h) : kB h0 a ci fs' cs tot (xm_up h.1 a (.inl (ci, fs')), h.2) := by
  obtain ⟨h1, h2, h3, h4, h5⟩ := hB
  refine ⟨xm_up_self _ _ _, fun j e he => ?_, fun x n1 n2 => ?_, h4, h5⟩
  · show xm_up h.1 a _ (h0.2.1 + j) = _
    rw [xm_up_ne _ _ (by omega)]; exact h2 j e he
  · show xm_up h.1 a _ x = _
    rw [xm_up_ne _ _ n1]; exact h3 x n1 n2
theorem kB.add {h0 h : xm_H} {a ci : Nat} {fs : List Value} {cs : List xm_E} {tot N : Nat} {e : xm_E} (hB : kB h0 a ci fs cs tot h) : kB h0 a ci fs (cs ++ [e]) (tot + N) (xm_up h.1 h.2.1 e, h.2.1 + 1, h.2.2 + N) := by
  obtain ⟨h1, h2, h3, h4, h5⟩ := hB
  have h41 : h.2.1 = h0.2.1 + cs.length := congrArg Prod.fst h4
  have h42 : h.2.2 = h0.2.2 + tot := congrArg Prod.snd h4
  refine ⟨?_, fun j e' he => ?_, fun x n1 n2 => ?_, ?_, h5⟩
  · show xm_up h.1 h.2.1 e a = _
    rw [xm_up_ne _ _ (by omega)]; exact h1
  · show xm_up h.1 h.2.1 e (h0.2.1 + j) = _
    by_cases q : j = cs.length
    · rw [q] at he ⊢
      rw [List.getElem?_append_right (Nat.le_refl _), Nat.sub_self] at he
      rw [← h41, xm_up_self]; exact he
    · have hj : j < (cs ++ [e]).length := (List.getElem?_eq_some_iff.mp he).1
      rw [List.length_append] at hj
      have hj : j < cs.length + 1 := hj
      rw [List.getElem?_append_left (by omega)] at he
      rw [xm_up_ne _ _ (by omega)]; exact h2 j e' he
  · show xm_up h.1 h.2.1 e x = _
    rw [xm_up_ne _ _ (by omega)]; exact h3 x n1 n2
  · rw [List.length_append, h41, h42]
    show (_, _) = (h0.2.1 + (cs.length + 1), _)
    rw [Nat.add_assoc, Nat.add_assoc]
section KMake
variable {g : xm_G} {d pc : Nat} {y : xm_M} {ls : List (Option Value)} {st : List Value} {h h0 : xm_H} {Q : Option Value → xm_H → Prop} {a ci : Nat} {fs fs' : List Value} {cs cs' : List xm_E} {tot : Nat}
/-- a new array of ints or booleans into a field -/
theorem kr_newM {atype : Jvm.ClassFile.ArrayType} {t i k : Nat} {n : Int32} {N : Nat} (hB : kB h0 a ci fs cs tot h) (hd : decode (xt_code y) pc = .ok (.newarray atype, 2)) (ht : xt_at[t]? = some (newarray.typeOf atype)) (hw : Cond.arrayClass (newarray.typeOf atype) ∈ xt_ws) (hdv : defaultValue (newarray.typeOf atype) = .int 0) (h9 : ¬ n < 0) (hN : n.toNatClampNeg = N) (hb : N * componentBytes (newarray.typeOf atype) ≤ 536870912)
    (hd2 : decode (xt_code y) (pc + 2) = .ok (.putfield i, 3)) (hf : xm_okF (xt_own y) i ci k) (hfin : xt_fin ci k = true) (hdec : xt_dec ci k = xt_nm (xt_own y)) (hini : (xt_y y).name = "<init>") (hn : narrow (xt_ty ci k) (.ref (h0.2.1 + cs.length)) = .ref (h0.2.1 + cs.length)) (hfit : fits (xt_ty ci k) (.ref (h0.2.1 + cs.length)) = true)
    (hfs : fs.set k (.ref (h0.2.1 + cs.length)) = fs') (hcs : cs ++ [.inr (t, N, fun _ => .int 0)] = cs') (K : ∀ h', kB h0 a ci fs' cs' (tot + N) h' → xm_S g d y (pc + 2 + 3, ls, st) h' Q) : xm_S g d y (pc, ls, .int n :: .ref a :: st) h Q := by
  subst hfs hcs
  have h41 : h.2.1 = h0.2.1 + cs.length := congrArg Prod.fst hB.2.2.2.1
  refine xr_newarr hd ht hw hdv h9 hN hb ?_
  have hB2 := hB.add (e := .inr (t, N, fun _ => .int 0)) (N := N)
  refine xr_putF hd2 hf hB2.1 hfin hdec hini (by rw [h41]; exact hn) (by rw [h41]; exact hfit) ?_
  have hB3 := hB2.put (fs' := fs.set k (.ref h.2.1))
  rw [h41] at hB3
  rw [h41]
  exact K _ hB3
/-- a new array of objects into a field -/
theorem kr_newO {t i i2 k : Nat} {n : Int32} {N : Nat} (hB : kB h0 a ci fs cs tot h) (hd : decode (xt_code y) pc = .ok (.anewarray i2, 3)) (hna : xm_okA (xt_own y) i2 t) (h9 : ¬ n < 0) (hN : n.toNatClampNeg = N) (hb : N * 4 ≤ 536870912)
    (hd2 : decode (xt_code y) (pc + 3) = .ok (.putfield i, 3)) (hf : xm_okF (xt_own y) i ci k) (hfin : xt_fin ci k = true) (hdec : xt_dec ci k = xt_nm (xt_own y)) (hini : (xt_y y).name = "<init>") (hn : narrow (xt_ty ci k) (.ref (h0.2.1 + cs.length)) = .ref (h0.2.1 + cs.length)) (hfit : fits (xt_ty ci k) (.ref (h0.2.1 + cs.length)) = true)
    (hfs : fs.set k (.ref (h0.2.1 + cs.length)) = fs') (hcs : cs ++ [.inr (t, N, fun _ => .null)] = cs') (K : ∀ h', kB h0 a ci fs' cs' (tot + N) h' → xm_S g d y (pc + 3 + 3, ls, st) h' Q) : xm_S g d y (pc, ls, .int n :: .ref a :: st) h Q := by
  subst hfs hcs
  have h41 : h.2.1 = h0.2.1 + cs.length := congrArg Prod.fst hB.2.2.2.1
  refine xr_anew hd hna h9 hN hb ?_
  have hB2 := hB.add (e := .inr (t, N, fun _ => .null)) (N := N)
  refine xr_putF hd2 hf hB2.1 hfin hdec hini (by rw [h41]; exact hn) (by rw [h41]; exact hfit) ?_
  have hB3 := hB2.put (fs' := fs.set k (.ref h.2.1))
  rw [h41] at hB3
  rw [h41]
  exact K _ hB3
theorem kr_putM {i k : Nat} {v : Value} (hB : kB h0 a ci fs cs tot h) (hd : decode (xt_code y) pc = .ok (.putfield i, 3)) (hf : xm_okF (xt_own y) i ci k) (hfin : xt_fin ci k = false) (hn : narrow (xt_ty ci k) v = v) (hfit : fits (xt_ty ci k) v = true) (hfs : fs.set k v = fs') (K : ∀ h', kB h0 a ci fs' cs tot h' → xm_S g d y (pc + 3, ls, st) h' Q) : xm_S g d y (pc, ls, v :: .ref a :: st) h Q := by
  subst hfs
  exact xr_putf hd hf hB.1 hfin hn hfit (K _ hB.put)
end KMake
theorem r_S_init {g : xm_G} {h : xm_H} {a : Nat} (ha : h.1 a = some (.inl (4, [.null, .null, .null, .int 0, .int 0, .int 0, .int 0, .int 0]))) (hal : a < h.2.1) : xm_S g 1 m_S_init (xm_entry m_S_init [.ref a]) h (xq_v fun h' => kB h a 4 [.ref (h.2.1 + 0), .ref (h.2.1 + 1), .ref (h.2.1 + 2), .int 0, .int 0, .int 0, .int 0, .int 10] [.inr (2, 12, fun _ => .null), .inr (3, 6, fun _ => .null), .inr (4, 10, fun _ => .null)] 28 h') := by
  show xm_S g 1 m_S_init (0, [some (.ref a)], []) h _
  have hB : kB h a 4 [.null, .null, .null, .int 0, .int 0, .int 0, .int 0, .int 0] [] 0 h := ⟨ha, fun j e q => absurd q (by simp [csM]), fun _ _ _ => rfl, rfl, hal⟩
  refine xr_aload_n d_S_init_0 rfl ?_
  refine xr_objInit d_S_init_1 xo_4_1 (Nat.le_of_ble_eq_true rfl) ?_
  refine xr_aload_n d_S_init_4 rfl ?_
  refine xr_bipush (v := 12) d_S_init_5 rfl ?_
  refine kr_newO (t := 2) (N := 12) (fs' := [.ref (h.2.1 + 0), .null, .null, .int 0, .int 0, .int 0, .int 0, .int 0]) (cs' := [.inr (2, 12, fun _ => .null)]) hB d_S_init_7 xa_4_9 (by decide) (by decide) (by decide) d_S_init_10 xf_4_11 rfl rfl rfl rfl rfl rfl rfl (fun h1 hB => ?_)
  refine xr_aload_n d_S_init_13 rfl ?_
  refine xr_bipush (v := 6) d_S_init_14 rfl ?_
  refine kr_newO (t := 3) (N := 6) (fs' := [.ref (h.2.1 + 0), .ref (h.2.1 + 1), .null, .int 0, .int 0, .int 0, .int 0, .int 0]) (cs' := [.inr (2, 12, fun _ => .null), .inr (3, 6, fun _ => .null)]) hB d_S_init_16 xa_4_15 (by decide) (by decide) (by decide) d_S_init_19 xf_4_17 rfl rfl rfl rfl rfl rfl rfl (fun h2 hB => ?_)
  refine xr_aload_n d_S_init_22 rfl ?_
  refine xr_bipush (v := 10) d_S_init_23 rfl ?_
  refine kr_newO (t := 4) (N := 10) (fs' := [.ref (h.2.1 + 0), .ref (h.2.1 + 1), .ref (h.2.1 + 2), .int 0, .int 0, .int 0, .int 0, .int 0]) (cs' := [.inr (2, 12, fun _ => .null), .inr (3, 6, fun _ => .null), .inr (4, 10, fun _ => .null)]) hB d_S_init_25 xa_4_21 (by decide) (by decide) (by decide) d_S_init_28 xf_4_23 rfl rfl rfl rfl rfl rfl rfl (fun h3 hB => ?_)
  refine xr_aload_n d_S_init_31 rfl ?_
  refine xr_iconst (v := 0) d_S_init_32 rfl ?_
  refine kr_putM (fs' := [.ref (h.2.1 + 0), .ref (h.2.1 + 1), .ref (h.2.1 + 2), .int 0, .int 0, .int 0, .int 0, .int 0]) hB d_S_init_33 xf_4_27 rfl rfl rfl rfl (fun h4 hB => ?_)
  refine xr_aload_n d_S_init_36 rfl ?_
  refine xr_iconst (v := 0) d_S_init_37 rfl ?_
  refine kr_putM (fs' := [.ref (h.2.1 + 0), .ref (h.2.1 + 1), .ref (h.2.1 + 2), .int 0, .int 0, .int 0, .int 0, .int 0]) hB d_S_init_38 xf_4_31 rfl rfl rfl rfl (fun h5 hB => ?_)
  refine xr_aload_n d_S_init_41 rfl ?_
  refine xr_iconst (v := 0) d_S_init_42 rfl ?_
  refine kr_putM (fs' := [.ref (h.2.1 + 0), .ref (h.2.1 + 1), .ref (h.2.1 + 2), .int 0, .int 0, .int 0, .int 0, .int 0]) hB d_S_init_43 xf_4_34 rfl rfl rfl rfl (fun h6 hB => ?_)
  refine xr_aload_n d_S_init_46 rfl ?_
  refine xr_iconst (v := 0) d_S_init_47 rfl ?_
  refine kr_putM (fs' := [.ref (h.2.1 + 0), .ref (h.2.1 + 1), .ref (h.2.1 + 2), .int 0, .int 0, .int 0, .int 0, .int 0]) hB d_S_init_48 xf_4_37 rfl rfl rfl rfl (fun h7 hB => ?_)
  refine xr_aload_n d_S_init_51 rfl ?_
  refine xr_bipush (v := 10) d_S_init_52 rfl ?_
  refine kr_putM (fs' := [.ref (h.2.1 + 0), .ref (h.2.1 + 1), .ref (h.2.1 + 2), .int 0, .int 0, .int 0, .int 0, .int 10]) hB d_S_init_54 xf_4_40 rfl rfl rfl rfl (fun h8 hB => ?_)
  refine xr_return d_S_init_57 rfl rfl ?_
  exact ⟨rfl, hB⟩
set_option maxHeartbeats 2000000 in
theorem r_M_init {g : xm_G} {h : xm_H} {a : Nat} (ha : h.1 a = some (.inl (5, [.int 0, .int 0, .int 0, .int 0, .int 0, .int 0, .null, .null, .null, .null, .null, .null, .null, .null, .null, .null, .null, .null, .null, .null, .null, .null, .null, .null, .null, .null]))) (hal : a < h.2.1) : xm_S g 1 m_M_init (xm_entry m_M_init [.ref a]) h (xq_v fun h' => kB h a 5 [.int 0, .int 0, .int 10, .int 0, .int 0, .int 0, .ref (h.2.1 + 0), .ref (h.2.1 + 1), .ref (h.2.1 + 2), .ref (h.2.1 + 3), .ref (h.2.1 + 4), .ref (h.2.1 + 5), .ref (h.2.1 + 6), .ref (h.2.1 + 7), .ref (h.2.1 + 8), .ref (h.2.1 + 9), .ref (h.2.1 + 10), .ref (h.2.1 + 11), .ref (h.2.1 + 12), .ref (h.2.1 + 13), .ref (h.2.1 + 14), .ref (h.2.1 + 15), .ref (h.2.1 + 16), .ref (h.2.1 + 17), .ref (h.2.1 + 18), .ref (h.2.1 + 19)] (csM 20) 1080 h') := by
  show xm_S g 1 m_M_init (0, [some (.ref a)], []) h _
  have hB : kB h a 5 [.int 0, .int 0, .int 0, .int 0, .int 0, .int 0, .null, .null, .null, .null, .null, .null, .null, .null, .null, .null, .null, .null, .null, .null, .null, .null, .null, .null, .null, .null] (csM 0) 0 h := ⟨ha, fun j e q => absurd q (by simp [csM]), fun _ _ _ => rfl, rfl, hal⟩
  refine xr_aload_n d_M_init_0 rfl ?_
  refine xr_objInit d_M_init_1 xo_5_1 (Nat.le_of_ble_eq_true rfl) ?_
  refine xr_aload_n d_M_init_4 rfl ?_
  refine xr_bipush (v := 10) d_M_init_5 rfl ?_
  refine kr_putM (fs' := [.int 0, .int 0, .int 10, .int 0, .int 0, .int 0, .null, .null, .null, .null, .null, .null, .null, .null, .null, .null, .null, .null, .null, .null, .null, .null, .null, .null, .null, .null]) hB d_M_init_7 xf_5_7 rfl rfl rfl rfl (fun h0 hB => ?_)
  refine xr_aload_n d_M_init_10 rfl ?_
  refine xr_bipush (v := 12) d_M_init_11 rfl ?_
  refine kr_newM (t := 0) (N := 12) (fs' := [.int 0, .int 0, .int 10, .int 0, .int 0, .int 0, .ref (h.2.1 + 0), .null, .null, .null, .null, .null, .null, .null, .null, .null, .null, .null, .null, .null, .null, .null, .null, .null, .null, .null]) (cs' := csM 1) hB d_M_init_13 rfl xw_int rfl (by decide) (by decide) (by decide) d_M_init_15 xf_5_13 rfl rfl rfl rfl rfl rfl rfl (fun h1 hB => ?_)
  refine xr_aload_n d_M_init_18 rfl ?_
  refine xr_bipush (v := 12) d_M_init_19 rfl ?_
  refine kr_newM (t := 0) (N := 12) (fs' := [.int 0, .int 0, .int 10, .int 0, .int 0, .int 0, .ref (h.2.1 + 0), .ref (h.2.1 + 1), .null, .null, .null, .null, .null, .null, .null, .null, .null, .null, .null, .null, .null, .null, .null, .null, .null, .null]) (cs' := csM 2) hB d_M_init_21 rfl xw_int rfl (by decide) (by decide) (by decide) d_M_init_23 xf_5_17 rfl rfl rfl rfl rfl rfl rfl (fun h2 hB => ?_)
  refine xr_aload_n d_M_init_26 rfl ?_
  refine xr_bipush (v := 12) d_M_init_27 rfl ?_
  refine kr_newM (t := 0) (N := 12) (fs' := [.int 0, .int 0, .int 10, .int 0, .int 0, .int 0, .ref (h.2.1 + 0), .ref (h.2.1 + 1), .ref (h.2.1 + 2), .null, .null, .null, .null, .null, .null, .null, .null, .null, .null, .null, .null, .null, .null, .null, .null, .null]) (cs' := csM 3) hB d_M_init_29 rfl xw_int rfl (by decide) (by decide) (by decide) d_M_init_31 xf_5_20 rfl rfl rfl rfl rfl rfl rfl (fun h3 hB => ?_)
  refine xr_aload_n d_M_init_34 rfl ?_
  refine xr_bipush (v := 12) d_M_init_35 rfl ?_
  refine kr_newM (t := 0) (N := 12) (fs' := [.int 0, .int 0, .int 10, .int 0, .int 0, .int 0, .ref (h.2.1 + 0), .ref (h.2.1 + 1), .ref (h.2.1 + 2), .ref (h.2.1 + 3), .null, .null, .null, .null, .null, .null, .null, .null, .null, .null, .null, .null, .null, .null, .null, .null]) (cs' := csM 4) hB d_M_init_37 rfl xw_int rfl (by decide) (by decide) (by decide) d_M_init_39 xf_5_23 rfl rfl rfl rfl rfl rfl rfl (fun h4 hB => ?_)
  refine xr_aload_n d_M_init_42 rfl ?_
  refine xr_bipush (v := 12) d_M_init_43 rfl ?_
  refine kr_newM (t := 1) (N := 12) (fs' := [.int 0, .int 0, .int 10, .int 0, .int 0, .int 0, .ref (h.2.1 + 0), .ref (h.2.1 + 1), .ref (h.2.1 + 2), .ref (h.2.1 + 3), .ref (h.2.1 + 4), .null, .null, .null, .null, .null, .null, .null, .null, .null, .null, .null, .null, .null, .null, .null]) (cs' := csM 5) hB d_M_init_45 rfl xw_bool rfl (by decide) (by decide) (by decide) d_M_init_47 xf_5_26 rfl rfl rfl rfl rfl rfl rfl (fun h5 hB => ?_)
  refine xr_aload_n d_M_init_50 rfl ?_
  refine xr_bipush (v := 12) d_M_init_51 rfl ?_
  refine kr_newM (t := 1) (N := 12) (fs' := [.int 0, .int 0, .int 10, .int 0, .int 0, .int 0, .ref (h.2.1 + 0), .ref (h.2.1 + 1), .ref (h.2.1 + 2), .ref (h.2.1 + 3), .ref (h.2.1 + 4), .ref (h.2.1 + 5), .null, .null, .null, .null, .null, .null, .null, .null, .null, .null, .null, .null, .null, .null]) (cs' := csM 6) hB d_M_init_53 rfl xw_bool rfl (by decide) (by decide) (by decide) d_M_init_55 xf_5_30 rfl rfl rfl rfl rfl rfl rfl (fun h6 hB => ?_)
  refine xr_aload_n d_M_init_58 rfl ?_
  refine xr_bipush (v := 10) d_M_init_59 rfl ?_
  refine kr_newM (t := 0) (N := 10) (fs' := [.int 0, .int 0, .int 10, .int 0, .int 0, .int 0, .ref (h.2.1 + 0), .ref (h.2.1 + 1), .ref (h.2.1 + 2), .ref (h.2.1 + 3), .ref (h.2.1 + 4), .ref (h.2.1 + 5), .ref (h.2.1 + 6), .null, .null, .null, .null, .null, .null, .null, .null, .null, .null, .null, .null, .null]) (cs' := csM 7) hB d_M_init_61 rfl xw_int rfl (by decide) (by decide) (by decide) d_M_init_63 xf_5_33 rfl rfl rfl rfl rfl rfl rfl (fun h7 hB => ?_)
  refine xr_aload_n d_M_init_66 rfl ?_
  refine xr_bipush (v := 10) d_M_init_67 rfl ?_
  refine kr_newM (t := 0) (N := 10) (fs' := [.int 0, .int 0, .int 10, .int 0, .int 0, .int 0, .ref (h.2.1 + 0), .ref (h.2.1 + 1), .ref (h.2.1 + 2), .ref (h.2.1 + 3), .ref (h.2.1 + 4), .ref (h.2.1 + 5), .ref (h.2.1 + 6), .ref (h.2.1 + 7), .null, .null, .null, .null, .null, .null, .null, .null, .null, .null, .null, .null]) (cs' := csM 8) hB d_M_init_69 rfl xw_int rfl (by decide) (by decide) (by decide) d_M_init_71 xf_5_36 rfl rfl rfl rfl rfl rfl rfl (fun h8 hB => ?_)
  refine xr_aload_n d_M_init_74 rfl ?_
  refine xr_bipush (v := 10) d_M_init_75 rfl ?_
  refine kr_newM (t := 1) (N := 10) (fs' := [.int 0, .int 0, .int 10, .int 0, .int 0, .int 0, .ref (h.2.1 + 0), .ref (h.2.1 + 1), .ref (h.2.1 + 2), .ref (h.2.1 + 3), .ref (h.2.1 + 4), .ref (h.2.1 + 5), .ref (h.2.1 + 6), .ref (h.2.1 + 7), .ref (h.2.1 + 8), .null, .null, .null, .null, .null, .null, .null, .null, .null, .null, .null]) (cs' := csM 9) hB d_M_init_77 rfl xw_bool rfl (by decide) (by decide) (by decide) d_M_init_79 xf_5_39 rfl rfl rfl rfl rfl rfl rfl (fun h9 hB => ?_)
  refine xr_aload_n d_M_init_82 rfl ?_
  refine xr_bipush (v := 120) d_M_init_83 rfl ?_
  refine kr_newM (t := 0) (N := 120) (fs' := [.int 0, .int 0, .int 10, .int 0, .int 0, .int 0, .ref (h.2.1 + 0), .ref (h.2.1 + 1), .ref (h.2.1 + 2), .ref (h.2.1 + 3), .ref (h.2.1 + 4), .ref (h.2.1 + 5), .ref (h.2.1 + 6), .ref (h.2.1 + 7), .ref (h.2.1 + 8), .ref (h.2.1 + 9), .null, .null, .null, .null, .null, .null, .null, .null, .null, .null]) (cs' := csM 10) hB d_M_init_85 rfl xw_int rfl (by decide) (by decide) (by decide) d_M_init_87 xf_5_42 rfl rfl rfl rfl rfl rfl rfl (fun h10 hB => ?_)
  refine xr_aload_n d_M_init_90 rfl ?_
  refine xr_bipush (v := 120) d_M_init_91 rfl ?_
  refine kr_newM (t := 0) (N := 120) (fs' := [.int 0, .int 0, .int 10, .int 0, .int 0, .int 0, .ref (h.2.1 + 0), .ref (h.2.1 + 1), .ref (h.2.1 + 2), .ref (h.2.1 + 3), .ref (h.2.1 + 4), .ref (h.2.1 + 5), .ref (h.2.1 + 6), .ref (h.2.1 + 7), .ref (h.2.1 + 8), .ref (h.2.1 + 9), .ref (h.2.1 + 10), .null, .null, .null, .null, .null, .null, .null, .null, .null]) (cs' := csM 11) hB d_M_init_93 rfl xw_int rfl (by decide) (by decide) (by decide) d_M_init_95 xf_5_45 rfl rfl rfl rfl rfl rfl rfl (fun h11 hB => ?_)
  refine xr_aload_n d_M_init_98 rfl ?_
  refine xr_bipush (v := 120) d_M_init_99 rfl ?_
  refine kr_newM (t := 0) (N := 120) (fs' := [.int 0, .int 0, .int 10, .int 0, .int 0, .int 0, .ref (h.2.1 + 0), .ref (h.2.1 + 1), .ref (h.2.1 + 2), .ref (h.2.1 + 3), .ref (h.2.1 + 4), .ref (h.2.1 + 5), .ref (h.2.1 + 6), .ref (h.2.1 + 7), .ref (h.2.1 + 8), .ref (h.2.1 + 9), .ref (h.2.1 + 10), .ref (h.2.1 + 11), .null, .null, .null, .null, .null, .null, .null, .null]) (cs' := csM 12) hB d_M_init_101 rfl xw_int rfl (by decide) (by decide) (by decide) d_M_init_103 xf_5_48 rfl rfl rfl rfl rfl rfl rfl (fun h12 hB => ?_)
  refine xr_aload_n d_M_init_106 rfl ?_
  refine xr_bipush (v := 120) d_M_init_107 rfl ?_
  refine kr_newM (t := 0) (N := 120) (fs' := [.int 0, .int 0, .int 10, .int 0, .int 0, .int 0, .ref (h.2.1 + 0), .ref (h.2.1 + 1), .ref (h.2.1 + 2), .ref (h.2.1 + 3), .ref (h.2.1 + 4), .ref (h.2.1 + 5), .ref (h.2.1 + 6), .ref (h.2.1 + 7), .ref (h.2.1 + 8), .ref (h.2.1 + 9), .ref (h.2.1 + 10), .ref (h.2.1 + 11), .ref (h.2.1 + 12), .null, .null, .null, .null, .null, .null, .null]) (cs' := csM 13) hB d_M_init_109 rfl xw_int rfl (by decide) (by decide) (by decide) d_M_init_111 xf_5_51 rfl rfl rfl rfl rfl rfl rfl (fun h13 hB => ?_)
  refine xr_aload_n d_M_init_114 rfl ?_
  refine xr_bipush (v := 120) d_M_init_115 rfl ?_
  refine kr_newM (t := 0) (N := 120) (fs' := [.int 0, .int 0, .int 10, .int 0, .int 0, .int 0, .ref (h.2.1 + 0), .ref (h.2.1 + 1), .ref (h.2.1 + 2), .ref (h.2.1 + 3), .ref (h.2.1 + 4), .ref (h.2.1 + 5), .ref (h.2.1 + 6), .ref (h.2.1 + 7), .ref (h.2.1 + 8), .ref (h.2.1 + 9), .ref (h.2.1 + 10), .ref (h.2.1 + 11), .ref (h.2.1 + 12), .ref (h.2.1 + 13), .null, .null, .null, .null, .null, .null]) (cs' := csM 14) hB d_M_init_117 rfl xw_int rfl (by decide) (by decide) (by decide) d_M_init_119 xf_5_54 rfl rfl rfl rfl rfl rfl rfl (fun h14 hB => ?_)
  refine xr_aload_n d_M_init_122 rfl ?_
  refine xr_bipush (v := 120) d_M_init_123 rfl ?_
  refine kr_newM (t := 0) (N := 120) (fs' := [.int 0, .int 0, .int 10, .int 0, .int 0, .int 0, .ref (h.2.1 + 0), .ref (h.2.1 + 1), .ref (h.2.1 + 2), .ref (h.2.1 + 3), .ref (h.2.1 + 4), .ref (h.2.1 + 5), .ref (h.2.1 + 6), .ref (h.2.1 + 7), .ref (h.2.1 + 8), .ref (h.2.1 + 9), .ref (h.2.1 + 10), .ref (h.2.1 + 11), .ref (h.2.1 + 12), .ref (h.2.1 + 13), .ref (h.2.1 + 14), .null, .null, .null, .null, .null]) (cs' := csM 15) hB d_M_init_125 rfl xw_int rfl (by decide) (by decide) (by decide) d_M_init_127 xf_5_57 rfl rfl rfl rfl rfl rfl rfl (fun h15 hB => ?_)
  refine xr_aload_n d_M_init_130 rfl ?_
  refine xr_bipush (v := 120) d_M_init_131 rfl ?_
  refine kr_newM (t := 0) (N := 120) (fs' := [.int 0, .int 0, .int 10, .int 0, .int 0, .int 0, .ref (h.2.1 + 0), .ref (h.2.1 + 1), .ref (h.2.1 + 2), .ref (h.2.1 + 3), .ref (h.2.1 + 4), .ref (h.2.1 + 5), .ref (h.2.1 + 6), .ref (h.2.1 + 7), .ref (h.2.1 + 8), .ref (h.2.1 + 9), .ref (h.2.1 + 10), .ref (h.2.1 + 11), .ref (h.2.1 + 12), .ref (h.2.1 + 13), .ref (h.2.1 + 14), .ref (h.2.1 + 15), .null, .null, .null, .null]) (cs' := csM 16) hB d_M_init_133 rfl xw_int rfl (by decide) (by decide) (by decide) d_M_init_135 xf_5_60 rfl rfl rfl rfl rfl rfl rfl (fun h16 hB => ?_)
  refine xr_aload_n d_M_init_138 rfl ?_
  refine xr_bipush (v := 120) d_M_init_139 rfl ?_
  refine kr_newM (t := 0) (N := 120) (fs' := [.int 0, .int 0, .int 10, .int 0, .int 0, .int 0, .ref (h.2.1 + 0), .ref (h.2.1 + 1), .ref (h.2.1 + 2), .ref (h.2.1 + 3), .ref (h.2.1 + 4), .ref (h.2.1 + 5), .ref (h.2.1 + 6), .ref (h.2.1 + 7), .ref (h.2.1 + 8), .ref (h.2.1 + 9), .ref (h.2.1 + 10), .ref (h.2.1 + 11), .ref (h.2.1 + 12), .ref (h.2.1 + 13), .ref (h.2.1 + 14), .ref (h.2.1 + 15), .ref (h.2.1 + 16), .null, .null, .null]) (cs' := csM 17) hB d_M_init_141 rfl xw_int rfl (by decide) (by decide) (by decide) d_M_init_143 xf_5_63 rfl rfl rfl rfl rfl rfl rfl (fun h17 hB => ?_)
  refine xr_aload_n d_M_init_146 rfl ?_
  refine xr_bipush (v := 6) d_M_init_147 rfl ?_
  refine kr_newM (t := 0) (N := 6) (fs' := [.int 0, .int 0, .int 10, .int 0, .int 0, .int 0, .ref (h.2.1 + 0), .ref (h.2.1 + 1), .ref (h.2.1 + 2), .ref (h.2.1 + 3), .ref (h.2.1 + 4), .ref (h.2.1 + 5), .ref (h.2.1 + 6), .ref (h.2.1 + 7), .ref (h.2.1 + 8), .ref (h.2.1 + 9), .ref (h.2.1 + 10), .ref (h.2.1 + 11), .ref (h.2.1 + 12), .ref (h.2.1 + 13), .ref (h.2.1 + 14), .ref (h.2.1 + 15), .ref (h.2.1 + 16), .ref (h.2.1 + 17), .null, .null]) (cs' := csM 18) hB d_M_init_149 rfl xw_int rfl (by decide) (by decide) (by decide) d_M_init_151 xf_5_66 rfl rfl rfl rfl rfl rfl rfl (fun h18 hB => ?_)
  refine xr_aload_n d_M_init_154 rfl ?_
  refine xr_bipush (v := 6) d_M_init_155 rfl ?_
  refine kr_newM (t := 0) (N := 6) (fs' := [.int 0, .int 0, .int 10, .int 0, .int 0, .int 0, .ref (h.2.1 + 0), .ref (h.2.1 + 1), .ref (h.2.1 + 2), .ref (h.2.1 + 3), .ref (h.2.1 + 4), .ref (h.2.1 + 5), .ref (h.2.1 + 6), .ref (h.2.1 + 7), .ref (h.2.1 + 8), .ref (h.2.1 + 9), .ref (h.2.1 + 10), .ref (h.2.1 + 11), .ref (h.2.1 + 12), .ref (h.2.1 + 13), .ref (h.2.1 + 14), .ref (h.2.1 + 15), .ref (h.2.1 + 16), .ref (h.2.1 + 17), .ref (h.2.1 + 18), .null]) (cs' := csM 19) hB d_M_init_157 rfl xw_int rfl (by decide) (by decide) (by decide) d_M_init_159 xf_5_69 rfl rfl rfl rfl rfl rfl rfl (fun h19 hB => ?_)
  refine xr_aload_n d_M_init_162 rfl ?_
  refine xr_bipush (v := 6) d_M_init_163 rfl ?_
  refine kr_newM (t := 0) (N := 6) (fs' := [.int 0, .int 0, .int 10, .int 0, .int 0, .int 0, .ref (h.2.1 + 0), .ref (h.2.1 + 1), .ref (h.2.1 + 2), .ref (h.2.1 + 3), .ref (h.2.1 + 4), .ref (h.2.1 + 5), .ref (h.2.1 + 6), .ref (h.2.1 + 7), .ref (h.2.1 + 8), .ref (h.2.1 + 9), .ref (h.2.1 + 10), .ref (h.2.1 + 11), .ref (h.2.1 + 12), .ref (h.2.1 + 13), .ref (h.2.1 + 14), .ref (h.2.1 + 15), .ref (h.2.1 + 16), .ref (h.2.1 + 17), .ref (h.2.1 + 18), .ref (h.2.1 + 19)]) (cs' := csM 20) hB d_M_init_165 rfl xw_int rfl (by decide) (by decide) (by decide) d_M_init_167 xf_5_72 rfl rfl rfl rfl rfl rfl rfl (fun h20 hB => ?_)
  refine xr_return d_M_init_170 rfl rfl ?_
  exact ⟨rfl, hB⟩
