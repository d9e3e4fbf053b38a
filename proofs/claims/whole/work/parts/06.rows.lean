/-! rows of the frame alone: an instruction a row -/
theorem xr_null {g : xm_G} {d pc : Nat} {y : xm_M} {ls : List (Option Value)} {st : List Value} {h : xm_H} {Q : Option Value → xm_H → Prop}  (hd : decode (xt_code y) pc = .ok (.aconst_null, 1))  (K : xm_S g d y (pc + 1, ls, .null :: st) h Q) : xm_S g d y (pc, ls, st) h Q :=
  xm_pure (fun _ _ _ _ _ _ _ _ _ _ _ _ _ _ _ C hX hl k => lv_null C.1 C.2.1 hd k) K
theorem xr_iconst {g : xm_G} {d pc : Nat} {y : xm_M} {ls : List (Option Value)} {st : List Value} {h : xm_H} {Q : Option Value → xm_H → Prop} {n : Int} {v : Int32}  (hd : decode (xt_code y) pc = .ok (.iconst n, 1)) (hv : Int32.ofInt n = v) (K : xm_S g d y (pc + 1, ls, .int v :: st) h Q) : xm_S g d y (pc, ls, st) h Q :=
  xm_pure (fun _ _ _ _ _ _ _ _ _ _ _ _ _ _ _ C hX hl k => lv_iconst C.1 C.2.1 hd hv k) K
theorem xr_bipush {g : xm_G} {d pc : Nat} {y : xm_M} {ls : List (Option Value)} {st : List Value} {h : xm_H} {Q : Option Value → xm_H → Prop} {n : Int} {v : Int32}  (hd : decode (xt_code y) pc = .ok (.bipush n, 2)) (hv : (Int8.ofInt n).toInt32 = v) (K : xm_S g d y (pc + 2, ls, .int v :: st) h Q) : xm_S g d y (pc, ls, st) h Q :=
  xm_pure (fun _ _ _ _ _ _ _ _ _ _ _ _ _ _ _ C hX hl k => lv_bipush C.1 C.2.1 hd hv k) K
theorem xr_sipush {g : xm_G} {d pc : Nat} {y : xm_M} {ls : List (Option Value)} {st : List Value} {h : xm_H} {Q : Option Value → xm_H → Prop} {n : Int} {v : Int32}  (hd : decode (xt_code y) pc = .ok (.sipush n, 3)) (hv : (Int16.ofInt n).toInt32 = v) (K : xm_S g d y (pc + 3, ls, .int v :: st) h Q) : xm_S g d y (pc, ls, st) h Q :=
  xm_pure (fun _ _ _ _ _ _ _ _ _ _ _ _ _ _ _ C hX hl k => lv_sipush C.1 C.2.1 hd hv k) K
theorem xr_ldc {g : xm_G} {d pc : Nat} {y : xm_M} {ls : List (Option Value)} {st : List Value} {h : xm_H} {Q : Option Value → xm_H → Prop} {i : Nat} {v : Int32}  (hd : decode (xt_code y) pc = .ok (.ldc i, 2)) (hv : xm_okL (xt_own y) i v) (K : xm_S g d y (pc + 2, ls, .int v :: st) h Q) : xm_S g d y (pc, ls, st) h Q :=
  xm_pure (fun _ _ _ _ _ _ _ _ _ _ _ _ _ _ _ C hX hl k => lv_ldc C.1 C.2.1 C.2.2.2.2.1 (C.2.2.2.2.2.1 _ hv) hd k) K
theorem xr_iload {g : xm_G} {d pc : Nat} {y : xm_M} {ls : List (Option Value)} {st : List Value} {h : xm_H} {Q : Option Value → xm_H → Prop} {i : Nat} {x : Int32}  (hd : decode (xt_code y) pc = .ok (.iload i, 2)) (hv : ls[i]? = some (some (.int x))) (K : xm_S g d y (pc + 2, ls, .int x :: st) h Q) : xm_S g d y (pc, ls, st) h Q :=
  xm_pure (fun _ _ _ _ _ _ _ _ _ _ _ _ _ _ _ C hX hl k => lv_iload C.1 C.2.1 hd (hl.2.2 _ _ hv).1 k) K
theorem xr_iload_n {g : xm_G} {d pc : Nat} {y : xm_M} {ls : List (Option Value)} {st : List Value} {h : xm_H} {Q : Option Value → xm_H → Prop} {i : Fin 4} {x : Int32}  (hd : decode (xt_code y) pc = .ok (.iload_n i, 1)) (hv : ls[(i : Nat)]? = some (some (.int x))) (K : xm_S g d y (pc + 1, ls, .int x :: st) h Q) : xm_S g d y (pc, ls, st) h Q :=
  xm_pure (fun _ _ _ _ _ _ _ _ _ _ _ _ _ _ _ C hX hl k => lv_iload_n C.1 C.2.1 hd rfl (hl.2.2 _ _ hv).1 k) K
theorem xr_aload {g : xm_G} {d pc : Nat} {y : xm_M} {ls : List (Option Value)} {st : List Value} {h : xm_H} {Q : Option Value → xm_H → Prop} {i : Nat} {x : Nat}  (hd : decode (xt_code y) pc = .ok (.aload i, 2)) (hv : ls[i]? = some (some (.ref x))) (K : xm_S g d y (pc + 2, ls, .ref x :: st) h Q) : xm_S g d y (pc, ls, st) h Q :=
  xm_pure (fun _ _ _ _ _ _ _ _ _ _ _ _ _ _ _ C hX hl k => lv_aload C.1 C.2.1 hd (hl.2.2 _ _ hv).1 k) K
theorem xr_aload_n {g : xm_G} {d pc : Nat} {y : xm_M} {ls : List (Option Value)} {st : List Value} {h : xm_H} {Q : Option Value → xm_H → Prop} {i : Fin 4} {x : Nat}  (hd : decode (xt_code y) pc = .ok (.aload_n i, 1)) (hv : ls[(i : Nat)]? = some (some (.ref x))) (K : xm_S g d y (pc + 1, ls, .ref x :: st) h Q) : xm_S g d y (pc, ls, st) h Q :=
  xm_pure (fun _ _ _ _ _ _ _ _ _ _ _ _ _ _ _ C hX hl k => lv_aload_n C.1 C.2.1 hd rfl (hl.2.2 _ _ hv).1 k) K
theorem xr_aloadN {g : xm_G} {d pc : Nat} {y : xm_M} {ls : List (Option Value)} {st : List Value} {h : xm_H} {Q : Option Value → xm_H → Prop} {i : Nat}  (hd : decode (xt_code y) pc = .ok (.aload i, 2)) (hv : ls[i]? = some (some .null)) (K : xm_S g d y (pc + 2, ls, .null :: st) h Q) : xm_S g d y (pc, ls, st) h Q :=
  xm_pure (fun _ _ _ _ _ _ _ _ _ _ _ _ _ _ _ C hX hl k => lv_aloadN C.1 C.2.1 hd (hl.2.2 _ _ hv).1 k) K
theorem xr_aload_nN {g : xm_G} {d pc : Nat} {y : xm_M} {ls : List (Option Value)} {st : List Value} {h : xm_H} {Q : Option Value → xm_H → Prop} {i : Fin 4}  (hd : decode (xt_code y) pc = .ok (.aload_n i, 1)) (hv : ls[(i : Nat)]? = some (some .null)) (K : xm_S g d y (pc + 1, ls, .null :: st) h Q) : xm_S g d y (pc, ls, st) h Q :=
  xm_pure (fun _ _ _ _ _ _ _ _ _ _ _ _ _ _ _ C hX hl k => lv_aload_nN C.1 C.2.1 hd rfl (hl.2.2 _ _ hv).1 k) K
theorem xr_iadd {g : xm_G} {d pc : Nat} {y : xm_M} {ls : List (Option Value)} {st : List Value} {h : xm_H} {Q : Option Value → xm_H → Prop} {x z : Int32} (hd : decode (xt_code y) pc = .ok (.iadd, 1))  (K : xm_S g d y (pc + 1, ls, .int (x + z) :: st) h Q) : xm_S g d y (pc, ls, .int z :: .int x :: st) h Q :=
  xm_pure (fun _ _ _ _ _ _ _ _ _ _ _ _ _ _ _ C hX hl k => lv_iadd C.1 C.2.1 hd k) K
theorem xr_isub {g : xm_G} {d pc : Nat} {y : xm_M} {ls : List (Option Value)} {st : List Value} {h : xm_H} {Q : Option Value → xm_H → Prop} {x z : Int32} (hd : decode (xt_code y) pc = .ok (.isub, 1))  (K : xm_S g d y (pc + 1, ls, .int (x - z) :: st) h Q) : xm_S g d y (pc, ls, .int z :: .int x :: st) h Q :=
  xm_pure (fun _ _ _ _ _ _ _ _ _ _ _ _ _ _ _ C hX hl k => lv_isub C.1 C.2.1 hd k) K
theorem xr_imul {g : xm_G} {d pc : Nat} {y : xm_M} {ls : List (Option Value)} {st : List Value} {h : xm_H} {Q : Option Value → xm_H → Prop} {x z : Int32} (hd : decode (xt_code y) pc = .ok (.imul, 1))  (K : xm_S g d y (pc + 1, ls, .int (x * z) :: st) h Q) : xm_S g d y (pc, ls, .int z :: .int x :: st) h Q :=
  xm_pure (fun _ _ _ _ _ _ _ _ _ _ _ _ _ _ _ C hX hl k => lv_imul C.1 C.2.1 hd k) K
theorem xr_iand {g : xm_G} {d pc : Nat} {y : xm_M} {ls : List (Option Value)} {st : List Value} {h : xm_H} {Q : Option Value → xm_H → Prop} {x z : Int32} (hd : decode (xt_code y) pc = .ok (.iand, 1))  (K : xm_S g d y (pc + 1, ls, .int (x &&& z) :: st) h Q) : xm_S g d y (pc, ls, .int z :: .int x :: st) h Q :=
  xm_pure (fun _ _ _ _ _ _ _ _ _ _ _ _ _ _ _ C hX hl k => lv_iand C.1 C.2.1 hd k) K
theorem xr_ior {g : xm_G} {d pc : Nat} {y : xm_M} {ls : List (Option Value)} {st : List Value} {h : xm_H} {Q : Option Value → xm_H → Prop} {x z : Int32} (hd : decode (xt_code y) pc = .ok (.ior, 1))  (K : xm_S g d y (pc + 1, ls, .int (x ||| z) :: st) h Q) : xm_S g d y (pc, ls, .int z :: .int x :: st) h Q :=
  xm_pure (fun _ _ _ _ _ _ _ _ _ _ _ _ _ _ _ C hX hl k => lv_ior C.1 C.2.1 hd k) K
theorem xr_ixor {g : xm_G} {d pc : Nat} {y : xm_M} {ls : List (Option Value)} {st : List Value} {h : xm_H} {Q : Option Value → xm_H → Prop} {x z : Int32} (hd : decode (xt_code y) pc = .ok (.ixor, 1))  (K : xm_S g d y (pc + 1, ls, .int (x ^^^ z) :: st) h Q) : xm_S g d y (pc, ls, .int z :: .int x :: st) h Q :=
  xm_pure (fun _ _ _ _ _ _ _ _ _ _ _ _ _ _ _ C hX hl k => lv_ixor C.1 C.2.1 hd k) K
theorem xr_ishl {g : xm_G} {d pc : Nat} {y : xm_M} {ls : List (Option Value)} {st : List Value} {h : xm_H} {Q : Option Value → xm_H → Prop} {x z : Int32} (hd : decode (xt_code y) pc = .ok (.ishl, 1))  (K : xm_S g d y (pc + 1, ls, .int (x <<< (z &&& 31)) :: st) h Q) : xm_S g d y (pc, ls, .int z :: .int x :: st) h Q :=
  xm_pure (fun _ _ _ _ _ _ _ _ _ _ _ _ _ _ _ C hX hl k => lv_ishl C.1 C.2.1 hd k) K
theorem xr_ishr {g : xm_G} {d pc : Nat} {y : xm_M} {ls : List (Option Value)} {st : List Value} {h : xm_H} {Q : Option Value → xm_H → Prop} {x z : Int32} (hd : decode (xt_code y) pc = .ok (.ishr, 1))  (K : xm_S g d y (pc + 1, ls, .int (x >>> (z &&& 31)) :: st) h Q) : xm_S g d y (pc, ls, .int z :: .int x :: st) h Q :=
  xm_pure (fun _ _ _ _ _ _ _ _ _ _ _ _ _ _ _ C hX hl k => lv_ishr C.1 C.2.1 hd k) K
theorem xr_iushr {g : xm_G} {d pc : Nat} {y : xm_M} {ls : List (Option Value)} {st : List Value} {h : xm_H} {Q : Option Value → xm_H → Prop} {x z : Int32} (hd : decode (xt_code y) pc = .ok (.iushr, 1))  (K : xm_S g d y (pc + 1, ls, .int (x.toUInt32 >>> (z.toUInt32 &&& Int32.toUInt32 31)).toInt32 :: st) h Q) : xm_S g d y (pc, ls, .int z :: .int x :: st) h Q :=
  xm_pure (fun _ _ _ _ _ _ _ _ _ _ _ _ _ _ _ C hX hl k => lv_iushr C.1 C.2.1 hd rfl k) K
theorem xr_idiv {g : xm_G} {d pc : Nat} {y : xm_M} {ls : List (Option Value)} {st : List Value} {h : xm_H} {Q : Option Value → xm_H → Prop} {x z : Int32}  (hd : decode (xt_code y) pc = .ok (.idiv, 1)) (hz : ¬ z = 0) (K : xm_S g d y (pc + 1, ls, .int (x / z) :: st) h Q) : xm_S g d y (pc, ls, .int z :: .int x :: st) h Q :=
  xm_pure (fun _ _ _ _ _ _ _ _ _ _ _ _ _ _ _ C hX hl k => lv_idiv C.1 C.2.1 hd hz k) K
theorem xr_irem {g : xm_G} {d pc : Nat} {y : xm_M} {ls : List (Option Value)} {st : List Value} {h : xm_H} {Q : Option Value → xm_H → Prop} {x z : Int32}  (hd : decode (xt_code y) pc = .ok (.irem, 1)) (hz : ¬ z = 0) (K : xm_S g d y (pc + 1, ls, .int (x - x / z * z) :: st) h Q) : xm_S g d y (pc, ls, .int z :: .int x :: st) h Q :=
  xm_pure (fun _ _ _ _ _ _ _ _ _ _ _ _ _ _ _ C hX hl k => lv_irem C.1 C.2.1 hd hz k) K
theorem xr_ineg {g : xm_G} {d pc : Nat} {y : xm_M} {ls : List (Option Value)} {st : List Value} {h : xm_H} {Q : Option Value → xm_H → Prop} {x : Int32} (hd : decode (xt_code y) pc = .ok (.ineg, 1))  (K : xm_S g d y (pc + 1, ls, .int (-x) :: st) h Q) : xm_S g d y (pc, ls, .int x :: st) h Q :=
  xm_pure (fun _ _ _ _ _ _ _ _ _ _ _ _ _ _ _ C hX hl k => lv_ineg C.1 C.2.1 hd k) K
theorem xr_dup {g : xm_G} {d pc : Nat} {y : xm_M} {ls : List (Option Value)} {st : List Value} {h : xm_H} {Q : Option Value → xm_H → Prop} {v : Value}  (hd : decode (xt_code y) pc = .ok (.dup, 1)) (hv : v.category = 1) (K : xm_S g d y (pc + 1, ls, v :: v :: st) h Q) : xm_S g d y (pc, ls, v :: st) h Q :=
  xm_pure (fun _ _ _ _ _ _ _ _ _ _ _ _ _ _ _ C hX hl k => lv_dup C.1 C.2.1 hd hv k) K
theorem xr_pop {g : xm_G} {d pc : Nat} {y : xm_M} {ls : List (Option Value)} {st : List Value} {h : xm_H} {Q : Option Value → xm_H → Prop} {v : Value}  (hd : decode (xt_code y) pc = .ok (.pop, 1)) (hv : v.category = 1) (K : xm_S g d y (pc + 1, ls, st) h Q) : xm_S g d y (pc, ls, v :: st) h Q :=
  xm_pure (fun _ _ _ _ _ _ _ _ _ _ _ _ _ _ _ C hX hl k => lv_pop C.1 C.2.1 hd hv k) K
theorem xr_dup_x1 {g : xm_G} {d pc : Nat} {y : xm_M} {ls : List (Option Value)} {st : List Value} {h : xm_H} {Q : Option Value → xm_H → Prop} {v w : Value}  (hd : decode (xt_code y) pc = .ok (.dup_x1, 1)) (hv : v.category = 1) (hw : w.category = 1) (K : xm_S g d y (pc + 1, ls, v :: w :: v :: st) h Q) : xm_S g d y (pc, ls, v :: w :: st) h Q :=
  xm_pure (fun _ _ _ _ _ _ _ _ _ _ _ _ _ _ _ C hX hl k => lv_dup_x1 C.1 C.2.1 hd hv hw k) K
theorem xr_dup_x2 {g : xm_G} {d pc : Nat} {y : xm_M} {ls : List (Option Value)} {st : List Value} {h : xm_H} {Q : Option Value → xm_H → Prop} {v w u : Value}  (hd : decode (xt_code y) pc = .ok (.dup_x2, 1)) (hv : v.category = 1) (hw : w.category = 1) (hu : u.category = 1) (K : xm_S g d y (pc + 1, ls, v :: w :: u :: v :: st) h Q) : xm_S g d y (pc, ls, v :: w :: u :: st) h Q :=
  xm_pure (fun _ _ _ _ _ _ _ _ _ _ _ _ _ _ _ C hX hl k => lv_dup_x2 C.1 C.2.1 hd hv hw hu k) K
theorem xr_dup2 {g : xm_G} {d pc : Nat} {y : xm_M} {ls : List (Option Value)} {st : List Value} {h : xm_H} {Q : Option Value → xm_H → Prop} {v w : Value}  (hd : decode (xt_code y) pc = .ok (.dup2, 1)) (hv : v.category = 1) (hw : w.category = 1) (K : xm_S g d y (pc + 1, ls, v :: w :: v :: w :: st) h Q) : xm_S g d y (pc, ls, v :: w :: st) h Q :=
  xm_pure (fun _ _ _ _ _ _ _ _ _ _ _ _ _ _ _ C hX hl k => lv_dup2_11 C.1 C.2.1 hd hv hw k) K
theorem xr_goto {g : xm_G} {d pc : Nat} {y : xm_M} {ls : List (Option Value)} {st : List Value} {h : xm_H} {Q : Option Value → xm_H → Prop} {off : Int} {tgt : Nat}  (hd : decode (xt_code y) pc = .ok (.goto off, 3)) (ht : (pc : Int) + off = (tgt : Int)) (K : xm_S g d y (tgt, ls, st) h Q) : xm_S g d y (pc, ls, st) h Q :=
  xm_pure (fun _ _ _ _ _ _ _ _ _ _ _ _ _ _ _ C hX hl k => lv_goto C.1 C.2.1 hd ht k) K
theorem xr_ifnullN {g : xm_G} {d pc : Nat} {y : xm_M} {ls : List (Option Value)} {st : List Value} {h : xm_H} {Q : Option Value → xm_H → Prop} {off : Int} {tgt : Nat}  (hd : decode (xt_code y) pc = .ok (.ifnull off, 3)) (ht : (pc : Int) + off = (tgt : Int)) (K : xm_S g d y (tgt, ls, st) h Q) : xm_S g d y (pc, ls, .null :: st) h Q :=
  xm_pure (fun _ _ _ _ _ _ _ _ _ _ _ _ _ _ _ C hX hl k => lv_ifnullN C.1 C.2.1 hd ht k) K
theorem xr_ifnull {g : xm_G} {d pc : Nat} {y : xm_M} {ls : List (Option Value)} {st : List Value} {h : xm_H} {Q : Option Value → xm_H → Prop} {off : Int} {x : Nat} (hd : decode (xt_code y) pc = .ok (.ifnull off, 3))  (K : xm_S g d y (pc + 3, ls, st) h Q) : xm_S g d y (pc, ls, .ref x :: st) h Q :=
  xm_pure (fun _ _ _ _ _ _ _ _ _ _ _ _ _ _ _ C hX hl k => lv_ifnull C.1 C.2.1 hd k) K
theorem xr_ifnonnullN {g : xm_G} {d pc : Nat} {y : xm_M} {ls : List (Option Value)} {st : List Value} {h : xm_H} {Q : Option Value → xm_H → Prop} {off : Int} (hd : decode (xt_code y) pc = .ok (.ifnonnull off, 3))  (K : xm_S g d y (pc + 3, ls, st) h Q) : xm_S g d y (pc, ls, .null :: st) h Q :=
  xm_pure (fun _ _ _ _ _ _ _ _ _ _ _ _ _ _ _ C hX hl k => lv_ifnonnullN C.1 C.2.1 hd k) K
theorem xr_ifnonnull {g : xm_G} {d pc : Nat} {y : xm_M} {ls : List (Option Value)} {st : List Value} {h : xm_H} {Q : Option Value → xm_H → Prop} {off : Int} {tgt x : Nat}  (hd : decode (xt_code y) pc = .ok (.ifnonnull off, 3)) (ht : (pc : Int) + off = (tgt : Int)) (K : xm_S g d y (tgt, ls, st) h Q) : xm_S g d y (pc, ls, .ref x :: st) h Q :=
  xm_pure (fun _ _ _ _ _ _ _ _ _ _ _ _ _ _ _ C hX hl k => lv_ifnonnull C.1 C.2.1 hd ht k) K
theorem xr_tableOut {g : xm_G} {d pc : Nat} {y : xm_M} {ls : List (Option Value)} {st : List Value} {h : xm_H} {Q : Option Value → xm_H → Prop} {dflt lo hi : Int} {offs : Array Int} {len : Nat} {x : Int32} {tgt : Nat}  (hd : decode (xt_code y) pc = .ok (.tableswitch dflt lo hi offs, len)) (hx : x.toInt < lo ∨ hi < x.toInt) (ht : (pc : Int) + dflt = (tgt : Int)) (K : xm_S g d y (tgt, ls, st) h Q) : xm_S g d y (pc, ls, .int x :: st) h Q :=
  xm_pure (fun _ _ _ _ _ _ _ _ _ _ _ _ _ _ _ C hX hl k => lv_tableOut C.1 C.2.1 hd hx ht k) K
theorem xr_tableIn {g : xm_G} {d pc : Nat} {y : xm_M} {ls : List (Option Value)} {st : List Value} {h : xm_H} {Q : Option Value → xm_H → Prop} {dflt lo hi : Int} {offs : Array Int} {len : Nat} {x : Int32} {off : Int} {tgt : Nat}  (hd : decode (xt_code y) pc = .ok (.tableswitch dflt lo hi offs, len)) (h1 : ¬ x.toInt < lo) (h2 : ¬ hi < x.toInt) (ho : offs[(x.toInt - lo).toNat]? = some off) (ht : (pc : Int) + off = (tgt : Int)) (K : xm_S g d y (tgt, ls, st) h Q) : xm_S g d y (pc, ls, .int x :: st) h Q :=
  xm_pure (fun _ _ _ _ _ _ _ _ _ _ _ _ _ _ _ C hX hl k => lv_tableIn C.1 C.2.1 hd h1 h2 ho ht k) K
theorem xr_lookup {g : xm_G} {d pc : Nat} {y : xm_M} {ls : List (Option Value)} {st : List Value} {h : xm_H} {Q : Option Value → xm_H → Prop} {dflt : Int} {ps : Array (Int × Int)} {len : Nat} {x : Int32} {off : Int} {tgt : Nat}  (hd : decode (xt_code y) pc = .ok (.lookupswitch dflt ps, len)) (hp : (ps.toList.zip (ps.toList.drop 1)).all (fun (a, next) => a.1 < next.1) = true) (ho : Op.lookupswitch.offset ps.toList dflt x.toInt = off) (ht : (pc : Int) + off = (tgt : Int)) (K : xm_S g d y (tgt, ls, st) h Q) : xm_S g d y (pc, ls, .int x :: st) h Q :=
  xm_pure (fun _ _ _ _ _ _ _ _ _ _ _ _ _ _ _ C hX hl k => lv_lookup C.1 C.2.1 hd hp ho ht k) K
theorem xr_icmp_eq {g : xm_G} {d pc : Nat} {y : xm_M} {ls : List (Option Value)} {st : List Value} {h : xm_H} {Q : Option Value → xm_H → Prop} {x z : Int32} {off : Int} {tgt : Nat} (hd : decode (xt_code y) pc = .ok (.if_icmp .eq off, 3)) (ht : (pc : Int) + off = (tgt : Int)) (kt : x = z → xm_S g d y (tgt, ls, st) h Q) (kf : ¬ x = z → xm_S g d y (pc + 3, ls, st) h Q) : xm_S g d y (pc, ls, .int z :: .int x :: st) h Q := by
  by_cases hc : x = z
  · exact xm_pure (fun _ _ _ _ _ _ _ _ _ _ _ _ _ _ _ C hX hl k => lv_icmp_eq C.1 C.2.1 hd ht (fun _ => k) (fun n => absurd hc (by simpa using n))) (kt hc)
  · exact xm_pure (fun _ _ _ _ _ _ _ _ _ _ _ _ _ _ _ C hX hl k => lv_icmp_eq C.1 C.2.1 hd ht (fun n => absurd n hc) (fun _ => k)) (kf (by simpa using hc))
theorem xr_if_eq {g : xm_G} {d pc : Nat} {y : xm_M} {ls : List (Option Value)} {st : List Value} {h : xm_H} {Q : Option Value → xm_H → Prop} {x : Int32} {off : Int} {tgt : Nat} (hd : decode (xt_code y) pc = .ok (.ifCond .eq off, 3)) (ht : (pc : Int) + off = (tgt : Int)) (kt : x = 0 → xm_S g d y (tgt, ls, st) h Q) (kf : ¬ x = 0 → xm_S g d y (pc + 3, ls, st) h Q) : xm_S g d y (pc, ls, .int x :: st) h Q := by
  by_cases hc : x = 0
  · exact xm_pure (fun _ _ _ _ _ _ _ _ _ _ _ _ _ _ _ C hX hl k => lv_if_eq C.1 C.2.1 hd ht (fun _ => k) (fun n => absurd hc (by simpa using n))) (kt hc)
  · exact xm_pure (fun _ _ _ _ _ _ _ _ _ _ _ _ _ _ _ C hX hl k => lv_if_eq C.1 C.2.1 hd ht (fun n => absurd n hc) (fun _ => k)) (kf (by simpa using hc))
theorem xr_icmp_ne {g : xm_G} {d pc : Nat} {y : xm_M} {ls : List (Option Value)} {st : List Value} {h : xm_H} {Q : Option Value → xm_H → Prop} {x z : Int32} {off : Int} {tgt : Nat} (hd : decode (xt_code y) pc = .ok (.if_icmp .ne off, 3)) (ht : (pc : Int) + off = (tgt : Int)) (kt : ¬ x = z → xm_S g d y (tgt, ls, st) h Q) (kf : x = z → xm_S g d y (pc + 3, ls, st) h Q) : xm_S g d y (pc, ls, .int z :: .int x :: st) h Q := by
  by_cases hc : ¬ x = z
  · exact xm_pure (fun _ _ _ _ _ _ _ _ _ _ _ _ _ _ _ C hX hl k => lv_icmp_ne C.1 C.2.1 hd ht (fun _ => k) (fun n => absurd hc (by simpa using n))) (kt hc)
  · exact xm_pure (fun _ _ _ _ _ _ _ _ _ _ _ _ _ _ _ C hX hl k => lv_icmp_ne C.1 C.2.1 hd ht (fun n => absurd n hc) (fun _ => k)) (kf (by simpa using hc))
theorem xr_if_ne {g : xm_G} {d pc : Nat} {y : xm_M} {ls : List (Option Value)} {st : List Value} {h : xm_H} {Q : Option Value → xm_H → Prop} {x : Int32} {off : Int} {tgt : Nat} (hd : decode (xt_code y) pc = .ok (.ifCond .ne off, 3)) (ht : (pc : Int) + off = (tgt : Int)) (kt : ¬ x = 0 → xm_S g d y (tgt, ls, st) h Q) (kf : x = 0 → xm_S g d y (pc + 3, ls, st) h Q) : xm_S g d y (pc, ls, .int x :: st) h Q := by
  by_cases hc : ¬ x = 0
  · exact xm_pure (fun _ _ _ _ _ _ _ _ _ _ _ _ _ _ _ C hX hl k => lv_if_ne C.1 C.2.1 hd ht (fun _ => k) (fun n => absurd hc (by simpa using n))) (kt hc)
  · exact xm_pure (fun _ _ _ _ _ _ _ _ _ _ _ _ _ _ _ C hX hl k => lv_if_ne C.1 C.2.1 hd ht (fun n => absurd n hc) (fun _ => k)) (kf (by simpa using hc))
theorem xr_icmp_lt {g : xm_G} {d pc : Nat} {y : xm_M} {ls : List (Option Value)} {st : List Value} {h : xm_H} {Q : Option Value → xm_H → Prop} {x z : Int32} {off : Int} {tgt : Nat} (hd : decode (xt_code y) pc = .ok (.if_icmp .lt off, 3)) (ht : (pc : Int) + off = (tgt : Int)) (kt : x < z → xm_S g d y (tgt, ls, st) h Q) (kf : ¬ x < z → xm_S g d y (pc + 3, ls, st) h Q) : xm_S g d y (pc, ls, .int z :: .int x :: st) h Q := by
  by_cases hc : x < z
  · exact xm_pure (fun _ _ _ _ _ _ _ _ _ _ _ _ _ _ _ C hX hl k => lv_icmp_lt C.1 C.2.1 hd ht (fun _ => k) (fun n => absurd hc (by simpa using n))) (kt hc)
  · exact xm_pure (fun _ _ _ _ _ _ _ _ _ _ _ _ _ _ _ C hX hl k => lv_icmp_lt C.1 C.2.1 hd ht (fun n => absurd n hc) (fun _ => k)) (kf (by simpa using hc))
theorem xr_if_lt {g : xm_G} {d pc : Nat} {y : xm_M} {ls : List (Option Value)} {st : List Value} {h : xm_H} {Q : Option Value → xm_H → Prop} {x : Int32} {off : Int} {tgt : Nat} (hd : decode (xt_code y) pc = .ok (.ifCond .lt off, 3)) (ht : (pc : Int) + off = (tgt : Int)) (kt : x < 0 → xm_S g d y (tgt, ls, st) h Q) (kf : ¬ x < 0 → xm_S g d y (pc + 3, ls, st) h Q) : xm_S g d y (pc, ls, .int x :: st) h Q := by
  by_cases hc : x < 0
  · exact xm_pure (fun _ _ _ _ _ _ _ _ _ _ _ _ _ _ _ C hX hl k => lv_if_lt C.1 C.2.1 hd ht (fun _ => k) (fun n => absurd hc (by simpa using n))) (kt hc)
  · exact xm_pure (fun _ _ _ _ _ _ _ _ _ _ _ _ _ _ _ C hX hl k => lv_if_lt C.1 C.2.1 hd ht (fun n => absurd n hc) (fun _ => k)) (kf (by simpa using hc))
theorem xr_icmp_ge {g : xm_G} {d pc : Nat} {y : xm_M} {ls : List (Option Value)} {st : List Value} {h : xm_H} {Q : Option Value → xm_H → Prop} {x z : Int32} {off : Int} {tgt : Nat} (hd : decode (xt_code y) pc = .ok (.if_icmp .ge off, 3)) (ht : (pc : Int) + off = (tgt : Int)) (kt : z ≤ x → xm_S g d y (tgt, ls, st) h Q) (kf : ¬ z ≤ x → xm_S g d y (pc + 3, ls, st) h Q) : xm_S g d y (pc, ls, .int z :: .int x :: st) h Q := by
  by_cases hc : z ≤ x
  · exact xm_pure (fun _ _ _ _ _ _ _ _ _ _ _ _ _ _ _ C hX hl k => lv_icmp_ge C.1 C.2.1 hd ht (fun _ => k) (fun n => absurd hc (by simpa using n))) (kt hc)
  · exact xm_pure (fun _ _ _ _ _ _ _ _ _ _ _ _ _ _ _ C hX hl k => lv_icmp_ge C.1 C.2.1 hd ht (fun n => absurd n hc) (fun _ => k)) (kf (by simpa using hc))
theorem xr_if_ge {g : xm_G} {d pc : Nat} {y : xm_M} {ls : List (Option Value)} {st : List Value} {h : xm_H} {Q : Option Value → xm_H → Prop} {x : Int32} {off : Int} {tgt : Nat} (hd : decode (xt_code y) pc = .ok (.ifCond .ge off, 3)) (ht : (pc : Int) + off = (tgt : Int)) (kt : 0 ≤ x → xm_S g d y (tgt, ls, st) h Q) (kf : ¬ 0 ≤ x → xm_S g d y (pc + 3, ls, st) h Q) : xm_S g d y (pc, ls, .int x :: st) h Q := by
  by_cases hc : 0 ≤ x
  · exact xm_pure (fun _ _ _ _ _ _ _ _ _ _ _ _ _ _ _ C hX hl k => lv_if_ge C.1 C.2.1 hd ht (fun _ => k) (fun n => absurd hc (by simpa using n))) (kt hc)
  · exact xm_pure (fun _ _ _ _ _ _ _ _ _ _ _ _ _ _ _ C hX hl k => lv_if_ge C.1 C.2.1 hd ht (fun n => absurd n hc) (fun _ => k)) (kf (by simpa using hc))
theorem xr_icmp_gt {g : xm_G} {d pc : Nat} {y : xm_M} {ls : List (Option Value)} {st : List Value} {h : xm_H} {Q : Option Value → xm_H → Prop} {x z : Int32} {off : Int} {tgt : Nat} (hd : decode (xt_code y) pc = .ok (.if_icmp .gt off, 3)) (ht : (pc : Int) + off = (tgt : Int)) (kt : z < x → xm_S g d y (tgt, ls, st) h Q) (kf : ¬ z < x → xm_S g d y (pc + 3, ls, st) h Q) : xm_S g d y (pc, ls, .int z :: .int x :: st) h Q := by
  by_cases hc : z < x
  · exact xm_pure (fun _ _ _ _ _ _ _ _ _ _ _ _ _ _ _ C hX hl k => lv_icmp_gt C.1 C.2.1 hd ht (fun _ => k) (fun n => absurd hc (by simpa using n))) (kt hc)
  · exact xm_pure (fun _ _ _ _ _ _ _ _ _ _ _ _ _ _ _ C hX hl k => lv_icmp_gt C.1 C.2.1 hd ht (fun n => absurd n hc) (fun _ => k)) (kf (by simpa using hc))
theorem xr_if_gt {g : xm_G} {d pc : Nat} {y : xm_M} {ls : List (Option Value)} {st : List Value} {h : xm_H} {Q : Option Value → xm_H → Prop} {x : Int32} {off : Int} {tgt : Nat} (hd : decode (xt_code y) pc = .ok (.ifCond .gt off, 3)) (ht : (pc : Int) + off = (tgt : Int)) (kt : 0 < x → xm_S g d y (tgt, ls, st) h Q) (kf : ¬ 0 < x → xm_S g d y (pc + 3, ls, st) h Q) : xm_S g d y (pc, ls, .int x :: st) h Q := by
  by_cases hc : 0 < x
  · exact xm_pure (fun _ _ _ _ _ _ _ _ _ _ _ _ _ _ _ C hX hl k => lv_if_gt C.1 C.2.1 hd ht (fun _ => k) (fun n => absurd hc (by simpa using n))) (kt hc)
  · exact xm_pure (fun _ _ _ _ _ _ _ _ _ _ _ _ _ _ _ C hX hl k => lv_if_gt C.1 C.2.1 hd ht (fun n => absurd n hc) (fun _ => k)) (kf (by simpa using hc))
theorem xr_icmp_le {g : xm_G} {d pc : Nat} {y : xm_M} {ls : List (Option Value)} {st : List Value} {h : xm_H} {Q : Option Value → xm_H → Prop} {x z : Int32} {off : Int} {tgt : Nat} (hd : decode (xt_code y) pc = .ok (.if_icmp .le off, 3)) (ht : (pc : Int) + off = (tgt : Int)) (kt : x ≤ z → xm_S g d y (tgt, ls, st) h Q) (kf : ¬ x ≤ z → xm_S g d y (pc + 3, ls, st) h Q) : xm_S g d y (pc, ls, .int z :: .int x :: st) h Q := by
  by_cases hc : x ≤ z
  · exact xm_pure (fun _ _ _ _ _ _ _ _ _ _ _ _ _ _ _ C hX hl k => lv_icmp_le C.1 C.2.1 hd ht (fun _ => k) (fun n => absurd hc (by simpa using n))) (kt hc)
  · exact xm_pure (fun _ _ _ _ _ _ _ _ _ _ _ _ _ _ _ C hX hl k => lv_icmp_le C.1 C.2.1 hd ht (fun n => absurd n hc) (fun _ => k)) (kf (by simpa using hc))
theorem xr_if_le {g : xm_G} {d pc : Nat} {y : xm_M} {ls : List (Option Value)} {st : List Value} {h : xm_H} {Q : Option Value → xm_H → Prop} {x : Int32} {off : Int} {tgt : Nat} (hd : decode (xt_code y) pc = .ok (.ifCond .le off, 3)) (ht : (pc : Int) + off = (tgt : Int)) (kt : x ≤ 0 → xm_S g d y (tgt, ls, st) h Q) (kf : ¬ x ≤ 0 → xm_S g d y (pc + 3, ls, st) h Q) : xm_S g d y (pc, ls, .int x :: st) h Q := by
  by_cases hc : x ≤ 0
  · exact xm_pure (fun _ _ _ _ _ _ _ _ _ _ _ _ _ _ _ C hX hl k => lv_if_le C.1 C.2.1 hd ht (fun _ => k) (fun n => absurd hc (by simpa using n))) (kt hc)
  · exact xm_pure (fun _ _ _ _ _ _ _ _ _ _ _ _ _ _ _ C hX hl k => lv_if_le C.1 C.2.1 hd ht (fun n => absurd n hc) (fun _ => k)) (kf (by simpa using hc))
theorem xr_ifnullQ {g : xm_G} {d pc : Nat} {y : xm_M} {ls : List (Option Value)} {st : List Value} {h : xm_H} {Q : Option Value → xm_H → Prop} {r : Option Nat} {off : Int} {tgt : Nat} (hd : decode (xt_code y) pc = .ok (.ifnull off, 3)) (ht : (pc : Int) + off = (tgt : Int)) (kt : r = none → xm_S g d y (tgt, ls, st) h Q) (kf : ∀ a, r = some a → xm_S g d y (pc + 3, ls, st) h Q) : xm_S g d y (pc, ls, va_rf r :: st) h Q := by
  cases r with
  | none => exact xr_ifnullN hd ht (kt rfl)
  | some a => exact xr_ifnull hd (kf a rfl)
theorem xr_ifnonnullQ {g : xm_G} {d pc : Nat} {y : xm_M} {ls : List (Option Value)} {st : List Value} {h : xm_H} {Q : Option Value → xm_H → Prop} {r : Option Nat} {off : Int} {tgt : Nat} (hd : decode (xt_code y) pc = .ok (.ifnonnull off, 3)) (ht : (pc : Int) + off = (tgt : Int)) (kt : ∀ a, r = some a → xm_S g d y (tgt, ls, st) h Q) (kf : r = none → xm_S g d y (pc + 3, ls, st) h Q) : xm_S g d y (pc, ls, va_rf r :: st) h Q := by
  cases r with
  | none => exact xr_ifnonnullN hd (kf rfl)
  | some a => exact xr_ifnonnull hd ht (kt a rfl)
theorem xr_acmp_eq {g : xm_G} {d pc : Nat} {y : xm_M} {ls : List (Option Value)} {st : List Value} {h : xm_H} {Q : Option Value → xm_H → Prop} {rx ry : Option Nat} {off : Int} {tgt : Nat} (hd : decode (xt_code y) pc = .ok (.if_acmp .eq off, 3)) (ht : (pc : Int) + off = (tgt : Int)) (kt : rx = ry → xm_S g d y (tgt, ls, st) h Q) (kf : ¬ rx = ry → xm_S g d y (pc + 3, ls, st) h Q) : xm_S g d y (pc, ls, va_rf ry :: va_rf rx :: st) h Q := by
  by_cases hc : rx = ry
  · exact xm_pure (fun _ _ _ _ _ _ _ _ _ _ _ _ _ _ _ C hX hl k => lv_acmp_eq C.1 C.2.1 hd ht (fun _ => k) (fun n => absurd hc (by simpa using n))) (kt hc)
  · exact xm_pure (fun _ _ _ _ _ _ _ _ _ _ _ _ _ _ _ C hX hl k => lv_acmp_eq C.1 C.2.1 hd ht (fun n => absurd n hc) (fun _ => k)) (kf (by simpa using hc))
theorem xr_acmp_ne {g : xm_G} {d pc : Nat} {y : xm_M} {ls : List (Option Value)} {st : List Value} {h : xm_H} {Q : Option Value → xm_H → Prop} {rx ry : Option Nat} {off : Int} {tgt : Nat} (hd : decode (xt_code y) pc = .ok (.if_acmp .ne off, 3)) (ht : (pc : Int) + off = (tgt : Int)) (kt : ¬ rx = ry → xm_S g d y (tgt, ls, st) h Q) (kf : rx = ry → xm_S g d y (pc + 3, ls, st) h Q) : xm_S g d y (pc, ls, va_rf ry :: va_rf rx :: st) h Q := by
  by_cases hc : ¬ rx = ry
  · exact xm_pure (fun _ _ _ _ _ _ _ _ _ _ _ _ _ _ _ C hX hl k => lv_acmp_ne C.1 C.2.1 hd ht (fun _ => k) (fun n => absurd hc (by simpa using n))) (kt hc)
  · exact xm_pure (fun _ _ _ _ _ _ _ _ _ _ _ _ _ _ _ C hX hl k => lv_acmp_ne C.1 C.2.1 hd ht (fun n => absurd n hc) (fun _ => k)) (kf (by simpa using hc))
theorem xr_istore {g : xm_G} {d pc : Nat} {y : xm_M} {ls : List (Option Value)} {st : List Value} {h : xm_H} {Q : Option Value → xm_H → Prop} {i : Nat} {x : Int32} (hd : decode (xt_code y) pc = .ok (.istore i, 2)) (hi : (i : Nat) < ls.length) (K : xm_S g d y (pc + 2, ls.set i (some (.int x)), st) h Q) : xm_S g d y (pc, ls, .int x :: st) h Q := by
  obtain ⟨r, h', hq, h1, h2, h3, k⟩ := K
  refine ⟨r, h', hq, h1, h2, by rw [← h3]; simp, fun p e R s m args below meth c H locs cells slots Z la C hR hX hS hl kr => ?_⟩
  exact lv_istore C.1 C.2.1 hd hl.has hi rfl (fun la' hl' => k p e R s m args below meth c H locs cells slots Z la' C hR hX hS (hl.of rfl hi hl') kr)
theorem xr_istore_n {g : xm_G} {d pc : Nat} {y : xm_M} {ls : List (Option Value)} {st : List Value} {h : xm_H} {Q : Option Value → xm_H → Prop} {i : Fin 4} {x : Int32} (hd : decode (xt_code y) pc = .ok (.istore_n i, 1)) (hi : ((i : Nat) : Nat) < ls.length) (K : xm_S g d y (pc + 1, ls.set (i : Nat) (some (.int x)), st) h Q) : xm_S g d y (pc, ls, .int x :: st) h Q := by
  obtain ⟨r, h', hq, h1, h2, h3, k⟩ := K
  refine ⟨r, h', hq, h1, h2, by rw [← h3]; simp, fun p e R s m args below meth c H locs cells slots Z la C hR hX hS hl kr => ?_⟩
  exact lv_istore_n C.1 C.2.1 hd rfl hl.has hi rfl (fun la' hl' => k p e R s m args below meth c H locs cells slots Z la' C hR hX hS (hl.of rfl hi hl') kr)
theorem xr_astore {g : xm_G} {d pc : Nat} {y : xm_M} {ls : List (Option Value)} {st : List Value} {h : xm_H} {Q : Option Value → xm_H → Prop} {i : Nat} {x : Nat} (hd : decode (xt_code y) pc = .ok (.astore i, 2)) (hi : (i : Nat) < ls.length) (K : xm_S g d y (pc + 2, ls.set i (some (.ref x)), st) h Q) : xm_S g d y (pc, ls, .ref x :: st) h Q := by
  obtain ⟨r, h', hq, h1, h2, h3, k⟩ := K
  refine ⟨r, h', hq, h1, h2, by rw [← h3]; simp, fun p e R s m args below meth c H locs cells slots Z la C hR hX hS hl kr => ?_⟩
  exact lv_astore C.1 C.2.1 hd hl.has hi rfl (fun la' hl' => k p e R s m args below meth c H locs cells slots Z la' C hR hX hS (hl.of rfl hi hl') kr)
theorem xr_astore_n {g : xm_G} {d pc : Nat} {y : xm_M} {ls : List (Option Value)} {st : List Value} {h : xm_H} {Q : Option Value → xm_H → Prop} {i : Fin 4} {x : Nat} (hd : decode (xt_code y) pc = .ok (.astore_n i, 1)) (hi : ((i : Nat) : Nat) < ls.length) (K : xm_S g d y (pc + 1, ls.set (i : Nat) (some (.ref x)), st) h Q) : xm_S g d y (pc, ls, .ref x :: st) h Q := by
  obtain ⟨r, h', hq, h1, h2, h3, k⟩ := K
  refine ⟨r, h', hq, h1, h2, by rw [← h3]; simp, fun p e R s m args below meth c H locs cells slots Z la C hR hX hS hl kr => ?_⟩
  exact lv_astore_n C.1 C.2.1 hd rfl hl.has hi rfl (fun la' hl' => k p e R s m args below meth c H locs cells slots Z la' C hR hX hS (hl.of rfl hi hl') kr)
theorem xr_astoreN {g : xm_G} {d pc : Nat} {y : xm_M} {ls : List (Option Value)} {st : List Value} {h : xm_H} {Q : Option Value → xm_H → Prop} {i : Nat} (hd : decode (xt_code y) pc = .ok (.astore i, 2)) (hi : (i : Nat) < ls.length) (K : xm_S g d y (pc + 2, ls.set i (some .null), st) h Q) : xm_S g d y (pc, ls, .null :: st) h Q := by
  obtain ⟨r, h', hq, h1, h2, h3, k⟩ := K
  refine ⟨r, h', hq, h1, h2, by rw [← h3]; simp, fun p e R s m args below meth c H locs cells slots Z la C hR hX hS hl kr => ?_⟩
  exact lv_astoreN C.1 C.2.1 hd hl.has hi rfl (fun la' hl' => k p e R s m args below meth c H locs cells slots Z la' C hR hX hS (hl.of rfl hi hl') kr)
theorem xr_astore_nN {g : xm_G} {d pc : Nat} {y : xm_M} {ls : List (Option Value)} {st : List Value} {h : xm_H} {Q : Option Value → xm_H → Prop} {i : Fin 4} (hd : decode (xt_code y) pc = .ok (.astore_n i, 1)) (hi : ((i : Nat) : Nat) < ls.length) (K : xm_S g d y (pc + 1, ls.set (i : Nat) (some .null), st) h Q) : xm_S g d y (pc, ls, .null :: st) h Q := by
  obtain ⟨r, h', hq, h1, h2, h3, k⟩ := K
  refine ⟨r, h', hq, h1, h2, by rw [← h3]; simp, fun p e R s m args below meth c H locs cells slots Z la C hR hX hS hl kr => ?_⟩
  exact lv_astore_nN C.1 C.2.1 hd rfl hl.has hi rfl (fun la' hl' => k p e R s m args below meth c H locs cells slots Z la' C hR hX hS (hl.of rfl hi hl') kr)
theorem xr_iinc {g : xm_G} {d pc : Nat} {y : xm_M} {ls : List (Option Value)} {st : List Value} {h : xm_H} {Q : Option Value → xm_H → Prop} {i : Nat} {n : Int} {x v : Int32} (hd : decode (xt_code y) pc = .ok (.iinc i n, 3)) (hx : ls[i]? = some (some (.int x))) (hv : x + Int32.ofInt n = v) (K : xm_S g d y (pc + 3, ls.set i (some (.int v)), st) h Q) : xm_S g d y (pc, ls, st) h Q := by
  obtain ⟨r, h', hq, h1, h2, h3, k⟩ := K
  refine ⟨r, h', hq, h1, h2, by rw [← h3]; simp, fun p e R s m args below meth c H locs cells slots Z la C hR hX hS hl kr => ?_⟩
  have hi : i < ls.length := (List.getElem?_eq_some_iff.mp hx).1
  obtain ⟨j, hj⟩ := List.getElem?_of_mem (xm_al_mem (q := (i, Value.int x)).mpr hx)
  exact lv_iinc C.1 C.2.1 hd hl.has hj hv hi rfl (fun la' hl' => k p e R s m args below meth c H locs cells slots Z la' C hR hX hS (hl.of rfl hi hl') kr)
theorem xr_aloadQ {g : xm_G} {d pc : Nat} {y : xm_M} {ls : List (Option Value)} {st : List Value} {h : xm_H} {Q : Option Value → xm_H → Prop} {i : Nat} {r : Option Nat} (hd : decode (xt_code y) pc = .ok (.aload i, 2)) (hv : ls[i]? = some (some (va_rf r))) (K : xm_S g d y (pc + 2, ls, va_rf r :: st) h Q) : xm_S g d y (pc, ls, st) h Q := by
  cases r with
  | none => exact xr_aloadN hd hv K
  | some a => exact xr_aload hd hv K
theorem xr_aload_nQ {g : xm_G} {d pc : Nat} {y : xm_M} {ls : List (Option Value)} {st : List Value} {h : xm_H} {Q : Option Value → xm_H → Prop} {i : Fin 4} {r : Option Nat} (hd : decode (xt_code y) pc = .ok (.aload_n i, 1)) (hv : ls[(i : Nat)]? = some (some (va_rf r))) (K : xm_S g d y (pc + 1, ls, va_rf r :: st) h Q) : xm_S g d y (pc, ls, st) h Q := by
  cases r with
  | none => exact xr_aload_nN hd hv K
  | some a => exact xr_aload_n hd hv K
theorem xr_astoreQ {g : xm_G} {d pc : Nat} {y : xm_M} {ls : List (Option Value)} {st : List Value} {h : xm_H} {Q : Option Value → xm_H → Prop} {i : Nat} {r : Option Nat} (hd : decode (xt_code y) pc = .ok (.astore i, 2)) (hi : i < ls.length) (K : xm_S g d y (pc + 2, ls.set i (some (va_rf r)), st) h Q) : xm_S g d y (pc, ls, va_rf r :: st) h Q := by
  cases r with
  | none => exact xr_astoreN hd hi K
  | some a => exact xr_astore hd hi K
theorem xr_astore_nQ {g : xm_G} {d pc : Nat} {y : xm_M} {ls : List (Option Value)} {st : List Value} {h : xm_H} {Q : Option Value → xm_H → Prop} {i : Fin 4} {r : Option Nat} (hd : decode (xt_code y) pc = .ok (.astore_n i, 1)) (hi : (i : Nat) < ls.length) (K : xm_S g d y (pc + 1, ls.set (i : Nat) (some (va_rf r)), st) h Q) : xm_S g d y (pc, ls, va_rf r :: st) h Q := by
  cases r with
  | none => exact xr_astore_nN hd hi K
  | some a => exact xr_astore_n hd hi K
theorem xm_end {g : xm_G} {d pc : Nat} {y : xm_M} {ls : List (Option Value)} {st : List Value} {h : xm_H} {Q : Option Value → xm_H → Prop} {I : Jvm.ClassFile.Instr} {r : Option Value} (hd : decode (xt_code y) pc = .ok (I, 1)) (hn : ls.length = xt_maxL y) (hr : xm_ret y I st r) (hq : Q r h) : xm_S g d y (pc, ls, st) h Q :=
  ⟨r, h, hq, Nat.le_refl _, Nat.le_refl _, hn, fun p e R s m args below meth c H locs cells slots Z la C hR hX hS hl kr => by
    have k := kr pc la H locs I st hd hr hX hS
    simpa using k⟩
theorem xr_ireturn {g : xm_G} {d pc : Nat} {y : xm_M} {ls : List (Option Value)} {h : xm_H} {Q : Option Value → xm_H → Prop} {v : Int32} {ty : FieldType} (hd : decode (xt_code y) pc = .ok (.ireturn, 1)) (hn : ls.length = xt_maxL y) (ht : xt_ret y = some ty) (hv : narrow ty (.int v) = .int v) (hq : Q (some (.int v)) h) : xm_S g d y (pc, ls, [.int v]) h Q :=
  xm_end hd hn (Or.inl ⟨rfl, v, ty, rfl, rfl, ht, hv⟩) hq
theorem xr_return {g : xm_G} {d pc : Nat} {y : xm_M} {ls : List (Option Value)} {h : xm_H} {Q : Option Value → xm_H → Prop} (hd : decode (xt_code y) pc = .ok (.return_, 1)) (hn : ls.length = xt_maxL y) (ht : xt_ret y = none) (hq : Q none h) : xm_S g d y (pc, ls, []) h Q :=
  xm_end hd hn (Or.inr (Or.inl ⟨rfl, rfl, rfl, ht⟩)) hq
theorem xr_areturn {g : xm_G} {d pc : Nat} {y : xm_M} {ls : List (Option Value)} {h : xm_H} {Q : Option Value → xm_H → Prop} {v : Option Nat} {C : String} (hd : decode (xt_code y) pc = .ok (.areturn, 1)) (hn : ls.length = xt_maxL y) (ht : xt_ret y = some (.object C)) (hq : Q (some (va_rf v)) h) : xm_S g d y (pc, ls, [va_rf v]) h Q :=
  xm_end hd hn (Or.inr (Or.inr ⟨rfl, va_rf v, .object C, rfl, rfl, ht, Or.inl ⟨C, rfl⟩, by cases v with
    | none => exact Or.inl rfl
    | some a => exact Or.inr ⟨a, rfl⟩⟩)) hq
