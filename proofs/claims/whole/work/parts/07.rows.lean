/-! ROWS: one instruction each, over the store -/
section XROWS
variable {cc : ByteArray} {nL : Nat} {ret : Option FieldType} {own : String} {ini : Bool} {R : Room} {Z : xG → List Frame → Array Value → State → State → Prop} {pc : Nat} {lv : List (Nat × xv)} {st : List xv} {w : xSt} {cu su : Nat}
theorem x_at {γ : xG} {ls : Array Slot} {nL : Nat} {lv : List (Nat × xv)} (h : lv_has ls nL (lv.map (fun q => (q.1, xC γ q.2)))) {k i : Nat} {v : xv} (hk : lv[k]? = some (i, v)) : ls[i]? = some (.val (xC γ v)) := by
  refine h.2.2 (i, xC γ v) ?_
  exact List.mem_map.mpr ⟨(i, v), List.mem_of_getElem? hk, rfl⟩
def xdrop1 (i : Nat) (lv : List (Nat × xv)) : List (Nat × xv) := lv.filter (fun q => !(q.1 == i) && !(q.1 + 1 == i && xcat q.2 == 2))
def xdrop2 (i : Nat) (lv : List (Nat × xv)) : List (Nat × xv) := lv.filter (fun q => !(q.1 == i) && (!(q.1 == i + 1) && !(q.1 + 1 == i && xcat q.2 == 2)))
theorem xdrop1_map (γ : xG) (i : Nat) (lv : List (Nat × xv)) : (lv.map (fun q => (q.1, xC γ q.2))).filter (fun q => !(q.1 == i) && !(q.1 + 1 == i && q.2.category == 2)) = (xdrop1 i lv).map (fun q => (q.1, xC γ q.2)) := by
  unfold xdrop1
  rw [List.filter_map]
  congr 1
  apply List.filter_congr
  intro q _
  simp only [Function.comp, xC_cat]
theorem xdrop2_map (γ : xG) (i : Nat) (lv : List (Nat × xv)) : (lv.map (fun q => (q.1, xC γ q.2))).filter (fun q => !(q.1 == i) && (!(q.1 == i + 1) && !(q.1 + 1 == i && q.2.category == 2))) = (xdrop2 i lv).map (fun q => (q.1, xC γ q.2)) := by
  unfold xdrop2
  rw [List.filter_map]
  congr 1
  apply List.filter_congr
  intro q _
  simp only [Function.comp, xC_cat]

theorem x_iconst {n : Int} {v : Int32} (hd : decode cc pc = .ok (.iconst n, 1)) (hv : Int32.ofInt n = v) (k : xX cc nL ret own ini R Z (pc + 1) lv (xI v :: st) w cu su) : xX cc nL ret own ini R Z pc lv (st) w cu su := by
  intro p l e s m args below meth c γ H locs cells slots ls C hH hS hB hc hs hl
  exact lv_iconst C.1 C.2.1 hd hv (k p l e s m args below meth c γ H locs cells slots ls C hH hS hB hc hs hl)

theorem x_bipush {n : Int} {v : Int32} (hd : decode cc pc = .ok (.bipush n, 2)) (hv : (Int8.ofInt n).toInt32 = v) (k : xX cc nL ret own ini R Z (pc + 2) lv (xI v :: st) w cu su) : xX cc nL ret own ini R Z pc lv (st) w cu su := by
  intro p l e s m args below meth c γ H locs cells slots ls C hH hS hB hc hs hl
  exact lv_bipush C.1 C.2.1 hd hv (k p l e s m args below meth c γ H locs cells slots ls C hH hS hB hc hs hl)

theorem x_sipush {n : Int} {v : Int32} (hd : decode cc pc = .ok (.sipush n, 3)) (hv : (Int16.ofInt n).toInt32 = v) (k : xX cc nL ret own ini R Z (pc + 3) lv (xI v :: st) w cu su) : xX cc nL ret own ini R Z pc lv (st) w cu su := by
  intro p l e s m args below meth c γ H locs cells slots ls C hH hS hB hc hs hl
  exact lv_sipush C.1 C.2.1 hd hv (k p l e s m args below meth c γ H locs cells slots ls C hH hS hB hc hs hl)

theorem x_lconst {n : Fin 2} {v : Int64} (hd : decode cc pc = .ok (.lconst n, 1)) (hv : Int64.ofNat (n : Nat) = v) (k : xX cc nL ret own ini R Z (pc + 1) lv (xL v :: st) w cu su) : xX cc nL ret own ini R Z pc lv (st) w cu su := by
  intro p l e s m args below meth c γ H locs cells slots ls C hH hS hB hc hs hl
  exact lv_lconst C.1 C.2.1 hd hv (k p l e s m args below meth c γ H locs cells slots ls C hH hS hB hc hs hl)

theorem x_ldc {index : Nat} {v : Int32} (hd : decode cc pc = .ok (.ldc index, 2)) (hw : Cond.constant own index v ∈ xGW) (k : xX cc nL ret own ini R Z (pc + 2) lv (xI v :: st) w cu su) : xX cc nL ret own ini R Z pc lv (st) w cu su := by
  intro p l e s m args below meth c γ H locs cells slots ls C hH hS hB hc hs hl
  exact lv_ldc C.1 C.2.1 C.2.2.2.2.2.1 (C.2.2.2.2.2.2.2.2 _ hw) hd (k p l e s m args below meth c γ H locs cells slots ls C hH hS hB hc hs hl)

theorem x_ldc2 {index : Nat} {v : Int64} (hd : decode cc pc = .ok (.ldc2_w index, 3)) (hw : Cond.constantLong own index v ∈ xGW) (k : xX cc nL ret own ini R Z (pc + 3) lv (xL v :: st) w cu su) : xX cc nL ret own ini R Z pc lv (st) w cu su := by
  intro p l e s m args below meth c γ H locs cells slots ls C hH hS hB hc hs hl
  exact lv_ldc2 C.1 C.2.1 C.2.2.2.2.2.1 (C.2.2.2.2.2.2.2.2 _ hw) hd (k p l e s m args below meth c γ H locs cells slots ls C hH hS hB hc hs hl)

theorem x_null  (hd : decode cc pc = .ok (.aconst_null, 1)) (k : xX cc nL ret own ini R Z (pc + 1) lv (xR 0 :: st) w cu su) : xX cc nL ret own ini R Z pc lv (st) w cu su := by
  intro p l e s m args below meth c γ H locs cells slots ls C hH hS hB hc hs hl
  exact lv_null C.1 C.2.1 hd (k p l e s m args below meth c γ H locs cells slots ls C hH hS hB hc hs hl)

theorem x_iload_n {n : Fin 4} {j i : Nat} {x : Int32} (hd : decode cc pc = .ok (.iload_n n, 1)) (hi : (n : Nat) = i) (hk : lv[j]? = some (i, xI x)) (k : xX cc nL ret own ini R Z (pc + 1) lv (xI x :: st) w cu su) : xX cc nL ret own ini R Z pc lv (st) w cu su := by
  intro p l e s m args below meth c γ H locs cells slots ls C hH hS hB hc hs hl
  exact lv_iload_n C.1 C.2.1 hd hi (x_at hl hk) (k p l e s m args below meth c γ H locs cells slots ls C hH hS hB hc hs hl)

theorem x_iload {j i : Nat} {x : Int32} (hd : decode cc pc = .ok (.iload i, 2)) (hk : lv[j]? = some (i, xI x)) (k : xX cc nL ret own ini R Z (pc + 2) lv (xI x :: st) w cu su) : xX cc nL ret own ini R Z pc lv (st) w cu su := by
  intro p l e s m args below meth c γ H locs cells slots ls C hH hS hB hc hs hl
  exact lv_iload C.1 C.2.1 hd (x_at hl hk) (k p l e s m args below meth c γ H locs cells slots ls C hH hS hB hc hs hl)

theorem x_lload_n {n : Fin 4} {j i : Nat} {x : Int64} (hd : decode cc pc = .ok (.lload_n n, 1)) (hi : (n : Nat) = i) (hk : lv[j]? = some (i, xL x)) (k : xX cc nL ret own ini R Z (pc + 1) lv (xL x :: st) w cu su) : xX cc nL ret own ini R Z pc lv (st) w cu su := by
  intro p l e s m args below meth c γ H locs cells slots ls C hH hS hB hc hs hl
  exact lv_lload_n C.1 C.2.1 hd hi (x_at hl hk) (k p l e s m args below meth c γ H locs cells slots ls C hH hS hB hc hs hl)

theorem x_lload {j i : Nat} {x : Int64} (hd : decode cc pc = .ok (.lload i, 2)) (hk : lv[j]? = some (i, xL x)) (k : xX cc nL ret own ini R Z (pc + 2) lv (xL x :: st) w cu su) : xX cc nL ret own ini R Z pc lv (st) w cu su := by
  intro p l e s m args below meth c γ H locs cells slots ls C hH hS hB hc hs hl
  exact lv_lload C.1 C.2.1 hd (x_at hl hk) (k p l e s m args below meth c γ H locs cells slots ls C hH hS hB hc hs hl)

theorem x_aload_n {n : Fin 4} {j i : Nat} {x : Nat} (hd : decode cc pc = .ok (.aload_n n, 1)) (hi : (n : Nat) = i) (hk : lv[j]? = some (i, xR x)) (k : xX cc nL ret own ini R Z (pc + 1) lv (xR x :: st) w cu su) : xX cc nL ret own ini R Z pc lv st w cu su := by
  intro p l e s m args below meth c γ H locs cells slots ls C hH hS hB hc hs hl
  have h1 := x_at hl hk
  have k1 := k p l e s m args below meth c γ H locs cells slots ls C hH hS hB hc hs hl
  rw [List.map_cons] at k1
  have e0 : xC γ (xR x) = va_rf (xO γ x) := rfl
  rw [e0] at h1 k1
  cases hx : xO γ x with
  | none => rw [hx] at h1 k1; exact lv_aload_nN C.1 C.2.1 hd hi h1 k1
  | some a => rw [hx] at h1 k1; exact lv_aload_n C.1 C.2.1 hd hi h1 k1

theorem x_aload {j i : Nat} {x : Nat} (hd : decode cc pc = .ok (.aload i, 2)) (hk : lv[j]? = some (i, xR x)) (k : xX cc nL ret own ini R Z (pc + 2) lv (xR x :: st) w cu su) : xX cc nL ret own ini R Z pc lv st w cu su := by
  intro p l e s m args below meth c γ H locs cells slots ls C hH hS hB hc hs hl
  have h1 := x_at hl hk
  have k1 := k p l e s m args below meth c γ H locs cells slots ls C hH hS hB hc hs hl
  rw [List.map_cons] at k1
  have e0 : xC γ (xR x) = va_rf (xO γ x) := rfl
  rw [e0] at h1 k1
  cases hx : xO γ x with
  | none => rw [hx] at h1 k1; exact lv_aloadN C.1 C.2.1 hd h1 k1
  | some a => rw [hx] at h1 k1; exact lv_aload C.1 C.2.1 hd h1 k1

theorem x_istore_n {n : Fin 4} {i : Nat} {x : Int32} {lv2 : List (Nat × xv)} (hd : decode cc pc = .ok (.istore_n n, 1)) (hi : (n : Nat) = i) (hn : i < nL) (hv : (i, xI x) :: xdrop1 i lv = lv2) (k : xX cc nL ret own ini R Z (pc + 1) lv2 st w cu su) : xX cc nL ret own ini R Z pc lv (xI x :: st) w cu su := by
  intro p l e s m args below meth c γ H locs cells slots ls C hH hS hB hc hs hl
  subst hv
  refine lv_istore_n C.1 C.2.1 hd hi hl hn rfl (fun ls' hl' => ?_)
  rw [xdrop1_map] at hl'
  exact k p l e s m args below meth c γ H locs cells slots ls' C hH hS hB hc hs hl'

theorem x_istore {i : Nat} {x : Int32} {lv2 : List (Nat × xv)} (hd : decode cc pc = .ok (.istore i, 2)) (hn : i < nL) (hv : (i, xI x) :: xdrop1 i lv = lv2) (k : xX cc nL ret own ini R Z (pc + 2) lv2 st w cu su) : xX cc nL ret own ini R Z pc lv (xI x :: st) w cu su := by
  intro p l e s m args below meth c γ H locs cells slots ls C hH hS hB hc hs hl
  subst hv
  refine lv_istore C.1 C.2.1 hd hl hn rfl (fun ls' hl' => ?_)
  rw [xdrop1_map] at hl'
  exact k p l e s m args below meth c γ H locs cells slots ls' C hH hS hB hc hs hl'

theorem x_lstore_n {n : Fin 4} {i : Nat} {x : Int64} {lv2 : List (Nat × xv)} (hd : decode cc pc = .ok (.lstore_n n, 1)) (hi : (n : Nat) = i) (hn : i + 1 < nL) (hv : (i, xL x) :: xdrop2 i lv = lv2) (k : xX cc nL ret own ini R Z (pc + 1) lv2 st w cu su) : xX cc nL ret own ini R Z pc lv (xL x :: st) w cu su := by
  intro p l e s m args below meth c γ H locs cells slots ls C hH hS hB hc hs hl
  subst hv
  refine lv_lstore_n C.1 C.2.1 hd hi hl hn rfl (fun ls' hl' => ?_)
  rw [xdrop2_map] at hl'
  exact k p l e s m args below meth c γ H locs cells slots ls' C hH hS hB hc hs hl'

theorem x_lstore {i : Nat} {x : Int64} {lv2 : List (Nat × xv)} (hd : decode cc pc = .ok (.lstore i, 2)) (hn : i + 1 < nL) (hv : (i, xL x) :: xdrop2 i lv = lv2) (k : xX cc nL ret own ini R Z (pc + 2) lv2 st w cu su) : xX cc nL ret own ini R Z pc lv (xL x :: st) w cu su := by
  intro p l e s m args below meth c γ H locs cells slots ls C hH hS hB hc hs hl
  subst hv
  refine lv_lstore C.1 C.2.1 hd hl hn rfl (fun ls' hl' => ?_)
  rw [xdrop2_map] at hl'
  exact k p l e s m args below meth c γ H locs cells slots ls' C hH hS hB hc hs hl'

theorem x_astore_n {n : Fin 4} {i : Nat} {x : Nat} {lv2 : List (Nat × xv)} (hd : decode cc pc = .ok (.astore_n n, 1)) (hi : (n : Nat) = i) (hn : i < nL) (hv : (i, xR x) :: xdrop1 i lv = lv2) (k : xX cc nL ret own ini R Z (pc + 1) lv2 st w cu su) : xX cc nL ret own ini R Z pc lv (xR x :: st) w cu su := by
  intro p l e s m args below meth c γ H locs cells slots ls C hH hS hB hc hs hl
  subst hv
  have k1 := fun ls' hl' => k p l e s m args below meth c γ H locs cells slots ls' C hH hS hB hc hs hl'
  have e0 : xC γ (xR x) = va_rf (xO γ x) := rfl
  rw [List.map_cons, e0]
  rw [List.map_cons] at k1
  dsimp only at k1
  rw [e0] at k1
  cases hx : xO γ x with
  | none =>
    rw [hx] at k1
    refine lv_astore_nN C.1 C.2.1 hd hi hl hn rfl (fun ls' hl' => ?_)
    rw [xdrop1_map] at hl'
    exact k1 ls' hl'
  | some a =>
    rw [hx] at k1
    refine lv_astore_n C.1 C.2.1 hd hi hl hn rfl (fun ls' hl' => ?_)
    rw [xdrop1_map] at hl'
    exact k1 ls' hl'

theorem x_astore {i : Nat} {x : Nat} {lv2 : List (Nat × xv)} (hd : decode cc pc = .ok (.astore i, 2)) (hn : i < nL) (hv : (i, xR x) :: xdrop1 i lv = lv2) (k : xX cc nL ret own ini R Z (pc + 2) lv2 st w cu su) : xX cc nL ret own ini R Z pc lv (xR x :: st) w cu su := by
  intro p l e s m args below meth c γ H locs cells slots ls C hH hS hB hc hs hl
  subst hv
  have k1 := fun ls' hl' => k p l e s m args below meth c γ H locs cells slots ls' C hH hS hB hc hs hl'
  have e0 : xC γ (xR x) = va_rf (xO γ x) := rfl
  rw [List.map_cons, e0]
  rw [List.map_cons] at k1
  dsimp only at k1
  rw [e0] at k1
  cases hx : xO γ x with
  | none =>
    rw [hx] at k1
    refine lv_astoreN C.1 C.2.1 hd hl hn rfl (fun ls' hl' => ?_)
    rw [xdrop1_map] at hl'
    exact k1 ls' hl'
  | some a =>
    rw [hx] at k1
    refine lv_astore C.1 C.2.1 hd hl hn rfl (fun ls' hl' => ?_)
    rw [xdrop1_map] at hl'
    exact k1 ls' hl'

theorem x_iinc {j i : Nat} {n : Int} {x v : Int32} {lv2 : List (Nat × xv)} (hd : decode cc pc = .ok (.iinc i n, 3)) (hk : lv[j]? = some (i, xI x)) (hx : x + Int32.ofInt n = v) (hn : i < nL) (hv : (i, xI v) :: xdrop1 i lv = lv2) (k : xX cc nL ret own ini R Z (pc + 3) lv2 st w cu su) : xX cc nL ret own ini R Z pc lv st w cu su := by
  intro p l e s m args below meth c γ H locs cells slots ls C hH hS hB hc hs hl
  subst hv
  refine lv_iinc C.1 C.2.1 hd hl (k := j) (x := x) ?_ hx hn rfl (fun ls' hl' => ?_)
  · rw [List.getElem?_map, hk]; rfl
  · rw [xdrop1_map] at hl'
    exact k p l e s m args below meth c γ H locs cells slots ls' C hH hS hB hc hs hl'

theorem x_iadd {x y : Int32} (hd : decode cc pc = .ok (.iadd, 1)) (k : xX cc nL ret own ini R Z (pc + 1) lv (xI (x + y) :: st) w cu su) : xX cc nL ret own ini R Z pc lv (xI y :: xI x :: st) w cu su := by
  intro p l e s m args below meth c γ H locs cells slots ls C hH hS hB hc hs hl
  exact lv_iadd C.1 C.2.1 hd (k p l e s m args below meth c γ H locs cells slots ls C hH hS hB hc hs hl)

theorem x_isub {x y : Int32} (hd : decode cc pc = .ok (.isub, 1)) (k : xX cc nL ret own ini R Z (pc + 1) lv (xI (x - y) :: st) w cu su) : xX cc nL ret own ini R Z pc lv (xI y :: xI x :: st) w cu su := by
  intro p l e s m args below meth c γ H locs cells slots ls C hH hS hB hc hs hl
  exact lv_isub C.1 C.2.1 hd (k p l e s m args below meth c γ H locs cells slots ls C hH hS hB hc hs hl)

theorem x_imul {x y : Int32} (hd : decode cc pc = .ok (.imul, 1)) (k : xX cc nL ret own ini R Z (pc + 1) lv (xI (x * y) :: st) w cu su) : xX cc nL ret own ini R Z pc lv (xI y :: xI x :: st) w cu su := by
  intro p l e s m args below meth c γ H locs cells slots ls C hH hS hB hc hs hl
  exact lv_imul C.1 C.2.1 hd (k p l e s m args below meth c γ H locs cells slots ls C hH hS hB hc hs hl)

theorem x_iand {x y : Int32} (hd : decode cc pc = .ok (.iand, 1)) (k : xX cc nL ret own ini R Z (pc + 1) lv (xI (x &&& y) :: st) w cu su) : xX cc nL ret own ini R Z pc lv (xI y :: xI x :: st) w cu su := by
  intro p l e s m args below meth c γ H locs cells slots ls C hH hS hB hc hs hl
  exact lv_iand C.1 C.2.1 hd (k p l e s m args below meth c γ H locs cells slots ls C hH hS hB hc hs hl)

theorem x_ior {x y : Int32} (hd : decode cc pc = .ok (.ior, 1)) (k : xX cc nL ret own ini R Z (pc + 1) lv (xI (x ||| y) :: st) w cu su) : xX cc nL ret own ini R Z pc lv (xI y :: xI x :: st) w cu su := by
  intro p l e s m args below meth c γ H locs cells slots ls C hH hS hB hc hs hl
  exact lv_ior C.1 C.2.1 hd (k p l e s m args below meth c γ H locs cells slots ls C hH hS hB hc hs hl)

theorem x_ixor {x y : Int32} (hd : decode cc pc = .ok (.ixor, 1)) (k : xX cc nL ret own ini R Z (pc + 1) lv (xI (x ^^^ y) :: st) w cu su) : xX cc nL ret own ini R Z pc lv (xI y :: xI x :: st) w cu su := by
  intro p l e s m args below meth c γ H locs cells slots ls C hH hS hB hc hs hl
  exact lv_ixor C.1 C.2.1 hd (k p l e s m args below meth c γ H locs cells slots ls C hH hS hB hc hs hl)

theorem x_ishl {x y : Int32} (hd : decode cc pc = .ok (.ishl, 1)) (k : xX cc nL ret own ini R Z (pc + 1) lv (xI (x <<< (y &&& 31)) :: st) w cu su) : xX cc nL ret own ini R Z pc lv (xI y :: xI x :: st) w cu su := by
  intro p l e s m args below meth c γ H locs cells slots ls C hH hS hB hc hs hl
  exact lv_ishl C.1 C.2.1 hd (k p l e s m args below meth c γ H locs cells slots ls C hH hS hB hc hs hl)

theorem x_ishr {x y : Int32} (hd : decode cc pc = .ok (.ishr, 1)) (k : xX cc nL ret own ini R Z (pc + 1) lv (xI (x >>> (y &&& 31)) :: st) w cu su) : xX cc nL ret own ini R Z pc lv (xI y :: xI x :: st) w cu su := by
  intro p l e s m args below meth c γ H locs cells slots ls C hH hS hB hc hs hl
  exact lv_ishr C.1 C.2.1 hd (k p l e s m args below meth c γ H locs cells slots ls C hH hS hB hc hs hl)

theorem x_ladd {x y : Int64} (hd : decode cc pc = .ok (.ladd, 1)) (k : xX cc nL ret own ini R Z (pc + 1) lv (xL (x + y) :: st) w cu su) : xX cc nL ret own ini R Z pc lv (xL y :: xL x :: st) w cu su := by
  intro p l e s m args below meth c γ H locs cells slots ls C hH hS hB hc hs hl
  exact lv_ladd C.1 C.2.1 hd (k p l e s m args below meth c γ H locs cells slots ls C hH hS hB hc hs hl)

theorem x_lsub {x y : Int64} (hd : decode cc pc = .ok (.lsub, 1)) (k : xX cc nL ret own ini R Z (pc + 1) lv (xL (x - y) :: st) w cu su) : xX cc nL ret own ini R Z pc lv (xL y :: xL x :: st) w cu su := by
  intro p l e s m args below meth c γ H locs cells slots ls C hH hS hB hc hs hl
  exact lv_lsub C.1 C.2.1 hd (k p l e s m args below meth c γ H locs cells slots ls C hH hS hB hc hs hl)

theorem x_land {x y : Int64} (hd : decode cc pc = .ok (.land, 1)) (k : xX cc nL ret own ini R Z (pc + 1) lv (xL (x &&& y) :: st) w cu su) : xX cc nL ret own ini R Z pc lv (xL y :: xL x :: st) w cu su := by
  intro p l e s m args below meth c γ H locs cells slots ls C hH hS hB hc hs hl
  exact lv_land C.1 C.2.1 hd (k p l e s m args below meth c γ H locs cells slots ls C hH hS hB hc hs hl)

theorem x_lor {x y : Int64} (hd : decode cc pc = .ok (.lor, 1)) (k : xX cc nL ret own ini R Z (pc + 1) lv (xL (x ||| y) :: st) w cu su) : xX cc nL ret own ini R Z pc lv (xL y :: xL x :: st) w cu su := by
  intro p l e s m args below meth c γ H locs cells slots ls C hH hS hB hc hs hl
  exact lv_lor C.1 C.2.1 hd (k p l e s m args below meth c γ H locs cells slots ls C hH hS hB hc hs hl)

theorem x_lxor {x y : Int64} (hd : decode cc pc = .ok (.lxor, 1)) (k : xX cc nL ret own ini R Z (pc + 1) lv (xL (x ^^^ y) :: st) w cu su) : xX cc nL ret own ini R Z pc lv (xL y :: xL x :: st) w cu su := by
  intro p l e s m args below meth c γ H locs cells slots ls C hH hS hB hc hs hl
  exact lv_lxor C.1 C.2.1 hd (k p l e s m args below meth c γ H locs cells slots ls C hH hS hB hc hs hl)

theorem x_idiv {x y : Int32} (hd : decode cc pc = .ok (.idiv, 1)) (hne : ¬ y = 0) (k : xX cc nL ret own ini R Z (pc + 1) lv (xI (x / y) :: st) w cu su) : xX cc nL ret own ini R Z pc lv (xI y :: xI x :: st) w cu su := by
  intro p l e s m args below meth c γ H locs cells slots ls C hH hS hB hc hs hl
  exact lv_idiv C.1 C.2.1 hd hne (k p l e s m args below meth c γ H locs cells slots ls C hH hS hB hc hs hl)

theorem x_irem {x y : Int32} (hd : decode cc pc = .ok (.irem, 1)) (hne : ¬ y = 0) (k : xX cc nL ret own ini R Z (pc + 1) lv (xI (x - x / y * y) :: st) w cu su) : xX cc nL ret own ini R Z pc lv (xI y :: xI x :: st) w cu su := by
  intro p l e s m args below meth c γ H locs cells slots ls C hH hS hB hc hs hl
  exact lv_irem C.1 C.2.1 hd hne (k p l e s m args below meth c γ H locs cells slots ls C hH hS hB hc hs hl)

theorem x_ineg {x : Int32} (hd : decode cc pc = .ok (.ineg, 1)) (k : xX cc nL ret own ini R Z (pc + 1) lv (xI (-x) :: st) w cu su) : xX cc nL ret own ini R Z pc lv (xI x :: st) w cu su := by
  intro p l e s m args below meth c γ H locs cells slots ls C hH hS hB hc hs hl
  exact lv_ineg C.1 C.2.1 hd (k p l e s m args below meth c γ H locs cells slots ls C hH hS hB hc hs hl)

theorem x_i2l {x : Int32} (hd : decode cc pc = .ok (.i2l, 1)) (k : xX cc nL ret own ini R Z (pc + 1) lv (xL x.toInt64 :: st) w cu su) : xX cc nL ret own ini R Z pc lv (xI x :: st) w cu su := by
  intro p l e s m args below meth c γ H locs cells slots ls C hH hS hB hc hs hl
  exact lv_i2l C.1 C.2.1 hd rfl (k p l e s m args below meth c γ H locs cells slots ls C hH hS hB hc hs hl)

theorem x_l2i {x : Int64} (hd : decode cc pc = .ok (.l2i, 1)) (k : xX cc nL ret own ini R Z (pc + 1) lv (xI x.toInt32 :: st) w cu su) : xX cc nL ret own ini R Z pc lv (xL x :: st) w cu su := by
  intro p l e s m args below meth c γ H locs cells slots ls C hH hS hB hc hs hl
  exact lv_l2i C.1 C.2.1 hd rfl (k p l e s m args below meth c γ H locs cells slots ls C hH hS hB hc hs hl)

theorem x_i2b {x : Int32} (hd : decode cc pc = .ok (.i2b, 1)) (k : xX cc nL ret own ini R Z (pc + 1) lv (xI x.toInt8.toInt32 :: st) w cu su) : xX cc nL ret own ini R Z pc lv (xI x :: st) w cu su := by
  intro p l e s m args below meth c γ H locs cells slots ls C hH hS hB hc hs hl
  exact lv_i2b C.1 C.2.1 hd rfl (k p l e s m args below meth c γ H locs cells slots ls C hH hS hB hc hs hl)

theorem x_i2c {x : Int32} (hd : decode cc pc = .ok (.i2c, 1)) (k : xX cc nL ret own ini R Z (pc + 1) lv (xI (x.toUInt32 % 65536).toInt32 :: st) w cu su) : xX cc nL ret own ini R Z pc lv (xI x :: st) w cu su := by
  intro p l e s m args below meth c γ H locs cells slots ls C hH hS hB hc hs hl
  exact lv_i2c C.1 C.2.1 hd rfl (k p l e s m args below meth c γ H locs cells slots ls C hH hS hB hc hs hl)

def iushr (x y : Int32) : Int32 := (x.toUInt32 >>> (y.toUInt32 &&& Int32.toUInt32 31)).toInt32
def lushr (x : Int64) (y : Int32) : Int64 := (x.toUInt64 >>> (y.toInt64.toUInt64 &&& Int64.toUInt64 63)).toInt64
theorem x_iushr {x y : Int32} (hd : decode cc pc = .ok (.iushr, 1)) (k : xX cc nL ret own ini R Z (pc + 1) lv (xI (iushr x y) :: st) w cu su) : xX cc nL ret own ini R Z pc lv (xI y :: xI x :: st) w cu su := by
  intro p l e s m args below meth c γ H locs cells slots ls C hH hS hB hc hs hl
  exact lv_iushr C.1 C.2.1 hd rfl (k p l e s m args below meth c γ H locs cells slots ls C hH hS hB hc hs hl)

theorem x_lushr {x : Int64} {y : Int32} (hd : decode cc pc = .ok (.lushr, 1)) (k : xX cc nL ret own ini R Z (pc + 1) lv (xL (lushr x y) :: st) w cu su) : xX cc nL ret own ini R Z pc lv (xI y :: xL x :: st) w cu su := by
  intro p l e s m args below meth c γ H locs cells slots ls C hH hS hB hc hs hl
  exact lv_lushr C.1 C.2.1 hd rfl (k p l e s m args below meth c γ H locs cells slots ls C hH hS hB hc hs hl)

theorem x_lshl {x : Int64} {y : Int32} (hd : decode cc pc = .ok (.lshl, 1)) (k : xX cc nL ret own ini R Z (pc + 1) lv (xL (x <<< (y.toInt64 &&& 63)) :: st) w cu su) : xX cc nL ret own ini R Z pc lv (xI y :: xL x :: st) w cu su := by
  intro p l e s m args below meth c γ H locs cells slots ls C hH hS hB hc hs hl
  exact lv_lshl C.1 C.2.1 hd rfl (k p l e s m args below meth c γ H locs cells slots ls C hH hS hB hc hs hl)

theorem x_lshr {x : Int64} {y : Int32} (hd : decode cc pc = .ok (.lshr, 1)) (k : xX cc nL ret own ini R Z (pc + 1) lv (xL (x >>> (y.toInt64 &&& 63)) :: st) w cu su) : xX cc nL ret own ini R Z pc lv (xI y :: xL x :: st) w cu su := by
  intro p l e s m args below meth c γ H locs cells slots ls C hH hS hB hc hs hl
  exact lv_lshr C.1 C.2.1 hd rfl (k p l e s m args below meth c γ H locs cells slots ls C hH hS hB hc hs hl)

theorem x_lcmp {x y : Int64} (hd : decode cc pc = .ok (.lcmp, 1)) (k : xX cc nL ret own ini R Z (pc + 1) lv (xI (lg_cmp x y) :: st) w cu su) : xX cc nL ret own ini R Z pc lv (xL y :: xL x :: st) w cu su := by
  intro p l e s m args below meth c γ H locs cells slots ls C hH hS hB hc hs hl
  exact W.lcmp C.1 C.2.1 hd (k p l e s m args below meth c γ H locs cells slots ls C hH hS hB hc hs hl)

theorem x_dup {a : xv} (hd : decode cc pc = .ok (.dup, 1)) (ha : xcat a = 1) (k : xX cc nL ret own ini R Z (pc + 1) lv (a :: a :: st) w cu su) : xX cc nL ret own ini R Z pc lv (a :: st) w cu su := by
  intro p l e s m args below meth c γ H locs cells slots ls C hH hS hB hc hs hl
  exact lv_dup C.1 C.2.1 hd ((xC_cat γ a).trans ha) (k p l e s m args below meth c γ H locs cells slots ls C hH hS hB hc hs hl)

theorem x_dup2 {a b : xv} (hd : decode cc pc = .ok (.dup2, 1)) (ha : xcat a = 1) (hb : xcat b = 1) (k : xX cc nL ret own ini R Z (pc + 1) lv (a :: b :: a :: b :: st) w cu su) : xX cc nL ret own ini R Z pc lv (a :: b :: st) w cu su := by
  intro p l e s m args below meth c γ H locs cells slots ls C hH hS hB hc hs hl
  exact lv_dup2_11 C.1 C.2.1 hd ((xC_cat γ a).trans ha) ((xC_cat γ b).trans hb) (k p l e s m args below meth c γ H locs cells slots ls C hH hS hB hc hs hl)

theorem x_dup_x1 {a b : xv} (hd : decode cc pc = .ok (.dup_x1, 1)) (ha : xcat a = 1) (hb : xcat b = 1) (k : xX cc nL ret own ini R Z (pc + 1) lv (a :: b :: a :: st) w cu su) : xX cc nL ret own ini R Z pc lv (a :: b :: st) w cu su := by
  intro p l e s m args below meth c γ H locs cells slots ls C hH hS hB hc hs hl
  exact lv_dup_x1 C.1 C.2.1 hd ((xC_cat γ a).trans ha) ((xC_cat γ b).trans hb) (k p l e s m args below meth c γ H locs cells slots ls C hH hS hB hc hs hl)

theorem x_pop {a : xv} (hd : decode cc pc = .ok (.pop, 1)) (ha : xcat a = 1) (k : xX cc nL ret own ini R Z (pc + 1) lv (st) w cu su) : xX cc nL ret own ini R Z pc lv (a :: st) w cu su := by
  intro p l e s m args below meth c γ H locs cells slots ls C hH hS hB hc hs hl
  exact lv_pop C.1 C.2.1 hd ((xC_cat γ a).trans ha) (k p l e s m args below meth c γ H locs cells slots ls C hH hS hB hc hs hl)

theorem x_if_eq {x : Int32} {off : Int} {tgt : Nat} (hd : decode cc pc = .ok (.ifCond .eq off, 3)) (ht : (pc : Int) + off = (tgt : Int)) (kt : x = 0 → xX cc nL ret own ini R Z tgt lv st w cu su) (kf : ¬ x = 0 → xX cc nL ret own ini R Z (pc + 3) lv st w cu su) : xX cc nL ret own ini R Z pc lv (xI x :: st) w cu su := by
  intro p l e s m args below meth c γ H locs cells slots ls C hH hS hB hc hs hl
  exact lv_if_eq C.1 C.2.1 hd ht (fun z => kt z p l e s m args below meth c γ H locs cells slots ls C hH hS hB hc hs hl) (fun z => kf z p l e s m args below meth c γ H locs cells slots ls C hH hS hB hc hs hl)

theorem x_icmp_eq {x y : Int32} {off : Int} {tgt : Nat} (hd : decode cc pc = .ok (.if_icmp .eq off, 3)) (ht : (pc : Int) + off = (tgt : Int)) (kt : x = y → xX cc nL ret own ini R Z tgt lv st w cu su) (kf : ¬ x = y → xX cc nL ret own ini R Z (pc + 3) lv st w cu su) : xX cc nL ret own ini R Z pc lv (xI y :: xI x :: st) w cu su := by
  intro p l e s m args below meth c γ H locs cells slots ls C hH hS hB hc hs hl
  exact lv_icmp_eq C.1 C.2.1 hd ht (fun z => kt z p l e s m args below meth c γ H locs cells slots ls C hH hS hB hc hs hl) (fun z => kf z p l e s m args below meth c γ H locs cells slots ls C hH hS hB hc hs hl)

theorem x_if_ne {x : Int32} {off : Int} {tgt : Nat} (hd : decode cc pc = .ok (.ifCond .ne off, 3)) (ht : (pc : Int) + off = (tgt : Int)) (kt : ¬ x = 0 → xX cc nL ret own ini R Z tgt lv st w cu su) (kf : x = 0 → xX cc nL ret own ini R Z (pc + 3) lv st w cu su) : xX cc nL ret own ini R Z pc lv (xI x :: st) w cu su := by
  intro p l e s m args below meth c γ H locs cells slots ls C hH hS hB hc hs hl
  exact lv_if_ne C.1 C.2.1 hd ht (fun z => kt z p l e s m args below meth c γ H locs cells slots ls C hH hS hB hc hs hl) (fun z => kf z p l e s m args below meth c γ H locs cells slots ls C hH hS hB hc hs hl)

theorem x_icmp_ne {x y : Int32} {off : Int} {tgt : Nat} (hd : decode cc pc = .ok (.if_icmp .ne off, 3)) (ht : (pc : Int) + off = (tgt : Int)) (kt : ¬ x = y → xX cc nL ret own ini R Z tgt lv st w cu su) (kf : x = y → xX cc nL ret own ini R Z (pc + 3) lv st w cu su) : xX cc nL ret own ini R Z pc lv (xI y :: xI x :: st) w cu su := by
  intro p l e s m args below meth c γ H locs cells slots ls C hH hS hB hc hs hl
  exact lv_icmp_ne C.1 C.2.1 hd ht (fun z => kt z p l e s m args below meth c γ H locs cells slots ls C hH hS hB hc hs hl) (fun z => kf z p l e s m args below meth c γ H locs cells slots ls C hH hS hB hc hs hl)

theorem x_if_lt {x : Int32} {off : Int} {tgt : Nat} (hd : decode cc pc = .ok (.ifCond .lt off, 3)) (ht : (pc : Int) + off = (tgt : Int)) (kt : x < 0 → xX cc nL ret own ini R Z tgt lv st w cu su) (kf : ¬ x < 0 → xX cc nL ret own ini R Z (pc + 3) lv st w cu su) : xX cc nL ret own ini R Z pc lv (xI x :: st) w cu su := by
  intro p l e s m args below meth c γ H locs cells slots ls C hH hS hB hc hs hl
  exact lv_if_lt C.1 C.2.1 hd ht (fun z => kt z p l e s m args below meth c γ H locs cells slots ls C hH hS hB hc hs hl) (fun z => kf z p l e s m args below meth c γ H locs cells slots ls C hH hS hB hc hs hl)

theorem x_icmp_lt {x y : Int32} {off : Int} {tgt : Nat} (hd : decode cc pc = .ok (.if_icmp .lt off, 3)) (ht : (pc : Int) + off = (tgt : Int)) (kt : x < y → xX cc nL ret own ini R Z tgt lv st w cu su) (kf : ¬ x < y → xX cc nL ret own ini R Z (pc + 3) lv st w cu su) : xX cc nL ret own ini R Z pc lv (xI y :: xI x :: st) w cu su := by
  intro p l e s m args below meth c γ H locs cells slots ls C hH hS hB hc hs hl
  exact lv_icmp_lt C.1 C.2.1 hd ht (fun z => kt z p l e s m args below meth c γ H locs cells slots ls C hH hS hB hc hs hl) (fun z => kf z p l e s m args below meth c γ H locs cells slots ls C hH hS hB hc hs hl)

theorem x_if_ge {x : Int32} {off : Int} {tgt : Nat} (hd : decode cc pc = .ok (.ifCond .ge off, 3)) (ht : (pc : Int) + off = (tgt : Int)) (kt : 0 ≤ x → xX cc nL ret own ini R Z tgt lv st w cu su) (kf : ¬ 0 ≤ x → xX cc nL ret own ini R Z (pc + 3) lv st w cu su) : xX cc nL ret own ini R Z pc lv (xI x :: st) w cu su := by
  intro p l e s m args below meth c γ H locs cells slots ls C hH hS hB hc hs hl
  exact lv_if_ge C.1 C.2.1 hd ht (fun z => kt z p l e s m args below meth c γ H locs cells slots ls C hH hS hB hc hs hl) (fun z => kf z p l e s m args below meth c γ H locs cells slots ls C hH hS hB hc hs hl)

theorem x_icmp_ge {x y : Int32} {off : Int} {tgt : Nat} (hd : decode cc pc = .ok (.if_icmp .ge off, 3)) (ht : (pc : Int) + off = (tgt : Int)) (kt : y ≤ x → xX cc nL ret own ini R Z tgt lv st w cu su) (kf : ¬ y ≤ x → xX cc nL ret own ini R Z (pc + 3) lv st w cu su) : xX cc nL ret own ini R Z pc lv (xI y :: xI x :: st) w cu su := by
  intro p l e s m args below meth c γ H locs cells slots ls C hH hS hB hc hs hl
  exact lv_icmp_ge C.1 C.2.1 hd ht (fun z => kt z p l e s m args below meth c γ H locs cells slots ls C hH hS hB hc hs hl) (fun z => kf z p l e s m args below meth c γ H locs cells slots ls C hH hS hB hc hs hl)

theorem x_if_gt {x : Int32} {off : Int} {tgt : Nat} (hd : decode cc pc = .ok (.ifCond .gt off, 3)) (ht : (pc : Int) + off = (tgt : Int)) (kt : 0 < x → xX cc nL ret own ini R Z tgt lv st w cu su) (kf : ¬ 0 < x → xX cc nL ret own ini R Z (pc + 3) lv st w cu su) : xX cc nL ret own ini R Z pc lv (xI x :: st) w cu su := by
  intro p l e s m args below meth c γ H locs cells slots ls C hH hS hB hc hs hl
  exact lv_if_gt C.1 C.2.1 hd ht (fun z => kt z p l e s m args below meth c γ H locs cells slots ls C hH hS hB hc hs hl) (fun z => kf z p l e s m args below meth c γ H locs cells slots ls C hH hS hB hc hs hl)

theorem x_icmp_gt {x y : Int32} {off : Int} {tgt : Nat} (hd : decode cc pc = .ok (.if_icmp .gt off, 3)) (ht : (pc : Int) + off = (tgt : Int)) (kt : y < x → xX cc nL ret own ini R Z tgt lv st w cu su) (kf : ¬ y < x → xX cc nL ret own ini R Z (pc + 3) lv st w cu su) : xX cc nL ret own ini R Z pc lv (xI y :: xI x :: st) w cu su := by
  intro p l e s m args below meth c γ H locs cells slots ls C hH hS hB hc hs hl
  exact lv_icmp_gt C.1 C.2.1 hd ht (fun z => kt z p l e s m args below meth c γ H locs cells slots ls C hH hS hB hc hs hl) (fun z => kf z p l e s m args below meth c γ H locs cells slots ls C hH hS hB hc hs hl)

theorem x_if_le {x : Int32} {off : Int} {tgt : Nat} (hd : decode cc pc = .ok (.ifCond .le off, 3)) (ht : (pc : Int) + off = (tgt : Int)) (kt : x ≤ 0 → xX cc nL ret own ini R Z tgt lv st w cu su) (kf : ¬ x ≤ 0 → xX cc nL ret own ini R Z (pc + 3) lv st w cu su) : xX cc nL ret own ini R Z pc lv (xI x :: st) w cu su := by
  intro p l e s m args below meth c γ H locs cells slots ls C hH hS hB hc hs hl
  exact lv_if_le C.1 C.2.1 hd ht (fun z => kt z p l e s m args below meth c γ H locs cells slots ls C hH hS hB hc hs hl) (fun z => kf z p l e s m args below meth c γ H locs cells slots ls C hH hS hB hc hs hl)

theorem x_icmp_le {x y : Int32} {off : Int} {tgt : Nat} (hd : decode cc pc = .ok (.if_icmp .le off, 3)) (ht : (pc : Int) + off = (tgt : Int)) (kt : x ≤ y → xX cc nL ret own ini R Z tgt lv st w cu su) (kf : ¬ x ≤ y → xX cc nL ret own ini R Z (pc + 3) lv st w cu su) : xX cc nL ret own ini R Z pc lv (xI y :: xI x :: st) w cu su := by
  intro p l e s m args below meth c γ H locs cells slots ls C hH hS hB hc hs hl
  exact lv_icmp_le C.1 C.2.1 hd ht (fun z => kt z p l e s m args below meth c γ H locs cells slots ls C hH hS hB hc hs hl) (fun z => kf z p l e s m args below meth c γ H locs cells slots ls C hH hS hB hc hs hl)

theorem x_goto {off : Int} {tgt : Nat} (hd : decode cc pc = .ok (.goto off, 3)) (ht : (pc : Int) + off = (tgt : Int)) (k : xX cc nL ret own ini R Z tgt lv st w cu su) : xX cc nL ret own ini R Z pc lv st w cu su := by
  intro p l e s m args below meth c γ H locs cells slots ls C hH hS hB hc hs hl
  exact lv_goto C.1 C.2.1 hd ht (k p l e s m args below meth c γ H locs cells slots ls C hH hS hB hc hs hl)

theorem x_ifnull {x : Nat} {off : Int} {tgt : Nat} (hd : decode cc pc = .ok (.ifnull off, 3)) (ht : (pc : Int) + off = (tgt : Int)) (hx : x < 1000) (kt : x = 0 → xX cc nL ret own ini R Z tgt lv st w cu su) (kf : ¬ x = 0 → xX cc nL ret own ini R Z (pc + 3) lv st w cu su) : xX cc nL ret own ini R Z pc lv (xR x :: st) w cu su := by
  intro p l e s m args below meth c γ H locs cells slots ls C hH hS hB hc hs hl
  by_cases h0 : x = 0
  · have k1 := kt h0 p l e s m args below meth c γ H locs cells slots ls C hH hS hB hc hs hl
    subst h0
    exact lv_ifnullN C.1 C.2.1 hd ht k1
  · rw [List.map_cons, xC_ref h0 (by omega)]
    exact lv_ifnull C.1 C.2.1 hd (kf h0 p l e s m args below meth c γ H locs cells slots ls C hH hS hB hc hs hl)
theorem x_ifnonnull {x : Nat} {off : Int} {tgt : Nat} (hd : decode cc pc = .ok (.ifnonnull off, 3)) (ht : (pc : Int) + off = (tgt : Int)) (hx : x < 1000) (kt : ¬ x = 0 → xX cc nL ret own ini R Z tgt lv st w cu su) (kf : x = 0 → xX cc nL ret own ini R Z (pc + 3) lv st w cu su) : xX cc nL ret own ini R Z pc lv (xR x :: st) w cu su := by
  intro p l e s m args below meth c γ H locs cells slots ls C hH hS hB hc hs hl
  by_cases h0 : x = 0
  · have k1 := kf h0 p l e s m args below meth c γ H locs cells slots ls C hH hS hB hc hs hl
    subst h0
    exact lv_ifnonnullN C.1 C.2.1 hd k1
  · rw [List.map_cons, xC_ref h0 (by omega)]
    exact lv_ifnonnull C.1 C.2.1 hd ht (kt h0 p l e s m args below meth c γ H locs cells slots ls C hH hS hB hc hs hl)
theorem xO_inj {γ : xG} {x y : Nat} (hx : x < 1000) (hy : y < 1000) (h : xO γ x = xO γ y) : x = y := by
  unfold xO at h
  by_cases h0 : x = 0
  · rw [if_pos h0] at h
    by_cases h1 : y = 0
    · omega
    · rw [if_neg h1, if_neg (by omega)] at h; cases h
  · rw [if_neg h0, if_neg (by omega)] at h
    by_cases h1 : y = 0
    · rw [if_pos h1] at h; cases h
    · rw [if_neg h1, if_neg (by omega), xE_in hx, xE_in hy] at h
      have := Option.some.inj h
      omega
theorem x_acmp_eq {x y : Nat} {off : Int} {tgt : Nat} (hd : decode cc pc = .ok (.if_acmp .eq off, 3)) (ht : (pc : Int) + off = (tgt : Int)) (hx : x ≤ wZ w) (hy : y ≤ wZ w) (kt : x = y → xX cc nL ret own ini R Z tgt lv st w cu su) (kf : ¬ x = y → xX cc nL ret own ini R Z (pc + 3) lv st w cu su) : xX cc nL ret own ini R Z pc lv (xR y :: xR x :: st) w cu su := by
  intro p l e s m args below meth c γ H locs cells slots ls C hH hS hB hc hs hl
  have hz := hH.2.2.1
  exact lv_acmp_eq (rx := xO γ x) (ry := xO γ y) C.1 C.2.1 hd ht (fun z => kt (xO_inj (by omega) (by omega) z) p l e s m args below meth c γ H locs cells slots ls C hH hS hB hc hs hl) (fun z => kf (fun q => z (by rw [q])) p l e s m args below meth c γ H locs cells slots ls C hH hS hB hc hs hl)

theorem x_tsw {dflt lo hi : Int} {offs : Array Int} {len : Nat} {x : Int32} {off : Int} {tgt : Nat} (hd : decode cc pc = .ok (.tableswitch dflt lo hi offs, len)) (h1 : ¬ x.toInt < lo) (h2 : ¬ hi < x.toInt) (ho : offs[(x.toInt - lo).toNat]? = some off) (ht : (pc : Int) + off = (tgt : Int)) (k : xX cc nL ret own ini R Z tgt lv st w cu su) : xX cc nL ret own ini R Z pc lv (xI x :: st) w cu su := by
  intro p l e s m args below meth c γ H locs cells slots ls C hH hS hB hc hs hl
  exact lv_tableIn C.1 C.2.1 hd h1 h2 ho ht (k p l e s m args below meth c γ H locs cells slots ls C hH hS hB hc hs hl)
theorem x_tswD {dflt lo hi : Int} {offs : Array Int} {len : Nat} {x : Int32} {tgt : Nat} (hd : decode cc pc = .ok (.tableswitch dflt lo hi offs, len)) (h : x.toInt < lo ∨ hi < x.toInt) (ht : (pc : Int) + dflt = (tgt : Int)) (k : xX cc nL ret own ini R Z tgt lv st w cu su) : xX cc nL ret own ini R Z pc lv (xI x :: st) w cu su := by
  intro p l e s m args below meth c γ H locs cells slots ls C hH hS hB hc hs hl
  exact lv_tableOut C.1 C.2.1 hd h ht (k p l e s m args below meth c γ H locs cells slots ls C hH hS hB hc hs hl)
theorem x_lsw {dflt : Int} {ps : Array (Int × Int)} {len : Nat} {x : Int32} {off : Int} {tgt : Nat} (hd : decode cc pc = .ok (.lookupswitch dflt ps, len)) (hp : (ps.toList.zip (ps.toList.drop 1)).all (fun (a, next) => a.1 < next.1) = true) (ho : Op.lookupswitch.offset ps.toList dflt x.toInt = off) (ht : (pc : Int) + off = (tgt : Int)) (k : xX cc nL ret own ini R Z tgt lv st w cu su) : xX cc nL ret own ini R Z pc lv (xI x :: st) w cu su := by
  intro p l e s m args below meth c γ H locs cells slots ls C hH hS hB hc hs hl
  exact lv_lookup C.1 C.2.1 hd hp ho ht (k p l e s m args below meth c γ H locs cells slots ls C hH hS hB hc hs hl)
theorem x_eq {lv2 : List (Nat × xv)} {st2 : List xv} {w2 : xSt} (h1 : lv = lv2) (h2 : st = st2) (h3 : w = w2) (k : xX cc nL ret own ini R Z pc lv2 st2 w2 cu su) : xX cc nL ret own ini R Z pc lv st w cu su := by
  subst h1; subst h2; subst h3; exact k
theorem x_lv {lv2 : List (Nat × xv)} (is : List Nat) (h1 : is.filterMap (fun i => lv[i]?) = lv2) (k : xX cc nL ret own ini R Z pc lv2 st w cu su) : xX cc nL ret own ini R Z pc lv st w cu su := by
  intro p l e s m args below meth c γ H locs cells slots ls C hH hS hB hc hs hl
  refine k p l e s m args below meth c γ H locs cells slots ls C hH hS hB hc hs ⟨hl.1, hl.2.1, fun q hq => hl.2.2 q ?_⟩
  subst h1
  obtain ⟨q0, h2, h3⟩ := List.mem_map.mp hq
  obtain ⟨i, -, h4⟩ := List.mem_filterMap.mp h2
  exact List.mem_map.mpr ⟨q0, List.mem_of_getElem? h4, h3⟩

end XROWS
