/-! ROWS: stores of references, new cells, answers, calls, what lies outside -/
section XCALLS
variable {cc : ByteArray} {nL : Nat} {ret : Option FieldType} {own : String} {ini : Bool} {R : Room} {Z : xG → List Frame → Array Value → State → State → Prop} {pc : Nat} {lv : List (Nat × xv)} {st : List xv} {w : xSt} {cu su : Nat}

theorem x_qast24 {p x : Nat} {i : Int32} (hd : decode cc pc = .ok (.aastore, 1)) (hp : isC w p 24) (hx : isC w x 6) (hi : inR i (wN w p)) (k : xX cc nL ret own ini R Z (pc + 1) lv st (sR w p i.toNatClampNeg x) cu su) : xX cc nL ret own ini R Z pc lv (xR x :: xI i :: xR p :: st) w cu su := by
  intro pp l e s m args below meth c γ H locs cells slots ls C hH hS hB hc hs hl
  have h1 := xW_arr (γ := γ) hp (by omega)
  have h2 := xW_obj (γ := γ) hx (by omega)
  rw [List.map_cons, List.map_cons, List.map_cons, xrefE hH hp, xrefE hH hx]
  have hK := C.2.2.2.2.2.2.2.1.1
  have hin := inR_vp hi
  have hD := xW_D γ w
  have hlt : i.toNatClampNeg < wN w p := Nat.not_le.mp fun q => hin (Or.inr q)
  have h0 : ¬ i < 0 := fun q => hin (Or.inl q)
  obtain ⟨r', hr', cellV, g1, g2, g3, -⟩ := hH.1 (x - 1) _ h2
  have hcls := (hK.1 6 _ (rfl : vwCl[6]? = some (RX6, TX6, 11))).2
  obtain ⟨kA, comp, k1, k2, k3, -⟩ := (hK.2 4 _ rfl).2
  have hcomp : comp = (gD γ).1 6 := Option.some.inj (k3.symm.trans hcls.1)
  subst hcomp
  obtain ⟨kC, hkC, -⟩ := hcls.2
  refine W.aast C.1 C.2.1 (hH.1 (p - 1) _ h1) (fun q h => by cases h) (fun h => by cases h) k1 k2 rfl hkC ⟨h0, by show _ < (arrV _ _ _).slots.size; rw [arrV_size]; exact hlt⟩ g1 (fun q h => by rw [g3] at h; cases h) (by rw [g2]; exact hkC) (by rw [g2]; exact va_assign hcls) rfl rfl hd fun H1 e1 z oq => ?_
  refine k pp l e s m args below meth c γ H1 _ cells slots ls C (xH_set hH hp.1 hp.2.1 rfl (fun q hq => sV_ne w p i.toNatClampNeg (xR x) hq) (xK_arr hp.2.2 (by omega)) (hH.1.set hD h1 ?_ oq) z (sV_scr w i.toNatClampNeg (xR x) (by have := hp.2.1; have := hH.2.2.1; omega))) (hS.put z oq (hD.2 _ _ h1)) hB hc hs hl
  show H1[gB γ + (p - 1)]? = some (vp_cell _ _)
  rw [e1]
  show some ((arrV (gA γ 24) (wN w p) (fun j => va_rf (xO γ (wR w p j)))).setSlot _ _) = some (arrV (gA γ 24) (wN w p) (fun j => va_rf (xO γ (wR (sR w p i.toNatClampNeg x) p j))))
  rw [arrV_store]
  congr 2
  funext q
  by_cases hq : q = i.toNatClampNeg
  · subst hq
    simp only [updV, wR_sR, if_pos, and_self]
    have := hH.2.2.1
    unfold xO
    have := hx.2.1
    rw [if_neg hx.1, if_neg (by omega), xE_in (by omega)]
    rfl
  · simp [updV, wR_sR, hq]

theorem x_qast25 {p x : Nat} {i : Int32} (hd : decode cc pc = .ok (.aastore, 1)) (hp : isC w p 25) (hx : isC w x 8) (hi : inR i (wN w p)) (k : xX cc nL ret own ini R Z (pc + 1) lv st (sR w p i.toNatClampNeg x) cu su) : xX cc nL ret own ini R Z pc lv (xR x :: xI i :: xR p :: st) w cu su := by
  intro pp l e s m args below meth c γ H locs cells slots ls C hH hS hB hc hs hl
  have h1 := xW_arr (γ := γ) hp (by omega)
  have h2 := xW_obj (γ := γ) hx (by omega)
  rw [List.map_cons, List.map_cons, List.map_cons, xrefE hH hp, xrefE hH hx]
  have hK := C.2.2.2.2.2.2.2.1.1
  have hin := inR_vp hi
  have hD := xW_D γ w
  have hlt : i.toNatClampNeg < wN w p := Nat.not_le.mp fun q => hin (Or.inr q)
  have h0 : ¬ i < 0 := fun q => hin (Or.inl q)
  obtain ⟨r', hr', cellV, g1, g2, g3, -⟩ := hH.1 (x - 1) _ h2
  have hcls := (hK.1 8 _ (rfl : vwCl[8]? = some (RX8, TX8, 4))).2
  obtain ⟨kA, comp, k1, k2, k3, -⟩ := (hK.2 5 _ rfl).2
  have hcomp : comp = (gD γ).1 8 := Option.some.inj (k3.symm.trans hcls.1)
  subst hcomp
  obtain ⟨kC, hkC, -⟩ := hcls.2
  refine W.aast C.1 C.2.1 (hH.1 (p - 1) _ h1) (fun q h => by cases h) (fun h => by cases h) k1 k2 rfl hkC ⟨h0, by show _ < (arrV _ _ _).slots.size; rw [arrV_size]; exact hlt⟩ g1 (fun q h => by rw [g3] at h; cases h) (by rw [g2]; exact hkC) (by rw [g2]; exact va_assign hcls) rfl rfl hd fun H1 e1 z oq => ?_
  refine k pp l e s m args below meth c γ H1 _ cells slots ls C (xH_set hH hp.1 hp.2.1 rfl (fun q hq => sV_ne w p i.toNatClampNeg (xR x) hq) (xK_arr hp.2.2 (by omega)) (hH.1.set hD h1 ?_ oq) z (sV_scr w i.toNatClampNeg (xR x) (by have := hp.2.1; have := hH.2.2.1; omega))) (hS.put z oq (hD.2 _ _ h1)) hB hc hs hl
  show H1[gB γ + (p - 1)]? = some (vp_cell _ _)
  rw [e1]
  show some ((arrV (gA γ 25) (wN w p) (fun j => va_rf (xO γ (wR w p j)))).setSlot _ _) = some (arrV (gA γ 25) (wN w p) (fun j => va_rf (xO γ (wR (sR w p i.toNatClampNeg x) p j))))
  rw [arrV_store]
  congr 2
  funext q
  by_cases hq : q = i.toNatClampNeg
  · subst hq
    simp only [updV, wR_sR, if_pos, and_self]
    have := hH.2.2.1
    unfold xO
    have := hx.2.1
    rw [if_neg hx.1, if_neg (by omega), xE_in (by omega)]
    rfl
  · simp [updV, wR_sR, hq]

theorem nA_ne {γ : xG} (w : xSt) (t n : Nat) {q : Nat} (h : q ≠ wZ w + 1) : xK γ (nA w t n) q = xK γ w q := by
  refine xK_ne ?_ ?_ ?_ ?_ ?_
  · rw [wT_nA, if_neg h]
  · rw [wN_nA, if_neg h]
  · intro j; rw [wI_nA, if_neg h]
  · intro j; rw [wL_nA, if_neg h]
  · intro j; rw [wR_nA, if_neg h]
theorem xH_new {γ : xG} {w : xSt} {t n : Nat} {H H1 : Heap} (hH : xH γ w H) (hz : wZ w + 1 < 1000) (h1 : H1.size = H.size + 1) (ho : ∀ q : Nat, q < H.size → H1[q]? = H[q]?) (he : va_at (gD γ) vwCl (H.size, xK γ (nA w t n) (wZ w + 1)) H1) : xH γ (nA w t n) H1 := by
  refine ⟨?_, by rw [h1, hH.2.1, wZ_nA]; omega, by rw [wZ_nA]; exact hz, by rw [wN_nA, if_neg (by omega)]; exact hH.2.2.2.1, fun j => by rw [wI_nA, if_neg (by omega)]; exact hH.2.2.2.2 j⟩
  rw [xW_app γ w (nA w t n) (wZ_nA w t n) (fun q hq => nA_ne w t n hq)]
  refine (hH.1.kept (fun k x hx => ho x.1 ((hH.1 k x hx).lt))).app (fun k x hx => ?_)
  have hz : k < 1 := (List.getElem?_eq_some_iff.mp hx).1
  rw [show k = 0 by omega] at hx
  cases hx
  rw [← hH.2.1]
  exact he
theorem x_newS {γ : xG} {s : State} {H H1 : Heap} {locs : List Loc} (hS : va_S (xA γ) s.heap H locs) (h1 : H1.size = H.size + 1) (ho : ∀ q : Nat, q < H.size → H1[q]? = H[q]?) : va_S (xA γ) s.heap H1 locs := ⟨Nat.le_trans hS.1 (by omega), fun x h2 h3 => (ho x (Nat.lt_of_lt_of_le h2 hS.1)).trans (hS.2.1 x h2 h3), hS.2.2⟩
theorem xrefN {γ : xG} {w : xSt} {H : Heap} (hH : xH γ w H) (hz : wZ w + 1 < 1000) : xC γ (xR (wZ w + 1)) = .ref H.size := by
  rw [xC_ref (by omega) (by omega), xE_in hz, hH.2.1]
  rfl

theorem x_newa_int {n : Int32} (b : Nat) (hd : decode cc pc = .ok (.newarray .int, 2)) (hw : Cond.arrayClass .int ∈ xGW) (hn : inR n (b + 1)) (hb : b ≤ 1000) (hz : wZ w + 1 < 1000) (h1 : 1 ≤ cu) (h2 : b ≤ su) (k : xX cc nL ret own ini R Z (pc + 2) lv (xR (wZ w + 1) :: st) (nA w 20 n.toNatClampNeg) (cu - 1) (su - b)) : xX cc nL ret own ini R Z pc lv (xI n :: st) w cu su := by
  intro pp l e s m args below meth c γ H locs cells slots ls C hH hS hB hc hs hl
  have hn0 : ¬ n < 0 := fun q => by
    have := Int32.lt_iff_toInt_lt.mp q
    simp at this
    omega
  have hnb : n.toNatClampNeg ≤ b := by
    show n.toInt.toNat ≤ b
    omega
  rw [List.map_cons]
  refine va_newaK (atype := .int) C.1 C.2.1 (C.2.2.2.2.2.2.2.2 _ hw) rfl hd rfl hn0 rfl (by show n.toNatClampNeg * 4 ≤ 536870912; omega) (by omega) (by omega) rfl fun H1 cA e1 z1 o1 hAr hNm => ?_
  have hcA : cA = gA γ 20 := Option.some.inj (hNm.symm.trans (C.2.2.2.2.2.2.2.1.1.2 0 _ rfl).2)
  subst hcA
  have kk := k pp l e s m args below meth c γ H1 locs (cells + 1) (slots + n.toNatClampNeg) ls C (xH_new hH hz z1 o1 ?_) (x_newS hS z1 o1) hB (by omega) (by omega) hl
  · rw [List.map_cons, xrefN hH hz] at kk
    exact kk
  · rw [xK_arr (t := 20) (by rw [wT_nA, if_pos rfl]) (by omega)]
    show H1[H.size]? = some (vp_cell _ _)
    rw [e1]
    show some (arrV (gA γ 20) n.toNatClampNeg (fun _ => defaultValue .int)) = some (arrV (gA γ 20) (wN (nA w 20 n.toNatClampNeg) (wZ w + 1)) (fun j => .int (wI (nA w 20 n.toNatClampNeg) (wZ w + 1) j)))
    rw [wN_nA, if_pos rfl]
    congr 2
    funext j
    simp [wI_nA, defaultValue]

theorem x_newa_long {n : Int32} (b : Nat) (hd : decode cc pc = .ok (.newarray .long, 2)) (hw : Cond.arrayClass .long ∈ xGW) (hn : inR n (b + 1)) (hb : b ≤ 1000) (hz : wZ w + 1 < 1000) (h1 : 1 ≤ cu) (h2 : b ≤ su) (k : xX cc nL ret own ini R Z (pc + 2) lv (xR (wZ w + 1) :: st) (nA w 21 n.toNatClampNeg) (cu - 1) (su - b)) : xX cc nL ret own ini R Z pc lv (xI n :: st) w cu su := by
  intro pp l e s m args below meth c γ H locs cells slots ls C hH hS hB hc hs hl
  have hn0 : ¬ n < 0 := fun q => by
    have := Int32.lt_iff_toInt_lt.mp q
    simp at this
    omega
  have hnb : n.toNatClampNeg ≤ b := by
    show n.toInt.toNat ≤ b
    omega
  rw [List.map_cons]
  refine va_newaK (atype := .long) C.1 C.2.1 (C.2.2.2.2.2.2.2.2 _ hw) rfl hd rfl hn0 rfl (by show n.toNatClampNeg * 8 ≤ 536870912; omega) (by omega) (by omega) rfl fun H1 cA e1 z1 o1 hAr hNm => ?_
  have hcA : cA = gA γ 21 := Option.some.inj (hNm.symm.trans (C.2.2.2.2.2.2.2.1.1.2 1 _ rfl).2)
  subst hcA
  have kk := k pp l e s m args below meth c γ H1 locs (cells + 1) (slots + n.toNatClampNeg) ls C (xH_new hH hz z1 o1 ?_) (x_newS hS z1 o1) hB (by omega) (by omega) hl
  · rw [List.map_cons, xrefN hH hz] at kk
    exact kk
  · rw [xK_arr (t := 21) (by rw [wT_nA, if_pos rfl]) (by omega)]
    show H1[H.size]? = some (vp_cell _ _)
    rw [e1]
    show some (arrV (gA γ 21) n.toNatClampNeg (fun _ => defaultValue .long)) = some (arrV (gA γ 21) (wN (nA w 21 n.toNatClampNeg) (wZ w + 1)) (fun j => .long (wL (nA w 21 n.toNatClampNeg) (wZ w + 1) j)))
    rw [wN_nA, if_pos rfl]
    congr 2
    funext j
    simp [wL_nA, defaultValue]

theorem x_newa_byte {n : Int32} (b : Nat) (hd : decode cc pc = .ok (.newarray .byte, 2)) (hw : Cond.arrayClass .byte ∈ xGW) (hn : inR n (b + 1)) (hb : b ≤ 1000) (hz : wZ w + 1 < 1000) (h1 : 1 ≤ cu) (h2 : b ≤ su) (k : xX cc nL ret own ini R Z (pc + 2) lv (xR (wZ w + 1) :: st) (nA w 22 n.toNatClampNeg) (cu - 1) (su - b)) : xX cc nL ret own ini R Z pc lv (xI n :: st) w cu su := by
  intro pp l e s m args below meth c γ H locs cells slots ls C hH hS hB hc hs hl
  have hn0 : ¬ n < 0 := fun q => by
    have := Int32.lt_iff_toInt_lt.mp q
    simp at this
    omega
  have hnb : n.toNatClampNeg ≤ b := by
    show n.toInt.toNat ≤ b
    omega
  rw [List.map_cons]
  refine va_newaK (atype := .byte) C.1 C.2.1 (C.2.2.2.2.2.2.2.2 _ hw) rfl hd rfl hn0 rfl (by show n.toNatClampNeg * 1 ≤ 536870912; omega) (by omega) (by omega) rfl fun H1 cA e1 z1 o1 hAr hNm => ?_
  have hcA : cA = gA γ 22 := Option.some.inj (hNm.symm.trans (C.2.2.2.2.2.2.2.1.1.2 2 _ rfl).2)
  subst hcA
  have kk := k pp l e s m args below meth c γ H1 locs (cells + 1) (slots + n.toNatClampNeg) ls C (xH_new hH hz z1 o1 ?_) (x_newS hS z1 o1) hB (by omega) (by omega) hl
  · rw [List.map_cons, xrefN hH hz] at kk
    exact kk
  · rw [xK_arr (t := 22) (by rw [wT_nA, if_pos rfl]) (by omega)]
    show H1[H.size]? = some (vp_cell _ _)
    rw [e1]
    show some (arrV (gA γ 22) n.toNatClampNeg (fun _ => defaultValue .byte)) = some (arrV (gA γ 22) (wN (nA w 22 n.toNatClampNeg) (wZ w + 1)) (fun j => .int (wI (nA w 22 n.toNatClampNeg) (wZ w + 1) j)))
    rw [wN_nA, if_pos rfl]
    congr 2
    funext j
    simp [wI_nA, defaultValue]

theorem x_newa_boolean {n : Int32} (b : Nat) (hd : decode cc pc = .ok (.newarray .boolean, 2)) (hw : Cond.arrayClass .boolean ∈ xGW) (hn : inR n (b + 1)) (hb : b ≤ 1000) (hz : wZ w + 1 < 1000) (h1 : 1 ≤ cu) (h2 : b ≤ su) (k : xX cc nL ret own ini R Z (pc + 2) lv (xR (wZ w + 1) :: st) (nA w 23 n.toNatClampNeg) (cu - 1) (su - b)) : xX cc nL ret own ini R Z pc lv (xI n :: st) w cu su := by
  intro pp l e s m args below meth c γ H locs cells slots ls C hH hS hB hc hs hl
  have hn0 : ¬ n < 0 := fun q => by
    have := Int32.lt_iff_toInt_lt.mp q
    simp at this
    omega
  have hnb : n.toNatClampNeg ≤ b := by
    show n.toInt.toNat ≤ b
    omega
  rw [List.map_cons]
  refine va_newaK (atype := .boolean) C.1 C.2.1 (C.2.2.2.2.2.2.2.2 _ hw) rfl hd rfl hn0 rfl (by show n.toNatClampNeg * 1 ≤ 536870912; omega) (by omega) (by omega) rfl fun H1 cA e1 z1 o1 hAr hNm => ?_
  have hcA : cA = gA γ 23 := Option.some.inj (hNm.symm.trans (C.2.2.2.2.2.2.2.1.1.2 3 _ rfl).2)
  subst hcA
  have kk := k pp l e s m args below meth c γ H1 locs (cells + 1) (slots + n.toNatClampNeg) ls C (xH_new hH hz z1 o1 ?_) (x_newS hS z1 o1) hB (by omega) (by omega) hl
  · rw [List.map_cons, xrefN hH hz] at kk
    exact kk
  · rw [xK_arr (t := 23) (by rw [wT_nA, if_pos rfl]) (by omega)]
    show H1[H.size]? = some (vp_cell _ _)
    rw [e1]
    show some (arrV (gA γ 23) n.toNatClampNeg (fun _ => defaultValue .boolean)) = some (arrV (gA γ 23) (wN (nA w 23 n.toNatClampNeg) (wZ w + 1)) (fun j => .int (wI (nA w 23 n.toNatClampNeg) (wZ w + 1) j)))
    rw [wN_nA, if_pos rfl]
    congr 2
    funext j
    simp [wI_nA, defaultValue]

theorem x_anew24 {n : Int32} {idx : Nat} (b : Nat) (hd : decode cc pc = .ok (.anewarray idx, 3)) (hw : Cond.classLink own idx "WorldHall$Stand" ∈ xGW) (hn : inR n (b + 1)) (hb : b ≤ 1000) (hz : wZ w + 1 < 1000) (h1 : 1 ≤ cu) (h2 : b ≤ su) (k : xX cc nL ret own ini R Z (pc + 3) lv (xR (wZ w + 1) :: st) (nA w 24 n.toNatClampNeg) (cu - 1) (su - b)) : xX cc nL ret own ini R Z pc lv (xI n :: st) w cu su := by
  intro pp l e s m args below meth c γ H locs cells slots ls C hH hS hB hc hs hl
  have hn0 : ¬ n < 0 := fun q => by
    have := Int32.lt_iff_toInt_lt.mp q
    simp at this
    omega
  have hnb : n.toNatClampNeg ≤ b := by
    show n.toInt.toNat ≤ b
    omega
  rw [List.map_cons]
  refine W.anew C.1 C.2.1 C.2.2.2.2.2.1 (C.2.2.2.2.2.2.2.2 _ hw) (va_AO.use C.2.2.2.2.2.2.2.1.2.2.2.1.1) rfl hd rfl hn0 (by omega) (by omega) (by omega) fun cA kA comp f1 f2 f3 f4 => ?_
  obtain ⟨kA', comp', -, -, -, f5⟩ := (C.2.2.2.2.2.2.2.1.1.2 4 _ rfl).2
  have hcA : cA = gA γ 24 := Option.some.inj (f1.symm.trans f5)
  subst hcA
  generalize hH1 : H.push ({ cls := gA γ 24, slots := Array.replicate n.toNatClampNeg .null, vm := .none } : Cell) = H1
  have z1 : H1.size = H.size + 1 := by rw [← hH1, Array.size_push]
  have e1 : H1[H.size]? = some (arrV (gA γ 24) n.toNatClampNeg (fun _ => .null)) := by rw [← hH1, Array.getElem?_push_size, ← arrV_new]
  have o1 : ∀ q : Nat, q < H.size → H1[q]? = H[q]? := fun q hq => by rw [← hH1, Array.getElem?_push, if_neg (Nat.ne_of_lt hq)]
  have kk := k pp l e s m args below meth c γ H1 locs (cells + 1) (slots + n.toNatClampNeg) ls C (xH_new hH hz z1 o1 ?_) (x_newS hS z1 o1) hB (by omega) (by omega) hl
  · rw [List.map_cons, xrefN hH hz] at kk
    exact kk
  · rw [xK_arr (t := 24) (by rw [wT_nA, if_pos rfl]) (by omega)]
    show H1[H.size]? = some (vp_cell _ _)
    rw [e1]
    show some (arrV (gA γ 24) n.toNatClampNeg (fun _ => .null)) = some (arrV (gA γ 24) (wN (nA w 24 n.toNatClampNeg) (wZ w + 1)) (fun j => va_rf (xO γ (wR (nA w 24 n.toNatClampNeg) (wZ w + 1) j))))
    rw [wN_nA, if_pos rfl]
    congr 2
    funext j
    simp [wR_nA, xO, va_rf]

theorem x_anew25 {n : Int32} {idx : Nat} (b : Nat) (hd : decode cc pc = .ok (.anewarray idx, 3)) (hw : Cond.classLink own idx "WorldHall$Text" ∈ xGW) (hn : inR n (b + 1)) (hb : b ≤ 1000) (hz : wZ w + 1 < 1000) (h1 : 1 ≤ cu) (h2 : b ≤ su) (k : xX cc nL ret own ini R Z (pc + 3) lv (xR (wZ w + 1) :: st) (nA w 25 n.toNatClampNeg) (cu - 1) (su - b)) : xX cc nL ret own ini R Z pc lv (xI n :: st) w cu su := by
  intro pp l e s m args below meth c γ H locs cells slots ls C hH hS hB hc hs hl
  have hn0 : ¬ n < 0 := fun q => by
    have := Int32.lt_iff_toInt_lt.mp q
    simp at this
    omega
  have hnb : n.toNatClampNeg ≤ b := by
    show n.toInt.toNat ≤ b
    omega
  rw [List.map_cons]
  refine W.anew C.1 C.2.1 C.2.2.2.2.2.1 (C.2.2.2.2.2.2.2.2 _ hw) (va_AO.use C.2.2.2.2.2.2.2.1.2.2.2.1.2) rfl hd rfl hn0 (by omega) (by omega) (by omega) fun cA kA comp f1 f2 f3 f4 => ?_
  obtain ⟨kA', comp', -, -, -, f5⟩ := (C.2.2.2.2.2.2.2.1.1.2 5 _ rfl).2
  have hcA : cA = gA γ 25 := Option.some.inj (f1.symm.trans f5)
  subst hcA
  generalize hH1 : H.push ({ cls := gA γ 25, slots := Array.replicate n.toNatClampNeg .null, vm := .none } : Cell) = H1
  have z1 : H1.size = H.size + 1 := by rw [← hH1, Array.size_push]
  have e1 : H1[H.size]? = some (arrV (gA γ 25) n.toNatClampNeg (fun _ => .null)) := by rw [← hH1, Array.getElem?_push_size, ← arrV_new]
  have o1 : ∀ q : Nat, q < H.size → H1[q]? = H[q]? := fun q hq => by rw [← hH1, Array.getElem?_push, if_neg (Nat.ne_of_lt hq)]
  have kk := k pp l e s m args below meth c γ H1 locs (cells + 1) (slots + n.toNatClampNeg) ls C (xH_new hH hz z1 o1 ?_) (x_newS hS z1 o1) hB (by omega) (by omega) hl
  · rw [List.map_cons, xrefN hH hz] at kk
    exact kk
  · rw [xK_arr (t := 25) (by rw [wT_nA, if_pos rfl]) (by omega)]
    show H1[H.size]? = some (vp_cell _ _)
    rw [e1]
    show some (arrV (gA γ 25) n.toNatClampNeg (fun _ => .null)) = some (arrV (gA γ 25) (wN (nA w 25 n.toNatClampNeg) (wZ w + 1)) (fun j => va_rf (xO γ (wR (nA w 25 n.toNatClampNeg) (wZ w + 1) j))))
    rw [wN_nA, if_pos rfl]
    congr 2
    funext j
    simp [wR_nA, xO, va_rf]

theorem xdef (ty : FieldType) (hty : ty ≠ .float ∧ ty ≠ .double) {γ : xG} {w : xSt} {p k : Nat} (h1 : wI w p k = 0) (h2 : wL w p k = 0) (h3 : wR w p k = 0) : defaultValue ty = xF γ w p ty k := by
  cases ty <;> simp [defaultValue, xF, xsort, h1, h2, h3, xO, va_rf] at hty ⊢
theorem xnf : ∀ t, t < 12 → ∀ k, k < xNf t → (xTy t k ≠ .float ∧ xTy t k ≠ .double) := by decide +kernel
theorem x_new {ci idx : Nat} {q : vw_C} (hd : decode cc pc = .ok (.new idx, 3)) (hq : vwCl[ci]? = some q) (hw1 : Cond.classLink own idx q.1 ∈ xGW) (hw2 : Cond.instantiable q.1 q.2.2 ∈ xGW) (hw3 : Cond.initialized q.1 ∈ xGW) (hz : wZ w + 1 < 1000) (h1 : 1 ≤ cu) (h2 : q.2.2 ≤ su) (k : xX cc nL ret own ini R Z (pc + 3) lv (xR (wZ w + 1) :: st) (nA w ci 0) (cu - 1) (su - q.2.2)) : xX cc nL ret own ini R Z pc lv st w cu su := by
  intro pp l e s m args below meth c γ H locs cells slots ls C hH hS hB hc hs hl
  have hts := C.2.2.2.2.2.2.2.2
  have hKn := C.2.2.2.2.2.2.2.1.1.1 ci q hq
  have hlt := xcls_lt hq
  obtain ⟨hN, hty, hnm⟩ := xcls_ty ci q hq
  refine W.newcK C.1 C.2.1 C.2.2.2.2.2.1 (hts _ hw1) (hts _ hw2) (hts _ hw3) rfl hd (by omega) (by omega) hKn.2.1 rfl fun H1 kC hkC e1 z1 o1 => ?_
  have kk := k pp l e s m args below meth c γ H1 locs (cells + 1) (slots + q.2.2) ls C (xH_new hH hz z1 o1 ?_) (x_newS hS z1 o1) hB (by omega) (by omega) hl
  · rw [List.map_cons, xrefN hH hz] at kk
    exact kk
  · rw [xK_obj (t := ci) (by rw [wT_nA, if_pos rfl]) (by omega)]
    refine ⟨q, hq, (u_born (xTy ci) hts (xcls_in ci q hq) hKn hkC e1 hty).to (fun j hj => ?_)⟩
    have hj' : j < xNf ci := by rw [← hN]; exact hj
    show defaultValue (xTy ci j) = vp_V (xFs γ (nA w ci 0) (wZ w + 1) ci) j
    unfold vp_V
    rw [List.getD_eq_getElem?_getD, xFs_get _ _ _ _ hj']
    exact xdef _ (xnf ci hlt j hj') (by rw [wI_nA, if_pos rfl]) (by rw [wL_nA, if_pos rfl]) (by rw [wR_nA, if_pos rfl])

theorem x_iret {x : Int32} {d mc ms : Nat} {rw : Option xv × xSt} (hd : decode cc pc = .ok (.ireturn, 1)) (hr : ret = some .int) (hrw : rw = (some (xI x), w)) : xX cc nL ret own ini (xRm d mc ms) (xZf rw mc ms) pc lv ([xI x]) w cu su := by
  intro pp l e s m args below meth c γ H locs cells slots ls C hH hS hB hc hs hl
  subst hrw
  have hlocks := C.2.2.2.2.1
  have hc' : cells + cu ≤ mc := hc
  have hs' : slots + su ≤ ms := hs
  refine W.widen (k := mc) (n := ms) (by omega) (by omega) ?_
  exact W.iret (v := x) C.1 C.2.1 (C.2.2.2.1.trans hr) (fun t ht hW => ⟨rfl, by rw [ht]; exact hH, by rw [ht]; exact hS.1, fun q hq => by rw [ht]; exact hS.2.1 q (by omega) (by show ¬ gB γ ≤ q; omega)⟩) hS.2.2 hd

theorem x_zret {x : Int32} {d mc ms : Nat} {rw : Option xv × xSt} (hd : decode cc pc = .ok (.ireturn, 1)) (hr : ret = some .boolean) (hx : x = 0 ∨ x = 1) (hrw : rw = (some (xI x), w)) : xX cc nL ret own ini (xRm d mc ms) (xZf rw mc ms) pc lv ([xI x]) w cu su := by
  intro pp l e s m args below meth c γ H locs cells slots ls C hH hS hB hc hs hl
  subst hrw
  have hlocks := C.2.2.2.2.1
  have hc' : cells + cu ≤ mc := hc
  have hs' : slots + su ≤ ms := hs
  refine W.widen (k := mc) (n := ms) (by omega) (by omega) ?_
  exact W.zret (v := x) (ty := .boolean) C.1 C.2.1 (C.2.2.2.1.trans hr) (by rcases hx with rfl | rfl <;> rfl) (fun t ht hW => ⟨rfl, by rw [ht]; exact hH, by rw [ht]; exact hS.1, fun q hq => by rw [ht]; exact hS.2.1 q (by omega) (by show ¬ gB γ ≤ q; omega)⟩) hS.2.2 hd

theorem x_bret {x : Int32} {d mc ms : Nat} {rw : Option xv × xSt} (hd : decode cc pc = .ok (.ireturn, 1)) (hr : ret = some .byte) (hx : narrow .byte (.int x) = .int x) (hrw : rw = (some (xI x), w)) : xX cc nL ret own ini (xRm d mc ms) (xZf rw mc ms) pc lv ([xI x]) w cu su := by
  intro pp l e s m args below meth c γ H locs cells slots ls C hH hS hB hc hs hl
  subst hrw
  have hlocks := C.2.2.2.2.1
  have hc' : cells + cu ≤ mc := hc
  have hs' : slots + su ≤ ms := hs
  refine W.widen (k := mc) (n := ms) (by omega) (by omega) ?_
  exact W.zret (v := x) (ty := .byte) C.1 C.2.1 (C.2.2.2.1.trans hr) hx (fun t ht hW => ⟨rfl, by rw [ht]; exact hH, by rw [ht]; exact hS.1, fun q hq => by rw [ht]; exact hS.2.1 q (by omega) (by show ¬ gB γ ≤ q; omega)⟩) hS.2.2 hd

theorem x_cret {x : Int32} {d mc ms : Nat} {rw : Option xv × xSt} (hd : decode cc pc = .ok (.ireturn, 1)) (hr : ret = some .char) (hx : narrow .char (.int x) = .int x) (hrw : rw = (some (xI x), w)) : xX cc nL ret own ini (xRm d mc ms) (xZf rw mc ms) pc lv ([xI x]) w cu su := by
  intro pp l e s m args below meth c γ H locs cells slots ls C hH hS hB hc hs hl
  subst hrw
  have hlocks := C.2.2.2.2.1
  have hc' : cells + cu ≤ mc := hc
  have hs' : slots + su ≤ ms := hs
  refine W.widen (k := mc) (n := ms) (by omega) (by omega) ?_
  exact W.zret (v := x) (ty := .char) C.1 C.2.1 (C.2.2.2.1.trans hr) hx (fun t ht hW => ⟨rfl, by rw [ht]; exact hH, by rw [ht]; exact hS.1, fun q hq => by rw [ht]; exact hS.2.1 q (by omega) (by show ¬ gB γ ≤ q; omega)⟩) hS.2.2 hd

theorem x_lret {x : Int64} {d mc ms : Nat} {rw : Option xv × xSt} (hd : decode cc pc = .ok (.lreturn, 1)) (hr : ret = some .long) (hrw : rw = (some (xL x), w)) : xX cc nL ret own ini (xRm d mc ms) (xZf rw mc ms) pc lv ([xL x]) w cu su := by
  intro pp l e s m args below meth c γ H locs cells slots ls C hH hS hB hc hs hl
  subst hrw
  have hlocks := C.2.2.2.2.1
  have hc' : cells + cu ≤ mc := hc
  have hs' : slots + su ≤ ms := hs
  refine W.widen (k := mc) (n := ms) (by omega) (by omega) ?_
  exact W.lret (v := x) C.1 C.2.1 (C.2.2.2.1.trans hr) (fun t ht hW => ⟨rfl, by rw [ht]; exact hH, by rw [ht]; exact hS.1, fun q hq => by rw [ht]; exact hS.2.1 q (by omega) (by show ¬ gB γ ≤ q; omega)⟩) hS.2.2 hd

theorem x_aret {x : Nat} {rt : FieldType} {d mc ms : Nat} {rw : Option xv × xSt} (hd : decode cc pc = .ok (.areturn, 1)) (hr : ret = some rt) (hrt : (∃ n, rt = .object n) ∨ ∃ t, rt = .array t) (hrw : rw = (some (xR x), w)) : xX cc nL ret own ini (xRm d mc ms) (xZf rw mc ms) pc lv ([xR x]) w cu su := by
  intro pp l e s m args below meth c γ H locs cells slots ls C hH hS hB hc hs hl
  subst hrw
  have hlocks := C.2.2.2.2.1
  have hc' : cells + cu ≤ mc := hc
  have hs' : slots + su ≤ ms := hs
  refine W.widen (k := mc) (n := ms) (by omega) (by omega) ?_
  exact W.aret (v := va_rf (xO γ x)) (rt := rt) C.1 C.2.1 (C.2.2.2.1.trans hr) hrt (va_rf_or _) (fun t ht hW => ⟨rfl, by rw [ht]; exact hH, by rw [ht]; exact hS.1, fun q hq => by rw [ht]; exact hS.2.1 q (by omega) (by show ¬ gB γ ≤ q; omega)⟩) hS.2.2 hd

theorem x_vret {d mc ms : Nat} {rw : Option xv × xSt} (hd : decode cc pc = .ok (.return_, 1)) (hr : ret = none) (hrw : rw = (none, w)) : xX cc nL ret own ini (xRm d mc ms) (xZf rw mc ms) pc lv ([]) w cu su := by
  intro pp l e s m args below meth c γ H locs cells slots ls C hH hS hB hc hs hl
  subst hrw
  have hlocks := C.2.2.2.2.1
  have hc' : cells + cu ≤ mc := hc
  have hs' : slots + su ≤ ms := hs
  refine W.widen (k := mc) (n := ms) (by omega) (by omega) ?_
  exact W.vret C.1 C.2.1 (C.2.2.2.1.trans hr) (fun t ht hW => ⟨rfl, by rw [ht]; exact hH, by rw [ht]; exact hS.1, fun q hq => by rw [ht]; exact hS.2.1 q (by omega) (by show ¬ gB γ ≤ q; omega)⟩) hS.2.2 hd

theorem xPc_blind (γ : xG) (av : List xv) (w : xSt) : FrameBlind (xPc γ av w) := by
  intro a U g mk q
  obtain ⟨h1, h2, h3⟩ := q
  exact ⟨h1, h2, xStat.go h3 (State.WarmedH.refl U) (by rw [h2.2.1]; omega) (fun _ _ _ => rfl)⟩
theorem xPc_of {γ : xG} {av : List xv} {w : xSt} {s U : State} {H : Heap} {locs : List Loc} (hH : xH γ w H) (hst : xStat γ s) (hS : va_S (xA γ) s.heap H locs) (hB : gB γ ≤ s.heap.size) (hU : U.heap = H) (hW : s.WarmedH U.vm) : xPc γ av w (av.map (xC γ)).toArray U :=
  ⟨rfl, by rw [hU]; exact hH, xStat.go hst hW hB (fun q h1 h2 => by rw [hU]; exact hS.2.1 q h1 h2)⟩
theorem x_after {p : Program} {l : Launch} {e : Env} {R : Room} {s : State} {m : MethodId} {args : Array Value} {below : List Frame} {meth : Method} {c : Code} {H : Heap} {locs : List Loc} {cells slots mc ms : Nat} {Q : State → Prop} {pc : Nat} {ls : Array Slot} {st0 rest : List Value} {γ : xG} {rw : Option xv × xSt} {a : Array Value}
    (hr : va_Run p l e R s m args below meth c H locs cells slots mc ms (F0 m pc ls st0) rest (xQc γ rw a) (xA γ)) (hS : va_S (xA γ) s.heap H locs) (hB : gB γ ≤ s.heap.size)
    (kk : ∀ (H1 : Heap) (locs1 : List Loc), xH γ rw.2 H1 → va_S (xA γ) s.heap H1 locs1 → W p l e R s m args below meth c H1 locs1 (cells + mc) (slots + ms) Q (F0 m (pc + 3) ls ((rw.1.map (xC γ)).toList ++ rest))) : W p l e R s m args below meth c H locs cells slots Q (F0 m pc ls st0) := by
  intro T hT X
  obtain ⟨v, st₀, t, T', L, h0, X', hL, e1, e2, ⟨hv, hH1, hz, hk⟩, stp⟩ := hr T hT X
  have hv2 : v = rw.1.map (xC γ) := Outcome.returned.inj hv
  subst hv2
  rw [h0] at hz hk
  obtain ⟨t2, a1, b1⟩ := kk T'.heap (locs ++ L) (by rw [e1]; exact hH1) ⟨Nat.le_trans hS.1 (by rw [e1]; exact hz), fun q h1 h2 => by rw [e1, hk q (by show q < gB γ; exact Nat.not_le.mp h2)]; exact hS.2.1 q h1 h2, fun q hq => by
      rcases List.mem_append.mp hq with h | h
      · exact hS.2.2 q h
      · exact hL q h⟩ T' rfl X'
  exact ⟨t2, stp t2 a1, b1⟩
theorem xcat_sum (γ : xG) (st : List xv) : ((st.map (xC γ)).map fun v => v.category).sum = (st.map xcat).sum := by
  induction st with
  | nil => rfl
  | cons v l ih =>
    simp only [List.map_cons, List.sum_cons, xC_cat]
    rw [ih]
theorem xtoList (γ : xG) (r : Option xv) (st : List xv) : (r.map (xC γ)).toList ++ st.map (xC γ) = (r.toList ++ st).map (xC γ) := by cases r <;> rfl
/-- the words of a call: the code of y, its class made, its name plain, n parameters -/
def xMB (y : MethodName) (bytes : ByteArray) (maxL : Nat) (rt : Option FieldType) (n : Nat) : Prop := Cond.code y bytes maxL rt ∈ xGW ∧ Cond.initialized y.cls ∈ xGW ∧ (y.cls ≠ "java/lang/invoke/MethodHandle" ∧ y.cls ≠ "java/lang/invoke/VarHandle") ∧ (parseMethodDescriptor y.desc).map (fun d => d.parameters.length) = some n
theorem xMB_len {y : MethodName} {bytes : ByteArray} {maxL : Nat} {rt : Option FieldType} {n : Nat} (h : xMB y bytes maxL rt n) : ∀ sig, parseMethodDescriptor y.desc = some sig → n = sig.parameters.length := by
  intro sig hs
  have h2 := h.2.2.2
  rw [hs] at h2
  exact (Option.some.inj h2).symm
theorem xMB_ws {y : MethodName} {bytes : ByteArray} {maxL : Nat} {rt : Option FieldType} {n : Nat} (h : xMB y bytes maxL rt n) {args : Array Value} {s : State} (hts : ∀ w ∈ xGW, w.before args s = true) : ∀ w ∈ [Cond.code y bytes maxL rt], ∀ (a' : Array Value) (U : State), s.WarmedH U.vm → w.before a' U = true := by
  intro w hw a' U hW
  rw [List.mem_singleton.mp hw]
  exact xGW_warm h.1 hW (hts _ h.1)
def xMV (own : String) (idx : Nat) (y : MethodName) : Prop := Cond.methodLink own idx y ∈ xGW ∧ Cond.instanceMethod y ∈ xGW ∧ Cond.selects y.cls y y ∈ xGW
def xMS (own : String) (idx : Nat) (y : MethodName) : Prop := Cond.methodLink own idx y ∈ xGW ∧ Cond.static y ∈ xGW
def xMI (own : String) (idx : Nat) (y : MethodName) : Prop := y.name = "<init>" ∧ Cond.instanceMethod y ∈ xGW ∧ (Cond.methodLink own idx y ∈ xGW ∨ ∃ host, Cond.methodLinkNest own idx y host ∈ xNW)

theorem x_callV {y : MethodName} {bytes : ByteArray} {maxL : Nat} {rt : Option FieldType} {d1 mc1 ms1 idx n : Nat} {As st0 : List xv} {r : Option xv} {w1 : xSt} {p0 ci : Nat} (hd : decode cc pc = .ok (.invokevirtual idx, 3)) (hm : xMV own idx y) (hb : xMB y bytes maxL rt n) (hcall : xCall y bytes maxL rt d1 mc1 ms1 (xR p0 :: As) w (r, w1)) (hci : ∃ q : vw_C, vwCl[ci]? = some q ∧ q.1 = y.cls) (hp : isC w p0 ci) (hn : As.length = n) (hst : st0 = As.reverse ++ xR p0 :: st) (hw : (st.map xcat).sum ≤ 8) (hr1 : d1 + 1 ≤ R.frames) (hr2 : 19 + maxL + 40 * d1 ≤ R.locals) (hcu : mc1 ≤ cu) (hsu : ms1 ≤ su) (k : xX cc nL ret own ini R Z (pc + 3) lv (r.toList ++ st) w1 (cu - mc1) (su - ms1)) : xX cc nL ret own ini R Z pc lv st0 w cu su := by
  intro pp l e s m args below meth c γ H locs cells slots ls C hH hS hB hc hs hl
  subst hst
  have hts := C.2.2.2.2.2.2.2.2
  have hstt := C.2.2.2.2.2.2.2.1
  obtain ⟨q, hq, hqy⟩ := hci
  have hlt := xcls_lt hq
  have hrec := va_recv hstt.1 hH.1 hq (xW_obj (γ := γ) hp (by omega))
  rw [hqy] at hrec
  have hav : (Value.ref (gB γ + (p0 - 1)) :: As.map (xC γ)).toArray = ((xR p0 :: As).map (xC γ)).toArray := by rw [List.map_cons, xrefE hH hp]
  have run := va_runV (l := l) (e := e) (below := below) (meth := meth) (locs := locs) (cells := cells) (slots := slots) (b := gB γ + (p0 - 1)) (As := As.map (xC γ)) (rest := st.map (xC γ)) (g := F0 m pc ls ((As.reverse ++ xR p0 :: st).map (xC γ))) (Ts := xGW) (own := own) (cc := cc) (nL := nL) (p := pp) (m := m) (c := c) (s := s) (args := args) (H := H) ⟨C.1, C.2.1, C.2.2.1, C.2.2.2.2.2.1, hts⟩ (hcall l γ) (C := y.cls) (n := n) (R := R) (index := idx) ⟨⟨rfl, rfl, hr1, by show 8 + (maxL + 11) + 40 * d1 ≤ R.locals; omega, xMB_ws hb hts, List.mem_singleton.mpr rfl, hts _ hb.1, hts _ hb.2.1, hb.2.2.1, xMB_len hb, hts _ hm.1⟩, hts _ hm.2.1, hts _ hm.2.2⟩ ⟨xPc_blind γ _ _, hrec, fun U hU hW => by rw [hav]; exact xPc_of hH hstt hS hB hU hW⟩ rfl (by rw [List.length_map]; exact hn) hl.1 (by rw [List.map_append, List.map_cons, List.map_reverse, xrefE hH hp]) (lv_room (by rw [xcat_sum]; exact hw)) hd ⟨by omega, by omega⟩
  refine x_after run hS hB (fun H1 locs1 hH1 hS1 => ?_)
  rw [xtoList]
  exact k pp l e s m args below meth c γ H1 locs1 (cells + mc1) (slots + ms1) ls C hH1 hS1 hB (by omega) (by omega) hl

theorem x_callS {y : MethodName} {bytes : ByteArray} {maxL : Nat} {rt : Option FieldType} {d1 mc1 ms1 idx n : Nat} {As st0 : List xv} {r : Option xv} {w1 : xSt} (hd : decode cc pc = .ok (.invokestatic idx, 3)) (hm : xMS own idx y) (hb : xMB y bytes maxL rt n) (hcall : xCall y bytes maxL rt d1 mc1 ms1 As w (r, w1)) (hn : As.length = n) (hst : st0 = As.reverse ++ st) (hw : (st.map xcat).sum ≤ 8) (hr1 : d1 + 1 ≤ R.frames) (hr2 : 19 + maxL + 40 * d1 ≤ R.locals) (hcu : mc1 ≤ cu) (hsu : ms1 ≤ su) (k : xX cc nL ret own ini R Z (pc + 3) lv (r.toList ++ st) w1 (cu - mc1) (su - ms1)) : xX cc nL ret own ini R Z pc lv st0 w cu su := by
  intro pp l e s m args below meth c γ H locs cells slots ls C hH hS hB hc hs hl
  subst hst
  have hts := C.2.2.2.2.2.2.2.2
  have hstt := C.2.2.2.2.2.2.2.1
  have run := va_runS (l := l) (e := e) (below := below) (meth := meth) (locs := locs) (cells := cells) (slots := slots) (As := As.map (xC γ)) (rest := st.map (xC γ)) (g := F0 m pc ls ((As.reverse ++ st).map (xC γ))) (Ts := xGW) (own := own) (cc := cc) (nL := nL) (p := pp) (m := m) (c := c) (s := s) (args := args) (H := H) ⟨C.1, C.2.1, C.2.2.1, C.2.2.2.2.2.1, hts⟩ (hcall l γ) (n := n) (R := R) (index := idx) ⟨⟨rfl, rfl, hr1, by show 8 + (maxL + 11) + 40 * d1 ≤ R.locals; omega, xMB_ws hb hts, List.mem_singleton.mpr rfl, hts _ hb.1, hts _ hb.2.1, hb.2.2.1, xMB_len hb, hts _ hm.1⟩, hts _ hm.2⟩ ⟨xPc_blind γ _ _, fun U hU hW => xPc_of hH hstt hS hB hU hW⟩ rfl (by rw [List.length_map]; exact hn) hl.1 (by rw [List.map_append, List.map_reverse]) (lv_room (by rw [xcat_sum]; exact hw)) hd ⟨by omega, by omega⟩
  refine x_after run hS hB (fun H1 locs1 hH1 hS1 => ?_)
  rw [xtoList]
  exact k pp l e s m args below meth c γ H1 locs1 (cells + mc1) (slots + ms1) ls C hH1 hS1 hB (by omega) (by omega) hl

theorem x_callI {y : MethodName} {bytes : ByteArray} {maxL : Nat} {d1 mc1 ms1 idx n : Nat} {As st0 : List xv} {r : Option xv} {w1 : xSt} {p0 ci : Nat} (hd : decode cc pc = .ok (.invokespecial idx, 3)) (hm : xMI own idx y) (hb : xMB y bytes maxL none n) (hcall : xCall y bytes maxL none d1 mc1 ms1 (xR p0 :: As) w (r, w1)) (hp : isC w p0 ci) (hn : As.length = n) (hst : st0 = As.reverse ++ xR p0 :: st) (hw : (st.map xcat).sum ≤ 8) (hr1 : d1 + 1 ≤ R.frames) (hr2 : 19 + maxL + 40 * d1 ≤ R.locals) (hcu : mc1 ≤ cu) (hsu : ms1 ≤ su) (k : xX cc nL ret own ini R Z (pc + 3) lv (r.toList ++ st) w1 (cu - mc1) (su - ms1)) : xX cc nL ret own ini R Z pc lv st0 w cu su := by
  intro pp l e s m args below meth c γ H locs cells slots ls C hH hS hB hc hs hl
  subst hst
  have hts := C.2.2.2.2.2.2.2.2
  have hstt := C.2.2.2.2.2.2.2.1
  have hav : (Value.ref (gB γ + (p0 - 1)) :: As.map (xC γ)).toArray = ((xR p0 :: As).map (xC γ)).toArray := by rw [List.map_cons, xrefE hH hp]
  obtain ⟨hy1, hin, hlk⟩ := hm
  have run : va_Run pp l e R s m args below meth c H locs cells slots mc1 ms1 (F0 m pc ls ((As.reverse ++ xR p0 :: st).map (xC γ))) (st.map (xC γ)) (xQc γ (r, w1) (Value.ref (gB γ + (p0 - 1)) :: As.map (xC γ)).toArray) (xA γ) := by
    rcases hlk with hln | ⟨host, hln⟩
    · exact va_runI (l := l) (e := e) (below := below) (meth := meth) (locs := locs) (cells := cells) (slots := slots) (b := gB γ + (p0 - 1)) (As := As.map (xC γ)) (rest := st.map (xC γ)) (g := F0 m pc ls ((As.reverse ++ xR p0 :: st).map (xC γ))) (Ts := xGW) (own := own) (cc := cc) (nL := nL) (p := pp) (m := m) (c := c) (s := s) (args := args) (H := H) ⟨C.1, C.2.1, C.2.2.1, C.2.2.2.2.2.1, hts⟩ (hcall l γ) (n := n) (R := R) (index := idx) ⟨⟨rfl, rfl, hr1, by show 8 + (maxL + 11) + 40 * d1 ≤ R.locals; omega, xMB_ws hb hts, List.mem_singleton.mpr rfl, hts _ hb.1, hts _ hb.2.1, hb.2.2.1, xMB_len hb, hts _ hln⟩, hy1, hts _ hin⟩ ⟨xPc_blind γ _ _, fun U hU hW => by rw [hav]; exact xPc_of hH hstt hS hB hU hW⟩ rfl (by rw [List.length_map]; exact hn) hl.1 (by rw [List.map_append, List.map_cons, List.map_reverse, xrefE hH hp]) (lv_room (by rw [xcat_sum]; exact hw)) hd ⟨by omega, by omega⟩
    · exact va_runIN (l := l) (e := e) (below := below) (meth := meth) (locs := locs) (cells := cells) (slots := slots) (b := gB γ + (p0 - 1)) (As := As.map (xC γ)) (rest := st.map (xC γ)) (g := F0 m pc ls ((As.reverse ++ xR p0 :: st).map (xC γ))) (Ts := xGW) (own := own) (cc := cc) (nL := nL) (p := pp) (m := m) (c := c) (s := s) (args := args) (H := H) ⟨C.1, C.2.1, C.2.2.1, C.2.2.2.2.2.1, hts⟩ (hcall l γ) (n := n) (R := R) (index := idx) ⟨⟨⟨rfl, rfl, hr1, by show 8 + (maxL + 11) + 40 * d1 ≤ R.locals; omega, xMB_ws hb hts, List.mem_singleton.mpr rfl⟩, hts _ hb.1, hts _ hb.2.1, hb.2.2.1, xMB_len hb, va_Nw.use rfl (hstt.2.1 _ hln)⟩, hy1, hts _ hin⟩ ⟨xPc_blind γ _ _, fun U hU hW => by rw [hav]; exact xPc_of hH hstt hS hB hU hW⟩ rfl (by rw [List.length_map]; exact hn) hl.1 (by rw [List.map_append, List.map_cons, List.map_reverse, xrefE hH hp]) (lv_room (by rw [xcat_sum]; exact hw)) hd ⟨by omega, by omega⟩
  refine x_after run hS hB (fun H1 locs1 hH1 hS1 => ?_)
  rw [xtoList]
  exact k pp l e s m args below meth c γ H1 locs1 (cells + mc1) (slots + ms1) ls C hH1 hS1 hB (by omega) (by omega) hl

theorem x_objInit {idx p0 ci : Nat} (hd : decode cc pc = .ok (.invokespecial idx, 3)) (hw1 : Cond.methodLink own idx objectInit ∈ xGW) (hw2 : Cond.instanceMethod objectInit ∈ xGW) (hw3 : Cond.code objectInit ⟨#[0xb1]⟩ 1 none ∈ xGW) (hp : isC w p0 ci) (hw : (st.map xcat).sum ≤ 8) (hr1 : 1 ≤ R.frames) (hr2 : 20 ≤ R.locals) (k : xX cc nL ret own ini R Z (pc + 3) lv st w cu su) : xX cc nL ret own ini R Z pc lv (xR p0 :: st) w cu su := by
  intro pp l e s m args below meth c γ H locs cells slots ls C hH hS hB hc hs hl
  have hts := C.2.2.2.2.2.2.2.2
  rw [List.map_cons, xrefE hH hp]
  refine W.objInit C.1 C.2.1 C.2.2.2.2.2.1 (hts _ hw1) (hts _ hw2) (hts _ hw3) rfl (by rw [C.2.2.1]; exact hl.1) rfl hd hr1 ?_ (k pp l e s m args below meth c γ H locs cells slots ls C hH hS hB hc hs hl)
  have := xcat_sum γ st
  show 2 * 0 + _ + 12 ≤ R.locals
  omega

end XCALLS
