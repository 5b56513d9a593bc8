/-! ROWS over cells: fields, arrays, new cells, answers -/
set_option maxRecDepth 20000 in
theorem xcls_in (ci : Nat) (q : vw_C) (h : vwCl[ci]? = some q) : ∀ w ∈ u_ws q.1 q.2.1 q.2.2, w ∈ xGW := by
  have key : ∀ ci : Nat, ci < 12 → ∀ q : vw_C, vwCl[ci]? = some q → ∀ w ∈ u_ws q.1 q.2.1 q.2.2, w ∈ lw_tbl ∧ goodWord w = true := by
    intro ci hci q hq
    match ci, hci, hq with

    | 0, _, hq => cases hq; exact (by decide +kernel : ∀ w ∈ u_ws RX0 TX0 8, w ∈ lw_tbl ∧ goodWord w = true)
    | 1, _, hq => cases hq; exact (by decide +kernel : ∀ w ∈ u_ws RX1 TX1 7, w ∈ lw_tbl ∧ goodWord w = true)
    | 2, _, hq => cases hq; exact (by decide +kernel : ∀ w ∈ u_ws RX2 TX2 2, w ∈ lw_tbl ∧ goodWord w = true)
    | 3, _, hq => cases hq; exact (by decide +kernel : ∀ w ∈ u_ws RX3 TX3 5, w ∈ lw_tbl ∧ goodWord w = true)
    | 4, _, hq => cases hq; exact (by decide +kernel : ∀ w ∈ u_ws RX4 TX4 3, w ∈ lw_tbl ∧ goodWord w = true)
    | 5, _, hq => cases hq; exact (by decide +kernel : ∀ w ∈ u_ws RX5 TX5 4, w ∈ lw_tbl ∧ goodWord w = true)
    | 6, _, hq => cases hq; exact (by decide +kernel : ∀ w ∈ u_ws RX6 TX6 11, w ∈ lw_tbl ∧ goodWord w = true)
    | 7, _, hq => cases hq; exact (by decide +kernel : ∀ w ∈ u_ws RX7 TX7 3, w ∈ lw_tbl ∧ goodWord w = true)
    | 8, _, hq => cases hq; exact (by decide +kernel : ∀ w ∈ u_ws RX8 TX8 4, w ∈ lw_tbl ∧ goodWord w = true)
    | 9, _, hq => cases hq; exact (by decide +kernel : ∀ w ∈ u_ws RX9 TX9 2, w ∈ lw_tbl ∧ goodWord w = true)
    | 10, _, hq => cases hq; exact (by decide +kernel : ∀ w ∈ u_ws RX10 TX10 10, w ∈ lw_tbl ∧ goodWord w = true)
    | 11, _, hq => cases hq; exact (by decide +kernel : ∀ w ∈ u_ws RX11 TX11 50, w ∈ lw_tbl ∧ goodWord w = true)
    | (n + 12), hn, _ => exact absurd hn (by omega)
  intro w hw
  have hlt : ci < 12 := by
    have := (List.getElem?_eq_some_iff.mp h).1
    exact this
  obtain ⟨a, b⟩ := key ci hlt q h w hw
  exact List.mem_filter.mpr ⟨a, b⟩
theorem xcls_lt {ci : Nat} {q : vw_C} (h : vwCl[ci]? = some q) : ci < 12 := (List.getElem?_eq_some_iff.mp h).1
theorem xcls_ty (ci : Nat) (q : vw_C) (h : vwCl[ci]? = some q) : q.2.2 = xNf ci ∧ (∀ k, k < q.2.2 → parseFieldDescriptor (q.2.1 k).2.2.1 = some (xTy ci k)) ∧ (∀ a, a < q.2.2 → ∀ b, b < q.2.2 → a ≠ b → (q.2.1 a).2.1 ≠ (q.2.1 b).2.1) := by
  have hlt := xcls_lt h
  match ci, hlt, h with

  | 0, _, h => cases h; exact ⟨rfl, tyX0_ok, nmX0⟩
  | 1, _, h => cases h; exact ⟨rfl, tyX1_ok, nmX1⟩
  | 2, _, h => cases h; exact ⟨rfl, tyX2_ok, nmX2⟩
  | 3, _, h => cases h; exact ⟨rfl, tyX3_ok, nmX3⟩
  | 4, _, h => cases h; exact ⟨rfl, tyX4_ok, nmX4⟩
  | 5, _, h => cases h; exact ⟨rfl, tyX5_ok, nmX5⟩
  | 6, _, h => cases h; exact ⟨rfl, tyX6_ok, nmX6⟩
  | 7, _, h => cases h; exact ⟨rfl, tyX7_ok, nmX7⟩
  | 8, _, h => cases h; exact ⟨rfl, tyX8_ok, nmX8⟩
  | 9, _, h => cases h; exact ⟨rfl, tyX9_ok, nmX9⟩
  | 10, _, h => cases h; exact ⟨rfl, tyX10_ok, nmX10⟩
  | 11, _, h => cases h; exact ⟨rfl, tyX11_ok, nmX11⟩
  | (n + 12), hn, _ => exact absurd hn (by omega)
/-- the pool's entry idx of own is the field k of the class ci -/
def xFL (own : String) (idx ci k : Nat) : Prop := k < xNf ci ∧ ∃ q : vw_C, vwCl[ci]? = some q ∧ ((Cond.fieldLink own idx (q.2.1 k).1 (q.2.1 k).2.1 (q.2.1 k).2.2.1 ∈ xGW) ∨ ∃ host, Cond.fieldLinkNest own idx (q.2.1 k).1 (q.2.1 k).2.1 (q.2.1 k).2.2.1 host ∈ xNW)
/-- and may be written there -/
def xFW (own : String) (ini : Bool) (idx ci k : Nat) : Prop := k < xNf ci ∧ ∃ q : vw_C, vwCl[ci]? = some q ∧ (((q.2.1 k).2.2.2 = false ∧ ((Cond.fieldLink own idx (q.2.1 k).1 (q.2.1 k).2.1 (q.2.1 k).2.2.1 ∈ xGW) ∨ ∃ host, Cond.fieldLinkNest own idx (q.2.1 k).1 (q.2.1 k).2.1 (q.2.1 k).2.2.1 host ∈ xNW)) ∨ ((q.2.1 k).2.2.2 = true ∧ ini = true ∧ (q.2.1 k).1 = own ∧ Cond.fieldLink own idx (q.2.1 k).1 (q.2.1 k).2.1 (q.2.1 k).2.2.1 ∈ xGW))
section XHEAP
variable {cc : ByteArray} {nL : Nat} {ret : Option FieldType} {own : String} {ini : Bool} {R : Room} {Z : xG → List Frame → Array Value → State → State → Prop} {pc : Nat} {lv : List (Nat × xv)} {st : List xv} {w : xSt} {cu su : Nat}
theorem xrefE {γ : xG} {w : xSt} {H : Heap} {p t : Nat} (hH : xH γ w H) (h : isC w p t) : xC γ (xR p) = .ref (gB γ + (p - 1)) := by
  have := hH.2.2.1
  have := h.2.1
  rw [xC_ref h.1 (by omega), xE_in (by omega)]
theorem xW_obj {γ : xG} {w : xSt} {p t : Nat} (h : isC w p t) (ht : t < 20) : (xW γ w)[p - 1]? = some (gB γ + (p - 1), .inr (t, xFs γ w p t)) := by
  rw [xW_get γ w h.1 h.2.1, xK_obj h.2.2 ht]
theorem xW_arr {γ : xG} {w : xSt} {p t : Nat} (h : isC w p t) (ht : ¬ t < 20) : (xW γ w)[p - 1]? = some (gB γ + (p - 1), .inl (gA γ t, wN w p, xAr γ w p t)) := by
  rw [xW_get γ w h.1 h.2.1, xK_arr h.2.2 ht]

theorem x_getC {p ci k idx : Nat} {v : xv} (hd : decode cc pc = .ok (.getfield idx, 3)) (hf : xFL own idx ci k) (hp : isC w p ci) (hv : ∀ γ : xG, xF γ w p (xTy ci k) k = xC γ v) (k : xX cc nL ret own ini R Z (pc + 3) lv (v :: st) w cu su) : xX cc nL ret own ini R Z pc lv (xR p :: st) w cu su := by
  intro pp l e s m args below meth c γ H locs cells slots ls C hH hS hB hc hs hl
  obtain ⟨hk, q, hq, hl2⟩ := hf
  have hlt := xcls_lt hq
  have h1 := xW_obj (γ := γ) hp (by omega)
  have k1 := k pp l e s m args below meth c γ H locs cells slots ls C hH hS hB hc hs hl
  rw [List.map_cons] at k1
  rw [List.map_cons, xrefE hH hp]
  have hN := (xcls_ty ci q hq).1
  rcases hl2 with hl2 | ⟨host, hl2⟩
  · exact va_get (D := gD γ) (ci := ci) (v := xC γ v) C.1 C.2.1 C.2.2.2.2.2.2.2.2 (xcls_in ci q hq) C.2.2.2.2.2.1 C.2.2.2.2.2.2.2.1.1 hH.1 (p - 1) h1 hq _ (by rw [hN]; exact hk) (C.2.2.2.2.2.2.2.2 _ hl2) (fun _ h9 => h9) (by rw [xFs_get γ w p ci hk, hv]) hd k1
  · exact va_getN (D := gD γ) (ci := ci) (v := xC γ v) C.1 C.2.1 C.2.2.2.2.2.2.2.2 (xcls_in ci q hq) C.2.2.2.2.2.1 C.2.2.2.2.2.2.2.1.1 hH.1 (p - 1) h1 hq _ (by rw [hN]; exact hk) (va_Nw.use rfl (C.2.2.2.2.2.2.2.1.2.1 _ hl2)) (fun _ h9 => h9) (by rw [xFs_get γ w p ci hk, hv]) hd k1
theorem x_getI {p ci k idx : Nat} (hd : decode cc pc = .ok (.getfield idx, 3)) (hf : xFL own idx ci k) (hs : xsort (xTy ci k) = 0) (hp : isC w p ci) (k : xX cc nL ret own ini R Z (pc + 3) lv (xI (wI w p k) :: st) w cu su) : xX cc nL ret own ini R Z pc lv (xR p :: st) w cu su := x_getC hd hf hp (fun γ => xF_i hs) k
theorem x_getL {p ci k idx : Nat} (hd : decode cc pc = .ok (.getfield idx, 3)) (hf : xFL own idx ci k) (hs : xsort (xTy ci k) = 1) (hp : isC w p ci) (k : xX cc nL ret own ini R Z (pc + 3) lv (xL (wL w p k) :: st) w cu su) : xX cc nL ret own ini R Z pc lv (xR p :: st) w cu su := x_getC hd hf hp (fun γ => xF_l hs) k
theorem x_getR {p ci k idx : Nat} (hd : decode cc pc = .ok (.getfield idx, 3)) (hf : xFL own idx ci k) (hs : xsort (xTy ci k) = 2) (hp : isC w p ci) (k : xX cc nL ret own ini R Z (pc + 3) lv (xR (wR w p k) :: st) w cu su) : xX cc nL ret own ini R Z pc lv (xR p :: st) w cu su := x_getC hd hf hp (fun γ => xF_r hs) k
theorem xH_set {γ : xG} {w w' : xSt} {H H1 : Heap} {p : Nat} {e : va_E} (hH : xH γ w H) (h0 : p ≠ 0) (h1 : p ≤ wZ w) (hz : wZ w' = wZ w) (ho : ∀ q, q ≠ p → xK γ w' q = xK γ w q) (he : xK γ w' p = e) (hP : va_P (gD γ) vwCl ((xW γ w).set (p - 1) (gB γ + (p - 1), e)) H1) (hs : H1.size = H.size) (hx : wN w' 1020 = wN w 1020 ∧ ∀ j : Nat, wI w' 1020 j = wI w 1020 j) : xH γ w' H1 := by
  rw [xW_set γ w w' h0 h1 hz ho he] at hP
  exact ⟨hP, by rw [hs, hz]; exact hH.2.1, by rw [hz]; exact hH.2.2.1, hx.1.trans hH.2.2.2.1, fun j => (hx.2 j).trans (hH.2.2.2.2 j)⟩
theorem sV_scr (w : xSt) (k : Nat) (v : xv) {p : Nat} (h : p < 1000) : wN (sV w p k v) 1020 = wN w 1020 ∧ ∀ j : Nat, wI (sV w p k v) 1020 j = wI w 1020 j := by
  refine ⟨sV_N w p k v 1020, fun j => ?_⟩
  rcases v with x | x | x
  · show wI (sI w p k x) 1020 j = _
    rw [wI_sI, if_neg (by omega)]
  · rfl
  · rfl

theorem x_putC {p ci k idx : Nat} {v : xv} (hd : decode cc pc = .ok (.putfield idx, 3)) (hf : xFW own ini idx ci k) (hp : isC w p ci) (hv : xsort (xTy ci k) = vsort v) (hn : ∀ γ : xG, narrow (xTy ci k) (xC γ v) = xC γ v ∧ fits (xTy ci k) (xC γ v) = true) (kk : xX cc nL ret own ini R Z (pc + 3) lv st (sV w p k v) cu su) : xX cc nL ret own ini R Z pc lv (v :: xR p :: st) w cu su := by
  intro pp l e s m args below meth c γ H locs cells slots ls C hH hS hB hc hs hl
  obtain ⟨hk, q, hq, hl2⟩ := hf
  have hlt := xcls_lt hq
  have h1 := xW_obj (γ := γ) hp (by omega)
  rw [List.map_cons, List.map_cons, xrefE hH hp]
  obtain ⟨hN, hty, hnm⟩ := xcls_ty ci q hq
  obtain ⟨C0, T, N⟩ := q
  dsimp only at hN hty hnm hl2
  subst hN
  have hts := C.2.2.2.2.2.2.2.2
  have hin := xcls_in ci _ hq
  have hK := C.2.2.2.2.2.2.2.1.1
  have hD := xW_D γ w
  have hap := va_apart (own := own) hts hin (xTy ci) hty hnm hK hq
  obtain ⟨r, g1, cell, q1, q2, q3, q4⟩ := hH.1 (p - 1) _ h1
  have hr : r = (C0, T, xNf ci) := Option.some.inj (g1.symm.trans hq)
  subst hr
  obtain ⟨hSl, hfc, kC, hkC, hkind⟩ := hK.1 ci _ hq
  obtain ⟨cf, kf, fi, f, hi, hsl⟩ := hSl k hk
  have hst := (u_facts hfc hkC (u_lays hts hin hk) hi).1
  have fin : ∀ (H1 : Heap) (locs1 : List Loc), H1[gB γ + (p - 1)]? = some (cell.setSlot (gD γ |>.2 ci k) (xC γ v)) → H1.size = H.size → (∀ x : Nat, x ≠ gB γ + (p - 1) → H1[x]? = H[x]?) → va_S (xA γ) s.heap H1 locs1 → W pp l e R s m args below meth c H1 locs1 cells slots (Z γ below args s) (F0 m (pc + 3) ls (st.map (xC γ))) := by
    intro H1 locs1 e1 e2 e3 hS1
    have hP1 := hH.1.set hD h1 (e := .inr (ci, (xFs γ w p ci).set k (xC γ v))) ⟨_, hq, t_OB.to (V := updV (vp_V (xFs γ w p ci)) k (xC γ v)) ⟨_, e1, q2, q3, t_set q4 hap hk (xC γ v)⟩ (fun j _ => vp_updV_set (by rw [xFs_len]; exact hk) (xC γ v) j)⟩ e3
    rw [sV_fld w p ci hk v hv] at hP1
    exact kk pp l e s m args below meth c γ H1 locs1 cells slots ls C (xH_set hH hp.1 hp.2.1 (sV_Z w p k v) (fun x hx => sV_ne w p k v hx) (xK_obj (by rw [sV_T]; exact hp.2.2) (by omega)) hP1 e2 (sV_scr w k v (by have := hp.2.1; have := hH.2.2.1; omega))) hS1 hB hc hs hl
  rcases hl2 with ⟨hfin, hl2⟩ | ⟨hfin, hini, hdecl, hl2⟩
  · have hlay := hts _ (hin _ (u_in_lay hk))
    unfold u_lay at hlay
    rw [if_neg (by rw [hfin]; decide)] at hlay
    have h6 := u_store hfc hkC hkind hlay hi (hty k hk) (hn γ).1 (hn γ).2
    rcases hl2 with hl2 | ⟨host, hl2⟩
    · refine W.putK C.1 C.2.1 (f := f) ⟨C.2.2.2.2.2.1, hts _ hl2, ⟨_, _, _, hi⟩, hst⟩ (by rw [q2]; exact h6) q1 q3 (by rw [hsl]; exact k2_hasslot (q4 k hk)) rfl rfl hd fun H' e1 e2 e3 => ?_
      rw [hsl] at e1 ⊢
      exact fin H' _ e1 e2 e3 (hS.put e2 e3 (hD.2 _ _ h1))
    · refine va_WputK C.1 C.2.1 (f := f) C.2.2.2.2.2.1 (va_Nw.use rfl (C.2.2.2.2.2.2.2.1.2.1 _ hl2)) hi hst (by rw [q2]; exact h6) q1 q3 (by rw [hsl]; exact k2_hasslot (q4 k hk)) rfl rfl hd fun H' e1 e2 e3 => ?_
      rw [hsl] at e1 ⊢
      exact fin H' _ e1 e2 e3 (hS.put e2 e3 (hD.2 _ _ h1))
  · have hlay := hts _ (hin _ (u_in_lay hk))
    unfold u_lay at hlay
    rw [if_pos hfin] at hlay
    have hown := C.2.2.2.2.2.1
    have hcf : m.cls = cf := by
      obtain ⟨_, _, c', _, _, _, -, -, hf', -, -, -, hown2, -⟩ := Cond.laysFinal_spec hlay
      have e1 : c' = cf := by have := hi.symm.trans hf'; simp at this; exact this.1.symm
      rw [hdecl] at hown2
      rw [← e1]; exact Option.some.inj (hown.symm.trans hown2)
    have h6 := u_fits hfc hkC hkind (Or.inr hlay) hi (hty k hk) (hn γ).1 (hn γ).2
    refine W.putFinK C.1 C.2.1 hown (hts _ hl2) hi hst hcf (C.2.2.2.2.2.2.1 hini) (by rw [q2]; exact h6) q1 q3 (by rw [hsl]; exact k2_hasslot (q4 k hk)) rfl rfl hd fun H' e1 e2 e3 => ?_
    rw [hsl] at e1 ⊢
    exact fin H' _ e1 e2 e3 (hS.put e2 e3 (hD.2 _ _ h1))
theorem x_putI {p ci k idx : Nat} {x : Int32} (hd : decode cc pc = .ok (.putfield idx, 3)) (hf : xFW own ini idx ci k) (hs : xTy ci k = .int) (hp : isC w p ci) (kk : xX cc nL ret own ini R Z (pc + 3) lv st (sI w p k x) cu su) : xX cc nL ret own ini R Z pc lv (xI x :: xR p :: st) w cu su := x_putC hd hf hp (by rw [hs]; rfl) (fun γ => by rw [hs]; exact ⟨rfl, rfl⟩) kk
theorem x_putZ {p ci k idx : Nat} {x : Int32} (hd : decode cc pc = .ok (.putfield idx, 3)) (hf : xFW own ini idx ci k) (hs : xTy ci k = .boolean) (hp : isC w p ci) (hx : x = 0 ∨ x = 1) (kk : xX cc nL ret own ini R Z (pc + 3) lv st (sI w p k x) cu su) : xX cc nL ret own ini R Z pc lv (xI x :: xR p :: st) w cu su := x_putC hd hf hp (by rw [hs]; rfl) (fun γ => by rw [hs]; rcases hx with rfl | rfl <;> exact ⟨rfl, rfl⟩) kk
theorem x_putL {p ci k idx : Nat} {x : Int64} (hd : decode cc pc = .ok (.putfield idx, 3)) (hf : xFW own ini idx ci k) (hs : xTy ci k = .long) (hp : isC w p ci) (kk : xX cc nL ret own ini R Z (pc + 3) lv st (sL w p k x) cu su) : xX cc nL ret own ini R Z pc lv (xL x :: xR p :: st) w cu su := x_putC hd hf hp (by rw [hs]; rfl) (fun γ => by rw [hs]; exact ⟨rfl, rfl⟩) kk
theorem x_putR {p ci k idx : Nat} {x : Nat} (hd : decode cc pc = .ok (.putfield idx, 3)) (hf : xFW own ini idx ci k) (hs : xsort (xTy ci k) = 2) (hp : isC w p ci) (kk : xX cc nL ret own ini R Z (pc + 3) lv st (sR w p k x) cu su) : xX cc nL ret own ini R Z pc lv (xR x :: xR p :: st) w cu su := x_putC hd hf hp hs (fun γ => by
  show narrow (xTy ci k) (va_rf (xO γ x)) = va_rf (xO γ x) ∧ fits (xTy ci k) (va_rf (xO γ x)) = true
  revert hs
  generalize xTy ci k = ty
  intro hs
  cases ty <;> first | (cases xO γ x <;> exact ⟨rfl, rfl⟩) | cases hs) kk

theorem x_iald {p : Nat} {i : Int32} (hd : decode cc pc = .ok (.iaload, 1)) (hp : isC w p 20) (hi : inR i (wN w p)) (k : xX cc nL ret own ini R Z (pc + 1) lv (xI (wI w p i.toNatClampNeg) :: st) w cu su) : xX cc nL ret own ini R Z pc lv (xI i :: xR p :: st) w cu su := by
  intro pp l e s m args below meth c γ H locs cells slots ls C hH hS hB hc hs hl
  have h1 := xW_arr (γ := γ) hp (by omega)
  rw [List.map_cons, List.map_cons, xrefE hH hp]
  exact va_iald C.1 C.2.1 C.2.2.2.2.2.2.2.1.1 hH.1 (p - 1) 0 h1 rfl (inR_vp hi) hd (k pp l e s m args below meth c γ H locs cells slots ls C hH hS hB hc hs hl)

theorem x_lald {p : Nat} {i : Int32} (hd : decode cc pc = .ok (.laload, 1)) (hp : isC w p 21) (hi : inR i (wN w p)) (k : xX cc nL ret own ini R Z (pc + 1) lv (xL (wL w p i.toNatClampNeg) :: st) w cu su) : xX cc nL ret own ini R Z pc lv (xI i :: xR p :: st) w cu su := by
  intro pp l e s m args below meth c γ H locs cells slots ls C hH hS hB hc hs hl
  have h1 := xW_arr (γ := γ) hp (by omega)
  rw [List.map_cons, List.map_cons, xrefE hH hp]
  exact va_lald C.1 C.2.1 C.2.2.2.2.2.2.2.1.1 hH.1 (p - 1) 1 h1 rfl (inR_vp hi) hd (k pp l e s m args below meth c γ H locs cells slots ls C hH hS hB hc hs hl)

theorem x_bald {p : Nat} {i : Int32} (hd : decode cc pc = .ok (.baload, 1)) (hp : isC w p 22) (hi : inR i (wN w p)) (k : xX cc nL ret own ini R Z (pc + 1) lv (xI (wI w p i.toNatClampNeg) :: st) w cu su) : xX cc nL ret own ini R Z pc lv (xI i :: xR p :: st) w cu su := by
  intro pp l e s m args below meth c γ H locs cells slots ls C hH hS hB hc hs hl
  have h1 := xW_arr (γ := γ) hp (by omega)
  rw [List.map_cons, List.map_cons, xrefE hH hp]
  exact va_bald C.1 C.2.1 C.2.2.2.2.2.2.2.1.1 hH.1 (p - 1) 2 h1 rfl (inR_vp hi) hd (k pp l e s m args below meth c γ H locs cells slots ls C hH hS hB hc hs hl)

theorem x_zald {p : Nat} {i : Int32} (hd : decode cc pc = .ok (.baload, 1)) (hp : isC w p 23) (hi : inR i (wN w p)) (k : xX cc nL ret own ini R Z (pc + 1) lv (xI (wI w p i.toNatClampNeg) :: st) w cu su) : xX cc nL ret own ini R Z pc lv (xI i :: xR p :: st) w cu su := by
  intro pp l e s m args below meth c γ H locs cells slots ls C hH hS hB hc hs hl
  have h1 := xW_arr (γ := γ) hp (by omega)
  rw [List.map_cons, List.map_cons, xrefE hH hp]
  exact va_zald C.1 C.2.1 C.2.2.2.2.2.2.2.1.1 hH.1 (p - 1) 3 h1 rfl (inR_vp hi) hd (k pp l e s m args below meth c γ H locs cells slots ls C hH hS hB hc hs hl)

theorem x_qald24 {p : Nat} {i : Int32} (hd : decode cc pc = .ok (.aaload, 1)) (hp : isC w p 24) (hi : inR i (wN w p)) (k : xX cc nL ret own ini R Z (pc + 1) lv (xR (wR w p i.toNatClampNeg) :: st) w cu su) : xX cc nL ret own ini R Z pc lv (xI i :: xR p :: st) w cu su := by
  intro pp l e s m args below meth c γ H locs cells slots ls C hH hS hB hc hs hl
  have h1 := xW_arr (γ := γ) hp (by omega)
  rw [List.map_cons, List.map_cons, xrefE hH hp]
  exact va_aldq C.1 C.2.1 C.2.2.2.2.2.2.2.1.1 hH.1 (p - 1) 4 h1 rfl (inR_vp hi) hd (k pp l e s m args below meth c γ H locs cells slots ls C hH hS hB hc hs hl)

theorem x_qald25 {p : Nat} {i : Int32} (hd : decode cc pc = .ok (.aaload, 1)) (hp : isC w p 25) (hi : inR i (wN w p)) (k : xX cc nL ret own ini R Z (pc + 1) lv (xR (wR w p i.toNatClampNeg) :: st) w cu su) : xX cc nL ret own ini R Z pc lv (xI i :: xR p :: st) w cu su := by
  intro pp l e s m args below meth c γ H locs cells slots ls C hH hS hB hc hs hl
  have h1 := xW_arr (γ := γ) hp (by omega)
  rw [List.map_cons, List.map_cons, xrefE hH hp]
  exact va_aldq C.1 C.2.1 C.2.2.2.2.2.2.2.1.1 hH.1 (p - 1) 5 h1 rfl (inR_vp hi) hd (k pp l e s m args below meth c γ H locs cells slots ls C hH hS hB hc hs hl)

theorem x_alen {p t ti : Nat} {ty : FieldType} (hd : decode cc pc = .ok (.arraylength, 1)) (hp : isC w p t) (ht : ¬ t < 20) (hti : ∀ γ : xG, (xtys γ)[ti]? = some (gA γ t, ty)) (k : xX cc nL ret own ini R Z (pc + 1) lv (xI (Int32.ofNat (wN w p)) :: st) w cu su) : xX cc nL ret own ini R Z pc lv (xR p :: st) w cu su := by
  intro pp l e s m args below meth c γ H locs cells slots ls C hH hS hB hc hs hl
  have h1 := xW_arr (γ := γ) hp ht
  rw [List.map_cons, xrefE hH hp]
  exact va_alen C.1 C.2.1 C.2.2.2.2.2.2.2.1.1 hH.1 (p - 1) ti h1 (hti γ) rfl hd (k pp l e s m args below meth c γ H locs cells slots ls C hH hS hB hc hs hl)

theorem x_iast {p : Nat} {i : Int32} {x : Int32} (hd : decode cc pc = .ok (.iastore, 1)) (hp : isC w p 20) (hi : inR i (wN w p)) (k : xX cc nL ret own ini R Z (pc + 1) lv st (sI w p i.toNatClampNeg x) cu su) : xX cc nL ret own ini R Z pc lv (xI x :: xI i :: xR p :: st) w cu su := by
  intro pp l e s m args below meth c γ H locs cells slots ls C hH hS hB hc hs hl
  have h1 := xW_arr (γ := γ) hp (by omega)
  rw [List.map_cons, List.map_cons, List.map_cons, xrefE hH hp]
  have hK := C.2.2.2.2.2.2.2.1.1
  have hin := inR_vp hi
  have hD := xW_D γ w
  refine W.iast C.1 C.2.1 (hH.1 (p - 1) _ h1) ((hK.2 0 _ rfl).1 (wN w p) (fun j => .int (wI w p j))) (fun q => by cases q) (by show ¬ (i < 0 ∨ (arrV _ _ _).slots.size ≤ _); rw [arrV_size]; exact hin) rfl rfl hd fun H1 e1 z oq => ?_
  refine k pp l e s m args below meth c γ H1 _ cells slots ls C (xH_set hH hp.1 hp.2.1 rfl (fun q hq => sV_ne w p i.toNatClampNeg (xI x) hq) (xK_arr hp.2.2 (by omega)) (hH.1.set hD h1 ?_ oq) z (sV_scr w i.toNatClampNeg (xI x) (by have := hp.2.1; have := hH.2.2.1; omega))) (hS.put z oq (hD.2 _ _ h1)) hB hc hs hl
  show H1[gB γ + (p - 1)]? = some (vp_cell _ _)
  rw [e1]
  show some ((arrV (gA γ 20) (wN w p) (fun j => .int (wI w p j))).setSlot _ _) = some (arrV (gA γ 20) (wN w p) (fun j => .int (wI (sI w p i.toNatClampNeg x) p j)))
  rw [arrV_store]
  congr 2
  funext q
  by_cases hq : q = i.toNatClampNeg
  · subst hq
    simp [updV, wI_sI]
    try rfl
  · simp [updV, wI_sI, hq]

theorem x_last {p : Nat} {i : Int32} {x : Int64} (hd : decode cc pc = .ok (.lastore, 1)) (hp : isC w p 21) (hi : inR i (wN w p)) (k : xX cc nL ret own ini R Z (pc + 1) lv st (sL w p i.toNatClampNeg x) cu su) : xX cc nL ret own ini R Z pc lv (xL x :: xI i :: xR p :: st) w cu su := by
  intro pp l e s m args below meth c γ H locs cells slots ls C hH hS hB hc hs hl
  have h1 := xW_arr (γ := γ) hp (by omega)
  rw [List.map_cons, List.map_cons, List.map_cons, xrefE hH hp]
  have hK := C.2.2.2.2.2.2.2.1.1
  have hin := inR_vp hi
  have hD := xW_D γ w
  refine W.last C.1 C.2.1 (hH.1 (p - 1) _ h1) ((hK.2 1 _ rfl).1 (wN w p) (fun j => .long (wL w p j))) (fun q => by cases q) (by show ¬ (i < 0 ∨ (arrV _ _ _).slots.size ≤ _); rw [arrV_size]; exact hin) rfl rfl hd fun H1 e1 z oq => ?_
  refine k pp l e s m args below meth c γ H1 _ cells slots ls C (xH_set hH hp.1 hp.2.1 rfl (fun q hq => sV_ne w p i.toNatClampNeg (xL x) hq) (xK_arr hp.2.2 (by omega)) (hH.1.set hD h1 ?_ oq) z (sV_scr w i.toNatClampNeg (xL x) (by have := hp.2.1; have := hH.2.2.1; omega))) (hS.put z oq (hD.2 _ _ h1)) hB hc hs hl
  show H1[gB γ + (p - 1)]? = some (vp_cell _ _)
  rw [e1]
  show some ((arrV (gA γ 21) (wN w p) (fun j => .long (wL w p j))).setSlot _ _) = some (arrV (gA γ 21) (wN w p) (fun j => .long (wL (sL w p i.toNatClampNeg x) p j)))
  rw [arrV_store]
  congr 2
  funext q
  by_cases hq : q = i.toNatClampNeg
  · subst hq
    simp [updV, wL_sL]
    try rfl
  · simp [updV, wL_sL, hq]

theorem x_bast {p : Nat} {i : Int32} {x : Int32} (hd : decode cc pc = .ok (.bastore, 1)) (hp : isC w p 22) (hi : inR i (wN w p)) (k : xX cc nL ret own ini R Z (pc + 1) lv st (sI w p i.toNatClampNeg (vp_nar .byte x)) cu su) : xX cc nL ret own ini R Z pc lv (xI x :: xI i :: xR p :: st) w cu su := by
  intro pp l e s m args below meth c γ H locs cells slots ls C hH hS hB hc hs hl
  have h1 := xW_arr (γ := γ) hp (by omega)
  rw [List.map_cons, List.map_cons, List.map_cons, xrefE hH hp]
  have hK := C.2.2.2.2.2.2.2.1.1
  have hin := inR_vp hi
  have hD := xW_D γ w
  refine W.bast C.1 C.2.1 (hH.1 (p - 1) _ h1) ((hK.2 2 _ rfl).1 (wN w p) (fun j => .int (wI w p j))) (fun q => by cases q) (by show ¬ (i < 0 ∨ (arrV _ _ _).slots.size ≤ _); rw [arrV_size]; exact hin) rfl rfl hd fun H1 e1 z oq => ?_
  refine k pp l e s m args below meth c γ H1 _ cells slots ls C (xH_set hH hp.1 hp.2.1 rfl (fun q hq => sV_ne w p i.toNatClampNeg (xI (vp_nar .byte x)) hq) (xK_arr hp.2.2 (by omega)) (hH.1.set hD h1 ?_ oq) z (sV_scr w i.toNatClampNeg (xI (vp_nar .byte x)) (by have := hp.2.1; have := hH.2.2.1; omega))) (hS.put z oq (hD.2 _ _ h1)) hB hc hs hl
  show H1[gB γ + (p - 1)]? = some (vp_cell _ _)
  rw [e1]
  show some ((arrV (gA γ 22) (wN w p) (fun j => .int (wI w p j))).setSlot _ _) = some (arrV (gA γ 22) (wN w p) (fun j => .int (wI (sI w p i.toNatClampNeg (vp_nar .byte x)) p j)))
  rw [arrV_store]
  congr 2
  funext q
  by_cases hq : q = i.toNatClampNeg
  · subst hq
    simp [updV, wI_sI, vp_nar]
    try rfl
  · simp [updV, wI_sI, hq]

theorem x_zast {p : Nat} {i : Int32} {x : Int32} (hd : decode cc pc = .ok (.bastore, 1)) (hp : isC w p 23) (hi : inR i (wN w p)) (k : xX cc nL ret own ini R Z (pc + 1) lv st (sI w p i.toNatClampNeg (vp_nar .boolean x)) cu su) : xX cc nL ret own ini R Z pc lv (xI x :: xI i :: xR p :: st) w cu su := by
  intro pp l e s m args below meth c γ H locs cells slots ls C hH hS hB hc hs hl
  have h1 := xW_arr (γ := γ) hp (by omega)
  rw [List.map_cons, List.map_cons, List.map_cons, xrefE hH hp]
  have hK := C.2.2.2.2.2.2.2.1.1
  have hin := inR_vp hi
  have hD := xW_D γ w
  refine W.zast C.1 C.2.1 (hH.1 (p - 1) _ h1) ((hK.2 3 _ rfl).1 (wN w p) (fun j => .int (wI w p j))) (fun q => by cases q) (by show ¬ (i < 0 ∨ (arrV _ _ _).slots.size ≤ _); rw [arrV_size]; exact hin) rfl rfl hd fun H1 e1 z oq => ?_
  refine k pp l e s m args below meth c γ H1 _ cells slots ls C (xH_set hH hp.1 hp.2.1 rfl (fun q hq => sV_ne w p i.toNatClampNeg (xI (vp_nar .boolean x)) hq) (xK_arr hp.2.2 (by omega)) (hH.1.set hD h1 ?_ oq) z (sV_scr w i.toNatClampNeg (xI (vp_nar .boolean x)) (by have := hp.2.1; have := hH.2.2.1; omega))) (hS.put z oq (hD.2 _ _ h1)) hB hc hs hl
  show H1[gB γ + (p - 1)]? = some (vp_cell _ _)
  rw [e1]
  show some ((arrV (gA γ 23) (wN w p) (fun j => .int (wI w p j))).setSlot _ _) = some (arrV (gA γ 23) (wN w p) (fun j => .int (wI (sI w p i.toNatClampNeg (vp_nar .boolean x)) p j)))
  rw [arrV_store]
  congr 2
  funext q
  by_cases hq : q = i.toNatClampNeg
  · subst hq
    simp [updV, wI_sI, vp_nar]
    try rfl
  · simp [updV, wI_sI, hq]

end XHEAP
