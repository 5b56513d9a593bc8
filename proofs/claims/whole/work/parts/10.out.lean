/-! ROWS over what lies outside: the String constants (1000 + i), their bytes (1010 + i), the script (1020) -/
section XOUT
variable {cc : ByteArray} {nL : Nat} {ret : Option FieldType} {own : String} {ini : Bool} {R : Room} {Z : xG → List Frame → Array Value → State → State → Prop} {pc : Nat} {lv : List (Nat × xv)} {st : List xv} {w : xSt} {cu su : Nat}
theorem xrefO (γ : xG) {i : Nat} (h : i < 21) : xC γ (xR (1000 + i)) = .ref (gS γ i) := by
  rw [xC_ref (by omega) (by omega)]
  unfold xE
  rw [if_neg (by omega), show 1000 + i - 1000 = i by omega]

theorem x_ldcS (i : Nat) {idx : Nat} (hi : i < 7) (hidx : xpool.getD i 0 = idx) (hown : own = "WorldHall$Tape") (hd : decode cc pc = .ok (.ldc idx, 2)) (k : xX cc nL ret own ini R Z (pc + 2) lv (xR (1000 + i) :: st) w cu su) : xX cc nL ret own ini R Z pc lv st w cu su := by
  intro pp l e s m args below meth c γ H locs cells slots ls C hH hS hB hc hs hl
  subst hown; subst hidx
  have k1 := (k pp l e s m args below meth c γ H locs cells slots ls C hH hS hB hc hs hl)
  rw [List.map_cons, xrefO γ (by omega)] at k1
  exact va_ldcS C.1 C.2.1 C.2.2.2.2.2.1 (C.2.2.2.2.2.2.2.1.2.2.2.2.2.2.2.1 i hi) hd k1
theorem x_sgetV {i idx : Nat} (hi : i < 7) (hw : Cond.fieldLink own idx "java/lang/String" "value" "[B" ∈ xGW) (hd : decode cc pc = .ok (.getfield idx, 3)) (k : xX cc nL ret own ini R Z (pc + 3) lv (xR (1010 + i) :: st) w cu su) : xX cc nL ret own ini R Z pc lv (xR (1000 + i) :: st) w cu su := by
  intro pp l e s m args below meth c γ H locs cells slots ls C hH hS hB hc hs hl
  have k1 := (k pp l e s m args below meth c γ H locs cells slots ls C hH hS hB hc hs hl)
  rw [List.map_cons, show 1010 + i = 1000 + (10 + i) by omega, xrefO γ (by omega)] at k1
  rw [List.map_cons, xrefO γ (by omega)]
  exact vk_getf C.1 C.2.1 (C.2.2.2.2.2.2.2.1.2.2.2.2.1.1 i hi).2.2.1 hS C.2.2.2.2.2.1 (C.2.2.2.2.2.2.2.2 _ hw) (fun _ h => h) hd k1
theorem x_sgetC {i idx : Nat} (hi : i < 7) (hw : Cond.fieldLink own idx "java/lang/String" "coder" "B" ∈ xGW) (hd : decode cc pc = .ok (.getfield idx, 3)) (k : xX cc nL ret own ini R Z (pc + 3) lv (xI 0 :: st) w cu su) : xX cc nL ret own ini R Z pc lv (xR (1000 + i) :: st) w cu su := by
  intro pp l e s m args below meth c γ H locs cells slots ls C hH hS hB hc hs hl
  rw [List.map_cons, xrefO γ (by omega)]
  exact vk_getf C.1 C.2.1 (C.2.2.2.2.2.2.2.1.2.2.2.2.1.1 i hi).2.1 hS C.2.2.2.2.2.1 (C.2.2.2.2.2.2.2.2 _ hw) (fun _ h => h) hd (k pp l e s m args below meth c γ H locs cells slots ls C hH hS hB hc hs hl)
theorem x_getsC {idx : Nat} (hw : Cond.fieldLink own idx "java/lang/String" "COMPACT_STRINGS" "Z" ∈ xGW) (hd : decode cc pc = .ok (.getstatic idx, 3)) (k : xX cc nL ret own ini R Z (pc + 3) lv (xI 1 :: st) w cu su) : xX cc nL ret own ini R Z pc lv st w cu su := by
  intro pp l e s m args below meth c γ H locs cells slots ls C hH hS hB hc hs hl
  exact va_gets C.1 C.2.1 C.2.2.2.2.2.2.2.1.2.2.2.2.2.1 hS C.2.2.2.2.2.1 (C.2.2.2.2.2.2.2.2 _ hw) (fun _ h => h) hd (k pp l e s m args below meth c γ H locs cells slots ls C hH hS hB hc hs hl)
theorem x_sbald {i : Nat} {j : Int32} (hi : i < 7) (hj : inR j (xlen.getD i 0)) (hd : decode cc pc = .ok (.baload, 1)) (k : xX cc nL ret own ini R Z (pc + 1) lv (xI ((xbyt.getD i []).getD j.toNatClampNeg 0) :: st) w cu su) : xX cc nL ret own ini R Z pc lv (xI j :: xR (1010 + i) :: st) w cu su := by
  intro pp l e s m args below meth c γ H locs cells slots ls C hH hS hB hc hs hl
  rw [List.map_cons, List.map_cons, show 1010 + i = 1000 + (10 + i) by omega, xrefO γ (by omega)]
  exact va_tb C.1 C.2.1 (C.2.2.2.2.2.2.2.1.2.2.2.2.1.1 i hi).2.2.2 hS (inR_vp hj) rfl hd (k pp l e s m args below meth c γ H locs cells slots ls C hH hS hB hc hs hl)
theorem x_salen {i : Nat} (hi : i < 7) (hd : decode cc pc = .ok (.arraylength, 1)) (k : xX cc nL ret own ini R Z (pc + 1) lv (xI (Int32.ofNat (xlen.getD i 0)) :: st) w cu su) : xX cc nL ret own ini R Z pc lv (xR (1010 + i) :: st) w cu su := by
  intro pp l e s m args below meth c γ H locs cells slots ls C hH hS hB hc hs hl
  rw [List.map_cons, show 1010 + i = 1000 + (10 + i) by omega, xrefO γ (by omega)]
  exact va_tlen C.1 C.2.1 (C.2.2.2.2.2.2.2.1.2.2.2.2.1.1 i hi).2.2.2 hS rfl hd (k pp l e s m args below meth c γ H locs cells slots ls C hH hS hB hc hs hl)

theorem x_callVS {y : MethodName} {bytes : ByteArray} {maxL : Nat} {rt : Option FieldType} {d1 mc1 ms1 idx n : Nat} {As st0 : List xv} {r : Option xv} {w1 : xSt} {i : Nat} (hi : i < 7) (hd : decode cc pc = .ok (.invokevirtual idx, 3)) (hm : xMV own idx y) (hb : xMB y bytes maxL rt n) (hcall : xCall y bytes maxL rt d1 mc1 ms1 (xR (1000 + i) :: As) w (r, w1)) (hci : y.cls = "java/lang/String") (hn : As.length = n) (hst : st0 = As.reverse ++ xR (1000 + i) :: st) (hw : (st.map xcat).sum ≤ 8) (hr1 : d1 + 1 ≤ R.frames) (hr2 : 19 + maxL + 40 * d1 ≤ R.locals) (hcu : mc1 ≤ cu) (hsu : ms1 ≤ su) (k : xX cc nL ret own ini R Z (pc + 3) lv (r.toList ++ st) w1 (cu - mc1) (su - ms1)) : xX cc nL ret own ini R Z pc lv st0 w cu su := by
  intro pp l e s m args below meth c γ H locs cells slots ls C hH hS hB hc hs hl
  subst hst
  have hts := C.2.2.2.2.2.2.2.2
  have hstt := C.2.2.2.2.2.2.2.1
  have hrec := vk_recv hstt.2.2.2.2.1 hi hS
  rw [← hci] at hrec
  have hav : (Value.ref (gS γ i) :: As.map (xC γ)).toArray = ((xR (1000 + i) :: As).map (xC γ)).toArray := by rw [List.map_cons, xrefO γ (by omega)]
  have run := va_runV (l := l) (e := e) (below := below) (meth := meth) (locs := locs) (cells := cells) (slots := slots) (b := gS γ i) (As := As.map (xC γ)) (rest := st.map (xC γ)) (g := F0 m pc ls ((As.reverse ++ xR (1000 + i) :: st).map (xC γ))) (Ts := xGW) (own := own) (cc := cc) (nL := nL) (p := pp) (m := m) (c := c) (s := s) (args := args) (H := H) ⟨C.1, C.2.1, C.2.2.1, C.2.2.2.2.2.1, hts⟩ (hcall l γ) (C := y.cls) (n := n) (R := R) (index := idx) ⟨⟨rfl, rfl, hr1, by show 8 + (maxL + 11) + 40 * d1 ≤ R.locals; omega, xMB_ws hb hts, List.mem_singleton.mpr rfl, hts _ hb.1, hts _ hb.2.1, hb.2.2.1, xMB_len hb, hts _ hm.1⟩, hts _ hm.2.1, hts _ hm.2.2⟩ ⟨xPc_blind γ _ _, hrec, fun U hU hW => by rw [hav]; exact xPc_of hH hstt hS hB hU hW⟩ rfl (by rw [List.length_map]; exact hn) hl.1 (by rw [List.map_append, List.map_cons, List.map_reverse, xrefO γ (by omega)]) (lv_room (by rw [xcat_sum]; exact hw)) hd ⟨by omega, by omega⟩
  refine x_after run hS hB (fun H1 locs1 hH1 hS1 => ?_)
  rw [xtoList]
  exact k pp l e s m args below meth c γ H1 locs1 (cells + mc1) (slots + ms1) ls C hH1 hS1 hB (by omega) (by omega) hl

theorem x_getsF {idx : Nat} (hw : Cond.fieldLink own idx "jdk/internal/util/Preconditions" "SIOOBE_FORMATTER" "Ljava/util/function/BiFunction;" ∈ xGW) (hd : decode cc pc = .ok (.getstatic idx, 3)) (k : xX cc nL ret own ini R Z (pc + 3) lv (xR 1021 :: st) w cu su) : xX cc nL ret own ini R Z pc lv st w cu su := by
  intro pp l e s m args below meth c γ H locs cells slots ls C hH hS hB hc hs hl
  exact va_gets C.1 C.2.1 C.2.2.2.2.2.2.2.1.2.2.2.2.2.2.1 hS C.2.2.2.2.2.1 (C.2.2.2.2.2.2.2.2 _ hw) (fun _ h => h) hd (k pp l e s m args below meth c γ H locs cells slots ls C hH hS hB hc hs hl)

theorem x_xald {i : Int32} (hi : inR i (wN w 1020)) (hd : decode cc pc = .ok (.iaload, 1)) (k : xX cc nL ret own ini R Z (pc + 1) lv (xI (wI w 1020 i.toNatClampNeg) :: st) w cu su) : xX cc nL ret own ini R Z pc lv (xI i :: xR 1020 :: st) w cu su := by
  intro pp l e s m args below meth c γ H locs cells slots ls C hH hS hB hc hs hl
  have k1 := (k pp l e s m args below meth c γ H locs cells slots ls C hH hS hB hc hs hl)
  have h8 := C.2.2.2.2.2.2.2.1.2.2.2.2.2.2.2.2
  rw [List.map_cons, show xC γ (xI (wI w 1020 i.toNatClampNeg)) = .int (gX γ i.toNatClampNeg) from congrArg Value.int (hH.2.2.2.2 _)] at k1
  rw [List.map_cons, List.map_cons, show xC γ (xR 1020) = .ref (gS γ 20) from xrefO γ (i := 20) (by omega)]
  rw [hH.2.2.2.1] at hi
  exact va_sld C.1 C.2.1 h8.1 (by omega) (by show ¬ gB γ ≤ gS γ 20; omega) hS (inR_vp hi) hd k1
theorem x_xlen (hd : decode cc pc = .ok (.arraylength, 1)) (k : xX cc nL ret own ini R Z (pc + 1) lv (xI (Int32.ofNat (wN w 1020)) :: st) w cu su) : xX cc nL ret own ini R Z pc lv (xR 1020 :: st) w cu su := by
  intro pp l e s m args below meth c γ H locs cells slots ls C hH hS hB hc hs hl
  have k1 := (k pp l e s m args below meth c γ H locs cells slots ls C hH hS hB hc hs hl)
  have h8 := C.2.2.2.2.2.2.2.1.2.2.2.2.2.2.2.2
  rw [List.map_cons, show xC γ (xI (Int32.ofNat (wN w 1020))) = .int (Int32.ofNat (gL γ)) by rw [hH.2.2.2.1]; rfl] at k1
  rw [List.map_cons, show xC γ (xR 1020) = .ref (gS γ 20) from xrefO γ (i := 20) (by omega)]
  exact va_slen C.1 C.2.1 h8.1 (by omega) (by show ¬ gB γ ≤ gS γ 20; omega) hS hd k1

end XOUT

