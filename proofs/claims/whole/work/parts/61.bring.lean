section BRING
variable {C R n z L : Nat} {i : fI} {l : fL}
/-! which stands can be reached when the goods of those in M are in -/
def rsB (C n z : Nat) (i : fI) (M s : Nat) : Bool := exB (fun c => rch C z (dB z i) (PrB C n i M) z c && onB C i s c) z
def sRd (p _k : Nat) : Prop := p = 58 ∨ p = 63 ∨ p = 64 ∨ p = 66
theorem onB_fr {i2 : fI} (f : Fr sRd i i2) (s c : Nat) : onB C i2 s c = onB C i s c := by
  unfold onB laB wdN dpN atN
  rw [f 63 s (by unfold sRd; omega), f 64 s (by unfold sRd; omega), f 66 s (by unfold sRd; omega)]
theorem sOn_fr2 {i2 : fI} (f : Fr sRd i i2) (c : Nat) : sOn C n i2 c = sOn C n i c := by
  unfold sOn
  exact fsel_cong _ _ (fun a _ _ => ⟨onB_fr f a c, rfl⟩) rfl
theorem PrB_fr2 {i2 : fI} (f : Fr sRd i i2) (M : Nat) : PrB C n i2 M = PrB C n i M := by
  funext c
  unfold PrB
  rw [sOn_fr2 f, f 58 c (by unfold sRd; omega)]
theorem dB_fr2 {i2 : fI} (f : Fr sRd i i2) : dB z i2 = dB z i := by
  funext c
  unfold dB
  rw [f 58 c (by unfold sRd; omega)]
theorem rsB_fr {i2 : fI} (f : Fr sRd i i2) (M : Nat) : rsB C n z i2 M = rsB C n z i M := by
  funext s
  unfold rsB
  rw [PrB_fr2 f, dB_fr2 f]
  exact exB_cong (fun c _ => by rw [onB_fr f])
theorem sZ_Rd {i i2 : fI} (f : Fr sZ i i2) : Fr sRd i i2 := Fr_sub f (fun p k q => by unfold sRd at q; unfold sZ; omega)
theorem onB_uniq (h : RS C R n z i l) {s t c : Nat} (hs : s < n) (ht : t < n) (hc : c < z) (h1 : onB C i s c = true) (h2 : onB C i t c = true) : t = s := by
  obtain ⟨hD, hK, hN, hV, hA, hP⟩ := id h
  refine Classical.byContradiction (fun e => ?_)
  have q1 : bt6 (l (88 + s) 7) c = true := by rw [cells_E hD hV hA hs, h1]; simp [hc]
  have q2 := (hP s hs c q1).2 t ht e
  rw [cells_E hD hV hA ht, h2] at q2
  simp [hc] at q2
def cmA (C n : Nat) (i : fI) (g : Nat → Bool) : Nat → Nat
  | 0 => 0
  | j + 1 => if g j = true ∧ ¬ sOn C n i j = -1 then cmA C n i g j ||| 2 ^ (sOn C n i j).toNatClampNeg else cmA C n i g j
theorem cmA_b (g : Nat → Bool) (s : Nat) : ∀ j, (cmA C n i g j).testBit s = exB (fun c => g c && (!decide (sOn C n i c = -1) && decide (s = (sOn C n i c).toNatClampNeg))) j
  | 0 => by simp [cmA, exB]
  | j + 1 => by
    unfold cmA exB
    by_cases e : g j = true ∧ ¬ sOn C n i j = -1
    · rw [if_pos e, fb_bit_set, cmA_b g s j]
      simp [e]
    · rw [if_neg e, cmA_b g s j]
      by_cases e2 : g j = true
      · have : sOn C n i j = -1 := Classical.byContradiction (fun r => e ⟨e2, r⟩)
        simp [this]
      · simp [e2]
theorem cmA_lt (h9 : n ≤ 9) (g : Nat → Bool) : ∀ j, cmA C n i g j < 512
  | 0 => by simp [cmA]
  | j + 1 => by
    unfold cmA
    by_cases e : g j = true ∧ ¬ sOn C n i j = -1
    · rw [if_pos e]
      rcases sOn_or (C := C) (n := n) (i := i) j with ⟨a, -⟩ | ⟨s, a, -, b⟩
      · exact absurd a e.2
      · rw [b, nI_clamp (by omega)]
        exact Nat.or_lt_two_pow (n := 9) (cmA_lt h9 g j) (Nat.pow_lt_pow_right (by decide) (by omega))
    · rw [if_neg e]; exact cmA_lt h9 g j
theorem comeTo_E (h : RS C R n z i l) {M : Nat} (hM : M < 512) : ∃ i2, f_X11_comeTo 57 (nI M) (mkS n z L i l) = some (nI (setN (rsB C n z i M) n), mkS n z L i2 l) ∧ Fr sW i i2 := by
  have hz := zlt h.1
  have h9 := h.2.2.1.1
  obtain ⟨i2, g, d, a1, a2, a3, a4⟩ := floods_E (L := L) h hM
  have r2 := RS_fr h a2
  obtain ⟨hD, hK, hN, hV, hA, hP⟩ := id r2
  have gr : ∀ c, c < z → rch C z (dB z i) (PrB C n i M) z c = g.1 c := by
    intro c hc
    rw [bfs_fin a4 z c hc]
    cases e : g.1 c with
    | false => rfl
    | true =>
      have := a4.st_le e
      have := a4.le
      rw [decide_eq_true (show g.2.1 c ≤ z by omega)]
      rfl
  have key : cmA C n i g.1 z = setN (rsB C n z i M) n := by
    apply bit_ext
    intro s
    rw [cmA_b, setN_b]
    apply Bool_iff
    unfold rsB
    rw [Bool.and_eq_true, decide_eq_true_eq, exB_iff, exB_iff]
    constructor
    · rintro ⟨c, c1, c2⟩
      simp only [Bool.and_eq_true, Bool.not_eq_true', decide_eq_false_iff_not, decide_eq_true_eq] at c2
      obtain ⟨c3, c4, c5⟩ := c2
      rcases sOn_or (C := C) (n := n) (i := i) c with ⟨a, -⟩ | ⟨t, t1, t2, t3⟩
      · exact absurd a c4
      · rw [t3, nI_clamp (by omega)] at c5
        subst c5
        exact ⟨t1, c, c1, by rw [gr c c1, c3, t2]; rfl⟩
    · rintro ⟨s1, c, c1, c2⟩
      rw [Bool.and_eq_true, gr c c1] at c2
      refine ⟨c, c1, ?_⟩
      rcases sOn_or (C := C) (n := n) (i := i) c with ⟨-, b⟩ | ⟨t, t1, t2, t3⟩
      · rw [b s s1] at c2
        exact absurd c2.2 (by decide)
      · have := onB_uniq h t1 s1 c1 t2 c2.2
        subst this
        rw [t3, nI_clamp (by omega), decide_eq_false (nI_m1 (by omega)), c2.1]
        simp
  refine ⟨i2, ?_, a2⟩
  simp only [f_X11_comeTo, mI, mL, mZ, msI, msL, mN1020, gC1, mR1_0, mR1_1, mR1_2, mR1_3, mR1_4, mR1_5, mR1_6, mR1_7, mR1_8, gC2, mR2_6, mR2_7, gC3, mN3, gC4, mN4, gC5, mR5_0, mR5_1, gC6, mN6, gC7, mR7_0, mR7_1, gC8, mR8_0, gC9, mN9, gC10, mR10_0, gC11, mN11, mR11_0, mR11_1, mR11_2, mR11_3, mR11_4, mR11_5, gC12, mR12_0, mR12_1, gC13, mN13, gC14, mN14, gC15, mR15_0, mR15_1, gC16, mN16, gC17, mN17, gC18, mR18_0, mR18_1, gC19, mN19, gC20, mN20, gC21, mR21_0, mR21_1, gC22, mN22, gC23, mN23, gC24, mR24_0, mR24_1, gC25, mN25, gC26, mN26, gC27, mR27_0, mR27_1, gC28, mN28, gC29, mN29, gC30, mR30_0, gC31, mN31, mR31_0, mR31_1, mR31_2, mR31_3, mR31_4, mR31_5, gC32, mR32_0, mR32_1, gC33, mN33, gC34, mN34, gC35, mR35_0, mR35_1, gC36, mN36, gC37, mN37, gC38, mR38_0, mR38_1, gC39, mN39, gC40, mN40, gC41, mR41_0, mR41_1, gC42, mN42, gC43, mN43, gC44, mR44_0, mR44_1, gC45, mN45, gC46, mN46, gC47, mR47_0, mR47_1, gC48, mN48, gC49, mN49, gC50, mR50_0, mR50_1, mR50_2, mR50_3, gC51, mN51, gC52, mN52, gC53, mN53, gC54, mN54, gC55, gC56, gC57, mR57_2, mR57_3, mR57_6, mR57_7, mR57_8, mR57_9, mR57_10, mR57_11, mR57_12, mR57_13, mR57_14, mR57_15, mR57_16, mR57_18, mR57_19, mR57_20, mR57_21, mR57_22, mR57_23, mR57_25, mR57_26, mR57_27, mR57_28, mR57_37, mR57_40, mR57_41, mR57_43, mR57_44, mR57_48, mR57_49, gC58, mN58, gC59, mN59, gC60, mN60, gC61, mN61, gC62, mN62, gC63, mN63, gC64, mN64, gC65, mN65, gC66, mN66, gC67, mN67, gC68, mN68, gC69, mN69, gC70, mN70, gC71, mN71, gC72, mN72, gC73, mN73, gC74, mN74, gC75, mN75, gC76, mN76, gC77, mN77, gC78, mN78, gC79, mN79, gC80, mN80, gC81, mN81, gC82, mN82, gC83, mN83, gC84, mN84, gC85, mN85, gC86, mN86, gC87, mN87, a1, bdS]
  rw [← key]
  refine acc_loop (fun m a s w => f_X11_comeTo_l9 m 57 a s w) (fun s => nI (cmA C n i g.1 s)) (fun _ => mkS n z L i2 l) z _ ?_ ?_ z 0 xFu (by omega) (by unfold xFu; omega)
  · intro m
    show f_X11_comeTo_l9 (m + 1) 57 _ (nI z) _ = _
    rw [f_X11_comeTo_l9_s]
    simp only [mI, mL, mZ, msI, msL, mN1020, gC1, mR1_0, mR1_1, mR1_2, mR1_3, mR1_4, mR1_5, mR1_6, mR1_7, mR1_8, gC2, mR2_6, mR2_7, gC3, mN3, gC4, mN4, gC5, mR5_0, mR5_1, gC6, mN6, gC7, mR7_0, mR7_1, gC8, mR8_0, gC9, mN9, gC10, mR10_0, gC11, mN11, mR11_0, mR11_1, mR11_2, mR11_3, mR11_4, mR11_5, gC12, mR12_0, mR12_1, gC13, mN13, gC14, mN14, gC15, mR15_0, mR15_1, gC16, mN16, gC17, mN17, gC18, mR18_0, mR18_1, gC19, mN19, gC20, mN20, gC21, mR21_0, mR21_1, gC22, mN22, gC23, mN23, gC24, mR24_0, mR24_1, gC25, mN25, gC26, mN26, gC27, mR27_0, mR27_1, gC28, mN28, gC29, mN29, gC30, mR30_0, gC31, mN31, mR31_0, mR31_1, mR31_2, mR31_3, mR31_4, mR31_5, gC32, mR32_0, mR32_1, gC33, mN33, gC34, mN34, gC35, mR35_0, mR35_1, gC36, mN36, gC37, mN37, gC38, mR38_0, mR38_1, gC39, mN39, gC40, mN40, gC41, mR41_0, mR41_1, gC42, mN42, gC43, mN43, gC44, mR44_0, mR44_1, gC45, mN45, gC46, mN46, gC47, mR47_0, mR47_1, gC48, mN48, gC49, mN49, gC50, mR50_0, mR50_1, mR50_2, mR50_3, gC51, mN51, gC52, mN52, gC53, mN53, gC54, mN54, gC55, gC56, gC57, mR57_2, mR57_3, mR57_6, mR57_7, mR57_8, mR57_9, mR57_10, mR57_11, mR57_12, mR57_13, mR57_14, mR57_15, mR57_16, mR57_18, mR57_19, mR57_20, mR57_21, mR57_22, mR57_23, mR57_25, mR57_26, mR57_27, mR57_28, mR57_37, mR57_40, mR57_41, mR57_43, mR57_44, mR57_48, mR57_49, gC58, mN58, gC59, mN59, gC60, mN60, gC61, mN61, gC62, mN62, gC63, mN63, gC64, mN64, gC65, mN65, gC66, mN66, gC67, mN67, gC68, mN68, gC69, mN69, gC70, mN70, gC71, mN71, gC72, mN72, gC73, mN73, gC74, mN74, gC75, mN75, gC76, mN76, gC77, mN77, gC78, mN78, gC79, mN79, gC80, mN80, gC81, mN81, gC82, mN82, gC83, mN83, gC84, mN84, gC85, mN85, gC86, mN86, gC87, mN87, hD.2.2.2.2.1, hD.2.2.2.2.2, pk_mul]
    rw [← hD.1.2.2.2.2, if_pos (Int32.le_refl _)]
  · intro m s hs
    show f_X11_comeTo_l9 (m + 1) 57 (nI (cmA C n i g.1 s)) (nI s) _ = f_X11_comeTo_l9 m 57 (nI (cmA C n i g.1 (s + 1))) (nI (s + 1)) _
    rw [f_X11_comeTo_l9_s]
    simp only [mI, mL, mZ, msI, msL, mN1020, gC1, mR1_0, mR1_1, mR1_2, mR1_3, mR1_4, mR1_5, mR1_6, mR1_7, mR1_8, gC2, mR2_6, mR2_7, gC3, mN3, gC4, mN4, gC5, mR5_0, mR5_1, gC6, mN6, gC7, mR7_0, mR7_1, gC8, mR8_0, gC9, mN9, gC10, mR10_0, gC11, mN11, mR11_0, mR11_1, mR11_2, mR11_3, mR11_4, mR11_5, gC12, mR12_0, mR12_1, gC13, mN13, gC14, mN14, gC15, mR15_0, mR15_1, gC16, mN16, gC17, mN17, gC18, mR18_0, mR18_1, gC19, mN19, gC20, mN20, gC21, mR21_0, mR21_1, gC22, mN22, gC23, mN23, gC24, mR24_0, mR24_1, gC25, mN25, gC26, mN26, gC27, mR27_0, mR27_1, gC28, mN28, gC29, mN29, gC30, mR30_0, gC31, mN31, mR31_0, mR31_1, mR31_2, mR31_3, mR31_4, mR31_5, gC32, mR32_0, mR32_1, gC33, mN33, gC34, mN34, gC35, mR35_0, mR35_1, gC36, mN36, gC37, mN37, gC38, mR38_0, mR38_1, gC39, mN39, gC40, mN40, gC41, mR41_0, mR41_1, gC42, mN42, gC43, mN43, gC44, mR44_0, mR44_1, gC45, mN45, gC46, mN46, gC47, mR47_0, mR47_1, gC48, mN48, gC49, mN49, gC50, mR50_0, mR50_1, mR50_2, mR50_3, gC51, mN51, gC52, mN52, gC53, mN53, gC54, mN54, gC55, gC56, gC57, mR57_2, mR57_3, mR57_6, mR57_7, mR57_8, mR57_9, mR57_10, mR57_11, mR57_12, mR57_13, mR57_14, mR57_15, mR57_16, mR57_18, mR57_19, mR57_20, mR57_21, mR57_22, mR57_23, mR57_25, mR57_26, mR57_27, mR57_28, mR57_37, mR57_40, mR57_41, mR57_43, mR57_44, mR57_48, mR57_49, gC58, mN58, gC59, mN59, gC60, mN60, gC61, mN61, gC62, mN62, gC63, mN63, gC64, mN64, gC65, mN65, gC66, mN66, gC67, mN67, gC68, mN68, gC69, mN69, gC70, mN70, gC71, mN71, gC72, mN72, gC73, mN73, gC74, mN74, gC75, mN75, gC76, mN76, gC77, mN77, gC78, mN78, gC79, mN79, gC80, mN80, gC81, mN81, gC82, mN82, gC83, mN83, gC84, mN84, gC85, mN85, gC86, mN86, gC87, mN87, hD.2.2.2.2.1, hD.2.2.2.2.2, pk_mul, standOnM_E hD hN hV hs, bdS, nI_clamp (show s < 2 ^ 31 by omega), gI (show s < 64 by omega) (show 64 < 2 ^ 31 by omega), a3.1 s (show s < 64 by omega), sOn_fr (sW_Z a2), or0, nI_1, bI_e0]
    rw [← hD.1.2.2.2.2, if_neg (nI_ge hs (by omega))]
    show _ = f_X11_comeTo_l9 m 57 (nI (if g.1 s = true ∧ ¬ sOn C n i s = -1 then cmA C n i g.1 s ||| 2 ^ (sOn C n i s).toNatClampNeg else cmA C n i g.1 s)) (nI (s + 1)) _
    by_cases e : g.1 s = true
    · rw [if_neg (by rw [e]; decide)]
      rcases sOn_or (C := C) (n := n) (i := i) s with ⟨a, -⟩ | ⟨t, t1, -, t3⟩
      · rw [if_pos a, if_neg (fun r => r.2 a)]
      · rw [t3, if_neg (nI_m1 (by omega)), if_pos ⟨e, nI_m1 (by omega)⟩, nI_clamp (by omega), sh1_E (by omega), fa_or]
    · rw [if_pos (by simpa using e), if_neg (fun r => e r.1)]
/-! the class's way -/
def frV (l : fL) (M : Nat) : Nat → Int64
  | 0 => l 3 0 ||| l 3 1
  | s + 1 => if M.testBit s = true then frV l M s &&& (l (88 + s) 7 ^^^ (-1 : Int64)) else frV l M s &&& (-1 : Int64)
theorem frV_b (l : fL) (M : Nat) {c : Nat} (hc : c < 64) : ∀ s, bt6 (frV l M s) c = (bt6 (l 3 0 ||| l 3 1) c && !exB (fun t => M.testBit t && bt6 (l (88 + t) 7) c) s)
  | 0 => by simp [frV, exB]
  | s + 1 => by
    unfold frV exB
    by_cases e : M.testBit s = true
    · rw [if_pos e, b6_and, b6_not _ hc, frV_b l M hc s, e]
      simp [Bool.and_assoc]
    · rw [if_neg e, b6_and, b6_m1 hc, frV_b l M hc s]
      simp [e]
theorem free_P (h : Rel C R n z i l) (M : Nat) {c : Nat} (hc : c < z) : bt6 (frV l M n) c = PrB C n i M c := by
  obtain ⟨hD, hE, hK, hB, hG, hN, hF, hV, hA, hX, hT, hU, hJ, hM, hL, hO, hY, hP⟩ := id h
  have hz := zlt hD
  have h9 := hN.1
  obtain ⟨t, t1, t2⟩ := hK.1 c hc
  rw [frV_b l M (by omega), b6_or, hK.2 0 (by omega), hK.2 1 (by omega)]
  have e1 : (decide (c < z ∧ i 58 c = nI 0) || decide (c < z ∧ i 58 c = nI 1)) = (!decide (i 58 c = 2) && !decide (i 58 c = 3)) := by
    rw [t2]
    have : t = 0 ∨ t = 1 ∨ t = 2 ∨ t = 3 := by omega
    rcases this with rfl | rfl | rfl | rfl
    · simp [hc]; decide
    · simp [hc]; decide
    · simp [hc]; decide
    · simp [hc]; decide
  have e2 : exB (fun t => M.testBit t && bt6 (l (88 + t) 7) c) n = exB (fun t => M.testBit t && onB C i t c) n := exB_cong (fun t ht => by
    rw [cells_E hD hV hA ht]
    simp [hc])
  rw [e1, e2]
  unfold PrB
  congr 1
  rcases sOn_or (C := C) (n := n) (i := i) c with ⟨a, b⟩ | ⟨s, a, b, d⟩
  · rw [exB_f.mpr (fun k hk => by rw [b k hk, Bool.and_false]), decide_eq_true a]; rfl
  · rw [d, decide_eq_false (nI_m1 (by omega)), nI_clamp (by omega), Bool.false_or]
    congr 1
    apply Bool_iff
    rw [exB_iff]
    constructor
    · rintro ⟨k, k1, k2⟩
      rw [Bool.and_eq_true] at k2
      have := onB_uniq h.rs a k1 hc b k2.2
      subst this
      exact k2.1
    · intro hm
      exact ⟨s, a, by rw [hm, b]; rfl⟩
theorem frV_lt (h : Rel C R n z i l) (M : Nat) {c : Nat} (hb : bt6 (frV l M n) c = true) : c < z := by
  obtain ⟨hD, hE, hK, hB, hG, hN, hF, hV, hA, hX, hT, hU, hJ, hM, hL, hO, hY, hP⟩ := id h
  have hc : c < 64 := by
    rcases Nat.lt_or_ge c 64 with q | q
    · exact q
    · rw [b6_ge _ q] at hb; exact absurd hb (by decide)
  rw [frV_b l M hc, Bool.and_eq_true, b6_or, Bool.or_eq_true, hK.2 0 (by omega), hK.2 1 (by omega)] at hb
  simp only [decide_eq_true_eq] at hb
  rcases hb.1 with q | q
  · exact q.1
  · exact q.1
theorem door_b (h : Rel C R n z i l) (c : Nat) : bt6 (l 3 1) c = dB z i c := by
  obtain ⟨hD, hE, hK, hB, hG, hN, hF, hV, hA, hX, hT, hU, hJ, hM, hL, hO, hY, hP⟩ := id h
  rw [hK.2 1 (by omega)]
  rfl
theorem reached_E (h : Rel C R n z i l) {M s : Nat} (h512 : M < 512) (hs : s < n) : f_X2_isReached 7 (88 + s) (nI M) (mkS n z L i l) = some (bI (rsB C n z i M s), mkS n z L i l) := by
  obtain ⟨hD, hE, hK, hB, hG, hN, hF, hV, hA, hX, hT, hU, hJ, hM, hL, hO, hY, hP⟩ := id h
  have hz := zlt hD
  have h9 := hN.1
  obtain ⟨v, v1, v2, v3⟩ := spread_E (n := n) (L := L) (i := i) (l := l) hD hE (x := l 3 1) (t := frV l M n) (fun c hb => by
    rw [door_b h] at hb
    exact (of_decide_eq_true hb).1) (fun c hb => frV_lt h M hb) (k := z) (by omega)
  have g1 : ∀ {α : Type} (e : Option α), gd (inR (0 : Int32) 4) e = e := fun e => gd_t (by decide)
  have g2 : ∀ {α : Type} (e : Option α), gd (inR (1 : Int32) 4) e = e := fun e => gd_t (by decide)
  have k0 : (0 : Int32).toNatClampNeg = 0 := by decide
  have k1 : (1 : Int32).toNatClampNeg = 1 := by decide
  simp only [f_X2_isReached, f_X0_open, mI, mL, mZ, msI, msL, mN1020, gC1, mR1_0, mR1_1, mR1_2, mR1_3, mR1_4, mR1_5, mR1_6, mR1_7, mR1_8, gC2, mR2_6, mR2_7, gC3, mN3, gC4, mN4, gC5, mR5_0, mR5_1, gC6, mN6, gC7, mR7_0, mR7_1, gC8, mR8_0, gC9, mN9, gC10, mR10_0, gC11, mN11, mR11_0, mR11_1, mR11_2, mR11_3, mR11_4, mR11_5, gC12, mR12_0, mR12_1, gC13, mN13, gC14, mN14, gC15, mR15_0, mR15_1, gC16, mN16, gC17, mN17, gC18, mR18_0, mR18_1, gC19, mN19, gC20, mN20, gC21, mR21_0, mR21_1, gC22, mN22, gC23, mN23, gC24, mR24_0, mR24_1, gC25, mN25, gC26, mN26, gC27, mR27_0, mR27_1, gC28, mN28, gC29, mN29, gC30, mR30_0, gC31, mN31, mR31_0, mR31_1, mR31_2, mR31_3, mR31_4, mR31_5, gC32, mR32_0, mR32_1, gC33, mN33, gC34, mN34, gC35, mR35_0, mR35_1, gC36, mN36, gC37, mN37, gC38, mR38_0, mR38_1, gC39, mN39, gC40, mN40, gC41, mR41_0, mR41_1, gC42, mN42, gC43, mN43, gC44, mR44_0, mR44_1, gC45, mN45, gC46, mN46, gC47, mR47_0, mR47_1, gC48, mN48, gC49, mN49, gC50, mR50_0, mR50_1, mR50_2, mR50_3, gC51, mN51, gC52, mN52, gC53, mN53, gC54, mN54, gC55, gC56, gC57, mR57_2, mR57_3, mR57_6, mR57_7, mR57_8, mR57_9, mR57_10, mR57_11, mR57_12, mR57_13, mR57_14, mR57_15, mR57_16, mR57_18, mR57_19, mR57_20, mR57_21, mR57_22, mR57_23, mR57_25, mR57_26, mR57_27, mR57_28, mR57_37, mR57_40, mR57_41, mR57_43, mR57_44, mR57_48, mR57_49, gC58, mN58, gC59, mN59, gC60, mN60, gC61, mN61, gC62, mN62, gC63, mN63, gC64, mN64, gC65, mN65, gC66, mN66, gC67, mN67, gC68, mN68, gC69, mN69, gC70, mN70, gC71, mN71, gC72, mN72, gC73, mN73, gC74, mN74, gC75, mN75, gC76, mN76, gC77, mN77, gC78, mN78, gC79, mN79, gC80, mN80, gC81, mN81, gC82, mN82, gC83, mN83, gC84, mN84, gC85, mN85, gC86, mN86, gC87, mN87, g1, g2, k0, k1, bdS]
  refine acc_loop (fun m a t w => f_X2_isReached_l11 m 7 (88 + s) (nI M) a t w) (fun t => frV l M t) (fun _ => mkS n z L i l) n _ ?_ ?_ n 0 xFu (by omega) (by unfold xFu; omega)
  · intro m
    show f_X2_isReached_l11 (m + 1) 7 (88 + s) (nI M) (frV l M n) (nI n) _ = _
    rw [f_X2_isReached_l11_s]
    simp only [mI, mL, mZ, msI, msL, mN1020, gC1, mR1_0, mR1_1, mR1_2, mR1_3, mR1_4, mR1_5, mR1_6, mR1_7, mR1_8, gC2, mR2_6, mR2_7, gC3, mN3, gC4, mN4, gC5, mR5_0, mR5_1, gC6, mN6, gC7, mR7_0, mR7_1, gC8, mR8_0, gC9, mN9, gC10, mR10_0, gC11, mN11, mR11_0, mR11_1, mR11_2, mR11_3, mR11_4, mR11_5, gC12, mR12_0, mR12_1, gC13, mN13, gC14, mN14, gC15, mR15_0, mR15_1, gC16, mN16, gC17, mN17, gC18, mR18_0, mR18_1, gC19, mN19, gC20, mN20, gC21, mR21_0, mR21_1, gC22, mN22, gC23, mN23, gC24, mR24_0, mR24_1, gC25, mN25, gC26, mN26, gC27, mR27_0, mR27_1, gC28, mN28, gC29, mN29, gC30, mR30_0, gC31, mN31, mR31_0, mR31_1, mR31_2, mR31_3, mR31_4, mR31_5, gC32, mR32_0, mR32_1, gC33, mN33, gC34, mN34, gC35, mR35_0, mR35_1, gC36, mN36, gC37, mN37, gC38, mR38_0, mR38_1, gC39, mN39, gC40, mN40, gC41, mR41_0, mR41_1, gC42, mN42, gC43, mN43, gC44, mR44_0, mR44_1, gC45, mN45, gC46, mN46, gC47, mR47_0, mR47_1, gC48, mN48, gC49, mN49, gC50, mR50_0, mR50_1, mR50_2, mR50_3, gC51, mN51, gC52, mN52, gC53, mN53, gC54, mN54, gC55, gC56, gC57, mR57_2, mR57_3, mR57_6, mR57_7, mR57_8, mR57_9, mR57_10, mR57_11, mR57_12, mR57_13, mR57_14, mR57_15, mR57_16, mR57_18, mR57_19, mR57_20, mR57_21, mR57_22, mR57_23, mR57_25, mR57_26, mR57_27, mR57_28, mR57_37, mR57_40, mR57_41, mR57_43, mR57_44, mR57_48, mR57_49, gC58, mN58, gC59, mN59, gC60, mN60, gC61, mN61, gC62, mN62, gC63, mN63, gC64, mN64, gC65, mN65, gC66, mN66, gC67, mN67, gC68, mN68, gC69, mN69, gC70, mN70, gC71, mN71, gC72, mN72, gC73, mN73, gC74, mN74, gC75, mN75, gC76, mN76, gC77, mN77, gC78, mN78, gC79, mN79, gC80, mN80, gC81, mN81, gC82, mN82, gC83, mN83, gC84, mN84, gC85, mN85, gC86, mN86, gC87, mN87, hN.2.1, g2, k1, hD.2.2.2.1, v1, bdS, gCS hs]
    rw [if_pos (Int32.le_refl _)]
    have key : lg_cmp (v &&& l (88 + s) 7) 0 = 0 ↔ rsB C n z i M s = false := by
      rw [lg0]
      unfold rsB
      rw [exB_f]
      constructor
      · intro q c hc
        have := q c
        rw [b6_and, v2 c hc, cells_E hD hV hA hs, rch_cong (fun c2 _ => door_b h c2) (fun c2 hc2 => free_P h M hc2) _ c hc] at this
        simpa [hc] using this
      · intro q c
        rw [b6_and]
        by_cases hc : c < z
        · have := q c hc
          rw [v2 c hc, cells_E hD hV hA hs, rch_cong (fun c2 _ => door_b h c2) (fun c2 hc2 => free_P h M hc2) _ c hc]
          simpa [hc] using this
        · rw [cells_E hD hV hA hs, decide_eq_false hc]
          simp
    by_cases e : rsB C n z i M s = false
    · rw [if_pos (key.mpr e), e]; rfl
    · rw [if_neg (fun r => e (key.mp r)), show rsB C n z i M s = true by simpa using e]; rfl
  · intro m t ht
    show f_X2_isReached_l11 (m + 1) 7 (88 + s) (nI M) (frV l M t) (nI t) _ = f_X2_isReached_l11 m 7 (88 + s) (nI M) (if M.testBit t = true then frV l M t &&& (l (88 + t) 7 ^^^ (-1 : Int64)) else frV l M t &&& (-1 : Int64)) (nI (t + 1)) _
    rw [f_X2_isReached_l11_s]
    simp only [mI, mL, mZ, msI, msL, mN1020, gC1, mR1_0, mR1_1, mR1_2, mR1_3, mR1_4, mR1_5, mR1_6, mR1_7, mR1_8, gC2, mR2_6, mR2_7, gC3, mN3, gC4, mN4, gC5, mR5_0, mR5_1, gC6, mN6, gC7, mR7_0, mR7_1, gC8, mR8_0, gC9, mN9, gC10, mR10_0, gC11, mN11, mR11_0, mR11_1, mR11_2, mR11_3, mR11_4, mR11_5, gC12, mR12_0, mR12_1, gC13, mN13, gC14, mN14, gC15, mR15_0, mR15_1, gC16, mN16, gC17, mN17, gC18, mR18_0, mR18_1, gC19, mN19, gC20, mN20, gC21, mR21_0, mR21_1, gC22, mN22, gC23, mN23, gC24, mR24_0, mR24_1, gC25, mN25, gC26, mN26, gC27, mR27_0, mR27_1, gC28, mN28, gC29, mN29, gC30, mR30_0, gC31, mN31, mR31_0, mR31_1, mR31_2, mR31_3, mR31_4, mR31_5, gC32, mR32_0, mR32_1, gC33, mN33, gC34, mN34, gC35, mR35_0, mR35_1, gC36, mN36, gC37, mN37, gC38, mR38_0, mR38_1, gC39, mN39, gC40, mN40, gC41, mR41_0, mR41_1, gC42, mN42, gC43, mN43, gC44, mR44_0, mR44_1, gC45, mN45, gC46, mN46, gC47, mR47_0, mR47_1, gC48, mN48, gC49, mN49, gC50, mR50_0, mR50_1, mR50_2, mR50_3, gC51, mN51, gC52, mN52, gC53, mN53, gC54, mN54, gC55, gC56, gC57, mR57_2, mR57_3, mR57_6, mR57_7, mR57_8, mR57_9, mR57_10, mR57_11, mR57_12, mR57_13, mR57_14, mR57_15, mR57_16, mR57_18, mR57_19, mR57_20, mR57_21, mR57_22, mR57_23, mR57_25, mR57_26, mR57_27, mR57_28, mR57_37, mR57_40, mR57_41, mR57_43, mR57_44, mR57_48, mR57_49, gC58, mN58, gC59, mN59, gC60, mN60, gC61, mN61, gC62, mN62, gC63, mN63, gC64, mN64, gC65, mN65, gC66, mN66, gC67, mN67, gC68, mN68, gC69, mN69, gC70, mN70, gC71, mN71, gC72, mN72, gC73, mN73, gC74, mN74, gC75, mN75, gC76, mN76, gC77, mN77, gC78, mN78, gC79, mN79, gC80, mN80, gC81, mN81, gC82, mN82, gC83, mN83, gC84, mN84, gC85, mN85, gC86, mN86, gC87, mN87, hN.2.1, holds_E h512 (show t < 9 by omega), bdS, nI_clamp (show t < 2 ^ 31 by omega), mR6_t ht, gCS ht, gI (show t < 9 by omega) (show 9 < 2 ^ 31 by omega), nI_1, bI_if]
    rw [if_neg (nI_ge ht (by omega))]
    by_cases e : M.testBit t = true
    · rw [if_pos e, if_pos e]
    · rw [if_neg e, if_neg e]
def inM (i : fI) (n : Nat) : Nat := setN (fun s => !decide (i 68 s = 0)) n
theorem stocked_E (hN : RelN n i) (hF : RelF n i) : f_X2_stocked 7 (mkS n z L i l) = some (nI (inM i n), mkS n z L i l) := by
  have h9 := hN.1
  unfold f_X2_stocked inM
  refine acc_loop (fun m a t w => f_X2_stocked_l4 m 7 a t w) (fun t => nI (setN (fun s => !decide (i 68 s = 0)) t)) (fun _ => mkS n z L i l) n _ ?_ ?_ n 0 xFu (by omega) (by unfold xFu; omega)
  · intro m
    show f_X2_stocked_l4 (m + 1) 7 _ (nI n) _ = _
    rw [f_X2_stocked_l4_s]
    simp only [mI, mL, mZ, msI, msL, mN1020, gC1, mR1_0, mR1_1, mR1_2, mR1_3, mR1_4, mR1_5, mR1_6, mR1_7, mR1_8, gC2, mR2_6, mR2_7, gC3, mN3, gC4, mN4, gC5, mR5_0, mR5_1, gC6, mN6, gC7, mR7_0, mR7_1, gC8, mR8_0, gC9, mN9, gC10, mR10_0, gC11, mN11, mR11_0, mR11_1, mR11_2, mR11_3, mR11_4, mR11_5, gC12, mR12_0, mR12_1, gC13, mN13, gC14, mN14, gC15, mR15_0, mR15_1, gC16, mN16, gC17, mN17, gC18, mR18_0, mR18_1, gC19, mN19, gC20, mN20, gC21, mR21_0, mR21_1, gC22, mN22, gC23, mN23, gC24, mR24_0, mR24_1, gC25, mN25, gC26, mN26, gC27, mR27_0, mR27_1, gC28, mN28, gC29, mN29, gC30, mR30_0, gC31, mN31, mR31_0, mR31_1, mR31_2, mR31_3, mR31_4, mR31_5, gC32, mR32_0, mR32_1, gC33, mN33, gC34, mN34, gC35, mR35_0, mR35_1, gC36, mN36, gC37, mN37, gC38, mR38_0, mR38_1, gC39, mN39, gC40, mN40, gC41, mR41_0, mR41_1, gC42, mN42, gC43, mN43, gC44, mR44_0, mR44_1, gC45, mN45, gC46, mN46, gC47, mR47_0, mR47_1, gC48, mN48, gC49, mN49, gC50, mR50_0, mR50_1, mR50_2, mR50_3, gC51, mN51, gC52, mN52, gC53, mN53, gC54, mN54, gC55, gC56, gC57, mR57_2, mR57_3, mR57_6, mR57_7, mR57_8, mR57_9, mR57_10, mR57_11, mR57_12, mR57_13, mR57_14, mR57_15, mR57_16, mR57_18, mR57_19, mR57_20, mR57_21, mR57_22, mR57_23, mR57_25, mR57_26, mR57_27, mR57_28, mR57_37, mR57_40, mR57_41, mR57_43, mR57_44, mR57_48, mR57_49, gC58, mN58, gC59, mN59, gC60, mN60, gC61, mN61, gC62, mN62, gC63, mN63, gC64, mN64, gC65, mN65, gC66, mN66, gC67, mN67, gC68, mN68, gC69, mN69, gC70, mN70, gC71, mN71, gC72, mN72, gC73, mN73, gC74, mN74, gC75, mN75, gC76, mN76, gC77, mN77, gC78, mN78, gC79, mN79, gC80, mN80, gC81, mN81, gC82, mN82, gC83, mN83, gC84, mN84, gC85, mN85, gC86, mN86, gC87, mN87, hN.2.1]
    rw [if_pos (Int32.le_refl _)]
  · intro m t ht
    show f_X2_stocked_l4 (m + 1) 7 _ (nI t) _ = f_X2_stocked_l4 m 7 (nI (if (!decide (i 68 t = 0)) = true then setN (fun s => !decide (i 68 s = 0)) t ||| 2 ^ t else setN (fun s => !decide (i 68 s = 0)) t)) (nI (t + 1)) _
    rw [f_X2_stocked_l4_s]
    simp only [mI, mL, mZ, msI, msL, mN1020, gC1, mR1_0, mR1_1, mR1_2, mR1_3, mR1_4, mR1_5, mR1_6, mR1_7, mR1_8, gC2, mR2_6, mR2_7, gC3, mN3, gC4, mN4, gC5, mR5_0, mR5_1, gC6, mN6, gC7, mR7_0, mR7_1, gC8, mR8_0, gC9, mN9, gC10, mR10_0, gC11, mN11, mR11_0, mR11_1, mR11_2, mR11_3, mR11_4, mR11_5, gC12, mR12_0, mR12_1, gC13, mN13, gC14, mN14, gC15, mR15_0, mR15_1, gC16, mN16, gC17, mN17, gC18, mR18_0, mR18_1, gC19, mN19, gC20, mN20, gC21, mR21_0, mR21_1, gC22, mN22, gC23, mN23, gC24, mR24_0, mR24_1, gC25, mN25, gC26, mN26, gC27, mR27_0, mR27_1, gC28, mN28, gC29, mN29, gC30, mR30_0, gC31, mN31, mR31_0, mR31_1, mR31_2, mR31_3, mR31_4, mR31_5, gC32, mR32_0, mR32_1, gC33, mN33, gC34, mN34, gC35, mR35_0, mR35_1, gC36, mN36, gC37, mN37, gC38, mR38_0, mR38_1, gC39, mN39, gC40, mN40, gC41, mR41_0, mR41_1, gC42, mN42, gC43, mN43, gC44, mR44_0, mR44_1, gC45, mN45, gC46, mN46, gC47, mR47_0, mR47_1, gC48, mN48, gC49, mN49, gC50, mR50_0, mR50_1, mR50_2, mR50_3, gC51, mN51, gC52, mN52, gC53, mN53, gC54, mN54, gC55, gC56, gC57, mR57_2, mR57_3, mR57_6, mR57_7, mR57_8, mR57_9, mR57_10, mR57_11, mR57_12, mR57_13, mR57_14, mR57_15, mR57_16, mR57_18, mR57_19, mR57_20, mR57_21, mR57_22, mR57_23, mR57_25, mR57_26, mR57_27, mR57_28, mR57_37, mR57_40, mR57_41, mR57_43, mR57_44, mR57_48, mR57_49, gC58, mN58, gC59, mN59, gC60, mN60, gC61, mN61, gC62, mN62, gC63, mN63, gC64, mN64, gC65, mN65, gC66, mN66, gC67, mN67, gC68, mN68, gC69, mN69, gC70, mN70, gC71, mN71, gC72, mN72, gC73, mN73, gC74, mN74, gC75, mN75, gC76, mN76, gC77, mN77, gC78, mN78, gC79, mN79, gC80, mN80, gC81, mN81, gC82, mN82, gC83, mN83, gC84, mN84, gC85, mN85, gC86, mN86, gC87, mN87, hN.2.1, nI_clamp (show t < 2 ^ 31 by omega), mR6_t ht, gCS ht, gI (show t < 9 by omega) (show 9 < 2 ^ 31 by omega), nI_1, (hF t ht).2.2.2.2.2.2.2.1, or0, sh1_E (show t < 9 by omega), fa_or]
    rw [if_neg (nI_ge ht (by omega))]
    by_cases e : i 68 t = 0
    · rw [if_pos e, if_neg (by simp [e])]
    · rw [if_neg e, if_pos (by simp [e])]
theorem setIn_E (hN : RelN n i) {s : Nat} (hs : s < n) : f_X11_setIn 57 (nI s) (mkS n z L i l) = some (nI (setN (fun t => !decide (i 68 t = 0) && !decide (t = s)) n), mkS n z L i l) := by
  have h9 := hN.1
  unfold f_X11_setIn
  refine acc_loop (fun m a t w => f_X11_setIn_l4 m 57 (nI s) a t w) (fun t => nI (setN (fun t => !decide (i 68 t = 0) && !decide (t = s)) t)) (fun _ => mkS n z L i l) n _ ?_ ?_ n 0 xFu (by omega) (by unfold xFu; omega)
  · intro m
    show f_X11_setIn_l4 (m + 1) 57 (nI s) _ (nI n) _ = _
    rw [f_X11_setIn_l4_s]
    simp only [mI, mL, mZ, msI, msL, mN1020, gC1, mR1_0, mR1_1, mR1_2, mR1_3, mR1_4, mR1_5, mR1_6, mR1_7, mR1_8, gC2, mR2_6, mR2_7, gC3, mN3, gC4, mN4, gC5, mR5_0, mR5_1, gC6, mN6, gC7, mR7_0, mR7_1, gC8, mR8_0, gC9, mN9, gC10, mR10_0, gC11, mN11, mR11_0, mR11_1, mR11_2, mR11_3, mR11_4, mR11_5, gC12, mR12_0, mR12_1, gC13, mN13, gC14, mN14, gC15, mR15_0, mR15_1, gC16, mN16, gC17, mN17, gC18, mR18_0, mR18_1, gC19, mN19, gC20, mN20, gC21, mR21_0, mR21_1, gC22, mN22, gC23, mN23, gC24, mR24_0, mR24_1, gC25, mN25, gC26, mN26, gC27, mR27_0, mR27_1, gC28, mN28, gC29, mN29, gC30, mR30_0, gC31, mN31, mR31_0, mR31_1, mR31_2, mR31_3, mR31_4, mR31_5, gC32, mR32_0, mR32_1, gC33, mN33, gC34, mN34, gC35, mR35_0, mR35_1, gC36, mN36, gC37, mN37, gC38, mR38_0, mR38_1, gC39, mN39, gC40, mN40, gC41, mR41_0, mR41_1, gC42, mN42, gC43, mN43, gC44, mR44_0, mR44_1, gC45, mN45, gC46, mN46, gC47, mR47_0, mR47_1, gC48, mN48, gC49, mN49, gC50, mR50_0, mR50_1, mR50_2, mR50_3, gC51, mN51, gC52, mN52, gC53, mN53, gC54, mN54, gC55, gC56, gC57, mR57_2, mR57_3, mR57_6, mR57_7, mR57_8, mR57_9, mR57_10, mR57_11, mR57_12, mR57_13, mR57_14, mR57_15, mR57_16, mR57_18, mR57_19, mR57_20, mR57_21, mR57_22, mR57_23, mR57_25, mR57_26, mR57_27, mR57_28, mR57_37, mR57_40, mR57_41, mR57_43, mR57_44, mR57_48, mR57_49, gC58, mN58, gC59, mN59, gC60, mN60, gC61, mN61, gC62, mN62, gC63, mN63, gC64, mN64, gC65, mN65, gC66, mN66, gC67, mN67, gC68, mN68, gC69, mN69, gC70, mN70, gC71, mN71, gC72, mN72, gC73, mN73, gC74, mN74, gC75, mN75, gC76, mN76, gC77, mN77, gC78, mN78, gC79, mN79, gC80, mN80, gC81, mN81, gC82, mN82, gC83, mN83, gC84, mN84, gC85, mN85, gC86, mN86, gC87, mN87, hN.2.2]
    rw [if_pos (Int32.le_refl _)]
  · intro m t ht
    show f_X11_setIn_l4 (m + 1) 57 (nI s) _ (nI t) _ = f_X11_setIn_l4 m 57 (nI s) (nI (if (!decide (i 68 t = 0) && !decide (t = s)) = true then setN (fun t => !decide (i 68 t = 0) && !decide (t = s)) t ||| 2 ^ t else setN (fun t => !decide (i 68 t = 0) && !decide (t = s)) t)) (nI (t + 1)) _
    rw [f_X11_setIn_l4_s]
    simp only [mI, mL, mZ, msI, msL, mN1020, gC1, mR1_0, mR1_1, mR1_2, mR1_3, mR1_4, mR1_5, mR1_6, mR1_7, mR1_8, gC2, mR2_6, mR2_7, gC3, mN3, gC4, mN4, gC5, mR5_0, mR5_1, gC6, mN6, gC7, mR7_0, mR7_1, gC8, mR8_0, gC9, mN9, gC10, mR10_0, gC11, mN11, mR11_0, mR11_1, mR11_2, mR11_3, mR11_4, mR11_5, gC12, mR12_0, mR12_1, gC13, mN13, gC14, mN14, gC15, mR15_0, mR15_1, gC16, mN16, gC17, mN17, gC18, mR18_0, mR18_1, gC19, mN19, gC20, mN20, gC21, mR21_0, mR21_1, gC22, mN22, gC23, mN23, gC24, mR24_0, mR24_1, gC25, mN25, gC26, mN26, gC27, mR27_0, mR27_1, gC28, mN28, gC29, mN29, gC30, mR30_0, gC31, mN31, mR31_0, mR31_1, mR31_2, mR31_3, mR31_4, mR31_5, gC32, mR32_0, mR32_1, gC33, mN33, gC34, mN34, gC35, mR35_0, mR35_1, gC36, mN36, gC37, mN37, gC38, mR38_0, mR38_1, gC39, mN39, gC40, mN40, gC41, mR41_0, mR41_1, gC42, mN42, gC43, mN43, gC44, mR44_0, mR44_1, gC45, mN45, gC46, mN46, gC47, mR47_0, mR47_1, gC48, mN48, gC49, mN49, gC50, mR50_0, mR50_1, mR50_2, mR50_3, gC51, mN51, gC52, mN52, gC53, mN53, gC54, mN54, gC55, gC56, gC57, mR57_2, mR57_3, mR57_6, mR57_7, mR57_8, mR57_9, mR57_10, mR57_11, mR57_12, mR57_13, mR57_14, mR57_15, mR57_16, mR57_18, mR57_19, mR57_20, mR57_21, mR57_22, mR57_23, mR57_25, mR57_26, mR57_27, mR57_28, mR57_37, mR57_40, mR57_41, mR57_43, mR57_44, mR57_48, mR57_49, gC58, mN58, gC59, mN59, gC60, mN60, gC61, mN61, gC62, mN62, gC63, mN63, gC64, mN64, gC65, mN65, gC66, mN66, gC67, mN67, gC68, mN68, gC69, mN69, gC70, mN70, gC71, mN71, gC72, mN72, gC73, mN73, gC74, mN74, gC75, mN75, gC76, mN76, gC77, mN77, gC78, mN78, gC79, mN79, gC80, mN80, gC81, mN81, gC82, mN82, gC83, mN83, gC84, mN84, gC85, mN85, gC86, mN86, gC87, mN87, hN.2.2, nI_clamp (show t < 2 ^ 31 by omega), gI (show t < 9 by omega) (show 9 < 2 ^ 31 by omega), nI_1, or0, sh1_E (show t < 9 by omega), fa_or, nI_eq (show t < 2 ^ 31 by omega) (show s < 2 ^ 31 by omega)]
    rw [if_neg (nI_ge ht (by omega))]
    by_cases e : i 68 t = 0
    · rw [if_pos e, if_neg (by simp [e])]
    · rw [if_neg e]
      by_cases e2 : t = s
      · rw [if_pos e2, if_neg (by simp [e2])]
      · rw [if_neg e2, if_pos (by simp [e, e2])]
theorem canBring_E (h : RS C R n z i l) {s : Nat} (hs : s < n) (h0 : i 68 s = 0) : ∃ i2, f_X11_canBring 57 (nI s) (mkS n z L i l) = some (bI (rsB C n z i (inM i n) s), mkS n z L i2 l) ∧ Fr sW i i2 := by
  have h9 := h.2.2.1.1
  have e : setN (fun t => !decide (i 68 t = 0) && !decide (t = s)) n = inM i n := setN_cong (fun t ht => by
    by_cases e : t = s
    · subst e; simp [h0]
    · simp [e])
  obtain ⟨i2, a1, a2⟩ := comeTo_E (L := L) h (setN_512 (fun s => !decide (i 68 s = 0)) h9)
  refine ⟨i2, ?_, a2⟩
  have a1' : f_X11_comeTo 57 (nI (inM i n)) (mkS n z L i l) = some (nI (setN (rsB C n z i (inM i n)) n), mkS n z L i2 l) := a1
  simp only [f_X11_canBring, mI, mL, mZ, msI, msL, mN1020, gC1, mR1_0, mR1_1, mR1_2, mR1_3, mR1_4, mR1_5, mR1_6, mR1_7, mR1_8, gC2, mR2_6, mR2_7, gC3, mN3, gC4, mN4, gC5, mR5_0, mR5_1, gC6, mN6, gC7, mR7_0, mR7_1, gC8, mR8_0, gC9, mN9, gC10, mR10_0, gC11, mN11, mR11_0, mR11_1, mR11_2, mR11_3, mR11_4, mR11_5, gC12, mR12_0, mR12_1, gC13, mN13, gC14, mN14, gC15, mR15_0, mR15_1, gC16, mN16, gC17, mN17, gC18, mR18_0, mR18_1, gC19, mN19, gC20, mN20, gC21, mR21_0, mR21_1, gC22, mN22, gC23, mN23, gC24, mR24_0, mR24_1, gC25, mN25, gC26, mN26, gC27, mR27_0, mR27_1, gC28, mN28, gC29, mN29, gC30, mR30_0, gC31, mN31, mR31_0, mR31_1, mR31_2, mR31_3, mR31_4, mR31_5, gC32, mR32_0, mR32_1, gC33, mN33, gC34, mN34, gC35, mR35_0, mR35_1, gC36, mN36, gC37, mN37, gC38, mR38_0, mR38_1, gC39, mN39, gC40, mN40, gC41, mR41_0, mR41_1, gC42, mN42, gC43, mN43, gC44, mR44_0, mR44_1, gC45, mN45, gC46, mN46, gC47, mR47_0, mR47_1, gC48, mN48, gC49, mN49, gC50, mR50_0, mR50_1, mR50_2, mR50_3, gC51, mN51, gC52, mN52, gC53, mN53, gC54, mN54, gC55, gC56, gC57, mR57_2, mR57_3, mR57_6, mR57_7, mR57_8, mR57_9, mR57_10, mR57_11, mR57_12, mR57_13, mR57_14, mR57_15, mR57_16, mR57_18, mR57_19, mR57_20, mR57_21, mR57_22, mR57_23, mR57_25, mR57_26, mR57_27, mR57_28, mR57_37, mR57_40, mR57_41, mR57_43, mR57_44, mR57_48, mR57_49, gC58, mN58, gC59, mN59, gC60, mN60, gC61, mN61, gC62, mN62, gC63, mN63, gC64, mN64, gC65, mN65, gC66, mN66, gC67, mN67, gC68, mN68, gC69, mN69, gC70, mN70, gC71, mN71, gC72, mN72, gC73, mN73, gC74, mN74, gC75, mN75, gC76, mN76, gC77, mN77, gC78, mN78, gC79, mN79, gC80, mN80, gC81, mN81, gC82, mN82, gC83, mN83, gC84, mN84, gC85, mN85, gC86, mN86, gC87, mN87, setIn_E h.2.2.1 hs, bdS, e, a1', shr_b (setN_512 (rsB C n z i (inM i n)) h9) (show s < 9 by omega), setN_b, hs, decide_true, Bool.true_and, bI_e1]
  cases rsB C n z i (inM i n) s <;> rfl
theorem mayCome_E (h : Rel C R n z i l) {s : Nat} (hs : s < n) (h0 : i 68 s = 0) : f_X2_mayComeIn 7 (88 + s) (mkS n z L i l) = some (bI (rsB C n z i (inM i n) s), mkS n z L i l) := by
  obtain ⟨hD, hE, hK, hB, hG, hN, hF, hV, hA, hX, hT, hU, hJ, hM, hL, hO, hY, hP⟩ := id h
  have h9 := hN.1
  have q := reached_E (L := L) h (M := inM i n) (setN_512 (fun s => !decide (i 68 s = 0)) h9) hs
  simp only [f_X2_mayComeIn, gCS hs, mI, mL, mZ, msI, msL, mN1020, gC1, mR1_0, mR1_1, mR1_2, mR1_3, mR1_4, mR1_5, mR1_6, mR1_7, mR1_8, gC2, mR2_6, mR2_7, gC3, mN3, gC4, mN4, gC5, mR5_0, mR5_1, gC6, mN6, gC7, mR7_0, mR7_1, gC8, mR8_0, gC9, mN9, gC10, mR10_0, gC11, mN11, mR11_0, mR11_1, mR11_2, mR11_3, mR11_4, mR11_5, gC12, mR12_0, mR12_1, gC13, mN13, gC14, mN14, gC15, mR15_0, mR15_1, gC16, mN16, gC17, mN17, gC18, mR18_0, mR18_1, gC19, mN19, gC20, mN20, gC21, mR21_0, mR21_1, gC22, mN22, gC23, mN23, gC24, mR24_0, mR24_1, gC25, mN25, gC26, mN26, gC27, mR27_0, mR27_1, gC28, mN28, gC29, mN29, gC30, mR30_0, gC31, mN31, mR31_0, mR31_1, mR31_2, mR31_3, mR31_4, mR31_5, gC32, mR32_0, mR32_1, gC33, mN33, gC34, mN34, gC35, mR35_0, mR35_1, gC36, mN36, gC37, mN37, gC38, mR38_0, mR38_1, gC39, mN39, gC40, mN40, gC41, mR41_0, mR41_1, gC42, mN42, gC43, mN43, gC44, mR44_0, mR44_1, gC45, mN45, gC46, mN46, gC47, mR47_0, mR47_1, gC48, mN48, gC49, mN49, gC50, mR50_0, mR50_1, mR50_2, mR50_3, gC51, mN51, gC52, mN52, gC53, mN53, gC54, mN54, gC55, gC56, gC57, mR57_2, mR57_3, mR57_6, mR57_7, mR57_8, mR57_9, mR57_10, mR57_11, mR57_12, mR57_13, mR57_14, mR57_15, mR57_16, mR57_18, mR57_19, mR57_20, mR57_21, mR57_22, mR57_23, mR57_25, mR57_26, mR57_27, mR57_28, mR57_37, mR57_40, mR57_41, mR57_43, mR57_44, mR57_48, mR57_49, gC58, mN58, gC59, mN59, gC60, mN60, gC61, mN61, gC62, mN62, gC63, mN63, gC64, mN64, gC65, mN65, gC66, mN66, gC67, mN67, gC68, mN68, gC69, mN69, gC70, mN70, gC71, mN71, gC72, mN72, gC73, mN73, gC74, mN74, gC75, mN75, gC76, mN76, gC77, mN77, gC78, mN78, gC79, mN79, gC80, mN80, gC81, mN81, gC82, mN82, gC83, mN83, gC84, mN84, gC85, mN85, gC86, mN86, gC87, mN87, (hF s hs).2.2.2.2.2.2.2.1, if_pos h0, stocked_E hN hF, bdS, q, bI_e0]
  cases rsB C n z i (inM i n) s <;> rfl
theorem op_can (h : Rel C R n z i l) (x : Int32) : OpOK C R n z L (f_X10_can 1 x) (f_X11_can 57 x) i l := by
  obtain ⟨hD, hE, hK, hB, hG, hN, hF, hV, hA, hX, hT, hU, hJ, hM, hL, hO, hY, hP⟩ := id h
  have h9 := hN.1
  rcases ix_em n x with ⟨s, hs, rfl⟩ | hx
  · have f := hF s hs
    by_cases e1 : i 66 s = -1
    · refine ⟨-1, mkS n z L i l, n, i, l, ?_, ?_, ⟨_, _, rfl, by repeat first | exact Fr_rfl | refine Fr_u2 ?_ (by unfold sQ; omega)⟩, h⟩
      · simp only [f_X10_can, mI, mL, mZ, msI, msL, mN1020, gC1, mR1_0, mR1_1, mR1_2, mR1_3, mR1_4, mR1_5, mR1_6, mR1_7, mR1_8, gC2, mR2_6, mR2_7, gC3, mN3, gC4, mN4, gC5, mR5_0, mR5_1, gC6, mN6, gC7, mR7_0, mR7_1, gC8, mR8_0, gC9, mN9, gC10, mR10_0, gC11, mN11, mR11_0, mR11_1, mR11_2, mR11_3, mR11_4, mR11_5, gC12, mR12_0, mR12_1, gC13, mN13, gC14, mN14, gC15, mR15_0, mR15_1, gC16, mN16, gC17, mN17, gC18, mR18_0, mR18_1, gC19, mN19, gC20, mN20, gC21, mR21_0, mR21_1, gC22, mN22, gC23, mN23, gC24, mR24_0, mR24_1, gC25, mN25, gC26, mN26, gC27, mR27_0, mR27_1, gC28, mN28, gC29, mN29, gC30, mR30_0, gC31, mN31, mR31_0, mR31_1, mR31_2, mR31_3, mR31_4, mR31_5, gC32, mR32_0, mR32_1, gC33, mN33, gC34, mN34, gC35, mR35_0, mR35_1, gC36, mN36, gC37, mN37, gC38, mR38_0, mR38_1, gC39, mN39, gC40, mN40, gC41, mR41_0, mR41_1, gC42, mN42, gC43, mN43, gC44, mR44_0, mR44_1, gC45, mN45, gC46, mN46, gC47, mR47_0, mR47_1, gC48, mN48, gC49, mN49, gC50, mR50_0, mR50_1, mR50_2, mR50_3, gC51, mN51, gC52, mN52, gC53, mN53, gC54, mN54, gC55, gC56, gC57, mR57_2, mR57_3, mR57_6, mR57_7, mR57_8, mR57_9, mR57_10, mR57_11, mR57_12, mR57_13, mR57_14, mR57_15, mR57_16, mR57_18, mR57_19, mR57_20, mR57_21, mR57_22, mR57_23, mR57_25, mR57_26, mR57_27, mR57_28, mR57_37, mR57_40, mR57_41, mR57_43, mR57_44, mR57_48, mR57_49, gC58, mN58, gC59, mN59, gC60, mN60, gC61, mN61, gC62, mN62, gC63, mN63, gC64, mN64, gC65, mN65, gC66, mN66, gC67, mN67, gC68, mN68, gC69, mN69, gC70, mN70, gC71, mN71, gC72, mN72, gC73, mN73, gC74, mN74, gC75, mN75, gC76, mN76, gC77, mN77, gC78, mN78, gC79, mN79, gC80, mN80, gC81, mN81, gC82, mN82, gC83, mN83, gC84, mN84, gC85, mN85, gC86, mN86, gC87, mN87, find_t hN hs, bdS, gCS hs, X6_isLaid_E hs, if_b, f.2.2.2.2.2.2.1, if_neg (show ¬ ¬ i 66 s = -1 from fun q => q e1)]
        rw [gd_t (by omega), if_neg (by omega)]
      · simp only [f_X11_can, mI, mL, mZ, msI, msL, mN1020, gC1, mR1_0, mR1_1, mR1_2, mR1_3, mR1_4, mR1_5, mR1_6, mR1_7, mR1_8, gC2, mR2_6, mR2_7, gC3, mN3, gC4, mN4, gC5, mR5_0, mR5_1, gC6, mN6, gC7, mR7_0, mR7_1, gC8, mR8_0, gC9, mN9, gC10, mR10_0, gC11, mN11, mR11_0, mR11_1, mR11_2, mR11_3, mR11_4, mR11_5, gC12, mR12_0, mR12_1, gC13, mN13, gC14, mN14, gC15, mR15_0, mR15_1, gC16, mN16, gC17, mN17, gC18, mR18_0, mR18_1, gC19, mN19, gC20, mN20, gC21, mR21_0, mR21_1, gC22, mN22, gC23, mN23, gC24, mR24_0, mR24_1, gC25, mN25, gC26, mN26, gC27, mR27_0, mR27_1, gC28, mN28, gC29, mN29, gC30, mR30_0, gC31, mN31, mR31_0, mR31_1, mR31_2, mR31_3, mR31_4, mR31_5, gC32, mR32_0, mR32_1, gC33, mN33, gC34, mN34, gC35, mR35_0, mR35_1, gC36, mN36, gC37, mN37, gC38, mR38_0, mR38_1, gC39, mN39, gC40, mN40, gC41, mR41_0, mR41_1, gC42, mN42, gC43, mN43, gC44, mR44_0, mR44_1, gC45, mN45, gC46, mN46, gC47, mR47_0, mR47_1, gC48, mN48, gC49, mN49, gC50, mR50_0, mR50_1, mR50_2, mR50_3, gC51, mN51, gC52, mN52, gC53, mN53, gC54, mN54, gC55, gC56, gC57, mR57_2, mR57_3, mR57_6, mR57_7, mR57_8, mR57_9, mR57_10, mR57_11, mR57_12, mR57_13, mR57_14, mR57_15, mR57_16, mR57_18, mR57_19, mR57_20, mR57_21, mR57_22, mR57_23, mR57_25, mR57_26, mR57_27, mR57_28, mR57_37, mR57_40, mR57_41, mR57_43, mR57_44, mR57_48, mR57_49, gC58, mN58, gC59, mN59, gC60, mN60, gC61, mN61, gC62, mN62, gC63, mN63, gC64, mN64, gC65, mN65, gC66, mN66, gC67, mN67, gC68, mN68, gC69, mN69, gC70, mN70, gC71, mN71, gC72, mN72, gC73, mN73, gC74, mN74, gC75, mN75, gC76, mN76, gC77, mN77, gC78, mN78, gC79, mN79, gC80, mN80, gC81, mN81, gC82, mN82, gC83, mN83, gC84, mN84, gC85, mN85, gC86, mN86, gC87, mN87, isLaid_E hN hs, bdS, if_b, if_neg (show ¬ ¬ i 66 s = -1 from fun q => q e1)]
    · by_cases e2 : i 68 s = 0
      · obtain ⟨i2, a1, a2⟩ := canBring_E (L := L) h.rs hs e2
        refine ⟨bI (rsB C n z i (inM i n) s), mkS n z L i l, n, i2, l, ?_, ?_, ⟨_, _, rfl, by repeat first | exact Fr_rfl | refine Fr_u2 ?_ (by unfold sQ; omega)⟩, Rel_fr h (sW_Z a2)⟩
        · simp only [f_X10_can, mI, mL, mZ, msI, msL, mN1020, gC1, mR1_0, mR1_1, mR1_2, mR1_3, mR1_4, mR1_5, mR1_6, mR1_7, mR1_8, gC2, mR2_6, mR2_7, gC3, mN3, gC4, mN4, gC5, mR5_0, mR5_1, gC6, mN6, gC7, mR7_0, mR7_1, gC8, mR8_0, gC9, mN9, gC10, mR10_0, gC11, mN11, mR11_0, mR11_1, mR11_2, mR11_3, mR11_4, mR11_5, gC12, mR12_0, mR12_1, gC13, mN13, gC14, mN14, gC15, mR15_0, mR15_1, gC16, mN16, gC17, mN17, gC18, mR18_0, mR18_1, gC19, mN19, gC20, mN20, gC21, mR21_0, mR21_1, gC22, mN22, gC23, mN23, gC24, mR24_0, mR24_1, gC25, mN25, gC26, mN26, gC27, mR27_0, mR27_1, gC28, mN28, gC29, mN29, gC30, mR30_0, gC31, mN31, mR31_0, mR31_1, mR31_2, mR31_3, mR31_4, mR31_5, gC32, mR32_0, mR32_1, gC33, mN33, gC34, mN34, gC35, mR35_0, mR35_1, gC36, mN36, gC37, mN37, gC38, mR38_0, mR38_1, gC39, mN39, gC40, mN40, gC41, mR41_0, mR41_1, gC42, mN42, gC43, mN43, gC44, mR44_0, mR44_1, gC45, mN45, gC46, mN46, gC47, mR47_0, mR47_1, gC48, mN48, gC49, mN49, gC50, mR50_0, mR50_1, mR50_2, mR50_3, gC51, mN51, gC52, mN52, gC53, mN53, gC54, mN54, gC55, gC56, gC57, mR57_2, mR57_3, mR57_6, mR57_7, mR57_8, mR57_9, mR57_10, mR57_11, mR57_12, mR57_13, mR57_14, mR57_15, mR57_16, mR57_18, mR57_19, mR57_20, mR57_21, mR57_22, mR57_23, mR57_25, mR57_26, mR57_27, mR57_28, mR57_37, mR57_40, mR57_41, mR57_43, mR57_44, mR57_48, mR57_49, gC58, mN58, gC59, mN59, gC60, mN60, gC61, mN61, gC62, mN62, gC63, mN63, gC64, mN64, gC65, mN65, gC66, mN66, gC67, mN67, gC68, mN68, gC69, mN69, gC70, mN70, gC71, mN71, gC72, mN72, gC73, mN73, gC74, mN74, gC75, mN75, gC76, mN76, gC77, mN77, gC78, mN78, gC79, mN79, gC80, mN80, gC81, mN81, gC82, mN82, gC83, mN83, gC84, mN84, gC85, mN85, gC86, mN86, gC87, mN87, find_t hN hs, bdS, gCS hs, X6_isLaid_E hs, if_b, f.2.2.2.2.2.2.1, mayCome_E (L := L) h hs e2, bI_e0]
          rw [gd_t (by omega), if_neg (by omega), if_pos e1]
          cases rsB C n z i (inM i n) s <;> rfl
        · simp only [f_X11_can, mI, mL, mZ, msI, msL, mN1020, gC1, mR1_0, mR1_1, mR1_2, mR1_3, mR1_4, mR1_5, mR1_6, mR1_7, mR1_8, gC2, mR2_6, mR2_7, gC3, mN3, gC4, mN4, gC5, mR5_0, mR5_1, gC6, mN6, gC7, mR7_0, mR7_1, gC8, mR8_0, gC9, mN9, gC10, mR10_0, gC11, mN11, mR11_0, mR11_1, mR11_2, mR11_3, mR11_4, mR11_5, gC12, mR12_0, mR12_1, gC13, mN13, gC14, mN14, gC15, mR15_0, mR15_1, gC16, mN16, gC17, mN17, gC18, mR18_0, mR18_1, gC19, mN19, gC20, mN20, gC21, mR21_0, mR21_1, gC22, mN22, gC23, mN23, gC24, mR24_0, mR24_1, gC25, mN25, gC26, mN26, gC27, mR27_0, mR27_1, gC28, mN28, gC29, mN29, gC30, mR30_0, gC31, mN31, mR31_0, mR31_1, mR31_2, mR31_3, mR31_4, mR31_5, gC32, mR32_0, mR32_1, gC33, mN33, gC34, mN34, gC35, mR35_0, mR35_1, gC36, mN36, gC37, mN37, gC38, mR38_0, mR38_1, gC39, mN39, gC40, mN40, gC41, mR41_0, mR41_1, gC42, mN42, gC43, mN43, gC44, mR44_0, mR44_1, gC45, mN45, gC46, mN46, gC47, mR47_0, mR47_1, gC48, mN48, gC49, mN49, gC50, mR50_0, mR50_1, mR50_2, mR50_3, gC51, mN51, gC52, mN52, gC53, mN53, gC54, mN54, gC55, gC56, gC57, mR57_2, mR57_3, mR57_6, mR57_7, mR57_8, mR57_9, mR57_10, mR57_11, mR57_12, mR57_13, mR57_14, mR57_15, mR57_16, mR57_18, mR57_19, mR57_20, mR57_21, mR57_22, mR57_23, mR57_25, mR57_26, mR57_27, mR57_28, mR57_37, mR57_40, mR57_41, mR57_43, mR57_44, mR57_48, mR57_49, gC58, mN58, gC59, mN59, gC60, mN60, gC61, mN61, gC62, mN62, gC63, mN63, gC64, mN64, gC65, mN65, gC66, mN66, gC67, mN67, gC68, mN68, gC69, mN69, gC70, mN70, gC71, mN71, gC72, mN72, gC73, mN73, gC74, mN74, gC75, mN75, gC76, mN76, gC77, mN77, gC78, mN78, gC79, mN79, gC80, mN80, gC81, mN81, gC82, mN82, gC83, mN83, gC84, mN84, gC85, mN85, gC86, mN86, gC87, mN87, isLaid_E hN hs, bdS, if_b, gI (show s < 9 by omega) (show 9 < 2 ^ 31 by omega), nI_clamp (show s < 2 ^ 31 by omega), if_pos e2, a1, bI_e0]
          rw [if_pos e1]
          cases rsB C n z i (inM i n) s <;> rfl
      · refine ⟨0, mkS n z L i l, n, i, l, ?_, ?_, ⟨_, _, rfl, by repeat first | exact Fr_rfl | refine Fr_u2 ?_ (by unfold sQ; omega)⟩, h⟩
        · simp only [f_X10_can, f_X2_mayComeIn, mI, mL, mZ, msI, msL, mN1020, gC1, mR1_0, mR1_1, mR1_2, mR1_3, mR1_4, mR1_5, mR1_6, mR1_7, mR1_8, gC2, mR2_6, mR2_7, gC3, mN3, gC4, mN4, gC5, mR5_0, mR5_1, gC6, mN6, gC7, mR7_0, mR7_1, gC8, mR8_0, gC9, mN9, gC10, mR10_0, gC11, mN11, mR11_0, mR11_1, mR11_2, mR11_3, mR11_4, mR11_5, gC12, mR12_0, mR12_1, gC13, mN13, gC14, mN14, gC15, mR15_0, mR15_1, gC16, mN16, gC17, mN17, gC18, mR18_0, mR18_1, gC19, mN19, gC20, mN20, gC21, mR21_0, mR21_1, gC22, mN22, gC23, mN23, gC24, mR24_0, mR24_1, gC25, mN25, gC26, mN26, gC27, mR27_0, mR27_1, gC28, mN28, gC29, mN29, gC30, mR30_0, gC31, mN31, mR31_0, mR31_1, mR31_2, mR31_3, mR31_4, mR31_5, gC32, mR32_0, mR32_1, gC33, mN33, gC34, mN34, gC35, mR35_0, mR35_1, gC36, mN36, gC37, mN37, gC38, mR38_0, mR38_1, gC39, mN39, gC40, mN40, gC41, mR41_0, mR41_1, gC42, mN42, gC43, mN43, gC44, mR44_0, mR44_1, gC45, mN45, gC46, mN46, gC47, mR47_0, mR47_1, gC48, mN48, gC49, mN49, gC50, mR50_0, mR50_1, mR50_2, mR50_3, gC51, mN51, gC52, mN52, gC53, mN53, gC54, mN54, gC55, gC56, gC57, mR57_2, mR57_3, mR57_6, mR57_7, mR57_8, mR57_9, mR57_10, mR57_11, mR57_12, mR57_13, mR57_14, mR57_15, mR57_16, mR57_18, mR57_19, mR57_20, mR57_21, mR57_22, mR57_23, mR57_25, mR57_26, mR57_27, mR57_28, mR57_37, mR57_40, mR57_41, mR57_43, mR57_44, mR57_48, mR57_49, gC58, mN58, gC59, mN59, gC60, mN60, gC61, mN61, gC62, mN62, gC63, mN63, gC64, mN64, gC65, mN65, gC66, mN66, gC67, mN67, gC68, mN68, gC69, mN69, gC70, mN70, gC71, mN71, gC72, mN72, gC73, mN73, gC74, mN74, gC75, mN75, gC76, mN76, gC77, mN77, gC78, mN78, gC79, mN79, gC80, mN80, gC81, mN81, gC82, mN82, gC83, mN83, gC84, mN84, gC85, mN85, gC86, mN86, gC87, mN87, find_t hN hs, bdS, gCS hs, X6_isLaid_E hs, if_b, f.2.2.2.2.2.2.1, f.2.2.2.2.2.2.2.1, if_neg e2, eq_self, if_true]
          rw [gd_t (by omega), if_neg (by omega), if_pos e1]
        · simp only [f_X11_can, mI, mL, mZ, msI, msL, mN1020, gC1, mR1_0, mR1_1, mR1_2, mR1_3, mR1_4, mR1_5, mR1_6, mR1_7, mR1_8, gC2, mR2_6, mR2_7, gC3, mN3, gC4, mN4, gC5, mR5_0, mR5_1, gC6, mN6, gC7, mR7_0, mR7_1, gC8, mR8_0, gC9, mN9, gC10, mR10_0, gC11, mN11, mR11_0, mR11_1, mR11_2, mR11_3, mR11_4, mR11_5, gC12, mR12_0, mR12_1, gC13, mN13, gC14, mN14, gC15, mR15_0, mR15_1, gC16, mN16, gC17, mN17, gC18, mR18_0, mR18_1, gC19, mN19, gC20, mN20, gC21, mR21_0, mR21_1, gC22, mN22, gC23, mN23, gC24, mR24_0, mR24_1, gC25, mN25, gC26, mN26, gC27, mR27_0, mR27_1, gC28, mN28, gC29, mN29, gC30, mR30_0, gC31, mN31, mR31_0, mR31_1, mR31_2, mR31_3, mR31_4, mR31_5, gC32, mR32_0, mR32_1, gC33, mN33, gC34, mN34, gC35, mR35_0, mR35_1, gC36, mN36, gC37, mN37, gC38, mR38_0, mR38_1, gC39, mN39, gC40, mN40, gC41, mR41_0, mR41_1, gC42, mN42, gC43, mN43, gC44, mR44_0, mR44_1, gC45, mN45, gC46, mN46, gC47, mR47_0, mR47_1, gC48, mN48, gC49, mN49, gC50, mR50_0, mR50_1, mR50_2, mR50_3, gC51, mN51, gC52, mN52, gC53, mN53, gC54, mN54, gC55, gC56, gC57, mR57_2, mR57_3, mR57_6, mR57_7, mR57_8, mR57_9, mR57_10, mR57_11, mR57_12, mR57_13, mR57_14, mR57_15, mR57_16, mR57_18, mR57_19, mR57_20, mR57_21, mR57_22, mR57_23, mR57_25, mR57_26, mR57_27, mR57_28, mR57_37, mR57_40, mR57_41, mR57_43, mR57_44, mR57_48, mR57_49, gC58, mN58, gC59, mN59, gC60, mN60, gC61, mN61, gC62, mN62, gC63, mN63, gC64, mN64, gC65, mN65, gC66, mN66, gC67, mN67, gC68, mN68, gC69, mN69, gC70, mN70, gC71, mN71, gC72, mN72, gC73, mN73, gC74, mN74, gC75, mN75, gC76, mN76, gC77, mN77, gC78, mN78, gC79, mN79, gC80, mN80, gC81, mN81, gC82, mN82, gC83, mN83, gC84, mN84, gC85, mN85, gC86, mN86, gC87, mN87, isLaid_E hN hs, bdS, if_b, gI (show s < 9 by omega) (show 9 < 2 ^ 31 by omega), nI_clamp (show s < 2 ^ 31 by omega), if_neg e2]
          rw [if_pos e1]
  · refine ⟨-1, mkS n z L i l, n, i, l, ?_, ?_, ⟨_, _, rfl, by repeat first | exact Fr_rfl | refine Fr_u2 ?_ (by unfold sQ; omega)⟩, h⟩
    · simp only [f_X10_can, mI, mL, mZ, msI, msL, mN1020, gC1, mR1_0, mR1_1, mR1_2, mR1_3, mR1_4, mR1_5, mR1_6, mR1_7, mR1_8, gC2, mR2_6, mR2_7, gC3, mN3, gC4, mN4, gC5, mR5_0, mR5_1, gC6, mN6, gC7, mR7_0, mR7_1, gC8, mR8_0, gC9, mN9, gC10, mR10_0, gC11, mN11, mR11_0, mR11_1, mR11_2, mR11_3, mR11_4, mR11_5, gC12, mR12_0, mR12_1, gC13, mN13, gC14, mN14, gC15, mR15_0, mR15_1, gC16, mN16, gC17, mN17, gC18, mR18_0, mR18_1, gC19, mN19, gC20, mN20, gC21, mR21_0, mR21_1, gC22, mN22, gC23, mN23, gC24, mR24_0, mR24_1, gC25, mN25, gC26, mN26, gC27, mR27_0, mR27_1, gC28, mN28, gC29, mN29, gC30, mR30_0, gC31, mN31, mR31_0, mR31_1, mR31_2, mR31_3, mR31_4, mR31_5, gC32, mR32_0, mR32_1, gC33, mN33, gC34, mN34, gC35, mR35_0, mR35_1, gC36, mN36, gC37, mN37, gC38, mR38_0, mR38_1, gC39, mN39, gC40, mN40, gC41, mR41_0, mR41_1, gC42, mN42, gC43, mN43, gC44, mR44_0, mR44_1, gC45, mN45, gC46, mN46, gC47, mR47_0, mR47_1, gC48, mN48, gC49, mN49, gC50, mR50_0, mR50_1, mR50_2, mR50_3, gC51, mN51, gC52, mN52, gC53, mN53, gC54, mN54, gC55, gC56, gC57, mR57_2, mR57_3, mR57_6, mR57_7, mR57_8, mR57_9, mR57_10, mR57_11, mR57_12, mR57_13, mR57_14, mR57_15, mR57_16, mR57_18, mR57_19, mR57_20, mR57_21, mR57_22, mR57_23, mR57_25, mR57_26, mR57_27, mR57_28, mR57_37, mR57_40, mR57_41, mR57_43, mR57_44, mR57_48, mR57_49, gC58, mN58, gC59, mN59, gC60, mN60, gC61, mN61, gC62, mN62, gC63, mN63, gC64, mN64, gC65, mN65, gC66, mN66, gC67, mN67, gC68, mN68, gC69, mN69, gC70, mN70, gC71, mN71, gC72, mN72, gC73, mN73, gC74, mN74, gC75, mN75, gC76, mN76, gC77, mN77, gC78, mN78, gC79, mN79, gC80, mN80, gC81, mN81, gC82, mN82, gC83, mN83, gC84, mN84, gC85, mN85, gC86, mN86, gC87, mN87, find_f hN hx, bdS]
      rw [gd_t (by omega), if_pos trivial]
    · simp only [f_X11_can, mI, mL, mZ, msI, msL, mN1020, gC1, mR1_0, mR1_1, mR1_2, mR1_3, mR1_4, mR1_5, mR1_6, mR1_7, mR1_8, gC2, mR2_6, mR2_7, gC3, mN3, gC4, mN4, gC5, mR5_0, mR5_1, gC6, mN6, gC7, mR7_0, mR7_1, gC8, mR8_0, gC9, mN9, gC10, mR10_0, gC11, mN11, mR11_0, mR11_1, mR11_2, mR11_3, mR11_4, mR11_5, gC12, mR12_0, mR12_1, gC13, mN13, gC14, mN14, gC15, mR15_0, mR15_1, gC16, mN16, gC17, mN17, gC18, mR18_0, mR18_1, gC19, mN19, gC20, mN20, gC21, mR21_0, mR21_1, gC22, mN22, gC23, mN23, gC24, mR24_0, mR24_1, gC25, mN25, gC26, mN26, gC27, mR27_0, mR27_1, gC28, mN28, gC29, mN29, gC30, mR30_0, gC31, mN31, mR31_0, mR31_1, mR31_2, mR31_3, mR31_4, mR31_5, gC32, mR32_0, mR32_1, gC33, mN33, gC34, mN34, gC35, mR35_0, mR35_1, gC36, mN36, gC37, mN37, gC38, mR38_0, mR38_1, gC39, mN39, gC40, mN40, gC41, mR41_0, mR41_1, gC42, mN42, gC43, mN43, gC44, mR44_0, mR44_1, gC45, mN45, gC46, mN46, gC47, mR47_0, mR47_1, gC48, mN48, gC49, mN49, gC50, mR50_0, mR50_1, mR50_2, mR50_3, gC51, mN51, gC52, mN52, gC53, mN53, gC54, mN54, gC55, gC56, gC57, mR57_2, mR57_3, mR57_6, mR57_7, mR57_8, mR57_9, mR57_10, mR57_11, mR57_12, mR57_13, mR57_14, mR57_15, mR57_16, mR57_18, mR57_19, mR57_20, mR57_21, mR57_22, mR57_23, mR57_25, mR57_26, mR57_27, mR57_28, mR57_37, mR57_40, mR57_41, mR57_43, mR57_44, mR57_48, mR57_49, gC58, mN58, gC59, mN59, gC60, mN60, gC61, mN61, gC62, mN62, gC63, mN63, gC64, mN64, gC65, mN65, gC66, mN66, gC67, mN67, gC68, mN68, gC69, mN69, gC70, mN70, gC71, mN71, gC72, mN72, gC73, mN73, gC74, mN74, gC75, mN75, gC76, mN76, gC77, mN77, gC78, mN78, gC79, mN79, gC80, mN80, gC81, mN81, gC82, mN82, gC83, mN83, gC84, mN84, gC85, mN85, gC86, mN86, gC87, mN87, isLaid_f hN hx, bdS]
      rw [if_pos trivial]
theorem nar_bI (b : Bool) : vp_nar .boolean (bI b) = bI b := by cases b <;> decide
theorem op_bring (h : Rel C R n z i l) (x : Int32) : OpOK C R n z L (f_X10_bring 1 x) (f_X11_bring 57 x) i l := by
  obtain ⟨hD, hE, hK, hB, hG, hN, hF, hV, hA, hX, hT, hU, hJ, hM, hL, hO, hY, hP⟩ := id h
  have h9 := hN.1
  rcases ix_em n x with ⟨s, hs, rfl⟩ | hx
  · have f := hF s hs
    by_cases e1 : i 66 s = -1
    · refine ⟨-1, mkS n z L i l, n, i, l, ?_, ?_, ⟨_, _, rfl, by repeat first | exact Fr_rfl | refine Fr_u2 ?_ (by unfold sQ; omega)⟩, h⟩
      · simp only [f_X10_bring, mI, mL, mZ, msI, msL, mN1020, gC1, mR1_0, mR1_1, mR1_2, mR1_3, mR1_4, mR1_5, mR1_6, mR1_7, mR1_8, gC2, mR2_6, mR2_7, gC3, mN3, gC4, mN4, gC5, mR5_0, mR5_1, gC6, mN6, gC7, mR7_0, mR7_1, gC8, mR8_0, gC9, mN9, gC10, mR10_0, gC11, mN11, mR11_0, mR11_1, mR11_2, mR11_3, mR11_4, mR11_5, gC12, mR12_0, mR12_1, gC13, mN13, gC14, mN14, gC15, mR15_0, mR15_1, gC16, mN16, gC17, mN17, gC18, mR18_0, mR18_1, gC19, mN19, gC20, mN20, gC21, mR21_0, mR21_1, gC22, mN22, gC23, mN23, gC24, mR24_0, mR24_1, gC25, mN25, gC26, mN26, gC27, mR27_0, mR27_1, gC28, mN28, gC29, mN29, gC30, mR30_0, gC31, mN31, mR31_0, mR31_1, mR31_2, mR31_3, mR31_4, mR31_5, gC32, mR32_0, mR32_1, gC33, mN33, gC34, mN34, gC35, mR35_0, mR35_1, gC36, mN36, gC37, mN37, gC38, mR38_0, mR38_1, gC39, mN39, gC40, mN40, gC41, mR41_0, mR41_1, gC42, mN42, gC43, mN43, gC44, mR44_0, mR44_1, gC45, mN45, gC46, mN46, gC47, mR47_0, mR47_1, gC48, mN48, gC49, mN49, gC50, mR50_0, mR50_1, mR50_2, mR50_3, gC51, mN51, gC52, mN52, gC53, mN53, gC54, mN54, gC55, gC56, gC57, mR57_2, mR57_3, mR57_6, mR57_7, mR57_8, mR57_9, mR57_10, mR57_11, mR57_12, mR57_13, mR57_14, mR57_15, mR57_16, mR57_18, mR57_19, mR57_20, mR57_21, mR57_22, mR57_23, mR57_25, mR57_26, mR57_27, mR57_28, mR57_37, mR57_40, mR57_41, mR57_43, mR57_44, mR57_48, mR57_49, gC58, mN58, gC59, mN59, gC60, mN60, gC61, mN61, gC62, mN62, gC63, mN63, gC64, mN64, gC65, mN65, gC66, mN66, gC67, mN67, gC68, mN68, gC69, mN69, gC70, mN70, gC71, mN71, gC72, mN72, gC73, mN73, gC74, mN74, gC75, mN75, gC76, mN76, gC77, mN77, gC78, mN78, gC79, mN79, gC80, mN80, gC81, mN81, gC82, mN82, gC83, mN83, gC84, mN84, gC85, mN85, gC86, mN86, gC87, mN87, find_t hN hs, bdS, gCS hs, X6_isLaid_E hs, if_b, f.2.2.2.2.2.2.1, if_neg (show ¬ ¬ i 66 s = -1 from fun q => q e1)]
        rw [gd_t (by omega), if_neg (by omega)]
      · simp only [f_X11_bring, mI, mL, mZ, msI, msL, mN1020, gC1, mR1_0, mR1_1, mR1_2, mR1_3, mR1_4, mR1_5, mR1_6, mR1_7, mR1_8, gC2, mR2_6, mR2_7, gC3, mN3, gC4, mN4, gC5, mR5_0, mR5_1, gC6, mN6, gC7, mR7_0, mR7_1, gC8, mR8_0, gC9, mN9, gC10, mR10_0, gC11, mN11, mR11_0, mR11_1, mR11_2, mR11_3, mR11_4, mR11_5, gC12, mR12_0, mR12_1, gC13, mN13, gC14, mN14, gC15, mR15_0, mR15_1, gC16, mN16, gC17, mN17, gC18, mR18_0, mR18_1, gC19, mN19, gC20, mN20, gC21, mR21_0, mR21_1, gC22, mN22, gC23, mN23, gC24, mR24_0, mR24_1, gC25, mN25, gC26, mN26, gC27, mR27_0, mR27_1, gC28, mN28, gC29, mN29, gC30, mR30_0, gC31, mN31, mR31_0, mR31_1, mR31_2, mR31_3, mR31_4, mR31_5, gC32, mR32_0, mR32_1, gC33, mN33, gC34, mN34, gC35, mR35_0, mR35_1, gC36, mN36, gC37, mN37, gC38, mR38_0, mR38_1, gC39, mN39, gC40, mN40, gC41, mR41_0, mR41_1, gC42, mN42, gC43, mN43, gC44, mR44_0, mR44_1, gC45, mN45, gC46, mN46, gC47, mR47_0, mR47_1, gC48, mN48, gC49, mN49, gC50, mR50_0, mR50_1, mR50_2, mR50_3, gC51, mN51, gC52, mN52, gC53, mN53, gC54, mN54, gC55, gC56, gC57, mR57_2, mR57_3, mR57_6, mR57_7, mR57_8, mR57_9, mR57_10, mR57_11, mR57_12, mR57_13, mR57_14, mR57_15, mR57_16, mR57_18, mR57_19, mR57_20, mR57_21, mR57_22, mR57_23, mR57_25, mR57_26, mR57_27, mR57_28, mR57_37, mR57_40, mR57_41, mR57_43, mR57_44, mR57_48, mR57_49, gC58, mN58, gC59, mN59, gC60, mN60, gC61, mN61, gC62, mN62, gC63, mN63, gC64, mN64, gC65, mN65, gC66, mN66, gC67, mN67, gC68, mN68, gC69, mN69, gC70, mN70, gC71, mN71, gC72, mN72, gC73, mN73, gC74, mN74, gC75, mN75, gC76, mN76, gC77, mN77, gC78, mN78, gC79, mN79, gC80, mN80, gC81, mN81, gC82, mN82, gC83, mN83, gC84, mN84, gC85, mN85, gC86, mN86, gC87, mN87, isLaid_E hN hs, bdS, if_b, if_neg (show ¬ ¬ i 66 s = -1 from fun q => q e1)]
    · by_cases e2 : i 68 s = 0
      · obtain ⟨v, hv⟩ : ∃ v, rsB C n z i (inM i n) s = v := ⟨_, rfl⟩
        have fr1 : ∀ S : Nat → Nat → Prop, ¬ S (88 + s) 8 → Fr S i (u2 i (88 + s) 8 (bI v)) := fun S q => Fr_u2 Fr_rfl q
        have rs1 : RS C R n z (u2 i (88 + s) 8 (bI v)) l := ⟨hD.fr (fr1 _ (by unfold sD; omega)), hK.fr (fr1 _ (by unfold sK; omega)) Fr_rfl, hN.fr (fr1 _ (by unfold sN; omega)), hV.fr (fr1 _ (by unfold sVv; omega)), hA.fr (fr1 _ (by unfold sVv; omega)) Fr_rfl, hP⟩
        have e2' : u2 i (88 + s) 8 (bI v) 68 s = 0 := by rw [u2_p _ _ (by omega)]; exact e2
        have einM : inM (u2 i (88 + s) 8 (bI v)) n = inM i n := setN_cong (fun t _ => by rw [u2_p _ _ (by omega)])
        obtain ⟨i2, a1, a2⟩ := canBring_E (L := L) rs1 hs e2'
        rw [einM, rsB_fr (fr1 _ (by unfold sRd; omega)), hv] at a1
        suffices hrel : Rel C R n z (u2 (u2 i (88 + s) 8 (bI v)) 68 s (bI v)) l by
          refine ⟨bI v, mkS n z L (u2 i (88 + s) 8 (bI v)) l, n, u2 i2 68 s (bI v), l, ?_, ?_, ⟨_, _, rfl, by repeat first | exact Fr_rfl | refine Fr_u2 ?_ (by unfold sQ; omega)⟩, Rel_fr hrel ?_⟩
          · simp only [f_X10_bring, mI, mL, mZ, msI, msL, mN1020, gC1, mR1_0, mR1_1, mR1_2, mR1_3, mR1_4, mR1_5, mR1_6, mR1_7, mR1_8, gC2, mR2_6, mR2_7, gC3, mN3, gC4, mN4, gC5, mR5_0, mR5_1, gC6, mN6, gC7, mR7_0, mR7_1, gC8, mR8_0, gC9, mN9, gC10, mR10_0, gC11, mN11, mR11_0, mR11_1, mR11_2, mR11_3, mR11_4, mR11_5, gC12, mR12_0, mR12_1, gC13, mN13, gC14, mN14, gC15, mR15_0, mR15_1, gC16, mN16, gC17, mN17, gC18, mR18_0, mR18_1, gC19, mN19, gC20, mN20, gC21, mR21_0, mR21_1, gC22, mN22, gC23, mN23, gC24, mR24_0, mR24_1, gC25, mN25, gC26, mN26, gC27, mR27_0, mR27_1, gC28, mN28, gC29, mN29, gC30, mR30_0, gC31, mN31, mR31_0, mR31_1, mR31_2, mR31_3, mR31_4, mR31_5, gC32, mR32_0, mR32_1, gC33, mN33, gC34, mN34, gC35, mR35_0, mR35_1, gC36, mN36, gC37, mN37, gC38, mR38_0, mR38_1, gC39, mN39, gC40, mN40, gC41, mR41_0, mR41_1, gC42, mN42, gC43, mN43, gC44, mR44_0, mR44_1, gC45, mN45, gC46, mN46, gC47, mR47_0, mR47_1, gC48, mN48, gC49, mN49, gC50, mR50_0, mR50_1, mR50_2, mR50_3, gC51, mN51, gC52, mN52, gC53, mN53, gC54, mN54, gC55, gC56, gC57, mR57_2, mR57_3, mR57_6, mR57_7, mR57_8, mR57_9, mR57_10, mR57_11, mR57_12, mR57_13, mR57_14, mR57_15, mR57_16, mR57_18, mR57_19, mR57_20, mR57_21, mR57_22, mR57_23, mR57_25, mR57_26, mR57_27, mR57_28, mR57_37, mR57_40, mR57_41, mR57_43, mR57_44, mR57_48, mR57_49, gC58, mN58, gC59, mN59, gC60, mN60, gC61, mN61, gC62, mN62, gC63, mN63, gC64, mN64, gC65, mN65, gC66, mN66, gC67, mN67, gC68, mN68, gC69, mN69, gC70, mN70, gC71, mN71, gC72, mN72, gC73, mN73, gC74, mN74, gC75, mN75, gC76, mN76, gC77, mN77, gC78, mN78, gC79, mN79, gC80, mN80, gC81, mN81, gC82, mN82, gC83, mN83, gC84, mN84, gC85, mN85, gC86, mN86, gC87, mN87, find_t hN hs, bdS, gCS hs, X6_isLaid_E hs, if_b, f.2.2.2.2.2.2.1, f.2.2.2.2.2.2.2.1, if_pos e2, mayCome_E (L := L) h hs e2, hv, lt1E, u2_s, bI_e0]
            rw [gd_t (by omega), if_neg (by omega), if_pos e1]
            cases v <;> rfl
          · have hN1 := rs1.2.2.1
            simp only [f_X11_bring, mI, mL, mZ, msI, msL, mN1020, gC1, mR1_0, mR1_1, mR1_2, mR1_3, mR1_4, mR1_5, mR1_6, mR1_7, mR1_8, gC2, mR2_6, mR2_7, gC3, mN3, gC4, mN4, gC5, mR5_0, mR5_1, gC6, mN6, gC7, mR7_0, mR7_1, gC8, mR8_0, gC9, mN9, gC10, mR10_0, gC11, mN11, mR11_0, mR11_1, mR11_2, mR11_3, mR11_4, mR11_5, gC12, mR12_0, mR12_1, gC13, mN13, gC14, mN14, gC15, mR15_0, mR15_1, gC16, mN16, gC17, mN17, gC18, mR18_0, mR18_1, gC19, mN19, gC20, mN20, gC21, mR21_0, mR21_1, gC22, mN22, gC23, mN23, gC24, mR24_0, mR24_1, gC25, mN25, gC26, mN26, gC27, mR27_0, mR27_1, gC28, mN28, gC29, mN29, gC30, mR30_0, gC31, mN31, mR31_0, mR31_1, mR31_2, mR31_3, mR31_4, mR31_5, gC32, mR32_0, mR32_1, gC33, mN33, gC34, mN34, gC35, mR35_0, mR35_1, gC36, mN36, gC37, mN37, gC38, mR38_0, mR38_1, gC39, mN39, gC40, mN40, gC41, mR41_0, mR41_1, gC42, mN42, gC43, mN43, gC44, mR44_0, mR44_1, gC45, mN45, gC46, mN46, gC47, mR47_0, mR47_1, gC48, mN48, gC49, mN49, gC50, mR50_0, mR50_1, mR50_2, mR50_3, gC51, mN51, gC52, mN52, gC53, mN53, gC54, mN54, gC55, gC56, gC57, mR57_2, mR57_3, mR57_6, mR57_7, mR57_8, mR57_9, mR57_10, mR57_11, mR57_12, mR57_13, mR57_14, mR57_15, mR57_16, mR57_18, mR57_19, mR57_20, mR57_21, mR57_22, mR57_23, mR57_25, mR57_26, mR57_27, mR57_28, mR57_37, mR57_40, mR57_41, mR57_43, mR57_44, mR57_48, mR57_49, gC58, mN58, gC59, mN59, gC60, mN60, gC61, mN61, gC62, mN62, gC63, mN63, gC64, mN64, gC65, mN65, gC66, mN66, gC67, mN67, gC68, mN68, gC69, mN69, gC70, mN70, gC71, mN71, gC72, mN72, gC73, mN73, gC74, mN74, gC75, mN75, gC76, mN76, gC77, mN77, gC78, mN78, gC79, mN79, gC80, mN80, gC81, mN81, gC82, mN82, gC83, mN83, gC84, mN84, gC85, mN85, gC86, mN86, gC87, mN87, isLaid_E hN1 hs, bdS, if_b, gI (show s < 9 by omega) (show 9 < 2 ^ 31 by omega), nI_clamp (show s < 2 ^ 31 by omega), u2_p _ _ (show (66 : Nat) ≠ 88 + s by omega), u2_p _ _ (show (68 : Nat) ≠ 88 + s by omega), if_pos e2, a1, lt1E, nar_bI, bI_e0]
            rw [if_pos e1]
            cases v <;> rfl
          · intro p k hp
            unfold u2
            by_cases e : p = 68 ∧ k = s
            · rw [if_pos e, if_pos e]
            · rw [if_neg e, if_neg e]
              exact sW_Z a2 p k hp
        refine ⟨hD.fr (Fr_u2 (Fr_u2 Fr_rfl (by unfold sD; omega)) (by unfold sD; omega)), hE.fr Fr_rfl, hK.fr (Fr_u2 (Fr_u2 Fr_rfl (by unfold sK; omega)) (by unfold sK; omega)) Fr_rfl, hB.fr (Fr_u2 (Fr_u2 Fr_rfl (by unfold sB; omega)) (by unfold sB; omega)), hG.fr (Fr_u2 (Fr_u2 Fr_rfl (by unfold sG; omega)) (by unfold sG; omega)), hN.fr (Fr_u2 (Fr_u2 Fr_rfl (by unfold sN; omega)) (by unfold sN; omega)), ?_, ?_, ?_, ?_, hT.fr (Fr_u2 (Fr_u2 Fr_rfl (by unfold sT; omega)) (by unfold sT; omega)), hU.fr (Fr_u2 (Fr_u2 Fr_rfl (by unfold sU; omega)) (by unfold sU; omega)), hJ.fr (Fr_u2 (Fr_u2 Fr_rfl (by unfold sJ; omega)) (by unfold sJ; omega)), hM.fr (Fr_u2 (Fr_u2 Fr_rfl (by unfold sM; omega)) (by unfold sM; omega)), hL.fr (Fr_u2 (Fr_u2 Fr_rfl (by unfold sLo; omega)) (by unfold sLo; omega)), hO.fr (Fr_u2 (Fr_u2 Fr_rfl (by unfold sO; omega)) (by unfold sO; omega)), hY.fr (Fr_u2 (Fr_u2 Fr_rfl (by unfold sY; omega)) (by unfold sY; omega)), hP.fr Fr_rfl⟩
        · intro t ht
          have g := hF t ht
          by_cases e : t = s
          · subst e; simp [u2, ne88, ne88']; simp [g]
          · simp [u2, ne88, ne88', e]; simp [g]
        · intro t ht
          have g := hV t ht
          by_cases e : t = s
          · subst e
            obtain ⟨g1, g2, g3, g4⟩ := g
            have q : ∀ p, p ≠ 68 → p < 88 → u2 (u2 i (88 + t) 8 (bI v)) 68 t (bI v) p t = i p t := fun p hp hp2 => by rw [u2_p _ _ hp, u2_p _ _ (by omega)]
            rw [u2_s, q 60 (by omega) (by omega), q 69 (by omega) (by omega), q 63 (by omega) (by omega), q 64 (by omega) (by omega), q 66 (by omega) (by omega)]
            exact ⟨g1, by cases v <;> simp [bI], g3, g4⟩
          · simp [u2, ne88, ne88', e]; simpa using g
        · intro t ht
          have g := hA t ht
          simpa [u2, ne88, ne88'] using g
        · intro t h1 h2
          obtain ⟨x1, x2, x3⟩ := hX t h1 h2
          have e : t ≠ s := by omega
          simp [u2, ne88, ne88', e]
          exact ⟨x1, x2, x3⟩
      · refine ⟨-3, mkS n z L i l, n, i, l, ?_, ?_, ⟨_, _, rfl, by repeat first | exact Fr_rfl | refine Fr_u2 ?_ (by unfold sQ; omega)⟩, h⟩
        · simp only [f_X10_bring, mI, mL, mZ, msI, msL, mN1020, gC1, mR1_0, mR1_1, mR1_2, mR1_3, mR1_4, mR1_5, mR1_6, mR1_7, mR1_8, gC2, mR2_6, mR2_7, gC3, mN3, gC4, mN4, gC5, mR5_0, mR5_1, gC6, mN6, gC7, mR7_0, mR7_1, gC8, mR8_0, gC9, mN9, gC10, mR10_0, gC11, mN11, mR11_0, mR11_1, mR11_2, mR11_3, mR11_4, mR11_5, gC12, mR12_0, mR12_1, gC13, mN13, gC14, mN14, gC15, mR15_0, mR15_1, gC16, mN16, gC17, mN17, gC18, mR18_0, mR18_1, gC19, mN19, gC20, mN20, gC21, mR21_0, mR21_1, gC22, mN22, gC23, mN23, gC24, mR24_0, mR24_1, gC25, mN25, gC26, mN26, gC27, mR27_0, mR27_1, gC28, mN28, gC29, mN29, gC30, mR30_0, gC31, mN31, mR31_0, mR31_1, mR31_2, mR31_3, mR31_4, mR31_5, gC32, mR32_0, mR32_1, gC33, mN33, gC34, mN34, gC35, mR35_0, mR35_1, gC36, mN36, gC37, mN37, gC38, mR38_0, mR38_1, gC39, mN39, gC40, mN40, gC41, mR41_0, mR41_1, gC42, mN42, gC43, mN43, gC44, mR44_0, mR44_1, gC45, mN45, gC46, mN46, gC47, mR47_0, mR47_1, gC48, mN48, gC49, mN49, gC50, mR50_0, mR50_1, mR50_2, mR50_3, gC51, mN51, gC52, mN52, gC53, mN53, gC54, mN54, gC55, gC56, gC57, mR57_2, mR57_3, mR57_6, mR57_7, mR57_8, mR57_9, mR57_10, mR57_11, mR57_12, mR57_13, mR57_14, mR57_15, mR57_16, mR57_18, mR57_19, mR57_20, mR57_21, mR57_22, mR57_23, mR57_25, mR57_26, mR57_27, mR57_28, mR57_37, mR57_40, mR57_41, mR57_43, mR57_44, mR57_48, mR57_49, gC58, mN58, gC59, mN59, gC60, mN60, gC61, mN61, gC62, mN62, gC63, mN63, gC64, mN64, gC65, mN65, gC66, mN66, gC67, mN67, gC68, mN68, gC69, mN69, gC70, mN70, gC71, mN71, gC72, mN72, gC73, mN73, gC74, mN74, gC75, mN75, gC76, mN76, gC77, mN77, gC78, mN78, gC79, mN79, gC80, mN80, gC81, mN81, gC82, mN82, gC83, mN83, gC84, mN84, gC85, mN85, gC86, mN86, gC87, mN87, find_t hN hs, bdS, gCS hs, X6_isLaid_E hs, if_b, f.2.2.2.2.2.2.1, f.2.2.2.2.2.2.2.1, if_neg e2]
          rw [gd_t (by omega), if_neg (by omega), if_pos e1]
        · simp only [f_X11_bring, mI, mL, mZ, msI, msL, mN1020, gC1, mR1_0, mR1_1, mR1_2, mR1_3, mR1_4, mR1_5, mR1_6, mR1_7, mR1_8, gC2, mR2_6, mR2_7, gC3, mN3, gC4, mN4, gC5, mR5_0, mR5_1, gC6, mN6, gC7, mR7_0, mR7_1, gC8, mR8_0, gC9, mN9, gC10, mR10_0, gC11, mN11, mR11_0, mR11_1, mR11_2, mR11_3, mR11_4, mR11_5, gC12, mR12_0, mR12_1, gC13, mN13, gC14, mN14, gC15, mR15_0, mR15_1, gC16, mN16, gC17, mN17, gC18, mR18_0, mR18_1, gC19, mN19, gC20, mN20, gC21, mR21_0, mR21_1, gC22, mN22, gC23, mN23, gC24, mR24_0, mR24_1, gC25, mN25, gC26, mN26, gC27, mR27_0, mR27_1, gC28, mN28, gC29, mN29, gC30, mR30_0, gC31, mN31, mR31_0, mR31_1, mR31_2, mR31_3, mR31_4, mR31_5, gC32, mR32_0, mR32_1, gC33, mN33, gC34, mN34, gC35, mR35_0, mR35_1, gC36, mN36, gC37, mN37, gC38, mR38_0, mR38_1, gC39, mN39, gC40, mN40, gC41, mR41_0, mR41_1, gC42, mN42, gC43, mN43, gC44, mR44_0, mR44_1, gC45, mN45, gC46, mN46, gC47, mR47_0, mR47_1, gC48, mN48, gC49, mN49, gC50, mR50_0, mR50_1, mR50_2, mR50_3, gC51, mN51, gC52, mN52, gC53, mN53, gC54, mN54, gC55, gC56, gC57, mR57_2, mR57_3, mR57_6, mR57_7, mR57_8, mR57_9, mR57_10, mR57_11, mR57_12, mR57_13, mR57_14, mR57_15, mR57_16, mR57_18, mR57_19, mR57_20, mR57_21, mR57_22, mR57_23, mR57_25, mR57_26, mR57_27, mR57_28, mR57_37, mR57_40, mR57_41, mR57_43, mR57_44, mR57_48, mR57_49, gC58, mN58, gC59, mN59, gC60, mN60, gC61, mN61, gC62, mN62, gC63, mN63, gC64, mN64, gC65, mN65, gC66, mN66, gC67, mN67, gC68, mN68, gC69, mN69, gC70, mN70, gC71, mN71, gC72, mN72, gC73, mN73, gC74, mN74, gC75, mN75, gC76, mN76, gC77, mN77, gC78, mN78, gC79, mN79, gC80, mN80, gC81, mN81, gC82, mN82, gC83, mN83, gC84, mN84, gC85, mN85, gC86, mN86, gC87, mN87, isLaid_E hN hs, bdS, if_b, gI (show s < 9 by omega) (show 9 < 2 ^ 31 by omega), nI_clamp (show s < 2 ^ 31 by omega), if_neg e2]
          rw [if_pos e1]
  · refine ⟨-1, mkS n z L i l, n, i, l, ?_, ?_, ⟨_, _, rfl, by repeat first | exact Fr_rfl | refine Fr_u2 ?_ (by unfold sQ; omega)⟩, h⟩
    · simp only [f_X10_bring, mI, mL, mZ, msI, msL, mN1020, gC1, mR1_0, mR1_1, mR1_2, mR1_3, mR1_4, mR1_5, mR1_6, mR1_7, mR1_8, gC2, mR2_6, mR2_7, gC3, mN3, gC4, mN4, gC5, mR5_0, mR5_1, gC6, mN6, gC7, mR7_0, mR7_1, gC8, mR8_0, gC9, mN9, gC10, mR10_0, gC11, mN11, mR11_0, mR11_1, mR11_2, mR11_3, mR11_4, mR11_5, gC12, mR12_0, mR12_1, gC13, mN13, gC14, mN14, gC15, mR15_0, mR15_1, gC16, mN16, gC17, mN17, gC18, mR18_0, mR18_1, gC19, mN19, gC20, mN20, gC21, mR21_0, mR21_1, gC22, mN22, gC23, mN23, gC24, mR24_0, mR24_1, gC25, mN25, gC26, mN26, gC27, mR27_0, mR27_1, gC28, mN28, gC29, mN29, gC30, mR30_0, gC31, mN31, mR31_0, mR31_1, mR31_2, mR31_3, mR31_4, mR31_5, gC32, mR32_0, mR32_1, gC33, mN33, gC34, mN34, gC35, mR35_0, mR35_1, gC36, mN36, gC37, mN37, gC38, mR38_0, mR38_1, gC39, mN39, gC40, mN40, gC41, mR41_0, mR41_1, gC42, mN42, gC43, mN43, gC44, mR44_0, mR44_1, gC45, mN45, gC46, mN46, gC47, mR47_0, mR47_1, gC48, mN48, gC49, mN49, gC50, mR50_0, mR50_1, mR50_2, mR50_3, gC51, mN51, gC52, mN52, gC53, mN53, gC54, mN54, gC55, gC56, gC57, mR57_2, mR57_3, mR57_6, mR57_7, mR57_8, mR57_9, mR57_10, mR57_11, mR57_12, mR57_13, mR57_14, mR57_15, mR57_16, mR57_18, mR57_19, mR57_20, mR57_21, mR57_22, mR57_23, mR57_25, mR57_26, mR57_27, mR57_28, mR57_37, mR57_40, mR57_41, mR57_43, mR57_44, mR57_48, mR57_49, gC58, mN58, gC59, mN59, gC60, mN60, gC61, mN61, gC62, mN62, gC63, mN63, gC64, mN64, gC65, mN65, gC66, mN66, gC67, mN67, gC68, mN68, gC69, mN69, gC70, mN70, gC71, mN71, gC72, mN72, gC73, mN73, gC74, mN74, gC75, mN75, gC76, mN76, gC77, mN77, gC78, mN78, gC79, mN79, gC80, mN80, gC81, mN81, gC82, mN82, gC83, mN83, gC84, mN84, gC85, mN85, gC86, mN86, gC87, mN87, find_f hN hx, bdS]
      rw [gd_t (by omega), if_pos trivial]
    · simp only [f_X11_bring, mI, mL, mZ, msI, msL, mN1020, gC1, mR1_0, mR1_1, mR1_2, mR1_3, mR1_4, mR1_5, mR1_6, mR1_7, mR1_8, gC2, mR2_6, mR2_7, gC3, mN3, gC4, mN4, gC5, mR5_0, mR5_1, gC6, mN6, gC7, mR7_0, mR7_1, gC8, mR8_0, gC9, mN9, gC10, mR10_0, gC11, mN11, mR11_0, mR11_1, mR11_2, mR11_3, mR11_4, mR11_5, gC12, mR12_0, mR12_1, gC13, mN13, gC14, mN14, gC15, mR15_0, mR15_1, gC16, mN16, gC17, mN17, gC18, mR18_0, mR18_1, gC19, mN19, gC20, mN20, gC21, mR21_0, mR21_1, gC22, mN22, gC23, mN23, gC24, mR24_0, mR24_1, gC25, mN25, gC26, mN26, gC27, mR27_0, mR27_1, gC28, mN28, gC29, mN29, gC30, mR30_0, gC31, mN31, mR31_0, mR31_1, mR31_2, mR31_3, mR31_4, mR31_5, gC32, mR32_0, mR32_1, gC33, mN33, gC34, mN34, gC35, mR35_0, mR35_1, gC36, mN36, gC37, mN37, gC38, mR38_0, mR38_1, gC39, mN39, gC40, mN40, gC41, mR41_0, mR41_1, gC42, mN42, gC43, mN43, gC44, mR44_0, mR44_1, gC45, mN45, gC46, mN46, gC47, mR47_0, mR47_1, gC48, mN48, gC49, mN49, gC50, mR50_0, mR50_1, mR50_2, mR50_3, gC51, mN51, gC52, mN52, gC53, mN53, gC54, mN54, gC55, gC56, gC57, mR57_2, mR57_3, mR57_6, mR57_7, mR57_8, mR57_9, mR57_10, mR57_11, mR57_12, mR57_13, mR57_14, mR57_15, mR57_16, mR57_18, mR57_19, mR57_20, mR57_21, mR57_22, mR57_23, mR57_25, mR57_26, mR57_27, mR57_28, mR57_37, mR57_40, mR57_41, mR57_43, mR57_44, mR57_48, mR57_49, gC58, mN58, gC59, mN59, gC60, mN60, gC61, mN61, gC62, mN62, gC63, mN63, gC64, mN64, gC65, mN65, gC66, mN66, gC67, mN67, gC68, mN68, gC69, mN69, gC70, mN70, gC71, mN71, gC72, mN72, gC73, mN73, gC74, mN74, gC75, mN75, gC76, mN76, gC77, mN77, gC78, mN78, gC79, mN79, gC80, mN80, gC81, mN81, gC82, mN82, gC83, mN83, gC84, mN84, gC85, mN85, gC86, mN86, gC87, mN87, isLaid_f hN hx, bdS]
      rw [if_pos trivial]
end BRING
