section ROW
variable {C R n z L : Nat} {i : fI} {l : fL}
theorem u2_u2 {α : Type} (f : Nat → Nat → α) (p k : Nat) (a b : α) : u2 (u2 f p k a) p k b = u2 f p k b := by
  funext q j
  unfold u2
  by_cases e : q = p ∧ j = k
  · rw [if_pos e, if_pos e]
  · rw [if_neg e, if_neg e, if_neg e]
theorem u2_id {α : Type} {f : Nat → Nat → α} {p k : Nat} {a : α} (h : f p k = a) : u2 f p k a = f := by
  funext q j
  unfold u2
  by_cases e : q = p ∧ j = k
  · rw [if_pos e, e.1, e.2, h]
  · rw [if_neg e]
theorem sub_le {a b : Nat} (h : subN a b) : a ≤ b := by
  have : a &&& b = a := bit_ext (fun t => by
    rw [Nat.testBit_and]
    cases e : a.testBit t with
    | false => rfl
    | true => rw [h t e]; rfl)
  rw [← this]
  exact Nat.and_le_right
theorem or_gt {M s : Nat} (h : M.testBit s = false) : M < M ||| 2 ^ s := by
  have h1 : M ≤ M ||| 2 ^ s := Nat.left_le_or
  have h2 : M ≠ M ||| 2 ^ s := fun e => by
    have : (M ||| 2 ^ s).testBit s = true := by rw [fb_bit_set]; simp
    rw [← e, h] at this
    exact absurd this (by decide)
  omega
theorem dif_sub {M A : Nat} (hM : M < 512) : dif M A = 0 ↔ subN M A := by
  constructor
  · intro h t ht
    have : (dif M A).testBit t = false := by rw [h, Nat.zero_testBit]
    rw [dif_b hM, ht, Bool.true_and] at this
    simpa using this
  · intro h
    refine bit_ext (fun t => ?_)
    rw [dif_b hM, Nat.zero_testBit]
    cases e : M.testBit t with
    | false => rfl
    | true => rw [h t e]; rfl
/-- the tables of the reference, from set j on -/
def JT (C n z : Nat) (i : fI) (j : Nat) (i1 : fI) : Prop := Fr sZ i i1 ∧ ∀ M, j ≤ M → M ≤ laM i n → subN M (laM i n) → i1 85 M = bI (fbB (rsB C n z i) n (laM i n) M) ∧ (M ≠ laM i n → i1 84 M = nI (setN (rsB C n z i M) n))
theorem b125_E {i1 : fI} {M s : Nat} (k40 : Nat → Int32 → Int32 → Int32 → xSt → Option (Int32 × xSt)) (k87 : Nat → Int32 → Int32 → Int32 → Int32 → xSt → Option (Int32 × xSt)) (x y : Int32) (hM : M < 512) (hs : s < 9) (a b f : Bool) (hb : b = true → M.testBit s = false ∧ i1 85 (M ||| 2 ^ s) = bI f) : f_X11_row_b125 k40 k87 57 x y (nI M) (nI s) (bI b) (mkS n z L (u2 i1 85 M (bI a)) l) = k87 57 x y (nI M) (nI (s + 1)) (mkS n z L (u2 i1 85 M (bI (a || (b && f)))) l) := by
  have ho := or_lt hM hs
  simp only [f_X11_row_b125, mI, mL, mZ, msI, msL, mN1020, gC1, mR1_0, mR1_1, mR1_2, mR1_3, mR1_4, mR1_5, mR1_6, mR1_7, mR1_8, gC2, mR2_6, mR2_7, gC3, mN3, gC4, mN4, gC5, mR5_0, mR5_1, gC6, mN6, gC7, mR7_0, mR7_1, gC8, mR8_0, gC9, mN9, gC10, mR10_0, gC11, mN11, mR11_0, mR11_1, mR11_2, mR11_3, mR11_4, mR11_5, gC12, mR12_0, mR12_1, gC13, mN13, gC14, mN14, gC15, mR15_0, mR15_1, gC16, mN16, gC17, mN17, gC18, mR18_0, mR18_1, gC19, mN19, gC20, mN20, gC21, mR21_0, mR21_1, gC22, mN22, gC23, mN23, gC24, mR24_0, mR24_1, gC25, mN25, gC26, mN26, gC27, mR27_0, mR27_1, gC28, mN28, gC29, mN29, gC30, mR30_0, gC31, mN31, mR31_0, mR31_1, mR31_2, mR31_3, mR31_4, mR31_5, gC32, mR32_0, mR32_1, gC33, mN33, gC34, mN34, gC35, mR35_0, mR35_1, gC36, mN36, gC37, mN37, gC38, mR38_0, mR38_1, gC39, mN39, gC40, mN40, gC41, mR41_0, mR41_1, gC42, mN42, gC43, mN43, gC44, mR44_0, mR44_1, gC45, mN45, gC46, mN46, gC47, mR47_0, mR47_1, gC48, mN48, gC49, mN49, gC50, mR50_0, mR50_1, mR50_2, mR50_3, gC51, mN51, gC52, mN52, gC53, mN53, gC54, mN54, gC55, gC56, gC57, mR57_2, mR57_3, mR57_6, mR57_7, mR57_8, mR57_9, mR57_10, mR57_11, mR57_12, mR57_13, mR57_14, mR57_15, mR57_16, mR57_18, mR57_19, mR57_20, mR57_21, mR57_22, mR57_23, mR57_25, mR57_26, mR57_27, mR57_28, mR57_37, mR57_40, mR57_41, mR57_43, mR57_44, mR57_48, mR57_49, gC58, mN58, gC59, mN59, gC60, mN60, gC61, mN61, gC62, mN62, gC63, mN63, gC64, mN64, gC65, mN65, gC66, mN66, gC67, mN67, gC68, mN68, gC69, mN69, gC70, mN70, gC71, mN71, gC72, mN72, gC73, mN73, gC74, mN74, gC75, mN75, gC76, mN76, gC77, mN77, gC78, mN78, gC79, mN79, gC80, mN80, gC81, mN81, gC82, mN82, gC83, mN83, gC84, mN84, gC85, mN85, gC86, mN86, gC87, mN87, nI_clamp (show M < 2 ^ 31 by omega), gI hM (show 512 < 2 ^ 31 by omega), u2_s, sh1_E hs, fa_or, nI_clamp (show M ||| 2 ^ s < 2 ^ 31 by omega), gI ho (show 512 < 2 ^ 31 by omega), nar0, nar1, lt1E, u2_u2, nI_1, bI_if]
  cases a with
  | true => rfl
  | false =>
    cases b with
    | false => rfl
    | true =>
      obtain ⟨h1, h2⟩ := hb rfl
      have hg := or_gt h1
      rw [if_neg (by decide), if_pos rfl, u2_k _ _ (show M ||| 2 ^ s ≠ M by omega), h2, bI_if]
      cases f <;> rfl
theorem l87_E {i1 : fI} {M : Nat} (hN : RelN n i1) (hM : M < 512) (h84 : i1 84 M = nI (setN (rsB C n z i M) n)) (h85 : ∀ s, s < n → M.testBit s = false → rsB C n z i M s = true → i1 85 (M ||| 2 ^ s) = bI (fbB (rsB C n z i) n (laM i n) (M ||| 2 ^ s))) (k40 : Nat → Int32 → Int32 → Int32 → xSt → Option (Int32 × xSt)) (x y : Int32) : f_X11_row_l87 k40 xFu 57 x y (nI M) (nI 0) (mkS n z L (u2 i1 85 M (bI (exB (npB C n z i M) 0))) l) = k40 57 x y (nI M + (-1)) (mkS n z L (u2 i1 85 M (bI (exB (npB C n z i M) n))) l) := by
  have h9 := hN.1
  have hN2 : ∀ b, RelN n (u2 i1 85 M b) := fun b => hN.fr (Fr_u2 Fr_rfl (by unfold sN; omega))
  refine acc_loopG (fun m a q => f_X11_row_l87 k40 m 57 x y (nI M) a q) (fun s => nI s) (fun s => mkS n z L (u2 i1 85 M (bI (exB (npB C n z i M) s))) l) n _ ?_ ?_ n 0 xFu (by omega) (by unfold xFu; omega)
  · intro m
    show f_X11_row_l87 k40 (m + 1) 57 x y (nI M) (nI n) _ = _
    rw [f_X11_row_l87_s]
    simp only [mI, mL, mZ, msI, msL, mN1020, gC1, mR1_0, mR1_1, mR1_2, mR1_3, mR1_4, mR1_5, mR1_6, mR1_7, mR1_8, gC2, mR2_6, mR2_7, gC3, mN3, gC4, mN4, gC5, mR5_0, mR5_1, gC6, mN6, gC7, mR7_0, mR7_1, gC8, mR8_0, gC9, mN9, gC10, mR10_0, gC11, mN11, mR11_0, mR11_1, mR11_2, mR11_3, mR11_4, mR11_5, gC12, mR12_0, mR12_1, gC13, mN13, gC14, mN14, gC15, mR15_0, mR15_1, gC16, mN16, gC17, mN17, gC18, mR18_0, mR18_1, gC19, mN19, gC20, mN20, gC21, mR21_0, mR21_1, gC22, mN22, gC23, mN23, gC24, mR24_0, mR24_1, gC25, mN25, gC26, mN26, gC27, mR27_0, mR27_1, gC28, mN28, gC29, mN29, gC30, mR30_0, gC31, mN31, mR31_0, mR31_1, mR31_2, mR31_3, mR31_4, mR31_5, gC32, mR32_0, mR32_1, gC33, mN33, gC34, mN34, gC35, mR35_0, mR35_1, gC36, mN36, gC37, mN37, gC38, mR38_0, mR38_1, gC39, mN39, gC40, mN40, gC41, mR41_0, mR41_1, gC42, mN42, gC43, mN43, gC44, mR44_0, mR44_1, gC45, mN45, gC46, mN46, gC47, mR47_0, mR47_1, gC48, mN48, gC49, mN49, gC50, mR50_0, mR50_1, mR50_2, mR50_3, gC51, mN51, gC52, mN52, gC53, mN53, gC54, mN54, gC55, gC56, gC57, mR57_2, mR57_3, mR57_6, mR57_7, mR57_8, mR57_9, mR57_10, mR57_11, mR57_12, mR57_13, mR57_14, mR57_15, mR57_16, mR57_18, mR57_19, mR57_20, mR57_21, mR57_22, mR57_23, mR57_25, mR57_26, mR57_27, mR57_28, mR57_37, mR57_40, mR57_41, mR57_43, mR57_44, mR57_48, mR57_49, gC58, mN58, gC59, mN59, gC60, mN60, gC61, mN61, gC62, mN62, gC63, mN63, gC64, mN64, gC65, mN65, gC66, mN66, gC67, mN67, gC68, mN68, gC69, mN69, gC70, mN70, gC71, mN71, gC72, mN72, gC73, mN73, gC74, mN74, gC75, mN75, gC76, mN76, gC77, mN77, gC78, mN78, gC79, mN79, gC80, mN80, gC81, mN81, gC82, mN82, gC83, mN83, gC84, mN84, gC85, mN85, gC86, mN86, gC87, mN87, (hN2 _).2.2]
    rw [if_pos (Int32.le_refl _)]
  · intro m s hs
    show f_X11_row_l87 k40 (m + 1) 57 x y (nI M) (nI s) _ = f_X11_row_l87 k40 m 57 x y (nI M) (nI (s + 1)) _
    have h85s := h85 s hs
    have e84 : ∀ b, u2 i1 85 M b 84 M = nI (setN (rsB C n z i M) n) := fun b => by rw [u2_p _ _ (by decide)]; exact h84
    have go : ∀ b : Bool, (b = true → M.testBit s = false ∧ rsB C n z i M s = true) → f_X11_row_b125 k40 (f_X11_row_l87 k40 m) 57 x y (nI M) (nI s) (bI b) (mkS n z L (u2 i1 85 M (bI (exB (npB C n z i M) s))) l) = f_X11_row_l87 k40 m 57 x y (nI M) (nI (s + 1)) (mkS n z L (u2 i1 85 M (bI (exB (npB C n z i M) s || (b && fbB (rsB C n z i) n (laM i n) (M ||| 2 ^ s))))) l) := fun b hb => b125_E k40 _ x y hM (by omega) _ b _ (fun hb2 => ⟨(hb hb2).1, h85s (hb hb2).1 (hb hb2).2⟩)
    have g1 := go true
    have g0 := go false (fun r => absurd r (by decide))
    rw [show bI true = 1 from rfl] at g1
    rw [show bI false = 0 from rfl] at g0
    rw [f_X11_row_l87_s]
    simp only [mI, mL, mZ, msI, msL, mN1020, gC1, mR1_0, mR1_1, mR1_2, mR1_3, mR1_4, mR1_5, mR1_6, mR1_7, mR1_8, gC2, mR2_6, mR2_7, gC3, mN3, gC4, mN4, gC5, mR5_0, mR5_1, gC6, mN6, gC7, mR7_0, mR7_1, gC8, mR8_0, gC9, mN9, gC10, mR10_0, gC11, mN11, mR11_0, mR11_1, mR11_2, mR11_3, mR11_4, mR11_5, gC12, mR12_0, mR12_1, gC13, mN13, gC14, mN14, gC15, mR15_0, mR15_1, gC16, mN16, gC17, mN17, gC18, mR18_0, mR18_1, gC19, mN19, gC20, mN20, gC21, mR21_0, mR21_1, gC22, mN22, gC23, mN23, gC24, mR24_0, mR24_1, gC25, mN25, gC26, mN26, gC27, mR27_0, mR27_1, gC28, mN28, gC29, mN29, gC30, mR30_0, gC31, mN31, mR31_0, mR31_1, mR31_2, mR31_3, mR31_4, mR31_5, gC32, mR32_0, mR32_1, gC33, mN33, gC34, mN34, gC35, mR35_0, mR35_1, gC36, mN36, gC37, mN37, gC38, mR38_0, mR38_1, gC39, mN39, gC40, mN40, gC41, mR41_0, mR41_1, gC42, mN42, gC43, mN43, gC44, mR44_0, mR44_1, gC45, mN45, gC46, mN46, gC47, mR47_0, mR47_1, gC48, mN48, gC49, mN49, gC50, mR50_0, mR50_1, mR50_2, mR50_3, gC51, mN51, gC52, mN52, gC53, mN53, gC54, mN54, gC55, gC56, gC57, mR57_2, mR57_3, mR57_6, mR57_7, mR57_8, mR57_9, mR57_10, mR57_11, mR57_12, mR57_13, mR57_14, mR57_15, mR57_16, mR57_18, mR57_19, mR57_20, mR57_21, mR57_22, mR57_23, mR57_25, mR57_26, mR57_27, mR57_28, mR57_37, mR57_40, mR57_41, mR57_43, mR57_44, mR57_48, mR57_49, gC58, mN58, gC59, mN59, gC60, mN60, gC61, mN61, gC62, mN62, gC63, mN63, gC64, mN64, gC65, mN65, gC66, mN66, gC67, mN67, gC68, mN68, gC69, mN69, gC70, mN70, gC71, mN71, gC72, mN72, gC73, mN73, gC74, mN74, gC75, mN75, gC76, mN76, gC77, mN77, gC78, mN78, gC79, mN79, gC80, mN80, gC81, mN81, gC82, mN82, gC83, mN83, gC84, mN84, gC85, mN85, gC86, mN86, gC87, mN87, (hN2 _).2.2, shr_b hM (show s < 9 by omega), nI_clamp (show M < 2 ^ 31 by omega), gI hM (show 512 < 2 ^ 31 by omega), e84, shr_b (setN_512 (rsB C n z i M) h9) (show s < 9 by omega), setN_b, bI_e0, bI_e1]
    rw [if_neg (nI_ge hs (by omega)), decide_eq_true hs, Bool.true_and, exB_succ]
    have en : npB C n z i M s = ((!M.testBit s && rsB C n z i M s) && fbB (rsB C n z i) n (laM i n) (M ||| 2 ^ s)) := rfl
    rw [en, g0]
    by_cases e1 : M.testBit s = false
    · rw [if_pos e1]
      by_cases e2 : rsB C n z i M s = true
      · rw [if_pos e2, g1 (fun _ => ⟨e1, e2⟩), e1, e2]
        rfl
      · rw [if_neg e2, show rsB C n z i M s = false by simpa using e2, Bool.and_false]
    · rw [if_neg e1, show M.testBit s = true by simpa using e1]
      rfl
theorem JT_up {j : Nat} {i1 i2 : fI} (h : JT C n z i (j + 1) i1) (f : Fr sZ i1 i2) (ho : ∀ p k, (p = 84 ∨ p = 85) → k ≠ j → i2 p k = i1 p k) (hj : j ≤ laM i n → subN j (laM i n) → i2 85 j = bI (fbB (rsB C n z i) n (laM i n) j) ∧ (j ≠ laM i n → i2 84 j = nI (setN (rsB C n z i j) n))) : JT C n z i j i2 := by
  refine ⟨Fr_trans h.1 f, fun M h1 h2 h3 => ?_⟩
  by_cases e : M = j
  · subst e; exact hj h2 h3
  · rw [ho 85 M (Or.inr rfl) e, ho 84 M (Or.inl rfl) e]
    exact h.2 M (by omega) h2 h3
theorem l40_s (h : RS C R n z i l) {j : Nat} {i1 : fI} (hj : j ≤ laM i n) (hJ : JT C n z i (j + 1) i1) (x : Int32) (m : Nat) : ∃ i2, f_X11_row_l40 (m + 1) 57 x (nI (laM i n)) (nI j) (mkS n z L i1 l) = f_X11_row_l40 m 57 x (nI (laM i n)) (nI j + (-1)) (mkS n z L i2 l) ∧ JT C n z i j i2 := by
  have h9 := h.2.2.1.1
  have hA5 := laM_512 (i := i) h9
  have hj5 : j < 512 := by omega
  rw [f_X11_row_l40_s, if_neg (nI_pos (by omega))]
  by_cases e : j = laM i n
  · refine ⟨u2 i1 85 j 1, ?_, JT_up hJ (Fr_u2 Fr_rfl (by unfold sZ; omega)) (fun p k hp hk => by rw [u2_k _ _ hk]) (fun _ _ => ⟨?_, fun r => absurd e r⟩)⟩
    · have d0 : dif j (laM i n) = 0 := (dif_sub hj5).mpr (fun t ht => by rw [← e]; exact ht)
      simp only [mI, mL, mZ, msI, msL, mN1020, gC1, mR1_0, mR1_1, mR1_2, mR1_3, mR1_4, mR1_5, mR1_6, mR1_7, mR1_8, gC2, mR2_6, mR2_7, gC3, mN3, gC4, mN4, gC5, mR5_0, mR5_1, gC6, mN6, gC7, mR7_0, mR7_1, gC8, mR8_0, gC9, mN9, gC10, mR10_0, gC11, mN11, mR11_0, mR11_1, mR11_2, mR11_3, mR11_4, mR11_5, gC12, mR12_0, mR12_1, gC13, mN13, gC14, mN14, gC15, mR15_0, mR15_1, gC16, mN16, gC17, mN17, gC18, mR18_0, mR18_1, gC19, mN19, gC20, mN20, gC21, mR21_0, mR21_1, gC22, mN22, gC23, mN23, gC24, mR24_0, mR24_1, gC25, mN25, gC26, mN26, gC27, mR27_0, mR27_1, gC28, mN28, gC29, mN29, gC30, mR30_0, gC31, mN31, mR31_0, mR31_1, mR31_2, mR31_3, mR31_4, mR31_5, gC32, mR32_0, mR32_1, gC33, mN33, gC34, mN34, gC35, mR35_0, mR35_1, gC36, mN36, gC37, mN37, gC38, mR38_0, mR38_1, gC39, mN39, gC40, mN40, gC41, mR41_0, mR41_1, gC42, mN42, gC43, mN43, gC44, mR44_0, mR44_1, gC45, mN45, gC46, mN46, gC47, mR47_0, mR47_1, gC48, mN48, gC49, mN49, gC50, mR50_0, mR50_1, mR50_2, mR50_3, gC51, mN51, gC52, mN52, gC53, mN53, gC54, mN54, gC55, gC56, gC57, mR57_2, mR57_3, mR57_6, mR57_7, mR57_8, mR57_9, mR57_10, mR57_11, mR57_12, mR57_13, mR57_14, mR57_15, mR57_16, mR57_18, mR57_19, mR57_20, mR57_21, mR57_22, mR57_23, mR57_25, mR57_26, mR57_27, mR57_28, mR57_37, mR57_40, mR57_41, mR57_43, mR57_44, mR57_48, mR57_49, gC58, mN58, gC59, mN59, gC60, mN60, gC61, mN61, gC62, mN62, gC63, mN63, gC64, mN64, gC65, mN65, gC66, mN66, gC67, mN67, gC68, mN68, gC69, mN69, gC70, mN70, gC71, mN71, gC72, mN72, gC73, mN73, gC74, mN74, gC75, mN75, gC76, mN76, gC77, mN77, gC78, mN78, gC79, mN79, gC80, mN80, gC81, mN81, gC82, mN82, gC83, mN83, gC84, mN84, gC85, mN85, gC86, mN86, gC87, mN87, f_X11_row_b59, nI_dif hj5, d0, nI_clamp (show j < 2 ^ 31 by omega), gI hj5 (show 512 < 2 ^ 31 by omega), nar1, nar0, lt1E]
      rw [if_pos (by rw [e]), if_pos (by rfl), if_pos (by rw [e])]
    · rw [u2_s, fbB_iff.mpr (by rw [← e]; exact FB_self j)]
      rfl
  · have ne : ¬ nI j = nI (laM i n) := fun r => e ((nI_eq (by omega) (by omega)).mp r)
    by_cases hs : subN j (laM i n)
    · have d0 : dif j (laM i n) = 0 := (dif_sub hj5).mpr hs
      have f1 : Fr sZ i (u2 i1 85 j 0) := Fr_u2 hJ.1 (by unfold sZ; omega)
      have rs1 : RS C R n z (u2 i1 85 j 0) l := by
        obtain ⟨hD, hK, hN, hV, hA, hP⟩ := id h
        exact ⟨hD.fr (Fr_sub f1 (fun p k q => by unfold sD at q; unfold sZ; omega)), hK.fr (Fr_sub f1 (fun p k q => by unfold sK at q; unfold sZ; omega)) Fr_rfl, hN.fr (Fr_sub f1 (fun p k q => by unfold sN at q; unfold sZ; omega)), hV.fr (Fr_sub f1 (fun p k q => by unfold sVv at q; unfold sZ; omega)), hA.fr (Fr_sub f1 (fun p k q => by unfold sVv at q; unfold sZ; omega)) Fr_rfl, hP⟩
      obtain ⟨i3, a1, a2⟩ := comeTo_E (L := L) rs1 hj5
      rw [rsB_fr (sZ_Rd f1)] at a1
      have e85 : ∀ k, i3 85 k = u2 i1 85 j 0 85 k := fun k => a2 85 k (by unfold sW; omega)
      have e84 : ∀ k, i3 84 k = u2 i1 85 j 0 84 k := fun k => a2 84 k (by unfold sW; omega)
      have hN4 : RelN n (u2 i3 84 j (nI (setN (rsB C n z i j) n))) := rs1.2.2.1.fr (Fr_u2 (Fr_sub a2 (fun p k q => by unfold sN at q; unfold sW; omega)) (by unfold sN; omega))
      have run := l87_E (n := n) (z := z) (L := L) (l := l) (C := C) (i := i) (i1 := u2 i3 84 j (nI (setN (rsB C n z i j) n))) hN4 hj5 (u2_s _ _ _ _) (fun s hsn h1 h2 => by
        have hsub := sub_or hs (rsB_A hsn h2)
        have hgt := or_gt h1
        rw [u2_p _ _ (by decide), e85, u2_k _ _ (by omega)]
        exact (hJ.2 _ (by omega) (sub_le hsub) hsub).1) (f_X11_row_l40 m) x (nI (laM i n))
      have st : u2 (u2 i3 84 j (nI (setN (rsB C n z i j) n))) 85 j (bI (exB (npB C n z i j) 0)) = u2 i3 84 j (nI (setN (rsB C n z i j) n)) := u2_id (by
        rw [u2_p _ _ (by decide), e85, u2_s]
        rfl)
      rw [st] at run
      refine ⟨_, ?_, JT_up hJ (i2 := u2 (u2 i3 84 j (nI (setN (rsB C n z i j) n))) 85 j (bI (exB (npB C n z i j) n))) ?_ ?_ ?_⟩
      · rw [← run]
        simp only [mI, mL, mZ, msI, msL, mN1020, gC1, mR1_0, mR1_1, mR1_2, mR1_3, mR1_4, mR1_5, mR1_6, mR1_7, mR1_8, gC2, mR2_6, mR2_7, gC3, mN3, gC4, mN4, gC5, mR5_0, mR5_1, gC6, mN6, gC7, mR7_0, mR7_1, gC8, mR8_0, gC9, mN9, gC10, mR10_0, gC11, mN11, mR11_0, mR11_1, mR11_2, mR11_3, mR11_4, mR11_5, gC12, mR12_0, mR12_1, gC13, mN13, gC14, mN14, gC15, mR15_0, mR15_1, gC16, mN16, gC17, mN17, gC18, mR18_0, mR18_1, gC19, mN19, gC20, mN20, gC21, mR21_0, mR21_1, gC22, mN22, gC23, mN23, gC24, mR24_0, mR24_1, gC25, mN25, gC26, mN26, gC27, mR27_0, mR27_1, gC28, mN28, gC29, mN29, gC30, mR30_0, gC31, mN31, mR31_0, mR31_1, mR31_2, mR31_3, mR31_4, mR31_5, gC32, mR32_0, mR32_1, gC33, mN33, gC34, mN34, gC35, mR35_0, mR35_1, gC36, mN36, gC37, mN37, gC38, mR38_0, mR38_1, gC39, mN39, gC40, mN40, gC41, mR41_0, mR41_1, gC42, mN42, gC43, mN43, gC44, mR44_0, mR44_1, gC45, mN45, gC46, mN46, gC47, mR47_0, mR47_1, gC48, mN48, gC49, mN49, gC50, mR50_0, mR50_1, mR50_2, mR50_3, gC51, mN51, gC52, mN52, gC53, mN53, gC54, mN54, gC55, gC56, gC57, mR57_2, mR57_3, mR57_6, mR57_7, mR57_8, mR57_9, mR57_10, mR57_11, mR57_12, mR57_13, mR57_14, mR57_15, mR57_16, mR57_18, mR57_19, mR57_20, mR57_21, mR57_22, mR57_23, mR57_25, mR57_26, mR57_27, mR57_28, mR57_37, mR57_40, mR57_41, mR57_43, mR57_44, mR57_48, mR57_49, gC58, mN58, gC59, mN59, gC60, mN60, gC61, mN61, gC62, mN62, gC63, mN63, gC64, mN64, gC65, mN65, gC66, mN66, gC67, mN67, gC68, mN68, gC69, mN69, gC70, mN70, gC71, mN71, gC72, mN72, gC73, mN73, gC74, mN74, gC75, mN75, gC76, mN76, gC77, mN77, gC78, mN78, gC79, mN79, gC80, mN80, gC81, mN81, gC82, mN82, gC83, mN83, gC84, mN84, gC85, mN85, gC86, mN86, gC87, mN87, f_X11_row_b59, nI_dif hj5, d0, nI_clamp (show j < 2 ^ 31 by omega), gI hj5 (show 512 < 2 ^ 31 by omega), nar0, lt1E, if_neg ne, a1, bdS]
        rw [if_pos (by rfl)]
        rfl
      · exact Fr_u2 (Fr_u2 (Fr_trans (Fr_u2 Fr_rfl (by unfold sZ; omega)) (sW_Z a2)) (by unfold sZ; omega)) (by unfold sZ; omega)
      · intro p k hp hk
        rw [u2_k _ _ hk, u2_k _ _ hk]
        rcases hp with rfl | rfl
        · rw [e84, u2_k _ _ hk]
        · rw [e85, u2_k _ _ hk]
      · intro _ _
        refine ⟨?_, fun _ => ?_⟩
        · rw [u2_s, fbB_step e (fun s hs hr => rsB_A hs hr)]
          rfl
        · rw [u2_p _ _ (by decide), u2_s]
    · refine ⟨u2 i1 85 j 0, ?_, JT_up hJ (Fr_u2 Fr_rfl (by unfold sZ; omega)) (fun p k hp hk => by rw [u2_k _ _ hk]) (fun _ r => absurd r hs)⟩
      have d0 : ¬ dif j (laM i n) = 0 := fun r => hs ((dif_sub hj5).mp r)
      have dl := dif_lt hj5 (laM i n)
      simp only [mI, mL, mZ, msI, msL, mN1020, gC1, mR1_0, mR1_1, mR1_2, mR1_3, mR1_4, mR1_5, mR1_6, mR1_7, mR1_8, gC2, mR2_6, mR2_7, gC3, mN3, gC4, mN4, gC5, mR5_0, mR5_1, gC6, mN6, gC7, mR7_0, mR7_1, gC8, mR8_0, gC9, mN9, gC10, mR10_0, gC11, mN11, mR11_0, mR11_1, mR11_2, mR11_3, mR11_4, mR11_5, gC12, mR12_0, mR12_1, gC13, mN13, gC14, mN14, gC15, mR15_0, mR15_1, gC16, mN16, gC17, mN17, gC18, mR18_0, mR18_1, gC19, mN19, gC20, mN20, gC21, mR21_0, mR21_1, gC22, mN22, gC23, mN23, gC24, mR24_0, mR24_1, gC25, mN25, gC26, mN26, gC27, mR27_0, mR27_1, gC28, mN28, gC29, mN29, gC30, mR30_0, gC31, mN31, mR31_0, mR31_1, mR31_2, mR31_3, mR31_4, mR31_5, gC32, mR32_0, mR32_1, gC33, mN33, gC34, mN34, gC35, mR35_0, mR35_1, gC36, mN36, gC37, mN37, gC38, mR38_0, mR38_1, gC39, mN39, gC40, mN40, gC41, mR41_0, mR41_1, gC42, mN42, gC43, mN43, gC44, mR44_0, mR44_1, gC45, mN45, gC46, mN46, gC47, mR47_0, mR47_1, gC48, mN48, gC49, mN49, gC50, mR50_0, mR50_1, mR50_2, mR50_3, gC51, mN51, gC52, mN52, gC53, mN53, gC54, mN54, gC55, gC56, gC57, mR57_2, mR57_3, mR57_6, mR57_7, mR57_8, mR57_9, mR57_10, mR57_11, mR57_12, mR57_13, mR57_14, mR57_15, mR57_16, mR57_18, mR57_19, mR57_20, mR57_21, mR57_22, mR57_23, mR57_25, mR57_26, mR57_27, mR57_28, mR57_37, mR57_40, mR57_41, mR57_43, mR57_44, mR57_48, mR57_49, gC58, mN58, gC59, mN59, gC60, mN60, gC61, mN61, gC62, mN62, gC63, mN63, gC64, mN64, gC65, mN65, gC66, mN66, gC67, mN67, gC68, mN68, gC69, mN69, gC70, mN70, gC71, mN71, gC72, mN72, gC73, mN73, gC74, mN74, gC75, mN75, gC76, mN76, gC77, mN77, gC78, mN78, gC79, mN79, gC80, mN80, gC81, mN81, gC82, mN82, gC83, mN83, gC84, mN84, gC85, mN85, gC86, mN86, gC87, mN87, f_X11_row_b59, nI_dif hj5, nI_clamp (show j < 2 ^ 31 by omega), gI hj5 (show 512 < 2 ^ 31 by omega), nar0, lt1E, if_neg ne]
      rw [if_neg (nI_ne0 (by omega) (by omega))]
theorem l220_E (h9 : n ≤ 9) {i1 : fI} (hJ : JT C n z i 0 i1) {M s : Nat} (hM : M < 512) (hsub : subN M (laM i n)) (hne : M ≠ laM i n) (hs : s < n) (s3 : M.testBit s = false) (s4 : rsB C n z i M s = true) (s5 : fbB (rsB C n z i) n (laM i n) (M ||| 2 ^ s) = true) (s6 : ∀ t, t < s → npB C n z i M t = false) (k211 : Nat → Int32 → Int32 → Int32 → Int32 → xSt → Option (Int32 × xSt)) (x : Int32) (p : Nat) : ∀ k t m, t + k = s → k < m → f_X11_row_l220 k211 m 57 x (nI M) (nI t) (nI p) (mkS n z L i1 l) = k211 57 x (nI (M ||| 2 ^ s)) (nI s) (nI (p + 1)) (mkS n z L i1 l) := by
  have hMl := sub_le hsub
  have h84 := (hJ.2 M (Nat.zero_le _) hMl hsub).2 hne
  have run : ∀ t m, t < n → f_X11_row_l220 k211 (m + 1) 57 x (nI M) (nI t) (nI p) (mkS n z L i1 l) = if npB C n z i M t = true then k211 57 x (nI (M ||| 2 ^ t)) (nI t) (nI (p + 1)) (mkS n z L i1 l) else f_X11_row_l220 k211 m 57 x (nI M) (nI (t + 1)) (nI p) (mkS n z L i1 l) := by
    intro t m ht
    have ho := or_lt hM (show t < 9 by omega)
    have en : npB C n z i M t = ((!M.testBit t && rsB C n z i M t) && fbB (rsB C n z i) n (laM i n) (M ||| 2 ^ t)) := rfl
    rw [f_X11_row_l220_s, en]
    simp only [mI, mL, mZ, msI, msL, mN1020, gC1, mR1_0, mR1_1, mR1_2, mR1_3, mR1_4, mR1_5, mR1_6, mR1_7, mR1_8, gC2, mR2_6, mR2_7, gC3, mN3, gC4, mN4, gC5, mR5_0, mR5_1, gC6, mN6, gC7, mR7_0, mR7_1, gC8, mR8_0, gC9, mN9, gC10, mR10_0, gC11, mN11, mR11_0, mR11_1, mR11_2, mR11_3, mR11_4, mR11_5, gC12, mR12_0, mR12_1, gC13, mN13, gC14, mN14, gC15, mR15_0, mR15_1, gC16, mN16, gC17, mN17, gC18, mR18_0, mR18_1, gC19, mN19, gC20, mN20, gC21, mR21_0, mR21_1, gC22, mN22, gC23, mN23, gC24, mR24_0, mR24_1, gC25, mN25, gC26, mN26, gC27, mR27_0, mR27_1, gC28, mN28, gC29, mN29, gC30, mR30_0, gC31, mN31, mR31_0, mR31_1, mR31_2, mR31_3, mR31_4, mR31_5, gC32, mR32_0, mR32_1, gC33, mN33, gC34, mN34, gC35, mR35_0, mR35_1, gC36, mN36, gC37, mN37, gC38, mR38_0, mR38_1, gC39, mN39, gC40, mN40, gC41, mR41_0, mR41_1, gC42, mN42, gC43, mN43, gC44, mR44_0, mR44_1, gC45, mN45, gC46, mN46, gC47, mR47_0, mR47_1, gC48, mN48, gC49, mN49, gC50, mR50_0, mR50_1, mR50_2, mR50_3, gC51, mN51, gC52, mN52, gC53, mN53, gC54, mN54, gC55, gC56, gC57, mR57_2, mR57_3, mR57_6, mR57_7, mR57_8, mR57_9, mR57_10, mR57_11, mR57_12, mR57_13, mR57_14, mR57_15, mR57_16, mR57_18, mR57_19, mR57_20, mR57_21, mR57_22, mR57_23, mR57_25, mR57_26, mR57_27, mR57_28, mR57_37, mR57_40, mR57_41, mR57_43, mR57_44, mR57_48, mR57_49, gC58, mN58, gC59, mN59, gC60, mN60, gC61, mN61, gC62, mN62, gC63, mN63, gC64, mN64, gC65, mN65, gC66, mN66, gC67, mN67, gC68, mN68, gC69, mN69, gC70, mN70, gC71, mN71, gC72, mN72, gC73, mN73, gC74, mN74, gC75, mN75, gC76, mN76, gC77, mN77, gC78, mN78, gC79, mN79, gC80, mN80, gC81, mN81, gC82, mN82, gC83, mN83, gC84, mN84, gC85, mN85, gC86, mN86, gC87, mN87, shr_b hM (show t < 9 by omega), nI_clamp (show M < 2 ^ 31 by omega), gI hM (show 512 < 2 ^ 31 by omega), h84, shr_b (setN_512 (rsB C n z i M) h9) (show t < 9 by omega), setN_b, bI_e0, bI_e1, sh1_E (show t < 9 by omega), fa_or, nI_clamp (show M ||| 2 ^ t < 2 ^ 31 by omega), gI ho (show 512 < 2 ^ 31 by omega), nI_1]
    rw [decide_eq_true ht, Bool.true_and]
    by_cases e1 : M.testBit t = true
    · rw [if_pos e1, e1]; rfl
    · rw [if_neg e1, show M.testBit t = false by simpa using e1]
      by_cases e2 : rsB C n z i M t = false
      · rw [if_pos e2, e2]; rfl
      · have e2' : rsB C n z i M t = true := by simpa using e2
        have hsub2 := sub_or hsub (rsB_A ht e2')
        rw [if_neg e2, e2', (hJ.2 _ (Nat.zero_le _) (sub_le hsub2) hsub2).1, bI_if]
        rfl
  intro k
  induction k with
  | zero =>
    intro t m ht hm
    obtain ⟨m, rfl⟩ : ∃ m', m = m' + 1 := ⟨m - 1, by omega⟩
    have e : t = s := by omega
    subst e
    rw [run t m hs, if_pos (by unfold npB; rw [s3, s4, s5]; rfl)]
  | succ k ih =>
    intro t m ht hm
    obtain ⟨m, rfl⟩ : ∃ m', m = m' + 1 := ⟨m - 1, by omega⟩
    rw [run t m (by omega), if_neg (by rw [s6 t (by omega)]; decide)]
    exact ih (t + 1) m (by omega) (by omega)
theorem l211_E (h9 : n ≤ 9) {i1 : fI} (hJ : JT C n z i 0 i1) {I : Nat} (hI : I < ct9 (laM i n)) : ∀ k p M last m, p + k = I + 1 → k < m → M < 512 → subN M (laM i n) → ct9 M = p → fbB (rsB C n z i) n (laM i n) M = true → f_X11_row_l211 m 57 (nI I) (nI M) last (nI p) (mkS n z L i1 l) = some (rowR C n z i k M last, mkS n z L i1 l) := by
  have hI9 : ct9 (laM i n) ≤ 9 := fb_ct_le _ 9
  intro k
  induction k with
  | zero =>
    intro p M last m hp hm hM5 hs hc hf
    obtain ⟨m, rfl⟩ : ∃ m', m = m' + 1 := ⟨m - 1, by omega⟩
    rw [f_X11_row_l211_s, if_pos (nI_lt (by omega) (by omega))]
    rfl
  | succ k ih =>
    intro p M last m hp hm hM5 hs hc hf
    obtain ⟨m, rfl⟩ : ∃ m', m = m' + 1 := ⟨m - 1, by omega⟩
    have hne : M ≠ laM i n := fun e => by rw [e] at hc; omega
    obtain ⟨s, s1, s2, s3, s4, s5, s6⟩ := nxt_ok h9 hf hne
    rw [f_X11_row_l211_s, if_neg (nI_nlt (by omega) (by omega)), show (0 : Int32) = nI 0 from rfl, l220_E h9 hJ hM5 hs hne s1 s3 s4 s5 s6 _ _ p s 0 xFu (by omega) (by unfold xFu; omega), ih (p + 1) (M ||| 2 ^ s) (nI s) m (by omega) (by omega) (or_lt hM5 (by omega)) (sub_or hs (rsB_A s1 s4)) (by rw [ct9_or (by omega) s3, hc]) s5]
    show _ = some (rowR C n z i k (M ||| 2 ^ (nxt C n z i M).toNatClampNeg) (nxt C n z i M), _)
    rw [s2, nI_clamp (by omega)]
theorem l40_f (h : RS C R n z i l) {i1 : fI} (hJ : JT C n z i 0 i1) (x : Int32) (m : Nat) : f_X11_row_l40 (m + 1) 57 x (nI (laM i n)) (-1) (mkS n z L i1 l) = some (rowV C n z i x, mkS n z L i1 l) := by
  have h9 := h.2.2.1.1
  have hl := laidN_le i n
  have hN1 : RelN n i1 := h.2.2.1.fr (Fr_sub hJ.1 (fun p k q => by unfold sN at q; unfold sZ; omega))
  have el : laidN i1 n = laidN i n := fb_ct_cong (fun k _ => by rw [hJ.1 66 k (by unfold sZ; omega)])
  have s0 : subN 0 (laM i n) := fun t ht => by rw [Nat.zero_testBit] at ht; exact absurd ht (by decide)
  have e0 := (hJ.2 0 (Nat.le_refl _) (Nat.zero_le _) s0).1
  have k0 : (0 : Int32).toNatClampNeg = 0 := by decide
  have g0 : ∀ {α : Type} (e : Option α), gd (inR (0 : Int32) 512) e = e := fun e => gd_t (by decide)
  rw [f_X11_row_l40_s, if_pos (by decide)]
  simp only [mI, mL, mZ, msI, msL, mN1020, gC1, mR1_0, mR1_1, mR1_2, mR1_3, mR1_4, mR1_5, mR1_6, mR1_7, mR1_8, gC2, mR2_6, mR2_7, gC3, mN3, gC4, mN4, gC5, mR5_0, mR5_1, gC6, mN6, gC7, mR7_0, mR7_1, gC8, mR8_0, gC9, mN9, gC10, mR10_0, gC11, mN11, mR11_0, mR11_1, mR11_2, mR11_3, mR11_4, mR11_5, gC12, mR12_0, mR12_1, gC13, mN13, gC14, mN14, gC15, mR15_0, mR15_1, gC16, mN16, gC17, mN17, gC18, mR18_0, mR18_1, gC19, mN19, gC20, mN20, gC21, mR21_0, mR21_1, gC22, mN22, gC23, mN23, gC24, mR24_0, mR24_1, gC25, mN25, gC26, mN26, gC27, mR27_0, mR27_1, gC28, mN28, gC29, mN29, gC30, mR30_0, gC31, mN31, mR31_0, mR31_1, mR31_2, mR31_3, mR31_4, mR31_5, gC32, mR32_0, mR32_1, gC33, mN33, gC34, mN34, gC35, mR35_0, mR35_1, gC36, mN36, gC37, mN37, gC38, mR38_0, mR38_1, gC39, mN39, gC40, mN40, gC41, mR41_0, mR41_1, gC42, mN42, gC43, mN43, gC44, mR44_0, mR44_1, gC45, mN45, gC46, mN46, gC47, mR47_0, mR47_1, gC48, mN48, gC49, mN49, gC50, mR50_0, mR50_1, mR50_2, mR50_3, gC51, mN51, gC52, mN52, gC53, mN53, gC54, mN54, gC55, gC56, gC57, mR57_2, mR57_3, mR57_6, mR57_7, mR57_8, mR57_9, mR57_10, mR57_11, mR57_12, mR57_13, mR57_14, mR57_15, mR57_16, mR57_18, mR57_19, mR57_20, mR57_21, mR57_22, mR57_23, mR57_25, mR57_26, mR57_27, mR57_28, mR57_37, mR57_40, mR57_41, mR57_43, mR57_44, mR57_48, mR57_49, gC58, mN58, gC59, mN59, gC60, mN60, gC61, mN61, gC62, mN62, gC63, mN63, gC64, mN64, gC65, mN65, gC66, mN66, gC67, mN67, gC68, mN68, gC69, mN69, gC70, mN70, gC71, mN71, gC72, mN72, gC73, mN73, gC74, mN74, gC75, mN75, gC76, mN76, gC77, mN77, gC78, mN78, gC79, mN79, gC80, mN80, gC81, mN81, gC82, mN82, gC83, mN83, gC84, mN84, gC85, mN85, gC86, mN86, gC87, mN87, k0, g0, e0, bI_if, laid_E hN1, el, bdS, in_E, if_b]
  unfold rowV
  by_cases e5 : fbB (rsB C n z i) n (laM i n) 0 = true
  · rw [if_pos e5]
    by_cases e : 0 ≤ x ∧ x ≤ nI (laidN i n) - 1
    · rw [if_pos e, if_pos ⟨e.1, e.2, e5⟩]
      obtain ⟨I, I1, rfl⟩ := (nI_ix x (show laidN i n < 2 ^ 31 by omega)).mp e
      rw [nI_clamp (by omega)]
      exact l211_E h9 hJ (by rw [ct9_laM h9]; exact I1) (I + 1) 0 0 (-1) xFu (by omega) (by unfold xFu; omega) (by omega) s0 (by decide) e5
    · have ne : ¬ (0 ≤ x ∧ x ≤ nI (laidN i n) - 1 ∧ fbB (rsB C n z i) n (laM i n) 0 = true) := fun r => e ⟨r.1, r.2.1⟩
      rw [if_neg e, if_neg ne]
  · have ne : ¬ (0 ≤ x ∧ x ≤ nI (laidN i n) - 1 ∧ fbB (rsB C n z i) n (laM i n) 0 = true) := fun r => e5 r.2.2
    rw [if_neg e5, if_neg ne]
theorem l40_E (h : RS C R n z i l) (x : Int32) : ∀ j i1 m, j ≤ laM i n + 1 → j < m → JT C n z i j i1 → ∃ i2, f_X11_row_l40 m 57 x (nI (laM i n)) (nI j + (-1)) (mkS n z L i1 l) = some (rowV C n z i x, mkS n z L i2 l) ∧ Fr sZ i i2 := by
  intro j
  induction j with
  | zero =>
    intro i1 m hj hm hJ
    obtain ⟨m, rfl⟩ : ∃ m', m = m' + 1 := ⟨m - 1, by omega⟩
    refine ⟨i1, ?_, hJ.1⟩
    rw [show nI 0 + (-1) = (-1 : Int32) by decide]
    exact l40_f h hJ x m
  | succ j ih =>
    intro i1 m hj hm hJ
    obtain ⟨m, rfl⟩ : ∃ m', m = m' + 1 := ⟨m - 1, by omega⟩
    obtain ⟨i2, a1, a2⟩ := l40_s (L := L) h (show j ≤ laM i n by omega) hJ x m
    obtain ⟨i3, b1, b2⟩ := ih i2 m (by omega) (by omega) a2
    exact ⟨i3, by rw [pk_m1, a1, b1], b2⟩
theorem rowM_E (h : RS C R n z i l) (x : Int32) : ∃ i2, f_X11_row 57 x (mkS n z L i l) = some (rowV C n z i x, mkS n z L i2 l) ∧ Fr sZ i i2 := by
  have hN := h.2.2.1
  have h9 := hN.1
  have hA5 := laM_512 (i := i) h9
  obtain ⟨i2, a1, a2⟩ := l40_E (L := L) h x (laM i n + 1) i xFu (by omega) (by unfold xFu; omega) ⟨Fr_rfl, fun M h1 h2 => absurd h1 (by omega)⟩
  refine ⟨i2, ?_, a2⟩
  rw [pk_m1] at a1
  unfold f_X11_row
  rw [← a1]
  refine acc_loop (fun m a t w => f_X11_row_l4 m 57 x a t w) (fun t => nI (setN (laB i) t)) (fun _ => mkS n z L i l) n _ ?_ ?_ n 0 xFu (by omega) (by unfold xFu; omega)
  · intro m
    show f_X11_row_l4 (m + 1) 57 x (nI (laM i n)) (nI n) _ = _
    rw [f_X11_row_l4_s]
    simp only [mI, mL, mZ, msI, msL, mN1020, gC1, mR1_0, mR1_1, mR1_2, mR1_3, mR1_4, mR1_5, mR1_6, mR1_7, mR1_8, gC2, mR2_6, mR2_7, gC3, mN3, gC4, mN4, gC5, mR5_0, mR5_1, gC6, mN6, gC7, mR7_0, mR7_1, gC8, mR8_0, gC9, mN9, gC10, mR10_0, gC11, mN11, mR11_0, mR11_1, mR11_2, mR11_3, mR11_4, mR11_5, gC12, mR12_0, mR12_1, gC13, mN13, gC14, mN14, gC15, mR15_0, mR15_1, gC16, mN16, gC17, mN17, gC18, mR18_0, mR18_1, gC19, mN19, gC20, mN20, gC21, mR21_0, mR21_1, gC22, mN22, gC23, mN23, gC24, mR24_0, mR24_1, gC25, mN25, gC26, mN26, gC27, mR27_0, mR27_1, gC28, mN28, gC29, mN29, gC30, mR30_0, gC31, mN31, mR31_0, mR31_1, mR31_2, mR31_3, mR31_4, mR31_5, gC32, mR32_0, mR32_1, gC33, mN33, gC34, mN34, gC35, mR35_0, mR35_1, gC36, mN36, gC37, mN37, gC38, mR38_0, mR38_1, gC39, mN39, gC40, mN40, gC41, mR41_0, mR41_1, gC42, mN42, gC43, mN43, gC44, mR44_0, mR44_1, gC45, mN45, gC46, mN46, gC47, mR47_0, mR47_1, gC48, mN48, gC49, mN49, gC50, mR50_0, mR50_1, mR50_2, mR50_3, gC51, mN51, gC52, mN52, gC53, mN53, gC54, mN54, gC55, gC56, gC57, mR57_2, mR57_3, mR57_6, mR57_7, mR57_8, mR57_9, mR57_10, mR57_11, mR57_12, mR57_13, mR57_14, mR57_15, mR57_16, mR57_18, mR57_19, mR57_20, mR57_21, mR57_22, mR57_23, mR57_25, mR57_26, mR57_27, mR57_28, mR57_37, mR57_40, mR57_41, mR57_43, mR57_44, mR57_48, mR57_49, gC58, mN58, gC59, mN59, gC60, mN60, gC61, mN61, gC62, mN62, gC63, mN63, gC64, mN64, gC65, mN65, gC66, mN66, gC67, mN67, gC68, mN68, gC69, mN69, gC70, mN70, gC71, mN71, gC72, mN72, gC73, mN73, gC74, mN74, gC75, mN75, gC76, mN76, gC77, mN77, gC78, mN78, gC79, mN79, gC80, mN80, gC81, mN81, gC82, mN82, gC83, mN83, gC84, mN84, gC85, mN85, gC86, mN86, gC87, mN87, hN.2.2]
    rw [if_pos (Int32.le_refl _)]
  · intro m t ht
    show f_X11_row_l4 (m + 1) 57 x _ (nI t) _ = f_X11_row_l4 m 57 x (nI (if laB i t = true then setN (laB i) t ||| 2 ^ t else setN (laB i) t)) (nI (t + 1)) _
    rw [f_X11_row_l4_s]
    simp only [mI, mL, mZ, msI, msL, mN1020, gC1, mR1_0, mR1_1, mR1_2, mR1_3, mR1_4, mR1_5, mR1_6, mR1_7, mR1_8, gC2, mR2_6, mR2_7, gC3, mN3, gC4, mN4, gC5, mR5_0, mR5_1, gC6, mN6, gC7, mR7_0, mR7_1, gC8, mR8_0, gC9, mN9, gC10, mR10_0, gC11, mN11, mR11_0, mR11_1, mR11_2, mR11_3, mR11_4, mR11_5, gC12, mR12_0, mR12_1, gC13, mN13, gC14, mN14, gC15, mR15_0, mR15_1, gC16, mN16, gC17, mN17, gC18, mR18_0, mR18_1, gC19, mN19, gC20, mN20, gC21, mR21_0, mR21_1, gC22, mN22, gC23, mN23, gC24, mR24_0, mR24_1, gC25, mN25, gC26, mN26, gC27, mR27_0, mR27_1, gC28, mN28, gC29, mN29, gC30, mR30_0, gC31, mN31, mR31_0, mR31_1, mR31_2, mR31_3, mR31_4, mR31_5, gC32, mR32_0, mR32_1, gC33, mN33, gC34, mN34, gC35, mR35_0, mR35_1, gC36, mN36, gC37, mN37, gC38, mR38_0, mR38_1, gC39, mN39, gC40, mN40, gC41, mR41_0, mR41_1, gC42, mN42, gC43, mN43, gC44, mR44_0, mR44_1, gC45, mN45, gC46, mN46, gC47, mR47_0, mR47_1, gC48, mN48, gC49, mN49, gC50, mR50_0, mR50_1, mR50_2, mR50_3, gC51, mN51, gC52, mN52, gC53, mN53, gC54, mN54, gC55, gC56, gC57, mR57_2, mR57_3, mR57_6, mR57_7, mR57_8, mR57_9, mR57_10, mR57_11, mR57_12, mR57_13, mR57_14, mR57_15, mR57_16, mR57_18, mR57_19, mR57_20, mR57_21, mR57_22, mR57_23, mR57_25, mR57_26, mR57_27, mR57_28, mR57_37, mR57_40, mR57_41, mR57_43, mR57_44, mR57_48, mR57_49, gC58, mN58, gC59, mN59, gC60, mN60, gC61, mN61, gC62, mN62, gC63, mN63, gC64, mN64, gC65, mN65, gC66, mN66, gC67, mN67, gC68, mN68, gC69, mN69, gC70, mN70, gC71, mN71, gC72, mN72, gC73, mN73, gC74, mN74, gC75, mN75, gC76, mN76, gC77, mN77, gC78, mN78, gC79, mN79, gC80, mN80, gC81, mN81, gC82, mN82, gC83, mN83, gC84, mN84, gC85, mN85, gC86, mN86, gC87, mN87, hN.2.2, nI_clamp (show t < 2 ^ 31 by omega), gI (show t < 9 by omega) (show 9 < 2 ^ 31 by omega), nI_1, or0, sh1_E (show t < 9 by omega), fa_or]
    rw [if_neg (nI_ge ht (by omega))]
    by_cases e : i 66 t = -1
    · rw [if_pos e, if_neg (by rw [laB_t]; exact fun q => q e)]
    · rw [if_neg e, if_pos (laB_t.mpr e)]
theorem op_row (h : Rel C R n z i l) (x : Int32) : OpOK C R n z L (f_X10_row 1 x) (f_X11_row 57 x) i l := by
  obtain ⟨i2, a1, a2⟩ := rowM_E (L := L) h.rs x
  refine ⟨rowV C n z i x, mkS n z L i l, n, i2, l, ?_, a1, ⟨_, _, rfl, by repeat first | exact Fr_rfl | refine Fr_u2 ?_ (by unfold sQ; omega)⟩, Rel_fr h a2⟩
  simp only [f_X10_row, mI, mL, mZ, msI, msL, mN1020, gC1, mR1_0, mR1_1, mR1_2, mR1_3, mR1_4, mR1_5, mR1_6, mR1_7, mR1_8, gC2, mR2_6, mR2_7, gC3, mN3, gC4, mN4, gC5, mR5_0, mR5_1, gC6, mN6, gC7, mR7_0, mR7_1, gC8, mR8_0, gC9, mN9, gC10, mR10_0, gC11, mN11, mR11_0, mR11_1, mR11_2, mR11_3, mR11_4, mR11_5, gC12, mR12_0, mR12_1, gC13, mN13, gC14, mN14, gC15, mR15_0, mR15_1, gC16, mN16, gC17, mN17, gC18, mR18_0, mR18_1, gC19, mN19, gC20, mN20, gC21, mR21_0, mR21_1, gC22, mN22, gC23, mN23, gC24, mR24_0, mR24_1, gC25, mN25, gC26, mN26, gC27, mR27_0, mR27_1, gC28, mN28, gC29, mN29, gC30, mR30_0, gC31, mN31, mR31_0, mR31_1, mR31_2, mR31_3, mR31_4, mR31_5, gC32, mR32_0, mR32_1, gC33, mN33, gC34, mN34, gC35, mR35_0, mR35_1, gC36, mN36, gC37, mN37, gC38, mR38_0, mR38_1, gC39, mN39, gC40, mN40, gC41, mR41_0, mR41_1, gC42, mN42, gC43, mN43, gC44, mR44_0, mR44_1, gC45, mN45, gC46, mN46, gC47, mR47_0, mR47_1, gC48, mN48, gC49, mN49, gC50, mR50_0, mR50_1, mR50_2, mR50_3, gC51, mN51, gC52, mN52, gC53, mN53, gC54, mN54, gC55, gC56, gC57, mR57_2, mR57_3, mR57_6, mR57_7, mR57_8, mR57_9, mR57_10, mR57_11, mR57_12, mR57_13, mR57_14, mR57_15, mR57_16, mR57_18, mR57_19, mR57_20, mR57_21, mR57_22, mR57_23, mR57_25, mR57_26, mR57_27, mR57_28, mR57_37, mR57_40, mR57_41, mR57_43, mR57_44, mR57_48, mR57_49, gC58, mN58, gC59, mN59, gC60, mN60, gC61, mN61, gC62, mN62, gC63, mN63, gC64, mN64, gC65, mN65, gC66, mN66, gC67, mN67, gC68, mN68, gC69, mN69, gC70, mN70, gC71, mN71, gC72, mN72, gC73, mN73, gC74, mN74, gC75, mN75, gC76, mN76, gC77, mN77, gC78, mN78, gC79, mN79, gC80, mN80, gC81, mN81, gC82, mN82, gC83, mN83, gC84, mN84, gC85, mN85, gC86, mN86, gC87, mN87, inOrder_E (L := L) h x, bdS]
end ROW
