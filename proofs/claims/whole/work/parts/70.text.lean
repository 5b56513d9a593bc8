section TEXT
variable {C R n z L : Nat} {i : fI} {l : fL}
/-! one text of each sort, as RelU asks -/
def Ut0 (i : fI) (t : Nat) : Prop := i (12 + 3 * t) 3 = i 72 t ∧ ∃ e, e ≤ 5 ∧ i (12 + 3 * t) 2 = nI e ∧ ∀ a, medC i t e a = medM i t a
def Ut1 (i : fI) (t : Nat) : Prop := i (32 + 3 * t) 3 = i 72 (6 + t) ∧ ∃ e k, e ≤ 5 ∧ k ≤ 4 ∧ i (32 + 3 * t) 2 = nI e ∧ i 74 (6 + t) = nI k ∧ ∀ wd, wd < 7 → prcC i t e wd = prcM i t k wd
theorem RelU_iff : RelU i ↔ (∃ m, m ≤ 6 ∧ i 10 1 = nI m ∧ i 71 0 = nI m ∧ ∀ t, t < m → Ut0 i t) ∧ (∃ m, m ≤ 6 ∧ i 30 1 = nI m ∧ i 71 1 = nI m ∧ ∀ t, t < m → Ut1 i t) := Iff.rfl
theorem Ut0_fr {i2 : fI} {t : Nat} (h : Ut0 i t) (f : ∀ k, i2 (12 + 3 * t) k = i (12 + 3 * t) k ∧ i2 (13 + 3 * t) k = i (13 + 3 * t) k ∧ i2 (14 + 3 * t) k = i (14 + 3 * t) k) (g : i2 72 t = i 72 t) (g3 : ∀ k, k < 3 → i2 73 (3 * t + k) = i 73 (3 * t + k)) : Ut0 i2 t := by
  obtain ⟨h1, e, e1, e2, e3⟩ := h
  refine ⟨by rw [(f 3).1, g]; exact h1, e, e1, by rw [(f 2).1]; exact e2, fun a => ?_⟩
  have x1 : medC i2 t e a = medC i t e a := fsel_cong _ _ (fun j _ _ => ⟨by rw [(f j).2.2], (f j).2.1⟩) rfl
  have x2 : medM i2 t a = medM i t a := fsel_cong _ _ (fun j _ hj => ⟨by rw [g3 j (by omega)], rfl⟩) rfl
  rw [x1, x2]
  exact e3 a
theorem Ut1_fr {i2 : fI} {t : Nat} (h : Ut1 i t) (f : ∀ k, i2 (32 + 3 * t) k = i (32 + 3 * t) k ∧ i2 (33 + 3 * t) k = i (33 + 3 * t) k ∧ i2 (34 + 3 * t) k = i (34 + 3 * t) k) (g : i2 72 (6 + t) = i 72 (6 + t)) (g4 : i2 74 (6 + t) = i 74 (6 + t)) (g5 : ∀ k, k < 4 → i2 75 (4 * (6 + t) + k) = i 75 (4 * (6 + t) + k)) (g6 : ∀ k, k < 5 → i2 76 (5 * (6 + t) + k) = i 76 (5 * (6 + t) + k)) : Ut1 i2 t := by
  obtain ⟨h1, e, k, e1, e2, e3, e4, e5⟩ := h
  refine ⟨by rw [(f 3).1, g]; exact h1, e, k, e1, e2, by rw [(f 2).1]; exact e3, by rw [g4]; exact e4, fun wd hw => ?_⟩
  have x1 : prcC i2 t e wd = prcC i t e wd := fsel_cong _ _ (fun j _ _ => ⟨by rw [(f j).2.1], (f j).2.2⟩) rfl
  have x2 : prcM i2 t k wd = prcM i t k wd := fsel_cong _ _ (fun j _ hj => ⟨by rw [g5 j (by omega)], g6 j (by omega)⟩) (g6 k (by omega))
  rw [x1, x2]
  exact e5 wd hw
theorem tapeOf (hT : RelT i) : ∃ (T : Nat) (b : Nat → Nat), TC T b i ∧ TM T b i := by
  obtain ⟨t, t1, t2, t3, t4⟩ := hT
  have e : ∀ j, j < t → (i 70 j).toNatClampNeg < 256 ∧ i 70 j = nI (i 70 j).toNatClampNeg ∧ i 9 j = (nI (i 70 j).toNatClampNeg).toInt8.toInt32 := by
    intro j hj
    obtain ⟨c, c1, c2, c3⟩ := t4 j hj
    have : (i 70 j).toNatClampNeg = c := by rw [c2, nI_clamp (by omega)]
    rw [this]
    exact ⟨c1, c2, c3⟩
  exact ⟨t, fun j => (i 70 j).toNatClampNeg, ⟨t1, t2, fun j hj => ⟨(e j hj).1, (e j hj).2.2⟩⟩, ⟨t1, t3, fun j hj => ⟨(e j hj).1, (e j hj).2.1⟩⟩⟩
theorem stM_of (i : fI) : u2 (u2 i 57 45 0) 57 46 0 = stM i 0 false (i 57 47) := by
  funext q j
  unfold u2 stM
  by_cases e : q = 57 ∧ j = 46
  · rw [if_pos e, if_neg (by omega), if_pos e]; rfl
  · rw [if_neg e]
    by_cases e2 : q = 57 ∧ j = 45
    · rw [if_pos e2, if_pos e2]; rfl
    · rw [if_neg e2, if_neg e2, if_neg e]
      by_cases e3 : q = 57 ∧ j = 47
      · rw [if_pos e3, e3.1, e3.2]
      · rw [if_neg e3]
theorem begT_E {B : Nat} (hc : isC (mkS n z L i l) B 8) (y : Int32) : f_X8_begin B y (mkS n z L i l) = some ((), mkS n z L (u2 (u2 i B 3 y) B 2 0) l) := by
  simp only [f_X8_begin, gd_t hc, mI, mL, mZ, msI, msL, mN1020, gC1, mR1_0, mR1_1, mR1_2, mR1_3, mR1_4, mR1_5, mR1_6, mR1_7, mR1_8, gC2, mR2_6, mR2_7, gC3, mN3, gC4, mN4, gC5, mR5_0, mR5_1, gC6, mN6, gC7, mR7_0, mR7_1, gC8, mR8_0, gC9, mN9, gC10, mR10_0, gC11, mN11, mR11_0, mR11_1, mR11_2, mR11_3, mR11_4, mR11_5, gC12, mR12_0, mR12_1, gC13, mN13, gC14, mN14, gC15, mR15_0, mR15_1, gC16, mN16, gC17, mN17, gC18, mR18_0, mR18_1, gC19, mN19, gC20, mN20, gC21, mR21_0, mR21_1, gC22, mN22, gC23, mN23, gC24, mR24_0, mR24_1, gC25, mN25, gC26, mN26, gC27, mR27_0, mR27_1, gC28, mN28, gC29, mN29, gC30, mR30_0, gC31, mN31, mR31_0, mR31_1, mR31_2, mR31_3, mR31_4, mR31_5, gC32, mR32_0, mR32_1, gC33, mN33, gC34, mN34, gC35, mR35_0, mR35_1, gC36, mN36, gC37, mN37, gC38, mR38_0, mR38_1, gC39, mN39, gC40, mN40, gC41, mR41_0, mR41_1, gC42, mN42, gC43, mN43, gC44, mR44_0, mR44_1, gC45, mN45, gC46, mN46, gC47, mR47_0, mR47_1, gC48, mN48, gC49, mN49, gC50, mR50_0, mR50_1, mR50_2, mR50_3, gC51, mN51, gC52, mN52, gC53, mN53, gC54, mN54, gC55, gC56, gC57, mR57_2, mR57_3, mR57_6, mR57_7, mR57_8, mR57_9, mR57_10, mR57_11, mR57_12, mR57_13, mR57_14, mR57_15, mR57_16, mR57_18, mR57_19, mR57_20, mR57_21, mR57_22, mR57_23, mR57_25, mR57_26, mR57_27, mR57_28, mR57_37, mR57_40, mR57_41, mR57_43, mR57_44, mR57_48, mR57_49, gC58, mN58, gC59, mN59, gC60, mN60, gC61, mN61, gC62, mN62, gC63, mN63, gC64, mN64, gC65, mN65, gC66, mN66, gC67, mN67, gC68, mN68, gC69, mN69, gC70, mN70, gC71, mN71, gC72, mN72, gC73, mN73, gC74, mN74, gC75, mN75, gC76, mN76, gC77, mN77, gC78, mN78, gC79, mN79, gC80, mN80, gC81, mN81, gC82, mN82, gC83, mN83, gC84, mN84, gC85, mN85, gC86, mN86, gC87, mN87, lt1E]
/-- what is left of the tape and the texts when a text has been told: the class -/
def cE (i2 : fI) (S m pE : Nat) (ok : Bool) : fI := if ok = true then u2 (u2 (u2 i2 8 2 (nI pE)) 8 1 0) S 1 (nI (m + 1)) else u2 (u2 i2 8 2 (nI pE)) 8 1 0
theorem b80_0 {i2 : fI} {m pE : Nat} (ok : Bool) (h : i2 10 1 = nI m) : f_X10_text_b80 1 10 (bI ok) (mkS n z L (u2 i2 8 2 (nI pE)) l) = some (if ok = true then nI (m + 1) else -10 - nI pE, mkS n z L (cE i2 10 m pE ok) l) := by
  have e1 : u2 (u2 i2 8 2 (nI pE)) 8 1 0 10 1 = nI m := by rw [u2_p _ _ (by decide), u2_p _ _ (by decide)]; exact h
  unfold cE
  cases ok with
  | false =>
    simp only [f_X10_text_b80, f_X7_empty, mI, mL, mZ, msI, msL, mN1020, gC1, mR1_0, mR1_1, mR1_2, mR1_3, mR1_4, mR1_5, mR1_6, mR1_7, mR1_8, gC2, mR2_6, mR2_7, gC3, mN3, gC4, mN4, gC5, mR5_0, mR5_1, gC6, mN6, gC7, mR7_0, mR7_1, gC8, mR8_0, gC9, mN9, gC10, mR10_0, gC11, mN11, mR11_0, mR11_1, mR11_2, mR11_3, mR11_4, mR11_5, gC12, mR12_0, mR12_1, gC13, mN13, gC14, mN14, gC15, mR15_0, mR15_1, gC16, mN16, gC17, mN17, gC18, mR18_0, mR18_1, gC19, mN19, gC20, mN20, gC21, mR21_0, mR21_1, gC22, mN22, gC23, mN23, gC24, mR24_0, mR24_1, gC25, mN25, gC26, mN26, gC27, mR27_0, mR27_1, gC28, mN28, gC29, mN29, gC30, mR30_0, gC31, mN31, mR31_0, mR31_1, mR31_2, mR31_3, mR31_4, mR31_5, gC32, mR32_0, mR32_1, gC33, mN33, gC34, mN34, gC35, mR35_0, mR35_1, gC36, mN36, gC37, mN37, gC38, mR38_0, mR38_1, gC39, mN39, gC40, mN40, gC41, mR41_0, mR41_1, gC42, mN42, gC43, mN43, gC44, mR44_0, mR44_1, gC45, mN45, gC46, mN46, gC47, mR47_0, mR47_1, gC48, mN48, gC49, mN49, gC50, mR50_0, mR50_1, mR50_2, mR50_3, gC51, mN51, gC52, mN52, gC53, mN53, gC54, mN54, gC55, gC56, gC57, mR57_2, mR57_3, mR57_6, mR57_7, mR57_8, mR57_9, mR57_10, mR57_11, mR57_12, mR57_13, mR57_14, mR57_15, mR57_16, mR57_18, mR57_19, mR57_20, mR57_21, mR57_22, mR57_23, mR57_25, mR57_26, mR57_27, mR57_28, mR57_37, mR57_40, mR57_41, mR57_43, mR57_44, mR57_48, mR57_49, gC58, mN58, gC59, mN59, gC60, mN60, gC61, mN61, gC62, mN62, gC63, mN63, gC64, mN64, gC65, mN65, gC66, mN66, gC67, mN67, gC68, mN68, gC69, mN69, gC70, mN70, gC71, mN71, gC72, mN72, gC73, mN73, gC74, mN74, gC75, mN75, gC76, mN76, gC77, mN77, gC78, mN78, gC79, mN79, gC80, mN80, gC81, mN81, gC82, mN82, gC83, mN83, gC84, mN84, gC85, mN85, gC86, mN86, gC87, mN87, lt1E, bdS, u2_s]
    rw [if_pos (show bI false = 0 from rfl), if_neg (by decide), if_neg (by decide)]
  | true =>
    simp only [f_X10_text_b80, f_X7_empty, f_X9_keepNext, mI, mL, mZ, msI, msL, mN1020, gC1, mR1_0, mR1_1, mR1_2, mR1_3, mR1_4, mR1_5, mR1_6, mR1_7, mR1_8, gC2, mR2_6, mR2_7, gC3, mN3, gC4, mN4, gC5, mR5_0, mR5_1, gC6, mN6, gC7, mR7_0, mR7_1, gC8, mR8_0, gC9, mN9, gC10, mR10_0, gC11, mN11, mR11_0, mR11_1, mR11_2, mR11_3, mR11_4, mR11_5, gC12, mR12_0, mR12_1, gC13, mN13, gC14, mN14, gC15, mR15_0, mR15_1, gC16, mN16, gC17, mN17, gC18, mR18_0, mR18_1, gC19, mN19, gC20, mN20, gC21, mR21_0, mR21_1, gC22, mN22, gC23, mN23, gC24, mR24_0, mR24_1, gC25, mN25, gC26, mN26, gC27, mR27_0, mR27_1, gC28, mN28, gC29, mN29, gC30, mR30_0, gC31, mN31, mR31_0, mR31_1, mR31_2, mR31_3, mR31_4, mR31_5, gC32, mR32_0, mR32_1, gC33, mN33, gC34, mN34, gC35, mR35_0, mR35_1, gC36, mN36, gC37, mN37, gC38, mR38_0, mR38_1, gC39, mN39, gC40, mN40, gC41, mR41_0, mR41_1, gC42, mN42, gC43, mN43, gC44, mR44_0, mR44_1, gC45, mN45, gC46, mN46, gC47, mR47_0, mR47_1, gC48, mN48, gC49, mN49, gC50, mR50_0, mR50_1, mR50_2, mR50_3, gC51, mN51, gC52, mN52, gC53, mN53, gC54, mN54, gC55, gC56, gC57, mR57_2, mR57_3, mR57_6, mR57_7, mR57_8, mR57_9, mR57_10, mR57_11, mR57_12, mR57_13, mR57_14, mR57_15, mR57_16, mR57_18, mR57_19, mR57_20, mR57_21, mR57_22, mR57_23, mR57_25, mR57_26, mR57_27, mR57_28, mR57_37, mR57_40, mR57_41, mR57_43, mR57_44, mR57_48, mR57_49, gC58, mN58, gC59, mN59, gC60, mN60, gC61, mN61, gC62, mN62, gC63, mN63, gC64, mN64, gC65, mN65, gC66, mN66, gC67, mN67, gC68, mN68, gC69, mN69, gC70, mN70, gC71, mN71, gC72, mN72, gC73, mN73, gC74, mN74, gC75, mN75, gC76, mN76, gC77, mN77, gC78, mN78, gC79, mN79, gC80, mN80, gC81, mN81, gC82, mN82, gC83, mN83, gC84, mN84, gC85, mN85, gC86, mN86, gC87, mN87, lt1E, bdS, e1, nI_1, u2_s]
    rw [if_neg (show ¬ bI true = 0 by decide), if_pos trivial, if_pos trivial]
theorem b80_1 {i2 : fI} {m pE : Nat} (ok : Bool) (h : i2 30 1 = nI m) : f_X10_text_b80 1 30 (bI ok) (mkS n z L (u2 i2 8 2 (nI pE)) l) = some (if ok = true then nI (m + 1) else -10 - nI pE, mkS n z L (cE i2 30 m pE ok) l) := by
  have e1 : u2 (u2 i2 8 2 (nI pE)) 8 1 0 30 1 = nI m := by rw [u2_p _ _ (by decide), u2_p _ _ (by decide)]; exact h
  unfold cE
  cases ok with
  | false =>
    simp only [f_X10_text_b80, f_X7_empty, mI, mL, mZ, msI, msL, mN1020, gC1, mR1_0, mR1_1, mR1_2, mR1_3, mR1_4, mR1_5, mR1_6, mR1_7, mR1_8, gC2, mR2_6, mR2_7, gC3, mN3, gC4, mN4, gC5, mR5_0, mR5_1, gC6, mN6, gC7, mR7_0, mR7_1, gC8, mR8_0, gC9, mN9, gC10, mR10_0, gC11, mN11, mR11_0, mR11_1, mR11_2, mR11_3, mR11_4, mR11_5, gC12, mR12_0, mR12_1, gC13, mN13, gC14, mN14, gC15, mR15_0, mR15_1, gC16, mN16, gC17, mN17, gC18, mR18_0, mR18_1, gC19, mN19, gC20, mN20, gC21, mR21_0, mR21_1, gC22, mN22, gC23, mN23, gC24, mR24_0, mR24_1, gC25, mN25, gC26, mN26, gC27, mR27_0, mR27_1, gC28, mN28, gC29, mN29, gC30, mR30_0, gC31, mN31, mR31_0, mR31_1, mR31_2, mR31_3, mR31_4, mR31_5, gC32, mR32_0, mR32_1, gC33, mN33, gC34, mN34, gC35, mR35_0, mR35_1, gC36, mN36, gC37, mN37, gC38, mR38_0, mR38_1, gC39, mN39, gC40, mN40, gC41, mR41_0, mR41_1, gC42, mN42, gC43, mN43, gC44, mR44_0, mR44_1, gC45, mN45, gC46, mN46, gC47, mR47_0, mR47_1, gC48, mN48, gC49, mN49, gC50, mR50_0, mR50_1, mR50_2, mR50_3, gC51, mN51, gC52, mN52, gC53, mN53, gC54, mN54, gC55, gC56, gC57, mR57_2, mR57_3, mR57_6, mR57_7, mR57_8, mR57_9, mR57_10, mR57_11, mR57_12, mR57_13, mR57_14, mR57_15, mR57_16, mR57_18, mR57_19, mR57_20, mR57_21, mR57_22, mR57_23, mR57_25, mR57_26, mR57_27, mR57_28, mR57_37, mR57_40, mR57_41, mR57_43, mR57_44, mR57_48, mR57_49, gC58, mN58, gC59, mN59, gC60, mN60, gC61, mN61, gC62, mN62, gC63, mN63, gC64, mN64, gC65, mN65, gC66, mN66, gC67, mN67, gC68, mN68, gC69, mN69, gC70, mN70, gC71, mN71, gC72, mN72, gC73, mN73, gC74, mN74, gC75, mN75, gC76, mN76, gC77, mN77, gC78, mN78, gC79, mN79, gC80, mN80, gC81, mN81, gC82, mN82, gC83, mN83, gC84, mN84, gC85, mN85, gC86, mN86, gC87, mN87, lt1E, bdS, u2_s]
    rw [if_pos (show bI false = 0 from rfl), if_neg (by decide), if_neg (by decide)]
  | true =>
    simp only [f_X10_text_b80, f_X7_empty, f_X9_keepNext, mI, mL, mZ, msI, msL, mN1020, gC1, mR1_0, mR1_1, mR1_2, mR1_3, mR1_4, mR1_5, mR1_6, mR1_7, mR1_8, gC2, mR2_6, mR2_7, gC3, mN3, gC4, mN4, gC5, mR5_0, mR5_1, gC6, mN6, gC7, mR7_0, mR7_1, gC8, mR8_0, gC9, mN9, gC10, mR10_0, gC11, mN11, mR11_0, mR11_1, mR11_2, mR11_3, mR11_4, mR11_5, gC12, mR12_0, mR12_1, gC13, mN13, gC14, mN14, gC15, mR15_0, mR15_1, gC16, mN16, gC17, mN17, gC18, mR18_0, mR18_1, gC19, mN19, gC20, mN20, gC21, mR21_0, mR21_1, gC22, mN22, gC23, mN23, gC24, mR24_0, mR24_1, gC25, mN25, gC26, mN26, gC27, mR27_0, mR27_1, gC28, mN28, gC29, mN29, gC30, mR30_0, gC31, mN31, mR31_0, mR31_1, mR31_2, mR31_3, mR31_4, mR31_5, gC32, mR32_0, mR32_1, gC33, mN33, gC34, mN34, gC35, mR35_0, mR35_1, gC36, mN36, gC37, mN37, gC38, mR38_0, mR38_1, gC39, mN39, gC40, mN40, gC41, mR41_0, mR41_1, gC42, mN42, gC43, mN43, gC44, mR44_0, mR44_1, gC45, mN45, gC46, mN46, gC47, mR47_0, mR47_1, gC48, mN48, gC49, mN49, gC50, mR50_0, mR50_1, mR50_2, mR50_3, gC51, mN51, gC52, mN52, gC53, mN53, gC54, mN54, gC55, gC56, gC57, mR57_2, mR57_3, mR57_6, mR57_7, mR57_8, mR57_9, mR57_10, mR57_11, mR57_12, mR57_13, mR57_14, mR57_15, mR57_16, mR57_18, mR57_19, mR57_20, mR57_21, mR57_22, mR57_23, mR57_25, mR57_26, mR57_27, mR57_28, mR57_37, mR57_40, mR57_41, mR57_43, mR57_44, mR57_48, mR57_49, gC58, mN58, gC59, mN59, gC60, mN60, gC61, mN61, gC62, mN62, gC63, mN63, gC64, mN64, gC65, mN65, gC66, mN66, gC67, mN67, gC68, mN68, gC69, mN69, gC70, mN70, gC71, mN71, gC72, mN72, gC73, mN73, gC74, mN74, gC75, mN75, gC76, mN76, gC77, mN77, gC78, mN78, gC79, mN79, gC80, mN80, gC81, mN81, gC82, mN82, gC83, mN83, gC84, mN84, gC85, mN85, gC86, mN86, gC87, mN87, lt1E, bdS, e1, nI_1, u2_s]
    rw [if_neg (show ¬ bI true = 0 by decide), if_pos trivial, if_pos trivial]
theorem cE_o (i2 : fI) (S m pE : Nat) (ok : Bool) {p k : Nat} (h : ¬ (p = 8 ∧ (k = 1 ∨ k = 2))) (h2 : ¬ (p = S ∧ k = 1)) : cE i2 S m pE ok p k = i2 p k := by
  unfold cE
  cases ok with
  | true => rw [if_pos rfl, u2_n _ _ h2, u2_n _ _ (by omega), u2_n _ _ (by omega)]
  | false => rw [if_neg (by decide), u2_n _ _ (by omega), u2_n _ _ (by omega)]
theorem cE_8 (i2 : fI) (S m pE : Nat) (ok : Bool) (h : S ≠ 8) : cE i2 S m pE ok 8 1 = 0 := by
  unfold cE
  cases ok with
  | true => rw [if_pos rfl, u2_p _ _ (by omega), u2_s]
  | false => rw [if_neg (by decide), u2_s]
/-- the reference's end -/
def mE (i3 : fI) (s t m pE : Nat) (w ok : Bool) (td y : Int32) : fI := if ok = true then u2 (u2 (u2 (stM i3 pE w td) 57 17 0) 72 t y) 71 s (nI (m + 1)) else u2 (stM i3 pE w td) 57 17 0
theorem mE_o (i3 : fI) (s t m pE : Nat) (w ok : Bool) (td y : Int32) {p k : Nat} (h : ¬ (p = 57 ∧ (k = 17 ∨ k = 45 ∨ k = 46 ∨ k = 47))) (h2 : ¬ (p = 72 ∧ k = t)) (h3 : ¬ (p = 71 ∧ k = s)) : mE i3 s t m pE w ok td y p k = i3 p k := by
  unfold mE
  cases ok with
  | true => rw [if_pos rfl, u2_n _ _ h3, u2_n _ _ h2, u2_n _ _ (by omega), stM_o _ _ _ _ (by omega)]
  | false => rw [if_neg (by decide), u2_n _ _ (by omega), stM_o _ _ _ _ (by omega)]
theorem mE_17 (i3 : fI) (s t m pE : Nat) (w ok : Bool) (td y : Int32) : mE i3 s t m pE w ok td y 57 17 = 0 := by
  unfold mE
  cases ok with
  | true => rw [if_pos rfl, u2_p _ _ (by decide), u2_p _ _ (by decide), u2_s]
  | false => rw [if_neg (by decide), u2_s]
theorem b76_E {T : Nat} {i3 : fI} {s t m pE : Nat} {w ok : Bool} {td y x1 : Int32} (hs : s < 2) (hx : x1 = nI s) (ht : t < 12) (hT : T ≤ 120) (hp : pE ≤ T) (h17 : i3 57 17 = nI T) (h71 : i3 71 s = nI m) (hok : ok = (!w && decide (pE = T))) : f_X11_text_b76 57 x1 y (nI t) (mkS n z L (stM i3 pE w td) l) = some (if ok = true then nI (m + 1) else -10 - nI pE, mkS n z L (mE i3 s t m pE w ok td y) l) := by
  subst hx
  have e17 : stM i3 pE w td 57 17 = nI T := by rw [stM_o _ _ _ _ (by omega)]; exact h17
  have e45 : u2 (stM i3 pE w td) 57 17 0 57 45 = nI pE := by rw [u2_k _ _ (by decide), stM_45]
  have e71 : u2 (u2 (stM i3 pE w td) 57 17 0) 72 t y 71 s = nI m := by rw [u2_p _ _ (by decide), u2_p _ _ (by decide), stM_o _ _ _ _ (by omega)]; exact h71
  have b99 : f_X11_text_b99 57 (nI s) y (nI t) (bI ok) (mkS n z L (stM i3 pE w td) l) = some (if ok = true then nI (m + 1) else -10 - nI pE, mkS n z L (mE i3 s t m pE w ok td y) l) := by
    simp only [f_X11_text_b99, mI, mL, mZ, msI, msL, mN1020, gC1, mR1_0, mR1_1, mR1_2, mR1_3, mR1_4, mR1_5, mR1_6, mR1_7, mR1_8, gC2, mR2_6, mR2_7, gC3, mN3, gC4, mN4, gC5, mR5_0, mR5_1, gC6, mN6, gC7, mR7_0, mR7_1, gC8, mR8_0, gC9, mN9, gC10, mR10_0, gC11, mN11, mR11_0, mR11_1, mR11_2, mR11_3, mR11_4, mR11_5, gC12, mR12_0, mR12_1, gC13, mN13, gC14, mN14, gC15, mR15_0, mR15_1, gC16, mN16, gC17, mN17, gC18, mR18_0, mR18_1, gC19, mN19, gC20, mN20, gC21, mR21_0, mR21_1, gC22, mN22, gC23, mN23, gC24, mR24_0, mR24_1, gC25, mN25, gC26, mN26, gC27, mR27_0, mR27_1, gC28, mN28, gC29, mN29, gC30, mR30_0, gC31, mN31, mR31_0, mR31_1, mR31_2, mR31_3, mR31_4, mR31_5, gC32, mR32_0, mR32_1, gC33, mN33, gC34, mN34, gC35, mR35_0, mR35_1, gC36, mN36, gC37, mN37, gC38, mR38_0, mR38_1, gC39, mN39, gC40, mN40, gC41, mR41_0, mR41_1, gC42, mN42, gC43, mN43, gC44, mR44_0, mR44_1, gC45, mN45, gC46, mN46, gC47, mR47_0, mR47_1, gC48, mN48, gC49, mN49, gC50, mR50_0, mR50_1, mR50_2, mR50_3, gC51, mN51, gC52, mN52, gC53, mN53, gC54, mN54, gC55, gC56, gC57, mR57_2, mR57_3, mR57_6, mR57_7, mR57_8, mR57_9, mR57_10, mR57_11, mR57_12, mR57_13, mR57_14, mR57_15, mR57_16, mR57_18, mR57_19, mR57_20, mR57_21, mR57_22, mR57_23, mR57_25, mR57_26, mR57_27, mR57_28, mR57_37, mR57_40, mR57_41, mR57_43, mR57_44, mR57_48, mR57_49, gC58, mN58, gC59, mN59, gC60, mN60, gC61, mN61, gC62, mN62, gC63, mN63, gC64, mN64, gC65, mN65, gC66, mN66, gC67, mN67, gC68, mN68, gC69, mN69, gC70, mN70, gC71, mN71, gC72, mN72, gC73, mN73, gC74, mN74, gC75, mN75, gC76, mN76, gC77, mN77, gC78, mN78, gC79, mN79, gC80, mN80, gC81, mN81, gC82, mN82, gC83, mN83, gC84, mN84, gC85, mN85, gC86, mN86, gC87, mN87, lt1E, e45, e71, nI_clamp (show t < 2 ^ 31 by omega), gI ht (show 12 < 2 ^ 31 by omega), nI_clamp (show s < 2 ^ 31 by omega), gI hs (show 2 < 2 ^ 31 by omega), nI_1, u2_s]
    unfold mE
    cases ok with
    | false => rw [if_pos (show bI false = 0 from rfl), if_neg (by decide), if_neg (by decide)]
    | true => rw [if_neg (show ¬ bI true = 0 by decide), if_pos rfl, if_pos rfl]
  rw [← b99]
  simp only [f_X11_text_b76, mI, mL, mZ, msI, msL, mN1020, gC1, mR1_0, mR1_1, mR1_2, mR1_3, mR1_4, mR1_5, mR1_6, mR1_7, mR1_8, gC2, mR2_6, mR2_7, gC3, mN3, gC4, mN4, gC5, mR5_0, mR5_1, gC6, mN6, gC7, mR7_0, mR7_1, gC8, mR8_0, gC9, mN9, gC10, mR10_0, gC11, mN11, mR11_0, mR11_1, mR11_2, mR11_3, mR11_4, mR11_5, gC12, mR12_0, mR12_1, gC13, mN13, gC14, mN14, gC15, mR15_0, mR15_1, gC16, mN16, gC17, mN17, gC18, mR18_0, mR18_1, gC19, mN19, gC20, mN20, gC21, mR21_0, mR21_1, gC22, mN22, gC23, mN23, gC24, mR24_0, mR24_1, gC25, mN25, gC26, mN26, gC27, mR27_0, mR27_1, gC28, mN28, gC29, mN29, gC30, mR30_0, gC31, mN31, mR31_0, mR31_1, mR31_2, mR31_3, mR31_4, mR31_5, gC32, mR32_0, mR32_1, gC33, mN33, gC34, mN34, gC35, mR35_0, mR35_1, gC36, mN36, gC37, mN37, gC38, mR38_0, mR38_1, gC39, mN39, gC40, mN40, gC41, mR41_0, mR41_1, gC42, mN42, gC43, mN43, gC44, mR44_0, mR44_1, gC45, mN45, gC46, mN46, gC47, mR47_0, mR47_1, gC48, mN48, gC49, mN49, gC50, mR50_0, mR50_1, mR50_2, mR50_3, gC51, mN51, gC52, mN52, gC53, mN53, gC54, mN54, gC55, gC56, gC57, mR57_2, mR57_3, mR57_6, mR57_7, mR57_8, mR57_9, mR57_10, mR57_11, mR57_12, mR57_13, mR57_14, mR57_15, mR57_16, mR57_18, mR57_19, mR57_20, mR57_21, mR57_22, mR57_23, mR57_25, mR57_26, mR57_27, mR57_28, mR57_37, mR57_40, mR57_41, mR57_43, mR57_44, mR57_48, mR57_49, gC58, mN58, gC59, mN59, gC60, mN60, gC61, mN61, gC62, mN62, gC63, mN63, gC64, mN64, gC65, mN65, gC66, mN66, gC67, mN67, gC68, mN68, gC69, mN69, gC70, mN70, gC71, mN71, gC72, mN72, gC73, mN73, gC74, mN74, gC75, mN75, gC76, mN76, gC77, mN77, gC78, mN78, gC79, mN79, gC80, mN80, gC81, mN81, gC82, mN82, gC83, mN83, gC84, mN84, gC85, mN85, gC86, mN86, gC87, mN87, stM_45, stM_46, e17, nI_eq (show pE < 2 ^ 31 by omega) (show T < 2 ^ 31 by omega), hok]
  cases w with
  | true => rw [if_neg (show ¬ bI true = 0 by decide)]; rfl
  | false =>
    rw [if_pos (show bI false = 0 from rfl)]
    by_cases q : pE = T
    · rw [if_pos q, decide_eq_true q]; rfl
    · rw [if_neg q, decide_eq_false q]; rfl
theorem Rel_text (h : Rel C R n z i l) {iF : fI} (ag : ∀ p k, ¬ (p = 8 ∨ (10 ≤ p ∧ p ≤ 49) ∨ (p = 57 ∧ (k = 17 ∨ k = 45 ∨ k = 46 ∨ k = 47)) ∨ (71 ≤ p ∧ p ≤ 76)) → iF p k = i p k) (h8 : iF 8 1 = 0) (h17 : iF 57 17 = 0) (hU2 : RelU iF) : Rel C R n z iF l := by
  obtain ⟨hD, hE, hK, hB, hG, hN, hF, hV, hA, hX, hT, hU, hJ, hM, hL, hO, hY, hP⟩ := id h
  have fr : ∀ S : Nat → Nat → Prop, (∀ p k, S p k → ¬ (p = 8 ∨ (10 ≤ p ∧ p ≤ 49) ∨ (p = 57 ∧ (k = 17 ∨ k = 45 ∨ k = 46 ∨ k = 47)) ∨ (71 ≤ p ∧ p ≤ 76))) → Fr S i iF := fun S hS p k hp => ag p k (hS p k hp)
  exact ⟨hD.fr (fr _ (fun p k q => by unfold sD at q; omega)), hE, hK.fr (fr _ (fun p k q => by unfold sK at q; omega)) Fr_rfl, hB.fr (fr _ (fun p k q => by unfold sB at q; omega)), hG.fr (fr _ (fun p k q => by unfold sG at q; omega)), hN.fr (fr _ (fun p k q => by unfold sN at q; omega)), hF.fr hN.1 (fr _ (fun p k q => by unfold sF at q; omega)), hV.fr (fr _ (fun p k q => by unfold sVv at q; omega)), hA.fr (fr _ (fun p k q => by unfold sVv at q; omega)) Fr_rfl, hX.fr (fr _ (fun p k q => by unfold sX at q; omega)), ⟨0, by omega, h8, h17, fun j hj => absurd hj (Nat.not_lt_zero j)⟩, hU2, hJ.fr (fr _ (fun p k q => by unfold sJ at q; omega)), hM.fr (fr _ (fun p k q => by unfold sM at q; omega)), hL.fr (fr _ (fun p k q => by unfold sLo at q; omega)), hO.fr (fr _ (fun p k q => by unfold sO at q; omega)), hY.fr (fr _ (fun p k q => by unfold sY at q; omega)), hP⟩
theorem op_text0 (h : Rel C R n z i l) (y : Int32) (hy : (0 : Int32) ≤ y ∧ y ≤ 999) : OpOK C R n z L (f_X10_text 1 0 y) (f_X11_text 57 0 y) i l := by
  obtain ⟨hD, hE, hK, hB, hG, hN, hF, hV, hA, hX, hT, hU, hJ, hM, hL, hO, hY, hP⟩ := id h
  have k0 : (0 : Int32).toNatClampNeg = 0 := by decide
  have g0 : ∀ {α : Type} (e : Option α), gd (inR (0 : Int32) 2) e = e := fun e => gd_t (by decide)
  have w0 : (0 : Int32) ≤ 0 ∧ (0 : Int32) ≤ 1 := by decide
  obtain ⟨⟨m, m1, m2, m3, m4⟩, hU1⟩ := RelU_iff.mp hU
  by_cases e6 : m = 6
  · subst e6
    refine ⟨-4, mkS n z L i l, n, i, l, ?_, ?_, ⟨_, _, rfl, by repeat first | exact Fr_rfl | refine Fr_u2 ?_ (by unfold sQ; omega)⟩, h⟩
    · simp only [f_X10_text, within_E, isDay_E, bdS, if_b, if_pos w0, if_pos hy, eq_self, if_true, mI, mL, mZ, msI, msL, mN1020, gC1, mR1_0, mR1_1, mR1_2, mR1_3, mR1_4, mR1_5, mR1_6, mR1_7, mR1_8, gC2, mR2_6, mR2_7, gC3, mN3, gC4, mN4, gC5, mR5_0, mR5_1, gC6, mN6, gC7, mR7_0, mR7_1, gC8, mR8_0, gC9, mN9, gC10, mR10_0, gC11, mN11, mR11_0, mR11_1, mR11_2, mR11_3, mR11_4, mR11_5, gC12, mR12_0, mR12_1, gC13, mN13, gC14, mN14, gC15, mR15_0, mR15_1, gC16, mN16, gC17, mN17, gC18, mR18_0, mR18_1, gC19, mN19, gC20, mN20, gC21, mR21_0, mR21_1, gC22, mN22, gC23, mN23, gC24, mR24_0, mR24_1, gC25, mN25, gC26, mN26, gC27, mR27_0, mR27_1, gC28, mN28, gC29, mN29, gC30, mR30_0, gC31, mN31, mR31_0, mR31_1, mR31_2, mR31_3, mR31_4, mR31_5, gC32, mR32_0, mR32_1, gC33, mN33, gC34, mN34, gC35, mR35_0, mR35_1, gC36, mN36, gC37, mN37, gC38, mR38_0, mR38_1, gC39, mN39, gC40, mN40, gC41, mR41_0, mR41_1, gC42, mN42, gC43, mN43, gC44, mR44_0, mR44_1, gC45, mN45, gC46, mN46, gC47, mR47_0, mR47_1, gC48, mN48, gC49, mN49, gC50, mR50_0, mR50_1, mR50_2, mR50_3, gC51, mN51, gC52, mN52, gC53, mN53, gC54, mN54, gC55, gC56, gC57, mR57_2, mR57_3, mR57_6, mR57_7, mR57_8, mR57_9, mR57_10, mR57_11, mR57_12, mR57_13, mR57_14, mR57_15, mR57_16, mR57_18, mR57_19, mR57_20, mR57_21, mR57_22, mR57_23, mR57_25, mR57_26, mR57_27, mR57_28, mR57_37, mR57_40, mR57_41, mR57_43, mR57_44, mR57_48, mR57_49, gC58, mN58, gC59, mN59, gC60, mN60, gC61, mN61, gC62, mN62, gC63, mN63, gC64, mN64, gC65, mN65, gC66, mN66, gC67, mN67, gC68, mN68, gC69, mN69, gC70, mN70, gC71, mN71, gC72, mN72, gC73, mN73, gC74, mN74, gC75, mN75, gC76, mN76, gC77, mN77, gC78, mN78, gC79, mN79, gC80, mN80, gC81, mN81, gC82, mN82, gC83, mN83, gC84, mN84, gC85, mN85, gC86, mN86, gC87, mN87, f_X10_text_b34, f_X9_next, m2]
      rw [if_pos (by decide), bdS, gd_t (by omega), if_pos rfl]
    · simp only [f_X11_text, in_E, bdS, if_b, if_pos w0, if_pos hy, mI, mL, mZ, msI, msL, mN1020, gC1, mR1_0, mR1_1, mR1_2, mR1_3, mR1_4, mR1_5, mR1_6, mR1_7, mR1_8, gC2, mR2_6, mR2_7, gC3, mN3, gC4, mN4, gC5, mR5_0, mR5_1, gC6, mN6, gC7, mR7_0, mR7_1, gC8, mR8_0, gC9, mN9, gC10, mR10_0, gC11, mN11, mR11_0, mR11_1, mR11_2, mR11_3, mR11_4, mR11_5, gC12, mR12_0, mR12_1, gC13, mN13, gC14, mN14, gC15, mR15_0, mR15_1, gC16, mN16, gC17, mN17, gC18, mR18_0, mR18_1, gC19, mN19, gC20, mN20, gC21, mR21_0, mR21_1, gC22, mN22, gC23, mN23, gC24, mR24_0, mR24_1, gC25, mN25, gC26, mN26, gC27, mR27_0, mR27_1, gC28, mN28, gC29, mN29, gC30, mR30_0, gC31, mN31, mR31_0, mR31_1, mR31_2, mR31_3, mR31_4, mR31_5, gC32, mR32_0, mR32_1, gC33, mN33, gC34, mN34, gC35, mR35_0, mR35_1, gC36, mN36, gC37, mN37, gC38, mR38_0, mR38_1, gC39, mN39, gC40, mN40, gC41, mR41_0, mR41_1, gC42, mN42, gC43, mN43, gC44, mR44_0, mR44_1, gC45, mN45, gC46, mN46, gC47, mR47_0, mR47_1, gC48, mN48, gC49, mN49, gC50, mR50_0, mR50_1, mR50_2, mR50_3, gC51, mN51, gC52, mN52, gC53, mN53, gC54, mN54, gC55, gC56, gC57, mR57_2, mR57_3, mR57_6, mR57_7, mR57_8, mR57_9, mR57_10, mR57_11, mR57_12, mR57_13, mR57_14, mR57_15, mR57_16, mR57_18, mR57_19, mR57_20, mR57_21, mR57_22, mR57_23, mR57_25, mR57_26, mR57_27, mR57_28, mR57_37, mR57_40, mR57_41, mR57_43, mR57_44, mR57_48, mR57_49, gC58, mN58, gC59, mN59, gC60, mN60, gC61, mN61, gC62, mN62, gC63, mN63, gC64, mN64, gC65, mN65, gC66, mN66, gC67, mN67, gC68, mN68, gC69, mN69, gC70, mN70, gC71, mN71, gC72, mN72, gC73, mN73, gC74, mN74, gC75, mN75, gC76, mN76, gC77, mN77, gC78, mN78, gC79, mN79, gC80, mN80, gC81, mN81, gC82, mN82, gC83, mN83, gC84, mN84, gC85, mN85, gC86, mN86, gC87, mN87, g0, k0, m3]
      rw [if_pos (by decide)]
  · have hm : m < 6 := by omega
    obtain ⟨T, b, hTC, hTM⟩ := tapeOf hT
    obtain ⟨ok, pE, F2, x1, x2, x3⟩ := med_start (n := n) (z := z) (L := L) (M := m) T b hm
    have hTC0 : TC T b (u2 (u2 i (12 + 3 * m) 3 y) (12 + 3 * m) 2 0) := TC_fr hTC (fun p k hp => by rw [u2_p _ _ (by omega), u2_p _ _ (by omega)])
    obtain ⟨i2, c1, c2, c3⟩ := x2 (u2 (u2 i (12 + 3 * m) 3 y) (12 + 3 * m) 2 0) l hTC0 (u2_s _ _ _ _)
    have i2o : ∀ p k, ¬ (12 + 3 * m ≤ p ∧ p ≤ 14 + 3 * m) → i2 p k = i p k := fun p k hp => by rw [c2 p k (by unfold sTx; omega), u2_p _ _ (by omega), u2_p _ _ (by omega)]
    have i1o : ∀ p k, ¬ (12 + 3 * m ≤ p ∧ p ≤ 14 + 3 * m) → p ≠ 8 → p ≠ 10 → cE i2 10 m pE ok p k = i p k := fun p k h1 h2 h3 => by rw [cE_o _ _ _ _ _ (by omega) (by omega)]; exact i2o p k h1
    have hTM1 : TM T b (cE i2 10 m pE ok) := TM_fr hTM (fun p k hp => i1o p k (by omega) (by omega) (by omega))
    have hY1 : RelY (cE i2 10 m pE ok) := hY.fr (fun p k hp => by unfold sY at hp; exact i1o p k (by omega) (by omega) (by omega))
    obtain ⟨i3, w, td, d1, d2, d3, d4⟩ := x3 (cE i2 10 m pE ok) l (cE i2 10 m pE ok 57 47) hTM1 hY1
    have i3o : ∀ p k, p ≠ 73 → i3 p k = cE i2 10 m pE ok p k := fun p k hp => d3 p k (by unfold sTm; omega)
    have e71 : cE i2 10 m pE ok 71 0 = nI m := by rw [i1o 71 0 (by omega) (by omega) (by omega)]; exact m3
    refine ⟨if ok = true then nI (m + 1) else -10 - nI pE, mkS n z L (cE i2 10 m pE ok) l, n, mE i3 0 m m pE w ok td y, l, ?_, ?_, ⟨_, _, rfl, fun p k hp => ?_⟩, ?_⟩
    · have bg := begT_E (i := i) (n := n) (z := z) (L := L) (l := l) (B := 12 + 3 * m) (mC n z L i l (by omega) (by omega) (by
        have : m = 0 ∨ m = 1 ∨ m = 2 ∨ m = 3 ∨ m = 4 ∨ m = 5 := by omega
        rcases this with rfl | rfl | rfl | rfl | rfl | rfl <;> rfl)) y
      have b80 := b80_0 (n := n) (z := z) (L := L) (l := l) (i2 := i2) (m := m) (pE := pE) ok (by rw [i2o 10 1 (by omega)]; exact m2)
      simp only [f_X10_text, within_E, isDay_E, bdS, if_b, if_pos w0, if_pos hy, eq_self, if_true, mI, mL, mZ, msI, msL, mN1020, gC1, mR1_0, mR1_1, mR1_2, mR1_3, mR1_4, mR1_5, mR1_6, mR1_7, mR1_8, gC2, mR2_6, mR2_7, gC3, mN3, gC4, mN4, gC5, mR5_0, mR5_1, gC6, mN6, gC7, mR7_0, mR7_1, gC8, mR8_0, gC9, mN9, gC10, mR10_0, gC11, mN11, mR11_0, mR11_1, mR11_2, mR11_3, mR11_4, mR11_5, gC12, mR12_0, mR12_1, gC13, mN13, gC14, mN14, gC15, mR15_0, mR15_1, gC16, mN16, gC17, mN17, gC18, mR18_0, mR18_1, gC19, mN19, gC20, mN20, gC21, mR21_0, mR21_1, gC22, mN22, gC23, mN23, gC24, mR24_0, mR24_1, gC25, mN25, gC26, mN26, gC27, mR27_0, mR27_1, gC28, mN28, gC29, mN29, gC30, mR30_0, gC31, mN31, mR31_0, mR31_1, mR31_2, mR31_3, mR31_4, mR31_5, gC32, mR32_0, mR32_1, gC33, mN33, gC34, mN34, gC35, mR35_0, mR35_1, gC36, mN36, gC37, mN37, gC38, mR38_0, mR38_1, gC39, mN39, gC40, mN40, gC41, mR41_0, mR41_1, gC42, mN42, gC43, mN43, gC44, mR44_0, mR44_1, gC45, mN45, gC46, mN46, gC47, mR47_0, mR47_1, gC48, mN48, gC49, mN49, gC50, mR50_0, mR50_1, mR50_2, mR50_3, gC51, mN51, gC52, mN52, gC53, mN53, gC54, mN54, gC55, gC56, gC57, mR57_2, mR57_3, mR57_6, mR57_7, mR57_8, mR57_9, mR57_10, mR57_11, mR57_12, mR57_13, mR57_14, mR57_15, mR57_16, mR57_18, mR57_19, mR57_20, mR57_21, mR57_22, mR57_23, mR57_25, mR57_26, mR57_27, mR57_28, mR57_37, mR57_40, mR57_41, mR57_43, mR57_44, mR57_48, mR57_49, gC58, mN58, gC59, mN59, gC60, mN60, gC61, mN61, gC62, mN62, gC63, mN63, gC64, mN64, gC65, mN65, gC66, mN66, gC67, mN67, gC68, mN68, gC69, mN69, gC70, mN70, gC71, mN71, gC72, mN72, gC73, mN73, gC74, mN74, gC75, mN75, gC76, mN76, gC77, mN77, gC78, mN78, gC79, mN79, gC80, mN80, gC81, mN81, gC82, mN82, gC83, mN83, gC84, mN84, gC85, mN85, gC86, mN86, gC87, mN87, f_X10_text_b34, f_X9_next, m2, nI_clamp (show m < 2 ^ 31 by omega), gI hm (show 6 < 2 ^ 31 by omega), tx0_t hm]
      rw [if_neg (by rw [show (6 : Int32) = nI 6 from rfl]; exact nI_ge hm (by omega)), bdS, gd_t (by omega), if_neg (by omega), tx0_c hm, bg, bdS]
      simp only [mI, mL, mZ, msI, msL, mN1020, gC1, mR1_0, mR1_1, mR1_2, mR1_3, mR1_4, mR1_5, mR1_6, mR1_7, mR1_8, gC2, mR2_6, mR2_7, gC3, mN3, gC4, mN4, gC5, mR5_0, mR5_1, gC6, mN6, gC7, mR7_0, mR7_1, gC8, mR8_0, gC9, mN9, gC10, mR10_0, gC11, mN11, mR11_0, mR11_1, mR11_2, mR11_3, mR11_4, mR11_5, gC12, mR12_0, mR12_1, gC13, mN13, gC14, mN14, gC15, mR15_0, mR15_1, gC16, mN16, gC17, mN17, gC18, mR18_0, mR18_1, gC19, mN19, gC20, mN20, gC21, mR21_0, mR21_1, gC22, mN22, gC23, mN23, gC24, mR24_0, mR24_1, gC25, mN25, gC26, mN26, gC27, mR27_0, mR27_1, gC28, mN28, gC29, mN29, gC30, mR30_0, gC31, mN31, mR31_0, mR31_1, mR31_2, mR31_3, mR31_4, mR31_5, gC32, mR32_0, mR32_1, gC33, mN33, gC34, mN34, gC35, mR35_0, mR35_1, gC36, mN36, gC37, mN37, gC38, mR38_0, mR38_1, gC39, mN39, gC40, mN40, gC41, mR41_0, mR41_1, gC42, mN42, gC43, mN43, gC44, mR44_0, mR44_1, gC45, mN45, gC46, mN46, gC47, mR47_0, mR47_1, gC48, mN48, gC49, mN49, gC50, mR50_0, mR50_1, mR50_2, mR50_3, gC51, mN51, gC52, mN52, gC53, mN53, gC54, mN54, gC55, gC56, gC57, mR57_2, mR57_3, mR57_6, mR57_7, mR57_8, mR57_9, mR57_10, mR57_11, mR57_12, mR57_13, mR57_14, mR57_15, mR57_16, mR57_18, mR57_19, mR57_20, mR57_21, mR57_22, mR57_23, mR57_25, mR57_26, mR57_27, mR57_28, mR57_37, mR57_40, mR57_41, mR57_43, mR57_44, mR57_48, mR57_49, gC58, mN58, gC59, mN59, gC60, mN60, gC61, mN61, gC62, mN62, gC63, mN63, gC64, mN64, gC65, mN65, gC66, mN66, gC67, mN67, gC68, mN68, gC69, mN69, gC70, mN70, gC71, mN71, gC72, mN72, gC73, mN73, gC74, mN74, gC75, mN75, gC76, mN76, gC77, mN77, gC78, mN78, gC79, mN79, gC80, mN80, gC81, mN81, gC82, mN82, gC83, mN83, gC84, mN84, gC85, mN85, gC86, mN86, gC87, mN87, c1, bdS]
      exact b80
    · have s6 : (6 : Int32) * 0 + nI m = nI m := by rw [Int32.mul_zero, Int32.zero_add]
      have b76 := b76_E (n := n) (z := z) (L := L) (l := l) (i3 := i3) (s := 0) (t := m) (m := m) (pE := pE) (w := w) (ok := ok) (td := td) (y := y) (x1 := 0) (by omega) rfl (by omega) hTC.1 x1 (by rw [i3o 57 17 (by omega)]; exact hTM1.2.1) (by rw [i3o 71 0 (by omega)]; exact e71) d2
      have e71' : stM (cE i2 10 m pE ok) 0 false (cE i2 10 m pE ok 57 47) 71 0 = nI m := by rw [stM_o _ _ _ _ (by omega)]; exact e71
      simp only [f_X11_text, in_E, bdS, if_b, if_pos w0, if_pos hy, mI, mL, mZ, msI, msL, mN1020, gC1, mR1_0, mR1_1, mR1_2, mR1_3, mR1_4, mR1_5, mR1_6, mR1_7, mR1_8, gC2, mR2_6, mR2_7, gC3, mN3, gC4, mN4, gC5, mR5_0, mR5_1, gC6, mN6, gC7, mR7_0, mR7_1, gC8, mR8_0, gC9, mN9, gC10, mR10_0, gC11, mN11, mR11_0, mR11_1, mR11_2, mR11_3, mR11_4, mR11_5, gC12, mR12_0, mR12_1, gC13, mN13, gC14, mN14, gC15, mR15_0, mR15_1, gC16, mN16, gC17, mN17, gC18, mR18_0, mR18_1, gC19, mN19, gC20, mN20, gC21, mR21_0, mR21_1, gC22, mN22, gC23, mN23, gC24, mR24_0, mR24_1, gC25, mN25, gC26, mN26, gC27, mR27_0, mR27_1, gC28, mN28, gC29, mN29, gC30, mR30_0, gC31, mN31, mR31_0, mR31_1, mR31_2, mR31_3, mR31_4, mR31_5, gC32, mR32_0, mR32_1, gC33, mN33, gC34, mN34, gC35, mR35_0, mR35_1, gC36, mN36, gC37, mN37, gC38, mR38_0, mR38_1, gC39, mN39, gC40, mN40, gC41, mR41_0, mR41_1, gC42, mN42, gC43, mN43, gC44, mR44_0, mR44_1, gC45, mN45, gC46, mN46, gC47, mR47_0, mR47_1, gC48, mN48, gC49, mN49, gC50, mR50_0, mR50_1, mR50_2, mR50_3, gC51, mN51, gC52, mN52, gC53, mN53, gC54, mN54, gC55, gC56, gC57, mR57_2, mR57_3, mR57_6, mR57_7, mR57_8, mR57_9, mR57_10, mR57_11, mR57_12, mR57_13, mR57_14, mR57_15, mR57_16, mR57_18, mR57_19, mR57_20, mR57_21, mR57_22, mR57_23, mR57_25, mR57_26, mR57_27, mR57_28, mR57_37, mR57_40, mR57_41, mR57_43, mR57_44, mR57_48, mR57_49, gC58, mN58, gC59, mN59, gC60, mN60, gC61, mN61, gC62, mN62, gC63, mN63, gC64, mN64, gC65, mN65, gC66, mN66, gC67, mN67, gC68, mN68, gC69, mN69, gC70, mN70, gC71, mN71, gC72, mN72, gC73, mN73, gC74, mN74, gC75, mN75, gC76, mN76, gC77, mN77, gC78, mN78, gC79, mN79, gC80, mN80, gC81, mN81, gC82, mN82, gC83, mN83, gC84, mN84, gC85, mN85, gC86, mN86, gC87, mN87, g0, k0, e71, lt1E, stM_of, e71', s6, eq_self, if_true, d1, b76]
      rw [if_neg (by rw [show (6 : Int32) = nI 6 from rfl, nI_eq (by omega) (by omega)]; exact e6)]
    · unfold sQ at hp
      exact i1o p k (by omega) (by omega) (by omega)
    · have ag : ∀ p k, ¬ (p = 8 ∨ (10 ≤ p ∧ p ≤ 49) ∨ (p = 57 ∧ (k = 17 ∨ k = 45 ∨ k = 46 ∨ k = 47)) ∨ (71 ≤ p ∧ p ≤ 76)) → mE i3 0 m m pE w ok td y p k = i p k := fun p k hp => by
        rw [mE_o _ _ _ _ _ _ _ _ _ (by omega) (by omega) (by omega), i3o p k (by omega), i1o p k (by omega) (by omega) (by omega)]
      refine Rel_text h ag ?_ (mE_17 _ _ _ _ _ _ _ _ _) (RelU_iff.mpr ⟨?_, ?_⟩)
      · rw [mE_o _ _ _ _ _ _ _ _ _ (by omega) (by omega) (by omega), i3o 8 1 (by omega), cE_8 _ _ _ _ _ (by omega)]
      · have old : ∀ t, t < m → Ut0 (mE i3 0 m m pE w ok td y) t := fun t ht => Ut0_fr (m4 t ht) (fun k => by
          have q : ∀ p, 12 + 3 * t ≤ p → p ≤ 14 + 3 * t → mE i3 0 m m pE w ok td y p k = i p k := fun p h1 h2 => by
            rw [mE_o _ _ _ _ _ _ _ _ _ (by omega) (by omega) (by omega), i3o p k (by omega), i1o p k (by omega) (by omega) (by omega)]
          exact ⟨q _ (by omega) (by omega), q _ (by omega) (by omega), q _ (by omega) (by omega)⟩) (by
          rw [mE_o _ _ _ _ _ _ _ _ _ (by omega) (by omega) (by omega), i3o 72 t (by omega), i1o 72 t (by omega) (by omega) (by omega)]) (fun k hk => by
          rw [mE_o _ _ _ _ _ _ _ _ _ (by omega) (by omega) (by omega), d3 73 _ (by unfold sTm; omega), i1o 73 _ (by omega) (by omega) (by omega)])
        cases hok : ok with
        | false =>
          rw [hok] at old
          refine ⟨m, by omega, ?_, ?_, old⟩
          · rw [mE_o _ _ _ _ _ _ _ _ _ (by omega) (by omega) (by omega), i3o 10 1 (by omega), hok]
            unfold cE
            rw [if_neg (by decide), u2_p _ _ (by decide), u2_p _ _ (by decide), i2o 10 1 (by omega)]
            exact m2
          · unfold mE
            rw [if_neg (by decide), u2_p _ _ (by decide), stM_o _ _ _ _ (by omega), i3o 71 0 (by omega)]
            exact e71
        | true =>
          rw [hok] at old
          obtain ⟨e2, f1, f2, f3⟩ := c3 hok
          have f4 := d4 hok
          have im : ∀ k, i3 (12 + 3 * m) k = i2 (12 + 3 * m) k ∧ i3 (13 + 3 * m) k = i2 (13 + 3 * m) k ∧ i3 (14 + 3 * m) k = i2 (14 + 3 * m) k := fun k => by
            rw [i3o _ k (by omega), i3o _ k (by omega), i3o _ k (by omega), cE_o _ _ _ _ _ (by omega) (by omega), cE_o _ _ _ _ _ (by omega) (by omega), cE_o _ _ _ _ _ (by omega) (by omega)]
            exact ⟨rfl, rfl, rfl⟩
          refine ⟨m + 1, by omega, ?_, ?_, fun t ht => ?_⟩
          · rw [mE_o _ _ _ _ _ _ _ _ _ (by omega) (by omega) (by omega), i3o 10 1 (by omega), hok]
            unfold cE
            rw [if_pos rfl, u2_s]
          · unfold mE
            rw [if_pos rfl, u2_s]
          · by_cases et : t = m
            · subst et
              refine ⟨?_, e2, by omega, ?_, fun a => ?_⟩
              · have r1 : mE i3 0 t t pE w true td y 72 t = y := by
                  unfold mE
                  rw [if_pos rfl, u2_p _ _ (by decide), u2_s]
                rw [r1, mE_o _ _ _ _ _ _ _ _ _ (by omega) (by omega) (by omega), (im 3).1, c2 _ _ (by unfold sTx; omega), u2_k _ _ (by decide), u2_s]
              · rw [mE_o _ _ _ _ _ _ _ _ _ (by omega) (by omega) (by omega), (im 2).1]
                exact f2
              · have r1 : medC (mE i3 0 t t pE w true td y) t e2 a = F2 a 0 := by
                  rw [← f3 a 0]
                  exact fsel_cong _ _ (fun j _ _ => ⟨by rw [mE_o _ _ _ _ _ _ _ _ _ (by omega) (by omega) (by omega), (im j).2.2], by rw [mE_o _ _ _ _ _ _ _ _ _ (by omega) (by omega) (by omega), (im j).2.1]⟩) rfl
                have r2 : medM (mE i3 0 t t pE w true td y) t a = F2 a 0 := by
                  rw [← f4 a 0]
                  exact fsel_cong _ _ (fun j _ _ => ⟨by rw [mE_o _ _ _ _ _ _ _ _ _ (by omega) (by omega) (by omega)], rfl⟩) rfl
                rw [r1, r2]
            · exact old t (by omega)
      · obtain ⟨q, q1, q2, q3, q4⟩ := hU1
        have o : ∀ p k, (30 ≤ p ∧ p ≤ 49) ∨ (p = 71 ∧ k = 1) ∨ (p = 72 ∧ 6 ≤ k) ∨ p = 74 ∨ p = 75 ∨ p = 76 → mE i3 0 m m pE w ok td y p k = i p k := fun p k hp => by
          rw [mE_o _ _ _ _ _ _ _ _ _ (by omega) (by omega) (by omega), i3o p k (by omega), i1o p k (by omega) (by omega) (by omega)]
        refine ⟨q, q1, by rw [o 30 1 (by omega)]; exact q2, by rw [o 71 1 (by omega)]; exact q3, fun t ht => Ut1_fr (q4 t ht) (fun k => ⟨o _ k (by omega), o _ k (by omega), o _ k (by omega)⟩) (o _ _ (by omega)) (o _ _ (by omega)) (fun k _ => o _ _ (by omega)) (fun k _ => o _ _ (by omega))⟩
theorem op_text1 (h : Rel C R n z i l) (y : Int32) (hy : (0 : Int32) ≤ y ∧ y ≤ 999) : OpOK C R n z L (f_X10_text 1 1 y) (f_X11_text 57 1 y) i l := by
  obtain ⟨hD, hE, hK, hB, hG, hN, hF, hV, hA, hX, hT, hU, hJ, hM, hL, hO, hY, hP⟩ := id h
  have k0 : (1 : Int32).toNatClampNeg = 1 := by decide
  have g0 : ∀ {α : Type} (e : Option α), gd (inR (1 : Int32) 2) e = e := fun e => gd_t (by decide)
  have w0 : (0 : Int32) ≤ 1 ∧ (1 : Int32) ≤ 1 := by decide
  have n10 : ¬ (1 : Int32) = 0 := by decide
  obtain ⟨hU0, ⟨m, m1, m2, m3, m4⟩⟩ := RelU_iff.mp hU
  by_cases e6 : m = 6
  · subst e6
    refine ⟨-4, mkS n z L i l, n, i, l, ?_, ?_, ⟨_, _, rfl, by repeat first | exact Fr_rfl | refine Fr_u2 ?_ (by unfold sQ; omega)⟩, h⟩
    · simp only [f_X10_text, within_E, isDay_E, bdS, if_b, if_pos w0, if_pos hy, if_neg n10, mI, mL, mZ, msI, msL, mN1020, gC1, mR1_0, mR1_1, mR1_2, mR1_3, mR1_4, mR1_5, mR1_6, mR1_7, mR1_8, gC2, mR2_6, mR2_7, gC3, mN3, gC4, mN4, gC5, mR5_0, mR5_1, gC6, mN6, gC7, mR7_0, mR7_1, gC8, mR8_0, gC9, mN9, gC10, mR10_0, gC11, mN11, mR11_0, mR11_1, mR11_2, mR11_3, mR11_4, mR11_5, gC12, mR12_0, mR12_1, gC13, mN13, gC14, mN14, gC15, mR15_0, mR15_1, gC16, mN16, gC17, mN17, gC18, mR18_0, mR18_1, gC19, mN19, gC20, mN20, gC21, mR21_0, mR21_1, gC22, mN22, gC23, mN23, gC24, mR24_0, mR24_1, gC25, mN25, gC26, mN26, gC27, mR27_0, mR27_1, gC28, mN28, gC29, mN29, gC30, mR30_0, gC31, mN31, mR31_0, mR31_1, mR31_2, mR31_3, mR31_4, mR31_5, gC32, mR32_0, mR32_1, gC33, mN33, gC34, mN34, gC35, mR35_0, mR35_1, gC36, mN36, gC37, mN37, gC38, mR38_0, mR38_1, gC39, mN39, gC40, mN40, gC41, mR41_0, mR41_1, gC42, mN42, gC43, mN43, gC44, mR44_0, mR44_1, gC45, mN45, gC46, mN46, gC47, mR47_0, mR47_1, gC48, mN48, gC49, mN49, gC50, mR50_0, mR50_1, mR50_2, mR50_3, gC51, mN51, gC52, mN52, gC53, mN53, gC54, mN54, gC55, gC56, gC57, mR57_2, mR57_3, mR57_6, mR57_7, mR57_8, mR57_9, mR57_10, mR57_11, mR57_12, mR57_13, mR57_14, mR57_15, mR57_16, mR57_18, mR57_19, mR57_20, mR57_21, mR57_22, mR57_23, mR57_25, mR57_26, mR57_27, mR57_28, mR57_37, mR57_40, mR57_41, mR57_43, mR57_44, mR57_48, mR57_49, gC58, mN58, gC59, mN59, gC60, mN60, gC61, mN61, gC62, mN62, gC63, mN63, gC64, mN64, gC65, mN65, gC66, mN66, gC67, mN67, gC68, mN68, gC69, mN69, gC70, mN70, gC71, mN71, gC72, mN72, gC73, mN73, gC74, mN74, gC75, mN75, gC76, mN76, gC77, mN77, gC78, mN78, gC79, mN79, gC80, mN80, gC81, mN81, gC82, mN82, gC83, mN83, gC84, mN84, gC85, mN85, gC86, mN86, gC87, mN87, f_X10_text_b34, f_X9_next, m2]
      rw [if_pos (by decide), bdS, gd_t (by omega), if_pos rfl]
    · simp only [f_X11_text, in_E, bdS, if_b, if_pos w0, if_pos hy, mI, mL, mZ, msI, msL, mN1020, gC1, mR1_0, mR1_1, mR1_2, mR1_3, mR1_4, mR1_5, mR1_6, mR1_7, mR1_8, gC2, mR2_6, mR2_7, gC3, mN3, gC4, mN4, gC5, mR5_0, mR5_1, gC6, mN6, gC7, mR7_0, mR7_1, gC8, mR8_0, gC9, mN9, gC10, mR10_0, gC11, mN11, mR11_0, mR11_1, mR11_2, mR11_3, mR11_4, mR11_5, gC12, mR12_0, mR12_1, gC13, mN13, gC14, mN14, gC15, mR15_0, mR15_1, gC16, mN16, gC17, mN17, gC18, mR18_0, mR18_1, gC19, mN19, gC20, mN20, gC21, mR21_0, mR21_1, gC22, mN22, gC23, mN23, gC24, mR24_0, mR24_1, gC25, mN25, gC26, mN26, gC27, mR27_0, mR27_1, gC28, mN28, gC29, mN29, gC30, mR30_0, gC31, mN31, mR31_0, mR31_1, mR31_2, mR31_3, mR31_4, mR31_5, gC32, mR32_0, mR32_1, gC33, mN33, gC34, mN34, gC35, mR35_0, mR35_1, gC36, mN36, gC37, mN37, gC38, mR38_0, mR38_1, gC39, mN39, gC40, mN40, gC41, mR41_0, mR41_1, gC42, mN42, gC43, mN43, gC44, mR44_0, mR44_1, gC45, mN45, gC46, mN46, gC47, mR47_0, mR47_1, gC48, mN48, gC49, mN49, gC50, mR50_0, mR50_1, mR50_2, mR50_3, gC51, mN51, gC52, mN52, gC53, mN53, gC54, mN54, gC55, gC56, gC57, mR57_2, mR57_3, mR57_6, mR57_7, mR57_8, mR57_9, mR57_10, mR57_11, mR57_12, mR57_13, mR57_14, mR57_15, mR57_16, mR57_18, mR57_19, mR57_20, mR57_21, mR57_22, mR57_23, mR57_25, mR57_26, mR57_27, mR57_28, mR57_37, mR57_40, mR57_41, mR57_43, mR57_44, mR57_48, mR57_49, gC58, mN58, gC59, mN59, gC60, mN60, gC61, mN61, gC62, mN62, gC63, mN63, gC64, mN64, gC65, mN65, gC66, mN66, gC67, mN67, gC68, mN68, gC69, mN69, gC70, mN70, gC71, mN71, gC72, mN72, gC73, mN73, gC74, mN74, gC75, mN75, gC76, mN76, gC77, mN77, gC78, mN78, gC79, mN79, gC80, mN80, gC81, mN81, gC82, mN82, gC83, mN83, gC84, mN84, gC85, mN85, gC86, mN86, gC87, mN87, g0, k0, m3]
      rw [if_pos (by decide)]
  · have hm : m < 6 := by omega
    obtain ⟨T, b, hTC, hTM⟩ := tapeOf hT
    obtain ⟨ok, pE, G, x1, x2, x3⟩ := day_start (n := n) (z := z) (L := L) (M := m) T b hm
    have hTC0 : TC T b (u2 (u2 i (32 + 3 * m) 3 y) (32 + 3 * m) 2 0) := TC_fr hTC (fun p k hp => by rw [u2_p _ _ (by omega), u2_p _ _ (by omega)])
    obtain ⟨i2, c1, c2, c3⟩ := x2 (u2 (u2 i (32 + 3 * m) 3 y) (32 + 3 * m) 2 0) l hTC0 (u2_s _ _ _ _)
    have i2o : ∀ p k, ¬ (32 + 3 * m ≤ p ∧ p ≤ 34 + 3 * m) → i2 p k = i p k := fun p k hp => by rw [c2 p k (by unfold sTx; omega), u2_p _ _ (by omega), u2_p _ _ (by omega)]
    have i1o : ∀ p k, ¬ (32 + 3 * m ≤ p ∧ p ≤ 34 + 3 * m) → p ≠ 8 → p ≠ 30 → cE i2 30 m pE ok p k = i p k := fun p k h1 h2 h3 => by rw [cE_o _ _ _ _ _ (by omega) (by omega)]; exact i2o p k h1
    have hTM1 : TM T b (cE i2 30 m pE ok) := TM_fr hTM (fun p k hp => i1o p k (by omega) (by omega) (by omega))
    obtain ⟨i3, w, td, d1, d2, d3, d4⟩ := x3 (cE i2 30 m pE ok) l (cE i2 30 m pE ok 57 47) hTM1
    have i3o : ∀ p k, ¬ (74 ≤ p ∧ p ≤ 76) → i3 p k = cE i2 30 m pE ok p k := fun p k hp => d3 p k (by unfold sTd; omega)
    have e71 : cE i2 30 m pE ok 71 1 = nI m := by rw [i1o 71 1 (by omega) (by omega) (by omega)]; exact m3
    refine ⟨if ok = true then nI (m + 1) else -10 - nI pE, mkS n z L (cE i2 30 m pE ok) l, n, mE i3 1 (6 + m) m pE w ok td y, l, ?_, ?_, ⟨_, _, rfl, fun p k hp => ?_⟩, ?_⟩
    · have bg := begT_E (i := i) (n := n) (z := z) (L := L) (l := l) (B := 32 + 3 * m) (mC n z L i l (by omega) (by omega) (by
        have : m = 0 ∨ m = 1 ∨ m = 2 ∨ m = 3 ∨ m = 4 ∨ m = 5 := by omega
        rcases this with rfl | rfl | rfl | rfl | rfl | rfl <;> rfl)) y
      have b80 := b80_1 (n := n) (z := z) (L := L) (l := l) (i2 := i2) (m := m) (pE := pE) ok (by rw [i2o 30 1 (by omega)]; exact m2)
      simp only [f_X10_text, within_E, isDay_E, bdS, if_b, if_pos w0, if_pos hy, if_neg n10, mI, mL, mZ, msI, msL, mN1020, gC1, mR1_0, mR1_1, mR1_2, mR1_3, mR1_4, mR1_5, mR1_6, mR1_7, mR1_8, gC2, mR2_6, mR2_7, gC3, mN3, gC4, mN4, gC5, mR5_0, mR5_1, gC6, mN6, gC7, mR7_0, mR7_1, gC8, mR8_0, gC9, mN9, gC10, mR10_0, gC11, mN11, mR11_0, mR11_1, mR11_2, mR11_3, mR11_4, mR11_5, gC12, mR12_0, mR12_1, gC13, mN13, gC14, mN14, gC15, mR15_0, mR15_1, gC16, mN16, gC17, mN17, gC18, mR18_0, mR18_1, gC19, mN19, gC20, mN20, gC21, mR21_0, mR21_1, gC22, mN22, gC23, mN23, gC24, mR24_0, mR24_1, gC25, mN25, gC26, mN26, gC27, mR27_0, mR27_1, gC28, mN28, gC29, mN29, gC30, mR30_0, gC31, mN31, mR31_0, mR31_1, mR31_2, mR31_3, mR31_4, mR31_5, gC32, mR32_0, mR32_1, gC33, mN33, gC34, mN34, gC35, mR35_0, mR35_1, gC36, mN36, gC37, mN37, gC38, mR38_0, mR38_1, gC39, mN39, gC40, mN40, gC41, mR41_0, mR41_1, gC42, mN42, gC43, mN43, gC44, mR44_0, mR44_1, gC45, mN45, gC46, mN46, gC47, mR47_0, mR47_1, gC48, mN48, gC49, mN49, gC50, mR50_0, mR50_1, mR50_2, mR50_3, gC51, mN51, gC52, mN52, gC53, mN53, gC54, mN54, gC55, gC56, gC57, mR57_2, mR57_3, mR57_6, mR57_7, mR57_8, mR57_9, mR57_10, mR57_11, mR57_12, mR57_13, mR57_14, mR57_15, mR57_16, mR57_18, mR57_19, mR57_20, mR57_21, mR57_22, mR57_23, mR57_25, mR57_26, mR57_27, mR57_28, mR57_37, mR57_40, mR57_41, mR57_43, mR57_44, mR57_48, mR57_49, gC58, mN58, gC59, mN59, gC60, mN60, gC61, mN61, gC62, mN62, gC63, mN63, gC64, mN64, gC65, mN65, gC66, mN66, gC67, mN67, gC68, mN68, gC69, mN69, gC70, mN70, gC71, mN71, gC72, mN72, gC73, mN73, gC74, mN74, gC75, mN75, gC76, mN76, gC77, mN77, gC78, mN78, gC79, mN79, gC80, mN80, gC81, mN81, gC82, mN82, gC83, mN83, gC84, mN84, gC85, mN85, gC86, mN86, gC87, mN87, f_X10_text_b34, f_X9_next, m2, nI_clamp (show m < 2 ^ 31 by omega), gI hm (show 6 < 2 ^ 31 by omega), tx1_t hm]
      rw [if_neg (by rw [show (6 : Int32) = nI 6 from rfl]; exact nI_ge hm (by omega)), bdS, gd_t (by omega), if_neg (by omega), tx1_c hm, bg, bdS]
      simp only [mI, mL, mZ, msI, msL, mN1020, gC1, mR1_0, mR1_1, mR1_2, mR1_3, mR1_4, mR1_5, mR1_6, mR1_7, mR1_8, gC2, mR2_6, mR2_7, gC3, mN3, gC4, mN4, gC5, mR5_0, mR5_1, gC6, mN6, gC7, mR7_0, mR7_1, gC8, mR8_0, gC9, mN9, gC10, mR10_0, gC11, mN11, mR11_0, mR11_1, mR11_2, mR11_3, mR11_4, mR11_5, gC12, mR12_0, mR12_1, gC13, mN13, gC14, mN14, gC15, mR15_0, mR15_1, gC16, mN16, gC17, mN17, gC18, mR18_0, mR18_1, gC19, mN19, gC20, mN20, gC21, mR21_0, mR21_1, gC22, mN22, gC23, mN23, gC24, mR24_0, mR24_1, gC25, mN25, gC26, mN26, gC27, mR27_0, mR27_1, gC28, mN28, gC29, mN29, gC30, mR30_0, gC31, mN31, mR31_0, mR31_1, mR31_2, mR31_3, mR31_4, mR31_5, gC32, mR32_0, mR32_1, gC33, mN33, gC34, mN34, gC35, mR35_0, mR35_1, gC36, mN36, gC37, mN37, gC38, mR38_0, mR38_1, gC39, mN39, gC40, mN40, gC41, mR41_0, mR41_1, gC42, mN42, gC43, mN43, gC44, mR44_0, mR44_1, gC45, mN45, gC46, mN46, gC47, mR47_0, mR47_1, gC48, mN48, gC49, mN49, gC50, mR50_0, mR50_1, mR50_2, mR50_3, gC51, mN51, gC52, mN52, gC53, mN53, gC54, mN54, gC55, gC56, gC57, mR57_2, mR57_3, mR57_6, mR57_7, mR57_8, mR57_9, mR57_10, mR57_11, mR57_12, mR57_13, mR57_14, mR57_15, mR57_16, mR57_18, mR57_19, mR57_20, mR57_21, mR57_22, mR57_23, mR57_25, mR57_26, mR57_27, mR57_28, mR57_37, mR57_40, mR57_41, mR57_43, mR57_44, mR57_48, mR57_49, gC58, mN58, gC59, mN59, gC60, mN60, gC61, mN61, gC62, mN62, gC63, mN63, gC64, mN64, gC65, mN65, gC66, mN66, gC67, mN67, gC68, mN68, gC69, mN69, gC70, mN70, gC71, mN71, gC72, mN72, gC73, mN73, gC74, mN74, gC75, mN75, gC76, mN76, gC77, mN77, gC78, mN78, gC79, mN79, gC80, mN80, gC81, mN81, gC82, mN82, gC83, mN83, gC84, mN84, gC85, mN85, gC86, mN86, gC87, mN87, c1, bdS]
      exact b80
    · have s6 : (6 : Int32) * 1 + nI m = nI (6 + m) := by rw [show (6 : Int32) * 1 = nI 6 by decide, nI_add]
      have b76 := b76_E (n := n) (z := z) (L := L) (l := l) (i3 := i3) (s := 1) (t := 6 + m) (m := m) (pE := pE) (w := w) (ok := ok) (td := td) (y := y) (x1 := 1) (by omega) rfl (by omega) hTC.1 x1 (by rw [i3o 57 17 (by omega)]; exact hTM1.2.1) (by rw [i3o 71 1 (by omega)]; exact e71) d2
      have e71' : stM (cE i2 30 m pE ok) 0 false (cE i2 30 m pE ok 57 47) 71 1 = nI m := by rw [stM_o _ _ _ _ (by omega)]; exact e71
      simp only [f_X11_text, in_E, bdS, if_b, if_pos w0, if_pos hy, mI, mL, mZ, msI, msL, mN1020, gC1, mR1_0, mR1_1, mR1_2, mR1_3, mR1_4, mR1_5, mR1_6, mR1_7, mR1_8, gC2, mR2_6, mR2_7, gC3, mN3, gC4, mN4, gC5, mR5_0, mR5_1, gC6, mN6, gC7, mR7_0, mR7_1, gC8, mR8_0, gC9, mN9, gC10, mR10_0, gC11, mN11, mR11_0, mR11_1, mR11_2, mR11_3, mR11_4, mR11_5, gC12, mR12_0, mR12_1, gC13, mN13, gC14, mN14, gC15, mR15_0, mR15_1, gC16, mN16, gC17, mN17, gC18, mR18_0, mR18_1, gC19, mN19, gC20, mN20, gC21, mR21_0, mR21_1, gC22, mN22, gC23, mN23, gC24, mR24_0, mR24_1, gC25, mN25, gC26, mN26, gC27, mR27_0, mR27_1, gC28, mN28, gC29, mN29, gC30, mR30_0, gC31, mN31, mR31_0, mR31_1, mR31_2, mR31_3, mR31_4, mR31_5, gC32, mR32_0, mR32_1, gC33, mN33, gC34, mN34, gC35, mR35_0, mR35_1, gC36, mN36, gC37, mN37, gC38, mR38_0, mR38_1, gC39, mN39, gC40, mN40, gC41, mR41_0, mR41_1, gC42, mN42, gC43, mN43, gC44, mR44_0, mR44_1, gC45, mN45, gC46, mN46, gC47, mR47_0, mR47_1, gC48, mN48, gC49, mN49, gC50, mR50_0, mR50_1, mR50_2, mR50_3, gC51, mN51, gC52, mN52, gC53, mN53, gC54, mN54, gC55, gC56, gC57, mR57_2, mR57_3, mR57_6, mR57_7, mR57_8, mR57_9, mR57_10, mR57_11, mR57_12, mR57_13, mR57_14, mR57_15, mR57_16, mR57_18, mR57_19, mR57_20, mR57_21, mR57_22, mR57_23, mR57_25, mR57_26, mR57_27, mR57_28, mR57_37, mR57_40, mR57_41, mR57_43, mR57_44, mR57_48, mR57_49, gC58, mN58, gC59, mN59, gC60, mN60, gC61, mN61, gC62, mN62, gC63, mN63, gC64, mN64, gC65, mN65, gC66, mN66, gC67, mN67, gC68, mN68, gC69, mN69, gC70, mN70, gC71, mN71, gC72, mN72, gC73, mN73, gC74, mN74, gC75, mN75, gC76, mN76, gC77, mN77, gC78, mN78, gC79, mN79, gC80, mN80, gC81, mN81, gC82, mN82, gC83, mN83, gC84, mN84, gC85, mN85, gC86, mN86, gC87, mN87, g0, k0, e71, lt1E, stM_of, e71', s6, if_neg n10, d1, b76]
      rw [if_neg (by rw [show (6 : Int32) = nI 6 from rfl, nI_eq (by omega) (by omega)]; exact e6)]
    · unfold sQ at hp
      exact i1o p k (by omega) (by omega) (by omega)
    · have ag : ∀ p k, ¬ (p = 8 ∨ (10 ≤ p ∧ p ≤ 49) ∨ (p = 57 ∧ (k = 17 ∨ k = 45 ∨ k = 46 ∨ k = 47)) ∨ (71 ≤ p ∧ p ≤ 76)) → mE i3 1 (6 + m) m pE w ok td y p k = i p k := fun p k hp => by
        rw [mE_o _ _ _ _ _ _ _ _ _ (by omega) (by omega) (by omega), i3o p k (by omega), i1o p k (by omega) (by omega) (by omega)]
      refine Rel_text h ag ?_ (mE_17 _ _ _ _ _ _ _ _ _) (RelU_iff.mpr ⟨?_, ?_⟩)
      · rw [mE_o _ _ _ _ _ _ _ _ _ (by omega) (by omega) (by omega), i3o 8 1 (by omega), cE_8 _ _ _ _ _ (by omega)]
      · obtain ⟨q, q1, q2, q3, q4⟩ := hU0
        have o : ∀ p k, (10 ≤ p ∧ p ≤ 29) ∨ (p = 71 ∧ k = 0) ∨ (p = 72 ∧ k < 6) ∨ p = 73 → mE i3 1 (6 + m) m pE w ok td y p k = i p k := fun p k hp => by
          rw [mE_o _ _ _ _ _ _ _ _ _ (by omega) (by omega) (by omega), i3o p k (by omega), i1o p k (by omega) (by omega) (by omega)]
        refine ⟨q, q1, by rw [o 10 1 (by omega)]; exact q2, by rw [o 71 0 (by omega)]; exact q3, fun t ht => Ut0_fr (q4 t ht) (fun k => ⟨o _ k (by omega), o _ k (by omega), o _ k (by omega)⟩) (o _ _ (by omega)) (fun k _ => o _ _ (by omega))⟩
      · have old : ∀ t, t < m → Ut1 (mE i3 1 (6 + m) m pE w ok td y) t := fun t ht => Ut1_fr (m4 t ht) (fun k => by
          have q : ∀ p, 32 + 3 * t ≤ p → p ≤ 34 + 3 * t → mE i3 1 (6 + m) m pE w ok td y p k = i p k := fun p h1 h2 => by
            rw [mE_o _ _ _ _ _ _ _ _ _ (by omega) (by omega) (by omega), i3o p k (by omega), i1o p k (by omega) (by omega) (by omega)]
          exact ⟨q _ (by omega) (by omega), q _ (by omega) (by omega), q _ (by omega) (by omega)⟩) (by
          rw [mE_o _ _ _ _ _ _ _ _ _ (by omega) (by omega) (by omega), i3o 72 _ (by omega), i1o 72 _ (by omega) (by omega) (by omega)]) (by
          rw [mE_o _ _ _ _ _ _ _ _ _ (by omega) (by omega) (by omega), d3 74 _ (by unfold sTd; omega), i1o 74 _ (by omega) (by omega) (by omega)]) (fun k hk => by
          rw [mE_o _ _ _ _ _ _ _ _ _ (by omega) (by omega) (by omega), d3 75 _ (by unfold sTd; omega), i1o 75 _ (by omega) (by omega) (by omega)]) (fun k hk => by
          rw [mE_o _ _ _ _ _ _ _ _ _ (by omega) (by omega) (by omega), d3 76 _ (by unfold sTd; omega), i1o 76 _ (by omega) (by omega) (by omega)])
        cases hok : ok with
        | false =>
          rw [hok] at old
          refine ⟨m, by omega, ?_, ?_, old⟩
          · rw [mE_o _ _ _ _ _ _ _ _ _ (by omega) (by omega) (by omega), i3o 30 1 (by omega), hok]
            unfold cE
            rw [if_neg (by decide), u2_p _ _ (by decide), u2_p _ _ (by decide), i2o 30 1 (by omega)]
            exact m2
          · unfold mE
            rw [if_neg (by decide), u2_p _ _ (by decide), stM_o _ _ _ _ (by omega), i3o 71 1 (by omega)]
            exact e71
        | true =>
          rw [hok] at old
          obtain ⟨e2, f1, f2, f3⟩ := c3 hok
          obtain ⟨k2, j1, j2, j3⟩ := d4 hok
          have im : ∀ k, i3 (32 + 3 * m) k = i2 (32 + 3 * m) k ∧ i3 (33 + 3 * m) k = i2 (33 + 3 * m) k ∧ i3 (34 + 3 * m) k = i2 (34 + 3 * m) k := fun k => by
            rw [i3o _ k (by omega), i3o _ k (by omega), i3o _ k (by omega), cE_o _ _ _ _ _ (by omega) (by omega), cE_o _ _ _ _ _ (by omega) (by omega), cE_o _ _ _ _ _ (by omega) (by omega)]
            exact ⟨rfl, rfl, rfl⟩
          refine ⟨m + 1, by omega, ?_, ?_, fun t ht => ?_⟩
          · rw [mE_o _ _ _ _ _ _ _ _ _ (by omega) (by omega) (by omega), i3o 30 1 (by omega), hok]
            unfold cE
            rw [if_pos rfl, u2_s]
          · unfold mE
            rw [if_pos rfl, u2_s]
          · by_cases et : t = m
            · subst et
              refine ⟨?_, e2, k2, f1, j1, ?_, ?_, fun wd hw => ?_⟩
              · have r1 : mE i3 1 (6 + t) t pE w true td y 72 (6 + t) = y := by
                  unfold mE
                  rw [if_pos rfl, u2_p _ _ (by decide), u2_s]
                rw [r1, mE_o _ _ _ _ _ _ _ _ _ (by omega) (by omega) (by omega), (im 3).1, c2 _ _ (by unfold sTx; omega), u2_k _ _ (by decide), u2_s]
              · rw [mE_o _ _ _ _ _ _ _ _ _ (by omega) (by omega) (by omega), (im 2).1]
                exact f2
              · rw [mE_o _ _ _ _ _ _ _ _ _ (by omega) (by omega) (by omega)]
                exact j2
              · have r1 : prcC (mE i3 1 (6 + t) t pE w true td y) t e2 wd = G wd := by
                  rw [← f3 wd hw]
                  exact fsel_cong _ _ (fun j _ _ => ⟨by rw [mE_o _ _ _ _ _ _ _ _ _ (by omega) (by omega) (by omega), (im j).2.1], by rw [mE_o _ _ _ _ _ _ _ _ _ (by omega) (by omega) (by omega), (im j).2.2]⟩) rfl
                have r2 : prcM (mE i3 1 (6 + t) t pE w true td y) t k2 wd = G wd := by
                  rw [← j3 wd hw]
                  exact fsel_cong _ _ (fun j _ _ => ⟨by rw [mE_o _ _ _ _ _ _ _ _ _ (by omega) (by omega) (by omega)], by rw [mE_o _ _ _ _ _ _ _ _ _ (by omega) (by omega) (by omega)]⟩) (by rw [mE_o _ _ _ _ _ _ _ _ _ (by omega) (by omega) (by omega)])
                rw [r1, r2]
            · exact old t (by omega)
theorem op_text (h : Rel C R n z i l) (x y : Int32) : OpOK C R n z L (f_X10_text 1 x y) (f_X11_text 57 x y) i l := by
  by_cases e1 : 0 ≤ x ∧ x ≤ 1
  · by_cases e2 : 0 ≤ y ∧ y ≤ 999
    · obtain ⟨k, k1, rfl⟩ := nI_rng (N := 1) (by decide) e1
      have : k = 0 ∨ k = 1 := by omega
      rcases this with rfl | rfl
      · exact op_text0 h y e2
      · exact op_text1 h y e2
    · refine ⟨-2, mkS n z L i l, n, i, l, ?_, ?_, ⟨_, _, rfl, by repeat first | exact Fr_rfl | refine Fr_u2 ?_ (by unfold sQ; omega)⟩, h⟩
      · simp only [f_X10_text, within_E, isDay_E, bdS, if_b, if_pos e1, if_neg e2]
      · simp only [f_X11_text, in_E, bdS, if_b, if_pos e1, if_neg e2]
  · refine ⟨-2, mkS n z L i l, n, i, l, ?_, ?_, ⟨_, _, rfl, by repeat first | exact Fr_rfl | refine Fr_u2 ?_ (by unfold sQ; omega)⟩, h⟩
    · simp only [f_X10_text, within_E, bdS, if_b, if_neg e1]
    · simp only [f_X11_text, in_E, bdS, if_b, if_neg e1]
end TEXT
