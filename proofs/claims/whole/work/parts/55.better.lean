section BETTER
variable {C R n z L : Nat} {i j m : fI} {l l2 : fL}
/-- moving s to c makes it cheaper, and nothing hinders -/
def mvP (C R n z : Nat) (j : fI) (g s c : Nat) : Bool := decide (shr C j s c n < shr C j s (atN j s) n) && decide (hinV C R n z j g s c = 0)
def noMv (C R n z : Nat) (j : fI) (g s : Nat) : Prop := laB j s = true → ∀ c, c < z → mvP C R n z j g s c = false
theorem fsel_first {p : Nat → Bool} {v : Nat → Int32} {d : Int32} : ∀ (k q c : Nat), q ≤ c → c < q + k → p c = true → (∀ a, q ≤ a → a < c → p a = false) → fsel p v d k q = v c
  | 0, q, c, h1, h2, _, _ => by omega
  | k + 1, q, c, h1, h2, h3, h4 => by
    unfold fsel
    by_cases e : q = c
    · subst e; rw [if_pos h3]
    · rw [if_neg (by rw [h4 q (by omega) (by omega)]; decide)]
      exact fsel_first k (q + 1) c (by omega) (by omega) h3 (fun a h5 h6 => h4 a (by omega) h6)
/-- the class's store, and the rows that the reference would have -/
def clsR (i j : fI) : Prop := ∀ p k, p ≠ 66 → i p k = j p k
theorem clsF (h : clsR i j) (hF : RelF n j) : RelF2 n i j := by
  intro s hs
  have g := hF s hs
  have e : ∀ k, i (88 + s) k = j (88 + s) k := fun k => h _ _ (by omega)
  rw [e, e, e, e, e, e, e, e, e, e]
  exact g
theorem cheaper_E (hc : clsR i j) (h : Rel C R n z j l) {g s : Nat} (hg : g ≤ 3) (eg : j 57 4 = nI g) (hs : s < n) (hl : laB j s = true) : f_X5_cheaperCell 5 (88 + s) (mkS n z L i l) = some (fsel (mvP C R n z j g s) (fun c => nI c) (-1) z 0, mkS n z L i l) := by
  obtain ⟨hD, hE, hK, hB, hG, hN, hF, hV, hA, hX, hT, hU, hJ, hM, hL, hO, hY, hP⟩ := id h
  have h9 := hN.1
  have hz := zlt hD
  have hDi : RelD C R z i := hD.fr (fun p k hp => hc p k (by unfold sD at hp; omega))
  have hNi : RelN n i := hN.fr (fun p k hp => hc p k (by unfold sN at hp; omega))
  have hFi := clsF hc hF
  have hBi : ∀ c, c < z → i 4 c = j 59 c := fun c hc2 => by rw [hc 4 c (by omega)]; exact hB c hc2
  have egi : i 5 3 = nI g := by rw [hc 5 3 (by omega), hG.1, eg]
  have hla := laB_t.mp hl
  obtain ⟨a1, a2, -, -⟩ := atN_E hD hV hs hla
  have hs9 : shr C j s (atN j s) n ≤ n * 512 := shr_le hD hV a2 (Nat.le_refl _)
  have n512 : n * 512 ≤ 9 * 512 := Nat.mul_le_mul_right _ h9
  obtain ⟨s0, s1, s2, s3, s4, s5, s6, s8, s9, s10⟩ := hFi s hs
  simp only [f_X5_cheaperCell, gCS hs, mI, mL, mZ, msI, msL, mN1020, gC1, mR1_0, mR1_1, mR1_2, mR1_3, mR1_4, mR1_5, mR1_6, mR1_7, mR1_8, gC2, mR2_6, mR2_7, gC3, mN3, gC4, mN4, gC5, mR5_0, mR5_1, gC6, mN6, gC7, mR7_0, mR7_1, gC8, mR8_0, gC9, mN9, gC10, mR10_0, gC11, mN11, mR11_0, mR11_1, mR11_2, mR11_3, mR11_4, mR11_5, gC12, mR12_0, mR12_1, gC13, mN13, gC14, mN14, gC15, mR15_0, mR15_1, gC16, mN16, gC17, mN17, gC18, mR18_0, mR18_1, gC19, mN19, gC20, mN20, gC21, mR21_0, mR21_1, gC22, mN22, gC23, mN23, gC24, mR24_0, mR24_1, gC25, mN25, gC26, mN26, gC27, mR27_0, mR27_1, gC28, mN28, gC29, mN29, gC30, mR30_0, gC31, mN31, mR31_0, mR31_1, mR31_2, mR31_3, mR31_4, mR31_5, gC32, mR32_0, mR32_1, gC33, mN33, gC34, mN34, gC35, mR35_0, mR35_1, gC36, mN36, gC37, mN37, gC38, mR38_0, mR38_1, gC39, mN39, gC40, mN40, gC41, mR41_0, mR41_1, gC42, mN42, gC43, mN43, gC44, mR44_0, mR44_1, gC45, mN45, gC46, mN46, gC47, mR47_0, mR47_1, gC48, mN48, gC49, mN49, gC50, mR50_0, mR50_1, mR50_2, mR50_3, gC51, mN51, gC52, mN52, gC53, mN53, gC54, mN54, gC55, gC56, gC57, mR57_2, mR57_3, mR57_6, mR57_7, mR57_8, mR57_9, mR57_10, mR57_11, mR57_12, mR57_13, mR57_14, mR57_15, mR57_16, mR57_18, mR57_19, mR57_20, mR57_21, mR57_22, mR57_23, mR57_25, mR57_26, mR57_27, mR57_28, mR57_37, mR57_40, mR57_41, mR57_43, mR57_44, mR57_48, mR57_49, gC58, mN58, gC59, mN59, gC60, mN60, gC61, mN61, gC62, mN62, gC63, mN63, gC64, mN64, gC65, mN65, gC66, mN66, gC67, mN67, gC68, mN68, gC69, mN69, gC70, mN70, gC71, mN71, gC72, mN72, gC73, mN73, gC74, mN74, gC75, mN75, gC76, mN76, gC77, mN77, gC78, mN78, gC79, mN79, gC80, mN80, gC81, mN81, gC82, mN82, gC83, mN83, gC84, mN84, gC85, mN85, gC86, mN86, gC87, mN87, s6, a1, share_E hDi hD hNi hFi hV hs a2, bdS]
  by_cases q : shr C j s (atN j s) n = 0
  · rw [if_pos (by rw [q]; rfl), fsel_none z 0]
    intro a _ _
    unfold mvP
    rw [q, decide_eq_false (by omega)]
    rfl
  · rw [if_neg (nI_ne0 (by omega) (by omega))]
    refine fsel_loop (fun f c w => f_X5_cheaperCell_l18 f 5 (88 + s) (nI (shr C j s (atN j s) n)) c w) _ _ _ z (mkS n z L i l) ?_ ?_ z 0 xFu (by omega) (by unfold xFu; omega)
    · intro f
      show f_X5_cheaperCell_l18 (f + 1) 5 _ _ (nI z) _ = _
      rw [f_X5_cheaperCell_l18_s]
      simp only [mI, mL, mZ, msI, msL, mN1020, gC1, mR1_0, mR1_1, mR1_2, mR1_3, mR1_4, mR1_5, mR1_6, mR1_7, mR1_8, gC2, mR2_6, mR2_7, gC3, mN3, gC4, mN4, gC5, mR5_0, mR5_1, gC6, mN6, gC7, mR7_0, mR7_1, gC8, mR8_0, gC9, mN9, gC10, mR10_0, gC11, mN11, mR11_0, mR11_1, mR11_2, mR11_3, mR11_4, mR11_5, gC12, mR12_0, mR12_1, gC13, mN13, gC14, mN14, gC15, mR15_0, mR15_1, gC16, mN16, gC17, mN17, gC18, mR18_0, mR18_1, gC19, mN19, gC20, mN20, gC21, mR21_0, mR21_1, gC22, mN22, gC23, mN23, gC24, mR24_0, mR24_1, gC25, mN25, gC26, mN26, gC27, mR27_0, mR27_1, gC28, mN28, gC29, mN29, gC30, mR30_0, gC31, mN31, mR31_0, mR31_1, mR31_2, mR31_3, mR31_4, mR31_5, gC32, mR32_0, mR32_1, gC33, mN33, gC34, mN34, gC35, mR35_0, mR35_1, gC36, mN36, gC37, mN37, gC38, mR38_0, mR38_1, gC39, mN39, gC40, mN40, gC41, mR41_0, mR41_1, gC42, mN42, gC43, mN43, gC44, mR44_0, mR44_1, gC45, mN45, gC46, mN46, gC47, mR47_0, mR47_1, gC48, mN48, gC49, mN49, gC50, mR50_0, mR50_1, mR50_2, mR50_3, gC51, mN51, gC52, mN52, gC53, mN53, gC54, mN54, gC55, gC56, gC57, mR57_2, mR57_3, mR57_6, mR57_7, mR57_8, mR57_9, mR57_10, mR57_11, mR57_12, mR57_13, mR57_14, mR57_15, mR57_16, mR57_18, mR57_19, mR57_20, mR57_21, mR57_22, mR57_23, mR57_25, mR57_26, mR57_27, mR57_28, mR57_37, mR57_40, mR57_41, mR57_43, mR57_44, mR57_48, mR57_49, gC58, mN58, gC59, mN59, gC60, mN60, gC61, mN61, gC62, mN62, gC63, mN63, gC64, mN64, gC65, mN65, gC66, mN66, gC67, mN67, gC68, mN68, gC69, mN69, gC70, mN70, gC71, mN71, gC72, mN72, gC73, mN73, gC74, mN74, gC75, mN75, gC76, mN76, gC77, mN77, gC78, mN78, gC79, mN79, gC80, mN80, gC81, mN81, gC82, mN82, gC83, mN83, gC84, mN84, gC85, mN85, gC86, mN86, gC87, mN87, hDi.2.2.2.1]
      rw [if_pos (Int32.le_refl _)]
    · intro f c hc2
      have hs8 : shr C j s c n ≤ n * 512 := shr_le hD hV hc2 (Nat.le_refl _)
      show f_X5_cheaperCell_l18 (f + 1) 5 _ _ (nI c) _ = _
      rw [f_X5_cheaperCell_l18_s]
      simp only [mI, mL, mZ, msI, msL, mN1020, gC1, mR1_0, mR1_1, mR1_2, mR1_3, mR1_4, mR1_5, mR1_6, mR1_7, mR1_8, gC2, mR2_6, mR2_7, gC3, mN3, gC4, mN4, gC5, mR5_0, mR5_1, gC6, mN6, gC7, mR7_0, mR7_1, gC8, mR8_0, gC9, mN9, gC10, mR10_0, gC11, mN11, mR11_0, mR11_1, mR11_2, mR11_3, mR11_4, mR11_5, gC12, mR12_0, mR12_1, gC13, mN13, gC14, mN14, gC15, mR15_0, mR15_1, gC16, mN16, gC17, mN17, gC18, mR18_0, mR18_1, gC19, mN19, gC20, mN20, gC21, mR21_0, mR21_1, gC22, mN22, gC23, mN23, gC24, mR24_0, mR24_1, gC25, mN25, gC26, mN26, gC27, mR27_0, mR27_1, gC28, mN28, gC29, mN29, gC30, mR30_0, gC31, mN31, mR31_0, mR31_1, mR31_2, mR31_3, mR31_4, mR31_5, gC32, mR32_0, mR32_1, gC33, mN33, gC34, mN34, gC35, mR35_0, mR35_1, gC36, mN36, gC37, mN37, gC38, mR38_0, mR38_1, gC39, mN39, gC40, mN40, gC41, mR41_0, mR41_1, gC42, mN42, gC43, mN43, gC44, mR44_0, mR44_1, gC45, mN45, gC46, mN46, gC47, mR47_0, mR47_1, gC48, mN48, gC49, mN49, gC50, mR50_0, mR50_1, mR50_2, mR50_3, gC51, mN51, gC52, mN52, gC53, mN53, gC54, mN54, gC55, gC56, gC57, mR57_2, mR57_3, mR57_6, mR57_7, mR57_8, mR57_9, mR57_10, mR57_11, mR57_12, mR57_13, mR57_14, mR57_15, mR57_16, mR57_18, mR57_19, mR57_20, mR57_21, mR57_22, mR57_23, mR57_25, mR57_26, mR57_27, mR57_28, mR57_37, mR57_40, mR57_41, mR57_43, mR57_44, mR57_48, mR57_49, gC58, mN58, gC59, mN59, gC60, mN60, gC61, mN61, gC62, mN62, gC63, mN63, gC64, mN64, gC65, mN65, gC66, mN66, gC67, mN67, gC68, mN68, gC69, mN69, gC70, mN70, gC71, mN71, gC72, mN72, gC73, mN73, gC74, mN74, gC75, mN75, gC76, mN76, gC77, mN77, gC78, mN78, gC79, mN79, gC80, mN80, gC81, mN81, gC82, mN82, gC83, mN83, gC84, mN84, gC85, mN85, gC86, mN86, gC87, mN87, hDi.2.2.2.1, share_E hDi hD hNi hFi hV hs hc2, bdS, hindrance_E hDi hD hE hK hBi hNi hFi hV hA hg egi hs hc2, nI_1]
      rw [if_neg (nI_ge hc2 (by omega))]
      unfold mvP
      by_cases r : shr C j s c n < shr C j s (atN j s) n
      · rw [if_neg (by rw [nI_leI (by omega) (by omega)]; omega), decide_eq_true r, Bool.true_and]
        by_cases r2 : hinV C R n z j g s c = 0
        · rw [if_pos r2, if_pos (decide_eq_true r2)]
        · rw [if_neg r2, if_neg (by simp [r2])]
      · rw [if_pos (by rw [nI_leI (by omega) (by omega)]; omega), if_neg (by simp [r])]
theorem moveC_no (hc : clsR i j) (h : Rel C R n z j l) {g : Nat} (hg : g ≤ 3) (eg : j 57 4 = nI g) (hno : ∀ s, s < n → noMv C R n z j g s) : f_X5_moveFirst 5 (mkS n z L i l) = some (0, mkS n z L i l) := by
  obtain ⟨hD, hE, hK, hB, hG, hN, hF, hV, hA, hX, hT, hU, hJ, hM, hL, hO, hY, hP⟩ := id h
  have h9 := hN.1
  have hNi : RelN n i := hN.fr (fun p k hp => hc p k (by unfold sN at hp; omega))
  have hFi := clsF hc hF
  unfold f_X5_moveFirst
  refine acc_loop (fun f (_ : Unit) s w => f_X5_moveFirst_l2 f 5 s w) (fun _ => ()) (fun _ => mkS n z L i l) n _ ?_ ?_ n 0 xFu (by omega) (by unfold xFu; omega)
  · intro f
    show f_X5_moveFirst_l2 (f + 1) 5 (nI n) _ = _
    rw [f_X5_moveFirst_l2_s]
    simp only [mI, mL, mZ, msI, msL, mN1020, gC1, mR1_0, mR1_1, mR1_2, mR1_3, mR1_4, mR1_5, mR1_6, mR1_7, mR1_8, gC2, mR2_6, mR2_7, gC3, mN3, gC4, mN4, gC5, mR5_0, mR5_1, gC6, mN6, gC7, mR7_0, mR7_1, gC8, mR8_0, gC9, mN9, gC10, mR10_0, gC11, mN11, mR11_0, mR11_1, mR11_2, mR11_3, mR11_4, mR11_5, gC12, mR12_0, mR12_1, gC13, mN13, gC14, mN14, gC15, mR15_0, mR15_1, gC16, mN16, gC17, mN17, gC18, mR18_0, mR18_1, gC19, mN19, gC20, mN20, gC21, mR21_0, mR21_1, gC22, mN22, gC23, mN23, gC24, mR24_0, mR24_1, gC25, mN25, gC26, mN26, gC27, mR27_0, mR27_1, gC28, mN28, gC29, mN29, gC30, mR30_0, gC31, mN31, mR31_0, mR31_1, mR31_2, mR31_3, mR31_4, mR31_5, gC32, mR32_0, mR32_1, gC33, mN33, gC34, mN34, gC35, mR35_0, mR35_1, gC36, mN36, gC37, mN37, gC38, mR38_0, mR38_1, gC39, mN39, gC40, mN40, gC41, mR41_0, mR41_1, gC42, mN42, gC43, mN43, gC44, mR44_0, mR44_1, gC45, mN45, gC46, mN46, gC47, mR47_0, mR47_1, gC48, mN48, gC49, mN49, gC50, mR50_0, mR50_1, mR50_2, mR50_3, gC51, mN51, gC52, mN52, gC53, mN53, gC54, mN54, gC55, gC56, gC57, mR57_2, mR57_3, mR57_6, mR57_7, mR57_8, mR57_9, mR57_10, mR57_11, mR57_12, mR57_13, mR57_14, mR57_15, mR57_16, mR57_18, mR57_19, mR57_20, mR57_21, mR57_22, mR57_23, mR57_25, mR57_26, mR57_27, mR57_28, mR57_37, mR57_40, mR57_41, mR57_43, mR57_44, mR57_48, mR57_49, gC58, mN58, gC59, mN59, gC60, mN60, gC61, mN61, gC62, mN62, gC63, mN63, gC64, mN64, gC65, mN65, gC66, mN66, gC67, mN67, gC68, mN68, gC69, mN69, gC70, mN70, gC71, mN71, gC72, mN72, gC73, mN73, gC74, mN74, gC75, mN75, gC76, mN76, gC77, mN77, gC78, mN78, gC79, mN79, gC80, mN80, gC81, mN81, gC82, mN82, gC83, mN83, gC84, mN84, gC85, mN85, gC86, mN86, gC87, mN87, hNi.2.1]
    rw [if_pos (Int32.le_refl _)]
  · intro f s hs
    obtain ⟨s0, s1, s2, s3, s4, s5, s6, s8, s9, s10⟩ := hFi s hs
    show f_X5_moveFirst_l2 (f + 1) 5 (nI s) _ = f_X5_moveFirst_l2 f 5 (nI (s + 1)) _
    rw [f_X5_moveFirst_l2_s]
    simp only [mI, mL, mZ, msI, msL, mN1020, gC1, mR1_0, mR1_1, mR1_2, mR1_3, mR1_4, mR1_5, mR1_6, mR1_7, mR1_8, gC2, mR2_6, mR2_7, gC3, mN3, gC4, mN4, gC5, mR5_0, mR5_1, gC6, mN6, gC7, mR7_0, mR7_1, gC8, mR8_0, gC9, mN9, gC10, mR10_0, gC11, mN11, mR11_0, mR11_1, mR11_2, mR11_3, mR11_4, mR11_5, gC12, mR12_0, mR12_1, gC13, mN13, gC14, mN14, gC15, mR15_0, mR15_1, gC16, mN16, gC17, mN17, gC18, mR18_0, mR18_1, gC19, mN19, gC20, mN20, gC21, mR21_0, mR21_1, gC22, mN22, gC23, mN23, gC24, mR24_0, mR24_1, gC25, mN25, gC26, mN26, gC27, mR27_0, mR27_1, gC28, mN28, gC29, mN29, gC30, mR30_0, gC31, mN31, mR31_0, mR31_1, mR31_2, mR31_3, mR31_4, mR31_5, gC32, mR32_0, mR32_1, gC33, mN33, gC34, mN34, gC35, mR35_0, mR35_1, gC36, mN36, gC37, mN37, gC38, mR38_0, mR38_1, gC39, mN39, gC40, mN40, gC41, mR41_0, mR41_1, gC42, mN42, gC43, mN43, gC44, mR44_0, mR44_1, gC45, mN45, gC46, mN46, gC47, mR47_0, mR47_1, gC48, mN48, gC49, mN49, gC50, mR50_0, mR50_1, mR50_2, mR50_3, gC51, mN51, gC52, mN52, gC53, mN53, gC54, mN54, gC55, gC56, gC57, mR57_2, mR57_3, mR57_6, mR57_7, mR57_8, mR57_9, mR57_10, mR57_11, mR57_12, mR57_13, mR57_14, mR57_15, mR57_16, mR57_18, mR57_19, mR57_20, mR57_21, mR57_22, mR57_23, mR57_25, mR57_26, mR57_27, mR57_28, mR57_37, mR57_40, mR57_41, mR57_43, mR57_44, mR57_48, mR57_49, gC58, mN58, gC59, mN59, gC60, mN60, gC61, mN61, gC62, mN62, gC63, mN63, gC64, mN64, gC65, mN65, gC66, mN66, gC67, mN67, gC68, mN68, gC69, mN69, gC70, mN70, gC71, mN71, gC72, mN72, gC73, mN73, gC74, mN74, gC75, mN75, gC76, mN76, gC77, mN77, gC78, mN78, gC79, mN79, gC80, mN80, gC81, mN81, gC82, mN82, gC83, mN83, gC84, mN84, gC85, mN85, gC86, mN86, gC87, mN87, hNi.2.1, nI_clamp (show s < 2 ^ 31 by omega), gI (show s < 9 by omega) (show 9 < 2 ^ 31 by omega), mR6_t hs, gCS hs, X6_isLaid_E hs, bdS, if_b, s6, f_X5_moveFirst_b36, nI_1]
    rw [if_neg (nI_ge hs (by omega))]
    by_cases q : j 66 s = -1
    · rw [if_neg (fun r => r q), if_pos trivial]
    · rw [if_pos q, cheaper_E hc h hg eg hs (laB_t.mpr q), bdS, fsel_none z 0 (fun a _ h2 => hno s hs (laB_t.mpr q) a (by omega)), if_pos rfl]
theorem moveC_yes (hc : clsR i j) (h : Rel C R n z j l) {g s c : Nat} (hg : g ≤ 3) (eg : j 57 4 = nI g) (hs : s < n) (hcz : c < z) (hla : laB j s = true) (hmv : mvP C R n z j g s c = true) (h1 : ∀ a, a < c → mvP C R n z j g s a = false) (hno : ∀ t, t < s → noMv C R n z j g t) : f_X5_moveFirst 5 (mkS n z L i l) = some (1, mkS n z L (u2 i (88 + s) 6 (nI c)) (u2 l (88 + s) 7 (areaV C R c (wdN j s) (dpN j s)))) := by
  obtain ⟨hD, hE, hK, hB, hG, hN, hF, hV, hA, hX, hT, hU, hJ, hM, hL, hO, hY, hP⟩ := id h
  have h9 := hN.1
  have hz := zlt hD
  have hDi : RelD C R z i := hD.fr (fun p k hp => hc p k (by unfold sD at hp; omega))
  have hNi : RelN n i := hN.fr (fun p k hp => hc p k (by unfold sN at hp; omega))
  have hFi := clsF hc hF
  unfold f_X5_moveFirst
  refine acc_loop (fun f (_ : Unit) s w => f_X5_moveFirst_l2 f 5 s w) (fun _ => ()) (fun _ => mkS n z L i l) s _ ?_ ?_ s 0 xFu (by omega) (by unfold xFu; omega)
  · intro f
    obtain ⟨s0, s1, s2, s3, s4, s5, s6, s8, s9, s10⟩ := hFi s hs
    show f_X5_moveFirst_l2 (f + 1) 5 (nI s) _ = _
    rw [f_X5_moveFirst_l2_s]
    simp only [mI, mL, mZ, msI, msL, mN1020, gC1, mR1_0, mR1_1, mR1_2, mR1_3, mR1_4, mR1_5, mR1_6, mR1_7, mR1_8, gC2, mR2_6, mR2_7, gC3, mN3, gC4, mN4, gC5, mR5_0, mR5_1, gC6, mN6, gC7, mR7_0, mR7_1, gC8, mR8_0, gC9, mN9, gC10, mR10_0, gC11, mN11, mR11_0, mR11_1, mR11_2, mR11_3, mR11_4, mR11_5, gC12, mR12_0, mR12_1, gC13, mN13, gC14, mN14, gC15, mR15_0, mR15_1, gC16, mN16, gC17, mN17, gC18, mR18_0, mR18_1, gC19, mN19, gC20, mN20, gC21, mR21_0, mR21_1, gC22, mN22, gC23, mN23, gC24, mR24_0, mR24_1, gC25, mN25, gC26, mN26, gC27, mR27_0, mR27_1, gC28, mN28, gC29, mN29, gC30, mR30_0, gC31, mN31, mR31_0, mR31_1, mR31_2, mR31_3, mR31_4, mR31_5, gC32, mR32_0, mR32_1, gC33, mN33, gC34, mN34, gC35, mR35_0, mR35_1, gC36, mN36, gC37, mN37, gC38, mR38_0, mR38_1, gC39, mN39, gC40, mN40, gC41, mR41_0, mR41_1, gC42, mN42, gC43, mN43, gC44, mR44_0, mR44_1, gC45, mN45, gC46, mN46, gC47, mR47_0, mR47_1, gC48, mN48, gC49, mN49, gC50, mR50_0, mR50_1, mR50_2, mR50_3, gC51, mN51, gC52, mN52, gC53, mN53, gC54, mN54, gC55, gC56, gC57, mR57_2, mR57_3, mR57_6, mR57_7, mR57_8, mR57_9, mR57_10, mR57_11, mR57_12, mR57_13, mR57_14, mR57_15, mR57_16, mR57_18, mR57_19, mR57_20, mR57_21, mR57_22, mR57_23, mR57_25, mR57_26, mR57_27, mR57_28, mR57_37, mR57_40, mR57_41, mR57_43, mR57_44, mR57_48, mR57_49, gC58, mN58, gC59, mN59, gC60, mN60, gC61, mN61, gC62, mN62, gC63, mN63, gC64, mN64, gC65, mN65, gC66, mN66, gC67, mN67, gC68, mN68, gC69, mN69, gC70, mN70, gC71, mN71, gC72, mN72, gC73, mN73, gC74, mN74, gC75, mN75, gC76, mN76, gC77, mN77, gC78, mN78, gC79, mN79, gC80, mN80, gC81, mN81, gC82, mN82, gC83, mN83, gC84, mN84, gC85, mN85, gC86, mN86, gC87, mN87, hNi.2.1, nI_clamp (show s < 2 ^ 31 by omega), gI (show s < 9 by omega) (show 9 < 2 ^ 31 by omega), mR6_t hs, gCS hs, X6_isLaid_E hs, bdS, if_b, s6, f_X5_moveFirst_b36, nI_1]
    rw [if_neg (nI_ge hs (by omega)), if_pos (laB_t.mp hla), cheaper_E hc h hg eg hs hla, bdS, fsel_first z 0 c (by omega) (by omega) hmv (fun a _ h6 => h1 a h6), if_neg (nI_m1 (by omega))]
    simp only [mI, mL, mZ, msI, msL, mN1020, gC1, mR1_0, mR1_1, mR1_2, mR1_3, mR1_4, mR1_5, mR1_6, mR1_7, mR1_8, gC2, mR2_6, mR2_7, gC3, mN3, gC4, mN4, gC5, mR5_0, mR5_1, gC6, mN6, gC7, mR7_0, mR7_1, gC8, mR8_0, gC9, mN9, gC10, mR10_0, gC11, mN11, mR11_0, mR11_1, mR11_2, mR11_3, mR11_4, mR11_5, gC12, mR12_0, mR12_1, gC13, mN13, gC14, mN14, gC15, mR15_0, mR15_1, gC16, mN16, gC17, mN17, gC18, mR18_0, mR18_1, gC19, mN19, gC20, mN20, gC21, mR21_0, mR21_1, gC22, mN22, gC23, mN23, gC24, mR24_0, mR24_1, gC25, mN25, gC26, mN26, gC27, mR27_0, mR27_1, gC28, mN28, gC29, mN29, gC30, mR30_0, gC31, mN31, mR31_0, mR31_1, mR31_2, mR31_3, mR31_4, mR31_5, gC32, mR32_0, mR32_1, gC33, mN33, gC34, mN34, gC35, mR35_0, mR35_1, gC36, mN36, gC37, mN37, gC38, mR38_0, mR38_1, gC39, mN39, gC40, mN40, gC41, mR41_0, mR41_1, gC42, mN42, gC43, mN43, gC44, mR44_0, mR44_1, gC45, mN45, gC46, mN46, gC47, mR47_0, mR47_1, gC48, mN48, gC49, mN49, gC50, mR50_0, mR50_1, mR50_2, mR50_3, gC51, mN51, gC52, mN52, gC53, mN53, gC54, mN54, gC55, gC56, gC57, mR57_2, mR57_3, mR57_6, mR57_7, mR57_8, mR57_9, mR57_10, mR57_11, mR57_12, mR57_13, mR57_14, mR57_15, mR57_16, mR57_18, mR57_19, mR57_20, mR57_21, mR57_22, mR57_23, mR57_25, mR57_26, mR57_27, mR57_28, mR57_37, mR57_40, mR57_41, mR57_43, mR57_44, mR57_48, mR57_49, gC58, mN58, gC59, mN59, gC60, mN60, gC61, mN61, gC62, mN62, gC63, mN63, gC64, mN64, gC65, mN65, gC66, mN66, gC67, mN67, gC68, mN68, gC69, mN69, gC70, mN70, gC71, mN71, gC72, mN72, gC73, mN73, gC74, mN74, gC75, mN75, gC76, mN76, gC77, mN77, gC78, mN78, gC79, mN79, gC80, mN80, gC81, mN81, gC82, mN82, gC83, mN83, gC84, mN84, gC85, mN85, gC86, mN86, gC87, mN87, nI_clamp (show s < 2 ^ 31 by omega), gI (show s < 9 by omega) (show 9 < 2 ^ 31 by omega), mR6_t hs, put_E hDi hFi hV h9 hs hcz, bdS]
  · intro f t ht
    obtain ⟨s0, s1, s2, s3, s4, s5, s6, s8, s9, s10⟩ := hFi t (by omega)
    show f_X5_moveFirst_l2 (f + 1) 5 (nI t) _ = f_X5_moveFirst_l2 f 5 (nI (t + 1)) _
    rw [f_X5_moveFirst_l2_s]
    simp only [mI, mL, mZ, msI, msL, mN1020, gC1, mR1_0, mR1_1, mR1_2, mR1_3, mR1_4, mR1_5, mR1_6, mR1_7, mR1_8, gC2, mR2_6, mR2_7, gC3, mN3, gC4, mN4, gC5, mR5_0, mR5_1, gC6, mN6, gC7, mR7_0, mR7_1, gC8, mR8_0, gC9, mN9, gC10, mR10_0, gC11, mN11, mR11_0, mR11_1, mR11_2, mR11_3, mR11_4, mR11_5, gC12, mR12_0, mR12_1, gC13, mN13, gC14, mN14, gC15, mR15_0, mR15_1, gC16, mN16, gC17, mN17, gC18, mR18_0, mR18_1, gC19, mN19, gC20, mN20, gC21, mR21_0, mR21_1, gC22, mN22, gC23, mN23, gC24, mR24_0, mR24_1, gC25, mN25, gC26, mN26, gC27, mR27_0, mR27_1, gC28, mN28, gC29, mN29, gC30, mR30_0, gC31, mN31, mR31_0, mR31_1, mR31_2, mR31_3, mR31_4, mR31_5, gC32, mR32_0, mR32_1, gC33, mN33, gC34, mN34, gC35, mR35_0, mR35_1, gC36, mN36, gC37, mN37, gC38, mR38_0, mR38_1, gC39, mN39, gC40, mN40, gC41, mR41_0, mR41_1, gC42, mN42, gC43, mN43, gC44, mR44_0, mR44_1, gC45, mN45, gC46, mN46, gC47, mR47_0, mR47_1, gC48, mN48, gC49, mN49, gC50, mR50_0, mR50_1, mR50_2, mR50_3, gC51, mN51, gC52, mN52, gC53, mN53, gC54, mN54, gC55, gC56, gC57, mR57_2, mR57_3, mR57_6, mR57_7, mR57_8, mR57_9, mR57_10, mR57_11, mR57_12, mR57_13, mR57_14, mR57_15, mR57_16, mR57_18, mR57_19, mR57_20, mR57_21, mR57_22, mR57_23, mR57_25, mR57_26, mR57_27, mR57_28, mR57_37, mR57_40, mR57_41, mR57_43, mR57_44, mR57_48, mR57_49, gC58, mN58, gC59, mN59, gC60, mN60, gC61, mN61, gC62, mN62, gC63, mN63, gC64, mN64, gC65, mN65, gC66, mN66, gC67, mN67, gC68, mN68, gC69, mN69, gC70, mN70, gC71, mN71, gC72, mN72, gC73, mN73, gC74, mN74, gC75, mN75, gC76, mN76, gC77, mN77, gC78, mN78, gC79, mN79, gC80, mN80, gC81, mN81, gC82, mN82, gC83, mN83, gC84, mN84, gC85, mN85, gC86, mN86, gC87, mN87, hNi.2.1, nI_clamp (show t < 2 ^ 31 by omega), gI (show t < 9 by omega) (show 9 < 2 ^ 31 by omega), mR6_t (show t < n by omega), gCS (show t < n by omega), X6_isLaid_E (show t < n by omega), bdS, if_b, s6, f_X5_moveFirst_b36, nI_1]
    rw [if_neg (nI_ge (by omega) (by omega))]
    by_cases q : j 66 t = -1
    · rw [if_neg (fun r => r q), if_pos trivial]
    · rw [if_pos q, cheaper_E hc h hg eg (by omega) (laB_t.mpr q), bdS, fsel_none z 0 (fun a _ h2 => hno t ht (laB_t.mpr q) a (by omega)), if_pos rfl]
/-! the reference's moves -/
theorem u2_back {α : Type} (f : Nat → Nat → α) (p k : Nat) (v : α) : u2 (u2 f p k v) p k (f p k) = f := by
  funext q r
  unfold u2
  by_cases e : q = p ∧ r = k
  · rw [if_pos e, e.1, e.2]
  · rw [if_neg e, if_neg e]
/-- hindrance does not ask where the stand itself lies -/
theorem hin_self {g s c : Nat} {v : Int32} : hinV C R n z (u2 i 66 s v) g s c = hinV C R n z i g s c := by
  have o : ∀ p k, p ≠ 66 → u2 i 66 s v p k = i p k := fun p k hp => u2_p _ _ hp
  have g58 : ∀ k, u2 i 66 s v 58 k = i 58 k := fun k => o 58 k (by omega)
  have g59 : ∀ k, u2 i 66 s v 59 k = i 59 k := fun k => o 59 k (by omega)
  have g60 : ∀ k, u2 i 66 s v 60 k = i 60 k := fun k => o 60 k (by omega)
  have g61 : ∀ k, u2 i 66 s v 61 k = i 61 k := fun k => o 61 k (by omega)
  have g62 : ∀ k, u2 i 66 s v 62 k = i 62 k := fun k => o 62 k (by omega)
  have g63 : ∀ k, u2 i 66 s v 63 k = i 63 k := fun k => o 63 k (by omega)
  have g64 : ∀ k, u2 i 66 s v 64 k = i 64 k := fun k => o 64 k (by omega)
  have g65 : ∀ k, u2 i 66 s v 65 k = i 65 k := fun k => o 65 k (by omega)
  have g66 : ∀ t, t ≠ s → u2 i 66 s v 66 t = i 66 t := fun t ht => u2_k _ _ ht
  have e1 : twP C (u2 i 66 s v) s c = twP C i s c := by funext k; simp only [twP, cvS, wdN, dpN, g58, g63, g64]
  have e2 : thP C n (u2 i 66 s v) s c = thP C n i s c := by
    funext k
    unfold thP
    have : cvS C (u2 i 66 s v) s c k = cvS C i s c k := by simp only [cvS, wdN, dpN, g63, g64]
    rw [this]
    congr 1
    refine exB_cong (fun t _ => ?_)
    by_cases q : t = s
    · simp [q]
    · simp only [onB, laB, wdN, dpN, atN, g63, g64, g66 t q]
  have e3 : foP C (u2 i 66 s v) g s c = foP C i g s c := by
    funext t
    by_cases q : t = s
    · simp [foP, q]
    · simp only [foP, neM, laB, wdN, dpN, atN, g62, g63, g64, g66 t q]; try rfl
  have e4 : fiP C (u2 i 66 s v) s c = fiP C i s c := by funext k; simp only [fiP, cvS, wdN, dpN, g59, g65, g63, g64]
  have e5 : ∀ b, flB (u2 i 66 s v) n s b = flB i n s b := by
    intro b
    refine exB_cong (fun t _ => ?_)
    by_cases q : t = s
    · simp [q]
    · simp only [laB, g60, g61, g62, g66 t q]
  have e6 : ndP C R (u2 i 66 s v) s c = ndP C R i s c := by funext k; simp only [ndP, cvS, bsP, wdN, dpN, g58, g60, g63, g64]
  simp only [hinV, sixB, e1, e2, e3, e4, e5, e6, wdN, dpN, g60, g63, g64]
  try rfl
def mdlR (m j : fI) : Prop := ∀ p k, p < 88 → m p k = j p k
theorem prc_cong (h : mdlR m j) (n : Nat) : prc C m n = prc C j n := by
  have g61 : ∀ k, m 61 k = j 61 k := fun k => h 61 k (by omega)
  have g62 : ∀ k, m 62 k = j 62 k := fun k => h 62 k (by omega)
  have g66 : ∀ k, m 66 k = j 66 k := fun k => h 66 k (by omega)
  have : ∀ s t, pw C m s t = pw C j s t := by intro s t; simp only [pw, laB, atN, tie, g61, g62, g66]; try rfl
  unfold prc
  simp only [this]
/-- the store with one stand moved still has what the reference's sums want -/
theorem try_V (hV : RelV C R z n m) {s c : Nat} (hs : s < n) (hc : c < z) (f1 : c % C + wdN m s ≤ C) (f2 : c / C + dpN m s ≤ R) : RelV C R z n (u2 m 66 s (nI c)) := by
  intro t ht
  have g := hV t ht
  have u : ∀ p, p ≠ 66 → u2 m 66 s (nI c) p t = m p t := fun p h3 => u2_p _ _ h3
  by_cases e : t = s
  · subst e
    obtain ⟨w1, w2, w3⟩ := wdN_E hV ht
    obtain ⟨d1, d2, d3⟩ := dpN_E hV ht
    rw [u 60 (by omega), u 63 (by omega), u 64 (by omega), u 68 (by omega), u 69 (by omega), u2_s]
    exact ⟨g.1, g.2.1, g.2.2.1, wdN m t, dpN m t, ⟨w2, w3, w1⟩, ⟨d2, d3, d1⟩, Or.inr ⟨c, hc, rfl, f1, f2⟩⟩
  · rw [u 60 (by omega), u 63 (by omega), u 64 (by omega), u 68 (by omega), u 69 (by omega), u2_k _ _ e]
    exact g
theorem inner_step (hm : mdlR m j) (h : Rel C R n z j l) {g s c : Nat} (hg : g ≤ 3) (eg : j 57 4 = nI g) (hs : s < n) (hcz : c < z) (hla : laB j s = true) (k7 : Nat → Int32 → Int32 → xSt → Option (Int32 × xSt)) (f : Nat) : f_X11_betters_l25 k7 (f + 1) 57 (nI (prc C j n)) (nI s) (nI (atN j s)) (nI c) (mkS n z L m l2) = if mvP C R n z j g s c = true then some (1, mkS n z L (u2 m 66 s (nI c)) l2) else f_X11_betters_l25 k7 f 57 (nI (prc C j n)) (nI s) (nI (atN j s)) (nI (c + 1)) (mkS n z L m l2) := by
  obtain ⟨hD, hE, hK, hB, hG, hN, hF, hV, hA, hX, hT, hU, hJ, hM, hL, hO, hY, hP⟩ := id h
  have h9 := hN.1
  have hz := zlt hD
  have hDm : RelD C R z m := hD.fr (fun p k hp => hm p k (by unfold sD at hp; omega))
  have hNm : RelN n m := hN.fr (fun p k hp => hm p k (by unfold sN at hp; omega))
  have hVm : RelV C R z n m := hV.fr (fun p k hp => hm p k (by unfold sVv at hp; omega))
  have egm : m 57 4 = nI g := by rw [hm 57 4 (by omega), eg]
  have hh := hindered_E (L := L) (l := l2) hDm hNm hVm hg egm hs hcz
  rw [hin_cong (i := j) (fun p k _ h2 => hm p k h2)] at hh
  obtain ⟨⟨h1, h2, h3, h4, h5⟩, -, -, -, e1, e2⟩ := id hDm
  have hnla := laB_t.mp hla
  obtain ⟨a1, a2, -, -⟩ := atN_E hD hV hs hnla
  have m66 : m 66 s = nI (atN j s) := by rw [hm 66 s (by omega), a1]
  have wm : wdN m s = wdN j s := by unfold wdN; rw [hm 63 s (by omega)]
  have dm : dpN m s = dpN j s := by unfold dpN; rw [hm 64 s (by omega)]
  rw [f_X11_betters_l25_s]
  simp only [mI, mL, mZ, msI, msL, mN1020, gC1, mR1_0, mR1_1, mR1_2, mR1_3, mR1_4, mR1_5, mR1_6, mR1_7, mR1_8, gC2, mR2_6, mR2_7, gC3, mN3, gC4, mN4, gC5, mR5_0, mR5_1, gC6, mN6, gC7, mR7_0, mR7_1, gC8, mR8_0, gC9, mN9, gC10, mR10_0, gC11, mN11, mR11_0, mR11_1, mR11_2, mR11_3, mR11_4, mR11_5, gC12, mR12_0, mR12_1, gC13, mN13, gC14, mN14, gC15, mR15_0, mR15_1, gC16, mN16, gC17, mN17, gC18, mR18_0, mR18_1, gC19, mN19, gC20, mN20, gC21, mR21_0, mR21_1, gC22, mN22, gC23, mN23, gC24, mR24_0, mR24_1, gC25, mN25, gC26, mN26, gC27, mR27_0, mR27_1, gC28, mN28, gC29, mN29, gC30, mR30_0, gC31, mN31, mR31_0, mR31_1, mR31_2, mR31_3, mR31_4, mR31_5, gC32, mR32_0, mR32_1, gC33, mN33, gC34, mN34, gC35, mR35_0, mR35_1, gC36, mN36, gC37, mN37, gC38, mR38_0, mR38_1, gC39, mN39, gC40, mN40, gC41, mR41_0, mR41_1, gC42, mN42, gC43, mN43, gC44, mR44_0, mR44_1, gC45, mN45, gC46, mN46, gC47, mR47_0, mR47_1, gC48, mN48, gC49, mN49, gC50, mR50_0, mR50_1, mR50_2, mR50_3, gC51, mN51, gC52, mN52, gC53, mN53, gC54, mN54, gC55, gC56, gC57, mR57_2, mR57_3, mR57_6, mR57_7, mR57_8, mR57_9, mR57_10, mR57_11, mR57_12, mR57_13, mR57_14, mR57_15, mR57_16, mR57_18, mR57_19, mR57_20, mR57_21, mR57_22, mR57_23, mR57_25, mR57_26, mR57_27, mR57_28, mR57_37, mR57_40, mR57_41, mR57_43, mR57_44, mR57_48, mR57_49, gC58, mN58, gC59, mN59, gC60, mN60, gC61, mN61, gC62, mN62, gC63, mN63, gC64, mN64, gC65, mN65, gC66, mN66, gC67, mN67, gC68, mN68, gC69, mN69, gC70, mN70, gC71, mN71, gC72, mN72, gC73, mN73, gC74, mN74, gC75, mN75, gC76, mN76, gC77, mN77, gC78, mN78, gC79, mN79, gC80, mN80, gC81, mN81, gC82, mN82, gC83, mN83, gC84, mN84, gC85, mN85, gC86, mN86, gC87, mN87, e1, e2, pk_mul, ← h5, hh, bdS, nI_1]
  rw [if_neg (nI_ge hcz (by omega)), if_neg (nI_m1 (by omega))]
  unfold mvP
  by_cases q : c = atN j s
  · rw [if_pos (by rw [q]), if_neg]
    rw [q, decide_eq_false (by omega), Bool.false_and]
    decide
  rw [if_neg (by rw [nI_eq (by omega) (by omega)]; exact q)]
  by_cases q2 : hinV C R n z j g s c = 0
  · obtain ⟨⟨f1, f2⟩, -, -⟩ := hin0 q2
    rw [if_pos q2, decide_eq_true q2, Bool.and_true]
    have hV' := try_V hVm hs hcz (by rw [wm]; exact f1) (by rw [dm]; exact f2)
    have hD' : RelD C R z (u2 m 66 s (nI c)) := hDm.fr (Fr_u2 Fr_rfl (by unfold sD; omega))
    have hN' : RelN n (u2 m 66 s (nI c)) := hNm.fr (Fr_u2 Fr_rfl (by unfold sN; omega))
    have mv := move_E (C := C) (i := j) hs hla (show c < 2 ^ 31 by omega) (j := u2 m 66 s (nI c)) (u2_s _ _ _ _) (fun t ht => by rw [u2_k _ _ ht, hm 66 t (by omega)]) (fun t => by rw [u2_p _ _ (by omega), hm 61 t (by omega)]) (fun t => by rw [u2_p _ _ (by omega), hm 62 t (by omega)])
    have b1 := prc_le hD' hV' h9 (Nat.le_refl n)
    have b2 := prc_le hD hV h9 (Nat.le_refl n)
    have b3 : n * (9 * 512) ≤ 9 * (9 * 512) := Nat.mul_le_mul_right _ h9
    have b4 : prc C (u2 m 66 s (nI c)) n < 2 ^ 31 := Nat.lt_of_le_of_lt (Nat.le_trans b1 b3) (by decide)
    have b5 : prc C j n < 2 ^ 31 := Nat.lt_of_le_of_lt (Nat.le_trans b2 b3) (by decide)
    simp only [gI (show s < 9 by omega) (show 9 < 2 ^ 31 by omega), nI_clamp (show s < 2 ^ 31 by omega), lt1E, priced_E hD' hN' hV', bdS, mI, mL, mZ, msI, msL, mN1020, gC1, mR1_0, mR1_1, mR1_2, mR1_3, mR1_4, mR1_5, mR1_6, mR1_7, mR1_8, gC2, mR2_6, mR2_7, gC3, mN3, gC4, mN4, gC5, mR5_0, mR5_1, gC6, mN6, gC7, mR7_0, mR7_1, gC8, mR8_0, gC9, mN9, gC10, mR10_0, gC11, mN11, mR11_0, mR11_1, mR11_2, mR11_3, mR11_4, mR11_5, gC12, mR12_0, mR12_1, gC13, mN13, gC14, mN14, gC15, mR15_0, mR15_1, gC16, mN16, gC17, mN17, gC18, mR18_0, mR18_1, gC19, mN19, gC20, mN20, gC21, mR21_0, mR21_1, gC22, mN22, gC23, mN23, gC24, mR24_0, mR24_1, gC25, mN25, gC26, mN26, gC27, mR27_0, mR27_1, gC28, mN28, gC29, mN29, gC30, mR30_0, gC31, mN31, mR31_0, mR31_1, mR31_2, mR31_3, mR31_4, mR31_5, gC32, mR32_0, mR32_1, gC33, mN33, gC34, mN34, gC35, mR35_0, mR35_1, gC36, mN36, gC37, mN37, gC38, mR38_0, mR38_1, gC39, mN39, gC40, mN40, gC41, mR41_0, mR41_1, gC42, mN42, gC43, mN43, gC44, mR44_0, mR44_1, gC45, mN45, gC46, mN46, gC47, mR47_0, mR47_1, gC48, mN48, gC49, mN49, gC50, mR50_0, mR50_1, mR50_2, mR50_3, gC51, mN51, gC52, mN52, gC53, mN53, gC54, mN54, gC55, gC56, gC57, mR57_2, mR57_3, mR57_6, mR57_7, mR57_8, mR57_9, mR57_10, mR57_11, mR57_12, mR57_13, mR57_14, mR57_15, mR57_16, mR57_18, mR57_19, mR57_20, mR57_21, mR57_22, mR57_23, mR57_25, mR57_26, mR57_27, mR57_28, mR57_37, mR57_40, mR57_41, mR57_43, mR57_44, mR57_48, mR57_49, gC58, mN58, gC59, mN59, gC60, mN60, gC61, mN61, gC62, mN62, gC63, mN63, gC64, mN64, gC65, mN65, gC66, mN66, gC67, mN67, gC68, mN68, gC69, mN69, gC70, mN70, gC71, mN71, gC72, mN72, gC73, mN73, gC74, mN74, gC75, mN75, gC76, mN76, gC77, mN77, gC78, mN78, gC79, mN79, gC80, mN80, gC81, mN81, gC82, mN82, gC83, mN83, gC84, mN84, gC85, mN85, gC86, mN86, gC87, mN87]
    by_cases q3 : shr C j s c n < shr C j s (atN j s) n
    · rw [if_neg (by rw [nI_leI b5 b4]; omega), if_pos (decide_eq_true q3)]
    · rw [if_pos (by rw [nI_leI b5 b4]; omega), if_neg (by simp [q3]), ← m66, u2_back]
  · rw [if_neg q2, if_neg (by simp [q2])]
theorem inner_no (hm : mdlR m j) (h : Rel C R n z j l) {g s : Nat} (hg : g ≤ 3) (eg : j 57 4 = nI g) (hs : s < n) (hno : noMv C R n z j g s) (k7 : Nat → Int32 → Int32 → xSt → Option (Int32 × xSt)) : f_X11_betters_l25 k7 xFu 57 (nI (prc C j n)) (nI s) (m 66 s) (nI 0) (mkS n z L m l2) = k7 57 (nI (prc C j n)) (nI (s + 1)) (mkS n z L m l2) := by
  obtain ⟨hD, hE, hK, hB, hG, hN, hF, hV, hA, hX, hT, hU, hJ, hM, hL, hO, hY, hP⟩ := id h
  have h9 := hN.1
  have hz := zlt hD
  have hDm : RelD C R z m := hD.fr (fun p k hp => hm p k (by unfold sD at hp; omega))
  obtain ⟨⟨h1, h2, h3, h4, h5⟩, -, -, -, e1, e2⟩ := id hDm
  by_cases q : j 66 s = -1
  · rw [hm 66 s (by omega), q, show xFu = 999 + 1 from rfl, f_X11_betters_l25_s]
    simp only [mI, mL, mZ, msI, msL, mN1020, gC1, mR1_0, mR1_1, mR1_2, mR1_3, mR1_4, mR1_5, mR1_6, mR1_7, mR1_8, gC2, mR2_6, mR2_7, gC3, mN3, gC4, mN4, gC5, mR5_0, mR5_1, gC6, mN6, gC7, mR7_0, mR7_1, gC8, mR8_0, gC9, mN9, gC10, mR10_0, gC11, mN11, mR11_0, mR11_1, mR11_2, mR11_3, mR11_4, mR11_5, gC12, mR12_0, mR12_1, gC13, mN13, gC14, mN14, gC15, mR15_0, mR15_1, gC16, mN16, gC17, mN17, gC18, mR18_0, mR18_1, gC19, mN19, gC20, mN20, gC21, mR21_0, mR21_1, gC22, mN22, gC23, mN23, gC24, mR24_0, mR24_1, gC25, mN25, gC26, mN26, gC27, mR27_0, mR27_1, gC28, mN28, gC29, mN29, gC30, mR30_0, gC31, mN31, mR31_0, mR31_1, mR31_2, mR31_3, mR31_4, mR31_5, gC32, mR32_0, mR32_1, gC33, mN33, gC34, mN34, gC35, mR35_0, mR35_1, gC36, mN36, gC37, mN37, gC38, mR38_0, mR38_1, gC39, mN39, gC40, mN40, gC41, mR41_0, mR41_1, gC42, mN42, gC43, mN43, gC44, mR44_0, mR44_1, gC45, mN45, gC46, mN46, gC47, mR47_0, mR47_1, gC48, mN48, gC49, mN49, gC50, mR50_0, mR50_1, mR50_2, mR50_3, gC51, mN51, gC52, mN52, gC53, mN53, gC54, mN54, gC55, gC56, gC57, mR57_2, mR57_3, mR57_6, mR57_7, mR57_8, mR57_9, mR57_10, mR57_11, mR57_12, mR57_13, mR57_14, mR57_15, mR57_16, mR57_18, mR57_19, mR57_20, mR57_21, mR57_22, mR57_23, mR57_25, mR57_26, mR57_27, mR57_28, mR57_37, mR57_40, mR57_41, mR57_43, mR57_44, mR57_48, mR57_49, gC58, mN58, gC59, mN59, gC60, mN60, gC61, mN61, gC62, mN62, gC63, mN63, gC64, mN64, gC65, mN65, gC66, mN66, gC67, mN67, gC68, mN68, gC69, mN69, gC70, mN70, gC71, mN71, gC72, mN72, gC73, mN73, gC74, mN74, gC75, mN75, gC76, mN76, gC77, mN77, gC78, mN78, gC79, mN79, gC80, mN80, gC81, mN81, gC82, mN82, gC83, mN83, gC84, mN84, gC85, mN85, gC86, mN86, gC87, mN87, e1, e2, pk_mul, ← h5, nI_1]
    rw [if_neg (nI_ge (by omega) (by omega)), if_pos trivial]
  · have hla := laB_t.mpr q
    obtain ⟨a1, a2, -, -⟩ := atN_E hD hV hs q
    rw [hm 66 s (by omega), a1]
    refine acc_loop (fun f (_ : Unit) c w => f_X11_betters_l25 k7 f 57 (nI (prc C j n)) (nI s) (nI (atN j s)) c w) (fun _ => ()) (fun _ => mkS n z L m l2) z _ ?_ ?_ z 0 xFu (by omega) (by unfold xFu; omega)
    · intro f
      show f_X11_betters_l25 k7 (f + 1) 57 _ _ _ (nI z) _ = _
      rw [f_X11_betters_l25_s]
      simp only [mI, mL, mZ, msI, msL, mN1020, gC1, mR1_0, mR1_1, mR1_2, mR1_3, mR1_4, mR1_5, mR1_6, mR1_7, mR1_8, gC2, mR2_6, mR2_7, gC3, mN3, gC4, mN4, gC5, mR5_0, mR5_1, gC6, mN6, gC7, mR7_0, mR7_1, gC8, mR8_0, gC9, mN9, gC10, mR10_0, gC11, mN11, mR11_0, mR11_1, mR11_2, mR11_3, mR11_4, mR11_5, gC12, mR12_0, mR12_1, gC13, mN13, gC14, mN14, gC15, mR15_0, mR15_1, gC16, mN16, gC17, mN17, gC18, mR18_0, mR18_1, gC19, mN19, gC20, mN20, gC21, mR21_0, mR21_1, gC22, mN22, gC23, mN23, gC24, mR24_0, mR24_1, gC25, mN25, gC26, mN26, gC27, mR27_0, mR27_1, gC28, mN28, gC29, mN29, gC30, mR30_0, gC31, mN31, mR31_0, mR31_1, mR31_2, mR31_3, mR31_4, mR31_5, gC32, mR32_0, mR32_1, gC33, mN33, gC34, mN34, gC35, mR35_0, mR35_1, gC36, mN36, gC37, mN37, gC38, mR38_0, mR38_1, gC39, mN39, gC40, mN40, gC41, mR41_0, mR41_1, gC42, mN42, gC43, mN43, gC44, mR44_0, mR44_1, gC45, mN45, gC46, mN46, gC47, mR47_0, mR47_1, gC48, mN48, gC49, mN49, gC50, mR50_0, mR50_1, mR50_2, mR50_3, gC51, mN51, gC52, mN52, gC53, mN53, gC54, mN54, gC55, gC56, gC57, mR57_2, mR57_3, mR57_6, mR57_7, mR57_8, mR57_9, mR57_10, mR57_11, mR57_12, mR57_13, mR57_14, mR57_15, mR57_16, mR57_18, mR57_19, mR57_20, mR57_21, mR57_22, mR57_23, mR57_25, mR57_26, mR57_27, mR57_28, mR57_37, mR57_40, mR57_41, mR57_43, mR57_44, mR57_48, mR57_49, gC58, mN58, gC59, mN59, gC60, mN60, gC61, mN61, gC62, mN62, gC63, mN63, gC64, mN64, gC65, mN65, gC66, mN66, gC67, mN67, gC68, mN68, gC69, mN69, gC70, mN70, gC71, mN71, gC72, mN72, gC73, mN73, gC74, mN74, gC75, mN75, gC76, mN76, gC77, mN77, gC78, mN78, gC79, mN79, gC80, mN80, gC81, mN81, gC82, mN82, gC83, mN83, gC84, mN84, gC85, mN85, gC86, mN86, gC87, mN87, e1, e2, pk_mul, ← h5, nI_1]
      rw [if_pos (Int32.le_refl _)]
    · intro f c hcz
      show f_X11_betters_l25 k7 (f + 1) 57 _ _ _ (nI c) _ = f_X11_betters_l25 k7 f 57 _ _ _ (nI (c + 1)) _
      rw [inner_step hm h hg eg hs hcz hla, if_neg (by rw [hno hla c hcz]; decide)]
theorem moveM_no (hm : mdlR m j) (h : Rel C R n z j l) {g : Nat} (hg : g ≤ 3) (eg : j 57 4 = nI g) (hno : ∀ s, s < n → noMv C R n z j g s) : f_X11_betters 57 (mkS n z L m l2) = some (0, mkS n z L m l2) := by
  obtain ⟨hD, hE, hK, hB, hG, hN, hF, hV, hA, hX, hT, hU, hJ, hM, hL, hO, hY, hP⟩ := id h
  have h9 := hN.1
  have hDm : RelD C R z m := hD.fr (fun p k hp => hm p k (by unfold sD at hp; omega))
  have hNm : RelN n m := hN.fr (fun p k hp => hm p k (by unfold sN at hp; omega))
  have hVm : RelV C R z n m := hV.fr (fun p k hp => hm p k (by unfold sVv at hp; omega))
  simp only [f_X11_betters, mI, mL, mZ, msI, msL, mN1020, gC1, mR1_0, mR1_1, mR1_2, mR1_3, mR1_4, mR1_5, mR1_6, mR1_7, mR1_8, gC2, mR2_6, mR2_7, gC3, mN3, gC4, mN4, gC5, mR5_0, mR5_1, gC6, mN6, gC7, mR7_0, mR7_1, gC8, mR8_0, gC9, mN9, gC10, mR10_0, gC11, mN11, mR11_0, mR11_1, mR11_2, mR11_3, mR11_4, mR11_5, gC12, mR12_0, mR12_1, gC13, mN13, gC14, mN14, gC15, mR15_0, mR15_1, gC16, mN16, gC17, mN17, gC18, mR18_0, mR18_1, gC19, mN19, gC20, mN20, gC21, mR21_0, mR21_1, gC22, mN22, gC23, mN23, gC24, mR24_0, mR24_1, gC25, mN25, gC26, mN26, gC27, mR27_0, mR27_1, gC28, mN28, gC29, mN29, gC30, mR30_0, gC31, mN31, mR31_0, mR31_1, mR31_2, mR31_3, mR31_4, mR31_5, gC32, mR32_0, mR32_1, gC33, mN33, gC34, mN34, gC35, mR35_0, mR35_1, gC36, mN36, gC37, mN37, gC38, mR38_0, mR38_1, gC39, mN39, gC40, mN40, gC41, mR41_0, mR41_1, gC42, mN42, gC43, mN43, gC44, mR44_0, mR44_1, gC45, mN45, gC46, mN46, gC47, mR47_0, mR47_1, gC48, mN48, gC49, mN49, gC50, mR50_0, mR50_1, mR50_2, mR50_3, gC51, mN51, gC52, mN52, gC53, mN53, gC54, mN54, gC55, gC56, gC57, mR57_2, mR57_3, mR57_6, mR57_7, mR57_8, mR57_9, mR57_10, mR57_11, mR57_12, mR57_13, mR57_14, mR57_15, mR57_16, mR57_18, mR57_19, mR57_20, mR57_21, mR57_22, mR57_23, mR57_25, mR57_26, mR57_27, mR57_28, mR57_37, mR57_40, mR57_41, mR57_43, mR57_44, mR57_48, mR57_49, gC58, mN58, gC59, mN59, gC60, mN60, gC61, mN61, gC62, mN62, gC63, mN63, gC64, mN64, gC65, mN65, gC66, mN66, gC67, mN67, gC68, mN68, gC69, mN69, gC70, mN70, gC71, mN71, gC72, mN72, gC73, mN73, gC74, mN74, gC75, mN75, gC76, mN76, gC77, mN77, gC78, mN78, gC79, mN79, gC80, mN80, gC81, mN81, gC82, mN82, gC83, mN83, gC84, mN84, gC85, mN85, gC86, mN86, gC87, mN87, priced_E hDm hNm hVm, bdS, prc_cong hm]
  refine acc_loop (fun f (_ : Unit) s w => f_X11_betters_l7 f 57 (nI (prc C j n)) s w) (fun _ => ()) (fun _ => mkS n z L m l2) n _ ?_ ?_ n 0 xFu (by omega) (by unfold xFu; omega)
  · intro f
    show f_X11_betters_l7 (f + 1) 57 _ (nI n) _ = _
    rw [f_X11_betters_l7_s]
    simp only [mI, mL, mZ, msI, msL, mN1020, gC1, mR1_0, mR1_1, mR1_2, mR1_3, mR1_4, mR1_5, mR1_6, mR1_7, mR1_8, gC2, mR2_6, mR2_7, gC3, mN3, gC4, mN4, gC5, mR5_0, mR5_1, gC6, mN6, gC7, mR7_0, mR7_1, gC8, mR8_0, gC9, mN9, gC10, mR10_0, gC11, mN11, mR11_0, mR11_1, mR11_2, mR11_3, mR11_4, mR11_5, gC12, mR12_0, mR12_1, gC13, mN13, gC14, mN14, gC15, mR15_0, mR15_1, gC16, mN16, gC17, mN17, gC18, mR18_0, mR18_1, gC19, mN19, gC20, mN20, gC21, mR21_0, mR21_1, gC22, mN22, gC23, mN23, gC24, mR24_0, mR24_1, gC25, mN25, gC26, mN26, gC27, mR27_0, mR27_1, gC28, mN28, gC29, mN29, gC30, mR30_0, gC31, mN31, mR31_0, mR31_1, mR31_2, mR31_3, mR31_4, mR31_5, gC32, mR32_0, mR32_1, gC33, mN33, gC34, mN34, gC35, mR35_0, mR35_1, gC36, mN36, gC37, mN37, gC38, mR38_0, mR38_1, gC39, mN39, gC40, mN40, gC41, mR41_0, mR41_1, gC42, mN42, gC43, mN43, gC44, mR44_0, mR44_1, gC45, mN45, gC46, mN46, gC47, mR47_0, mR47_1, gC48, mN48, gC49, mN49, gC50, mR50_0, mR50_1, mR50_2, mR50_3, gC51, mN51, gC52, mN52, gC53, mN53, gC54, mN54, gC55, gC56, gC57, mR57_2, mR57_3, mR57_6, mR57_7, mR57_8, mR57_9, mR57_10, mR57_11, mR57_12, mR57_13, mR57_14, mR57_15, mR57_16, mR57_18, mR57_19, mR57_20, mR57_21, mR57_22, mR57_23, mR57_25, mR57_26, mR57_27, mR57_28, mR57_37, mR57_40, mR57_41, mR57_43, mR57_44, mR57_48, mR57_49, gC58, mN58, gC59, mN59, gC60, mN60, gC61, mN61, gC62, mN62, gC63, mN63, gC64, mN64, gC65, mN65, gC66, mN66, gC67, mN67, gC68, mN68, gC69, mN69, gC70, mN70, gC71, mN71, gC72, mN72, gC73, mN73, gC74, mN74, gC75, mN75, gC76, mN76, gC77, mN77, gC78, mN78, gC79, mN79, gC80, mN80, gC81, mN81, gC82, mN82, gC83, mN83, gC84, mN84, gC85, mN85, gC86, mN86, gC87, mN87, hNm.2.2]
    rw [if_pos (Int32.le_refl _)]
  · intro f s hs
    show f_X11_betters_l7 (f + 1) 57 _ (nI s) _ = f_X11_betters_l7 f 57 _ (nI (s + 1)) _
    rw [f_X11_betters_l7_s]
    simp only [mI, mL, mZ, msI, msL, mN1020, gC1, mR1_0, mR1_1, mR1_2, mR1_3, mR1_4, mR1_5, mR1_6, mR1_7, mR1_8, gC2, mR2_6, mR2_7, gC3, mN3, gC4, mN4, gC5, mR5_0, mR5_1, gC6, mN6, gC7, mR7_0, mR7_1, gC8, mR8_0, gC9, mN9, gC10, mR10_0, gC11, mN11, mR11_0, mR11_1, mR11_2, mR11_3, mR11_4, mR11_5, gC12, mR12_0, mR12_1, gC13, mN13, gC14, mN14, gC15, mR15_0, mR15_1, gC16, mN16, gC17, mN17, gC18, mR18_0, mR18_1, gC19, mN19, gC20, mN20, gC21, mR21_0, mR21_1, gC22, mN22, gC23, mN23, gC24, mR24_0, mR24_1, gC25, mN25, gC26, mN26, gC27, mR27_0, mR27_1, gC28, mN28, gC29, mN29, gC30, mR30_0, gC31, mN31, mR31_0, mR31_1, mR31_2, mR31_3, mR31_4, mR31_5, gC32, mR32_0, mR32_1, gC33, mN33, gC34, mN34, gC35, mR35_0, mR35_1, gC36, mN36, gC37, mN37, gC38, mR38_0, mR38_1, gC39, mN39, gC40, mN40, gC41, mR41_0, mR41_1, gC42, mN42, gC43, mN43, gC44, mR44_0, mR44_1, gC45, mN45, gC46, mN46, gC47, mR47_0, mR47_1, gC48, mN48, gC49, mN49, gC50, mR50_0, mR50_1, mR50_2, mR50_3, gC51, mN51, gC52, mN52, gC53, mN53, gC54, mN54, gC55, gC56, gC57, mR57_2, mR57_3, mR57_6, mR57_7, mR57_8, mR57_9, mR57_10, mR57_11, mR57_12, mR57_13, mR57_14, mR57_15, mR57_16, mR57_18, mR57_19, mR57_20, mR57_21, mR57_22, mR57_23, mR57_25, mR57_26, mR57_27, mR57_28, mR57_37, mR57_40, mR57_41, mR57_43, mR57_44, mR57_48, mR57_49, gC58, mN58, gC59, mN59, gC60, mN60, gC61, mN61, gC62, mN62, gC63, mN63, gC64, mN64, gC65, mN65, gC66, mN66, gC67, mN67, gC68, mN68, gC69, mN69, gC70, mN70, gC71, mN71, gC72, mN72, gC73, mN73, gC74, mN74, gC75, mN75, gC76, mN76, gC77, mN77, gC78, mN78, gC79, mN79, gC80, mN80, gC81, mN81, gC82, mN82, gC83, mN83, gC84, mN84, gC85, mN85, gC86, mN86, gC87, mN87, hNm.2.2, nI_clamp (show s < 2 ^ 31 by omega), gI (show s < 9 by omega) (show 9 < 2 ^ 31 by omega)]
    rw [if_neg (nI_ge hs (by omega)), show (0 : Int32) = nI 0 from rfl, inner_no hm h hg eg hs (hno s hs)]
theorem moveM_yes (hm : mdlR m j) (h : Rel C R n z j l) {g s c : Nat} (hg : g ≤ 3) (eg : j 57 4 = nI g) (hs : s < n) (hcz : c < z) (hla : laB j s = true) (hmv : mvP C R n z j g s c = true) (h1 : ∀ a, a < c → mvP C R n z j g s a = false) (hno : ∀ t, t < s → noMv C R n z j g t) : f_X11_betters 57 (mkS n z L m l2) = some (1, mkS n z L (u2 m 66 s (nI c)) l2) := by
  obtain ⟨hD, hE, hK, hB, hG, hN, hF, hV, hA, hX, hT, hU, hJ, hM, hL, hO, hY, hP⟩ := id h
  have h9 := hN.1
  have hz := zlt hD
  have hDm : RelD C R z m := hD.fr (fun p k hp => hm p k (by unfold sD at hp; omega))
  have hNm : RelN n m := hN.fr (fun p k hp => hm p k (by unfold sN at hp; omega))
  have hVm : RelV C R z n m := hV.fr (fun p k hp => hm p k (by unfold sVv at hp; omega))
  obtain ⟨a1, a2, -, -⟩ := atN_E hD hV hs (laB_t.mp hla)
  simp only [f_X11_betters, mI, mL, mZ, msI, msL, mN1020, gC1, mR1_0, mR1_1, mR1_2, mR1_3, mR1_4, mR1_5, mR1_6, mR1_7, mR1_8, gC2, mR2_6, mR2_7, gC3, mN3, gC4, mN4, gC5, mR5_0, mR5_1, gC6, mN6, gC7, mR7_0, mR7_1, gC8, mR8_0, gC9, mN9, gC10, mR10_0, gC11, mN11, mR11_0, mR11_1, mR11_2, mR11_3, mR11_4, mR11_5, gC12, mR12_0, mR12_1, gC13, mN13, gC14, mN14, gC15, mR15_0, mR15_1, gC16, mN16, gC17, mN17, gC18, mR18_0, mR18_1, gC19, mN19, gC20, mN20, gC21, mR21_0, mR21_1, gC22, mN22, gC23, mN23, gC24, mR24_0, mR24_1, gC25, mN25, gC26, mN26, gC27, mR27_0, mR27_1, gC28, mN28, gC29, mN29, gC30, mR30_0, gC31, mN31, mR31_0, mR31_1, mR31_2, mR31_3, mR31_4, mR31_5, gC32, mR32_0, mR32_1, gC33, mN33, gC34, mN34, gC35, mR35_0, mR35_1, gC36, mN36, gC37, mN37, gC38, mR38_0, mR38_1, gC39, mN39, gC40, mN40, gC41, mR41_0, mR41_1, gC42, mN42, gC43, mN43, gC44, mR44_0, mR44_1, gC45, mN45, gC46, mN46, gC47, mR47_0, mR47_1, gC48, mN48, gC49, mN49, gC50, mR50_0, mR50_1, mR50_2, mR50_3, gC51, mN51, gC52, mN52, gC53, mN53, gC54, mN54, gC55, gC56, gC57, mR57_2, mR57_3, mR57_6, mR57_7, mR57_8, mR57_9, mR57_10, mR57_11, mR57_12, mR57_13, mR57_14, mR57_15, mR57_16, mR57_18, mR57_19, mR57_20, mR57_21, mR57_22, mR57_23, mR57_25, mR57_26, mR57_27, mR57_28, mR57_37, mR57_40, mR57_41, mR57_43, mR57_44, mR57_48, mR57_49, gC58, mN58, gC59, mN59, gC60, mN60, gC61, mN61, gC62, mN62, gC63, mN63, gC64, mN64, gC65, mN65, gC66, mN66, gC67, mN67, gC68, mN68, gC69, mN69, gC70, mN70, gC71, mN71, gC72, mN72, gC73, mN73, gC74, mN74, gC75, mN75, gC76, mN76, gC77, mN77, gC78, mN78, gC79, mN79, gC80, mN80, gC81, mN81, gC82, mN82, gC83, mN83, gC84, mN84, gC85, mN85, gC86, mN86, gC87, mN87, priced_E hDm hNm hVm, bdS, prc_cong hm]
  refine acc_loop (fun f (_ : Unit) s w => f_X11_betters_l7 f 57 (nI (prc C j n)) s w) (fun _ => ()) (fun _ => mkS n z L m l2) s _ ?_ ?_ s 0 xFu (by omega) (by unfold xFu; omega)
  · intro f
    show f_X11_betters_l7 (f + 1) 57 _ (nI s) _ = _
    rw [f_X11_betters_l7_s]
    simp only [mI, mL, mZ, msI, msL, mN1020, gC1, mR1_0, mR1_1, mR1_2, mR1_3, mR1_4, mR1_5, mR1_6, mR1_7, mR1_8, gC2, mR2_6, mR2_7, gC3, mN3, gC4, mN4, gC5, mR5_0, mR5_1, gC6, mN6, gC7, mR7_0, mR7_1, gC8, mR8_0, gC9, mN9, gC10, mR10_0, gC11, mN11, mR11_0, mR11_1, mR11_2, mR11_3, mR11_4, mR11_5, gC12, mR12_0, mR12_1, gC13, mN13, gC14, mN14, gC15, mR15_0, mR15_1, gC16, mN16, gC17, mN17, gC18, mR18_0, mR18_1, gC19, mN19, gC20, mN20, gC21, mR21_0, mR21_1, gC22, mN22, gC23, mN23, gC24, mR24_0, mR24_1, gC25, mN25, gC26, mN26, gC27, mR27_0, mR27_1, gC28, mN28, gC29, mN29, gC30, mR30_0, gC31, mN31, mR31_0, mR31_1, mR31_2, mR31_3, mR31_4, mR31_5, gC32, mR32_0, mR32_1, gC33, mN33, gC34, mN34, gC35, mR35_0, mR35_1, gC36, mN36, gC37, mN37, gC38, mR38_0, mR38_1, gC39, mN39, gC40, mN40, gC41, mR41_0, mR41_1, gC42, mN42, gC43, mN43, gC44, mR44_0, mR44_1, gC45, mN45, gC46, mN46, gC47, mR47_0, mR47_1, gC48, mN48, gC49, mN49, gC50, mR50_0, mR50_1, mR50_2, mR50_3, gC51, mN51, gC52, mN52, gC53, mN53, gC54, mN54, gC55, gC56, gC57, mR57_2, mR57_3, mR57_6, mR57_7, mR57_8, mR57_9, mR57_10, mR57_11, mR57_12, mR57_13, mR57_14, mR57_15, mR57_16, mR57_18, mR57_19, mR57_20, mR57_21, mR57_22, mR57_23, mR57_25, mR57_26, mR57_27, mR57_28, mR57_37, mR57_40, mR57_41, mR57_43, mR57_44, mR57_48, mR57_49, gC58, mN58, gC59, mN59, gC60, mN60, gC61, mN61, gC62, mN62, gC63, mN63, gC64, mN64, gC65, mN65, gC66, mN66, gC67, mN67, gC68, mN68, gC69, mN69, gC70, mN70, gC71, mN71, gC72, mN72, gC73, mN73, gC74, mN74, gC75, mN75, gC76, mN76, gC77, mN77, gC78, mN78, gC79, mN79, gC80, mN80, gC81, mN81, gC82, mN82, gC83, mN83, gC84, mN84, gC85, mN85, gC86, mN86, gC87, mN87, hNm.2.2, nI_clamp (show s < 2 ^ 31 by omega), gI (show s < 9 by omega) (show 9 < 2 ^ 31 by omega)]
    rw [if_neg (nI_ge hs (by omega)), hm 66 s (by omega), a1]
    refine acc_loop (fun f' (_ : Unit) c w => f_X11_betters_l25 (f_X11_betters_l7 f) f' 57 (nI (prc C j n)) (nI s) (nI (atN j s)) c w) (fun _ => ()) (fun _ => mkS n z L m l2) c _ ?_ ?_ c 0 xFu (by omega) (by unfold xFu; omega)
    · intro f'
      show f_X11_betters_l25 _ (f' + 1) 57 _ _ _ (nI c) _ = _
      rw [inner_step hm h hg eg hs hcz hla, if_pos hmv]
    · intro f' c2 hc2
      show f_X11_betters_l25 _ (f' + 1) 57 _ _ _ (nI c2) _ = f_X11_betters_l25 _ f' 57 _ _ _ (nI (c2 + 1)) _
      rw [inner_step hm h hg eg hs (by omega) hla, if_neg (by rw [h1 c2 hc2]; decide)]
  · intro f t ht
    show f_X11_betters_l7 (f + 1) 57 _ (nI t) _ = f_X11_betters_l7 f 57 _ (nI (t + 1)) _
    rw [f_X11_betters_l7_s]
    simp only [mI, mL, mZ, msI, msL, mN1020, gC1, mR1_0, mR1_1, mR1_2, mR1_3, mR1_4, mR1_5, mR1_6, mR1_7, mR1_8, gC2, mR2_6, mR2_7, gC3, mN3, gC4, mN4, gC5, mR5_0, mR5_1, gC6, mN6, gC7, mR7_0, mR7_1, gC8, mR8_0, gC9, mN9, gC10, mR10_0, gC11, mN11, mR11_0, mR11_1, mR11_2, mR11_3, mR11_4, mR11_5, gC12, mR12_0, mR12_1, gC13, mN13, gC14, mN14, gC15, mR15_0, mR15_1, gC16, mN16, gC17, mN17, gC18, mR18_0, mR18_1, gC19, mN19, gC20, mN20, gC21, mR21_0, mR21_1, gC22, mN22, gC23, mN23, gC24, mR24_0, mR24_1, gC25, mN25, gC26, mN26, gC27, mR27_0, mR27_1, gC28, mN28, gC29, mN29, gC30, mR30_0, gC31, mN31, mR31_0, mR31_1, mR31_2, mR31_3, mR31_4, mR31_5, gC32, mR32_0, mR32_1, gC33, mN33, gC34, mN34, gC35, mR35_0, mR35_1, gC36, mN36, gC37, mN37, gC38, mR38_0, mR38_1, gC39, mN39, gC40, mN40, gC41, mR41_0, mR41_1, gC42, mN42, gC43, mN43, gC44, mR44_0, mR44_1, gC45, mN45, gC46, mN46, gC47, mR47_0, mR47_1, gC48, mN48, gC49, mN49, gC50, mR50_0, mR50_1, mR50_2, mR50_3, gC51, mN51, gC52, mN52, gC53, mN53, gC54, mN54, gC55, gC56, gC57, mR57_2, mR57_3, mR57_6, mR57_7, mR57_8, mR57_9, mR57_10, mR57_11, mR57_12, mR57_13, mR57_14, mR57_15, mR57_16, mR57_18, mR57_19, mR57_20, mR57_21, mR57_22, mR57_23, mR57_25, mR57_26, mR57_27, mR57_28, mR57_37, mR57_40, mR57_41, mR57_43, mR57_44, mR57_48, mR57_49, gC58, mN58, gC59, mN59, gC60, mN60, gC61, mN61, gC62, mN62, gC63, mN63, gC64, mN64, gC65, mN65, gC66, mN66, gC67, mN67, gC68, mN68, gC69, mN69, gC70, mN70, gC71, mN71, gC72, mN72, gC73, mN73, gC74, mN74, gC75, mN75, gC76, mN76, gC77, mN77, gC78, mN78, gC79, mN79, gC80, mN80, gC81, mN81, gC82, mN82, gC83, mN83, gC84, mN84, gC85, mN85, gC86, mN86, gC87, mN87, hNm.2.2, nI_clamp (show t < 2 ^ 31 by omega), gI (show t < 9 by omega) (show 9 < 2 ^ 31 by omega)]
    rw [if_neg (nI_ge (by omega) (by omega)), show (0 : Int32) = nI 0 from rfl, inner_no hm h hg eg (by omega) (hno t ht)]
/-- all moves, of both -/
theorem moves_E {g : Nat} (hg : g ≤ 3) : ∀ (k q : Nat) (i j : fI) (l : fL) (f : Nat), q + k = 50 → k < f → clsR i j → Rel C R n z j l → j 57 4 = nI g → ∃ (r : Int32) (i2 j2 : fI) (l2 : fL), f_X10_better_l15 f 1 (nI q) (mkS n z L i l) = some (r, mkS n z L i2 l2) ∧ clsR i2 j2 ∧ (∀ p k, p < 88 ∨ 1000 < p → i2 p k = i p k) ∧ Rel C R n z j2 l2 ∧ ∀ (m : fI) (lm : fL), mdlR m j → ∃ m2 : fI, f_X11_better_l12 f 57 (nI q) (mkS n z L m lm) = some (r, mkS n z L m2 lm) ∧ mdlR m2 j2 ∧ ∀ p k, 88 ≤ p → m2 p k = m p k
  | 0, q, i, j, l, f, hq, hf, hc, h, eg => by
    obtain ⟨f, rfl⟩ : ∃ f', f = f' + 1 := ⟨f - 1, by omega⟩
    have : q = 50 := by omega
    subst this
    refine ⟨nI 50, i, j, l, ?_, hc, fun _ _ _ => rfl, h, fun m lm hm => ⟨m, ?_, hm, fun _ _ _ => rfl⟩⟩
    · rw [f_X10_better_l15_s, if_pos (by decide)]
    · rw [f_X11_better_l12_s, if_pos (by decide)]
  | k + 1, q, i, j, l, f, hq, hf, hc, h, eg => by
    obtain ⟨f, rfl⟩ : ∃ f', f = f' + 1 := ⟨f - 1, by omega⟩
    have h9 : n ≤ 9 := h.2.2.2.2.2.1.1
    have h50 : ¬ (50 : Int32) ≤ nI q := by rw [show (50 : Int32) = nI 50 from rfl]; exact nI_ge (by omega) (by omega)
    by_cases hex : ∃ s, s < n ∧ ∃ c, c < z ∧ laB j s = true ∧ mvP C R n z j g s c = true
    · obtain ⟨s, hs, ⟨c0, hc0, hla, hmv0⟩, hfirst⟩ := @fb_first (fun s => ∃ c, c < z ∧ laB j s = true ∧ mvP C R n z j g s c = true) (fun _ => Classical.propDecidable _) n hex
      obtain ⟨c, hcz, hmv, hfc⟩ := fb_first (p := fun c => mvP C R n z j g s c = true) (n := z) ⟨c0, hc0, hmv0⟩
      have h1 : ∀ a, a < c → mvP C R n z j g s a = false := fun a ha => by simpa using hfc a ha
      have hno : ∀ t, t < s → noMv C R n z j g t := by
        intro t ht hl c2 hc2
        cases e : mvP C R n z j g t c2 with
        | false => rfl
        | true => exact absurd ⟨c2, hc2, hl, e⟩ (hfirst t ht)
      have hin : hinV C R n z j g s c = 0 := by
        unfold mvP at hmv
        simp only [Bool.and_eq_true, decide_eq_true_eq] at hmv
        exact hmv.2
      have hrel := put_rel h hs hcz hin
      have eg2 : u2 (u2 j (88 + s) 6 (nI c)) 66 s (nI c) 57 4 = nI g := by rw [u2_p _ _ (by omega), u2_p _ _ (by omega), eg]
      have hc2 : clsR (u2 i (88 + s) 6 (nI c)) (u2 (u2 j (88 + s) 6 (nI c)) 66 s (nI c)) := by
        intro p r hp
        rw [u2_p _ _ hp]
        unfold u2
        by_cases e : p = 88 + s ∧ r = 6
        · rw [if_pos e, if_pos e]
        · rw [if_neg e, if_neg e, hc p r hp]
      obtain ⟨r, i2, j2, l2, a1, a2, a3, a4, a5⟩ := moves_E hg k (q + 1) (u2 i (88 + s) 6 (nI c)) (u2 (u2 j (88 + s) 6 (nI c)) 66 s (nI c)) (u2 l (88 + s) 7 (areaV C R c (wdN j s) (dpN j s))) f (by omega) (by omega) hc2 hrel eg2
      refine ⟨r, i2, j2, l2, ?_, a2, fun p r hp => ?_, a4, fun m lm hm => ?_⟩
      · rw [f_X10_better_l15_s, if_neg h50]
        simp only [mI, mL, mZ, msI, msL, mN1020, gC1, mR1_0, mR1_1, mR1_2, mR1_3, mR1_4, mR1_5, mR1_6, mR1_7, mR1_8, gC2, mR2_6, mR2_7, gC3, mN3, gC4, mN4, gC5, mR5_0, mR5_1, gC6, mN6, gC7, mR7_0, mR7_1, gC8, mR8_0, gC9, mN9, gC10, mR10_0, gC11, mN11, mR11_0, mR11_1, mR11_2, mR11_3, mR11_4, mR11_5, gC12, mR12_0, mR12_1, gC13, mN13, gC14, mN14, gC15, mR15_0, mR15_1, gC16, mN16, gC17, mN17, gC18, mR18_0, mR18_1, gC19, mN19, gC20, mN20, gC21, mR21_0, mR21_1, gC22, mN22, gC23, mN23, gC24, mR24_0, mR24_1, gC25, mN25, gC26, mN26, gC27, mR27_0, mR27_1, gC28, mN28, gC29, mN29, gC30, mR30_0, gC31, mN31, mR31_0, mR31_1, mR31_2, mR31_3, mR31_4, mR31_5, gC32, mR32_0, mR32_1, gC33, mN33, gC34, mN34, gC35, mR35_0, mR35_1, gC36, mN36, gC37, mN37, gC38, mR38_0, mR38_1, gC39, mN39, gC40, mN40, gC41, mR41_0, mR41_1, gC42, mN42, gC43, mN43, gC44, mR44_0, mR44_1, gC45, mN45, gC46, mN46, gC47, mR47_0, mR47_1, gC48, mN48, gC49, mN49, gC50, mR50_0, mR50_1, mR50_2, mR50_3, gC51, mN51, gC52, mN52, gC53, mN53, gC54, mN54, gC55, gC56, gC57, mR57_2, mR57_3, mR57_6, mR57_7, mR57_8, mR57_9, mR57_10, mR57_11, mR57_12, mR57_13, mR57_14, mR57_15, mR57_16, mR57_18, mR57_19, mR57_20, mR57_21, mR57_22, mR57_23, mR57_25, mR57_26, mR57_27, mR57_28, mR57_37, mR57_40, mR57_41, mR57_43, mR57_44, mR57_48, mR57_49, gC58, mN58, gC59, mN59, gC60, mN60, gC61, mN61, gC62, mN62, gC63, mN63, gC64, mN64, gC65, mN65, gC66, mN66, gC67, mN67, gC68, mN68, gC69, mN69, gC70, mN70, gC71, mN71, gC72, mN72, gC73, mN73, gC74, mN74, gC75, mN75, gC76, mN76, gC77, mN77, gC78, mN78, gC79, mN79, gC80, mN80, gC81, mN81, gC82, mN82, gC83, mN83, gC84, mN84, gC85, mN85, gC86, mN86, gC87, mN87, moveC_yes hc h hg eg hs hcz hla hmv h1 hno, bdS, nI_1]
        rw [if_neg (by decide), a1]
      · rw [a3 p r hp, u2_p _ _ (by omega)]
      · have hm2 : mdlR (u2 m 66 s (nI c)) (u2 (u2 j (88 + s) 6 (nI c)) 66 s (nI c)) := by
          intro p r hp
          unfold u2
          by_cases e : p = 66 ∧ r = s
          · rw [if_pos e, if_pos e]
          · rw [if_neg e, if_neg e]
            show m p r = if p = 88 + s ∧ r = 6 then nI c else j p r
            rw [if_neg (by omega), hm p r hp]
        obtain ⟨m2, b1, b2, b3⟩ := a5 (u2 m 66 s (nI c)) lm hm2
        refine ⟨m2, ?_, b2, fun p r hp => by rw [b3 p r hp, u2_p _ _ (by omega)]⟩
        rw [f_X11_better_l12_s, if_neg h50]
        simp only [mI, mL, mZ, msI, msL, mN1020, gC1, mR1_0, mR1_1, mR1_2, mR1_3, mR1_4, mR1_5, mR1_6, mR1_7, mR1_8, gC2, mR2_6, mR2_7, gC3, mN3, gC4, mN4, gC5, mR5_0, mR5_1, gC6, mN6, gC7, mR7_0, mR7_1, gC8, mR8_0, gC9, mN9, gC10, mR10_0, gC11, mN11, mR11_0, mR11_1, mR11_2, mR11_3, mR11_4, mR11_5, gC12, mR12_0, mR12_1, gC13, mN13, gC14, mN14, gC15, mR15_0, mR15_1, gC16, mN16, gC17, mN17, gC18, mR18_0, mR18_1, gC19, mN19, gC20, mN20, gC21, mR21_0, mR21_1, gC22, mN22, gC23, mN23, gC24, mR24_0, mR24_1, gC25, mN25, gC26, mN26, gC27, mR27_0, mR27_1, gC28, mN28, gC29, mN29, gC30, mR30_0, gC31, mN31, mR31_0, mR31_1, mR31_2, mR31_3, mR31_4, mR31_5, gC32, mR32_0, mR32_1, gC33, mN33, gC34, mN34, gC35, mR35_0, mR35_1, gC36, mN36, gC37, mN37, gC38, mR38_0, mR38_1, gC39, mN39, gC40, mN40, gC41, mR41_0, mR41_1, gC42, mN42, gC43, mN43, gC44, mR44_0, mR44_1, gC45, mN45, gC46, mN46, gC47, mR47_0, mR47_1, gC48, mN48, gC49, mN49, gC50, mR50_0, mR50_1, mR50_2, mR50_3, gC51, mN51, gC52, mN52, gC53, mN53, gC54, mN54, gC55, gC56, gC57, mR57_2, mR57_3, mR57_6, mR57_7, mR57_8, mR57_9, mR57_10, mR57_11, mR57_12, mR57_13, mR57_14, mR57_15, mR57_16, mR57_18, mR57_19, mR57_20, mR57_21, mR57_22, mR57_23, mR57_25, mR57_26, mR57_27, mR57_28, mR57_37, mR57_40, mR57_41, mR57_43, mR57_44, mR57_48, mR57_49, gC58, mN58, gC59, mN59, gC60, mN60, gC61, mN61, gC62, mN62, gC63, mN63, gC64, mN64, gC65, mN65, gC66, mN66, gC67, mN67, gC68, mN68, gC69, mN69, gC70, mN70, gC71, mN71, gC72, mN72, gC73, mN73, gC74, mN74, gC75, mN75, gC76, mN76, gC77, mN77, gC78, mN78, gC79, mN79, gC80, mN80, gC81, mN81, gC82, mN82, gC83, mN83, gC84, mN84, gC85, mN85, gC86, mN86, gC87, mN87, moveM_yes hm h hg eg hs hcz hla hmv h1 hno, bdS, nI_1]
        rw [if_neg (by decide), b1]
    · have hno : ∀ s, s < n → noMv C R n z j g s := by
        intro s hs hl c hc2
        cases e : mvP C R n z j g s c with
        | false => rfl
        | true => exact absurd ⟨s, hs, c, hc2, hl, e⟩ hex
      refine ⟨nI q, i, j, l, ?_, hc, fun _ _ _ => rfl, h, fun m lm hm => ⟨m, ?_, hm, fun _ _ _ => rfl⟩⟩
      · rw [f_X10_better_l15_s, if_neg h50]
        simp only [mI, mL, mZ, msI, msL, mN1020, gC1, mR1_0, mR1_1, mR1_2, mR1_3, mR1_4, mR1_5, mR1_6, mR1_7, mR1_8, gC2, mR2_6, mR2_7, gC3, mN3, gC4, mN4, gC5, mR5_0, mR5_1, gC6, mN6, gC7, mR7_0, mR7_1, gC8, mR8_0, gC9, mN9, gC10, mR10_0, gC11, mN11, mR11_0, mR11_1, mR11_2, mR11_3, mR11_4, mR11_5, gC12, mR12_0, mR12_1, gC13, mN13, gC14, mN14, gC15, mR15_0, mR15_1, gC16, mN16, gC17, mN17, gC18, mR18_0, mR18_1, gC19, mN19, gC20, mN20, gC21, mR21_0, mR21_1, gC22, mN22, gC23, mN23, gC24, mR24_0, mR24_1, gC25, mN25, gC26, mN26, gC27, mR27_0, mR27_1, gC28, mN28, gC29, mN29, gC30, mR30_0, gC31, mN31, mR31_0, mR31_1, mR31_2, mR31_3, mR31_4, mR31_5, gC32, mR32_0, mR32_1, gC33, mN33, gC34, mN34, gC35, mR35_0, mR35_1, gC36, mN36, gC37, mN37, gC38, mR38_0, mR38_1, gC39, mN39, gC40, mN40, gC41, mR41_0, mR41_1, gC42, mN42, gC43, mN43, gC44, mR44_0, mR44_1, gC45, mN45, gC46, mN46, gC47, mR47_0, mR47_1, gC48, mN48, gC49, mN49, gC50, mR50_0, mR50_1, mR50_2, mR50_3, gC51, mN51, gC52, mN52, gC53, mN53, gC54, mN54, gC55, gC56, gC57, mR57_2, mR57_3, mR57_6, mR57_7, mR57_8, mR57_9, mR57_10, mR57_11, mR57_12, mR57_13, mR57_14, mR57_15, mR57_16, mR57_18, mR57_19, mR57_20, mR57_21, mR57_22, mR57_23, mR57_25, mR57_26, mR57_27, mR57_28, mR57_37, mR57_40, mR57_41, mR57_43, mR57_44, mR57_48, mR57_49, gC58, mN58, gC59, mN59, gC60, mN60, gC61, mN61, gC62, mN62, gC63, mN63, gC64, mN64, gC65, mN65, gC66, mN66, gC67, mN67, gC68, mN68, gC69, mN69, gC70, mN70, gC71, mN71, gC72, mN72, gC73, mN73, gC74, mN74, gC75, mN75, gC76, mN76, gC77, mN77, gC78, mN78, gC79, mN79, gC80, mN80, gC81, mN81, gC82, mN82, gC83, mN83, gC84, mN84, gC85, mN85, gC86, mN86, gC87, mN87, moveC_no hc h hg eg hno, bdS]
        rw [if_pos trivial]
      · rw [f_X11_better_l12_s, if_neg h50]
        simp only [mI, mL, mZ, msI, msL, mN1020, gC1, mR1_0, mR1_1, mR1_2, mR1_3, mR1_4, mR1_5, mR1_6, mR1_7, mR1_8, gC2, mR2_6, mR2_7, gC3, mN3, gC4, mN4, gC5, mR5_0, mR5_1, gC6, mN6, gC7, mR7_0, mR7_1, gC8, mR8_0, gC9, mN9, gC10, mR10_0, gC11, mN11, mR11_0, mR11_1, mR11_2, mR11_3, mR11_4, mR11_5, gC12, mR12_0, mR12_1, gC13, mN13, gC14, mN14, gC15, mR15_0, mR15_1, gC16, mN16, gC17, mN17, gC18, mR18_0, mR18_1, gC19, mN19, gC20, mN20, gC21, mR21_0, mR21_1, gC22, mN22, gC23, mN23, gC24, mR24_0, mR24_1, gC25, mN25, gC26, mN26, gC27, mR27_0, mR27_1, gC28, mN28, gC29, mN29, gC30, mR30_0, gC31, mN31, mR31_0, mR31_1, mR31_2, mR31_3, mR31_4, mR31_5, gC32, mR32_0, mR32_1, gC33, mN33, gC34, mN34, gC35, mR35_0, mR35_1, gC36, mN36, gC37, mN37, gC38, mR38_0, mR38_1, gC39, mN39, gC40, mN40, gC41, mR41_0, mR41_1, gC42, mN42, gC43, mN43, gC44, mR44_0, mR44_1, gC45, mN45, gC46, mN46, gC47, mR47_0, mR47_1, gC48, mN48, gC49, mN49, gC50, mR50_0, mR50_1, mR50_2, mR50_3, gC51, mN51, gC52, mN52, gC53, mN53, gC54, mN54, gC55, gC56, gC57, mR57_2, mR57_3, mR57_6, mR57_7, mR57_8, mR57_9, mR57_10, mR57_11, mR57_12, mR57_13, mR57_14, mR57_15, mR57_16, mR57_18, mR57_19, mR57_20, mR57_21, mR57_22, mR57_23, mR57_25, mR57_26, mR57_27, mR57_28, mR57_37, mR57_40, mR57_41, mR57_43, mR57_44, mR57_48, mR57_49, gC58, mN58, gC59, mN59, gC60, mN60, gC61, mN61, gC62, mN62, gC63, mN63, gC64, mN64, gC65, mN65, gC66, mN66, gC67, mN67, gC68, mN68, gC69, mN69, gC70, mN70, gC71, mN71, gC72, mN72, gC73, mN73, gC74, mN74, gC75, mN75, gC76, mN76, gC77, mN77, gC78, mN78, gC79, mN79, gC80, mN80, gC81, mN81, gC82, mN82, gC83, mN83, gC84, mN84, gC85, mN85, gC86, mN86, gC87, mN87, moveM_no hm h hg eg hno, bdS]
        rw [if_pos trivial]
theorem op_better (h : Rel C R n z i l) : OpOK C R n z L (f_X10_better 1) (f_X11_better 57) i l := by
  obtain ⟨hD, hE, hK, hB, hG, hN, hF, hV, hA, hX, hT, hU, hJ, hM, hL, hO, hY, hP⟩ := id h
  have h9 := hN.1
  have hl := insN_le i n
  obtain ⟨g0, g, g1, g2⟩ := id hG
  by_cases q : insN i n = 0
  · obtain ⟨r, i2, j2, l2, a1, a2, a3, a4, a5⟩ := moves_E (L := L) g1 50 0 i i l xFu (by omega) (by unfold xFu; omega) (fun _ _ _ => rfl) h g2
    obtain ⟨m2, b1, b2, b3⟩ := a5 i2 l2 (fun p k hp => a3 p k (Or.inl hp))
    have em : m2 = j2 := by
      funext p k
      by_cases e : p < 88
      · exact b2 p k e
      · rw [b3 p k (by omega), a2 p k (by omega)]
    subst em
    refine ⟨r, mkS n z L i2 l2, n, m2, l2, ?_, ?_, ⟨_, _, rfl, fun p k hp => a3 p k (by unfold sQ at hp; omega)⟩, a4⟩
    · simp only [f_X10_better, mI, mL, mZ, msI, msL, mN1020, gC1, mR1_0, mR1_1, mR1_2, mR1_3, mR1_4, mR1_5, mR1_6, mR1_7, mR1_8, gC2, mR2_6, mR2_7, gC3, mN3, gC4, mN4, gC5, mR5_0, mR5_1, gC6, mN6, gC7, mR7_0, mR7_1, gC8, mR8_0, gC9, mN9, gC10, mR10_0, gC11, mN11, mR11_0, mR11_1, mR11_2, mR11_3, mR11_4, mR11_5, gC12, mR12_0, mR12_1, gC13, mN13, gC14, mN14, gC15, mR15_0, mR15_1, gC16, mN16, gC17, mN17, gC18, mR18_0, mR18_1, gC19, mN19, gC20, mN20, gC21, mR21_0, mR21_1, gC22, mN22, gC23, mN23, gC24, mR24_0, mR24_1, gC25, mN25, gC26, mN26, gC27, mR27_0, mR27_1, gC28, mN28, gC29, mN29, gC30, mR30_0, gC31, mN31, mR31_0, mR31_1, mR31_2, mR31_3, mR31_4, mR31_5, gC32, mR32_0, mR32_1, gC33, mN33, gC34, mN34, gC35, mR35_0, mR35_1, gC36, mN36, gC37, mN37, gC38, mR38_0, mR38_1, gC39, mN39, gC40, mN40, gC41, mR41_0, mR41_1, gC42, mN42, gC43, mN43, gC44, mR44_0, mR44_1, gC45, mN45, gC46, mN46, gC47, mR47_0, mR47_1, gC48, mN48, gC49, mN49, gC50, mR50_0, mR50_1, mR50_2, mR50_3, gC51, mN51, gC52, mN52, gC53, mN53, gC54, mN54, gC55, gC56, gC57, mR57_2, mR57_3, mR57_6, mR57_7, mR57_8, mR57_9, mR57_10, mR57_11, mR57_12, mR57_13, mR57_14, mR57_15, mR57_16, mR57_18, mR57_19, mR57_20, mR57_21, mR57_22, mR57_23, mR57_25, mR57_26, mR57_27, mR57_28, mR57_37, mR57_40, mR57_41, mR57_43, mR57_44, mR57_48, mR57_49, gC58, mN58, gC59, mN59, gC60, mN60, gC61, mN61, gC62, mN62, gC63, mN63, gC64, mN64, gC65, mN65, gC66, mN66, gC67, mN67, gC68, mN68, gC69, mN69, gC70, mN70, gC71, mN71, gC72, mN72, gC73, mN73, gC74, mN74, gC75, mN75, gC76, mN76, gC77, mN77, gC78, mN78, gC79, mN79, gC80, mN80, gC81, mN81, gC82, mN82, gC83, mN83, gC84, mN84, gC85, mN85, gC86, mN86, gC87, mN87, withGoods_E hN hF, bdS]
      rw [if_pos ((le0_nI (by omega)).mpr q)]
      exact a1
    · have hN2 : RelN n i2 := hN.fr (fun p k hp => a3 p k (by unfold sN at hp; omega))
      have e : insN i2 n = insN i n := fb_ct_cong (fun k _ => by rw [a3 68 k (by omega)])
      simp only [f_X11_better, mI, mL, mZ, msI, msL, mN1020, gC1, mR1_0, mR1_1, mR1_2, mR1_3, mR1_4, mR1_5, mR1_6, mR1_7, mR1_8, gC2, mR2_6, mR2_7, gC3, mN3, gC4, mN4, gC5, mR5_0, mR5_1, gC6, mN6, gC7, mR7_0, mR7_1, gC8, mR8_0, gC9, mN9, gC10, mR10_0, gC11, mN11, mR11_0, mR11_1, mR11_2, mR11_3, mR11_4, mR11_5, gC12, mR12_0, mR12_1, gC13, mN13, gC14, mN14, gC15, mR15_0, mR15_1, gC16, mN16, gC17, mN17, gC18, mR18_0, mR18_1, gC19, mN19, gC20, mN20, gC21, mR21_0, mR21_1, gC22, mN22, gC23, mN23, gC24, mR24_0, mR24_1, gC25, mN25, gC26, mN26, gC27, mR27_0, mR27_1, gC28, mN28, gC29, mN29, gC30, mR30_0, gC31, mN31, mR31_0, mR31_1, mR31_2, mR31_3, mR31_4, mR31_5, gC32, mR32_0, mR32_1, gC33, mN33, gC34, mN34, gC35, mR35_0, mR35_1, gC36, mN36, gC37, mN37, gC38, mR38_0, mR38_1, gC39, mN39, gC40, mN40, gC41, mR41_0, mR41_1, gC42, mN42, gC43, mN43, gC44, mR44_0, mR44_1, gC45, mN45, gC46, mN46, gC47, mR47_0, mR47_1, gC48, mN48, gC49, mN49, gC50, mR50_0, mR50_1, mR50_2, mR50_3, gC51, mN51, gC52, mN52, gC53, mN53, gC54, mN54, gC55, gC56, gC57, mR57_2, mR57_3, mR57_6, mR57_7, mR57_8, mR57_9, mR57_10, mR57_11, mR57_12, mR57_13, mR57_14, mR57_15, mR57_16, mR57_18, mR57_19, mR57_20, mR57_21, mR57_22, mR57_23, mR57_25, mR57_26, mR57_27, mR57_28, mR57_37, mR57_40, mR57_41, mR57_43, mR57_44, mR57_48, mR57_49, gC58, mN58, gC59, mN59, gC60, mN60, gC61, mN61, gC62, mN62, gC63, mN63, gC64, mN64, gC65, mN65, gC66, mN66, gC67, mN67, gC68, mN68, gC69, mN69, gC70, mN70, gC71, mN71, gC72, mN72, gC73, mN73, gC74, mN74, gC75, mN75, gC76, mN76, gC77, mN77, gC78, mN78, gC79, mN79, gC80, mN80, gC81, mN81, gC82, mN82, gC83, mN83, gC84, mN84, gC85, mN85, gC86, mN86, gC87, mN87, ins_E hN2, bdS, e]
      rw [if_pos ((le0_nI (by omega)).mpr q)]
      exact b1
  · refine ⟨-3, mkS n z L i l, n, i, l, ?_, ?_, ⟨_, _, rfl, by repeat first | exact Fr_rfl | refine Fr_u2 ?_ (by unfold sQ; omega)⟩, h⟩
    · simp only [f_X10_better, mI, mL, mZ, msI, msL, mN1020, gC1, mR1_0, mR1_1, mR1_2, mR1_3, mR1_4, mR1_5, mR1_6, mR1_7, mR1_8, gC2, mR2_6, mR2_7, gC3, mN3, gC4, mN4, gC5, mR5_0, mR5_1, gC6, mN6, gC7, mR7_0, mR7_1, gC8, mR8_0, gC9, mN9, gC10, mR10_0, gC11, mN11, mR11_0, mR11_1, mR11_2, mR11_3, mR11_4, mR11_5, gC12, mR12_0, mR12_1, gC13, mN13, gC14, mN14, gC15, mR15_0, mR15_1, gC16, mN16, gC17, mN17, gC18, mR18_0, mR18_1, gC19, mN19, gC20, mN20, gC21, mR21_0, mR21_1, gC22, mN22, gC23, mN23, gC24, mR24_0, mR24_1, gC25, mN25, gC26, mN26, gC27, mR27_0, mR27_1, gC28, mN28, gC29, mN29, gC30, mR30_0, gC31, mN31, mR31_0, mR31_1, mR31_2, mR31_3, mR31_4, mR31_5, gC32, mR32_0, mR32_1, gC33, mN33, gC34, mN34, gC35, mR35_0, mR35_1, gC36, mN36, gC37, mN37, gC38, mR38_0, mR38_1, gC39, mN39, gC40, mN40, gC41, mR41_0, mR41_1, gC42, mN42, gC43, mN43, gC44, mR44_0, mR44_1, gC45, mN45, gC46, mN46, gC47, mR47_0, mR47_1, gC48, mN48, gC49, mN49, gC50, mR50_0, mR50_1, mR50_2, mR50_3, gC51, mN51, gC52, mN52, gC53, mN53, gC54, mN54, gC55, gC56, gC57, mR57_2, mR57_3, mR57_6, mR57_7, mR57_8, mR57_9, mR57_10, mR57_11, mR57_12, mR57_13, mR57_14, mR57_15, mR57_16, mR57_18, mR57_19, mR57_20, mR57_21, mR57_22, mR57_23, mR57_25, mR57_26, mR57_27, mR57_28, mR57_37, mR57_40, mR57_41, mR57_43, mR57_44, mR57_48, mR57_49, gC58, mN58, gC59, mN59, gC60, mN60, gC61, mN61, gC62, mN62, gC63, mN63, gC64, mN64, gC65, mN65, gC66, mN66, gC67, mN67, gC68, mN68, gC69, mN69, gC70, mN70, gC71, mN71, gC72, mN72, gC73, mN73, gC74, mN74, gC75, mN75, gC76, mN76, gC77, mN77, gC78, mN78, gC79, mN79, gC80, mN80, gC81, mN81, gC82, mN82, gC83, mN83, gC84, mN84, gC85, mN85, gC86, mN86, gC87, mN87, withGoods_E hN hF, bdS]
      rw [if_neg (fun y => q ((le0_nI (by omega)).mp y))]
    · simp only [f_X11_better, mI, mL, mZ, msI, msL, mN1020, gC1, mR1_0, mR1_1, mR1_2, mR1_3, mR1_4, mR1_5, mR1_6, mR1_7, mR1_8, gC2, mR2_6, mR2_7, gC3, mN3, gC4, mN4, gC5, mR5_0, mR5_1, gC6, mN6, gC7, mR7_0, mR7_1, gC8, mR8_0, gC9, mN9, gC10, mR10_0, gC11, mN11, mR11_0, mR11_1, mR11_2, mR11_3, mR11_4, mR11_5, gC12, mR12_0, mR12_1, gC13, mN13, gC14, mN14, gC15, mR15_0, mR15_1, gC16, mN16, gC17, mN17, gC18, mR18_0, mR18_1, gC19, mN19, gC20, mN20, gC21, mR21_0, mR21_1, gC22, mN22, gC23, mN23, gC24, mR24_0, mR24_1, gC25, mN25, gC26, mN26, gC27, mR27_0, mR27_1, gC28, mN28, gC29, mN29, gC30, mR30_0, gC31, mN31, mR31_0, mR31_1, mR31_2, mR31_3, mR31_4, mR31_5, gC32, mR32_0, mR32_1, gC33, mN33, gC34, mN34, gC35, mR35_0, mR35_1, gC36, mN36, gC37, mN37, gC38, mR38_0, mR38_1, gC39, mN39, gC40, mN40, gC41, mR41_0, mR41_1, gC42, mN42, gC43, mN43, gC44, mR44_0, mR44_1, gC45, mN45, gC46, mN46, gC47, mR47_0, mR47_1, gC48, mN48, gC49, mN49, gC50, mR50_0, mR50_1, mR50_2, mR50_3, gC51, mN51, gC52, mN52, gC53, mN53, gC54, mN54, gC55, gC56, gC57, mR57_2, mR57_3, mR57_6, mR57_7, mR57_8, mR57_9, mR57_10, mR57_11, mR57_12, mR57_13, mR57_14, mR57_15, mR57_16, mR57_18, mR57_19, mR57_20, mR57_21, mR57_22, mR57_23, mR57_25, mR57_26, mR57_27, mR57_28, mR57_37, mR57_40, mR57_41, mR57_43, mR57_44, mR57_48, mR57_49, gC58, mN58, gC59, mN59, gC60, mN60, gC61, mN61, gC62, mN62, gC63, mN63, gC64, mN64, gC65, mN65, gC66, mN66, gC67, mN67, gC68, mN68, gC69, mN69, gC70, mN70, gC71, mN71, gC72, mN72, gC73, mN73, gC74, mN74, gC75, mN75, gC76, mN76, gC77, mN77, gC78, mN78, gC79, mN79, gC80, mN80, gC81, mN81, gC82, mN82, gC83, mN83, gC84, mN84, gC85, mN85, gC86, mN86, gC87, mN87, ins_E hN, bdS]
      rw [if_neg (fun y => q ((le0_nI (by omega)).mp y))]
end BETTER
