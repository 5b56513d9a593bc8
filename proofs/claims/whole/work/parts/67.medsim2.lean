section MEDSIM2
variable {C R n z L T M : Nat} {i : fI} {l : fL} {b : Nat → Nat}
def sTm (M p k : Nat) : Prop := ¬ (p = 73 ∧ 3 * M ≤ k ∧ k < 3 * M + 3)
set_option maxHeartbeats 100000 in
theorem med_sim (hM : M < 6) : ∀ (r K p : Nat) (F : Int32 → Int32 → Int32), K < 3 → 3 - K ≤ r → p ≤ T → ∃ (ok : Bool) (pE : Nat) (F2 : Int32 → Int32 → Int32), pE ≤ T ∧ (∀ (i : fI) (l : fL) (e q m : Nat), TC T b i → i (12 + 3 * M) 2 = nI e → e ≤ K → q ≤ K → r < m → CI0 M F i e → ∃ i2, f_X7_readMedals_l9 m 8 (12 + 3 * M) (nI (3 - K)) (nI q) (mkS n z L (u2 i 8 2 (nI p)) l) = some (bI ok, mkS n z L (u2 i2 8 2 (nI pE)) l) ∧ Fr (sTx (12 + 3 * M)) i i2 ∧ (ok = true → ∃ e2, e2 ≤ 3 ∧ i2 (12 + 3 * M) 2 = nI e2 ∧ CI0 M F2 i2 e2)) ∧ (∀ (i : fI) (l : fL) (td : Int32) (m : Nat), TM T b i → RelY i → (∀ k, K ≤ k → k < 3 → i 73 (3 * M + k) = -1) → MI0 M F i K → r < m → ∃ i2 w td2, f_X11_medals_l28 m 57 (nI M) (nI K) 1 (mkS n z L (stM i p false td) l) = some ((), mkS n z L (stM i2 pE w td2) l) ∧ ok = (!w && decide (pE = T)) ∧ Fr (sTm M) i i2 ∧ (ok = true → MI0 M F2 i2 3)) := by
  intro r
  induction r with
  | zero => intro K p F hK hr; omega
  | succ r ih =>
    intro K p F hK hr hp
    obtain ⟨k, hk⟩ : ∃ k, fkR (tpF2 T b p) (3 - K) = k := ⟨_, rfl⟩
    have hk3 : k ≤ 3 := by rw [← hk]; exact fkR_le _ _
    have hkK : K ≤ k := by have := fkR_ge (tpF2 T b p) (3 - K); rw [hk] at this; omega
    -- the reference up to the choice of the name
    have mstart : ∀ (i : fI) (l : fL) (td : Int32) (m : Nat), TM T b i → RelY i → f_X11_medals_l28 (m + 1) 57 (nI M) (nI K) 1 (mkS n z L (stM i p false td) l) = f_X11_medals_b70 (f_X11_medals_l28 m) 57 (nI M) (nI k) (mkS n z L (stM i p false td) l) := by
      intro i l td m hT hY
      have := l39_E (n := n) (z := z) (L := L) (l := l) hT hY (f_X11_medals_l28 m) (nI M) td hp (3 - K) xFu (by omega) (by unfold xFu; omega)
      rw [show 3 - (3 - K) = K by omega, hk] at this
      rw [f_X11_medals_l28_s, if_neg (by decide)]
      simp only [mI, mL, mZ, msI, msL, mN1020, gC1, mR1_0, mR1_1, mR1_2, mR1_3, mR1_4, mR1_5, mR1_6, mR1_7, mR1_8, gC2, mR2_6, mR2_7, gC3, mN3, gC4, mN4, gC5, mR5_0, mR5_1, gC6, mN6, gC7, mR7_0, mR7_1, gC8, mR8_0, gC9, mN9, gC10, mR10_0, gC11, mN11, mR11_0, mR11_1, mR11_2, mR11_3, mR11_4, mR11_5, gC12, mR12_0, mR12_1, gC13, mN13, gC14, mN14, gC15, mR15_0, mR15_1, gC16, mN16, gC17, mN17, gC18, mR18_0, mR18_1, gC19, mN19, gC20, mN20, gC21, mR21_0, mR21_1, gC22, mN22, gC23, mN23, gC24, mR24_0, mR24_1, gC25, mN25, gC26, mN26, gC27, mR27_0, mR27_1, gC28, mN28, gC29, mN29, gC30, mR30_0, gC31, mN31, mR31_0, mR31_1, mR31_2, mR31_3, mR31_4, mR31_5, gC32, mR32_0, mR32_1, gC33, mN33, gC34, mN34, gC35, mR35_0, mR35_1, gC36, mN36, gC37, mN37, gC38, mR38_0, mR38_1, gC39, mN39, gC40, mN40, gC41, mR41_0, mR41_1, gC42, mN42, gC43, mN43, gC44, mR44_0, mR44_1, gC45, mN45, gC46, mN46, gC47, mR47_0, mR47_1, gC48, mN48, gC49, mN49, gC50, mR50_0, mR50_1, mR50_2, mR50_3, gC51, mN51, gC52, mN52, gC53, mN53, gC54, mN54, gC55, gC56, gC57, mR57_2, mR57_3, mR57_6, mR57_7, mR57_8, mR57_9, mR57_10, mR57_11, mR57_12, mR57_13, mR57_14, mR57_15, mR57_16, mR57_18, mR57_19, mR57_20, mR57_21, mR57_22, mR57_23, mR57_25, mR57_26, mR57_27, mR57_28, mR57_37, mR57_40, mR57_41, mR57_43, mR57_44, mR57_48, mR57_49, gC58, mN58, gC59, mN59, gC60, mN60, gC61, mN61, gC62, mN62, gC63, mN63, gC64, mN64, gC65, mN65, gC66, mN66, gC67, mN67, gC68, mN68, gC69, mN69, gC70, mN70, gC71, mN71, gC72, mN72, gC73, mN73, gC74, mN74, gC75, mN75, gC76, mN76, gC77, mN77, gC78, mN78, gC79, mN79, gC80, mN80, gC81, mN81, gC82, mN82, gC83, mN83, gC84, mN84, gC85, mN85, gC86, mN86, gC87, mN87, stM_46]
      rw [if_pos (show bI false = 0 from rfl), this]
    by_cases e3 : k = 3
    · refine ⟨false, p, F, hp, ?_, ?_⟩
      · intro i l e q m hT h2 he hq hm hci
        obtain ⟨m, rfl⟩ : ∃ m', m = m' + 1 := ⟨m - 1, by omega⟩
        refine ⟨i, ?_, Fr_rfl, fun q => absurd q (by decide)⟩
        rw [f_X7_readMedals_l9_s, if_neg (by rw [show (3 : Int32) = nI 3 from rfl]; exact nI_ge (by omega) (by omega))]
        simp only [mI, mL, mZ, msI, msL, mN1020, gC1, mR1_0, mR1_1, mR1_2, mR1_3, mR1_4, mR1_5, mR1_6, mR1_7, mR1_8, gC2, mR2_6, mR2_7, gC3, mN3, gC4, mN4, gC5, mR5_0, mR5_1, gC6, mN6, gC7, mR7_0, mR7_1, gC8, mR8_0, gC9, mN9, gC10, mR10_0, gC11, mN11, mR11_0, mR11_1, mR11_2, mR11_3, mR11_4, mR11_5, gC12, mR12_0, mR12_1, gC13, mN13, gC14, mN14, gC15, mR15_0, mR15_1, gC16, mN16, gC17, mN17, gC18, mR18_0, mR18_1, gC19, mN19, gC20, mN20, gC21, mR21_0, mR21_1, gC22, mN22, gC23, mN23, gC24, mR24_0, mR24_1, gC25, mN25, gC26, mN26, gC27, mR27_0, mR27_1, gC28, mN28, gC29, mN29, gC30, mR30_0, gC31, mN31, mR31_0, mR31_1, mR31_2, mR31_3, mR31_4, mR31_5, gC32, mR32_0, mR32_1, gC33, mN33, gC34, mN34, gC35, mR35_0, mR35_1, gC36, mN36, gC37, mN37, gC38, mR38_0, mR38_1, gC39, mN39, gC40, mN40, gC41, mR41_0, mR41_1, gC42, mN42, gC43, mN43, gC44, mR44_0, mR44_1, gC45, mN45, gC46, mN46, gC47, mR47_0, mR47_1, gC48, mN48, gC49, mN49, gC50, mR50_0, mR50_1, mR50_2, mR50_3, gC51, mN51, gC52, mN52, gC53, mN53, gC54, mN54, gC55, gC56, gC57, mR57_2, mR57_3, mR57_6, mR57_7, mR57_8, mR57_9, mR57_10, mR57_11, mR57_12, mR57_13, mR57_14, mR57_15, mR57_16, mR57_18, mR57_19, mR57_20, mR57_21, mR57_22, mR57_23, mR57_25, mR57_26, mR57_27, mR57_28, mR57_37, mR57_40, mR57_41, mR57_43, mR57_44, mR57_48, mR57_49, gC58, mN58, gC59, mN59, gC60, mN60, gC61, mN61, gC62, mN62, gC63, mN63, gC64, mN64, gC65, mN65, gC66, mN66, gC67, mN67, gC68, mN68, gC69, mN69, gC70, mN70, gC71, mN71, gC72, mN72, gC73, mN73, gC74, mN74, gC75, mN75, gC76, mN76, gC77, mN77, gC78, mN78, gC79, mN79, gC80, mN80, gC81, mN81, gC82, mN82, gC83, mN83, gC84, mN84, gC85, mN85, gC86, mN86, gC87, mN87, begun0_E hT hp, bdS, hk, e3]
        rw [if_pos (show nI (3 - 3) = 0 from rfl)]
        rfl
      · intro i l td m hT hY h73 hmi hm
        obtain ⟨m, rfl⟩ : ∃ m', m = m' + 1 + 1 := ⟨m - 2, by omega⟩
        refine ⟨i, true, 0, ?_, rfl, Fr_rfl, fun q => absurd q (by decide)⟩
        rw [mstart i l td (m + 1) hT hY, e3]
        unfold f_X11_medals_b70
        rw [if_pos (show nI 3 = 3 from rfl)]
        simp only [mI, mL, mZ, msI, msL, mN1020, gC1, mR1_0, mR1_1, mR1_2, mR1_3, mR1_4, mR1_5, mR1_6, mR1_7, mR1_8, gC2, mR2_6, mR2_7, gC3, mN3, gC4, mN4, gC5, mR5_0, mR5_1, gC6, mN6, gC7, mR7_0, mR7_1, gC8, mR8_0, gC9, mN9, gC10, mR10_0, gC11, mN11, mR11_0, mR11_1, mR11_2, mR11_3, mR11_4, mR11_5, gC12, mR12_0, mR12_1, gC13, mN13, gC14, mN14, gC15, mR15_0, mR15_1, gC16, mN16, gC17, mN17, gC18, mR18_0, mR18_1, gC19, mN19, gC20, mN20, gC21, mR21_0, mR21_1, gC22, mN22, gC23, mN23, gC24, mR24_0, mR24_1, gC25, mN25, gC26, mN26, gC27, mR27_0, mR27_1, gC28, mN28, gC29, mN29, gC30, mR30_0, gC31, mN31, mR31_0, mR31_1, mR31_2, mR31_3, mR31_4, mR31_5, gC32, mR32_0, mR32_1, gC33, mN33, gC34, mN34, gC35, mR35_0, mR35_1, gC36, mN36, gC37, mN37, gC38, mR38_0, mR38_1, gC39, mN39, gC40, mN40, gC41, mR41_0, mR41_1, gC42, mN42, gC43, mN43, gC44, mR44_0, mR44_1, gC45, mN45, gC46, mN46, gC47, mR47_0, mR47_1, gC48, mN48, gC49, mN49, gC50, mR50_0, mR50_1, mR50_2, mR50_3, gC51, mN51, gC52, mN52, gC53, mN53, gC54, mN54, gC55, gC56, gC57, mR57_2, mR57_3, mR57_6, mR57_7, mR57_8, mR57_9, mR57_10, mR57_11, mR57_12, mR57_13, mR57_14, mR57_15, mR57_16, mR57_18, mR57_19, mR57_20, mR57_21, mR57_22, mR57_23, mR57_25, mR57_26, mR57_27, mR57_28, mR57_37, mR57_40, mR57_41, mR57_43, mR57_44, mR57_48, mR57_49, gC58, mN58, gC59, mN59, gC60, mN60, gC61, mN61, gC62, mN62, gC63, mN63, gC64, mN64, gC65, mN65, gC66, mN66, gC67, mN67, gC68, mN68, gC69, mN69, gC70, mN70, gC71, mN71, gC72, mN72, gC73, mN73, gC74, mN74, gC75, mN75, gC76, mN76, gC77, mN77, gC78, mN78, gC79, mN79, gC80, mN80, gC81, mN81, gC82, mN82, gC83, mN83, gC84, mN84, gC85, mN85, gC86, mN86, gC87, mN87, lt1E]
        rw [show (1 : Int32) = bI true from rfl, stM_w, show xFu = 999 + 1 from rfl, f_X11_medals_l87_s, if_neg (by decide)]
        simp only [mI, mL, mZ, msI, msL, mN1020, gC1, mR1_0, mR1_1, mR1_2, mR1_3, mR1_4, mR1_5, mR1_6, mR1_7, mR1_8, gC2, mR2_6, mR2_7, gC3, mN3, gC4, mN4, gC5, mR5_0, mR5_1, gC6, mN6, gC7, mR7_0, mR7_1, gC8, mR8_0, gC9, mN9, gC10, mR10_0, gC11, mN11, mR11_0, mR11_1, mR11_2, mR11_3, mR11_4, mR11_5, gC12, mR12_0, mR12_1, gC13, mN13, gC14, mN14, gC15, mR15_0, mR15_1, gC16, mN16, gC17, mN17, gC18, mR18_0, mR18_1, gC19, mN19, gC20, mN20, gC21, mR21_0, mR21_1, gC22, mN22, gC23, mN23, gC24, mR24_0, mR24_1, gC25, mN25, gC26, mN26, gC27, mR27_0, mR27_1, gC28, mN28, gC29, mN29, gC30, mR30_0, gC31, mN31, mR31_0, mR31_1, mR31_2, mR31_3, mR31_4, mR31_5, gC32, mR32_0, mR32_1, gC33, mN33, gC34, mN34, gC35, mR35_0, mR35_1, gC36, mN36, gC37, mN37, gC38, mR38_0, mR38_1, gC39, mN39, gC40, mN40, gC41, mR41_0, mR41_1, gC42, mN42, gC43, mN43, gC44, mR44_0, mR44_1, gC45, mN45, gC46, mN46, gC47, mR47_0, mR47_1, gC48, mN48, gC49, mN49, gC50, mR50_0, mR50_1, mR50_2, mR50_3, gC51, mN51, gC52, mN52, gC53, mN53, gC54, mN54, gC55, gC56, gC57, mR57_2, mR57_3, mR57_6, mR57_7, mR57_8, mR57_9, mR57_10, mR57_11, mR57_12, mR57_13, mR57_14, mR57_15, mR57_16, mR57_18, mR57_19, mR57_20, mR57_21, mR57_22, mR57_23, mR57_25, mR57_26, mR57_27, mR57_28, mR57_37, mR57_40, mR57_41, mR57_43, mR57_44, mR57_48, mR57_49, gC58, mN58, gC59, mN59, gC60, mN60, gC61, mN61, gC62, mN62, gC63, mN63, gC64, mN64, gC65, mN65, gC66, mN66, gC67, mN67, gC68, mN68, gC69, mN69, gC70, mN70, gC71, mN71, gC72, mN72, gC73, mN73, gC74, mN74, gC75, mN75, gC76, mN76, gC77, mN77, gC78, mN78, gC79, mN79, gC80, mN80, gC81, mN81, gC82, mN82, gC83, mN83, gC84, mN84, gC85, mN85, gC86, mN86, gC87, mN87, stM_46]
        rw [if_neg (by decide)]
        exact b138_w (nI M) td (k := 3) (by omega)
    · have hk2 : k < 3 := by omega
      obtain ⟨w0, w7⟩ := wln_pos hk2
      obtain ⟨W, hW⟩ : ∃ W, wrd (tpF2 T b) k (wln k) 0 p = W := ⟨_, rfl⟩
      have hWl : W.2 ≤ T := by rw [← hW]; exact wrd_le w7 (wln k) 0 p (by omega) hp
      -- the reference up to the end of the name
      have mname : ∀ (i : fI) (l : fL) (td : Int32) (m : Nat), TM T b i → RelY i → f_X11_medals_l28 (m + 1) 57 (nI M) (nI K) 1 (mkS n z L (stM i p false td) l) = f_X11_medals_b138 (f_X11_medals_l28 m) 57 (nI M) (nI k) (mkS n z L (stM i W.2 (!W.1) td) l) := by
        intro i l td m hT hY
        have := l87m_E (n := n) (z := z) (L := L) (l := l) hT hY (f_X11_medals_l28 m) (nI M) td hk2 6 0 p xFu (by omega) (by unfold xFu; omega) hp
        rw [Nat.sub_zero, hW] at this
        rw [mstart i l td m hT hY]
        unfold f_X11_medals_b70
        rw [if_neg (by rw [show (3 : Int32) = nI 3 from rfl, nI_eq (by omega) (by omega)]; exact e3)]
        simp only [mI, mL, mZ, msI, msL, mN1020, gC1, mR1_0, mR1_1, mR1_2, mR1_3, mR1_4, mR1_5, mR1_6, mR1_7, mR1_8, gC2, mR2_6, mR2_7, gC3, mN3, gC4, mN4, gC5, mR5_0, mR5_1, gC6, mN6, gC7, mR7_0, mR7_1, gC8, mR8_0, gC9, mN9, gC10, mR10_0, gC11, mN11, mR11_0, mR11_1, mR11_2, mR11_3, mR11_4, mR11_5, gC12, mR12_0, mR12_1, gC13, mN13, gC14, mN14, gC15, mR15_0, mR15_1, gC16, mN16, gC17, mN17, gC18, mR18_0, mR18_1, gC19, mN19, gC20, mN20, gC21, mR21_0, mR21_1, gC22, mN22, gC23, mN23, gC24, mR24_0, mR24_1, gC25, mN25, gC26, mN26, gC27, mR27_0, mR27_1, gC28, mN28, gC29, mN29, gC30, mR30_0, gC31, mN31, mR31_0, mR31_1, mR31_2, mR31_3, mR31_4, mR31_5, gC32, mR32_0, mR32_1, gC33, mN33, gC34, mN34, gC35, mR35_0, mR35_1, gC36, mN36, gC37, mN37, gC38, mR38_0, mR38_1, gC39, mN39, gC40, mN40, gC41, mR41_0, mR41_1, gC42, mN42, gC43, mN43, gC44, mR44_0, mR44_1, gC45, mN45, gC46, mN46, gC47, mR47_0, mR47_1, gC48, mN48, gC49, mN49, gC50, mR50_0, mR50_1, mR50_2, mR50_3, gC51, mN51, gC52, mN52, gC53, mN53, gC54, mN54, gC55, gC56, gC57, mR57_2, mR57_3, mR57_6, mR57_7, mR57_8, mR57_9, mR57_10, mR57_11, mR57_12, mR57_13, mR57_14, mR57_15, mR57_16, mR57_18, mR57_19, mR57_20, mR57_21, mR57_22, mR57_23, mR57_25, mR57_26, mR57_27, mR57_28, mR57_37, mR57_40, mR57_41, mR57_43, mR57_44, mR57_48, mR57_49, gC58, mN58, gC59, mN59, gC60, mN60, gC61, mN61, gC62, mN62, gC63, mN63, gC64, mN64, gC65, mN65, gC66, mN66, gC67, mN67, gC68, mN68, gC69, mN69, gC70, mN70, gC71, mN71, gC72, mN72, gC73, mN73, gC74, mN74, gC75, mN75, gC76, mN76, gC77, mN77, gC78, mN78, gC79, mN79, gC80, mN80, gC81, mN81, gC82, mN82, gC83, mN83, gC84, mN84, gC85, mN85, gC86, mN86, gC87, mN87, lt1E]
        rw [show u2 (stM i p false td) 57 46 0 = stM i p false td from stM_w i p false false td]
        exact this
      -- the class up to the end of the name
      have cname : ∀ (i : fI) (l : fL) (q m : Nat), TC T b i → q ≤ K → f_X7_readMedals_l9 (m + 1) 8 (12 + 3 * M) (nI (3 - K)) (nI q) (mkS n z L (u2 i 8 2 (nI p)) l) = if W.1 = true then (bd (f_X7_reads 8 3 (mkS n z L (u2 i 8 2 (nI W.2)) l)) fun v18 w19 => if v18 = 0 then some ((0 : Int32), w19) else gd (isC w19 8 7) <| bd (f_X7_readNumber 8 w19) fun v23 w24 => if v23 = (-1 : Int32) then some ((0 : Int32), w24) else gd (isC w24 (12 + 3 * M) 8) <| bd (f_X8_add (12 + 3 * M) (nI (3 - k)) v23 w24) fun _ w28 => gd (isC w28 8 7) <| bd (f_X7_isAtEnd 8 w28) fun v31 w32 => if v31 = 0 then if (nI (3 - k) - (1 : Int32)) = 0 then some ((0 : Int32), w32) else gd (isC w32 8 7) <| bd (f_X7_reads 8 4 w32) fun v37 w38 => if v37 = 0 then some ((0 : Int32), w38) else f_X7_readMedals_l9 m 8 (12 + 3 * M) (nI (3 - k) - (1 : Int32)) (nI (q + 1)) w38 else some ((1 : Int32), w32)) else some (0, mkS n z L (u2 i 8 2 (nI W.2)) l) := by
        intro i l q m hT hq
        rw [f_X7_readMedals_l9_s, if_neg (by rw [show (3 : Int32) = nI 3 from rfl]; exact nI_ge (by omega) (by omega))]
        simp only [mI, mL, mZ, msI, msL, mN1020, gC1, mR1_0, mR1_1, mR1_2, mR1_3, mR1_4, mR1_5, mR1_6, mR1_7, mR1_8, gC2, mR2_6, mR2_7, gC3, mN3, gC4, mN4, gC5, mR5_0, mR5_1, gC6, mN6, gC7, mR7_0, mR7_1, gC8, mR8_0, gC9, mN9, gC10, mR10_0, gC11, mN11, mR11_0, mR11_1, mR11_2, mR11_3, mR11_4, mR11_5, gC12, mR12_0, mR12_1, gC13, mN13, gC14, mN14, gC15, mR15_0, mR15_1, gC16, mN16, gC17, mN17, gC18, mR18_0, mR18_1, gC19, mN19, gC20, mN20, gC21, mR21_0, mR21_1, gC22, mN22, gC23, mN23, gC24, mR24_0, mR24_1, gC25, mN25, gC26, mN26, gC27, mR27_0, mR27_1, gC28, mN28, gC29, mN29, gC30, mR30_0, gC31, mN31, mR31_0, mR31_1, mR31_2, mR31_3, mR31_4, mR31_5, gC32, mR32_0, mR32_1, gC33, mN33, gC34, mN34, gC35, mR35_0, mR35_1, gC36, mN36, gC37, mN37, gC38, mR38_0, mR38_1, gC39, mN39, gC40, mN40, gC41, mR41_0, mR41_1, gC42, mN42, gC43, mN43, gC44, mR44_0, mR44_1, gC45, mN45, gC46, mN46, gC47, mR47_0, mR47_1, gC48, mN48, gC49, mN49, gC50, mR50_0, mR50_1, mR50_2, mR50_3, gC51, mN51, gC52, mN52, gC53, mN53, gC54, mN54, gC55, gC56, gC57, mR57_2, mR57_3, mR57_6, mR57_7, mR57_8, mR57_9, mR57_10, mR57_11, mR57_12, mR57_13, mR57_14, mR57_15, mR57_16, mR57_18, mR57_19, mR57_20, mR57_21, mR57_22, mR57_23, mR57_25, mR57_26, mR57_27, mR57_28, mR57_37, mR57_40, mR57_41, mR57_43, mR57_44, mR57_48, mR57_49, gC58, mN58, gC59, mN59, gC60, mN60, gC61, mN61, gC62, mN62, gC63, mN63, gC64, mN64, gC65, mN65, gC66, mN66, gC67, mN67, gC68, mN68, gC69, mN69, gC70, mN70, gC71, mN71, gC72, mN72, gC73, mN73, gC74, mN74, gC75, mN75, gC76, mN76, gC77, mN77, gC78, mN78, gC79, mN79, gC80, mN80, gC81, mN81, gC82, mN82, gC83, mN83, gC84, mN84, gC85, mN85, gC86, mN86, gC87, mN87, begun0_E hT hp, bdS, hk, nameOf_E hk2, reads0_E hT w7 hp, hW, bI_if, nI_1]
        rw [if_neg (nI_ne0 (by omega) (by omega))]
      by_cases o1 : W.1 = true
      · obtain ⟨A, hA⟩ : ∃ A, atNm (tpF2 T b) W.2 = A := ⟨_, rfl⟩
        have hAl := atNm_le (T := T) (b := b) hWl
        rw [hA] at hAl
        by_cases o2 : A.1 = true
        · -- the number was read
          have hcA : (wrd (tpF2 T b) 3 4 0 W.2).1 = true ∧ dgB (tpF2 T b (wrd (tpF2 T b) 3 4 0 W.2).2) 57 = true ∧ A = (true, (nmR (tpF2 T b) 3 (wrd (tpF2 T b) 3 4 0 W.2).2 0).1, (nmR (tpF2 T b) 3 (wrd (tpF2 T b) 3 4 0 W.2).2 0).2) := by
            unfold atNm at hA
            by_cases c : ((wrd (tpF2 T b) 3 4 0 W.2).1 && dgB (tpF2 T b (wrd (tpF2 T b) 3 4 0 W.2).2) 57) = true
            · rw [if_pos c] at hA
              rw [Bool.and_eq_true] at c
              exact ⟨c.1, c.2, hA.symm⟩
            · rw [if_neg c] at hA
              rw [← hA] at o2
              exact absurd (show false = true from o2) (by decide)
          have cnum : ∀ (i : fI) (l : fL) (e q m : Nat), TC T b i → i (12 + 3 * M) 2 = nI e → e ≤ K → q ≤ K → f_X7_readMedals_l9 (m + 1) 8 (12 + 3 * M) (nI (3 - K)) (nI q) (mkS n z L (u2 i 8 2 (nI p)) l) = if T ≤ A.2.1 then some (1, mkS n z L (u2 (adF i (12 + 3 * M) e (nI (3 - k)) (nI A.2.2)) 8 2 (nI A.2.1)) l) else if k = 2 then some (0, mkS n z L (u2 (adF i (12 + 3 * M) e (nI (3 - k)) (nI A.2.2)) 8 2 (nI A.2.1)) l) else if tpF2 T b A.2.1 = 44 then f_X7_readMedals_l9 m 8 (12 + 3 * M) (nI (3 - (k + 1))) (nI (q + 1)) (mkS n z L (u2 (adF i (12 + 3 * M) e (nI (3 - k)) (nI A.2.2)) 8 2 (nI (A.2.1 + 1))) l) else some (0, mkS n z L (u2 (adF i (12 + 3 * M) e (nI (3 - k)) (nI A.2.2)) 8 2 (nI A.2.1)) l) := by
            intro i l e q m hT h2 he hq
            have hT2 : TC T b (adF i (12 + 3 * M) e (nI (3 - k)) (nI A.2.2)) := TC_fr hT (fun p k hp => adF_fr i _ e _ _ p k (by unfold sTx; omega))
            have rn := numC_E (n := n) (z := z) (L := L) (l := l) hT (wrd_le (T := T) (b := b) (s := 3) (by decide) 4 0 W.2 (by decide) hWl)
            rw [if_pos hcA.2.1] at rn
            have rd := reads0_E (n := n) (z := z) (L := L) (l := l) hT (s := 3) (by decide) hWl
            rw [show wln 3 = 4 from rfl, hcA.1] at rd
            have a21 : (nmR (tpF2 T b) 3 (wrd (tpF2 T b) 3 4 0 W.2).2 0).1 = A.2.1 := by rw [hcA.2.2]
            have a22 : (nmR (tpF2 T b) 3 (wrd (tpF2 T b) 3 4 0 W.2).2 0).2 = A.2.2 := by rw [hcA.2.2]
            rw [a21, a22] at rn
            have h120 := hT.1
            have ra := atEnd_E (n := n) (z := z) (L := L) (l := l) (TC_p hT2 (nI A.2.1)) (show A.2.1 ≤ 120 by omega) (u2_s _ _ _ _)
            have rc := reads0_E (n := n) (z := z) (L := L) (l := l) hT2 (s := 4) (by decide) hAl.1
            have ew : wrd (tpF2 T b) 4 (wln 4) 0 A.2.1 = if tpF2 T b A.2.1 = 44 then (true, A.2.1 + 1) else (false, A.2.1) := rfl
            rw [ew] at rc
            rw [cname i l q m hT hq, if_pos o1, rd, bdS, if_neg (show ¬ bI true = 0 by decide)]
            simp only [mI, mL, mZ, msI, msL, mN1020, gC1, mR1_0, mR1_1, mR1_2, mR1_3, mR1_4, mR1_5, mR1_6, mR1_7, mR1_8, gC2, mR2_6, mR2_7, gC3, mN3, gC4, mN4, gC5, mR5_0, mR5_1, gC6, mN6, gC7, mR7_0, mR7_1, gC8, mR8_0, gC9, mN9, gC10, mR10_0, gC11, mN11, mR11_0, mR11_1, mR11_2, mR11_3, mR11_4, mR11_5, gC12, mR12_0, mR12_1, gC13, mN13, gC14, mN14, gC15, mR15_0, mR15_1, gC16, mN16, gC17, mN17, gC18, mR18_0, mR18_1, gC19, mN19, gC20, mN20, gC21, mR21_0, mR21_1, gC22, mN22, gC23, mN23, gC24, mR24_0, mR24_1, gC25, mN25, gC26, mN26, gC27, mR27_0, mR27_1, gC28, mN28, gC29, mN29, gC30, mR30_0, gC31, mN31, mR31_0, mR31_1, mR31_2, mR31_3, mR31_4, mR31_5, gC32, mR32_0, mR32_1, gC33, mN33, gC34, mN34, gC35, mR35_0, mR35_1, gC36, mN36, gC37, mN37, gC38, mR38_0, mR38_1, gC39, mN39, gC40, mN40, gC41, mR41_0, mR41_1, gC42, mN42, gC43, mN43, gC44, mR44_0, mR44_1, gC45, mN45, gC46, mN46, gC47, mR47_0, mR47_1, gC48, mN48, gC49, mN49, gC50, mR50_0, mR50_1, mR50_2, mR50_3, gC51, mN51, gC52, mN52, gC53, mN53, gC54, mN54, gC55, gC56, gC57, mR57_2, mR57_3, mR57_6, mR57_7, mR57_8, mR57_9, mR57_10, mR57_11, mR57_12, mR57_13, mR57_14, mR57_15, mR57_16, mR57_18, mR57_19, mR57_20, mR57_21, mR57_22, mR57_23, mR57_25, mR57_26, mR57_27, mR57_28, mR57_37, mR57_40, mR57_41, mR57_43, mR57_44, mR57_48, mR57_49, gC58, mN58, gC59, mN59, gC60, mN60, gC61, mN61, gC62, mN62, gC63, mN63, gC64, mN64, gC65, mN65, gC66, mN66, gC67, mN67, gC68, mN68, gC69, mN69, gC70, mN70, gC71, mN71, gC72, mN72, gC73, mN73, gC74, mN74, gC75, mN75, gC76, mN76, gC77, mN77, gC78, mN78, gC79, mN79, gC80, mN80, gC81, mN81, gC82, mN82, gC83, mN83, gC84, mN84, gC85, mN85, gC86, mN86, gC87, mN87, rn, bdS]
            rw [if_neg (nI_m1 (by omega)), tx0_c hM, add0_P hM (by omega) h2, bdS]
            simp only [mI, mL, mZ, msI, msL, mN1020, gC1, mR1_0, mR1_1, mR1_2, mR1_3, mR1_4, mR1_5, mR1_6, mR1_7, mR1_8, gC2, mR2_6, mR2_7, gC3, mN3, gC4, mN4, gC5, mR5_0, mR5_1, gC6, mN6, gC7, mR7_0, mR7_1, gC8, mR8_0, gC9, mN9, gC10, mR10_0, gC11, mN11, mR11_0, mR11_1, mR11_2, mR11_3, mR11_4, mR11_5, gC12, mR12_0, mR12_1, gC13, mN13, gC14, mN14, gC15, mR15_0, mR15_1, gC16, mN16, gC17, mN17, gC18, mR18_0, mR18_1, gC19, mN19, gC20, mN20, gC21, mR21_0, mR21_1, gC22, mN22, gC23, mN23, gC24, mR24_0, mR24_1, gC25, mN25, gC26, mN26, gC27, mR27_0, mR27_1, gC28, mN28, gC29, mN29, gC30, mR30_0, gC31, mN31, mR31_0, mR31_1, mR31_2, mR31_3, mR31_4, mR31_5, gC32, mR32_0, mR32_1, gC33, mN33, gC34, mN34, gC35, mR35_0, mR35_1, gC36, mN36, gC37, mN37, gC38, mR38_0, mR38_1, gC39, mN39, gC40, mN40, gC41, mR41_0, mR41_1, gC42, mN42, gC43, mN43, gC44, mR44_0, mR44_1, gC45, mN45, gC46, mN46, gC47, mR47_0, mR47_1, gC48, mN48, gC49, mN49, gC50, mR50_0, mR50_1, mR50_2, mR50_3, gC51, mN51, gC52, mN52, gC53, mN53, gC54, mN54, gC55, gC56, gC57, mR57_2, mR57_3, mR57_6, mR57_7, mR57_8, mR57_9, mR57_10, mR57_11, mR57_12, mR57_13, mR57_14, mR57_15, mR57_16, mR57_18, mR57_19, mR57_20, mR57_21, mR57_22, mR57_23, mR57_25, mR57_26, mR57_27, mR57_28, mR57_37, mR57_40, mR57_41, mR57_43, mR57_44, mR57_48, mR57_49, gC58, mN58, gC59, mN59, gC60, mN60, gC61, mN61, gC62, mN62, gC63, mN63, gC64, mN64, gC65, mN65, gC66, mN66, gC67, mN67, gC68, mN68, gC69, mN69, gC70, mN70, gC71, mN71, gC72, mN72, gC73, mN73, gC74, mN74, gC75, mN75, gC76, mN76, gC77, mN77, gC78, mN78, gC79, mN79, gC80, mN80, gC81, mN81, gC82, mN82, gC83, mN83, gC84, mN84, gC85, mN85, gC86, mN86, gC87, mN87, ra, bdS, bI_e0, rc]
            by_cases g1 : T ≤ A.2.1
            · rw [decide_eq_true g1, if_neg (by decide), if_pos g1]
            · rw [decide_eq_false g1, if_pos rfl, if_neg g1, nI_s1 (show 0 < 3 - k by omega)]
              by_cases g2 : k = 2
              · rw [if_pos g2, if_pos (by rw [g2]; rfl)]
              · rw [if_neg g2, if_neg (nI_ne0 (by omega) (by omega))]
                by_cases g3 : tpF2 T b A.2.1 = 44
                · rw [if_pos g3, if_pos g3, if_neg (show ¬ true = false by decide), show 3 - k - 1 = 3 - (k + 1) by omega]
                · rw [if_neg g3, if_neg g3, if_pos rfl]
          have mnum : ∀ (i : fI) (l : fL) (td : Int32) (m : Nat), TM T b i → RelY i → f_X11_medals_l28 (m + 1) 57 (nI M) (nI K) 1 (mkS n z L (stM i p false td) l) = f_X11_medals_b187 (f_X11_medals_l28 m) 57 (nI M) (nI k) (mkS n z L (stM (u2 i 73 (3 * M + k) (nI A.2.2)) A.2.1 false (nI A.2.2)) l) := by
            intro i l td m hT hY
            rw [mname i l td m hT hY, o1, show (!true) = false from rfl, b138_E hT hWl hM hk2 td, hA, if_pos o2]
          have TM2 : ∀ i, TM T b i → TM T b (u2 i 73 (3 * M + k) (nI A.2.2)) := fun i h => TM_fr h (fun p k2 hp => by rw [u2_p _ _ (by omega)])
          by_cases g1 : T ≤ A.2.1
          · refine ⟨true, A.2.1, nF F k A.2.2, hAl.1, ?_, ?_⟩
            · intro i l e q m hT h2 he hq hm hci
              obtain ⟨m, rfl⟩ : ∃ m', m = m' + 1 := ⟨m - 1, by omega⟩
              refine ⟨adF i (12 + 3 * M) e (nI (3 - k)) (nI A.2.2), ?_, adF_fr i _ e _ _, fun _ => ⟨e + 1, by omega, u2_s _ _ _ _, ?_⟩⟩
              · rw [cnum i l e q m hT h2 he hq, if_pos g1]; rfl
              · have := CI0_add (k := k) (v := A.2.2) hci
                unfold adF
                rw [show 12 + 3 * M + 1 = 13 + 3 * M by omega, show 12 + 3 * M + 2 = 14 + 3 * M by omega]
                exact this
            · intro i l td m hT hY h73 hmi hm
              obtain ⟨m, rfl⟩ : ∃ m', m = m' + 1 + 1 := ⟨m - 2, by omega⟩
              refine ⟨u2 i 73 (3 * M + k) (nI A.2.2), false, nI A.2.2, ?_, ?_, Fr_u2 Fr_rfl (by unfold sTm; omega), fun _ => ?_⟩
              · rw [mnum i l td (m + 1) hT hY, b187_e (TM2 i hT) _ _ hAl.1 (by omega) (Or.inr (Or.inr (by
                  unfold tpF2
                  rw [if_neg (by omega)]
                  decide)))]
              · rw [decide_eq_true (show A.2.1 = T by omega)]; rfl
              · have q := MI0_add (k := k) (v := A.2.2) hkK (by omega) (fun j h1 h2 => h73 j h1 (by omega)) hmi
                intro a d
                rw [← q a d, ← fsel_drop (K := k + 1) d (2 - k) (fun j h1 h2 => by
                  rw [u2_k _ _ (by omega), h73 j (by omega) (by omega)]
                  rfl), show k + 1 + (2 - k) = 3 by omega]
          · by_cases g2 : k < 2 ∧ tpF2 T b A.2.1 = 44
            · have hA1 := lt_tp (by decide) g2.2
              obtain ⟨ok, pE, F2, x1, x2, x3⟩ := ih (k + 1) (A.2.1 + 1) (nF F k A.2.2) (by omega) (by omega) (by omega)
              refine ⟨ok, pE, F2, x1, ?_, ?_⟩
              · intro i l e q m hT h2 he hq hm hci
                obtain ⟨m, rfl⟩ : ∃ m', m = m' + 1 := ⟨m - 1, by omega⟩
                have hci2 : CI0 M (nF F k A.2.2) (adF i (12 + 3 * M) e (nI (3 - k)) (nI A.2.2)) (e + 1) := by
                  have := CI0_add (k := k) (v := A.2.2) hci
                  unfold adF
                  rw [show 12 + 3 * M + 1 = 13 + 3 * M by omega, show 12 + 3 * M + 2 = 14 + 3 * M by omega]
                  exact this
                obtain ⟨i2, y1, y2, y3⟩ := x2 (adF i (12 + 3 * M) e (nI (3 - k)) (nI A.2.2)) l (e + 1) (q + 1) m (TC_fr hT (fun p k hp => adF_fr i _ e _ _ p k (by unfold sTx; omega))) (u2_s _ _ _ _) (by omega) (by omega) (by omega) hci2
                refine ⟨i2, ?_, Fr_trans (adF_fr i _ e _ _) y2, y3⟩
                rw [cnum i l e q m hT h2 he hq, if_neg g1, if_neg (by omega), if_pos g2.2, y1]
              · intro i l td m hT hY h73 hmi hm
                obtain ⟨m, rfl⟩ : ∃ m', m = m' + 1 := ⟨m - 1, by omega⟩
                obtain ⟨i2, w, td2, y1, y2, y3, y4⟩ := x3 (u2 i 73 (3 * M + k) (nI A.2.2)) l (nI A.2.2) m (TM2 i hT) (hY.fr (Fr_u2 Fr_rfl (by unfold sY; omega))) (fun j h1 h2 => by rw [u2_k _ _ (by omega)]; exact h73 j (by omega) h2) (MI0_add hkK (by omega) (fun j h1 h2 => h73 j h1 (by omega)) hmi) (by omega)
                refine ⟨i2, w, td2, ?_, y2, Fr_trans (Fr_u2 Fr_rfl (by unfold sTm; omega)) y3, y4⟩
                rw [mnum i l td m hT hY, b187_n (TM2 i hT) _ _ _ hAl.1 g2.1 g2.2, y1]
            · refine ⟨false, A.2.1, F, hAl.1, ?_, ?_⟩
              · intro i l e q m hT h2 he hq hm hci
                obtain ⟨m, rfl⟩ : ∃ m', m = m' + 1 := ⟨m - 1, by omega⟩
                refine ⟨adF i (12 + 3 * M) e (nI (3 - k)) (nI A.2.2), ?_, adF_fr i _ e _ _, fun q => absurd q (by decide)⟩
                rw [cnum i l e q m hT h2 he hq, if_neg g1]
                by_cases g3 : k = 2
                · rw [if_pos g3]; rfl
                · rw [if_neg g3, if_neg (fun r => g2 ⟨by omega, r⟩)]; rfl
              · intro i l td m hT hY h73 hmi hm
                obtain ⟨m, rfl⟩ : ∃ m', m = m' + 1 + 1 := ⟨m - 2, by omega⟩
                refine ⟨u2 i 73 (3 * M + k) (nI A.2.2), false, nI A.2.2, ?_, ?_, Fr_u2 Fr_rfl (by unfold sTm; omega), fun q => absurd q (by decide)⟩
                · rw [mnum i l td (m + 1) hT hY, b187_e (TM2 i hT) _ _ hAl.1 (by omega) (by
                    by_cases g3 : k < 2
                    · exact Or.inr (Or.inr (fun r => g2 ⟨g3, r⟩))
                    · exact Or.inl (by omega))]
                · rw [decide_eq_false (show ¬ A.2.1 = T by omega)]; rfl
        · -- no ' at ' or no number
          refine ⟨false, A.2.1, F, hAl.1, ?_, ?_⟩
          · intro i l e q m hT h2 he hq hm hci
            obtain ⟨m, rfl⟩ : ∃ m', m = m' + 1 := ⟨m - 1, by omega⟩
            refine ⟨i, ?_, Fr_rfl, fun q => absurd q (by decide)⟩
            have rd := reads0_E (n := n) (z := z) (L := L) (l := l) hT (s := 3) (by decide) hWl
            rw [show wln 3 = 4 from rfl] at rd
            have rn := numC_E (n := n) (z := z) (L := L) (l := l) hT (wrd_le (T := T) (b := b) (s := 3) (by decide) 4 0 W.2 (by decide) hWl)
            have hc : ¬ ((wrd (tpF2 T b) 3 4 0 W.2).1 && dgB (tpF2 T b (wrd (tpF2 T b) 3 4 0 W.2).2) 57) = true := fun c => by
              unfold atNm at hA
              rw [if_pos c] at hA
              rw [← hA] at o2
              exact o2 rfl
            have a21 : A.2.1 = (wrd (tpF2 T b) 3 4 0 W.2).2 := by
              unfold atNm at hA
              rw [if_neg hc] at hA
              rw [← hA]
            rw [cname i l q m hT hq, if_pos o1, rd, bdS, a21]
            cases c1 : (wrd (tpF2 T b) 3 4 0 W.2).1 with
            | false => rw [if_pos (show bI false = 0 from rfl)]; rfl
            | true =>
              rw [c1, Bool.true_and] at hc
              rw [if_neg hc] at rn
              rw [if_neg (show ¬ bI true = 0 by decide)]
              simp only [mI, mL, mZ, msI, msL, mN1020, gC1, mR1_0, mR1_1, mR1_2, mR1_3, mR1_4, mR1_5, mR1_6, mR1_7, mR1_8, gC2, mR2_6, mR2_7, gC3, mN3, gC4, mN4, gC5, mR5_0, mR5_1, gC6, mN6, gC7, mR7_0, mR7_1, gC8, mR8_0, gC9, mN9, gC10, mR10_0, gC11, mN11, mR11_0, mR11_1, mR11_2, mR11_3, mR11_4, mR11_5, gC12, mR12_0, mR12_1, gC13, mN13, gC14, mN14, gC15, mR15_0, mR15_1, gC16, mN16, gC17, mN17, gC18, mR18_0, mR18_1, gC19, mN19, gC20, mN20, gC21, mR21_0, mR21_1, gC22, mN22, gC23, mN23, gC24, mR24_0, mR24_1, gC25, mN25, gC26, mN26, gC27, mR27_0, mR27_1, gC28, mN28, gC29, mN29, gC30, mR30_0, gC31, mN31, mR31_0, mR31_1, mR31_2, mR31_3, mR31_4, mR31_5, gC32, mR32_0, mR32_1, gC33, mN33, gC34, mN34, gC35, mR35_0, mR35_1, gC36, mN36, gC37, mN37, gC38, mR38_0, mR38_1, gC39, mN39, gC40, mN40, gC41, mR41_0, mR41_1, gC42, mN42, gC43, mN43, gC44, mR44_0, mR44_1, gC45, mN45, gC46, mN46, gC47, mR47_0, mR47_1, gC48, mN48, gC49, mN49, gC50, mR50_0, mR50_1, mR50_2, mR50_3, gC51, mN51, gC52, mN52, gC53, mN53, gC54, mN54, gC55, gC56, gC57, mR57_2, mR57_3, mR57_6, mR57_7, mR57_8, mR57_9, mR57_10, mR57_11, mR57_12, mR57_13, mR57_14, mR57_15, mR57_16, mR57_18, mR57_19, mR57_20, mR57_21, mR57_22, mR57_23, mR57_25, mR57_26, mR57_27, mR57_28, mR57_37, mR57_40, mR57_41, mR57_43, mR57_44, mR57_48, mR57_49, gC58, mN58, gC59, mN59, gC60, mN60, gC61, mN61, gC62, mN62, gC63, mN63, gC64, mN64, gC65, mN65, gC66, mN66, gC67, mN67, gC68, mN68, gC69, mN69, gC70, mN70, gC71, mN71, gC72, mN72, gC73, mN73, gC74, mN74, gC75, mN75, gC76, mN76, gC77, mN77, gC78, mN78, gC79, mN79, gC80, mN80, gC81, mN81, gC82, mN82, gC83, mN83, gC84, mN84, gC85, mN85, gC86, mN86, gC87, mN87, rn, bdS, eq_self, if_true]
              rfl
          · intro i l td m hT hY h73 hmi hm
            obtain ⟨m, rfl⟩ : ∃ m', m = m' + 1 + 1 := ⟨m - 2, by omega⟩
            refine ⟨i, true, 0, ?_, rfl, Fr_rfl, fun q => absurd q (by decide)⟩
            rw [mname i l td (m + 1) hT hY, o1, show (!true) = false from rfl, b138_E hT hWl hM hk2 td, hA, if_neg o2, b187_e hT _ _ hAl.1 (by omega) (Or.inr (Or.inl rfl))]
      · -- the name isn't whole
        refine ⟨false, W.2, F, hWl, ?_, ?_⟩
        · intro i l e q m hT h2 he hq hm hci
          obtain ⟨m, rfl⟩ : ∃ m', m = m' + 1 := ⟨m - 1, by omega⟩
          refine ⟨i, ?_, Fr_rfl, fun q => absurd q (by decide)⟩
          rw [cname i l q m hT hq, if_neg o1]
          rfl
        · intro i l td m hT hY h73 hmi hm
          obtain ⟨m, rfl⟩ : ∃ m', m = m' + 1 + 1 := ⟨m - 2, by omega⟩
          refine ⟨i, true, 0, ?_, rfl, Fr_rfl, fun q => absurd q (by decide)⟩
          rw [mname i l td (m + 1) hT hY, show W.1 = false by simpa using o1, show (!false) = true from rfl, b138_w (nI M) td (by omega)]
end MEDSIM2
