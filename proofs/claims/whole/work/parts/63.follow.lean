section FOLLOW
variable {C R n z L : Nat} {i : fI} {l : fL}
def laM (i : fI) (n : Nat) : Nat := setN (laB i) n
theorem rch_mono {S T T2 : Nat → Bool} (h : ∀ c, c < z → T c = true → T2 c = true) : ∀ k c, c < z → rch C z S T k c = true → rch C z S T2 k c = true
  | 0, c, _, hr => hr
  | k + 1, c, hc, hr => by
    rw [rch_s, Bool.or_eq_true, Bool.and_eq_true] at hr ⊢
    rcases hr with hr | ⟨h1, h2⟩
    · exact Or.inl (rch_mono h k c hc hr)
    · obtain ⟨b, b1, b2⟩ := exB_iff.mp h2
      rw [Bool.and_eq_true] at b2
      exact Or.inr ⟨h c hc h1, exB_iff.mpr ⟨b, b1, by rw [rch_mono h k b b1 b2.1, b2.2]; rfl⟩⟩
theorem rsB_anti (C n z : Nat) (i : fI) (M s t : Nat) (h : rsB C n z i (M ||| 2 ^ s) t = true) : rsB C n z i M t = true := by
  unfold rsB at h ⊢
  obtain ⟨c, c1, c2⟩ := exB_iff.mp h
  rw [Bool.and_eq_true] at c2
  refine exB_iff.mpr ⟨c, c1, ?_⟩
  rw [c2.2, Bool.and_true]
  refine rch_mono (fun c2 _ hp => ?_) z c c1 c2.1
  unfold PrB at hp ⊢
  rw [Bool.and_eq_true, Bool.or_eq_true] at hp ⊢
  refine ⟨hp.1, ?_⟩
  rcases hp.2 with q | q
  · exact Or.inl q
  · rw [fb_bit_set] at q
    refine Or.inr ?_
    cases e : M.testBit (sOn C n i c2).toNatClampNeg with
    | false => rfl
    | true => rw [e] at q; exact absurd q (by simp)
theorem rsB_laid {M s : Nat} (h : rsB C n z i M s = true) : laB i s = true := by
  unfold rsB at h
  obtain ⟨c, c1, c2⟩ := exB_iff.mp h
  rw [Bool.and_eq_true] at c2
  have := c2.2
  unfold onB at this
  rw [Bool.and_eq_true] at this
  exact this.1
theorem laM_b (s : Nat) : (laM i n).testBit s = (decide (s < n) && laB i s) := setN_b _ _ _
theorem rsB_A {M s : Nat} (hs : s < n) (h : rsB C n z i M s = true) : (laM i n).testBit s = true := by
  rw [laM_b, rsB_laid h, decide_eq_true hs]; rfl
theorem laM_512 (h9 : n ≤ 9) : laM i n < 512 := setN_512 _ h9
theorem laidC_E (hN : RelN n i) (hF : RelF n i) : f_X2_laid 7 (mkS n z L i l) = some (nI (laM i n), mkS n z L i l) := by
  have h9 := hN.1
  unfold f_X2_laid laM
  refine acc_loop (fun m a t w => f_X2_laid_l4 m 7 a t w) (fun t => nI (setN (laB i) t)) (fun _ => mkS n z L i l) n _ ?_ ?_ n 0 xFu (by omega) (by unfold xFu; omega)
  · intro m
    show f_X2_laid_l4 (m + 1) 7 _ (nI n) _ = _
    rw [f_X2_laid_l4_s]
    simp only [mI, mL, mZ, msI, msL, mN1020, gC1, mR1_0, mR1_1, mR1_2, mR1_3, mR1_4, mR1_5, mR1_6, mR1_7, mR1_8, gC2, mR2_6, mR2_7, gC3, mN3, gC4, mN4, gC5, mR5_0, mR5_1, gC6, mN6, gC7, mR7_0, mR7_1, gC8, mR8_0, gC9, mN9, gC10, mR10_0, gC11, mN11, mR11_0, mR11_1, mR11_2, mR11_3, mR11_4, mR11_5, gC12, mR12_0, mR12_1, gC13, mN13, gC14, mN14, gC15, mR15_0, mR15_1, gC16, mN16, gC17, mN17, gC18, mR18_0, mR18_1, gC19, mN19, gC20, mN20, gC21, mR21_0, mR21_1, gC22, mN22, gC23, mN23, gC24, mR24_0, mR24_1, gC25, mN25, gC26, mN26, gC27, mR27_0, mR27_1, gC28, mN28, gC29, mN29, gC30, mR30_0, gC31, mN31, mR31_0, mR31_1, mR31_2, mR31_3, mR31_4, mR31_5, gC32, mR32_0, mR32_1, gC33, mN33, gC34, mN34, gC35, mR35_0, mR35_1, gC36, mN36, gC37, mN37, gC38, mR38_0, mR38_1, gC39, mN39, gC40, mN40, gC41, mR41_0, mR41_1, gC42, mN42, gC43, mN43, gC44, mR44_0, mR44_1, gC45, mN45, gC46, mN46, gC47, mR47_0, mR47_1, gC48, mN48, gC49, mN49, gC50, mR50_0, mR50_1, mR50_2, mR50_3, gC51, mN51, gC52, mN52, gC53, mN53, gC54, mN54, gC55, gC56, gC57, mR57_2, mR57_3, mR57_6, mR57_7, mR57_8, mR57_9, mR57_10, mR57_11, mR57_12, mR57_13, mR57_14, mR57_15, mR57_16, mR57_18, mR57_19, mR57_20, mR57_21, mR57_22, mR57_23, mR57_25, mR57_26, mR57_27, mR57_28, mR57_37, mR57_40, mR57_41, mR57_43, mR57_44, mR57_48, mR57_49, gC58, mN58, gC59, mN59, gC60, mN60, gC61, mN61, gC62, mN62, gC63, mN63, gC64, mN64, gC65, mN65, gC66, mN66, gC67, mN67, gC68, mN68, gC69, mN69, gC70, mN70, gC71, mN71, gC72, mN72, gC73, mN73, gC74, mN74, gC75, mN75, gC76, mN76, gC77, mN77, gC78, mN78, gC79, mN79, gC80, mN80, gC81, mN81, gC82, mN82, gC83, mN83, gC84, mN84, gC85, mN85, gC86, mN86, gC87, mN87, hN.2.1]
    rw [if_pos (Int32.le_refl _)]
  · intro m t ht
    show f_X2_laid_l4 (m + 1) 7 _ (nI t) _ = f_X2_laid_l4 m 7 (nI (if laB i t = true then setN (laB i) t ||| 2 ^ t else setN (laB i) t)) (nI (t + 1)) _
    rw [f_X2_laid_l4_s]
    simp only [mI, mL, mZ, msI, msL, mN1020, gC1, mR1_0, mR1_1, mR1_2, mR1_3, mR1_4, mR1_5, mR1_6, mR1_7, mR1_8, gC2, mR2_6, mR2_7, gC3, mN3, gC4, mN4, gC5, mR5_0, mR5_1, gC6, mN6, gC7, mR7_0, mR7_1, gC8, mR8_0, gC9, mN9, gC10, mR10_0, gC11, mN11, mR11_0, mR11_1, mR11_2, mR11_3, mR11_4, mR11_5, gC12, mR12_0, mR12_1, gC13, mN13, gC14, mN14, gC15, mR15_0, mR15_1, gC16, mN16, gC17, mN17, gC18, mR18_0, mR18_1, gC19, mN19, gC20, mN20, gC21, mR21_0, mR21_1, gC22, mN22, gC23, mN23, gC24, mR24_0, mR24_1, gC25, mN25, gC26, mN26, gC27, mR27_0, mR27_1, gC28, mN28, gC29, mN29, gC30, mR30_0, gC31, mN31, mR31_0, mR31_1, mR31_2, mR31_3, mR31_4, mR31_5, gC32, mR32_0, mR32_1, gC33, mN33, gC34, mN34, gC35, mR35_0, mR35_1, gC36, mN36, gC37, mN37, gC38, mR38_0, mR38_1, gC39, mN39, gC40, mN40, gC41, mR41_0, mR41_1, gC42, mN42, gC43, mN43, gC44, mR44_0, mR44_1, gC45, mN45, gC46, mN46, gC47, mR47_0, mR47_1, gC48, mN48, gC49, mN49, gC50, mR50_0, mR50_1, mR50_2, mR50_3, gC51, mN51, gC52, mN52, gC53, mN53, gC54, mN54, gC55, gC56, gC57, mR57_2, mR57_3, mR57_6, mR57_7, mR57_8, mR57_9, mR57_10, mR57_11, mR57_12, mR57_13, mR57_14, mR57_15, mR57_16, mR57_18, mR57_19, mR57_20, mR57_21, mR57_22, mR57_23, mR57_25, mR57_26, mR57_27, mR57_28, mR57_37, mR57_40, mR57_41, mR57_43, mR57_44, mR57_48, mR57_49, gC58, mN58, gC59, mN59, gC60, mN60, gC61, mN61, gC62, mN62, gC63, mN63, gC64, mN64, gC65, mN65, gC66, mN66, gC67, mN67, gC68, mN68, gC69, mN69, gC70, mN70, gC71, mN71, gC72, mN72, gC73, mN73, gC74, mN74, gC75, mN75, gC76, mN76, gC77, mN77, gC78, mN78, gC79, mN79, gC80, mN80, gC81, mN81, gC82, mN82, gC83, mN83, gC84, mN84, gC85, mN85, gC86, mN86, gC87, mN87, hN.2.1, nI_clamp (show t < 2 ^ 31 by omega), mR6_t ht, gCS ht, gI (show t < 9 by omega) (show 9 < 2 ^ 31 by omega), nI_1, X6_isLaid_E ht, bdS, if_b, (hF t ht).2.2.2.2.2.2.1, or0, sh1_E (show t < 9 by omega), fa_or]
    rw [if_neg (nI_ge ht (by omega))]
    by_cases e : i 66 t = -1
    · rw [if_neg (fun q => q e), if_neg (by rw [laB_t]; exact fun q => q e)]
    · rw [if_pos e, if_pos (laB_t.mpr e)]
theorem or_b2 (a b t : Nat) : (a ||| b).testBit t = (a.testBit t || b.testBit t) := Nat.testBit_or a b t
theorem follow_in (h : Rel C R n z i l) {M B q : Nat} (hM5 : M < 512) (hB5 : B < 512) (dj : ∀ t, B.testBit t = true → M.testBit t = false) (k9 : Nat → Int32 → Int32 → Int32 → xSt → Option (Int32 × xSt)) : ∀ k s rest m, s + k = n → k < m → rest < 512 → (∀ t, rest.testBit t = true → B.testBit t = true) → (rest = B → ∀ t, t < s → B.testBit t = true → rsB C n z i (dif (M ||| B) (2 ^ t)) t = false) → (FB (rsB C n z i) n M (M ||| rest) ↔ FB (rsB C n z i) n M (M ||| B)) → ∃ r2, r2 < 512 ∧ (∀ t, r2.testBit t = true → B.testBit t = true) ∧ (FB (rsB C n z i) n M (M ||| r2) ↔ FB (rsB C n z i) n M (M ||| B)) ∧ (r2 = B → ∀ t, t < n → B.testBit t = true → rsB C n z i (dif (M ||| B) (2 ^ t)) t = false) ∧ f_X2_canFollow_l26 k9 m 7 (nI M) (nI rest) (nI q) (nI B) (nI s) (mkS n z L i l) = if r2 = B then some (0, mkS n z L i l) else k9 7 (nI M) (nI r2) (nI (q + 1)) (mkS n z L i l) := by
  obtain ⟨hD, hE, hK, hB, hG, hN, hF, hV, hA, hX, hT, hU, hJ, hM, hL, hO, hY, hP⟩ := id h
  have h9 := hN.1
  intro k
  induction k with
  | zero =>
    intro s rest m hs hm hr5 hsub hno hfb
    obtain ⟨m, rfl⟩ : ∃ m', m = m' + 1 := ⟨m - 1, by omega⟩
    have e : s = n := by omega
    subst e
    refine ⟨rest, hr5, hsub, hfb, hno, ?_⟩
    rw [f_X2_canFollow_l26_s]
    simp only [mI, mL, mZ, msI, msL, mN1020, gC1, mR1_0, mR1_1, mR1_2, mR1_3, mR1_4, mR1_5, mR1_6, mR1_7, mR1_8, gC2, mR2_6, mR2_7, gC3, mN3, gC4, mN4, gC5, mR5_0, mR5_1, gC6, mN6, gC7, mR7_0, mR7_1, gC8, mR8_0, gC9, mN9, gC10, mR10_0, gC11, mN11, mR11_0, mR11_1, mR11_2, mR11_3, mR11_4, mR11_5, gC12, mR12_0, mR12_1, gC13, mN13, gC14, mN14, gC15, mR15_0, mR15_1, gC16, mN16, gC17, mN17, gC18, mR18_0, mR18_1, gC19, mN19, gC20, mN20, gC21, mR21_0, mR21_1, gC22, mN22, gC23, mN23, gC24, mR24_0, mR24_1, gC25, mN25, gC26, mN26, gC27, mR27_0, mR27_1, gC28, mN28, gC29, mN29, gC30, mR30_0, gC31, mN31, mR31_0, mR31_1, mR31_2, mR31_3, mR31_4, mR31_5, gC32, mR32_0, mR32_1, gC33, mN33, gC34, mN34, gC35, mR35_0, mR35_1, gC36, mN36, gC37, mN37, gC38, mR38_0, mR38_1, gC39, mN39, gC40, mN40, gC41, mR41_0, mR41_1, gC42, mN42, gC43, mN43, gC44, mR44_0, mR44_1, gC45, mN45, gC46, mN46, gC47, mR47_0, mR47_1, gC48, mN48, gC49, mN49, gC50, mR50_0, mR50_1, mR50_2, mR50_3, gC51, mN51, gC52, mN52, gC53, mN53, gC54, mN54, gC55, gC56, gC57, mR57_2, mR57_3, mR57_6, mR57_7, mR57_8, mR57_9, mR57_10, mR57_11, mR57_12, mR57_13, mR57_14, mR57_15, mR57_16, mR57_18, mR57_19, mR57_20, mR57_21, mR57_22, mR57_23, mR57_25, mR57_26, mR57_27, mR57_28, mR57_37, mR57_40, mR57_41, mR57_43, mR57_44, mR57_48, mR57_49, gC58, mN58, gC59, mN59, gC60, mN60, gC61, mN61, gC62, mN62, gC63, mN63, gC64, mN64, gC65, mN65, gC66, mN66, gC67, mN67, gC68, mN68, gC69, mN69, gC70, mN70, gC71, mN71, gC72, mN72, gC73, mN73, gC74, mN74, gC75, mN75, gC76, mN76, gC77, mN77, gC78, mN78, gC79, mN79, gC80, mN80, gC81, mN81, gC82, mN82, gC83, mN83, gC84, mN84, gC85, mN85, gC86, mN86, gC87, mN87, hN.2.1, nI_eq (show rest < 2 ^ 31 by omega) (show B < 2 ^ 31 by omega), nI_1]
    rw [if_pos (Int32.le_refl _)]
  | succ k ih =>
    intro s rest m hs hm hr5 hsub hno hfb
    obtain ⟨m, rfl⟩ : ∃ m', m = m' + 1 := ⟨m - 1, by omega⟩
    have hsn : s < n := by omega
    have hmr : M ||| rest < 512 := Nat.or_lt_two_pow (n := 9) hM5 hr5
    have hre := reached_E (L := L) h (M := dif (M ||| rest) (2 ^ s)) (dif_lt hmr _) hsn
    have run : f_X2_canFollow_l26 k9 (m + 1) 7 (nI M) (nI rest) (nI q) (nI B) (nI s) (mkS n z L i l) = if rest.testBit s = true then (if rsB C n z i (dif (M ||| rest) (2 ^ s)) s = true then f_X2_canFollow_l26 k9 m 7 (nI M) (nI (dif rest (2 ^ s))) (nI q) (nI B) (nI (s + 1)) (mkS n z L i l) else f_X2_canFollow_l26 k9 m 7 (nI M) (nI rest) (nI q) (nI B) (nI (s + 1)) (mkS n z L i l)) else f_X2_canFollow_l26 k9 m 7 (nI M) (nI rest) (nI q) (nI B) (nI (s + 1)) (mkS n z L i l) := by
      rw [f_X2_canFollow_l26_s]
      simp only [mI, mL, mZ, msI, msL, mN1020, gC1, mR1_0, mR1_1, mR1_2, mR1_3, mR1_4, mR1_5, mR1_6, mR1_7, mR1_8, gC2, mR2_6, mR2_7, gC3, mN3, gC4, mN4, gC5, mR5_0, mR5_1, gC6, mN6, gC7, mR7_0, mR7_1, gC8, mR8_0, gC9, mN9, gC10, mR10_0, gC11, mN11, mR11_0, mR11_1, mR11_2, mR11_3, mR11_4, mR11_5, gC12, mR12_0, mR12_1, gC13, mN13, gC14, mN14, gC15, mR15_0, mR15_1, gC16, mN16, gC17, mN17, gC18, mR18_0, mR18_1, gC19, mN19, gC20, mN20, gC21, mR21_0, mR21_1, gC22, mN22, gC23, mN23, gC24, mR24_0, mR24_1, gC25, mN25, gC26, mN26, gC27, mR27_0, mR27_1, gC28, mN28, gC29, mN29, gC30, mR30_0, gC31, mN31, mR31_0, mR31_1, mR31_2, mR31_3, mR31_4, mR31_5, gC32, mR32_0, mR32_1, gC33, mN33, gC34, mN34, gC35, mR35_0, mR35_1, gC36, mN36, gC37, mN37, gC38, mR38_0, mR38_1, gC39, mN39, gC40, mN40, gC41, mR41_0, mR41_1, gC42, mN42, gC43, mN43, gC44, mR44_0, mR44_1, gC45, mN45, gC46, mN46, gC47, mR47_0, mR47_1, gC48, mN48, gC49, mN49, gC50, mR50_0, mR50_1, mR50_2, mR50_3, gC51, mN51, gC52, mN52, gC53, mN53, gC54, mN54, gC55, gC56, gC57, mR57_2, mR57_3, mR57_6, mR57_7, mR57_8, mR57_9, mR57_10, mR57_11, mR57_12, mR57_13, mR57_14, mR57_15, mR57_16, mR57_18, mR57_19, mR57_20, mR57_21, mR57_22, mR57_23, mR57_25, mR57_26, mR57_27, mR57_28, mR57_37, mR57_40, mR57_41, mR57_43, mR57_44, mR57_48, mR57_49, gC58, mN58, gC59, mN59, gC60, mN60, gC61, mN61, gC62, mN62, gC63, mN63, gC64, mN64, gC65, mN65, gC66, mN66, gC67, mN67, gC68, mN68, gC69, mN69, gC70, mN70, gC71, mN71, gC72, mN72, gC73, mN73, gC74, mN74, gC75, mN75, gC76, mN76, gC77, mN77, gC78, mN78, gC79, mN79, gC80, mN80, gC81, mN81, gC82, mN82, gC83, mN83, gC84, mN84, gC85, mN85, gC86, mN86, gC87, mN87, hN.2.1, holds_E hr5 (show s < 9 by omega), bdS, bI_if, nI_clamp (show s < 2 ^ 31 by omega), mR6_t hsn, gI (show s < 9 by omega) (show 9 < 2 ^ 31 by omega), sh1_E (show s < 9 by omega), fa_or, nI_dif hmr, nI_dif hr5, hre, nI_1]
      rw [if_neg (nI_ge hsn (by omega))]
    by_cases e1 : rest.testBit s = true
    · have hB : B.testBit s = true := hsub s e1
      have hMs := dj s hB
      by_cases e2 : rsB C n z i (dif (M ||| rest) (2 ^ s)) s = true
      · have eq : dif (M ||| rest) (2 ^ s) = M ||| dif rest (2 ^ s) := bit_ext (fun t => by
          rw [dl_b hmr, or_b2, or_b2, dl_b hr5]
          by_cases e : t = s
          · subst e; simp [hMs]
          · simp [e])
        have dn := FB_del (rsB_anti C n z i) hmr hsn (show (M ||| rest).testBit s = true by rw [or_b2, e1, Bool.or_true]) hMs e2
        rw [eq] at dn
        obtain ⟨r2, x1, x2, x3, x4, x5⟩ := ih (s + 1) (dif rest (2 ^ s)) m (by omega) (by omega) (dif_lt hr5 _) (fun t ht => by
          rw [dl_b hr5, Bool.and_eq_true] at ht
          exact hsub t ht.1) (fun r => by
          have : (dif rest (2 ^ s)).testBit s = true := by rw [r]; exact hB
          rw [dl_b hr5] at this
          simp at this) (dn.symm.trans hfb)
        exact ⟨r2, x1, x2, x3, x4, by rw [run, if_pos e1, if_pos e2, x5]⟩
      · obtain ⟨r2, x1, x2, x3, x4, x5⟩ := ih (s + 1) rest m (by omega) (by omega) hr5 hsub (fun r t ht hbt => by
          by_cases e : t = s
          · subst e
            rw [← r]
            simpa using e2
          · exact hno r t (by omega) hbt) hfb
        exact ⟨r2, x1, x2, x3, x4, by rw [run, if_pos e1, if_neg e2, x5]⟩
    · obtain ⟨r2, x1, x2, x3, x4, x5⟩ := ih (s + 1) rest m (by omega) (by omega) hr5 hsub (fun r t ht hbt => by
        by_cases e : t = s
        · subst e
          rw [r] at e1
          exact absurd hbt e1
        · exact hno r t (by omega) hbt) hfb
      exact ⟨r2, x1, x2, x3, x4, by rw [run, if_neg e1, x5]⟩
def ct9 (B : Nat) : Nat := fb_ct (fun t => B.testBit t) 9
theorem ct9_0 {B : Nat} (hB : B < 512) (h : ct9 B = 0) : B = 0 := bit_ext (fun t => by
  rw [Nat.zero_testBit]
  by_cases e : t < 9
  · exact fb_ct_zero.mp h t e
  · exact b_hi hB (by omega))
theorem ct9_lt {a b : Nat} (ha : a < 512) (hb : b < 512) (hs : ∀ t, a.testBit t = true → b.testBit t = true) (hne : a ≠ b) : ct9 a < ct9 b := by
  have ex : ∃ t, ¬ a.testBit t = b.testBit t := Classical.byContradiction (fun q => hne (bit_ext (fun t => Classical.byContradiction (fun r => q ⟨t, r⟩))))
  obtain ⟨t, ht⟩ := ex
  have at0 : a.testBit t = false := by
    cases e : a.testBit t with
    | false => rfl
    | true => exact absurd (by rw [e, hs t e]) ht
  have bt1 : b.testBit t = true := by
    cases e : b.testBit t with
    | true => rfl
    | false => exact absurd (by rw [at0, e]) ht
  have t9 : t < 9 := by
    rcases Nat.lt_or_ge t 9 with q | q
    · exact q
    · rw [b_hi hb q] at bt1; exact absurd bt1 (by decide)
  have a1 := fb_ct_upd (fun t => a.testBit t) true t9
  have a2 : fb_ct (fun k => if k = t then true else a.testBit k) 9 ≤ fb_ct (fun t => b.testBit t) 9 := fb_ct_sub (fun k _ hk => by
    by_cases e : k = t
    · rw [e]; exact bt1
    · rw [if_neg e] at hk
      exact hs k hk)
  simp only [at0, Bool.false_eq_true, if_false, if_true] at a1
  unfold ct9
  omega
theorem ct9_or {M s : Nat} (hs : s < 9) (hm : M.testBit s = false) : ct9 (M ||| 2 ^ s) = ct9 M + 1 := by
  have a1 := fb_ct_upd (fun t => M.testBit t) true hs
  simp only [hm, Bool.false_eq_true, if_false, if_true] at a1
  unfold ct9
  rw [Nat.add_zero] at a1
  rw [← a1]
  exact fb_ct_cong (fun t _ => by
    rw [fb_bit_set]
    by_cases e : t = s
    · subst e; simp
    · simp [e])
theorem follow_out (h : Rel C R n z i l) {M : Nat} (hM5 : M < 512) : ∀ j B q m, ct9 B ≤ j → q + j ≤ 9 → j < m → B < 512 → (∀ t, B.testBit t = true → M.testBit t = false) → (∀ t, B.testBit t = true → t < n) → f_X2_canFollow_l9 m 7 (nI M) (nI B) (nI q) (mkS n z L i l) = some (bI (fbB (rsB C n z i) n (M ||| B) M), mkS n z L i l) := by
  have h9 := h.2.2.2.2.2.1.1
  have zero : f_X2_canFollow_b107 (nI 0) (mkS n z L i l) = some (bI (fbB (rsB C n z i) n (M ||| 0) M), mkS n z L i l) := by
    have e : M ||| 0 = M := Nat.or_zero M
    rw [e, fbB_iff.mpr (FB_self M)]
    rfl
  intro j
  induction j with
  | zero =>
    intro B q m hc hq hm hB dj hn
    obtain ⟨m, rfl⟩ : ∃ m', m = m' + 1 := ⟨m - 1, by omega⟩
    have e := ct9_0 hB (by omega)
    subst e
    rw [f_X2_canFollow_l9_s]
    by_cases q9 : (9 : Int32) ≤ nI q
    · rw [if_pos q9]; exact zero
    · rw [if_neg q9, if_pos (by rfl)]; exact zero
  | succ j ih =>
    intro B q m hc hq hm hB dj hn
    obtain ⟨m, rfl⟩ : ∃ m', m = m' + 1 := ⟨m - 1, by omega⟩
    rw [f_X2_canFollow_l9_s, if_neg (by rw [show (9 : Int32) = nI 9 from rfl]; exact nI_ge (by omega) (by omega))]
    by_cases e : B = 0
    · subst e
      rw [if_pos (by rfl)]; exact zero
    · rw [if_neg (nI_ne0 (by omega) (by omega))]
      obtain ⟨r2, x1, x2, x3, x4, x5⟩ := follow_in (L := L) h (q := q) hM5 hB dj (f_X2_canFollow_l9 m) n 0 B xFu (by omega) (by unfold xFu; omega) hB (fun t ht => ht) (fun _ t ht => absurd ht (Nat.not_lt_zero t)) Iff.rfl
      rw [show (0 : Int32) = nI 0 from rfl, x5]
      have hMB : M ||| B < 512 := Nat.or_lt_two_pow (n := 9) hM5 hB
      by_cases e2 : r2 = B
      · rw [if_pos e2]
        have st : ¬ FB (rsB C n z i) n M (M ||| B) := by
          refine FB_stuck hMB (fun r => ?_) (fun s hs hx hm2 => ?_)
          · apply e
            refine bit_ext (fun t => ?_)
            rw [Nat.zero_testBit]
            cases ft : B.testBit t with
            | false => rfl
            | true =>
              have a := dj t ft
              have b : (M ||| B).testBit t = true := by rw [or_b2, ft, Bool.or_true]
              rw [← r, a] at b
              exact absurd b (by decide)
          · rw [or_b2, hm2, Bool.false_or] at hx
            exact x4 e2 s hs hx
        rw [fbB_f.mpr st]
        rfl
      · rw [if_neg e2, ih r2 (q + 1) m (by have := ct9_lt x1 hB x2 e2; omega) (by omega) (by omega) x1 (fun t ht => dj t (x2 t ht)) (fun t ht => hn t (x2 t ht))]
        have : fbB (rsB C n z i) n (M ||| r2) M = fbB (rsB C n z i) n (M ||| B) M := Bool_iff (by rw [fbB_iff, fbB_iff]; exact x3)
        rw [this]
def subN (M A : Nat) : Prop := ∀ t, M.testBit t = true → A.testBit t = true
theorem follow_E (h : Rel C R n z i l) {M : Nat} (hM5 : M < 512) (hs : subN M (laM i n)) : f_X2_canFollow 7 (nI (laM i n)) (nI M) (mkS n z L i l) = some (bI (fbB (rsB C n z i) n (laM i n) M), mkS n z L i l) := by
  have h9 := h.2.2.2.2.2.1.1
  have hA := laM_512 (i := i) h9
  unfold f_X2_canFollow
  rw [nI_dif hA]
  have := follow_out (L := L) h hM5 9 (dif (laM i n) M) 0 xFu (fb_ct_le _ 9) (by omega) (by unfold xFu; omega) (dif_lt hA _) (fun t ht => by
    rw [dif_b hA, Bool.and_eq_true] at ht
    simpa using ht.2) (fun t ht => by
    rw [dif_b hA, Bool.and_eq_true, laM_b, Bool.and_eq_true] at ht
    exact of_decide_eq_true ht.1.1)
  have e : M ||| dif (laM i n) M = laM i n := bit_ext (fun t => by
    rw [or_b2, dif_b hA]
    cases q : M.testBit t with
    | true => rw [hs t q]; rfl
    | false => simp)
  rw [e] at this
  exact this
/-- the next stand of the row -/
noncomputable def npB (C n z : Nat) (i : fI) (M s : Nat) : Bool := (!M.testBit s && rsB C n z i M s) && fbB (rsB C n z i) n (laM i n) (M ||| 2 ^ s)
noncomputable def nxt (C n z : Nat) (i : fI) (M : Nat) : Int32 := fsel (npB C n z i M) (fun s => nI s) (-1) n 0
theorem sub_or {M A s : Nat} (h : subN M A) (hs : A.testBit s = true) : subN (M ||| 2 ^ s) A := fun t ht => by
  rw [fb_bit_set, Bool.or_eq_true] at ht
  rcases ht with q | q
  · exact h t q
  · rw [of_decide_eq_true q]; exact hs
theorem first_E (h : Rel C R n z i l) {M : Nat} (hM5 : M < 512) (hs : subN M (laM i n)) : f_X2_firstThatLeavesARow 7 (nI (laM i n)) (nI M) (mkS n z L i l) = some (nxt C n z i M, mkS n z L i l) := by
  obtain ⟨hD, hE, hK, hB, hG, hN, hF, hV, hA, hX, hT, hU, hJ, hM, hL, hO, hY, hP⟩ := id h
  have h9 := hN.1
  have hA5 := laM_512 (i := i) h9
  unfold f_X2_firstThatLeavesARow nxt
  refine fsel_loop (fun m s w => f_X2_firstThatLeavesARow_l2 m 7 (nI (laM i n)) (nI M) s w) _ _ _ n (mkS n z L i l) ?_ ?_ n 0 xFu (by omega) (by unfold xFu; omega)
  · intro m
    show f_X2_firstThatLeavesARow_l2 (m + 1) 7 _ _ (nI n) _ = _
    rw [f_X2_firstThatLeavesARow_l2_s]
    simp only [mI, mL, mZ, msI, msL, mN1020, gC1, mR1_0, mR1_1, mR1_2, mR1_3, mR1_4, mR1_5, mR1_6, mR1_7, mR1_8, gC2, mR2_6, mR2_7, gC3, mN3, gC4, mN4, gC5, mR5_0, mR5_1, gC6, mN6, gC7, mR7_0, mR7_1, gC8, mR8_0, gC9, mN9, gC10, mR10_0, gC11, mN11, mR11_0, mR11_1, mR11_2, mR11_3, mR11_4, mR11_5, gC12, mR12_0, mR12_1, gC13, mN13, gC14, mN14, gC15, mR15_0, mR15_1, gC16, mN16, gC17, mN17, gC18, mR18_0, mR18_1, gC19, mN19, gC20, mN20, gC21, mR21_0, mR21_1, gC22, mN22, gC23, mN23, gC24, mR24_0, mR24_1, gC25, mN25, gC26, mN26, gC27, mR27_0, mR27_1, gC28, mN28, gC29, mN29, gC30, mR30_0, gC31, mN31, mR31_0, mR31_1, mR31_2, mR31_3, mR31_4, mR31_5, gC32, mR32_0, mR32_1, gC33, mN33, gC34, mN34, gC35, mR35_0, mR35_1, gC36, mN36, gC37, mN37, gC38, mR38_0, mR38_1, gC39, mN39, gC40, mN40, gC41, mR41_0, mR41_1, gC42, mN42, gC43, mN43, gC44, mR44_0, mR44_1, gC45, mN45, gC46, mN46, gC47, mR47_0, mR47_1, gC48, mN48, gC49, mN49, gC50, mR50_0, mR50_1, mR50_2, mR50_3, gC51, mN51, gC52, mN52, gC53, mN53, gC54, mN54, gC55, gC56, gC57, mR57_2, mR57_3, mR57_6, mR57_7, mR57_8, mR57_9, mR57_10, mR57_11, mR57_12, mR57_13, mR57_14, mR57_15, mR57_16, mR57_18, mR57_19, mR57_20, mR57_21, mR57_22, mR57_23, mR57_25, mR57_26, mR57_27, mR57_28, mR57_37, mR57_40, mR57_41, mR57_43, mR57_44, mR57_48, mR57_49, gC58, mN58, gC59, mN59, gC60, mN60, gC61, mN61, gC62, mN62, gC63, mN63, gC64, mN64, gC65, mN65, gC66, mN66, gC67, mN67, gC68, mN68, gC69, mN69, gC70, mN70, gC71, mN71, gC72, mN72, gC73, mN73, gC74, mN74, gC75, mN75, gC76, mN76, gC77, mN77, gC78, mN78, gC79, mN79, gC80, mN80, gC81, mN81, gC82, mN82, gC83, mN83, gC84, mN84, gC85, mN85, gC86, mN86, gC87, mN87, hN.2.1]
    rw [if_pos (Int32.le_refl _)]
  · intro m s hsn
    show f_X2_firstThatLeavesARow_l2 (m + 1) 7 _ _ (nI s) _ = _
    have hre := reached_E (L := L) h hM5 hsn
    rw [f_X2_firstThatLeavesARow_l2_s]
    simp only [mI, mL, mZ, msI, msL, mN1020, gC1, mR1_0, mR1_1, mR1_2, mR1_3, mR1_4, mR1_5, mR1_6, mR1_7, mR1_8, gC2, mR2_6, mR2_7, gC3, mN3, gC4, mN4, gC5, mR5_0, mR5_1, gC6, mN6, gC7, mR7_0, mR7_1, gC8, mR8_0, gC9, mN9, gC10, mR10_0, gC11, mN11, mR11_0, mR11_1, mR11_2, mR11_3, mR11_4, mR11_5, gC12, mR12_0, mR12_1, gC13, mN13, gC14, mN14, gC15, mR15_0, mR15_1, gC16, mN16, gC17, mN17, gC18, mR18_0, mR18_1, gC19, mN19, gC20, mN20, gC21, mR21_0, mR21_1, gC22, mN22, gC23, mN23, gC24, mR24_0, mR24_1, gC25, mN25, gC26, mN26, gC27, mR27_0, mR27_1, gC28, mN28, gC29, mN29, gC30, mR30_0, gC31, mN31, mR31_0, mR31_1, mR31_2, mR31_3, mR31_4, mR31_5, gC32, mR32_0, mR32_1, gC33, mN33, gC34, mN34, gC35, mR35_0, mR35_1, gC36, mN36, gC37, mN37, gC38, mR38_0, mR38_1, gC39, mN39, gC40, mN40, gC41, mR41_0, mR41_1, gC42, mN42, gC43, mN43, gC44, mR44_0, mR44_1, gC45, mN45, gC46, mN46, gC47, mR47_0, mR47_1, gC48, mN48, gC49, mN49, gC50, mR50_0, mR50_1, mR50_2, mR50_3, gC51, mN51, gC52, mN52, gC53, mN53, gC54, mN54, gC55, gC56, gC57, mR57_2, mR57_3, mR57_6, mR57_7, mR57_8, mR57_9, mR57_10, mR57_11, mR57_12, mR57_13, mR57_14, mR57_15, mR57_16, mR57_18, mR57_19, mR57_20, mR57_21, mR57_22, mR57_23, mR57_25, mR57_26, mR57_27, mR57_28, mR57_37, mR57_40, mR57_41, mR57_43, mR57_44, mR57_48, mR57_49, gC58, mN58, gC59, mN59, gC60, mN60, gC61, mN61, gC62, mN62, gC63, mN63, gC64, mN64, gC65, mN65, gC66, mN66, gC67, mN67, gC68, mN68, gC69, mN69, gC70, mN70, gC71, mN71, gC72, mN72, gC73, mN73, gC74, mN74, gC75, mN75, gC76, mN76, gC77, mN77, gC78, mN78, gC79, mN79, gC80, mN80, gC81, mN81, gC82, mN82, gC83, mN83, gC84, mN84, gC85, mN85, gC86, mN86, gC87, mN87, hN.2.1, nI_dif hA5, holds_E (dif_lt hA5 M) (show s < 9 by omega), bdS, bI_if, nI_clamp (show s < 2 ^ 31 by omega), mR6_t hsn, gI (show s < 9 by omega) (show 9 < 2 ^ 31 by omega), sh1_E (show s < 9 by omega), fa_or, hre, nI_1, dif_b hA5]
    rw [if_neg (nI_ge hsn (by omega))]
    unfold npB
    by_cases e1 : rsB C n z i M s = true
    · have ha := rsB_A hsn e1
      rw [ha, Bool.true_and, e1, Bool.and_true, if_pos rfl]
      cases e2 : M.testBit s with
      | true => rfl
      | false =>
        have hf := follow_E (L := L) h (or_lt hM5 (show s < 9 by omega)) (sub_or hs ha)
        simp only [hf, bdS, bI_if]
        cases fbB (rsB C n z i) n (laM i n) (M ||| 2 ^ s) <;> rfl
    · have e1' : rsB C n z i M s = false := by simpa using e1
      rw [e1', Bool.and_false, Bool.false_and, if_neg (show ¬ false = true by decide), if_neg (show ¬ false = true by decide)]
      cases ((laM i n).testBit s && !M.testBit s) <;> rfl
theorem nxt_ok (h9 : n ≤ 9) {M : Nat} (hf : fbB (rsB C n z i) n (laM i n) M = true) (hne : M ≠ laM i n) : ∃ s, s < n ∧ nxt C n z i M = nI s ∧ M.testBit s = false ∧ rsB C n z i M s = true ∧ fbB (rsB C n z i) n (laM i n) (M ||| 2 ^ s) = true ∧ ∀ t, t < s → npB C n z i M t = false := by
  rw [fbB_step hne (fun s hs hr => rsB_A hs hr)] at hf
  obtain ⟨t, t1, t2⟩ := exB_iff.mp hf
  unfold nxt
  rcases fsel_or (p := npB C n z i M) (v := fun s => nI s) (b := (-1 : Int32)) n 0 with ⟨-, b⟩ | ⟨s, s1, s2, s3, s4, s5⟩
  · have := b t (by omega) (by omega)
    unfold npB at this
    rw [t2] at this
    exact absurd this (by decide)
  · have s3' := s3
    unfold npB at s3'
    simp only [Bool.and_eq_true, Bool.not_eq_true'] at s3'
    exact ⟨s, by omega, s4, s3'.1.1, s3'.1.2, s3'.2, fun t ht => s5 t (by omega) ht⟩
theorem nxt_no {M : Nat} (hf : fbB (rsB C n z i) n (laM i n) M = false) (hne : M ≠ laM i n) : nxt C n z i M = -1 := by
  rw [fbB_step hne (fun s hs hr => rsB_A hs hr)] at hf
  unfold nxt
  rcases fsel_or (p := npB C n z i M) (v := fun s => nI s) (b := (-1 : Int32)) n 0 with ⟨a, -⟩ | ⟨s, s1, s2, s3, s4, s5⟩
  · exact a
  · have s3' := s3
    unfold npB at s3'
    have := exB_iff (p := fun s => (!M.testBit s && rsB C n z i M s) && fbB (rsB C n z i) n (laM i n) (M ||| 2 ^ s)).mpr ⟨s, (by omega : s < n), s3'⟩
    rw [hf] at this
    exact absurd this (by decide)
noncomputable def rowR (C n z : Nat) (i : fI) : Nat → Nat → Int32 → Int32
  | 0, _, last => last
  | k + 1, M, _ => rowR C n z i k (M ||| 2 ^ (nxt C n z i M).toNatClampNeg) (nxt C n z i M)
theorem order_E (h : Rel C R n z i l) {I : Nat} (hI : I < ct9 (laM i n)) : ∀ k p M last m, p + k = I + 1 → k < m → M < 512 → subN M (laM i n) → ct9 M = p → fbB (rsB C n z i) n (laM i n) M = true → f_X2_inOrder_l27 m 7 (nI I) (nI (laM i n)) (nI M) last (nI p) (mkS n z L i l) = some (rowR C n z i k M last, mkS n z L i l) := by
  have h9 := h.2.2.2.2.2.1.1
  have hI9 : ct9 (laM i n) ≤ 9 := fb_ct_le _ 9
  intro k
  induction k with
  | zero =>
    intro p M last m hp hm hM5 hs hc hf
    obtain ⟨m, rfl⟩ : ∃ m', m = m' + 1 := ⟨m - 1, by omega⟩
    rw [f_X2_inOrder_l27_s, if_pos (nI_lt (by omega) (by omega))]
    rfl
  | succ k ih =>
    intro p M last m hp hm hM5 hs hc hf
    obtain ⟨m, rfl⟩ : ∃ m', m = m' + 1 := ⟨m - 1, by omega⟩
    have hne : M ≠ laM i n := fun e => by rw [e] at hc; omega
    obtain ⟨s, s1, s2, s3, s4, s5, -⟩ := nxt_ok h9 hf hne
    rw [f_X2_inOrder_l27_s, if_neg (nI_nlt (by omega) (by omega))]
    simp only [mI, mL, mZ, msI, msL, mN1020, gC1, mR1_0, mR1_1, mR1_2, mR1_3, mR1_4, mR1_5, mR1_6, mR1_7, mR1_8, gC2, mR2_6, mR2_7, gC3, mN3, gC4, mN4, gC5, mR5_0, mR5_1, gC6, mN6, gC7, mR7_0, mR7_1, gC8, mR8_0, gC9, mN9, gC10, mR10_0, gC11, mN11, mR11_0, mR11_1, mR11_2, mR11_3, mR11_4, mR11_5, gC12, mR12_0, mR12_1, gC13, mN13, gC14, mN14, gC15, mR15_0, mR15_1, gC16, mN16, gC17, mN17, gC18, mR18_0, mR18_1, gC19, mN19, gC20, mN20, gC21, mR21_0, mR21_1, gC22, mN22, gC23, mN23, gC24, mR24_0, mR24_1, gC25, mN25, gC26, mN26, gC27, mR27_0, mR27_1, gC28, mN28, gC29, mN29, gC30, mR30_0, gC31, mN31, mR31_0, mR31_1, mR31_2, mR31_3, mR31_4, mR31_5, gC32, mR32_0, mR32_1, gC33, mN33, gC34, mN34, gC35, mR35_0, mR35_1, gC36, mN36, gC37, mN37, gC38, mR38_0, mR38_1, gC39, mN39, gC40, mN40, gC41, mR41_0, mR41_1, gC42, mN42, gC43, mN43, gC44, mR44_0, mR44_1, gC45, mN45, gC46, mN46, gC47, mR47_0, mR47_1, gC48, mN48, gC49, mN49, gC50, mR50_0, mR50_1, mR50_2, mR50_3, gC51, mN51, gC52, mN52, gC53, mN53, gC54, mN54, gC55, gC56, gC57, mR57_2, mR57_3, mR57_6, mR57_7, mR57_8, mR57_9, mR57_10, mR57_11, mR57_12, mR57_13, mR57_14, mR57_15, mR57_16, mR57_18, mR57_19, mR57_20, mR57_21, mR57_22, mR57_23, mR57_25, mR57_26, mR57_27, mR57_28, mR57_37, mR57_40, mR57_41, mR57_43, mR57_44, mR57_48, mR57_49, gC58, mN58, gC59, mN59, gC60, mN60, gC61, mN61, gC62, mN62, gC63, mN63, gC64, mN64, gC65, mN65, gC66, mN66, gC67, mN67, gC68, mN68, gC69, mN69, gC70, mN70, gC71, mN71, gC72, mN72, gC73, mN73, gC74, mN74, gC75, mN75, gC76, mN76, gC77, mN77, gC78, mN78, gC79, mN79, gC80, mN80, gC81, mN81, gC82, mN82, gC83, mN83, gC84, mN84, gC85, mN85, gC86, mN86, gC87, mN87, first_E (L := L) h hM5 hs, bdS, s2, sh1_E (show s < 9 by omega), fa_or, nI_1]
    rw [if_neg (nI_m1 (by omega)), ih (p + 1) (M ||| 2 ^ s) (nI s) m (by omega) (by omega) (or_lt hM5 (by omega)) (sub_or hs (rsB_A s1 s4)) (by rw [ct9_or (by omega) s3, hc]) s5]
    show _ = some (rowR C n z i k (M ||| 2 ^ (nxt C n z i M).toNatClampNeg) (nxt C n z i M), _)
    rw [s2, nI_clamp (by omega)]
def bci (x : Int32) : Int32 := match f_J6_bitCount_0f7a4 x (fun _ _ => 0, fun _ _ => 0, fun _ _ => 0, fun _ => 0, fun _ => 0, 0) with
  | some (v, _) => v
  | none => 0
theorem bci_E (x : Int32) (w : xSt) : f_J6_bitCount_0f7a4 x w = some (bci x, w) := rfl
theorem bitCountI_E {A : Nat} (hA : A < 512) (w : xSt) : f_J6_bitCount_0f7a4 (nI A) w = some (nI (ct9 A), w) := by
  have : ∀ A : Fin 512, bci (nI A.1) = nI (ct9 A.1) := by decide +kernel
  rw [bci_E, this ⟨A, hA⟩]
theorem ct9_laM (h9 : n ≤ 9) : ct9 (laM i n) = laidN i n := by
  unfold ct9 laidN
  have s := fb_ct_split (fun t => (laM i n).testBit t) n (9 - n)
  rw [show n + (9 - n) = 9 by omega] at s
  have s0 : fb_ct (fun k => (laM i n).testBit (n + k)) (9 - n) = 0 := fb_ct_zero.mpr (fun j _ => by rw [laM_b, decide_eq_false (show ¬ n + j < n by omega)]; rfl)
  rw [s, s0, Nat.add_zero]
  exact fb_ct_cong (fun k hk => by rw [laM_b, decide_eq_true hk]; rfl)
noncomputable def rowV (C n z : Nat) (i : fI) (x : Int32) : Int32 := if 0 ≤ x ∧ x ≤ nI (laidN i n) - 1 ∧ fbB (rsB C n z i) n (laM i n) 0 = true then rowR C n z i (x.toNatClampNeg + 1) 0 (-1) else -1
theorem inOrder_E (h : Rel C R n z i l) (x : Int32) : f_X2_inOrder 7 x (mkS n z L i l) = some (rowV C n z i x, mkS n z L i l) := by
  obtain ⟨hD, hE, hK, hB, hG, hN, hF, hV, hA, hX, hT, hU, hJ, hM, hL, hO, hY, hP⟩ := id h
  have h9 := hN.1
  have hA5 := laM_512 (i := i) h9
  have hl := laidN_le i n
  have hc := ct9_laM (i := i) h9
  have s0 : subN 0 (laM i n) := fun t ht => by rw [Nat.zero_testBit] at ht; exact absurd ht (by decide)
  simp only [f_X2_inOrder, mI, mL, mZ, msI, msL, mN1020, gC1, mR1_0, mR1_1, mR1_2, mR1_3, mR1_4, mR1_5, mR1_6, mR1_7, mR1_8, gC2, mR2_6, mR2_7, gC3, mN3, gC4, mN4, gC5, mR5_0, mR5_1, gC6, mN6, gC7, mR7_0, mR7_1, gC8, mR8_0, gC9, mN9, gC10, mR10_0, gC11, mN11, mR11_0, mR11_1, mR11_2, mR11_3, mR11_4, mR11_5, gC12, mR12_0, mR12_1, gC13, mN13, gC14, mN14, gC15, mR15_0, mR15_1, gC16, mN16, gC17, mN17, gC18, mR18_0, mR18_1, gC19, mN19, gC20, mN20, gC21, mR21_0, mR21_1, gC22, mN22, gC23, mN23, gC24, mR24_0, mR24_1, gC25, mN25, gC26, mN26, gC27, mR27_0, mR27_1, gC28, mN28, gC29, mN29, gC30, mR30_0, gC31, mN31, mR31_0, mR31_1, mR31_2, mR31_3, mR31_4, mR31_5, gC32, mR32_0, mR32_1, gC33, mN33, gC34, mN34, gC35, mR35_0, mR35_1, gC36, mN36, gC37, mN37, gC38, mR38_0, mR38_1, gC39, mN39, gC40, mN40, gC41, mR41_0, mR41_1, gC42, mN42, gC43, mN43, gC44, mR44_0, mR44_1, gC45, mN45, gC46, mN46, gC47, mR47_0, mR47_1, gC48, mN48, gC49, mN49, gC50, mR50_0, mR50_1, mR50_2, mR50_3, gC51, mN51, gC52, mN52, gC53, mN53, gC54, mN54, gC55, gC56, gC57, mR57_2, mR57_3, mR57_6, mR57_7, mR57_8, mR57_9, mR57_10, mR57_11, mR57_12, mR57_13, mR57_14, mR57_15, mR57_16, mR57_18, mR57_19, mR57_20, mR57_21, mR57_22, mR57_23, mR57_25, mR57_26, mR57_27, mR57_28, mR57_37, mR57_40, mR57_41, mR57_43, mR57_44, mR57_48, mR57_49, gC58, mN58, gC59, mN59, gC60, mN60, gC61, mN61, gC62, mN62, gC63, mN63, gC64, mN64, gC65, mN65, gC66, mN66, gC67, mN67, gC68, mN68, gC69, mN69, gC70, mN70, gC71, mN71, gC72, mN72, gC73, mN73, gC74, mN74, gC75, mN75, gC76, mN76, gC77, mN77, gC78, mN78, gC79, mN79, gC80, mN80, gC81, mN81, gC82, mN82, gC83, mN83, gC84, mN84, gC85, mN85, gC86, mN86, gC87, mN87, laidC_E hN hF, bdS, bitCountI_E hA5, hc]
  unfold rowV
  have ix := nI_ix x (show laidN i n < 2 ^ 31 by omega)
  have ix2 := nI_ix2 x (show laidN i n < 2 ^ 31 by omega)
  by_cases e : ∃ k : Nat, k < laidN i n ∧ x = nI k
  · obtain ⟨e1, e2⟩ := ix2.mpr e
    obtain ⟨e3, e4⟩ := ix.mpr e
    obtain ⟨I, I1, rfl⟩ := e
    rw [if_neg e1, if_pos (nI_lt I1 (by omega))]
    by_cases e5 : fbB (rsB C n z i) n (laM i n) 0 = true
    · rw [if_pos ⟨e3, e4, e5⟩, nI_clamp (by omega)]
      exact order_E (L := L) h (by omega) (I + 1) 0 0 (-1) xFu (by omega) (by unfold xFu; omega) (by omega) s0 (by decide) e5
    · have e6 : fbB (rsB C n z i) n (laM i n) 0 = false := by simpa using e5
      have hne : 0 ≠ laM i n := fun q => by rw [← q] at hc; rw [show ct9 0 = 0 by decide] at hc; omega
      have fi := first_E (L := L) h (show 0 < 512 by omega) s0
      rw [show nI 0 = (0 : Int32) from rfl] at fi
      obtain ⟨m, hm⟩ : ∃ m, xFu = m + 1 := ⟨xFu - 1, by unfold xFu; omega⟩
      rw [if_neg (fun r => e5 r.2.2), hm, f_X2_inOrder_l27_s, if_neg (show ¬ nI I < (0 : Int32) from nI_nlt (Nat.zero_le I) (by omega))]
      simp only [mI, mL, mZ, msI, msL, mN1020, gC1, mR1_0, mR1_1, mR1_2, mR1_3, mR1_4, mR1_5, mR1_6, mR1_7, mR1_8, gC2, mR2_6, mR2_7, gC3, mN3, gC4, mN4, gC5, mR5_0, mR5_1, gC6, mN6, gC7, mR7_0, mR7_1, gC8, mR8_0, gC9, mN9, gC10, mR10_0, gC11, mN11, mR11_0, mR11_1, mR11_2, mR11_3, mR11_4, mR11_5, gC12, mR12_0, mR12_1, gC13, mN13, gC14, mN14, gC15, mR15_0, mR15_1, gC16, mN16, gC17, mN17, gC18, mR18_0, mR18_1, gC19, mN19, gC20, mN20, gC21, mR21_0, mR21_1, gC22, mN22, gC23, mN23, gC24, mR24_0, mR24_1, gC25, mN25, gC26, mN26, gC27, mR27_0, mR27_1, gC28, mN28, gC29, mN29, gC30, mR30_0, gC31, mN31, mR31_0, mR31_1, mR31_2, mR31_3, mR31_4, mR31_5, gC32, mR32_0, mR32_1, gC33, mN33, gC34, mN34, gC35, mR35_0, mR35_1, gC36, mN36, gC37, mN37, gC38, mR38_0, mR38_1, gC39, mN39, gC40, mN40, gC41, mR41_0, mR41_1, gC42, mN42, gC43, mN43, gC44, mR44_0, mR44_1, gC45, mN45, gC46, mN46, gC47, mR47_0, mR47_1, gC48, mN48, gC49, mN49, gC50, mR50_0, mR50_1, mR50_2, mR50_3, gC51, mN51, gC52, mN52, gC53, mN53, gC54, mN54, gC55, gC56, gC57, mR57_2, mR57_3, mR57_6, mR57_7, mR57_8, mR57_9, mR57_10, mR57_11, mR57_12, mR57_13, mR57_14, mR57_15, mR57_16, mR57_18, mR57_19, mR57_20, mR57_21, mR57_22, mR57_23, mR57_25, mR57_26, mR57_27, mR57_28, mR57_37, mR57_40, mR57_41, mR57_43, mR57_44, mR57_48, mR57_49, gC58, mN58, gC59, mN59, gC60, mN60, gC61, mN61, gC62, mN62, gC63, mN63, gC64, mN64, gC65, mN65, gC66, mN66, gC67, mN67, gC68, mN68, gC69, mN69, gC70, mN70, gC71, mN71, gC72, mN72, gC73, mN73, gC74, mN74, gC75, mN75, gC76, mN76, gC77, mN77, gC78, mN78, gC79, mN79, gC80, mN80, gC81, mN81, gC82, mN82, gC83, mN83, gC84, mN84, gC85, mN85, gC86, mN86, gC87, mN87, fi, bdS, nxt_no e6 hne, eq_self, if_true]
  · have ne : ¬ (0 ≤ x ∧ x ≤ nI (laidN i n) - 1 ∧ fbB (rsB C n z i) n (laM i n) 0 = true) := fun r => e (ix.mp ⟨r.1, r.2.1⟩)
    rw [if_neg ne]
    by_cases e1 : x < 0
    · rw [if_pos e1]
    · rw [if_neg e1, if_neg (fun q => e (ix2.mp ⟨e1, fun r => Int32.lt_irrefl (Int32.lt_of_lt_of_le q r)⟩))]
end FOLLOW
