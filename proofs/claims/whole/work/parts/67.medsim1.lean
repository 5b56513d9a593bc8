section MEDSIM1
variable {C R n z L T M : Nat} {i : fI} {l : fL} {b : Nat → Nat}
theorem reads0_E (hT : TC T b i) {s : Nat} (hs : s < 7) {p : Nat} (hp : p ≤ T) : f_X7_reads 8 s (mkS n z L (u2 i 8 2 (nI p)) l) = some (bI (wrd (tpF2 T b) s (wln s) 0 p).1, mkS n z L (u2 i 8 2 (nI (wrd (tpF2 T b) s (wln s) 0 p).2)) l) := by
  have h6 : wln s ≤ 6 := (wl_all ⟨s, hs⟩).2.1
  unfold f_X7_reads
  rw [show (0 : Int32) = nI 0 from rfl]
  exact reads_E hT hs (wln s) 0 p xFu (by omega) (by unfold xFu; omega) hp
theorem begun0_E (hT : TC T b i) {p K : Nat} (hp : p ≤ T) : f_X7_medalBegunHere 8 (nI (3 - K)) (mkS n z L (u2 i 8 2 (nI p)) l) = some (nI (3 - fkR (tpF2 T b p) (3 - K)), mkS n z L (u2 i 8 2 (nI p)) l) := by
  unfold f_X7_medalBegunHere
  exact begun_E hT hp (3 - K) xFu (by omega) (by unfold xFu; omega)
/-- ' at N': whether, where, the number -/
def atNm (t : Nat → Nat) (p : Nat) : Bool × Nat × Nat := if ((wrd t 3 4 0 p).1 && dgB (t (wrd t 3 4 0 p).2) 57) = true then (true, (nmR t 3 (wrd t 3 4 0 p).2 0).1, (nmR t 3 (wrd t 3 4 0 p).2 0).2) else (false, (wrd t 3 4 0 p).2, 0)
theorem atNm_le {p : Nat} (hp : p ≤ T) : (atNm (tpF2 T b) p).2.1 ≤ T ∧ (atNm (tpF2 T b) p).2.2 < 1000 := by
  have h1 := wrd_le (T := T) (b := b) (s := 3) (by decide) 4 0 p (by decide) hp
  have h2 := nmR_le (T := T) (b := b) 3 _ 0 h1
  have h3 := nmR_v (t := tpF2 T b) 3 (wrd (tpF2 T b) 3 4 0 p).2 0
  unfold atNm
  split
  · exact ⟨h2, by simpa using h3⟩
  · exact ⟨h1, show 0 < 1000 by decide⟩
theorem lt_tp {q c : Nat} (hc : c < 256) (e : tpF2 T b q = c) : q < T := by
  refine Classical.byContradiction (fun r => ?_)
  unfold tpF2 at e
  rw [if_neg r] at e
  omega
set_option maxHeartbeats 100000 in
theorem b138_E (hT : TM T b i) {p k : Nat} (hp : p ≤ T) (hM : M < 6) (hk : k < 3) (td : Int32) (k28 : Nat → Int32 → Int32 → Int32 → xSt → Option (Unit × xSt)) : f_X11_medals_b138 k28 57 (nI M) (nI k) (mkS n z L (stM i p false td) l) = f_X11_medals_b187 k28 57 (nI M) (nI k) (mkS n z L (if (atNm (tpF2 T b) p).1 = true then stM (u2 i 73 (3 * M + k) (nI (atNm (tpF2 T b) p).2.2)) (atNm (tpF2 T b) p).2.1 false (nI (atNm (tpF2 T b) p).2.2) else stM i (atNm (tpF2 T b) p).2.1 true 0) l) := by
  have w : wrd (tpF2 T b) 3 4 0 p = if tpF2 T b p = 32 then (if tpF2 T b (p + 1) = 97 then (if tpF2 T b (p + 2) = 116 then (if tpF2 T b (p + 3) = 32 then (true, p + 4) else (false, p + 3)) else (false, p + 2)) else (false, p + 1)) else (false, p) := rfl
  have m1 := must_E (n := n) (z := z) (L := L) (l := l) hT hp (show 32 < 256 by decide) (show (32 : Int32) = nI 32 from rfl) td
  by_cases e1 : tpF2 T b p = 32
  · have h1 := lt_tp (by decide) e1
    have m2 := must_E (n := n) (z := z) (L := L) (l := l) hT (show p + 1 ≤ T by omega) (show 97 < 256 by decide) (show (97 : Int32) = nI 97 from rfl) td
    rw [if_pos e1] at m1
    by_cases e2 : tpF2 T b (p + 1) = 97
    · have h2 := lt_tp (by decide) e2
      have m3 := must_E (n := n) (z := z) (L := L) (l := l) hT (show p + 1 + 1 ≤ T by omega) (show 116 < 256 by decide) (show (116 : Int32) = nI 116 from rfl) td
      rw [if_pos e2] at m2
      by_cases e3 : tpF2 T b (p + 2) = 116
      · have h3 := lt_tp (by decide) e3
        have m4 := must_E (n := n) (z := z) (L := L) (l := l) hT (show p + 1 + 1 + 1 ≤ T by omega) (show 32 < 256 by decide) (show (32 : Int32) = nI 32 from rfl) td
        rw [if_pos e3] at m3
        by_cases e4 : tpF2 T b (p + 3) = 32
        · have h4 := lt_tp (by decide) e4
          rw [if_pos e4] at m4
          have ew : wrd (tpF2 T b) 3 4 0 p = (true, p + 4) := by rw [w, if_pos e1, if_pos e2, if_pos e3, if_pos e4]
          have mn := numM_E (n := n) (z := z) (L := L) (l := l) hT (show p + 1 + 1 + 1 + 1 ≤ T by omega) td
          simp only [f_X11_medals_b138, mI, mL, mZ, msI, msL, mN1020, gC1, mR1_0, mR1_1, mR1_2, mR1_3, mR1_4, mR1_5, mR1_6, mR1_7, mR1_8, gC2, mR2_6, mR2_7, gC3, mN3, gC4, mN4, gC5, mR5_0, mR5_1, gC6, mN6, gC7, mR7_0, mR7_1, gC8, mR8_0, gC9, mN9, gC10, mR10_0, gC11, mN11, mR11_0, mR11_1, mR11_2, mR11_3, mR11_4, mR11_5, gC12, mR12_0, mR12_1, gC13, mN13, gC14, mN14, gC15, mR15_0, mR15_1, gC16, mN16, gC17, mN17, gC18, mR18_0, mR18_1, gC19, mN19, gC20, mN20, gC21, mR21_0, mR21_1, gC22, mN22, gC23, mN23, gC24, mR24_0, mR24_1, gC25, mN25, gC26, mN26, gC27, mR27_0, mR27_1, gC28, mN28, gC29, mN29, gC30, mR30_0, gC31, mN31, mR31_0, mR31_1, mR31_2, mR31_3, mR31_4, mR31_5, gC32, mR32_0, mR32_1, gC33, mN33, gC34, mN34, gC35, mR35_0, mR35_1, gC36, mN36, gC37, mN37, gC38, mR38_0, mR38_1, gC39, mN39, gC40, mN40, gC41, mR41_0, mR41_1, gC42, mN42, gC43, mN43, gC44, mR44_0, mR44_1, gC45, mN45, gC46, mN46, gC47, mR47_0, mR47_1, gC48, mN48, gC49, mN49, gC50, mR50_0, mR50_1, mR50_2, mR50_3, gC51, mN51, gC52, mN52, gC53, mN53, gC54, mN54, gC55, gC56, gC57, mR57_2, mR57_3, mR57_6, mR57_7, mR57_8, mR57_9, mR57_10, mR57_11, mR57_12, mR57_13, mR57_14, mR57_15, mR57_16, mR57_18, mR57_19, mR57_20, mR57_21, mR57_22, mR57_23, mR57_25, mR57_26, mR57_27, mR57_28, mR57_37, mR57_40, mR57_41, mR57_43, mR57_44, mR57_48, mR57_49, gC58, mN58, gC59, mN59, gC60, mN60, gC61, mN61, gC62, mN62, gC63, mN63, gC64, mN64, gC65, mN65, gC66, mN66, gC67, mN67, gC68, mN68, gC69, mN69, gC70, mN70, gC71, mN71, gC72, mN72, gC73, mN73, gC74, mN74, gC75, mN75, gC76, mN76, gC77, mN77, gC78, mN78, gC79, mN79, gC80, mN80, gC81, mN81, gC82, mN82, gC83, mN83, gC84, mN84, gC85, mN85, gC86, mN86, gC87, mN87, m1, m2, m3, m4, mn, bdS, stM_46, stM_47]
          unfold atNm
          rw [ew, show p + 1 + 1 + 1 + 1 = p + 4 from rfl]
          cases hd : dgB (tpF2 T b (p + 4)) 57 with
          | true =>
            rw [if_pos (show bI (!true) = 0 from rfl), if_pos (show (true && true) = true from rfl), if_pos rfl, show (3 : Int32) = nI 3 from rfl, pk_mul, nI_add, gI (show 3 * M + k < 36 by omega) (by omega), nI_clamp (by omega), lt1E, stM_i _ _ _ _ _ (by decide)]
            rfl
          | false =>
            have e0 : nmR (tpF2 T b) 3 (p + 4) 0 = (p + 4, 0) := by
              show (if dgB (tpF2 T b (p + 4)) 57 = true then _ else _) = _
              rw [if_neg (by rw [hd]; decide)]
            rw [if_neg (show ¬ bI (!false) = 0 by decide), if_neg (show ¬ (true && false) = true by decide), if_neg (show ¬ false = true by decide), e0]
            rfl
        · rw [if_neg e4] at m4
          have ew : wrd (tpF2 T b) 3 4 0 p = (false, p + 3) := by rw [w, if_pos e1, if_pos e2, if_pos e3, if_neg e4]
          simp only [f_X11_medals_b138, mI, mL, mZ, msI, msL, mN1020, gC1, mR1_0, mR1_1, mR1_2, mR1_3, mR1_4, mR1_5, mR1_6, mR1_7, mR1_8, gC2, mR2_6, mR2_7, gC3, mN3, gC4, mN4, gC5, mR5_0, mR5_1, gC6, mN6, gC7, mR7_0, mR7_1, gC8, mR8_0, gC9, mN9, gC10, mR10_0, gC11, mN11, mR11_0, mR11_1, mR11_2, mR11_3, mR11_4, mR11_5, gC12, mR12_0, mR12_1, gC13, mN13, gC14, mN14, gC15, mR15_0, mR15_1, gC16, mN16, gC17, mN17, gC18, mR18_0, mR18_1, gC19, mN19, gC20, mN20, gC21, mR21_0, mR21_1, gC22, mN22, gC23, mN23, gC24, mR24_0, mR24_1, gC25, mN25, gC26, mN26, gC27, mR27_0, mR27_1, gC28, mN28, gC29, mN29, gC30, mR30_0, gC31, mN31, mR31_0, mR31_1, mR31_2, mR31_3, mR31_4, mR31_5, gC32, mR32_0, mR32_1, gC33, mN33, gC34, mN34, gC35, mR35_0, mR35_1, gC36, mN36, gC37, mN37, gC38, mR38_0, mR38_1, gC39, mN39, gC40, mN40, gC41, mR41_0, mR41_1, gC42, mN42, gC43, mN43, gC44, mR44_0, mR44_1, gC45, mN45, gC46, mN46, gC47, mR47_0, mR47_1, gC48, mN48, gC49, mN49, gC50, mR50_0, mR50_1, mR50_2, mR50_3, gC51, mN51, gC52, mN52, gC53, mN53, gC54, mN54, gC55, gC56, gC57, mR57_2, mR57_3, mR57_6, mR57_7, mR57_8, mR57_9, mR57_10, mR57_11, mR57_12, mR57_13, mR57_14, mR57_15, mR57_16, mR57_18, mR57_19, mR57_20, mR57_21, mR57_22, mR57_23, mR57_25, mR57_26, mR57_27, mR57_28, mR57_37, mR57_40, mR57_41, mR57_43, mR57_44, mR57_48, mR57_49, gC58, mN58, gC59, mN59, gC60, mN60, gC61, mN61, gC62, mN62, gC63, mN63, gC64, mN64, gC65, mN65, gC66, mN66, gC67, mN67, gC68, mN68, gC69, mN69, gC70, mN70, gC71, mN71, gC72, mN72, gC73, mN73, gC74, mN74, gC75, mN75, gC76, mN76, gC77, mN77, gC78, mN78, gC79, mN79, gC80, mN80, gC81, mN81, gC82, mN82, gC83, mN83, gC84, mN84, gC85, mN85, gC86, mN86, gC87, mN87, m1, m2, m3, m4, numM_w, bdS, stM_46]
          unfold atNm
          rw [ew, if_neg (show ¬ bI true = 0 by decide), if_neg (show ¬ (false && _) = true by simp), if_neg (show ¬ false = true by decide)]
      · rw [if_neg e3] at m3
        have ew : wrd (tpF2 T b) 3 4 0 p = (false, p + 2) := by rw [w, if_pos e1, if_pos e2, if_neg e3]
        simp only [f_X11_medals_b138, mI, mL, mZ, msI, msL, mN1020, gC1, mR1_0, mR1_1, mR1_2, mR1_3, mR1_4, mR1_5, mR1_6, mR1_7, mR1_8, gC2, mR2_6, mR2_7, gC3, mN3, gC4, mN4, gC5, mR5_0, mR5_1, gC6, mN6, gC7, mR7_0, mR7_1, gC8, mR8_0, gC9, mN9, gC10, mR10_0, gC11, mN11, mR11_0, mR11_1, mR11_2, mR11_3, mR11_4, mR11_5, gC12, mR12_0, mR12_1, gC13, mN13, gC14, mN14, gC15, mR15_0, mR15_1, gC16, mN16, gC17, mN17, gC18, mR18_0, mR18_1, gC19, mN19, gC20, mN20, gC21, mR21_0, mR21_1, gC22, mN22, gC23, mN23, gC24, mR24_0, mR24_1, gC25, mN25, gC26, mN26, gC27, mR27_0, mR27_1, gC28, mN28, gC29, mN29, gC30, mR30_0, gC31, mN31, mR31_0, mR31_1, mR31_2, mR31_3, mR31_4, mR31_5, gC32, mR32_0, mR32_1, gC33, mN33, gC34, mN34, gC35, mR35_0, mR35_1, gC36, mN36, gC37, mN37, gC38, mR38_0, mR38_1, gC39, mN39, gC40, mN40, gC41, mR41_0, mR41_1, gC42, mN42, gC43, mN43, gC44, mR44_0, mR44_1, gC45, mN45, gC46, mN46, gC47, mR47_0, mR47_1, gC48, mN48, gC49, mN49, gC50, mR50_0, mR50_1, mR50_2, mR50_3, gC51, mN51, gC52, mN52, gC53, mN53, gC54, mN54, gC55, gC56, gC57, mR57_2, mR57_3, mR57_6, mR57_7, mR57_8, mR57_9, mR57_10, mR57_11, mR57_12, mR57_13, mR57_14, mR57_15, mR57_16, mR57_18, mR57_19, mR57_20, mR57_21, mR57_22, mR57_23, mR57_25, mR57_26, mR57_27, mR57_28, mR57_37, mR57_40, mR57_41, mR57_43, mR57_44, mR57_48, mR57_49, gC58, mN58, gC59, mN59, gC60, mN60, gC61, mN61, gC62, mN62, gC63, mN63, gC64, mN64, gC65, mN65, gC66, mN66, gC67, mN67, gC68, mN68, gC69, mN69, gC70, mN70, gC71, mN71, gC72, mN72, gC73, mN73, gC74, mN74, gC75, mN75, gC76, mN76, gC77, mN77, gC78, mN78, gC79, mN79, gC80, mN80, gC81, mN81, gC82, mN82, gC83, mN83, gC84, mN84, gC85, mN85, gC86, mN86, gC87, mN87, m1, m2, m3, must_w, numM_w, bdS, stM_46]
        unfold atNm
        rw [ew, if_neg (show ¬ bI true = 0 by decide), if_neg (show ¬ (false && _) = true by simp), if_neg (show ¬ false = true by decide)]
    · rw [if_neg e2] at m2
      have ew : wrd (tpF2 T b) 3 4 0 p = (false, p + 1) := by rw [w, if_pos e1, if_neg e2]
      simp only [f_X11_medals_b138, mI, mL, mZ, msI, msL, mN1020, gC1, mR1_0, mR1_1, mR1_2, mR1_3, mR1_4, mR1_5, mR1_6, mR1_7, mR1_8, gC2, mR2_6, mR2_7, gC3, mN3, gC4, mN4, gC5, mR5_0, mR5_1, gC6, mN6, gC7, mR7_0, mR7_1, gC8, mR8_0, gC9, mN9, gC10, mR10_0, gC11, mN11, mR11_0, mR11_1, mR11_2, mR11_3, mR11_4, mR11_5, gC12, mR12_0, mR12_1, gC13, mN13, gC14, mN14, gC15, mR15_0, mR15_1, gC16, mN16, gC17, mN17, gC18, mR18_0, mR18_1, gC19, mN19, gC20, mN20, gC21, mR21_0, mR21_1, gC22, mN22, gC23, mN23, gC24, mR24_0, mR24_1, gC25, mN25, gC26, mN26, gC27, mR27_0, mR27_1, gC28, mN28, gC29, mN29, gC30, mR30_0, gC31, mN31, mR31_0, mR31_1, mR31_2, mR31_3, mR31_4, mR31_5, gC32, mR32_0, mR32_1, gC33, mN33, gC34, mN34, gC35, mR35_0, mR35_1, gC36, mN36, gC37, mN37, gC38, mR38_0, mR38_1, gC39, mN39, gC40, mN40, gC41, mR41_0, mR41_1, gC42, mN42, gC43, mN43, gC44, mR44_0, mR44_1, gC45, mN45, gC46, mN46, gC47, mR47_0, mR47_1, gC48, mN48, gC49, mN49, gC50, mR50_0, mR50_1, mR50_2, mR50_3, gC51, mN51, gC52, mN52, gC53, mN53, gC54, mN54, gC55, gC56, gC57, mR57_2, mR57_3, mR57_6, mR57_7, mR57_8, mR57_9, mR57_10, mR57_11, mR57_12, mR57_13, mR57_14, mR57_15, mR57_16, mR57_18, mR57_19, mR57_20, mR57_21, mR57_22, mR57_23, mR57_25, mR57_26, mR57_27, mR57_28, mR57_37, mR57_40, mR57_41, mR57_43, mR57_44, mR57_48, mR57_49, gC58, mN58, gC59, mN59, gC60, mN60, gC61, mN61, gC62, mN62, gC63, mN63, gC64, mN64, gC65, mN65, gC66, mN66, gC67, mN67, gC68, mN68, gC69, mN69, gC70, mN70, gC71, mN71, gC72, mN72, gC73, mN73, gC74, mN74, gC75, mN75, gC76, mN76, gC77, mN77, gC78, mN78, gC79, mN79, gC80, mN80, gC81, mN81, gC82, mN82, gC83, mN83, gC84, mN84, gC85, mN85, gC86, mN86, gC87, mN87, m1, m2, must_w, numM_w, bdS, stM_46]
      unfold atNm
      rw [ew, if_neg (show ¬ bI true = 0 by decide), if_neg (show ¬ (false && _) = true by simp), if_neg (show ¬ false = true by decide)]
  · rw [if_neg e1] at m1
    have ew : wrd (tpF2 T b) 3 4 0 p = (false, p) := by rw [w, if_neg e1]
    simp only [f_X11_medals_b138, mI, mL, mZ, msI, msL, mN1020, gC1, mR1_0, mR1_1, mR1_2, mR1_3, mR1_4, mR1_5, mR1_6, mR1_7, mR1_8, gC2, mR2_6, mR2_7, gC3, mN3, gC4, mN4, gC5, mR5_0, mR5_1, gC6, mN6, gC7, mR7_0, mR7_1, gC8, mR8_0, gC9, mN9, gC10, mR10_0, gC11, mN11, mR11_0, mR11_1, mR11_2, mR11_3, mR11_4, mR11_5, gC12, mR12_0, mR12_1, gC13, mN13, gC14, mN14, gC15, mR15_0, mR15_1, gC16, mN16, gC17, mN17, gC18, mR18_0, mR18_1, gC19, mN19, gC20, mN20, gC21, mR21_0, mR21_1, gC22, mN22, gC23, mN23, gC24, mR24_0, mR24_1, gC25, mN25, gC26, mN26, gC27, mR27_0, mR27_1, gC28, mN28, gC29, mN29, gC30, mR30_0, gC31, mN31, mR31_0, mR31_1, mR31_2, mR31_3, mR31_4, mR31_5, gC32, mR32_0, mR32_1, gC33, mN33, gC34, mN34, gC35, mR35_0, mR35_1, gC36, mN36, gC37, mN37, gC38, mR38_0, mR38_1, gC39, mN39, gC40, mN40, gC41, mR41_0, mR41_1, gC42, mN42, gC43, mN43, gC44, mR44_0, mR44_1, gC45, mN45, gC46, mN46, gC47, mR47_0, mR47_1, gC48, mN48, gC49, mN49, gC50, mR50_0, mR50_1, mR50_2, mR50_3, gC51, mN51, gC52, mN52, gC53, mN53, gC54, mN54, gC55, gC56, gC57, mR57_2, mR57_3, mR57_6, mR57_7, mR57_8, mR57_9, mR57_10, mR57_11, mR57_12, mR57_13, mR57_14, mR57_15, mR57_16, mR57_18, mR57_19, mR57_20, mR57_21, mR57_22, mR57_23, mR57_25, mR57_26, mR57_27, mR57_28, mR57_37, mR57_40, mR57_41, mR57_43, mR57_44, mR57_48, mR57_49, gC58, mN58, gC59, mN59, gC60, mN60, gC61, mN61, gC62, mN62, gC63, mN63, gC64, mN64, gC65, mN65, gC66, mN66, gC67, mN67, gC68, mN68, gC69, mN69, gC70, mN70, gC71, mN71, gC72, mN72, gC73, mN73, gC74, mN74, gC75, mN75, gC76, mN76, gC77, mN77, gC78, mN78, gC79, mN79, gC80, mN80, gC81, mN81, gC82, mN82, gC83, mN83, gC84, mN84, gC85, mN85, gC86, mN86, gC87, mN87, m1, must_w, numM_w, bdS, stM_46]
    unfold atNm
    rw [ew, if_neg (show ¬ bI true = 0 by decide), if_neg (show ¬ (false && _) = true by simp), if_neg (show ¬ false = true by decide)]
theorem b220_0 (x1 x2 td : Int32) {p m : Nat} {wr : Bool} : f_X11_medals_b220 (f_X11_medals_l28 (m + 1)) 57 x1 x2 0 (mkS n z L (stM i p wr td) l) = some ((), mkS n z L (stM i p wr td) l) := by
  have z0 : nI p + (0 : Int32) = nI p := nI_add p 0
  simp only [f_X11_medals_b220, mI, mL, mZ, msI, msL, mN1020, gC1, mR1_0, mR1_1, mR1_2, mR1_3, mR1_4, mR1_5, mR1_6, mR1_7, mR1_8, gC2, mR2_6, mR2_7, gC3, mN3, gC4, mN4, gC5, mR5_0, mR5_1, gC6, mN6, gC7, mR7_0, mR7_1, gC8, mR8_0, gC9, mN9, gC10, mR10_0, gC11, mN11, mR11_0, mR11_1, mR11_2, mR11_3, mR11_4, mR11_5, gC12, mR12_0, mR12_1, gC13, mN13, gC14, mN14, gC15, mR15_0, mR15_1, gC16, mN16, gC17, mN17, gC18, mR18_0, mR18_1, gC19, mN19, gC20, mN20, gC21, mR21_0, mR21_1, gC22, mN22, gC23, mN23, gC24, mR24_0, mR24_1, gC25, mN25, gC26, mN26, gC27, mR27_0, mR27_1, gC28, mN28, gC29, mN29, gC30, mR30_0, gC31, mN31, mR31_0, mR31_1, mR31_2, mR31_3, mR31_4, mR31_5, gC32, mR32_0, mR32_1, gC33, mN33, gC34, mN34, gC35, mR35_0, mR35_1, gC36, mN36, gC37, mN37, gC38, mR38_0, mR38_1, gC39, mN39, gC40, mN40, gC41, mR41_0, mR41_1, gC42, mN42, gC43, mN43, gC44, mR44_0, mR44_1, gC45, mN45, gC46, mN46, gC47, mR47_0, mR47_1, gC48, mN48, gC49, mN49, gC50, mR50_0, mR50_1, mR50_2, mR50_3, gC51, mN51, gC52, mN52, gC53, mN53, gC54, mN54, gC55, gC56, gC57, mR57_2, mR57_3, mR57_6, mR57_7, mR57_8, mR57_9, mR57_10, mR57_11, mR57_12, mR57_13, mR57_14, mR57_15, mR57_16, mR57_18, mR57_19, mR57_20, mR57_21, mR57_22, mR57_23, mR57_25, mR57_26, mR57_27, mR57_28, mR57_37, mR57_40, mR57_41, mR57_43, mR57_44, mR57_48, mR57_49, gC58, mN58, gC59, mN59, gC60, mN60, gC61, mN61, gC62, mN62, gC63, mN63, gC64, mN64, gC65, mN65, gC66, mN66, gC67, mN67, gC68, mN68, gC69, mN69, gC70, mN70, gC71, mN71, gC72, mN72, gC73, mN73, gC74, mN74, gC75, mN75, gC76, mN76, gC77, mN77, gC78, mN78, gC79, mN79, gC80, mN80, gC81, mN81, gC82, mN82, gC83, mN83, gC84, mN84, gC85, mN85, gC86, mN86, gC87, mN87, eq_self, if_true, stM_45, lt1E, z0, stM_p, f_X11_medals_l28_s]
set_option maxHeartbeats 100000 in
theorem b187_e (hT : TM T b i) (x1 td : Int32) {k p m : Nat} {wr : Bool} (hp : p ≤ T) (hk : k ≤ 3) (h : 3 ≤ k + 1 ∨ wr = true ∨ tpF2 T b p ≠ 44) : f_X11_medals_b187 (f_X11_medals_l28 (m + 1)) 57 x1 (nI k) (mkS n z L (stM i p wr td) l) = some ((), mkS n z L (stM i p wr td) l) := by
  unfold f_X11_medals_b187
  simp only [mI, mL, mZ, msI, msL, mN1020, gC1, mR1_0, mR1_1, mR1_2, mR1_3, mR1_4, mR1_5, mR1_6, mR1_7, mR1_8, gC2, mR2_6, mR2_7, gC3, mN3, gC4, mN4, gC5, mR5_0, mR5_1, gC6, mN6, gC7, mR7_0, mR7_1, gC8, mR8_0, gC9, mN9, gC10, mR10_0, gC11, mN11, mR11_0, mR11_1, mR11_2, mR11_3, mR11_4, mR11_5, gC12, mR12_0, mR12_1, gC13, mN13, gC14, mN14, gC15, mR15_0, mR15_1, gC16, mN16, gC17, mN17, gC18, mR18_0, mR18_1, gC19, mN19, gC20, mN20, gC21, mR21_0, mR21_1, gC22, mN22, gC23, mN23, gC24, mR24_0, mR24_1, gC25, mN25, gC26, mN26, gC27, mR27_0, mR27_1, gC28, mN28, gC29, mN29, gC30, mR30_0, gC31, mN31, mR31_0, mR31_1, mR31_2, mR31_3, mR31_4, mR31_5, gC32, mR32_0, mR32_1, gC33, mN33, gC34, mN34, gC35, mR35_0, mR35_1, gC36, mN36, gC37, mN37, gC38, mR38_0, mR38_1, gC39, mN39, gC40, mN40, gC41, mR41_0, mR41_1, gC42, mN42, gC43, mN43, gC44, mR44_0, mR44_1, gC45, mN45, gC46, mN46, gC47, mR47_0, mR47_1, gC48, mN48, gC49, mN49, gC50, mR50_0, mR50_1, mR50_2, mR50_3, gC51, mN51, gC52, mN52, gC53, mN53, gC54, mN54, gC55, gC56, gC57, mR57_2, mR57_3, mR57_6, mR57_7, mR57_8, mR57_9, mR57_10, mR57_11, mR57_12, mR57_13, mR57_14, mR57_15, mR57_16, mR57_18, mR57_19, mR57_20, mR57_21, mR57_22, mR57_23, mR57_25, mR57_26, mR57_27, mR57_28, mR57_37, mR57_40, mR57_41, mR57_43, mR57_44, mR57_48, mR57_49, gC58, mN58, gC59, mN59, gC60, mN60, gC61, mN61, gC62, mN62, gC63, mN63, gC64, mN64, gC65, mN65, gC66, mN66, gC67, mN67, gC68, mN68, gC69, mN69, gC70, mN70, gC71, mN71, gC72, mN72, gC73, mN73, gC74, mN74, gC75, mN75, gC76, mN76, gC77, mN77, gC78, mN78, gC79, mN79, gC80, mN80, gC81, mN81, gC82, mN82, gC83, mN83, gC84, mN84, gC85, mN85, gC86, mN86, gC87, mN87, nI_1, stM_45, stM_46, b220_0, byteAt_E (TM_s hT p wr td) hp, bdS, show (44 : Int32) = nI 44 from rfl, bvI_eq (tp_rng (fun j hj => (hT.2.2 j hj).1)) (show 44 < 256 by decide)]
  by_cases e : 3 ≤ k + 1
  · rw [if_pos (by rw [show (3 : Int32) = nI 3 from rfl]; exact nI_le e (by omega))]
  · rw [if_neg (by rw [show (3 : Int32) = nI 3 from rfl]; exact nI_ge (by omega) (by omega))]
    cases wr with
    | true => rw [if_neg (show ¬ bI true = 0 by decide)]
    | false =>
      have := (h.resolve_left e).resolve_left (by decide)
      rw [if_pos (show bI false = 0 from rfl), if_neg this]
set_option maxHeartbeats 100000 in
theorem b187_n (hT : TM T b i) (x1 td : Int32) {k p : Nat} (k28 : Nat → Int32 → Int32 → Int32 → xSt → Option (Unit × xSt)) (hp : p ≤ T) (hk : k < 2) (h : tpF2 T b p = 44) : f_X11_medals_b187 k28 57 x1 (nI k) (mkS n z L (stM i p false td) l) = k28 57 x1 (nI (k + 1)) 1 (mkS n z L (stM i (p + 1) false td) l) := by
  unfold f_X11_medals_b187
  simp only [f_X11_medals_b220, mI, mL, mZ, msI, msL, mN1020, gC1, mR1_0, mR1_1, mR1_2, mR1_3, mR1_4, mR1_5, mR1_6, mR1_7, mR1_8, gC2, mR2_6, mR2_7, gC3, mN3, gC4, mN4, gC5, mR5_0, mR5_1, gC6, mN6, gC7, mR7_0, mR7_1, gC8, mR8_0, gC9, mN9, gC10, mR10_0, gC11, mN11, mR11_0, mR11_1, mR11_2, mR11_3, mR11_4, mR11_5, gC12, mR12_0, mR12_1, gC13, mN13, gC14, mN14, gC15, mR15_0, mR15_1, gC16, mN16, gC17, mN17, gC18, mR18_0, mR18_1, gC19, mN19, gC20, mN20, gC21, mR21_0, mR21_1, gC22, mN22, gC23, mN23, gC24, mR24_0, mR24_1, gC25, mN25, gC26, mN26, gC27, mR27_0, mR27_1, gC28, mN28, gC29, mN29, gC30, mR30_0, gC31, mN31, mR31_0, mR31_1, mR31_2, mR31_3, mR31_4, mR31_5, gC32, mR32_0, mR32_1, gC33, mN33, gC34, mN34, gC35, mR35_0, mR35_1, gC36, mN36, gC37, mN37, gC38, mR38_0, mR38_1, gC39, mN39, gC40, mN40, gC41, mR41_0, mR41_1, gC42, mN42, gC43, mN43, gC44, mR44_0, mR44_1, gC45, mN45, gC46, mN46, gC47, mR47_0, mR47_1, gC48, mN48, gC49, mN49, gC50, mR50_0, mR50_1, mR50_2, mR50_3, gC51, mN51, gC52, mN52, gC53, mN53, gC54, mN54, gC55, gC56, gC57, mR57_2, mR57_3, mR57_6, mR57_7, mR57_8, mR57_9, mR57_10, mR57_11, mR57_12, mR57_13, mR57_14, mR57_15, mR57_16, mR57_18, mR57_19, mR57_20, mR57_21, mR57_22, mR57_23, mR57_25, mR57_26, mR57_27, mR57_28, mR57_37, mR57_40, mR57_41, mR57_43, mR57_44, mR57_48, mR57_49, gC58, mN58, gC59, mN59, gC60, mN60, gC61, mN61, gC62, mN62, gC63, mN63, gC64, mN64, gC65, mN65, gC66, mN66, gC67, mN67, gC68, mN68, gC69, mN69, gC70, mN70, gC71, mN71, gC72, mN72, gC73, mN73, gC74, mN74, gC75, mN75, gC76, mN76, gC77, mN77, gC78, mN78, gC79, mN79, gC80, mN80, gC81, mN81, gC82, mN82, gC83, mN83, gC84, mN84, gC85, mN85, gC86, mN86, gC87, mN87, nI_1, stM_45, stM_46, byteAt_E (TM_s hT p false td) hp, bdS, show (44 : Int32) = nI 44 from rfl, bvI_eq (tp_rng (fun j hj => (hT.2.2 j hj).1)) (show 44 < 256 by decide), lt1E, stM_p]
  rw [if_neg (by rw [show (3 : Int32) = nI 3 from rfl]; exact nI_ge (by omega) (by omega)), if_pos (show bI false = 0 from rfl), if_pos h, if_neg (show ¬ (1 : Int32) = 0 by decide)]
theorem u2_comm {α : Type} (f : Nat → Nat → α) {p q : Nat} (k j : Nat) (a c : α) (h : p ≠ q) : u2 (u2 f p k a) q j c = u2 (u2 f q j c) p k a := by
  funext x y
  by_cases e1 : x = q ∧ y = j
  · obtain ⟨rfl, rfl⟩ := e1
    rw [u2_s, u2_p _ _ (fun r => h r.symm), u2_s]
  · rw [u2_n _ _ e1]
    by_cases e2 : x = p ∧ y = k
    · obtain ⟨rfl, rfl⟩ := e2
      rw [u2_s, u2_s]
    · rw [u2_n _ _ e2, u2_n _ _ e2, u2_n _ _ e1]
def adF (i : fI) (B e : Nat) (x y : Int32) : fI := u2 (u2 (u2 i (B + 1) e x) (B + 2) e y) B 2 (nI (e + 1))
set_option maxHeartbeats 100000 in
theorem add0_P {e : Nat} (hM : M < 6) (he : e < 5) (h2 : i (12 + 3 * M) 2 = nI e) (x y v : Int32) : f_X8_add (12 + 3 * M) x y (mkS n z L (u2 i 8 2 v) l) = some ((), mkS n z L (u2 (adF i (12 + 3 * M) e x y) 8 2 v) l) := by
  rw [addT0_E hM he (show u2 i 8 2 v (12 + 3 * M) 2 = nI e by rw [u2_p _ _ (by omega)]; exact h2)]
  unfold adF
  rw [u2_comm i 2 e v x (show 8 ≠ 13 + 3 * M by omega), u2_comm _ 2 e v y (show 8 ≠ 14 + 3 * M by omega), u2_comm _ 2 2 v (nI (e + 1)) (show 8 ≠ 12 + 3 * M by omega), show 12 + 3 * M + 1 = 13 + 3 * M by omega, show 12 + 3 * M + 2 = 14 + 3 * M by omega]
def sTx (B p k : Nat) : Prop := ¬ ((p = B ∧ k = 2) ∨ p = B + 1 ∨ p = B + 2)
theorem adF_fr (i : fI) (B e : Nat) (x y : Int32) : Fr (sTx B) i (adF i B e x y) := Fr_u2 (Fr_u2 (Fr_u2 Fr_rfl (by unfold sTx; omega)) (by unfold sTx; omega)) (by unfold sTx; omega)
theorem TC_fr {i2 : fI} (h : TC T b i) (f : ∀ p k, p = 8 ∨ p = 9 → i2 p k = i p k) : TC T b i2 := ⟨h.1, by rw [f 8 1 (Or.inl rfl)]; exact h.2.1, fun j hj => ⟨(h.2.2 j hj).1, by rw [f 9 j (Or.inr rfl)]; exact (h.2.2 j hj).2⟩⟩
theorem TM_fr {i2 : fI} (h : TM T b i) (f : ∀ p k, p = 57 ∨ p = 70 → i2 p k = i p k) : TM T b i2 := ⟨h.1, by rw [f 57 17 (Or.inl rfl)]; exact h.2.1, fun j hj => ⟨(h.2.2 j hj).1, by rw [f 70 j (Or.inr rfl)]; exact (h.2.2 j hj).2⟩⟩
end MEDSIM1
