section START
variable {C R n z L T M : Nat} {i : fI} {l : fL} {b : Nat → Nat}
def cl3 (i : fI) (M s : Nat) : fI := fun p k => if p = 73 ∧ 3 * M ≤ k ∧ k < 3 * M + s then -1 else i p k
theorem cl3_0 (i : fI) (M : Nat) : cl3 i M 0 = i := by
  funext p k
  exact if_neg (by omega)
theorem cl3_s (i : fI) (M s : Nat) : u2 (cl3 i M s) 73 (3 * M + s) (-1) = cl3 i M (s + 1) := by
  funext p k
  unfold u2 cl3
  by_cases e : p = 73 ∧ k = 3 * M + s
  · rw [if_pos e, if_pos (by omega)]
  · rw [if_neg e]
    by_cases e2 : p = 73 ∧ 3 * M ≤ k ∧ k < 3 * M + s
    · rw [if_pos e2, if_pos (by omega)]
    · rw [if_neg e2, if_neg (by omega)]
theorem cl3_o (i : fI) (M s : Nat) {p k : Nat} (h : p ≠ 73) : cl3 i M s p k = i p k := if_neg (fun e => h e.1)
theorem med_start (T : Nat) (b : Nat → Nat) (hM : M < 6) : ∃ (ok : Bool) (pE : Nat) (F2 : Int32 → Int32 → Int32), pE ≤ T ∧ (∀ (i : fI) (l : fL), TC T b i → i (12 + 3 * M) 2 = nI 0 → ∃ i2, f_X7_readMedals 8 (12 + 3 * M) (mkS n z L i l) = some (bI ok, mkS n z L (u2 i2 8 2 (nI pE)) l) ∧ Fr (sTx (12 + 3 * M)) i i2 ∧ (ok = true → ∃ e2, e2 ≤ 3 ∧ i2 (12 + 3 * M) 2 = nI e2 ∧ CI0 M F2 i2 e2)) ∧ (∀ (i : fI) (l : fL) (td : Int32), TM T b i → RelY i → ∃ i2 w td2, f_X11_medals 57 (nI M) (mkS n z L (stM i 0 false td) l) = some ((), mkS n z L (stM i2 pE w td2) l) ∧ ok = (!w && decide (pE = T)) ∧ Fr (sTm M) i i2 ∧ (ok = true → MI0 M F2 i2 3)) := by
  obtain ⟨ok, pE, F2, x1, x2, x3⟩ := med_sim (n := n) (z := z) (L := L) (T := T) (b := b) hM 3 0 0 (fun _ d => d) (by omega) (by omega) (Nat.zero_le _)
  refine ⟨ok, pE, F2, x1, ?_, ?_⟩
  · intro i l hT h2
    obtain ⟨i2, y1, y2, y3⟩ := x2 i l 0 0 xFu hT h2 (by omega) (by omega) (by unfold xFu; omega) (fun _ _ => rfl)
    refine ⟨i2, ?_, y2, y3⟩
    unfold f_X7_readMedals
    simp only [mI, mL, mZ, msI, msL, mN1020, gC1, mR1_0, mR1_1, mR1_2, mR1_3, mR1_4, mR1_5, mR1_6, mR1_7, mR1_8, gC2, mR2_6, mR2_7, gC3, mN3, gC4, mN4, gC5, mR5_0, mR5_1, gC6, mN6, gC7, mR7_0, mR7_1, gC8, mR8_0, gC9, mN9, gC10, mR10_0, gC11, mN11, mR11_0, mR11_1, mR11_2, mR11_3, mR11_4, mR11_5, gC12, mR12_0, mR12_1, gC13, mN13, gC14, mN14, gC15, mR15_0, mR15_1, gC16, mN16, gC17, mN17, gC18, mR18_0, mR18_1, gC19, mN19, gC20, mN20, gC21, mR21_0, mR21_1, gC22, mN22, gC23, mN23, gC24, mR24_0, mR24_1, gC25, mN25, gC26, mN26, gC27, mR27_0, mR27_1, gC28, mN28, gC29, mN29, gC30, mR30_0, gC31, mN31, mR31_0, mR31_1, mR31_2, mR31_3, mR31_4, mR31_5, gC32, mR32_0, mR32_1, gC33, mN33, gC34, mN34, gC35, mR35_0, mR35_1, gC36, mN36, gC37, mN37, gC38, mR38_0, mR38_1, gC39, mN39, gC40, mN40, gC41, mR41_0, mR41_1, gC42, mN42, gC43, mN43, gC44, mR44_0, mR44_1, gC45, mN45, gC46, mN46, gC47, mR47_0, mR47_1, gC48, mN48, gC49, mN49, gC50, mR50_0, mR50_1, mR50_2, mR50_3, gC51, mN51, gC52, mN52, gC53, mN53, gC54, mN54, gC55, gC56, gC57, mR57_2, mR57_3, mR57_6, mR57_7, mR57_8, mR57_9, mR57_10, mR57_11, mR57_12, mR57_13, mR57_14, mR57_15, mR57_16, mR57_18, mR57_19, mR57_20, mR57_21, mR57_22, mR57_23, mR57_25, mR57_26, mR57_27, mR57_28, mR57_37, mR57_40, mR57_41, mR57_43, mR57_44, mR57_48, mR57_49, gC58, mN58, gC59, mN59, gC60, mN60, gC61, mN61, gC62, mN62, gC63, mN63, gC64, mN64, gC65, mN65, gC66, mN66, gC67, mN67, gC68, mN68, gC69, mN69, gC70, mN70, gC71, mN71, gC72, mN72, gC73, mN73, gC74, mN74, gC75, mN75, gC76, mN76, gC77, mN77, gC78, mN78, gC79, mN79, gC80, mN80, gC81, mN81, gC82, mN82, gC83, mN83, gC84, mN84, gC85, mN85, gC86, mN86, gC87, mN87, lt1E]
    exact y1
  · intro i l td hT hY
    have hT2 : TM T b (cl3 i M 3) := TM_fr hT (fun p k hp => cl3_o i M 3 (by omega))
    obtain ⟨i2, w, td2, y1, y2, y3, y4⟩ := x3 (cl3 i M 3) l td xFu hT2 (hY.fr (fun p k hp => cl3_o i M 3 (by unfold sY at hp; omega))) (fun k h1 h2 => if_pos (by omega)) (fun _ _ => rfl) (by unfold xFu; omega)
    refine ⟨i2, w, td2, ?_, y2, Fr_trans (fun p k hp => if_neg (by unfold sTm at hp; omega)) y3, y4⟩
    have run : f_X11_medals_l2 xFu 57 (nI M) (nI 0) (mkS n z L (stM (cl3 i M 0) 0 false td) l) = f_X11_medals_l28 xFu 57 (nI M) 0 1 (mkS n z L (stM (cl3 i M 3) 0 false td) l) := by
      refine acc_loopG (fun m a q => f_X11_medals_l2 m 57 (nI M) a q) (fun s => nI s) (fun s => mkS n z L (stM (cl3 i M s) 0 false td) l) 3 _ ?_ ?_ 3 0 xFu (by omega) (by unfold xFu; omega)
      · intro m
        show f_X11_medals_l2 (m + 1) 57 (nI M) (nI 3) _ = _
        rw [f_X11_medals_l2_s, if_pos (by decide)]
      · intro m s hs
        show f_X11_medals_l2 (m + 1) 57 (nI M) (nI s) _ = f_X11_medals_l2 m 57 (nI M) (nI (s + 1)) _
        rw [f_X11_medals_l2_s, if_neg (by rw [show (3 : Int32) = nI 3 from rfl]; exact nI_ge hs (by omega))]
        simp only [mI, mL, mZ, msI, msL, mN1020, gC1, mR1_0, mR1_1, mR1_2, mR1_3, mR1_4, mR1_5, mR1_6, mR1_7, mR1_8, gC2, mR2_6, mR2_7, gC3, mN3, gC4, mN4, gC5, mR5_0, mR5_1, gC6, mN6, gC7, mR7_0, mR7_1, gC8, mR8_0, gC9, mN9, gC10, mR10_0, gC11, mN11, mR11_0, mR11_1, mR11_2, mR11_3, mR11_4, mR11_5, gC12, mR12_0, mR12_1, gC13, mN13, gC14, mN14, gC15, mR15_0, mR15_1, gC16, mN16, gC17, mN17, gC18, mR18_0, mR18_1, gC19, mN19, gC20, mN20, gC21, mR21_0, mR21_1, gC22, mN22, gC23, mN23, gC24, mR24_0, mR24_1, gC25, mN25, gC26, mN26, gC27, mR27_0, mR27_1, gC28, mN28, gC29, mN29, gC30, mR30_0, gC31, mN31, mR31_0, mR31_1, mR31_2, mR31_3, mR31_4, mR31_5, gC32, mR32_0, mR32_1, gC33, mN33, gC34, mN34, gC35, mR35_0, mR35_1, gC36, mN36, gC37, mN37, gC38, mR38_0, mR38_1, gC39, mN39, gC40, mN40, gC41, mR41_0, mR41_1, gC42, mN42, gC43, mN43, gC44, mR44_0, mR44_1, gC45, mN45, gC46, mN46, gC47, mR47_0, mR47_1, gC48, mN48, gC49, mN49, gC50, mR50_0, mR50_1, mR50_2, mR50_3, gC51, mN51, gC52, mN52, gC53, mN53, gC54, mN54, gC55, gC56, gC57, mR57_2, mR57_3, mR57_6, mR57_7, mR57_8, mR57_9, mR57_10, mR57_11, mR57_12, mR57_13, mR57_14, mR57_15, mR57_16, mR57_18, mR57_19, mR57_20, mR57_21, mR57_22, mR57_23, mR57_25, mR57_26, mR57_27, mR57_28, mR57_37, mR57_40, mR57_41, mR57_43, mR57_44, mR57_48, mR57_49, gC58, mN58, gC59, mN59, gC60, mN60, gC61, mN61, gC62, mN62, gC63, mN63, gC64, mN64, gC65, mN65, gC66, mN66, gC67, mN67, gC68, mN68, gC69, mN69, gC70, mN70, gC71, mN71, gC72, mN72, gC73, mN73, gC74, mN74, gC75, mN75, gC76, mN76, gC77, mN77, gC78, mN78, gC79, mN79, gC80, mN80, gC81, mN81, gC82, mN82, gC83, mN83, gC84, mN84, gC85, mN85, gC86, mN86, gC87, mN87, show (3 : Int32) = nI 3 from rfl, pk_mul, nI_add, nI_clamp (show 3 * M + s < 2 ^ 31 by omega), gI (show 3 * M + s < 36 by omega) (show 36 < 2 ^ 31 by omega), lt1E, stM_i _ _ _ _ _ (show (73 : Nat) ≠ 57 by decide), cl3_s, nI_1]
    rw [cl3_0] at run
    unfold f_X11_medals
    exact run.trans y1
theorem day_start (T : Nat) (b : Nat → Nat) (hM : M < 6) : ∃ (ok : Bool) (pE : Nat) (G : Nat → Int32), pE ≤ T ∧ (∀ (i : fI) (l : fL), TC T b i → i (32 + 3 * M) 2 = nI 0 → ∃ i2, f_X7_readDays 8 (32 + 3 * M) (mkS n z L i l) = some (bI ok, mkS n z L (u2 i2 8 2 (nI pE)) l) ∧ Fr (sTx (32 + 3 * M)) i i2 ∧ (ok = true → CF1 M G i2)) ∧ (∀ (i : fI) (l : fL) (td : Int32), TM T b i → ∃ i2 w td2, f_X11_daysOf 57 (nI (6 + M)) (mkS n z L (stM i 0 false td) l) = some ((), mkS n z L (stM i2 pE w td2) l) ∧ ok = (!w && decide (pE = T)) ∧ Fr (sTd M) i i2 ∧ (ok = true → MF1 M G i2)) := by
  obtain ⟨W, hW⟩ : ∃ W, wrd (tpF2 T b) 5 4 0 0 = W := ⟨_, rfl⟩
  have hWl : W.2 ≤ T := by rw [← hW]; exact wrd_le (by decide) 4 0 0 (by decide) (Nat.zero_le _)
  have frM : ∀ (i : fI) (td : Int32), Fr (sTd M) i (u2 (u2 i 74 (6 + M) (nI 0)) 76 (5 * (6 + M) + 0) td) := fun i td => Fr_u2 (Fr_u2 Fr_rfl (by unfold sTd; omega)) (by unfold sTd; omega)
  -- the class
  have cst : ∀ (i : fI) (l : fL), TC T b i → f_X7_readDays 8 (32 + 3 * M) (mkS n z L i l) = if W.1 = true then (if dgB (tpF2 T b W.2) 57 = true then f_X7_readDays_l23 xFu 8 (32 + 3 * M) (nI (nmR (tpF2 T b) 3 W.2 0).2) (nI 0) (mkS n z L (u2 i 8 2 (nI (nmR (tpF2 T b) 3 W.2 0).1)) l) else f_X7_readDays_l23 xFu 8 (32 + 3 * M) (-1) (nI 0) (mkS n z L (u2 i 8 2 (nI W.2)) l)) else some (0, mkS n z L (u2 i 8 2 (nI W.2)) l) := by
    intro i l hT
    have rd := reads0_E (n := n) (z := z) (L := L) (l := l) hT (s := 5) (by decide) (Nat.zero_le T)
    rw [show wln 5 = 4 from rfl, hW] at rd
    have rn := numC_E (n := n) (z := z) (L := L) (l := l) hT hWl
    have rd' : f_X7_reads 8 5 (mkS n z L (u2 i 8 2 0) l) = some (bI W.1, mkS n z L (u2 i 8 2 (nI W.2)) l) := rd
    unfold f_X7_readDays
    simp only [mI, mL, mZ, msI, msL, mN1020, gC1, mR1_0, mR1_1, mR1_2, mR1_3, mR1_4, mR1_5, mR1_6, mR1_7, mR1_8, gC2, mR2_6, mR2_7, gC3, mN3, gC4, mN4, gC5, mR5_0, mR5_1, gC6, mN6, gC7, mR7_0, mR7_1, gC8, mR8_0, gC9, mN9, gC10, mR10_0, gC11, mN11, mR11_0, mR11_1, mR11_2, mR11_3, mR11_4, mR11_5, gC12, mR12_0, mR12_1, gC13, mN13, gC14, mN14, gC15, mR15_0, mR15_1, gC16, mN16, gC17, mN17, gC18, mR18_0, mR18_1, gC19, mN19, gC20, mN20, gC21, mR21_0, mR21_1, gC22, mN22, gC23, mN23, gC24, mR24_0, mR24_1, gC25, mN25, gC26, mN26, gC27, mR27_0, mR27_1, gC28, mN28, gC29, mN29, gC30, mR30_0, gC31, mN31, mR31_0, mR31_1, mR31_2, mR31_3, mR31_4, mR31_5, gC32, mR32_0, mR32_1, gC33, mN33, gC34, mN34, gC35, mR35_0, mR35_1, gC36, mN36, gC37, mN37, gC38, mR38_0, mR38_1, gC39, mN39, gC40, mN40, gC41, mR41_0, mR41_1, gC42, mN42, gC43, mN43, gC44, mR44_0, mR44_1, gC45, mN45, gC46, mN46, gC47, mR47_0, mR47_1, gC48, mN48, gC49, mN49, gC50, mR50_0, mR50_1, mR50_2, mR50_3, gC51, mN51, gC52, mN52, gC53, mN53, gC54, mN54, gC55, gC56, gC57, mR57_2, mR57_3, mR57_6, mR57_7, mR57_8, mR57_9, mR57_10, mR57_11, mR57_12, mR57_13, mR57_14, mR57_15, mR57_16, mR57_18, mR57_19, mR57_20, mR57_21, mR57_22, mR57_23, mR57_25, mR57_26, mR57_27, mR57_28, mR57_37, mR57_40, mR57_41, mR57_43, mR57_44, mR57_48, mR57_49, gC58, mN58, gC59, mN59, gC60, mN60, gC61, mN61, gC62, mN62, gC63, mN63, gC64, mN64, gC65, mN65, gC66, mN66, gC67, mN67, gC68, mN68, gC69, mN69, gC70, mN70, gC71, mN71, gC72, mN72, gC73, mN73, gC74, mN74, gC75, mN75, gC76, mN76, gC77, mN77, gC78, mN78, gC79, mN79, gC80, mN80, gC81, mN81, gC82, mN82, gC83, mN83, gC84, mN84, gC85, mN85, gC86, mN86, gC87, mN87, lt1E, rd', bdS, bI_if, rn]
    cases W.1 with
    | false => rfl
    | true =>
      rw [if_pos rfl, if_pos rfl]
      cases dgB (tpF2 T b W.2) 57 with
      | false => rw [if_neg (by decide), if_neg (by decide), bdS]; rfl
      | true => rw [if_pos rfl, if_pos rfl, bdS]; rfl
  have mst : ∀ (i : fI) (l : fL) (td : Int32), TM T b i → f_X11_daysOf 57 (nI (6 + M)) (mkS n z L (stM i 0 false td) l) = f_X11_daysOf_l30 xFu 57 (nI (6 + M)) (nI 0) (mkS n z L (if W.1 = true then stM i (nmR (tpF2 T b) 3 W.2 0).1 (!dgB (tpF2 T b W.2) 57) (nI (nmR (tpF2 T b) 3 W.2 0).2) else stM i W.2 true 0) l) := by
    intro i l td hT
    have m0 := must_j (n := n) (z := z) (L := L) (l := l) hT (s := 5) (j := 0) (p := 0) (by decide) (by decide) (Nat.zero_le T) (show (112 : Int32) = nI (wch 5 0) from rfl) td
    have m1 := must_j (n := n) (z := z) (L := L) (l := l) hT (s := 5) (j := 1) (p := 0) (by decide) (by decide) (Nat.zero_le T) (show (97 : Int32) = nI (wch 5 1) from rfl) td
    have m2 := must_j (n := n) (z := z) (L := L) (l := l) hT (s := 5) (j := 2) (p := 0) (by decide) (by decide) (Nat.zero_le T) (show (121 : Int32) = nI (wch 5 2) from rfl) td
    have m3 := must_j (n := n) (z := z) (L := L) (l := l) hT (s := 5) (j := 3) (p := 0) (by decide) (by decide) (Nat.zero_le T) (show (32 : Int32) = nI (wch 5 3) from rfl) td
    rw [show (3 : Nat) + 1 = 4 from rfl, hW] at m3
    have m0' : f_X11_must 57 (112 : Int32) (mkS n z L (stM i 0 false td) l) = some ((), mkS n z L (stM i (wrd (tpF2 T b) 5 1 0 0).2 (!(wrd (tpF2 T b) 5 1 0 0).1) td) l) := m0
    unfold f_X11_daysOf
    simp only [mI, mL, mZ, msI, msL, mN1020, gC1, mR1_0, mR1_1, mR1_2, mR1_3, mR1_4, mR1_5, mR1_6, mR1_7, mR1_8, gC2, mR2_6, mR2_7, gC3, mN3, gC4, mN4, gC5, mR5_0, mR5_1, gC6, mN6, gC7, mR7_0, mR7_1, gC8, mR8_0, gC9, mN9, gC10, mR10_0, gC11, mN11, mR11_0, mR11_1, mR11_2, mR11_3, mR11_4, mR11_5, gC12, mR12_0, mR12_1, gC13, mN13, gC14, mN14, gC15, mR15_0, mR15_1, gC16, mN16, gC17, mN17, gC18, mR18_0, mR18_1, gC19, mN19, gC20, mN20, gC21, mR21_0, mR21_1, gC22, mN22, gC23, mN23, gC24, mR24_0, mR24_1, gC25, mN25, gC26, mN26, gC27, mR27_0, mR27_1, gC28, mN28, gC29, mN29, gC30, mR30_0, gC31, mN31, mR31_0, mR31_1, mR31_2, mR31_3, mR31_4, mR31_5, gC32, mR32_0, mR32_1, gC33, mN33, gC34, mN34, gC35, mR35_0, mR35_1, gC36, mN36, gC37, mN37, gC38, mR38_0, mR38_1, gC39, mN39, gC40, mN40, gC41, mR41_0, mR41_1, gC42, mN42, gC43, mN43, gC44, mR44_0, mR44_1, gC45, mN45, gC46, mN46, gC47, mR47_0, mR47_1, gC48, mN48, gC49, mN49, gC50, mR50_0, mR50_1, mR50_2, mR50_3, gC51, mN51, gC52, mN52, gC53, mN53, gC54, mN54, gC55, gC56, gC57, mR57_2, mR57_3, mR57_6, mR57_7, mR57_8, mR57_9, mR57_10, mR57_11, mR57_12, mR57_13, mR57_14, mR57_15, mR57_16, mR57_18, mR57_19, mR57_20, mR57_21, mR57_22, mR57_23, mR57_25, mR57_26, mR57_27, mR57_28, mR57_37, mR57_40, mR57_41, mR57_43, mR57_44, mR57_48, mR57_49, gC58, mN58, gC59, mN59, gC60, mN60, gC61, mN61, gC62, mN62, gC63, mN63, gC64, mN64, gC65, mN65, gC66, mN66, gC67, mN67, gC68, mN68, gC69, mN69, gC70, mN70, gC71, mN71, gC72, mN72, gC73, mN73, gC74, mN74, gC75, mN75, gC76, mN76, gC77, mN77, gC78, mN78, gC79, mN79, gC80, mN80, gC81, mN81, gC82, mN82, gC83, mN83, gC84, mN84, gC85, mN85, gC86, mN86, gC87, mN87, m0', m1, m2, m3, bdS]
    cases W.1 with
    | false => simp only [show (!false) = true from rfl, numM_w, bdS]; rfl
    | true => simp only [show (!true) = false from rfl, numM_E hT hWl td, bdS]; rfl
  by_cases o1 : W.1 = true
  · by_cases o2 : dgB (tpF2 T b W.2) 57 = true
    · have hl := nmR_le (T := T) (b := b) 3 W.2 0 hWl
      have hvv := nmR_v (t := tpF2 T b) 3 W.2 0
      obtain ⟨ok, pE, G, x1, x2, x3⟩ := day_sim (n := n) (z := z) (L := L) (T := T) (b := b) hM 4 0 (nmR (tpF2 T b) 3 W.2 0).1 (nmR (tpF2 T b) 3 W.2 0).2 (fun _ d => d) (by omega) hl (by simpa using hvv)
      refine ⟨ok, pE, G, x1, ?_, ?_⟩
      · intro i l hT h2
        obtain ⟨i2, y1, y2, y3⟩ := x2 i l xFu hT h2 (by unfold xFu; omega) (fun _ _ _ => rfl)
        exact ⟨i2, by rw [cst i l hT, if_pos o1, if_pos o2]; exact y1, y2, y3⟩
      · intro i l td hT
        obtain ⟨i2, w, td2, y1, y2, y3, y4⟩ := x3 i l xFu hT (by unfold xFu; omega) (fun _ _ _ => rfl)
        exact ⟨i2, w, td2, by rw [mst i l td hT, if_pos o1, o2]; exact y1, y2, y3, y4⟩
    · have o2' : dgB (tpF2 T b W.2) 57 = false := by simpa using o2
      refine ⟨false, W.2, fun _ => 0, hWl, ?_, ?_⟩
      · intro i l hT h2
        refine ⟨adF i (32 + 3 * M) 0 (-1) (-1), ?_, adF_fr i _ 0 _ _, fun q => absurd q (by decide)⟩
        have b94 := b94_E (n := n) (z := z) (L := L) (l := l) hT hM (show 0 < 5 by omega) h2 hWl (-1)
        rw [if_pos rfl] at b94
        rw [cst i l hT, if_pos o1, if_neg o2, show xFu = 999 + 1 from rfl, f_X7_readDays_l23_s, if_neg (by decide), if_pos rfl, b94]
        rfl
      · intro i l td hT
        have e0 : nmR (tpF2 T b) 3 W.2 0 = (W.2, 0) := by
          show (if dgB (tpF2 T b W.2) 57 = true then _ else _) = _
          rw [if_neg o2]
        refine ⟨_, true, nI 0, ?_, rfl, frM i (nI 0), fun q => absurd q (by decide)⟩
        rw [mst i l td hT, if_pos o1, o2', e0, show xFu = 999 + 1 from rfl]
        exact l30_w hM (by omega) (nI 0)
  · refine ⟨false, W.2, fun _ => 0, hWl, ?_, ?_⟩
    · intro i l hT h2
      exact ⟨i, by rw [cst i l hT, if_neg o1]; rfl, Fr_rfl, fun q => absurd q (by decide)⟩
    · intro i l td hT
      refine ⟨_, true, 0, ?_, rfl, frM i 0, fun q => absurd q (by decide)⟩
      rw [mst i l td hT, if_neg o1, show xFu = 999 + 1 from rfl]
      exact l30_w hM (by omega) 0
end START
