section OPS8
variable {C R n z L : Nat} {i : fI} {l : fL}
/-! a new stand -/
def z2 {α : Type} [OfNat α 0] (f : Nat → Nat → α) (p : Nat) : Nat → Nat → α := fun q j => if q = p then 0 else f q j
theorem Fr_z2 {α : Type} [OfNat α 0] {S : Nat → Nat → Prop} {i : Nat → Nat → α} {p : Nat} (hp : ∀ k, ¬ S p k) : Fr S i (z2 i p) := by
  intro q j hq
  exact if_neg (fun e : q = p => hp j (by rw [← e]; exact hq))
/-- a stand was made, and stands not in the array yet -/
def mkT (n z L : Nat) (i : fI) (l : fL) : xSt := mkL i l (xRB n) (xTB ++ List.replicate (n + 1) 6) (xNB z) L (n + 88)
theorem nA_E (h9 : n ≤ 9) : nA (mkS n z L i l) 6 0 = mkT n z L (z2 i (n + 88)) (z2 l (n + 88)) := by
  have hz : wZ (mkS n z L i l) + 1 = n + 88 := by rw [mZ]
  have ht : xTB.length = 88 := rfl
  have hr : (xRB n).length = 88 := rfl
  have hn : (xNB z).length = 88 := rfl
  unfold nA
  rw [hz]
  refine congr (congrArg Prod.mk ?_) (congr (congrArg Prod.mk ?_) (congr (congrArg Prod.mk ?_) (congr (congrArg Prod.mk ?_) (congr (congrArg Prod.mk ?_) ?_))))
  · rfl
  · rfl
  · funext q j
    by_cases e : q = n + 88
    · rw [if_pos e, e]
      show 0 = ((xRB n).getD (n + 88) []).getD j 0
      have : (xRB n).getD (n + 88) [] = [] := by rw [List.getD_eq_getElem?_getD, List.getElem?_eq_none (by omega)]; rfl
      rw [this]
      rfl
    · rw [if_neg e]
      rfl
  · funext q
    show (if q = n + 88 then 6 else (xTB ++ List.replicate n 6).getD q 0) = (xTB ++ List.replicate (n + 1) 6).getD q 0
    by_cases e : q = n + 88
    · rw [if_pos e, e, List.getD_eq_getElem?_getD, List.getElem?_append_right (by omega), List.getElem?_replicate, if_pos (by omega)]
      rfl
    · rw [if_neg e, List.getD_eq_getElem?_getD, List.getD_eq_getElem?_getD]
      by_cases e2 : q < 88
      · rw [List.getElem?_append_left (by omega), List.getElem?_append_left (by omega)]
      · rw [List.getElem?_append_right (by omega), List.getElem?_append_right (by omega), List.getElem?_replicate, List.getElem?_replicate]
        by_cases e3 : q - xTB.length < n
        · rw [if_pos e3, if_pos (by omega)]
        · rw [if_neg e3, if_neg (by omega)]
  · funext q
    show (if q = n + 88 then 0 else if q = 1020 then L else (xNB z).getD q 0) = if q = 1020 then L else (xNB z).getD q 0
    by_cases e : q = n + 88
    · rw [if_pos e, if_neg (by omega), e, List.getD_eq_getElem?_getD, List.getElem?_eq_none (by omega)]
      rfl
    · rw [if_neg e]
  · rfl
theorem tI (p k : Nat) : wI (mkT n z L i l) p k = i p k := of_eq_true (eq_self _)
theorem tsI (p k : Nat) (v : Int32) : sI (mkT n z L i l) p k v = mkT n z L (u2 i p k v) l := of_eq_true (eq_self _)
theorem tZ : wZ (mkT n z L i l) = n + 88 := of_eq_true (eq_self _)
theorem tC {α : Type} {d : Decidable (isC (mkT n z L i l) (n + 88) 6)} (e : Option α) : @gd α (isC (mkT n z L i l) (n + 88) 6) d e = e := by
  refine if_pos ⟨by omega, by rw [tZ]; omega, ?_⟩
  show (xTB ++ List.replicate (n + 1) 6).getD (n + 88) 0 = 6
  rw [List.getD_eq_getElem?_getD, List.getElem?_append_right (by show 88 ≤ n + 88; omega), List.getElem?_replicate, if_pos (by show n + 88 - 88 < n + 1; omega)]
  rfl
theorem tC5 {α : Type} {d : Decidable (isC (mkT n z L i l) 5 5)} (e : Option α) : @gd α (isC (mkT n z L i l) 5 5) d e = e := if_pos ⟨by decide, by rw [tZ]; omega, rfl⟩
theorem tC6 {α : Type} {d : Decidable (isC (mkT n z L i l) 6 24)} (e : Option α) : @gd α (isC (mkT n z L i l) 6 24) d e = e := if_pos ⟨by decide, by rw [tZ]; omega, rfl⟩
theorem tR5_1 : wR (mkT n z L i l) 5 1 = 6 := of_eq_true (eq_self _)
theorem tN6 : wN (mkT n z L i l) 6 = 9 := of_eq_true (eq_self _)
theorem sR_E : sR (mkT n z L i l) 6 n (n + 88) = mkS (n + 1) z L i l := by
  unfold sR mkT mkS mkL
  refine congr (congrArg Prod.mk rfl) (congr (congrArg Prod.mk rfl) (congr (congrArg Prod.mk ?_) ?_))
  · funext q j
    show (if q = 6 ∧ j = n then n + 88 else ((xRB n).getD q []).getD j 0) = ((xRB (n + 1)).getD q []).getD j 0
    by_cases e : q = 6
    · subst e
      show (if 6 = 6 ∧ j = n then n + 88 else ((List.range n).map (fun s => 88 + s)).getD j 0) = ((List.range (n + 1)).map (fun s => 88 + s)).getD j 0
      rw [List.getD_eq_getElem?_getD, List.getD_eq_getElem?_getD, List.getElem?_map, List.getElem?_map]
      by_cases e2 : j = n
      · subst e2
        rw [if_pos ⟨rfl, rfl⟩, List.getElem?_range (by omega)]
        show j + 88 = 88 + j
        omega
      · rw [if_neg (by omega)]
        by_cases e3 : j < n
        · rw [List.getElem?_range e3, List.getElem?_range (by omega)]
        · rw [List.getElem?_eq_none (by simp; omega), List.getElem?_eq_none (by simp; omega)]
    · rw [if_neg (fun z => e z.1)]
      match q, e with
      | 0, _ => rfl
      | 1, _ => rfl
      | 2, _ => rfl
      | 3, _ => rfl
      | 4, _ => rfl
      | 5, _ => rfl
      | 6, h => exact absurd rfl h
      | q + 7, _ => rfl
  · rw [show n + 1 + 87 = n + 88 by omega]
def stI (i : fI) (n : Nat) (a b c d e f : Int32) : fI := u2 (u2 (u2 (u2 (u2 (u2 (u2 (u2 (u2 (z2 i (n + 88)) (n + 88) 0 a) (n + 88) 1 b) (n + 88) 2 c) (n + 88) 3 d) (n + 88) 4 e) (n + 88) 5 f) (n + 88) 6 (-1)) (n + 88) 9 (-1)) 5 2 (nI (n + 1))
def stJ (i : fI) (n : Nat) (a b c d e f : Int32) : fI := u2 (u2 (u2 (u2 (u2 (u2 (u2 (u2 (u2 i 60 n a) 61 n b) 62 n c) 63 n d) 64 n e) 65 n f) 66 n (-1)) 67 n (-1)) 57 5 (nI (n + 1))
theorem stI_lo {a b c d e f : Int32} {p k : Nat} (hp : p < 88) (h5 : ¬ (p = 5 ∧ k = 2)) : stI i n a b c d e f p k = i p k := by
  unfold stI
  rw [u2_n _ _ h5, u2_p _ _ (by omega), u2_p _ _ (by omega), u2_p _ _ (by omega), u2_p _ _ (by omega), u2_p _ _ (by omega), u2_p _ _ (by omega), u2_p _ _ (by omega), u2_p _ _ (by omega)]
  exact if_neg (by omega)
theorem op_stand (h : Rel C R n z i l) (a b c d e f : Int32) : OpOK C R n z L (f_X10_stand 1 a b c d e f) (f_X11_stand 57 a b c d e f) i l := by
  obtain ⟨hD, hE, hK, hB, hG, hN, hF, hV, hA, hX, hT, hU, hJ, hM, hL, hO, hY, hP⟩ := id h
  have h9 := hN.1
  by_cases c1 : 0 ≤ a ∧ a ≤ 4
  · by_cases c2 : 0 ≤ b ∧ b ≤ 7
    · by_cases c3 : 0 ≤ c ∧ c ≤ 9
      · by_cases c4 : 1 ≤ d ∧ d ≤ 4
        · by_cases c5 : 1 ≤ e ∧ e ≤ 4
          · by_cases c6 : 0 ≤ f ∧ f ≤ 99
            · by_cases c7 : n = 9
              · refine ⟨-4, mkS n z L i l, n, i, l, ?_, ?_, ⟨_, _, rfl, by repeat first | exact Fr_rfl | refine Fr_u2 ?_ (by unfold sQ; omega)⟩, h⟩
                · simp only [f_X10_stand, within_E, isLand_E, isClass_E, bdS, if_b, if_pos c1, if_pos c2, if_pos c3, if_pos c4, if_pos c5, if_pos c6, mI, mL, mZ, msI, msL, mN1020, gC1, mR1_0, mR1_1, mR1_2, mR1_3, mR1_4, mR1_5, mR1_6, mR1_7, mR1_8, gC2, mR2_6, mR2_7, gC3, mN3, gC4, mN4, gC5, mR5_0, mR5_1, gC6, mN6, gC7, mR7_0, mR7_1, gC8, mR8_0, gC9, mN9, gC10, mR10_0, gC11, mN11, mR11_0, mR11_1, mR11_2, mR11_3, mR11_4, mR11_5, gC12, mR12_0, mR12_1, gC13, mN13, gC14, mN14, gC15, mR15_0, mR15_1, gC16, mN16, gC17, mN17, gC18, mR18_0, mR18_1, gC19, mN19, gC20, mN20, gC21, mR21_0, mR21_1, gC22, mN22, gC23, mN23, gC24, mR24_0, mR24_1, gC25, mN25, gC26, mN26, gC27, mR27_0, mR27_1, gC28, mN28, gC29, mN29, gC30, mR30_0, gC31, mN31, mR31_0, mR31_1, mR31_2, mR31_3, mR31_4, mR31_5, gC32, mR32_0, mR32_1, gC33, mN33, gC34, mN34, gC35, mR35_0, mR35_1, gC36, mN36, gC37, mN37, gC38, mR38_0, mR38_1, gC39, mN39, gC40, mN40, gC41, mR41_0, mR41_1, gC42, mN42, gC43, mN43, gC44, mR44_0, mR44_1, gC45, mN45, gC46, mN46, gC47, mR47_0, mR47_1, gC48, mN48, gC49, mN49, gC50, mR50_0, mR50_1, mR50_2, mR50_3, gC51, mN51, gC52, mN52, gC53, mN53, gC54, mN54, gC55, gC56, gC57, mR57_2, mR57_3, mR57_6, mR57_7, mR57_8, mR57_9, mR57_10, mR57_11, mR57_12, mR57_13, mR57_14, mR57_15, mR57_16, mR57_18, mR57_19, mR57_20, mR57_21, mR57_22, mR57_23, mR57_25, mR57_26, mR57_27, mR57_28, mR57_37, mR57_40, mR57_41, mR57_43, mR57_44, mR57_48, mR57_49, gC58, mN58, gC59, mN59, gC60, mN60, gC61, mN61, gC62, mN62, gC63, mN63, gC64, mN64, gC65, mN65, gC66, mN66, gC67, mN67, gC68, mN68, gC69, mN69, gC70, mN70, gC71, mN71, gC72, mN72, gC73, mN73, gC74, mN74, gC75, mN75, gC76, mN76, gC77, mN77, gC78, mN78, gC79, mN79, gC80, mN80, gC81, mN81, gC82, mN82, gC83, mN83, gC84, mN84, gC85, mN85, gC86, mN86, gC87, mN87, hN.2.1]
                  rw [if_neg (by rw [c7]; decide)]
                · simp only [f_X11_stand, in_E, bdS, if_b, if_pos c1, if_pos c2, if_pos c3, if_pos c4, if_pos c5, if_pos c6, mI, mL, mZ, msI, msL, mN1020, gC1, mR1_0, mR1_1, mR1_2, mR1_3, mR1_4, mR1_5, mR1_6, mR1_7, mR1_8, gC2, mR2_6, mR2_7, gC3, mN3, gC4, mN4, gC5, mR5_0, mR5_1, gC6, mN6, gC7, mR7_0, mR7_1, gC8, mR8_0, gC9, mN9, gC10, mR10_0, gC11, mN11, mR11_0, mR11_1, mR11_2, mR11_3, mR11_4, mR11_5, gC12, mR12_0, mR12_1, gC13, mN13, gC14, mN14, gC15, mR15_0, mR15_1, gC16, mN16, gC17, mN17, gC18, mR18_0, mR18_1, gC19, mN19, gC20, mN20, gC21, mR21_0, mR21_1, gC22, mN22, gC23, mN23, gC24, mR24_0, mR24_1, gC25, mN25, gC26, mN26, gC27, mR27_0, mR27_1, gC28, mN28, gC29, mN29, gC30, mR30_0, gC31, mN31, mR31_0, mR31_1, mR31_2, mR31_3, mR31_4, mR31_5, gC32, mR32_0, mR32_1, gC33, mN33, gC34, mN34, gC35, mR35_0, mR35_1, gC36, mN36, gC37, mN37, gC38, mR38_0, mR38_1, gC39, mN39, gC40, mN40, gC41, mR41_0, mR41_1, gC42, mN42, gC43, mN43, gC44, mR44_0, mR44_1, gC45, mN45, gC46, mN46, gC47, mR47_0, mR47_1, gC48, mN48, gC49, mN49, gC50, mR50_0, mR50_1, mR50_2, mR50_3, gC51, mN51, gC52, mN52, gC53, mN53, gC54, mN54, gC55, gC56, gC57, mR57_2, mR57_3, mR57_6, mR57_7, mR57_8, mR57_9, mR57_10, mR57_11, mR57_12, mR57_13, mR57_14, mR57_15, mR57_16, mR57_18, mR57_19, mR57_20, mR57_21, mR57_22, mR57_23, mR57_25, mR57_26, mR57_27, mR57_28, mR57_37, mR57_40, mR57_41, mR57_43, mR57_44, mR57_48, mR57_49, gC58, mN58, gC59, mN59, gC60, mN60, gC61, mN61, gC62, mN62, gC63, mN63, gC64, mN64, gC65, mN65, gC66, mN66, gC67, mN67, gC68, mN68, gC69, mN69, gC70, mN70, gC71, mN71, gC72, mN72, gC73, mN73, gC74, mN74, gC75, mN75, gC76, mN76, gC77, mN77, gC78, mN78, gC79, mN79, gC80, mN80, gC81, mN81, gC82, mN82, gC83, mN83, gC84, mN84, gC85, mN85, gC86, mN86, gC87, mN87, hN.2.2]
                  rw [if_pos (by rw [c7]; decide)]
              · have lo : ∀ p k, p < 88 → ¬ (p = 5 ∧ k = 2) → stI i n a b c d e f p k = i p k := fun p k => stI_lo
                refine ⟨nI n, mkS (n + 1) z L (stI i n a b c d e f) (z2 l (n + 88)), n + 1, stJ (stI i n a b c d e f) n a b c d e f, z2 l (n + 88), ?_, ?_, ⟨_, _, rfl, ?_⟩, ?_⟩
                · simp only [f_X10_stand, within_E, isLand_E, isClass_E, bdS, if_b, if_pos c1, if_pos c2, if_pos c3, if_pos c4, if_pos c5, if_pos c6, mI, mL, mZ, msI, msL, mN1020, gC1, mR1_0, mR1_1, mR1_2, mR1_3, mR1_4, mR1_5, mR1_6, mR1_7, mR1_8, gC2, mR2_6, mR2_7, gC3, mN3, gC4, mN4, gC5, mR5_0, mR5_1, gC6, mN6, gC7, mR7_0, mR7_1, gC8, mR8_0, gC9, mN9, gC10, mR10_0, gC11, mN11, mR11_0, mR11_1, mR11_2, mR11_3, mR11_4, mR11_5, gC12, mR12_0, mR12_1, gC13, mN13, gC14, mN14, gC15, mR15_0, mR15_1, gC16, mN16, gC17, mN17, gC18, mR18_0, mR18_1, gC19, mN19, gC20, mN20, gC21, mR21_0, mR21_1, gC22, mN22, gC23, mN23, gC24, mR24_0, mR24_1, gC25, mN25, gC26, mN26, gC27, mR27_0, mR27_1, gC28, mN28, gC29, mN29, gC30, mR30_0, gC31, mN31, mR31_0, mR31_1, mR31_2, mR31_3, mR31_4, mR31_5, gC32, mR32_0, mR32_1, gC33, mN33, gC34, mN34, gC35, mR35_0, mR35_1, gC36, mN36, gC37, mN37, gC38, mR38_0, mR38_1, gC39, mN39, gC40, mN40, gC41, mR41_0, mR41_1, gC42, mN42, gC43, mN43, gC44, mR44_0, mR44_1, gC45, mN45, gC46, mN46, gC47, mR47_0, mR47_1, gC48, mN48, gC49, mN49, gC50, mR50_0, mR50_1, mR50_2, mR50_3, gC51, mN51, gC52, mN52, gC53, mN53, gC54, mN54, gC55, gC56, gC57, mR57_2, mR57_3, mR57_6, mR57_7, mR57_8, mR57_9, mR57_10, mR57_11, mR57_12, mR57_13, mR57_14, mR57_15, mR57_16, mR57_18, mR57_19, mR57_20, mR57_21, mR57_22, mR57_23, mR57_25, mR57_26, mR57_27, mR57_28, mR57_37, mR57_40, mR57_41, mR57_43, mR57_44, mR57_48, mR57_49, gC58, mN58, gC59, mN59, gC60, mN60, gC61, mN61, gC62, mN62, gC63, mN63, gC64, mN64, gC65, mN65, gC66, mN66, gC67, mN67, gC68, mN68, gC69, mN69, gC70, mN70, gC71, mN71, gC72, mN72, gC73, mN73, gC74, mN74, gC75, mN75, gC76, mN76, gC77, mN77, gC78, mN78, gC79, mN79, gC80, mN80, gC81, mN81, gC82, mN82, gC83, mN83, gC84, mN84, gC85, mN85, gC86, mN86, gC87, mN87, hN.2.1]
                  rw [if_pos (by rw [show (9 : Int32) = nI 9 from rfl, nI_ltI (by omega) (by omega)]; omega), gd_t (by omega), lt1E, lt1E, nA_E h9]
                  have v : ∀ x, u2 (u2 (u2 (u2 (u2 (u2 (u2 (u2 (z2 i (n + 88)) (n + 88) 0 a) (n + 88) 1 b) (n + 88) 2 c) (n + 88) 3 d) (n + 88) 4 e) (n + 88) 5 f) (n + 88) 6 (-1)) (n + 88) 9 x 5 2 = nI n := by
                    intro x
                    rw [u2_p _ _ (by omega), u2_p _ _ (by omega), u2_p _ _ (by omega), u2_p _ _ (by omega), u2_p _ _ (by omega), u2_p _ _ (by omega), u2_p _ _ (by omega), u2_p _ _ (by omega)]
                    rw [← hN.2.1]
                    exact if_neg (by omega)
                  simp only [f_X6_init, f_X5_add, Nat.reduceAdd, show n + 87 + 1 = n + 88 from rfl, tC, tC5, tC6, tR5_1, tN6, tI, tsI, lt1E, bdS, v, nI_clamp (show n < 2 ^ 31 by omega), sR_E, mI, msI, nI_1]
                  rw [gI (by omega) (by omega), u2_s, nI_pred, bdS]
                  rfl
                · have r5 : stI i n a b c d e f 57 5 = nI n := by rw [lo 57 5 (by omega) (by omega)]; exact hN.2.2
                  have k1 : ∀ x, u2 (stI i n a b c d e f) 60 n x 57 5 = nI n := fun x => by rw [u2_p _ _ (by omega), r5]
                  simp only [f_X11_stand, in_E, bdS, if_b, if_pos c1, if_pos c2, if_pos c3, if_pos c4, if_pos c5, if_pos c6, mI, mL, mZ, msI, msL, mN1020, gC1, mR1_0, mR1_1, mR1_2, mR1_3, mR1_4, mR1_5, mR1_6, mR1_7, mR1_8, gC2, mR2_6, mR2_7, gC3, mN3, gC4, mN4, gC5, mR5_0, mR5_1, gC6, mN6, gC7, mR7_0, mR7_1, gC8, mR8_0, gC9, mN9, gC10, mR10_0, gC11, mN11, mR11_0, mR11_1, mR11_2, mR11_3, mR11_4, mR11_5, gC12, mR12_0, mR12_1, gC13, mN13, gC14, mN14, gC15, mR15_0, mR15_1, gC16, mN16, gC17, mN17, gC18, mR18_0, mR18_1, gC19, mN19, gC20, mN20, gC21, mR21_0, mR21_1, gC22, mN22, gC23, mN23, gC24, mR24_0, mR24_1, gC25, mN25, gC26, mN26, gC27, mR27_0, mR27_1, gC28, mN28, gC29, mN29, gC30, mR30_0, gC31, mN31, mR31_0, mR31_1, mR31_2, mR31_3, mR31_4, mR31_5, gC32, mR32_0, mR32_1, gC33, mN33, gC34, mN34, gC35, mR35_0, mR35_1, gC36, mN36, gC37, mN37, gC38, mR38_0, mR38_1, gC39, mN39, gC40, mN40, gC41, mR41_0, mR41_1, gC42, mN42, gC43, mN43, gC44, mR44_0, mR44_1, gC45, mN45, gC46, mN46, gC47, mR47_0, mR47_1, gC48, mN48, gC49, mN49, gC50, mR50_0, mR50_1, mR50_2, mR50_3, gC51, mN51, gC52, mN52, gC53, mN53, gC54, mN54, gC55, gC56, gC57, mR57_2, mR57_3, mR57_6, mR57_7, mR57_8, mR57_9, mR57_10, mR57_11, mR57_12, mR57_13, mR57_14, mR57_15, mR57_16, mR57_18, mR57_19, mR57_20, mR57_21, mR57_22, mR57_23, mR57_25, mR57_26, mR57_27, mR57_28, mR57_37, mR57_40, mR57_41, mR57_43, mR57_44, mR57_48, mR57_49, gC58, mN58, gC59, mN59, gC60, mN60, gC61, mN61, gC62, mN62, gC63, mN63, gC64, mN64, gC65, mN65, gC66, mN66, gC67, mN67, gC68, mN68, gC69, mN69, gC70, mN70, gC71, mN71, gC72, mN72, gC73, mN73, gC74, mN74, gC75, mN75, gC76, mN76, gC77, mN77, gC78, mN78, gC79, mN79, gC80, mN80, gC81, mN81, gC82, mN82, gC83, mN83, gC84, mN84, gC85, mN85, gC86, mN86, gC87, mN87, r5, lt1E, u2e, Nat.reduceEqDiff, false_and, if_false, nI_clamp (show n < 2 ^ 31 by omega)]
                  rw [if_neg (by rw [show (9 : Int32) = nI 9 from rfl, nI_eq (by omega) (by omega)]; exact c7)]
                  simp only [gI (show n < 9 by omega) (show 9 < 2 ^ 31 by omega), and_self, if_true, nI_1, nI_pred]
                  rfl
                · intro p k hp
                  unfold sQ at hp
                  subst hp
                  unfold stI
                  rw [u2_p _ _ (by omega), u2_p _ _ (by omega), u2_p _ _ (by omega), u2_p _ _ (by omega), u2_p _ _ (by omega), u2_p _ _ (by omega), u2_p _ _ (by omega), u2_p _ _ (by omega), u2_p _ _ (by omega)]
                  exact if_neg (by omega)
                · have jo : ∀ p k, p ≠ 57 → (p < 60 ∨ 67 < p) → stJ (stI i n a b c d e f) n a b c d e f p k = stI i n a b c d e f p k := by
                    intro p k h1 h2
                    unfold stJ
                    rw [u2_p _ _ (by omega), u2_p _ _ (by omega), u2_p _ _ (by omega), u2_p _ _ (by omega), u2_p _ _ (by omega), u2_p _ _ (by omega), u2_p _ _ (by omega), u2_p _ _ (by omega), u2_p _ _ (by omega)]
                  have jk : ∀ p k, k ≠ n → p ≠ 57 → stJ (stI i n a b c d e f) n a b c d e f p k = stI i n a b c d e f p k := by
                    intro p k h1 h2
                    unfold stJ
                    rw [u2_p _ _ (by omega), u2_k _ _ h1, u2_k _ _ h1, u2_k _ _ h1, u2_k _ _ h1, u2_k _ _ h1, u2_k _ _ h1, u2_k _ _ h1, u2_k _ _ h1]
                  have j57 : ∀ k, k ≠ 5 → stJ (stI i n a b c d e f) n a b c d e f 57 k = stI i n a b c d e f 57 k := by
                    intro k h1
                    unfold stJ
                    rw [u2_k _ _ h1, u2_p _ _ (by omega), u2_p _ _ (by omega), u2_p _ _ (by omega), u2_p _ _ (by omega), u2_p _ _ (by omega), u2_p _ _ (by omega), u2_p _ _ (by omega), u2_p _ _ (by omega)]
                  have fr : ∀ S : Nat → Nat → Prop, (∀ p k, S p k → p < 88 ∧ ¬ (p = 5 ∧ k = 2) ∧ ¬ (p = 57 ∧ k = 5) ∧ (p < 60 ∨ 67 < p)) → Fr S i (stJ (stI i n a b c d e f) n a b c d e f) := fun S hS p k hp => by
                    obtain ⟨x1, x2, x3, x4⟩ := hS p k hp
                    by_cases q : p = 57
                    · subst q
                      rw [j57 k (by omega), lo _ _ x1 x2]
                    · rw [jo p k q x4, lo _ _ x1 x2]
                  have old : ∀ s p, s < n → 60 ≤ p → p ≤ 69 → stJ (stI i n a b c d e f) n a b c d e f p s = i p s := fun s p hs h1 h2 => by
                    rw [jk p s (by omega) (by omega), lo _ _ (by omega) (by omega)]
                  have olds : ∀ s k, s < n → stJ (stI i n a b c d e f) n a b c d e f (88 + s) k = i (88 + s) k := fun s k hs => by
                    rw [jo _ _ (by omega) (by omega)]
                    unfold stI
                    rw [u2_p _ _ (by omega), u2_p _ _ (by omega), u2_p _ _ (by omega), u2_p _ _ (by omega), u2_p _ _ (by omega), u2_p _ _ (by omega), u2_p _ _ (by omega), u2_p _ _ (by omega), u2_p _ _ (by omega)]
                    exact if_neg (by omega)
                  have x := hX n (Nat.le_refl _) (by omega)
                  have n68 : stJ (stI i n a b c d e f) n a b c d e f 68 n = 0 := by rw [jo _ _ (by omega) (by omega), lo _ _ (by omega) (by omega)]; exact x.1
                  have n69 : stJ (stI i n a b c d e f) n a b c d e f 69 n = 0 := by rw [jo _ _ (by omega) (by omega), lo _ _ (by omega) (by omega)]; exact x.2.1
                  have n60 : stJ (stI i n a b c d e f) n a b c d e f 60 n = a := by simp [stJ, u2]
                  have n61 : stJ (stI i n a b c d e f) n a b c d e f 61 n = b := by simp [stJ, u2]
                  have n62 : stJ (stI i n a b c d e f) n a b c d e f 62 n = c := by simp [stJ, u2]
                  have n63 : stJ (stI i n a b c d e f) n a b c d e f 63 n = d := by simp [stJ, u2]
                  have n64 : stJ (stI i n a b c d e f) n a b c d e f 64 n = e := by simp [stJ, u2]
                  have n65 : stJ (stI i n a b c d e f) n a b c d e f 65 n = f := by simp [stJ, u2]
                  have n66 : stJ (stI i n a b c d e f) n a b c d e f 66 n = -1 := by simp [stJ, u2]
                  have n67 : stJ (stI i n a b c d e f) n a b c d e f 67 n = -1 := by simp [stJ, u2]
                  have s5 : ¬ (n + 88 = 5) := by omega
                  have nw : ∀ k, stJ (stI i n a b c d e f) n a b c d e f (88 + n) k = stI i n a b c d e f (n + 88) k := fun k => by rw [jo _ _ (by omega) (by omega), Nat.add_comm]
                  refine ⟨hD.fr (fr _ (fun p k q => by unfold sD at q; omega)), hE.fr (Fr_z2 (fun k q => by unfold sE at q; omega)), hK.fr (fr _ (fun p k q => by unfold sK at q; omega)) (Fr_z2 (fun k q => by unfold sKl at q; omega)), hB.fr (fr _ (fun p k q => by unfold sB at q; omega)), hG.fr (fr _ (fun p k q => by unfold sG at q; omega)), ⟨by omega, ?_, ?_⟩, ?_, ?_, ?_, ?_, hT.fr (fr _ (fun p k q => by unfold sT at q; omega)), hU.fr (fr _ (fun p k q => by unfold sU at q; omega)), hJ.fr (fr _ (fun p k q => by unfold sJ at q; omega)), hM.fr (fr _ (fun p k q => by unfold sM at q; omega)), hL.fr (fr _ (fun p k q => by unfold sLo at q; omega)), hO.fr (fr _ (fun p k q => by unfold sO at q; omega)), hY.fr (fr _ (fun p k q => by unfold sY at q; omega)), ?_⟩
                  · rw [jo _ _ (by omega) (by omega)]
                    exact u2_s _ _ _ _
                  · exact u2_s _ _ _ _
                  · intro s hs
                    by_cases q : s = n
                    · subst q
                      rw [nw, nw, nw, nw, nw, nw, nw, nw, nw, nw, n60, n61, n62, n63, n64, n65, n66, n67, n68, n69]
                      refine ⟨?_, ?_, ?_, ?_, ?_, ?_, ?_, ?_, ?_, ?_⟩ <;> simp [stI, u2, z2, s5]
                    · have g := hF s (by omega)
                      rw [olds s _ (by omega), olds s _ (by omega), olds s _ (by omega), olds s _ (by omega), olds s _ (by omega), olds s _ (by omega), olds s _ (by omega), olds s _ (by omega), olds s _ (by omega), olds s _ (by omega), old s 60 (by omega) (by omega) (by omega), old s 61 (by omega) (by omega) (by omega), old s 62 (by omega) (by omega) (by omega), old s 63 (by omega) (by omega) (by omega), old s 64 (by omega) (by omega) (by omega), old s 65 (by omega) (by omega) (by omega), old s 66 (by omega) (by omega) (by omega), old s 67 (by omega) (by omega) (by omega), old s 68 (by omega) (by omega) (by omega), old s 69 (by omega) (by omega) (by omega)]
                      exact g
                  · intro s hs
                    by_cases q : s = n
                    · subst q
                      rw [n60, n63, n64, n66, n68, n69]
                      obtain ⟨k1, k2, k3⟩ := nI_rng (N := 4) (by decide) c1
                      obtain ⟨w1, w2, w3⟩ := nI_rng (N := 4) (by decide) ⟨Int32.le_trans (by decide) c4.1, c4.2⟩
                      obtain ⟨p1, p2, p3⟩ := nI_rng (N := 4) (by decide) ⟨Int32.le_trans (by decide) c5.1, c5.2⟩
                      have w0 := c4.1
                      have p0 := c5.1
                      rw [w3, show (1 : Int32) = nI 1 from rfl, nI_leI (by omega) (by omega)] at w0
                      rw [p3, show (1 : Int32) = nI 1 from rfl, nI_leI (by omega) (by omega)] at p0
                      exact ⟨⟨k1, k2, k3⟩, Or.inl rfl, Or.inl rfl, w1, p1, ⟨w0, w2, w3⟩, ⟨p0, p2, p3⟩, Or.inl rfl⟩
                    · have g := hV s (by omega)
                      rw [old s 60 (by omega) (by omega) (by omega), old s 63 (by omega) (by omega) (by omega), old s 64 (by omega) (by omega) (by omega), old s 66 (by omega) (by omega) (by omega), old s 68 (by omega) (by omega) (by omega), old s 69 (by omega) (by omega) (by omega)]
                      exact g
                  · intro s hs
                    by_cases q : s = n
                    · subst q
                      refine ⟨fun _ => if_pos (by omega), fun wd dp a' _ _ h3 _ _ h6 => ?_⟩
                      rw [n66] at h6
                      have := zlt hD
                      exact absurd h6.symm (nI_m1 (by omega))
                    · have g := hA s (by omega)
                      have : z2 l (n + 88) (88 + s) 7 = l (88 + s) 7 := if_neg (by omega)
                      rw [old s 63 (by omega) (by omega) (by omega), old s 64 (by omega) (by omega) (by omega), old s 66 (by omega) (by omega) (by omega), this]
                      exact g
                  · intro s h1 h2
                    have g := hX s (by omega) h2
                    have jx : ∀ p k, (p = 68 ∨ p = 69 ∨ p = 79) → stJ (stI i n a b c d e f) n a b c d e f p k = i p k := fun p k hp => by rw [jo _ _ (by omega) (by omega), lo _ _ (by omega) (by omega)]
                    rw [jx _ _ (Or.inl rfl), jx _ _ (Or.inr (Or.inl rfl))]
                    exact ⟨g.1, g.2.1, fun q hq => by rw [jx _ _ (Or.inr (Or.inr rfl))]; exact g.2.2 q hq⟩
                  · have zl : ∀ s, s < n → z2 l (n + 88) (88 + s) 7 = l (88 + s) 7 := fun s hs => if_neg (by omega)
                    have zn : z2 l (n + 88) (88 + n) 7 = 0 := if_pos (by omega)
                    intro s hs c2 hc2
                    by_cases q : s = n
                    · subst q
                      rw [zn, b6_0] at hc2
                      exact absurd hc2 (by decide)
                    · rw [zl s (by omega)] at hc2
                      obtain ⟨x1, x2⟩ := hP s (by omega) c2 hc2
                      refine ⟨by rw [show z2 l (n + 88) 3 0 = l 3 0 from if_neg (by omega)]; exact x1, fun t ht e2 => ?_⟩
                      by_cases q2 : t = n
                      · subst q2
                        rw [zn, b6_0]
                      · rw [zl t (by omega)]
                        exact x2 t (by omega) e2
            · refine ⟨-2, mkS n z L i l, n, i, l, ?_, ?_, ⟨_, _, rfl, by repeat first | exact Fr_rfl | refine Fr_u2 ?_ (by unfold sQ; omega)⟩, h⟩
              · simp only [f_X10_stand, within_E, isLand_E, isClass_E, bdS, if_b, if_pos c1, if_pos c2, if_pos c3, if_pos c4, if_pos c5, if_neg c6]
              · simp only [f_X11_stand, in_E, bdS, if_b, if_pos c1, if_pos c2, if_pos c3, if_pos c4, if_pos c5, if_neg c6]
          · refine ⟨-2, mkS n z L i l, n, i, l, ?_, ?_, ⟨_, _, rfl, by repeat first | exact Fr_rfl | refine Fr_u2 ?_ (by unfold sQ; omega)⟩, h⟩
            · simp only [f_X10_stand, within_E, isLand_E, isClass_E, bdS, if_b, if_pos c1, if_pos c2, if_pos c3, if_pos c4, if_neg c5]
            · simp only [f_X11_stand, in_E, bdS, if_b, if_pos c1, if_pos c2, if_pos c3, if_pos c4, if_neg c5]
        · refine ⟨-2, mkS n z L i l, n, i, l, ?_, ?_, ⟨_, _, rfl, by repeat first | exact Fr_rfl | refine Fr_u2 ?_ (by unfold sQ; omega)⟩, h⟩
          · simp only [f_X10_stand, within_E, isLand_E, isClass_E, bdS, if_b, if_pos c1, if_pos c2, if_pos c3, if_neg c4]
          · simp only [f_X11_stand, in_E, bdS, if_b, if_pos c1, if_pos c2, if_pos c3, if_neg c4]
      · refine ⟨-2, mkS n z L i l, n, i, l, ?_, ?_, ⟨_, _, rfl, by repeat first | exact Fr_rfl | refine Fr_u2 ?_ (by unfold sQ; omega)⟩, h⟩
        · simp only [f_X10_stand, within_E, isLand_E, isClass_E, bdS, if_b, if_pos c1, if_pos c2, if_neg c3]
        · simp only [f_X11_stand, in_E, bdS, if_b, if_pos c1, if_pos c2, if_neg c3]
    · refine ⟨-2, mkS n z L i l, n, i, l, ?_, ?_, ⟨_, _, rfl, by repeat first | exact Fr_rfl | refine Fr_u2 ?_ (by unfold sQ; omega)⟩, h⟩
      · simp only [f_X10_stand, within_E, isLand_E, bdS, if_b, if_pos c1, if_neg c2]
      · simp only [f_X11_stand, in_E, bdS, if_b, if_pos c1, if_neg c2]
  · refine ⟨-2, mkS n z L i l, n, i, l, ?_, ?_, ⟨_, _, rfl, by repeat first | exact Fr_rfl | refine Fr_u2 ?_ (by unfold sQ; omega)⟩, h⟩
    · simp only [f_X10_stand, within_E, bdS, if_b, if_neg c1]
    · simp only [f_X11_stand, in_E, bdS, if_b, if_neg c1]
end OPS8
