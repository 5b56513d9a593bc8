section GOODS
variable {C R n z L : Nat} {i : fI} {l : fL}
/-! sets of stands as ints -/
theorem fa_and (a b : Nat) : nI a &&& nI b = nI (a &&& b) := by
  apply Int32.toBitVec_inj.1
  show BitVec.ofNat 32 a &&& BitVec.ofNat 32 b = BitVec.ofNat 32 (a &&& b)
  apply BitVec.eq_of_getLsbD_eq
  intro i hi
  simp [hi]
theorem fa_or (a b : Nat) : nI a ||| nI b = nI (a ||| b) := by
  apply Int32.toBitVec_inj.1
  show BitVec.ofNat 32 a ||| BitVec.ofNat 32 b = BitVec.ofNat 32 (a ||| b)
  apply BitVec.eq_of_getLsbD_eq
  intro i hi
  simp [hi]
theorem or0 (x : Int32) : x ||| (0 : Int32) = x := by simp
theorem sh1_E {s : Nat} (hs : s < 9) : (1 : Int32) <<< (nI s &&& 31) = nI (2 ^ s) := by
  have : ∀ s : Fin 9, (1 : Int32) <<< (nI s.1 &&& 31) = nI (2 ^ s.1) := by decide +kernel
  exact this ⟨s, hs⟩
theorem shr_b {m s : Nat} (hm : m < 512) (hs : s < 9) : (nI m >>> (nI s &&& 31)) &&& (1 : Int32) = bI (m.testBit s) := by
  have : ∀ m : Fin 512, ∀ s : Fin 9, (nI m.1 >>> (nI s.1 &&& 31)) &&& (1 : Int32) = bI (m.1.testBit s.1) := by decide +kernel
  exact this ⟨m, hm⟩ ⟨s, hs⟩
theorem and_b {m s : Nat} (hm : m < 512) (hs : s < 9) : (nI m &&& ((1 : Int32) <<< (nI s &&& 31))) = 0 ↔ m.testBit s = false := by
  have : ∀ m : Fin 512, ∀ s : Fin 9, ((nI m.1 &&& ((1 : Int32) <<< (nI s.1 &&& 31))) = 0 ↔ m.1.testBit s.1 = false) := by decide +kernel
  exact this ⟨m, hm⟩ ⟨s, hs⟩
theorem bI_e1 (b : Bool) : (bI b = 1) = (b = true) := by cases b <;> simp [bI]
theorem bI_e0 (b : Bool) : (bI b = 0) = (b = false) := by cases b <;> simp [bI]
theorem holds_E {m s : Nat} (hm : m < 512) (hs : s < 9) (w : xSt) : f_X2_holds (nI m) (nI s) w = some (bI (m.testBit s), w) := by
  unfold f_X2_holds
  by_cases e : m.testBit s = false
  · rw [if_pos ((and_b hm hs).mpr e), e]; rfl
  · rw [if_neg (fun q => e ((and_b hm hs).mp q)), show m.testBit s = true by simpa using e]; rfl
def setN (p : Nat → Bool) : Nat → Nat
  | 0 => 0
  | k + 1 => if p k = true then setN p k ||| 2 ^ k else setN p k
theorem setN_s (p : Nat → Bool) (k : Nat) : setN p (k + 1) = if p k = true then setN p k ||| 2 ^ k else setN p k := rfl
theorem setN_b (p : Nat → Bool) (s : Nat) : ∀ k, (setN p k).testBit s = (decide (s < k) && p s)
  | 0 => by simp [setN]
  | k + 1 => by
    rw [setN_s]
    by_cases e : p k = true
    · rw [if_pos e, fb_bit_set, setN_b p s k]
      by_cases q : s = k
      · subst q; simp [e]
      · by_cases r : s < k
        · simp [r, q, show s < k + 1 by omega]
        · simp [r, q, show ¬ s < k + 1 by omega]
    · rw [if_neg e, setN_b p s k]
      by_cases q : s = k
      · subst q; simp [e]
      · by_cases r : s < k
        · simp [r, show s < k + 1 by omega]
        · simp [r, show ¬ s < k + 1 by omega]
theorem setN_lt (p : Nat → Bool) : ∀ k, setN p k < 2 ^ k
  | 0 => by simp [setN]
  | k + 1 => by
    have h := setN_lt p k
    have h2 : setN p k < 2 ^ (k + 1) := by rw [Nat.pow_succ]; omega
    rw [setN_s]
    by_cases e : p k = true
    · rw [if_pos e]
      exact Nat.or_lt_two_pow h2 (Nat.pow_lt_pow_right (by decide) (by omega))
    · rw [if_neg e]; exact h2
theorem setN_512 (p : Nat → Bool) {k : Nat} (h : k ≤ 9) : setN p k < 512 := Nat.lt_of_lt_of_le (setN_lt p k) (Nat.pow_le_pow_right (by decide) h)
theorem bit_ext {a b : Nat} (h : ∀ s, a.testBit s = b.testBit s) : a = b := Nat.eq_of_testBit_eq h
theorem setN_cong {p q : Nat → Bool} {k : Nat} (h : ∀ s, s < k → p s = q s) : setN p k = setN q k := bit_ext (fun s => by
  rw [setN_b, setN_b]
  by_cases e : s < k
  · rw [h s e]
  · simp [e])
/-! the search of the reference for goods -/
def RS (C R n z : Nat) (i : fI) (l : fL) : Prop := RelD C R z i ∧ RelK z i l ∧ RelN n i ∧ RelV C R z n i ∧ RelA C z n i l ∧ RelP n l
theorem Rel.rs (h : Rel C R n z i l) : RS C R n z i l := by
  obtain ⟨hD, hE, hK, hB, hG, hN, hF, hV, hA, hX, hT, hU, hJ, hM, hL, hO, hY, hP⟩ := id h
  exact ⟨hD, hK, hN, hV, hA, hP⟩
/-- what that search leaves -/
def sW (p k : Nat) : Prop := ¬ (p = 82 ∨ p = 83 ∨ (p = 57 ∧ k = 42))
theorem sW_Z {i i2 : fI} (f : Fr sW i i2) : Fr sZ i i2 := Fr_sub f (fun p k q => by unfold sZ at q; unfold sW; omega)
theorem RS_fr {i2 : fI} (h : RS C R n z i l) (f : Fr sW i i2) : RS C R n z i2 l := by
  obtain ⟨hD, hK, hN, hV, hA, hP⟩ := h
  exact ⟨hD.fr (Fr_sub f (fun p k q => by unfold sD at q; unfold sW; omega)), hK.fr (Fr_sub f (fun p k q => by unfold sK at q; unfold sW; omega)) Fr_rfl, hN.fr (Fr_sub f (fun p k q => by unfold sN at q; unfold sW; omega)), hV.fr (Fr_sub f (fun p k q => by unfold sVv at q; unfold sW; omega)), hA.fr (Fr_sub f (fun p k q => by unfold sVv at q; unfold sW; omega)) Fr_rfl, hP⟩
def FF (g : bS) (i : fI) : Prop := (∀ c, c < 64 → i 82 c = bI (g.1 c)) ∧ (∀ a, a < g.2.2.2 → i 83 a = nI (g.2.2.1 a)) ∧ i 57 42 = nI g.2.2.2
def PrB (C n : Nat) (i : fI) (m : Nat) (c : Nat) : Bool := (!decide (i 58 c = 2) && !decide (i 58 c = 3)) && (decide (sOn C n i c = -1) || !(m.testBit (sOn C n i c).toNatClampNeg))
theorem PrB_fr {i2 : fI} (f : Fr sW i i2) (m c : Nat) : PrB C n i2 m c = PrB C n i m c := by
  unfold PrB
  rw [sOn_fr (sW_Z f), f 58 c (by unfold sW; omega)]
theorem reaches_E (h : RS C R n z i l) {P : Nat → Bool} {m : Nat} (hm : m < 512) (hp : ∀ c, c < z → P c = PrB C n i m c) {g : bS} {d c : Nat} (hg : FF g i) (hc : c < z) (hQ : (pv P d c g).2.2.2 ≤ 64) : ∃ i2, f_X11_reaches 57 (nI c) (nI m) (mkS n z L i l) = some ((), mkS n z L i2 l) ∧ FF (pv P d c g) i2 ∧ Fr sW i i2 := by
  obtain ⟨hD, hK, hN, hV, hA, hP⟩ := id h
  have hz := zlt hD
  have h9 := hN.1
  have hc6 : c < 64 := by omega
  unfold pv at hQ ⊢
  by_cases e : g.1 c = true ∨ P c = false
  · rw [if_pos e]
    refine ⟨i, ?_, hg, Fr_rfl⟩
    by_cases e1 : g.1 c = true
    · have v : i 82 c = 1 := by rw [hg.1 c hc6, e1]; rfl
      simp only [f_X11_reaches, mI, mL, mZ, msI, msL, mN1020, gC1, mR1_0, mR1_1, mR1_2, mR1_3, mR1_4, mR1_5, mR1_6, mR1_7, mR1_8, gC2, mR2_6, mR2_7, gC3, mN3, gC4, mN4, gC5, mR5_0, mR5_1, gC6, mN6, gC7, mR7_0, mR7_1, gC8, mR8_0, gC9, mN9, gC10, mR10_0, gC11, mN11, mR11_0, mR11_1, mR11_2, mR11_3, mR11_4, mR11_5, gC12, mR12_0, mR12_1, gC13, mN13, gC14, mN14, gC15, mR15_0, mR15_1, gC16, mN16, gC17, mN17, gC18, mR18_0, mR18_1, gC19, mN19, gC20, mN20, gC21, mR21_0, mR21_1, gC22, mN22, gC23, mN23, gC24, mR24_0, mR24_1, gC25, mN25, gC26, mN26, gC27, mR27_0, mR27_1, gC28, mN28, gC29, mN29, gC30, mR30_0, gC31, mN31, mR31_0, mR31_1, mR31_2, mR31_3, mR31_4, mR31_5, gC32, mR32_0, mR32_1, gC33, mN33, gC34, mN34, gC35, mR35_0, mR35_1, gC36, mN36, gC37, mN37, gC38, mR38_0, mR38_1, gC39, mN39, gC40, mN40, gC41, mR41_0, mR41_1, gC42, mN42, gC43, mN43, gC44, mR44_0, mR44_1, gC45, mN45, gC46, mN46, gC47, mR47_0, mR47_1, gC48, mN48, gC49, mN49, gC50, mR50_0, mR50_1, mR50_2, mR50_3, gC51, mN51, gC52, mN52, gC53, mN53, gC54, mN54, gC55, gC56, gC57, mR57_2, mR57_3, mR57_6, mR57_7, mR57_8, mR57_9, mR57_10, mR57_11, mR57_12, mR57_13, mR57_14, mR57_15, mR57_16, mR57_18, mR57_19, mR57_20, mR57_21, mR57_22, mR57_23, mR57_25, mR57_26, mR57_27, mR57_28, mR57_37, mR57_40, mR57_41, mR57_43, mR57_44, mR57_48, mR57_49, gC58, mN58, gC59, mN59, gC60, mN60, gC61, mN61, gC62, mN62, gC63, mN63, gC64, mN64, gC65, mN65, gC66, mN66, gC67, mN67, gC68, mN68, gC69, mN69, gC70, mN70, gC71, mN71, gC72, mN72, gC73, mN73, gC74, mN74, gC75, mN75, gC76, mN76, gC77, mN77, gC78, mN78, gC79, mN79, gC80, mN80, gC81, mN81, gC82, mN82, gC83, mN83, gC84, mN84, gC85, mN85, gC86, mN86, gC87, mN87, standOnM_E hD hN hV hc, bdS, nI_clamp (show c < 2 ^ 31 by omega), gI (show c < 64 by omega) (show 64 < 2 ^ 31 by omega), v]
      rw [if_neg (by decide)]
    · have v : i 82 c = 0 := by rw [hg.1 c hc6, show g.1 c = false by simpa using e1]; rfl
      have hq : PrB C n i m c = false := by rw [← hp c hc]; exact e.resolve_left e1
      unfold PrB at hq
      simp only [f_X11_reaches, mI, mL, mZ, msI, msL, mN1020, gC1, mR1_0, mR1_1, mR1_2, mR1_3, mR1_4, mR1_5, mR1_6, mR1_7, mR1_8, gC2, mR2_6, mR2_7, gC3, mN3, gC4, mN4, gC5, mR5_0, mR5_1, gC6, mN6, gC7, mR7_0, mR7_1, gC8, mR8_0, gC9, mN9, gC10, mR10_0, gC11, mN11, mR11_0, mR11_1, mR11_2, mR11_3, mR11_4, mR11_5, gC12, mR12_0, mR12_1, gC13, mN13, gC14, mN14, gC15, mR15_0, mR15_1, gC16, mN16, gC17, mN17, gC18, mR18_0, mR18_1, gC19, mN19, gC20, mN20, gC21, mR21_0, mR21_1, gC22, mN22, gC23, mN23, gC24, mR24_0, mR24_1, gC25, mN25, gC26, mN26, gC27, mR27_0, mR27_1, gC28, mN28, gC29, mN29, gC30, mR30_0, gC31, mN31, mR31_0, mR31_1, mR31_2, mR31_3, mR31_4, mR31_5, gC32, mR32_0, mR32_1, gC33, mN33, gC34, mN34, gC35, mR35_0, mR35_1, gC36, mN36, gC37, mN37, gC38, mR38_0, mR38_1, gC39, mN39, gC40, mN40, gC41, mR41_0, mR41_1, gC42, mN42, gC43, mN43, gC44, mR44_0, mR44_1, gC45, mN45, gC46, mN46, gC47, mR47_0, mR47_1, gC48, mN48, gC49, mN49, gC50, mR50_0, mR50_1, mR50_2, mR50_3, gC51, mN51, gC52, mN52, gC53, mN53, gC54, mN54, gC55, gC56, gC57, mR57_2, mR57_3, mR57_6, mR57_7, mR57_8, mR57_9, mR57_10, mR57_11, mR57_12, mR57_13, mR57_14, mR57_15, mR57_16, mR57_18, mR57_19, mR57_20, mR57_21, mR57_22, mR57_23, mR57_25, mR57_26, mR57_27, mR57_28, mR57_37, mR57_40, mR57_41, mR57_43, mR57_44, mR57_48, mR57_49, gC58, mN58, gC59, mN59, gC60, mN60, gC61, mN61, gC62, mN62, gC63, mN63, gC64, mN64, gC65, mN65, gC66, mN66, gC67, mN67, gC68, mN68, gC69, mN69, gC70, mN70, gC71, mN71, gC72, mN72, gC73, mN73, gC74, mN74, gC75, mN75, gC76, mN76, gC77, mN77, gC78, mN78, gC79, mN79, gC80, mN80, gC81, mN81, gC82, mN82, gC83, mN83, gC84, mN84, gC85, mN85, gC86, mN86, gC87, mN87, nI_clamp (show c < 2 ^ 31 by omega), gI (show c < 64 by omega) (show 64 < 2 ^ 31 by omega), v, standOnM_E hD hN hV hc, bdS, eq_self, if_true]
      by_cases t2 : i 58 c = 2
      · rw [if_pos t2]
      · rw [if_neg t2]
        by_cases t3 : i 58 c = 3
        · rw [if_pos t3]
        · rw [if_neg t3]
          rcases sOn_or (C := C) (n := n) (i := i) c with ⟨a, -⟩ | ⟨s, a, -, b⟩
          · exfalso
            simp [t2, t3, a] at hq
          · rw [b] at hq ⊢
            rw [nI_clamp (by omega)] at hq
            have hb : m.testBit s = true := by
              cases q : m.testBit s with
              | true => rfl
              | false => simp [t2, t3, q] at hq
            rw [if_neg (nI_m1 (by omega)), shr_b hm (by omega), hb, if_pos (show bI true = 1 from rfl)]
  · rw [if_neg e] at hQ ⊢
    have e1 : ¬ g.1 c = true := fun r => e (Or.inl r)
    have e2 : PrB C n i m c = true := by
      rw [← hp c hc]
      cases q : P c with
      | true => rfl
      | false => exact absurd (Or.inr q) e
    unfold PrB at e2
    simp only [Bool.and_eq_true, Bool.or_eq_true, Bool.not_eq_true', decide_eq_false_iff_not, decide_eq_true_eq] at e2
    obtain ⟨⟨t2, t3⟩, t4⟩ := e2
    have v : i 82 c = 0 := by rw [hg.1 c hc6, show g.1 c = false by simpa using e1]; rfl
    have hQ2 : g.2.2.2 < 64 := hQ
    have e42 : u2 i 82 c 1 57 42 = nI g.2.2.2 := by rw [u2_p _ _ (by decide)]; exact hg.2.2
    have e43 : u2 (u2 i 82 c 1) 83 g.2.2.2 (nI c) 57 42 = nI g.2.2.2 := by rw [u2_p _ _ (by decide)]; exact e42
    have go : f_X11_reaches_b50 57 (nI c) (mkS n z L i l) = some ((), mkS n z L (u2 (u2 (u2 i 82 c 1) 83 g.2.2.2 (nI c)) 57 42 (nI (g.2.2.2 + 1))) l) := by
      simp only [f_X11_reaches_b50, mI, mL, mZ, msI, msL, mN1020, gC1, mR1_0, mR1_1, mR1_2, mR1_3, mR1_4, mR1_5, mR1_6, mR1_7, mR1_8, gC2, mR2_6, mR2_7, gC3, mN3, gC4, mN4, gC5, mR5_0, mR5_1, gC6, mN6, gC7, mR7_0, mR7_1, gC8, mR8_0, gC9, mN9, gC10, mR10_0, gC11, mN11, mR11_0, mR11_1, mR11_2, mR11_3, mR11_4, mR11_5, gC12, mR12_0, mR12_1, gC13, mN13, gC14, mN14, gC15, mR15_0, mR15_1, gC16, mN16, gC17, mN17, gC18, mR18_0, mR18_1, gC19, mN19, gC20, mN20, gC21, mR21_0, mR21_1, gC22, mN22, gC23, mN23, gC24, mR24_0, mR24_1, gC25, mN25, gC26, mN26, gC27, mR27_0, mR27_1, gC28, mN28, gC29, mN29, gC30, mR30_0, gC31, mN31, mR31_0, mR31_1, mR31_2, mR31_3, mR31_4, mR31_5, gC32, mR32_0, mR32_1, gC33, mN33, gC34, mN34, gC35, mR35_0, mR35_1, gC36, mN36, gC37, mN37, gC38, mR38_0, mR38_1, gC39, mN39, gC40, mN40, gC41, mR41_0, mR41_1, gC42, mN42, gC43, mN43, gC44, mR44_0, mR44_1, gC45, mN45, gC46, mN46, gC47, mR47_0, mR47_1, gC48, mN48, gC49, mN49, gC50, mR50_0, mR50_1, mR50_2, mR50_3, gC51, mN51, gC52, mN52, gC53, mN53, gC54, mN54, gC55, gC56, gC57, mR57_2, mR57_3, mR57_6, mR57_7, mR57_8, mR57_9, mR57_10, mR57_11, mR57_12, mR57_13, mR57_14, mR57_15, mR57_16, mR57_18, mR57_19, mR57_20, mR57_21, mR57_22, mR57_23, mR57_25, mR57_26, mR57_27, mR57_28, mR57_37, mR57_40, mR57_41, mR57_43, mR57_44, mR57_48, mR57_49, gC58, mN58, gC59, mN59, gC60, mN60, gC61, mN61, gC62, mN62, gC63, mN63, gC64, mN64, gC65, mN65, gC66, mN66, gC67, mN67, gC68, mN68, gC69, mN69, gC70, mN70, gC71, mN71, gC72, mN72, gC73, mN73, gC74, mN74, gC75, mN75, gC76, mN76, gC77, mN77, gC78, mN78, gC79, mN79, gC80, mN80, gC81, mN81, gC82, mN82, gC83, mN83, gC84, mN84, gC85, mN85, gC86, mN86, gC87, mN87, nar1, nI_clamp (show c < 2 ^ 31 by omega), gI (show c < 64 by omega) (show 64 < 2 ^ 31 by omega), lt1E, e42, e43, nI_clamp (show g.2.2.2 < 2 ^ 31 by omega), gI hQ2 (show 64 < 2 ^ 31 by omega), nI_1]
    refine ⟨u2 (u2 (u2 i 82 c 1) 83 g.2.2.2 (nI c)) 57 42 (nI (g.2.2.2 + 1)), ?_, ⟨fun x hx => ?_, fun a ha => ?_, u2_s _ _ _ _⟩, ?_⟩
    · simp only [f_X11_reaches, mI, mL, mZ, msI, msL, mN1020, gC1, mR1_0, mR1_1, mR1_2, mR1_3, mR1_4, mR1_5, mR1_6, mR1_7, mR1_8, gC2, mR2_6, mR2_7, gC3, mN3, gC4, mN4, gC5, mR5_0, mR5_1, gC6, mN6, gC7, mR7_0, mR7_1, gC8, mR8_0, gC9, mN9, gC10, mR10_0, gC11, mN11, mR11_0, mR11_1, mR11_2, mR11_3, mR11_4, mR11_5, gC12, mR12_0, mR12_1, gC13, mN13, gC14, mN14, gC15, mR15_0, mR15_1, gC16, mN16, gC17, mN17, gC18, mR18_0, mR18_1, gC19, mN19, gC20, mN20, gC21, mR21_0, mR21_1, gC22, mN22, gC23, mN23, gC24, mR24_0, mR24_1, gC25, mN25, gC26, mN26, gC27, mR27_0, mR27_1, gC28, mN28, gC29, mN29, gC30, mR30_0, gC31, mN31, mR31_0, mR31_1, mR31_2, mR31_3, mR31_4, mR31_5, gC32, mR32_0, mR32_1, gC33, mN33, gC34, mN34, gC35, mR35_0, mR35_1, gC36, mN36, gC37, mN37, gC38, mR38_0, mR38_1, gC39, mN39, gC40, mN40, gC41, mR41_0, mR41_1, gC42, mN42, gC43, mN43, gC44, mR44_0, mR44_1, gC45, mN45, gC46, mN46, gC47, mR47_0, mR47_1, gC48, mN48, gC49, mN49, gC50, mR50_0, mR50_1, mR50_2, mR50_3, gC51, mN51, gC52, mN52, gC53, mN53, gC54, mN54, gC55, gC56, gC57, mR57_2, mR57_3, mR57_6, mR57_7, mR57_8, mR57_9, mR57_10, mR57_11, mR57_12, mR57_13, mR57_14, mR57_15, mR57_16, mR57_18, mR57_19, mR57_20, mR57_21, mR57_22, mR57_23, mR57_25, mR57_26, mR57_27, mR57_28, mR57_37, mR57_40, mR57_41, mR57_43, mR57_44, mR57_48, mR57_49, gC58, mN58, gC59, mN59, gC60, mN60, gC61, mN61, gC62, mN62, gC63, mN63, gC64, mN64, gC65, mN65, gC66, mN66, gC67, mN67, gC68, mN68, gC69, mN69, gC70, mN70, gC71, mN71, gC72, mN72, gC73, mN73, gC74, mN74, gC75, mN75, gC76, mN76, gC77, mN77, gC78, mN78, gC79, mN79, gC80, mN80, gC81, mN81, gC82, mN82, gC83, mN83, gC84, mN84, gC85, mN85, gC86, mN86, gC87, mN87, nI_clamp (show c < 2 ^ 31 by omega), gI (show c < 64 by omega) (show 64 < 2 ^ 31 by omega), v, standOnM_E hD hN hV hc, bdS, eq_self, if_true, if_neg t2, if_neg t3]
      rcases sOn_or (C := C) (n := n) (i := i) c with ⟨a, -⟩ | ⟨s, a, -, b⟩
      · rw [if_pos a, go]
      · rw [b] at t4 ⊢
        rw [nI_clamp (by omega)] at t4
        have t5 := t4.resolve_left (nI_m1 (by omega))
        rw [if_neg (nI_m1 (by omega)), shr_b hm (by omega), t5, if_neg (by decide), go]
    · rw [u2_p _ _ (by decide), u2_p _ _ (by decide)]
      show u2 i 82 c 1 82 x = bI (upF g.1 c true x)
      by_cases ex : x = c
      · subst ex; rw [u2_s, upF_s]; rfl
      · rw [u2_k _ _ ex, upF_n _ _ ex]; exact hg.1 x hx
    · have ha2 : a < g.2.2.2 + 1 := ha
      rw [u2_p _ _ (by decide)]
      show u2 (u2 i 82 c 1) 83 g.2.2.2 (nI c) 83 a = nI (upF g.2.2.1 g.2.2.2 c a)
      by_cases ex : a = g.2.2.2
      · subst ex; rw [u2_s, upF_s]
      · rw [u2_k _ _ ex, upF_n _ _ ex, u2_p _ _ (by decide)]; exact hg.2.1 a (by omega)
    · exact Fr_u2 (Fr_u2 (Fr_u2 Fr_rfl (by unfold sW; omega)) (by unfold sW; omega)) (by unfold sW; omega)
theorem rv_E (h : RS C R n z i l) {S P : Nat → Bool} {M : Nat} (hM : M < 512) (hp : ∀ c, c < z → P c = PrB C n i M c) {g : bS} {k d b c : Nat} {q : Bool} (hg : FF g i) (hq : q = true → c < z ∧ nbB C b c = true) (h1 : QI C z S P k d (pvI q P d c g)) : ∃ i2, (q = true → f_X11_reaches 57 (nI c) (nI M) (mkS n z L i l) = some ((), mkS n z L i2 l)) ∧ (q = false → i2 = i) ∧ FF (pvI q P d c g) i2 ∧ Fr sW i i2 := by
  have hz := zlt h.1
  have hl := h1.le
  unfold pvI at hl ⊢
  cases q with
  | true =>
    rw [if_pos rfl] at hl ⊢
    obtain ⟨i2, a1, a2, a3⟩ := reaches_E (L := L) h hM hp hg (hq rfl).1 (by omega) (d := d)
    exact ⟨i2, fun _ => a1, fun r => absurd r (by decide), a2, a3⟩
  | false =>
    rw [if_neg (by decide)]
    exact ⟨i, fun r => absurd r (by decide), fun _ => rfl, hg, Fr_rfl⟩
theorem flood_step (h : RS C R n z i l) {S P : Nat → Bool} {M : Nat} (hM : M < 512) (hp : ∀ c, c < z → P c = PrB C n i M c) {g : bS} {k d b e : Nat} (hg : FF g i) (hq : QI C z S P k d g) (hk : k < g.2.2.2) (hb : g.2.2.1 k = b) (he : g.2.1 b + 1 = e) (hd : d ≤ e) (m : Nat) : ∃ i2, f_X11_floods_l65 (m + 1) 57 (nI M) (nI k) (mkS n z L i l) = f_X11_floods_l65 m 57 (nI M) (nI (k + 1)) (mkS n z L i2 l) ∧ FF (stp C R P e b g) i2 ∧ Fr sW i i2 := by
  have hz := zlt h.1
  have hbz : b < z := by rw [← hb]; exact (hq.qa k hk).1
  have hQz := hq.le
  obtain ⟨q1, q2, q3, q4⟩ := stp_mid h.1 hq hk hb he hd
  obtain ⟨n1, n2, n3, n4⟩ := nb4 h.1 hbz
  obtain ⟨⟨h1, h2, h3, h4, h5⟩, -⟩ := id h.1
  have c1 := CR1 (C := C) (show 1 ≤ R by omega)
  have m1 : b % C < C := Nat.mod_lt _ (by omega)
  have m2 := Nat.mod_le b C
  have hC : ¬ nI C = 0 := nI_ne0 (by omega) (by omega)
  unfold stp at q4 ⊢
  obtain ⟨i1, a1, a2, a3, a4⟩ := rv_E (L := L) h hM hp hg n1 q1
  have r1 := RS_fr h a4
  generalize pvI (decide (0 < b % C)) P e (b - 1) g = g1 at q1 q2 q3 q4 a3 ⊢
  obtain ⟨i2, b1, b2, b3, b4⟩ := rv_E (L := L) r1 hM (fun c hc => by rw [PrB_fr a4]; exact hp c hc) a3 n2 q2
  have f2 := Fr_trans a4 b4
  have r2 := RS_fr h f2
  generalize pvI (decide (b % C < C - 1)) P e (b + 1) g1 = g2 at q2 q3 q4 b3 ⊢
  obtain ⟨i3, c1, c2, c3, c4⟩ := rv_E (L := L) r2 hM (fun c hc => by rw [PrB_fr f2]; exact hp c hc) b3 n3 q3
  have f3 := Fr_trans f2 c4
  have r3 := RS_fr h f3
  generalize pvI (decide (C ≤ b)) P e (b - C) g2 = g3 at q3 q4 c3 ⊢
  obtain ⟨i4, d1, d2, d3, d4⟩ := rv_E (L := L) r3 hM (fun c hc => by rw [PrB_fr f3]; exact hp c hc) c3 n4 q4
  refine ⟨i4, ?_, d3, Fr_trans f3 d4⟩
  have E4 : f_X11_floods_b139 (f_X11_floods_l65 m) 57 (nI M) (nI k) (nI b) (mkS n z L i3 l) = f_X11_floods_l65 m 57 (nI M) (nI (k + 1)) (mkS n z L i4 l) := by
    simp only [f_X11_floods_b139, mI, mL, mZ, msI, msL, mN1020, gC1, mR1_0, mR1_1, mR1_2, mR1_3, mR1_4, mR1_5, mR1_6, mR1_7, mR1_8, gC2, mR2_6, mR2_7, gC3, mN3, gC4, mN4, gC5, mR5_0, mR5_1, gC6, mN6, gC7, mR7_0, mR7_1, gC8, mR8_0, gC9, mN9, gC10, mR10_0, gC11, mN11, mR11_0, mR11_1, mR11_2, mR11_3, mR11_4, mR11_5, gC12, mR12_0, mR12_1, gC13, mN13, gC14, mN14, gC15, mR15_0, mR15_1, gC16, mN16, gC17, mN17, gC18, mR18_0, mR18_1, gC19, mN19, gC20, mN20, gC21, mR21_0, mR21_1, gC22, mN22, gC23, mN23, gC24, mR24_0, mR24_1, gC25, mN25, gC26, mN26, gC27, mR27_0, mR27_1, gC28, mN28, gC29, mN29, gC30, mR30_0, gC31, mN31, mR31_0, mR31_1, mR31_2, mR31_3, mR31_4, mR31_5, gC32, mR32_0, mR32_1, gC33, mN33, gC34, mN34, gC35, mR35_0, mR35_1, gC36, mN36, gC37, mN37, gC38, mR38_0, mR38_1, gC39, mN39, gC40, mN40, gC41, mR41_0, mR41_1, gC42, mN42, gC43, mN43, gC44, mR44_0, mR44_1, gC45, mN45, gC46, mN46, gC47, mR47_0, mR47_1, gC48, mN48, gC49, mN49, gC50, mR50_0, mR50_1, mR50_2, mR50_3, gC51, mN51, gC52, mN52, gC53, mN53, gC54, mN54, gC55, gC56, gC57, mR57_2, mR57_3, mR57_6, mR57_7, mR57_8, mR57_9, mR57_10, mR57_11, mR57_12, mR57_13, mR57_14, mR57_15, mR57_16, mR57_18, mR57_19, mR57_20, mR57_21, mR57_22, mR57_23, mR57_25, mR57_26, mR57_27, mR57_28, mR57_37, mR57_40, mR57_41, mR57_43, mR57_44, mR57_48, mR57_49, gC58, mN58, gC59, mN59, gC60, mN60, gC61, mN61, gC62, mN62, gC63, mN63, gC64, mN64, gC65, mN65, gC66, mN66, gC67, mN67, gC68, mN68, gC69, mN69, gC70, mN70, gC71, mN71, gC72, mN72, gC73, mN73, gC74, mN74, gC75, mN75, gC76, mN76, gC77, mN77, gC78, mN78, gC79, mN79, gC80, mN80, gC81, mN81, gC82, mN82, gC83, mN83, gC84, mN84, gC85, mN85, gC86, mN86, gC87, mN87, r3.1.2.2.2.2.1, r3.1.2.2.2.2.2, nI_s1 (show 0 < R by omega), pk_mul, nI_add, nI_1]
    by_cases t : b < C * (R - 1)
    · rw [if_neg (by rw [nI_leI (by omega) (by omega)]; omega), d1 (decide_eq_true t), bdS]
    · rw [if_pos (by rw [nI_leI (by omega) (by omega)]; omega), d2 (decide_eq_false t)]
  have E3 : f_X11_floods_b120 (f_X11_floods_l65 m) 57 (nI M) (nI k) (nI b) (mkS n z L i2 l) = f_X11_floods_l65 m 57 (nI M) (nI (k + 1)) (mkS n z L i4 l) := by
    simp only [f_X11_floods_b120, mI, mL, mZ, msI, msL, mN1020, gC1, mR1_0, mR1_1, mR1_2, mR1_3, mR1_4, mR1_5, mR1_6, mR1_7, mR1_8, gC2, mR2_6, mR2_7, gC3, mN3, gC4, mN4, gC5, mR5_0, mR5_1, gC6, mN6, gC7, mR7_0, mR7_1, gC8, mR8_0, gC9, mN9, gC10, mR10_0, gC11, mN11, mR11_0, mR11_1, mR11_2, mR11_3, mR11_4, mR11_5, gC12, mR12_0, mR12_1, gC13, mN13, gC14, mN14, gC15, mR15_0, mR15_1, gC16, mN16, gC17, mN17, gC18, mR18_0, mR18_1, gC19, mN19, gC20, mN20, gC21, mR21_0, mR21_1, gC22, mN22, gC23, mN23, gC24, mR24_0, mR24_1, gC25, mN25, gC26, mN26, gC27, mR27_0, mR27_1, gC28, mN28, gC29, mN29, gC30, mR30_0, gC31, mN31, mR31_0, mR31_1, mR31_2, mR31_3, mR31_4, mR31_5, gC32, mR32_0, mR32_1, gC33, mN33, gC34, mN34, gC35, mR35_0, mR35_1, gC36, mN36, gC37, mN37, gC38, mR38_0, mR38_1, gC39, mN39, gC40, mN40, gC41, mR41_0, mR41_1, gC42, mN42, gC43, mN43, gC44, mR44_0, mR44_1, gC45, mN45, gC46, mN46, gC47, mR47_0, mR47_1, gC48, mN48, gC49, mN49, gC50, mR50_0, mR50_1, mR50_2, mR50_3, gC51, mN51, gC52, mN52, gC53, mN53, gC54, mN54, gC55, gC56, gC57, mR57_2, mR57_3, mR57_6, mR57_7, mR57_8, mR57_9, mR57_10, mR57_11, mR57_12, mR57_13, mR57_14, mR57_15, mR57_16, mR57_18, mR57_19, mR57_20, mR57_21, mR57_22, mR57_23, mR57_25, mR57_26, mR57_27, mR57_28, mR57_37, mR57_40, mR57_41, mR57_43, mR57_44, mR57_48, mR57_49, gC58, mN58, gC59, mN59, gC60, mN60, gC61, mN61, gC62, mN62, gC63, mN63, gC64, mN64, gC65, mN65, gC66, mN66, gC67, mN67, gC68, mN68, gC69, mN69, gC70, mN70, gC71, mN71, gC72, mN72, gC73, mN73, gC74, mN74, gC75, mN75, gC76, mN76, gC77, mN77, gC78, mN78, gC79, mN79, gC80, mN80, gC81, mN81, gC82, mN82, gC83, mN83, gC84, mN84, gC85, mN85, gC86, mN86, gC87, mN87, r2.1.2.2.2.2.1]
    by_cases t : C ≤ b
    · rw [if_neg (by rw [nI_ltI (by omega) (by omega)]; omega), pk_sub t, c1 (decide_eq_true t), bdS, E4]
    · rw [if_pos (by rw [nI_ltI (by omega) (by omega)]; omega), ← c2 (decide_eq_false t), E4]
  have E2 : f_X11_floods_b97 (f_X11_floods_l65 m) 57 (nI M) (nI k) (nI b) (mkS n z L i1 l) = f_X11_floods_l65 m 57 (nI M) (nI (k + 1)) (mkS n z L i4 l) := by
    simp only [f_X11_floods_b97, mI, mL, mZ, msI, msL, mN1020, gC1, mR1_0, mR1_1, mR1_2, mR1_3, mR1_4, mR1_5, mR1_6, mR1_7, mR1_8, gC2, mR2_6, mR2_7, gC3, mN3, gC4, mN4, gC5, mR5_0, mR5_1, gC6, mN6, gC7, mR7_0, mR7_1, gC8, mR8_0, gC9, mN9, gC10, mR10_0, gC11, mN11, mR11_0, mR11_1, mR11_2, mR11_3, mR11_4, mR11_5, gC12, mR12_0, mR12_1, gC13, mN13, gC14, mN14, gC15, mR15_0, mR15_1, gC16, mN16, gC17, mN17, gC18, mR18_0, mR18_1, gC19, mN19, gC20, mN20, gC21, mR21_0, mR21_1, gC22, mN22, gC23, mN23, gC24, mR24_0, mR24_1, gC25, mN25, gC26, mN26, gC27, mR27_0, mR27_1, gC28, mN28, gC29, mN29, gC30, mR30_0, gC31, mN31, mR31_0, mR31_1, mR31_2, mR31_3, mR31_4, mR31_5, gC32, mR32_0, mR32_1, gC33, mN33, gC34, mN34, gC35, mR35_0, mR35_1, gC36, mN36, gC37, mN37, gC38, mR38_0, mR38_1, gC39, mN39, gC40, mN40, gC41, mR41_0, mR41_1, gC42, mN42, gC43, mN43, gC44, mR44_0, mR44_1, gC45, mN45, gC46, mN46, gC47, mR47_0, mR47_1, gC48, mN48, gC49, mN49, gC50, mR50_0, mR50_1, mR50_2, mR50_3, gC51, mN51, gC52, mN52, gC53, mN53, gC54, mN54, gC55, gC56, gC57, mR57_2, mR57_3, mR57_6, mR57_7, mR57_8, mR57_9, mR57_10, mR57_11, mR57_12, mR57_13, mR57_14, mR57_15, mR57_16, mR57_18, mR57_19, mR57_20, mR57_21, mR57_22, mR57_23, mR57_25, mR57_26, mR57_27, mR57_28, mR57_37, mR57_40, mR57_41, mR57_43, mR57_44, mR57_48, mR57_49, gC58, mN58, gC59, mN59, gC60, mN60, gC61, mN61, gC62, mN62, gC63, mN63, gC64, mN64, gC65, mN65, gC66, mN66, gC67, mN67, gC68, mN68, gC69, mN69, gC70, mN70, gC71, mN71, gC72, mN72, gC73, mN73, gC74, mN74, gC75, mN75, gC76, mN76, gC77, mN77, gC78, mN78, gC79, mN79, gC80, mN80, gC81, mN81, gC82, mN82, gC83, mN83, gC84, mN84, gC85, mN85, gC86, mN86, gC87, mN87, r1.1.2.2.2.2.1, gd_t hC, nI_s1 (show 0 < C by omega), pk_rem (show b < 2 ^ 31 by omega) (show 0 < C by omega) (show C < 2 ^ 31 by omega), nI_1]
    by_cases t : b % C < C - 1
    · rw [if_neg (by rw [nI_leI (by omega) (by omega)]; omega), b1 (decide_eq_true t), bdS, E3]
    · rw [if_pos (by rw [nI_leI (by omega) (by omega)]; omega), ← b2 (decide_eq_false t), E3]
  have v1 : i 83 k = nI b := by rw [hg.2.1 k hk, hb]
  rw [f_X11_floods_l65_s]
  simp only [mI, mL, mZ, msI, msL, mN1020, gC1, mR1_0, mR1_1, mR1_2, mR1_3, mR1_4, mR1_5, mR1_6, mR1_7, mR1_8, gC2, mR2_6, mR2_7, gC3, mN3, gC4, mN4, gC5, mR5_0, mR5_1, gC6, mN6, gC7, mR7_0, mR7_1, gC8, mR8_0, gC9, mN9, gC10, mR10_0, gC11, mN11, mR11_0, mR11_1, mR11_2, mR11_3, mR11_4, mR11_5, gC12, mR12_0, mR12_1, gC13, mN13, gC14, mN14, gC15, mR15_0, mR15_1, gC16, mN16, gC17, mN17, gC18, mR18_0, mR18_1, gC19, mN19, gC20, mN20, gC21, mR21_0, mR21_1, gC22, mN22, gC23, mN23, gC24, mR24_0, mR24_1, gC25, mN25, gC26, mN26, gC27, mR27_0, mR27_1, gC28, mN28, gC29, mN29, gC30, mR30_0, gC31, mN31, mR31_0, mR31_1, mR31_2, mR31_3, mR31_4, mR31_5, gC32, mR32_0, mR32_1, gC33, mN33, gC34, mN34, gC35, mR35_0, mR35_1, gC36, mN36, gC37, mN37, gC38, mR38_0, mR38_1, gC39, mN39, gC40, mN40, gC41, mR41_0, mR41_1, gC42, mN42, gC43, mN43, gC44, mR44_0, mR44_1, gC45, mN45, gC46, mN46, gC47, mR47_0, mR47_1, gC48, mN48, gC49, mN49, gC50, mR50_0, mR50_1, mR50_2, mR50_3, gC51, mN51, gC52, mN52, gC53, mN53, gC54, mN54, gC55, gC56, gC57, mR57_2, mR57_3, mR57_6, mR57_7, mR57_8, mR57_9, mR57_10, mR57_11, mR57_12, mR57_13, mR57_14, mR57_15, mR57_16, mR57_18, mR57_19, mR57_20, mR57_21, mR57_22, mR57_23, mR57_25, mR57_26, mR57_27, mR57_28, mR57_37, mR57_40, mR57_41, mR57_43, mR57_44, mR57_48, mR57_49, gC58, mN58, gC59, mN59, gC60, mN60, gC61, mN61, gC62, mN62, gC63, mN63, gC64, mN64, gC65, mN65, gC66, mN66, gC67, mN67, gC68, mN68, gC69, mN69, gC70, mN70, gC71, mN71, gC72, mN72, gC73, mN73, gC74, mN74, gC75, mN75, gC76, mN76, gC77, mN77, gC78, mN78, gC79, mN79, gC80, mN80, gC81, mN81, gC82, mN82, gC83, mN83, gC84, mN84, gC85, mN85, gC86, mN86, gC87, mN87, hg.2.2, v1, nI_clamp (show k < 2 ^ 31 by omega), gI (show k < 64 by omega) (show 64 < 2 ^ 31 by omega), h.1.2.2.2.2.1, gd_t hC, pk_rem (show b < 2 ^ 31 by omega) (show 0 < C by omega) (show C < 2 ^ 31 by omega)]
  rw [if_neg (nI_ge hk (by omega))]
  by_cases t : 0 < b % C
  · rw [if_neg (by rw [le0_nI (by omega)]; omega), nI_s1 (show 0 < b by omega), a1 (decide_eq_true t), bdS, E2]
  · rw [if_pos (by rw [le0_nI (by omega)]; omega), ← a2 (decide_eq_false t), E2]
/-! from the doors -/
def dB (z : Nat) (i : fI) (c : Nat) : Bool := decide (c < z ∧ i 58 c = 1)
def DI (z : Nat) (i : fI) (j : Nat) (g : bS) : Prop := (∀ a, a < g.2.2.2 → g.2.2.1 a < j ∧ g.1 (g.2.2.1 a) = true) ∧ (∀ c, g.1 c = true → ∃ a, a < g.2.2.2 ∧ g.2.2.1 a = c) ∧ (∀ a b, a < b → b < g.2.2.2 → g.2.2.1 a ≠ g.2.2.1 b) ∧ (∀ c, g.1 c = (decide (c < j) && dB z i c)) ∧ (∀ c, g.2.1 c = 0) ∧ g.2.2.2 ≤ j
theorem DI_next {j : Nat} {g : bS} {P : Nat → Bool} (h : DI z i j g) (hd : dB z i j = true) (hp : P j = true) : DI z i (j + 1) (pv P 0 j g) := by
  obtain ⟨h1, h2, h3, h4, h5, h6⟩ := h
  have hf : g.1 j = false := by rw [h4]; simp
  unfold pv
  rw [if_neg (by rw [hf, hp]; simp)]
  have hne : ∀ a, a < g.2.2.2 → g.2.2.1 a ≠ j := fun a ha e => by have := (h1 a ha).1; omega
  refine ⟨fun a ha => ?_, fun c hc => ?_, fun a b hab hb => ?_, fun c => ?_, fun c => ?_, ?_⟩
  · have ha2 : a < g.2.2.2 + 1 := ha
    show upF g.2.2.1 g.2.2.2 j a < j + 1 ∧ upF g.1 j true (upF g.2.2.1 g.2.2.2 j a) = true
    by_cases e : a = g.2.2.2
    · subst e; rw [upF_s, upF_s]; exact ⟨by omega, rfl⟩
    · rw [upF_n _ _ e, upF_n _ _ (hne a (by omega))]
      obtain ⟨x, y⟩ := h1 a (by omega)
      exact ⟨by omega, y⟩
  · show ∃ a, a < g.2.2.2 + 1 ∧ upF g.2.2.1 g.2.2.2 j a = c
    by_cases e : c = j
    · subst e; exact ⟨g.2.2.2, by omega, upF_s _ _ _⟩
    · have hc2 : upF g.1 j true c = true := hc
      rw [upF_n _ _ e] at hc2
      obtain ⟨a, a1, a2⟩ := h2 c hc2
      exact ⟨a, by omega, by rw [upF_n _ _ (by omega)]; exact a2⟩
  · have hb2 : b < g.2.2.2 + 1 := hb
    show upF g.2.2.1 g.2.2.2 j a ≠ upF g.2.2.1 g.2.2.2 j b
    rw [upF_n _ _ (show a ≠ g.2.2.2 by omega)]
    by_cases e : b = g.2.2.2
    · subst e; rw [upF_s]; exact hne a hab
    · rw [upF_n _ _ e]; exact h3 a b hab (by omega)
  · show upF g.1 j true c = _
    by_cases e : c = j
    · subst e; rw [upF_s, hd]; simp
    · rw [upF_n _ _ e, h4 c]
      by_cases q : c < j
      · simp [q, show c < j + 1 by omega]
      · simp [q, show ¬ c < j + 1 by omega]
  · show upF g.2.1 j 0 c = 0
    by_cases e : c = j
    · subst e; exact upF_s _ _ _
    · rw [upF_n _ _ e]; exact h5 c
  · show g.2.2.2 + 1 ≤ j + 1
    omega
theorem DI_skip {j : Nat} {g : bS} (h : DI z i j g) (hd : dB z i j = false) : DI z i (j + 1) g := by
  obtain ⟨h1, h2, h3, h4, h5, h6⟩ := h
  refine ⟨fun a ha => ⟨by have := (h1 a ha).1; omega, (h1 a ha).2⟩, h2, h3, fun c => ?_, h5, by omega⟩
  rw [h4 c]
  by_cases e : c = j
  · subst e; rw [hd]; simp
  · by_cases q : c < j
    · simp [q, show c < j + 1 by omega]
    · simp [q, show ¬ c < j + 1 by omega]
theorem DI_end {g : bS} {P : Nat → Bool} (h : DI z i z g) : QI C z (dB z i) P 0 0 g := by
  obtain ⟨h1, h2, h3, h4, h5, h6⟩ := h
  refine ⟨h1, h2, h3, fun c hc => ?_, fun a b _ _ => by rw [h5, h5]; exact Nat.le_refl _, fun b _ => by rw [h5]; exact Nat.le_refl _, fun a ha => absurd ha (by omega), fun c hc hs => ⟨by rw [h4, hs]; simp [hc], h5 c⟩, fun a _ => by rw [h5]; exact Nat.zero_le _⟩
  rw [h5 c]
  rw [h4 c, Bool.and_eq_true] at hc
  exact hc.2
theorem door_P (h : RS C R n z i l) {M c : Nat} (hd : dB z i c = true) : PrB C n i M c = true := by
  obtain ⟨hD, hK, hN, hV, hA, hP⟩ := id h
  obtain ⟨hc, e⟩ := of_decide_eq_true hd
  unfold PrB
  rw [e]
  rcases sOn_or (C := C) (n := n) (i := i) c with ⟨a, -⟩ | ⟨s, a, b, -⟩
  · rw [a, show decide ((1 : Int32) = 2) = false from by decide, show decide ((1 : Int32) = 3) = false from by decide, show decide ((-1 : Int32) = -1) = true from by decide]; rfl
  · exfalso
    have q : bt6 (l (88 + s) 7) c = true := by rw [cells_E hD hV hA a, b]; simp [hc]
    have r := (hP s a c q).1
    rw [hK.2 0 (by omega)] at r
    have := (of_decide_eq_true r).2
    rw [e] at this
    exact absurd this (by decide)
theorem floods_E (h : RS C R n z i l) {M : Nat} (hM : M < 512) : ∃ i2 g d, f_X11_floods 57 (nI M) (mkS n z L i l) = some ((), mkS n z L i2 l) ∧ Fr sW i i2 ∧ FF g i2 ∧ QI C z (dB z i) (PrB C n i M) g.2.2.2 d g := by
  have hz := zlt h.1
  obtain ⟨⟨h1, h2, h3, h4, h5⟩, -⟩ := id h.1
  have doors : ∀ (r j : Nat) (g : bS) (i1 : fI) (m : Nat), j + r = z → r < m → DI z i j g → FF g i1 → Fr sW i i1 → ∃ gE i2, f_X11_floods_l28 m 57 (nI M) (nI j) (mkS n z L i1 l) = f_X11_floods_l65 xFu 57 (nI M) (nI 0) (mkS n z L i2 l) ∧ FF gE i2 ∧ Fr sW i i2 ∧ DI z i z gE := by
    intro r
    induction r with
    | zero =>
      intro j g i1 m hj hm hd hf f1
      obtain ⟨m, rfl⟩ : ∃ m', m = m' + 1 := ⟨m - 1, by omega⟩
      have e : j = z := by omega
      subst e
      have r1 := RS_fr h f1
      refine ⟨g, i1, ?_, hf, f1, hd⟩
      rw [f_X11_floods_l28_s]
      simp only [mI, mL, mZ, msI, msL, mN1020, gC1, mR1_0, mR1_1, mR1_2, mR1_3, mR1_4, mR1_5, mR1_6, mR1_7, mR1_8, gC2, mR2_6, mR2_7, gC3, mN3, gC4, mN4, gC5, mR5_0, mR5_1, gC6, mN6, gC7, mR7_0, mR7_1, gC8, mR8_0, gC9, mN9, gC10, mR10_0, gC11, mN11, mR11_0, mR11_1, mR11_2, mR11_3, mR11_4, mR11_5, gC12, mR12_0, mR12_1, gC13, mN13, gC14, mN14, gC15, mR15_0, mR15_1, gC16, mN16, gC17, mN17, gC18, mR18_0, mR18_1, gC19, mN19, gC20, mN20, gC21, mR21_0, mR21_1, gC22, mN22, gC23, mN23, gC24, mR24_0, mR24_1, gC25, mN25, gC26, mN26, gC27, mR27_0, mR27_1, gC28, mN28, gC29, mN29, gC30, mR30_0, gC31, mN31, mR31_0, mR31_1, mR31_2, mR31_3, mR31_4, mR31_5, gC32, mR32_0, mR32_1, gC33, mN33, gC34, mN34, gC35, mR35_0, mR35_1, gC36, mN36, gC37, mN37, gC38, mR38_0, mR38_1, gC39, mN39, gC40, mN40, gC41, mR41_0, mR41_1, gC42, mN42, gC43, mN43, gC44, mR44_0, mR44_1, gC45, mN45, gC46, mN46, gC47, mR47_0, mR47_1, gC48, mN48, gC49, mN49, gC50, mR50_0, mR50_1, mR50_2, mR50_3, gC51, mN51, gC52, mN52, gC53, mN53, gC54, mN54, gC55, gC56, gC57, mR57_2, mR57_3, mR57_6, mR57_7, mR57_8, mR57_9, mR57_10, mR57_11, mR57_12, mR57_13, mR57_14, mR57_15, mR57_16, mR57_18, mR57_19, mR57_20, mR57_21, mR57_22, mR57_23, mR57_25, mR57_26, mR57_27, mR57_28, mR57_37, mR57_40, mR57_41, mR57_43, mR57_44, mR57_48, mR57_49, gC58, mN58, gC59, mN59, gC60, mN60, gC61, mN61, gC62, mN62, gC63, mN63, gC64, mN64, gC65, mN65, gC66, mN66, gC67, mN67, gC68, mN68, gC69, mN69, gC70, mN70, gC71, mN71, gC72, mN72, gC73, mN73, gC74, mN74, gC75, mN75, gC76, mN76, gC77, mN77, gC78, mN78, gC79, mN79, gC80, mN80, gC81, mN81, gC82, mN82, gC83, mN83, gC84, mN84, gC85, mN85, gC86, mN86, gC87, mN87, r1.1.2.2.2.2.1, r1.1.2.2.2.2.2, pk_mul]
      rw [← h5, if_pos (Int32.le_refl _)]
      rfl
    | succ r ih =>
      intro j g i1 m hj hm hd hf f1
      obtain ⟨m, rfl⟩ : ∃ m', m = m' + 1 := ⟨m - 1, by omega⟩
      have r1 := RS_fr h f1
      have e58 : i1 58 j = i 58 j := f1 58 j (by unfold sW; omega)
      by_cases q : i 58 j = 1
      · have hdr : dB z i j = true := decide_eq_true ⟨by omega, q⟩
        have hn := DI_next (P := PrB C n i M) hd hdr (door_P h hdr)
        obtain ⟨i2, a1, a2, a3⟩ := reaches_E (L := L) (P := PrB C n i M) r1 hM (fun c hc => (PrB_fr f1 M c).symm) hf (show j < z by omega) (d := 0) (by have := hn.2.2.2.2.2; omega)
        obtain ⟨gE, i3, b1, b2, b3, b4⟩ := ih (j + 1) _ i2 m (by omega) (by omega) hn a2 (Fr_trans f1 a3)
        refine ⟨gE, i3, ?_, b2, b3, b4⟩
        rw [f_X11_floods_l28_s]
        simp only [mI, mL, mZ, msI, msL, mN1020, gC1, mR1_0, mR1_1, mR1_2, mR1_3, mR1_4, mR1_5, mR1_6, mR1_7, mR1_8, gC2, mR2_6, mR2_7, gC3, mN3, gC4, mN4, gC5, mR5_0, mR5_1, gC6, mN6, gC7, mR7_0, mR7_1, gC8, mR8_0, gC9, mN9, gC10, mR10_0, gC11, mN11, mR11_0, mR11_1, mR11_2, mR11_3, mR11_4, mR11_5, gC12, mR12_0, mR12_1, gC13, mN13, gC14, mN14, gC15, mR15_0, mR15_1, gC16, mN16, gC17, mN17, gC18, mR18_0, mR18_1, gC19, mN19, gC20, mN20, gC21, mR21_0, mR21_1, gC22, mN22, gC23, mN23, gC24, mR24_0, mR24_1, gC25, mN25, gC26, mN26, gC27, mR27_0, mR27_1, gC28, mN28, gC29, mN29, gC30, mR30_0, gC31, mN31, mR31_0, mR31_1, mR31_2, mR31_3, mR31_4, mR31_5, gC32, mR32_0, mR32_1, gC33, mN33, gC34, mN34, gC35, mR35_0, mR35_1, gC36, mN36, gC37, mN37, gC38, mR38_0, mR38_1, gC39, mN39, gC40, mN40, gC41, mR41_0, mR41_1, gC42, mN42, gC43, mN43, gC44, mR44_0, mR44_1, gC45, mN45, gC46, mN46, gC47, mR47_0, mR47_1, gC48, mN48, gC49, mN49, gC50, mR50_0, mR50_1, mR50_2, mR50_3, gC51, mN51, gC52, mN52, gC53, mN53, gC54, mN54, gC55, gC56, gC57, mR57_2, mR57_3, mR57_6, mR57_7, mR57_8, mR57_9, mR57_10, mR57_11, mR57_12, mR57_13, mR57_14, mR57_15, mR57_16, mR57_18, mR57_19, mR57_20, mR57_21, mR57_22, mR57_23, mR57_25, mR57_26, mR57_27, mR57_28, mR57_37, mR57_40, mR57_41, mR57_43, mR57_44, mR57_48, mR57_49, gC58, mN58, gC59, mN59, gC60, mN60, gC61, mN61, gC62, mN62, gC63, mN63, gC64, mN64, gC65, mN65, gC66, mN66, gC67, mN67, gC68, mN68, gC69, mN69, gC70, mN70, gC71, mN71, gC72, mN72, gC73, mN73, gC74, mN74, gC75, mN75, gC76, mN76, gC77, mN77, gC78, mN78, gC79, mN79, gC80, mN80, gC81, mN81, gC82, mN82, gC83, mN83, gC84, mN84, gC85, mN85, gC86, mN86, gC87, mN87, r1.1.2.2.2.2.1, r1.1.2.2.2.2.2, pk_mul, nI_clamp (show j < 2 ^ 31 by omega), gI (show j < 64 by omega) (show 64 < 2 ^ 31 by omega), e58, if_pos q, a1, bdS, nI_1]
        rw [← h5, if_neg (nI_ge (by omega) (by omega)), b1]
      · obtain ⟨gE, i3, b1, b2, b3, b4⟩ := ih (j + 1) g i1 m (by omega) (by omega) (DI_skip hd (decide_eq_false (fun r => q r.2))) hf f1
        refine ⟨gE, i3, ?_, b2, b3, b4⟩
        rw [f_X11_floods_l28_s]
        simp only [mI, mL, mZ, msI, msL, mN1020, gC1, mR1_0, mR1_1, mR1_2, mR1_3, mR1_4, mR1_5, mR1_6, mR1_7, mR1_8, gC2, mR2_6, mR2_7, gC3, mN3, gC4, mN4, gC5, mR5_0, mR5_1, gC6, mN6, gC7, mR7_0, mR7_1, gC8, mR8_0, gC9, mN9, gC10, mR10_0, gC11, mN11, mR11_0, mR11_1, mR11_2, mR11_3, mR11_4, mR11_5, gC12, mR12_0, mR12_1, gC13, mN13, gC14, mN14, gC15, mR15_0, mR15_1, gC16, mN16, gC17, mN17, gC18, mR18_0, mR18_1, gC19, mN19, gC20, mN20, gC21, mR21_0, mR21_1, gC22, mN22, gC23, mN23, gC24, mR24_0, mR24_1, gC25, mN25, gC26, mN26, gC27, mR27_0, mR27_1, gC28, mN28, gC29, mN29, gC30, mR30_0, gC31, mN31, mR31_0, mR31_1, mR31_2, mR31_3, mR31_4, mR31_5, gC32, mR32_0, mR32_1, gC33, mN33, gC34, mN34, gC35, mR35_0, mR35_1, gC36, mN36, gC37, mN37, gC38, mR38_0, mR38_1, gC39, mN39, gC40, mN40, gC41, mR41_0, mR41_1, gC42, mN42, gC43, mN43, gC44, mR44_0, mR44_1, gC45, mN45, gC46, mN46, gC47, mR47_0, mR47_1, gC48, mN48, gC49, mN49, gC50, mR50_0, mR50_1, mR50_2, mR50_3, gC51, mN51, gC52, mN52, gC53, mN53, gC54, mN54, gC55, gC56, gC57, mR57_2, mR57_3, mR57_6, mR57_7, mR57_8, mR57_9, mR57_10, mR57_11, mR57_12, mR57_13, mR57_14, mR57_15, mR57_16, mR57_18, mR57_19, mR57_20, mR57_21, mR57_22, mR57_23, mR57_25, mR57_26, mR57_27, mR57_28, mR57_37, mR57_40, mR57_41, mR57_43, mR57_44, mR57_48, mR57_49, gC58, mN58, gC59, mN59, gC60, mN60, gC61, mN61, gC62, mN62, gC63, mN63, gC64, mN64, gC65, mN65, gC66, mN66, gC67, mN67, gC68, mN68, gC69, mN69, gC70, mN70, gC71, mN71, gC72, mN72, gC73, mN73, gC74, mN74, gC75, mN75, gC76, mN76, gC77, mN77, gC78, mN78, gC79, mN79, gC80, mN80, gC81, mN81, gC82, mN82, gC83, mN83, gC84, mN84, gC85, mN85, gC86, mN86, gC87, mN87, r1.1.2.2.2.2.1, r1.1.2.2.2.2.2, pk_mul, nI_clamp (show j < 2 ^ 31 by omega), gI (show j < 64 by omega) (show 64 < 2 ^ 31 by omega), e58, if_neg q, nI_1]
        rw [← h5, if_neg (nI_ge (by omega) (by omega)), b1]
  have hstart : f_X11_floods_l7 xFu 57 (nI M) (nI 0) (mkS n z L (clr (u2 i 57 42 0) 82 0 0) l) = f_X11_floods_l28 xFu 57 (nI M) (nI 0) (mkS n z L (clr (u2 i 57 42 0) 82 0 64) l) := by
    refine acc_loopG (fun m a q => f_X11_floods_l7 m 57 (nI M) a q) (fun s => nI s) (fun s => mkS n z L (clr (u2 i 57 42 0) 82 0 s) l) 64 _ ?_ ?_ 64 0 xFu (by omega) (by unfold xFu; omega)
    · intro m
      show f_X11_floods_l7 (m + 1) 57 (nI M) (nI 64) _ = _
      rw [f_X11_floods_l7_s, if_pos (by decide)]
      rfl
    · intro m s hs
      show f_X11_floods_l7 (m + 1) 57 (nI M) (nI s) _ = f_X11_floods_l7 m 57 (nI M) (nI (s + 1)) _
      rw [f_X11_floods_l7_s, if_neg (by rw [show (64 : Int32) = nI 64 from rfl]; exact nI_ge hs (by omega))]
      simp only [mI, mL, mZ, msI, msL, mN1020, gC1, mR1_0, mR1_1, mR1_2, mR1_3, mR1_4, mR1_5, mR1_6, mR1_7, mR1_8, gC2, mR2_6, mR2_7, gC3, mN3, gC4, mN4, gC5, mR5_0, mR5_1, gC6, mN6, gC7, mR7_0, mR7_1, gC8, mR8_0, gC9, mN9, gC10, mR10_0, gC11, mN11, mR11_0, mR11_1, mR11_2, mR11_3, mR11_4, mR11_5, gC12, mR12_0, mR12_1, gC13, mN13, gC14, mN14, gC15, mR15_0, mR15_1, gC16, mN16, gC17, mN17, gC18, mR18_0, mR18_1, gC19, mN19, gC20, mN20, gC21, mR21_0, mR21_1, gC22, mN22, gC23, mN23, gC24, mR24_0, mR24_1, gC25, mN25, gC26, mN26, gC27, mR27_0, mR27_1, gC28, mN28, gC29, mN29, gC30, mR30_0, gC31, mN31, mR31_0, mR31_1, mR31_2, mR31_3, mR31_4, mR31_5, gC32, mR32_0, mR32_1, gC33, mN33, gC34, mN34, gC35, mR35_0, mR35_1, gC36, mN36, gC37, mN37, gC38, mR38_0, mR38_1, gC39, mN39, gC40, mN40, gC41, mR41_0, mR41_1, gC42, mN42, gC43, mN43, gC44, mR44_0, mR44_1, gC45, mN45, gC46, mN46, gC47, mR47_0, mR47_1, gC48, mN48, gC49, mN49, gC50, mR50_0, mR50_1, mR50_2, mR50_3, gC51, mN51, gC52, mN52, gC53, mN53, gC54, mN54, gC55, gC56, gC57, mR57_2, mR57_3, mR57_6, mR57_7, mR57_8, mR57_9, mR57_10, mR57_11, mR57_12, mR57_13, mR57_14, mR57_15, mR57_16, mR57_18, mR57_19, mR57_20, mR57_21, mR57_22, mR57_23, mR57_25, mR57_26, mR57_27, mR57_28, mR57_37, mR57_40, mR57_41, mR57_43, mR57_44, mR57_48, mR57_49, gC58, mN58, gC59, mN59, gC60, mN60, gC61, mN61, gC62, mN62, gC63, mN63, gC64, mN64, gC65, mN65, gC66, mN66, gC67, mN67, gC68, mN68, gC69, mN69, gC70, mN70, gC71, mN71, gC72, mN72, gC73, mN73, gC74, mN74, gC75, mN75, gC76, mN76, gC77, mN77, gC78, mN78, gC79, mN79, gC80, mN80, gC81, mN81, gC82, mN82, gC83, mN83, gC84, mN84, gC85, mN85, gC86, mN86, gC87, mN87, nar0, nI_clamp (show s < 2 ^ 31 by omega), gI hs (show 64 < 2 ^ 31 by omega), lt1E, clr_s, nI_1]
  rw [clr_0] at hstart
  have fc : Fr sW i (clr (u2 i 57 42 0) 82 0 64) := fun p j hp => by
    unfold sW at hp
    rw [clr_o _ _ (by omega), u2_n _ _ (by omega)]
  obtain ⟨g1, i1, a1, a2, a3, a4⟩ := doors z 0 (fun _ => false, fun _ => 0, fun _ => 0, 0) (clr (u2 i 57 42 0) 82 0 64) xFu (by omega) (by unfold xFu; omega) ⟨fun a ha => absurd ha (Nat.not_lt_zero a), fun c hc => absurd (show false = true from hc) (by decide), fun a b _ hb => absurd hb (Nat.not_lt_zero b), fun c => by simp, fun _ => rfl, Nat.le_refl _⟩ ⟨fun c hc => clr_in _ _ hc, fun a ha => absurd ha (Nat.not_lt_zero a), by rw [clr_o _ _ (by decide), u2_s]; rfl⟩ fc
  obtain ⟨gE, wE, dE, b1, ⟨i2, rfl, b2, b3⟩, b4⟩ := bfs_loop (W := xSt) h.1 (S := dB z i) (P := PrB C n i M) (fun m a w => f_X11_floods_l65 m 57 (nI M) a w) (fun g w => ∃ i2, w = mkS n z L i2 l ∧ Fr sW i i2 ∧ FF g i2) (by
    rintro m g w d ⟨i2, rfl, f2, w2⟩ hq
    show f_X11_floods_l65 (m + 1) 57 (nI M) (nI g.2.2.2) _ = _
    rw [f_X11_floods_l65_s]
    simp only [mI, mL, mZ, msI, msL, mN1020, gC1, mR1_0, mR1_1, mR1_2, mR1_3, mR1_4, mR1_5, mR1_6, mR1_7, mR1_8, gC2, mR2_6, mR2_7, gC3, mN3, gC4, mN4, gC5, mR5_0, mR5_1, gC6, mN6, gC7, mR7_0, mR7_1, gC8, mR8_0, gC9, mN9, gC10, mR10_0, gC11, mN11, mR11_0, mR11_1, mR11_2, mR11_3, mR11_4, mR11_5, gC12, mR12_0, mR12_1, gC13, mN13, gC14, mN14, gC15, mR15_0, mR15_1, gC16, mN16, gC17, mN17, gC18, mR18_0, mR18_1, gC19, mN19, gC20, mN20, gC21, mR21_0, mR21_1, gC22, mN22, gC23, mN23, gC24, mR24_0, mR24_1, gC25, mN25, gC26, mN26, gC27, mR27_0, mR27_1, gC28, mN28, gC29, mN29, gC30, mR30_0, gC31, mN31, mR31_0, mR31_1, mR31_2, mR31_3, mR31_4, mR31_5, gC32, mR32_0, mR32_1, gC33, mN33, gC34, mN34, gC35, mR35_0, mR35_1, gC36, mN36, gC37, mN37, gC38, mR38_0, mR38_1, gC39, mN39, gC40, mN40, gC41, mR41_0, mR41_1, gC42, mN42, gC43, mN43, gC44, mR44_0, mR44_1, gC45, mN45, gC46, mN46, gC47, mR47_0, mR47_1, gC48, mN48, gC49, mN49, gC50, mR50_0, mR50_1, mR50_2, mR50_3, gC51, mN51, gC52, mN52, gC53, mN53, gC54, mN54, gC55, gC56, gC57, mR57_2, mR57_3, mR57_6, mR57_7, mR57_8, mR57_9, mR57_10, mR57_11, mR57_12, mR57_13, mR57_14, mR57_15, mR57_16, mR57_18, mR57_19, mR57_20, mR57_21, mR57_22, mR57_23, mR57_25, mR57_26, mR57_27, mR57_28, mR57_37, mR57_40, mR57_41, mR57_43, mR57_44, mR57_48, mR57_49, gC58, mN58, gC59, mN59, gC60, mN60, gC61, mN61, gC62, mN62, gC63, mN63, gC64, mN64, gC65, mN65, gC66, mN66, gC67, mN67, gC68, mN68, gC69, mN69, gC70, mN70, gC71, mN71, gC72, mN72, gC73, mN73, gC74, mN74, gC75, mN75, gC76, mN76, gC77, mN77, gC78, mN78, gC79, mN79, gC80, mN80, gC81, mN81, gC82, mN82, gC83, mN83, gC84, mN84, gC85, mN85, gC86, mN86, gC87, mN87, w2.2.2]
    rw [if_pos (Int32.le_refl _)]) (by
    rintro m k2 g w d ⟨i2, rfl, f2, w2⟩ hq hkq hd
    obtain ⟨i3, b1, b2, b3⟩ := flood_step (L := L) (RS_fr h f2) hM (fun c hc => (PrB_fr f2 M c).symm) w2 hq hkq rfl rfl hd m
    exact ⟨_, b1, i3, rfl, Fr_trans f2 b3, b2⟩) z 0 0 g1 _ xFu (by omega) (by unfold xFu; omega) (DI_end a4) ⟨_, rfl, a3, a2⟩ (Nat.zero_le _) (fun _ => Nat.zero_le _)
  refine ⟨i2, gE, dE, ?_, b2, b3, b4⟩
  have b1' : f_X11_floods_l65 xFu 57 (nI M) (nI 0) (mkS n z L i1 l) = some ((), mkS n z L i2 l) := b1
  simp only [f_X11_floods, mI, mL, mZ, msI, msL, mN1020, gC1, mR1_0, mR1_1, mR1_2, mR1_3, mR1_4, mR1_5, mR1_6, mR1_7, mR1_8, gC2, mR2_6, mR2_7, gC3, mN3, gC4, mN4, gC5, mR5_0, mR5_1, gC6, mN6, gC7, mR7_0, mR7_1, gC8, mR8_0, gC9, mN9, gC10, mR10_0, gC11, mN11, mR11_0, mR11_1, mR11_2, mR11_3, mR11_4, mR11_5, gC12, mR12_0, mR12_1, gC13, mN13, gC14, mN14, gC15, mR15_0, mR15_1, gC16, mN16, gC17, mN17, gC18, mR18_0, mR18_1, gC19, mN19, gC20, mN20, gC21, mR21_0, mR21_1, gC22, mN22, gC23, mN23, gC24, mR24_0, mR24_1, gC25, mN25, gC26, mN26, gC27, mR27_0, mR27_1, gC28, mN28, gC29, mN29, gC30, mR30_0, gC31, mN31, mR31_0, mR31_1, mR31_2, mR31_3, mR31_4, mR31_5, gC32, mR32_0, mR32_1, gC33, mN33, gC34, mN34, gC35, mR35_0, mR35_1, gC36, mN36, gC37, mN37, gC38, mR38_0, mR38_1, gC39, mN39, gC40, mN40, gC41, mR41_0, mR41_1, gC42, mN42, gC43, mN43, gC44, mR44_0, mR44_1, gC45, mN45, gC46, mN46, gC47, mR47_0, mR47_1, gC48, mN48, gC49, mN49, gC50, mR50_0, mR50_1, mR50_2, mR50_3, gC51, mN51, gC52, mN52, gC53, mN53, gC54, mN54, gC55, gC56, gC57, mR57_2, mR57_3, mR57_6, mR57_7, mR57_8, mR57_9, mR57_10, mR57_11, mR57_12, mR57_13, mR57_14, mR57_15, mR57_16, mR57_18, mR57_19, mR57_20, mR57_21, mR57_22, mR57_23, mR57_25, mR57_26, mR57_27, mR57_28, mR57_37, mR57_40, mR57_41, mR57_43, mR57_44, mR57_48, mR57_49, gC58, mN58, gC59, mN59, gC60, mN60, gC61, mN61, gC62, mN62, gC63, mN63, gC64, mN64, gC65, mN65, gC66, mN66, gC67, mN67, gC68, mN68, gC69, mN69, gC70, mN70, gC71, mN71, gC72, mN72, gC73, mN73, gC74, mN74, gC75, mN75, gC76, mN76, gC77, mN77, gC78, mN78, gC79, mN79, gC80, mN80, gC81, mN81, gC82, mN82, gC83, mN83, gC84, mN84, gC85, mN85, gC86, mN86, gC87, mN87, lt1E]
  exact hstart.trans (a1.trans b1')
end GOODS
