section HIN
variable {C R n z L : Nat} {i j : fI} {l : fL}
/-- the class's stands against another store's rows of the reference -/
def RelF2 (n : Nat) (i j : fI) : Prop := ∀ s, s < n → (i (88 + s) 0 = j 60 s ∧ i (88 + s) 1 = j 61 s ∧ i (88 + s) 2 = j 62 s ∧ i (88 + s) 3 = j 63 s ∧ i (88 + s) 4 = j 64 s ∧ i (88 + s) 5 = j 65 s ∧ i (88 + s) 6 = j 66 s ∧ i (88 + s) 8 = j 68 s ∧ i (88 + s) 9 = j 67 s ∧ i (88 + s) 10 = j 69 s)
/-! neighbours -/
def nbB (C b c : Nat) : Bool := decide (b = c + C) || decide (c = b + C) || (decide (b + 1 = c) && decide (b % C < C - 1)) || (decide (b = c + 1) && decide (0 < b % C))
theorem beside_E (hD : RelD C R z i) (hE : RelE C R z l) (x : Int64) : ∃ v, f_X0_beside 2 x (mkS n z L i l) = some (v, mkS n z L i l) ∧ ((∀ c, bt6 x c = true → c < z) → ∀ c, c < z → (bt6 v c = true ↔ ∃ b, b < z ∧ bt6 x b = true ∧ nbB C b c = true)) := by
  have hz := zlt hD
  obtain ⟨⟨h1, h2, h3, h4, h5⟩, e1, -⟩ := id hD
  refine ⟨((lushr x (nI C)) ||| (x <<< ((nI C).toInt64 &&& 63))) ||| (((x &&& ((l 2 4) ^^^ (-1 : Int64))) <<< ((1 : Int32).toInt64 &&& 63)) ||| (lushr (x &&& ((l 2 3) ^^^ (-1 : Int64))) (1 : Int32))), ?_, ?_⟩
  · simp only [f_X0_beside, mI, mL, mZ, msI, msL, mN1020, gC1, mR1_0, mR1_1, mR1_2, mR1_3, mR1_4, mR1_5, mR1_6, mR1_7, mR1_8, gC2, mR2_6, mR2_7, gC3, mN3, gC4, mN4, gC5, mR5_0, mR5_1, gC6, mN6, gC7, mR7_0, mR7_1, gC8, mR8_0, gC9, mN9, gC10, mR10_0, gC11, mN11, mR11_0, mR11_1, mR11_2, mR11_3, mR11_4, mR11_5, gC12, mR12_0, mR12_1, gC13, mN13, gC14, mN14, gC15, mR15_0, mR15_1, gC16, mN16, gC17, mN17, gC18, mR18_0, mR18_1, gC19, mN19, gC20, mN20, gC21, mR21_0, mR21_1, gC22, mN22, gC23, mN23, gC24, mR24_0, mR24_1, gC25, mN25, gC26, mN26, gC27, mR27_0, mR27_1, gC28, mN28, gC29, mN29, gC30, mR30_0, gC31, mN31, mR31_0, mR31_1, mR31_2, mR31_3, mR31_4, mR31_5, gC32, mR32_0, mR32_1, gC33, mN33, gC34, mN34, gC35, mR35_0, mR35_1, gC36, mN36, gC37, mN37, gC38, mR38_0, mR38_1, gC39, mN39, gC40, mN40, gC41, mR41_0, mR41_1, gC42, mN42, gC43, mN43, gC44, mR44_0, mR44_1, gC45, mN45, gC46, mN46, gC47, mR47_0, mR47_1, gC48, mN48, gC49, mN49, gC50, mR50_0, mR50_1, mR50_2, mR50_3, gC51, mN51, gC52, mN52, gC53, mN53, gC54, mN54, gC55, gC56, gC57, mR57_2, mR57_3, mR57_6, mR57_7, mR57_8, mR57_9, mR57_10, mR57_11, mR57_12, mR57_13, mR57_14, mR57_15, mR57_16, mR57_18, mR57_19, mR57_20, mR57_21, mR57_22, mR57_23, mR57_25, mR57_26, mR57_27, mR57_28, mR57_37, mR57_40, mR57_41, mR57_43, mR57_44, mR57_48, mR57_49, gC58, mN58, gC59, mN59, gC60, mN60, gC61, mN61, gC62, mN62, gC63, mN63, gC64, mN64, gC65, mN65, gC66, mN66, gC67, mN67, gC68, mN68, gC69, mN69, gC70, mN70, gC71, mN71, gC72, mN72, gC73, mN73, gC74, mN74, gC75, mN75, gC76, mN76, gC77, mN77, gC78, mN78, gC79, mN79, gC80, mN80, gC81, mN81, gC82, mN82, gC83, mN83, gC84, mN84, gC85, mN85, gC86, mN86, gC87, mN87, e1]
  · intro hx c hc
    have e3 := hE.1
    have e4 := hE.2.1
    rw [show (1 : Int32) = nI 1 from rfl]
    rw [b6_or, b6_or, b6_or, b6_ushr _ (by omega), b6_shl _ (by omega), b6_shl _ (by omega), b6_ushr _ (by omega), b6_and, b6_and, b6_not _ (show c - 1 < 64 by omega)]
    simp only [Bool.or_eq_true, Bool.and_eq_true, decide_eq_true_eq]
    have mc : ∀ b, b % C < C := fun b => Nat.mod_lt _ (by omega)
    constructor
    · rintro ((q | ⟨⟨-, q1⟩, q2⟩) | (⟨⟨-, q1⟩, q2, q3⟩ | ⟨q2, q3⟩))
      · exact ⟨c + C, hx _ q, q, by simp [nbB]⟩
      · exact ⟨c - C, hx _ q2, q2, by
          have : c = c - C + C := by omega
          simp [nbB, ← this]⟩
      · have hb := hx _ q2
        rw [e4] at q3
        refine ⟨c - 1, hb, q2, ?_⟩
        have r1 : c - 1 + 1 = c := by omega
        have r2 : (c - 1) % C < C - 1 := by
          have := mc (c - 1)
          have : ¬ (c - 1) % C = C - 1 := by simpa [hb] using q3
          omega
        simp [nbB, r1, r2]
      · have hb := hx _ q2
        rw [b6_not _ (by omega), e3] at q3
        refine ⟨c + 1, hb, q2, ?_⟩
        have r2 : 0 < (c + 1) % C := by
          have : ¬ (c + 1) % C = 0 := by simpa [hb] using q3
          omega
        simp [nbB, r2]
    · rintro ⟨b, b1, b2, b3⟩
      unfold nbB at b3
      simp only [Bool.or_eq_true, Bool.and_eq_true, decide_eq_true_eq] at b3
      rcases b3 with ((r | r) | ⟨r1, r2⟩) | ⟨r1, r2⟩
      · subst r; exact Or.inl (Or.inl b2)
      · refine Or.inl (Or.inr ⟨⟨by omega, by omega⟩, ?_⟩)
        rw [show c - C = b by omega]
        exact b2
      · refine Or.inr (Or.inl ⟨⟨by omega, by omega⟩, ?_⟩)
        rw [show c - 1 = b by omega, e4]
        refine ⟨b2, ?_⟩
        have : ¬ b % C = C - 1 := by omega
        simp [this]
      · refine Or.inr (Or.inr ?_)
        subst r1
        rw [b6_not _ (by omega), e3]
        refine ⟨b2, ?_⟩
        have : ¬ (c + 1) % C = 0 := by omega
        simp [this]
/-- beside a cell with that kind, as the reference asks -/
def bsP (C R : Nat) (i : fI) (k : Nat) (v : Int32) : Bool := (decide (0 < k % C) && decide (i 58 (k - 1) = v)) || (decide (k % C < C - 1) && decide (i 58 (k + 1) = v)) || (decide (C ≤ k) && decide (i 58 (k - C) = v)) || (decide (k < C * (R - 1)) && decide (i 58 (k + C) = v))
theorem row_lt {C R k : Nat} (h0 : 0 < C) (hR : 0 < R) (h : k < C * R) (h2 : k % C < C - 1) : k + 1 < C * R := by
  have e := Nat.div_add_mod k C
  have hq : k / C < R := Nat.div_lt_of_lt_mul h
  have h3 : C * (k / C + 1) ≤ C * R := Nat.mul_le_mul_left C (by omega)
  rw [Nat.mul_add] at h3
  omega
theorem CR1 {C R : Nat} (hR : 1 ≤ R) : C * (R - 1) + C = C * R := by
  obtain ⟨r, rfl⟩ : ∃ r, R = r + 1 := ⟨R - 1, by omega⟩
  rw [Nat.add_sub_cancel, Nat.mul_add, Nat.mul_one]
theorem bsP_iff (hD : RelD C R z i) {k : Nat} (hk : k < z) (v : Int32) : bsP C R i k v = true ↔ ∃ c, c < z ∧ nbB C k c = true ∧ i 58 c = v := by
  obtain ⟨⟨h1, h2, h3, h4, h5⟩, -⟩ := id hD
  have c1 := CR1 (C := C) (show 1 ≤ R by omega)
  unfold bsP nbB
  simp only [Bool.or_eq_true, Bool.and_eq_true, decide_eq_true_eq]
  constructor
  · rintro (((⟨a, b⟩ | ⟨a, b⟩) | ⟨a, b⟩) | ⟨a, b⟩)
    · have : k ≠ 0 := by rintro rfl; simp at a
      exact ⟨k - 1, by omega, Or.inr ⟨by omega, a⟩, b⟩
    · have := row_lt (C := C) (R := R) (k := k) (by omega) (by omega) (by rw [← h5]; exact hk) a
      exact ⟨k + 1, by omega, Or.inl (Or.inr ⟨rfl, a⟩), b⟩
    · exact ⟨k - C, by omega, Or.inl (Or.inl (Or.inl (by omega))), b⟩
    · exact ⟨k + C, by omega, Or.inl (Or.inl (Or.inr rfl)), b⟩
  · rintro ⟨c, hc, ((r | r) | ⟨r1, r2⟩) | ⟨r1, r2⟩, e⟩
    · refine Or.inl (Or.inr ⟨by omega, ?_⟩)
      rw [show k - C = c by omega]; exact e
    · refine Or.inr ⟨by omega, ?_⟩
      rw [← r]; exact e
    · refine Or.inl (Or.inl (Or.inr ⟨r2, ?_⟩))
      rw [r1]; exact e
    · refine Or.inl (Or.inl (Or.inl ⟨r2, ?_⟩))
      rw [show k - 1 = c by omega]; exact e
theorem isBeside_E (hD : RelD C R z i) {k : Nat} (hk : k < z) (v : Int32) : f_X11_isBeside 57 (nI k) v (mkS n z L i l) = some (bI (bsP C R i k v), mkS n z L i l) := by
  have hz := zlt hD
  obtain ⟨⟨h1, h2, h3, h4, h5⟩, -, -, -, e1, e2⟩ := id hD
  have c1 := CR1 (C := C) (show 1 ≤ R by omega)
  have m1 : k % C < C := Nat.mod_lt _ (by omega)
  have hC : ¬ nI C = 0 := nI_ne0 (by omega) (by omega)
  have b96 : ∀ b : Bool, f_X11_isBeside_b96 57 (nI k) v (bI b) (mkS n z L i l) = some (bI (b || (decide (k < C * (R - 1)) && decide (i 58 (k + C) = v))), mkS n z L i l) := by
    intro b
    simp only [f_X11_isBeside_b96, bI_if, mI, mL, mZ, msI, msL, mN1020, gC1, mR1_0, mR1_1, mR1_2, mR1_3, mR1_4, mR1_5, mR1_6, mR1_7, mR1_8, gC2, mR2_6, mR2_7, gC3, mN3, gC4, mN4, gC5, mR5_0, mR5_1, gC6, mN6, gC7, mR7_0, mR7_1, gC8, mR8_0, gC9, mN9, gC10, mR10_0, gC11, mN11, mR11_0, mR11_1, mR11_2, mR11_3, mR11_4, mR11_5, gC12, mR12_0, mR12_1, gC13, mN13, gC14, mN14, gC15, mR15_0, mR15_1, gC16, mN16, gC17, mN17, gC18, mR18_0, mR18_1, gC19, mN19, gC20, mN20, gC21, mR21_0, mR21_1, gC22, mN22, gC23, mN23, gC24, mR24_0, mR24_1, gC25, mN25, gC26, mN26, gC27, mR27_0, mR27_1, gC28, mN28, gC29, mN29, gC30, mR30_0, gC31, mN31, mR31_0, mR31_1, mR31_2, mR31_3, mR31_4, mR31_5, gC32, mR32_0, mR32_1, gC33, mN33, gC34, mN34, gC35, mR35_0, mR35_1, gC36, mN36, gC37, mN37, gC38, mR38_0, mR38_1, gC39, mN39, gC40, mN40, gC41, mR41_0, mR41_1, gC42, mN42, gC43, mN43, gC44, mR44_0, mR44_1, gC45, mN45, gC46, mN46, gC47, mR47_0, mR47_1, gC48, mN48, gC49, mN49, gC50, mR50_0, mR50_1, mR50_2, mR50_3, gC51, mN51, gC52, mN52, gC53, mN53, gC54, mN54, gC55, gC56, gC57, mR57_2, mR57_3, mR57_6, mR57_7, mR57_8, mR57_9, mR57_10, mR57_11, mR57_12, mR57_13, mR57_14, mR57_15, mR57_16, mR57_18, mR57_19, mR57_20, mR57_21, mR57_22, mR57_23, mR57_25, mR57_26, mR57_27, mR57_28, mR57_37, mR57_40, mR57_41, mR57_43, mR57_44, mR57_48, mR57_49, gC58, mN58, gC59, mN59, gC60, mN60, gC61, mN61, gC62, mN62, gC63, mN63, gC64, mN64, gC65, mN65, gC66, mN66, gC67, mN67, gC68, mN68, gC69, mN69, gC70, mN70, gC71, mN71, gC72, mN72, gC73, mN73, gC74, mN74, gC75, mN75, gC76, mN76, gC77, mN77, gC78, mN78, gC79, mN79, gC80, mN80, gC81, mN81, gC82, mN82, gC83, mN83, gC84, mN84, gC85, mN85, gC86, mN86, gC87, mN87, e1, e2, nI_s1 (show 0 < R by omega), pk_mul, nI_add]
    cases b with
    | true => rfl
    | false =>
      rw [if_neg (by decide)]
      by_cases q : k < C * (R - 1)
      · rw [if_neg (by rw [nI_leI (by omega) (by omega)]; omega), gI (by omega) (by omega), nI_clamp (by omega)]
        by_cases q2 : i 58 (k + C) = v <;> simp [q, q2, bI]
      · rw [if_pos (by rw [nI_leI (by omega) (by omega)]; omega)]
        simp [q, bI]
  have b63 : ∀ b : Bool, f_X11_isBeside_b63 57 (nI k) v (bI b) (mkS n z L i l) = some (bI ((b || (decide (C ≤ k) && decide (i 58 (k - C) = v))) || (decide (k < C * (R - 1)) && decide (i 58 (k + C) = v))), mkS n z L i l) := by
    intro b
    simp only [f_X11_isBeside_b63, bI_if, mI, mL, mZ, msI, msL, mN1020, gC1, mR1_0, mR1_1, mR1_2, mR1_3, mR1_4, mR1_5, mR1_6, mR1_7, mR1_8, gC2, mR2_6, mR2_7, gC3, mN3, gC4, mN4, gC5, mR5_0, mR5_1, gC6, mN6, gC7, mR7_0, mR7_1, gC8, mR8_0, gC9, mN9, gC10, mR10_0, gC11, mN11, mR11_0, mR11_1, mR11_2, mR11_3, mR11_4, mR11_5, gC12, mR12_0, mR12_1, gC13, mN13, gC14, mN14, gC15, mR15_0, mR15_1, gC16, mN16, gC17, mN17, gC18, mR18_0, mR18_1, gC19, mN19, gC20, mN20, gC21, mR21_0, mR21_1, gC22, mN22, gC23, mN23, gC24, mR24_0, mR24_1, gC25, mN25, gC26, mN26, gC27, mR27_0, mR27_1, gC28, mN28, gC29, mN29, gC30, mR30_0, gC31, mN31, mR31_0, mR31_1, mR31_2, mR31_3, mR31_4, mR31_5, gC32, mR32_0, mR32_1, gC33, mN33, gC34, mN34, gC35, mR35_0, mR35_1, gC36, mN36, gC37, mN37, gC38, mR38_0, mR38_1, gC39, mN39, gC40, mN40, gC41, mR41_0, mR41_1, gC42, mN42, gC43, mN43, gC44, mR44_0, mR44_1, gC45, mN45, gC46, mN46, gC47, mR47_0, mR47_1, gC48, mN48, gC49, mN49, gC50, mR50_0, mR50_1, mR50_2, mR50_3, gC51, mN51, gC52, mN52, gC53, mN53, gC54, mN54, gC55, gC56, gC57, mR57_2, mR57_3, mR57_6, mR57_7, mR57_8, mR57_9, mR57_10, mR57_11, mR57_12, mR57_13, mR57_14, mR57_15, mR57_16, mR57_18, mR57_19, mR57_20, mR57_21, mR57_22, mR57_23, mR57_25, mR57_26, mR57_27, mR57_28, mR57_37, mR57_40, mR57_41, mR57_43, mR57_44, mR57_48, mR57_49, gC58, mN58, gC59, mN59, gC60, mN60, gC61, mN61, gC62, mN62, gC63, mN63, gC64, mN64, gC65, mN65, gC66, mN66, gC67, mN67, gC68, mN68, gC69, mN69, gC70, mN70, gC71, mN71, gC72, mN72, gC73, mN73, gC74, mN74, gC75, mN75, gC76, mN76, gC77, mN77, gC78, mN78, gC79, mN79, gC80, mN80, gC81, mN81, gC82, mN82, gC83, mN83, gC84, mN84, gC85, mN85, gC86, mN86, gC87, mN87, e1]
    have t1 := b96 true
    have t0 := b96 false
    rw [show bI true = 1 from rfl] at t1
    rw [show bI false = 0 from rfl] at t0
    rw [t1, t0]
    cases b with
    | true => rfl
    | false =>
      rw [if_neg (by decide)]
      by_cases q : C ≤ k
      · rw [if_neg (by rw [nI_ltI (by omega) (by omega)]; omega), pk_sub q, gI (by omega) (by omega), nI_clamp (by omega)]
        by_cases q2 : i 58 (k - C) = v <;> simp [q, q2]
      · rw [if_pos (by rw [nI_ltI (by omega) (by omega)]; omega)]
        simp [q]
  have b26 : ∀ b : Bool, f_X11_isBeside_b26 57 (nI k) v (bI b) (mkS n z L i l) = some (bI (((b || (decide (k % C < C - 1) && decide (i 58 (k + 1) = v))) || (decide (C ≤ k) && decide (i 58 (k - C) = v))) || (decide (k < C * (R - 1)) && decide (i 58 (k + C) = v))), mkS n z L i l) := by
    intro b
    simp only [f_X11_isBeside_b26, bI_if, mI, mL, mZ, msI, msL, mN1020, gC1, mR1_0, mR1_1, mR1_2, mR1_3, mR1_4, mR1_5, mR1_6, mR1_7, mR1_8, gC2, mR2_6, mR2_7, gC3, mN3, gC4, mN4, gC5, mR5_0, mR5_1, gC6, mN6, gC7, mR7_0, mR7_1, gC8, mR8_0, gC9, mN9, gC10, mR10_0, gC11, mN11, mR11_0, mR11_1, mR11_2, mR11_3, mR11_4, mR11_5, gC12, mR12_0, mR12_1, gC13, mN13, gC14, mN14, gC15, mR15_0, mR15_1, gC16, mN16, gC17, mN17, gC18, mR18_0, mR18_1, gC19, mN19, gC20, mN20, gC21, mR21_0, mR21_1, gC22, mN22, gC23, mN23, gC24, mR24_0, mR24_1, gC25, mN25, gC26, mN26, gC27, mR27_0, mR27_1, gC28, mN28, gC29, mN29, gC30, mR30_0, gC31, mN31, mR31_0, mR31_1, mR31_2, mR31_3, mR31_4, mR31_5, gC32, mR32_0, mR32_1, gC33, mN33, gC34, mN34, gC35, mR35_0, mR35_1, gC36, mN36, gC37, mN37, gC38, mR38_0, mR38_1, gC39, mN39, gC40, mN40, gC41, mR41_0, mR41_1, gC42, mN42, gC43, mN43, gC44, mR44_0, mR44_1, gC45, mN45, gC46, mN46, gC47, mR47_0, mR47_1, gC48, mN48, gC49, mN49, gC50, mR50_0, mR50_1, mR50_2, mR50_3, gC51, mN51, gC52, mN52, gC53, mN53, gC54, mN54, gC55, gC56, gC57, mR57_2, mR57_3, mR57_6, mR57_7, mR57_8, mR57_9, mR57_10, mR57_11, mR57_12, mR57_13, mR57_14, mR57_15, mR57_16, mR57_18, mR57_19, mR57_20, mR57_21, mR57_22, mR57_23, mR57_25, mR57_26, mR57_27, mR57_28, mR57_37, mR57_40, mR57_41, mR57_43, mR57_44, mR57_48, mR57_49, gC58, mN58, gC59, mN59, gC60, mN60, gC61, mN61, gC62, mN62, gC63, mN63, gC64, mN64, gC65, mN65, gC66, mN66, gC67, mN67, gC68, mN68, gC69, mN69, gC70, mN70, gC71, mN71, gC72, mN72, gC73, mN73, gC74, mN74, gC75, mN75, gC76, mN76, gC77, mN77, gC78, mN78, gC79, mN79, gC80, mN80, gC81, mN81, gC82, mN82, gC83, mN83, gC84, mN84, gC85, mN85, gC86, mN86, gC87, mN87, e1, gd_t hC, nI_1]
    have t1 := b63 true
    have t0 := b63 false
    rw [show bI true = 1 from rfl] at t1
    rw [show bI false = 0 from rfl] at t0
    rw [t1, t0, pk_rem (by omega) (by omega) (by omega), nI_s1 (by omega)]
    cases b with
    | true => rfl
    | false =>
      rw [if_neg (by decide)]
      by_cases q : k % C < C - 1
      · have := row_lt (C := C) (R := R) (k := k) (by omega) (by omega) (by rw [← h5]; exact hk) q
        rw [if_neg (by rw [nI_leI (by omega) (by omega)]; omega), gI (by omega) (by omega), nI_clamp (by omega)]
        by_cases q2 : i 58 (k + 1) = v <;> simp [q, q2]
      · rw [if_pos (by rw [nI_leI (by omega) (by omega)]; omega)]
        simp [q]
  have t1 := b26 true
  have t0 := b26 false
  rw [show bI true = 1 from rfl] at t1
  rw [show bI false = 0 from rfl] at t0
  simp only [f_X11_isBeside, mI, mL, mZ, msI, msL, mN1020, gC1, mR1_0, mR1_1, mR1_2, mR1_3, mR1_4, mR1_5, mR1_6, mR1_7, mR1_8, gC2, mR2_6, mR2_7, gC3, mN3, gC4, mN4, gC5, mR5_0, mR5_1, gC6, mN6, gC7, mR7_0, mR7_1, gC8, mR8_0, gC9, mN9, gC10, mR10_0, gC11, mN11, mR11_0, mR11_1, mR11_2, mR11_3, mR11_4, mR11_5, gC12, mR12_0, mR12_1, gC13, mN13, gC14, mN14, gC15, mR15_0, mR15_1, gC16, mN16, gC17, mN17, gC18, mR18_0, mR18_1, gC19, mN19, gC20, mN20, gC21, mR21_0, mR21_1, gC22, mN22, gC23, mN23, gC24, mR24_0, mR24_1, gC25, mN25, gC26, mN26, gC27, mR27_0, mR27_1, gC28, mN28, gC29, mN29, gC30, mR30_0, gC31, mN31, mR31_0, mR31_1, mR31_2, mR31_3, mR31_4, mR31_5, gC32, mR32_0, mR32_1, gC33, mN33, gC34, mN34, gC35, mR35_0, mR35_1, gC36, mN36, gC37, mN37, gC38, mR38_0, mR38_1, gC39, mN39, gC40, mN40, gC41, mR41_0, mR41_1, gC42, mN42, gC43, mN43, gC44, mR44_0, mR44_1, gC45, mN45, gC46, mN46, gC47, mR47_0, mR47_1, gC48, mN48, gC49, mN49, gC50, mR50_0, mR50_1, mR50_2, mR50_3, gC51, mN51, gC52, mN52, gC53, mN53, gC54, mN54, gC55, gC56, gC57, mR57_2, mR57_3, mR57_6, mR57_7, mR57_8, mR57_9, mR57_10, mR57_11, mR57_12, mR57_13, mR57_14, mR57_15, mR57_16, mR57_18, mR57_19, mR57_20, mR57_21, mR57_22, mR57_23, mR57_25, mR57_26, mR57_27, mR57_28, mR57_37, mR57_40, mR57_41, mR57_43, mR57_44, mR57_48, mR57_49, gC58, mN58, gC59, mN59, gC60, mN60, gC61, mN61, gC62, mN62, gC63, mN63, gC64, mN64, gC65, mN65, gC66, mN66, gC67, mN67, gC68, mN68, gC69, mN69, gC70, mN70, gC71, mN71, gC72, mN72, gC73, mN73, gC74, mN74, gC75, mN75, gC76, mN76, gC77, mN77, gC78, mN78, gC79, mN79, gC80, mN80, gC81, mN81, gC82, mN82, gC83, mN83, gC84, mN84, gC85, mN85, gC86, mN86, gC87, mN87, e1, gd_t hC, t1, t0]
  rw [pk_rem (by omega) (by omega) (by omega)]
  unfold bsP
  by_cases q : 0 < k % C
  · have : k ≠ 0 := by rintro rfl; simp at q
    rw [if_neg (nI_nle q (by omega)), nI_s1 (by omega), gI (by omega) (by omega), nI_clamp (by omega)]
    by_cases q2 : i 58 (k - 1) = v <;> simp [q, q2]
  · rw [if_pos ((le0_nI (by omega)).mpr (by omega))]
    simp [q]
/-! fellows -/
def flB (i : fI) (n s : Nat) (j : Bool) : Bool := exB (fun t => !decide (t = s) && laB i t && decide (i 61 t = i 61 s) && decide (i 62 t = i 62 s) && (!j || decide (i 60 t = 4))) n
theorem hasFellow_E (hN : RelN n i) {s : Nat} (hs : s < n) (j : Bool) : f_X11_hasFellow 57 (nI s) (bI j) (mkS n z L i l) = some (bI (flB i n s j), mkS n z L i l) := by
  have h9 := hN.1
  have key := fsel_loop (fun m t w => f_X11_hasFellow_l2 m 57 (nI s) (bI j) t w) (fun t => !decide (t = s) && laB i t && decide (i 61 t = i 61 s) && decide (i 62 t = i 62 s) && (!j || decide (i 60 t = 4))) (fun _ => 1) 0 n (mkS n z L i l) ?_ ?_ n 0 xFu (by omega) (by unfold xFu; omega)
  · unfold f_X11_hasFellow
    rw [fsel_ex] at key
    exact key
  · intro m
    show f_X11_hasFellow_l2 (m + 1) 57 _ _ (nI n) _ = _
    rw [f_X11_hasFellow_l2_s]
    simp only [mI, mL, mZ, msI, msL, mN1020, gC1, mR1_0, mR1_1, mR1_2, mR1_3, mR1_4, mR1_5, mR1_6, mR1_7, mR1_8, gC2, mR2_6, mR2_7, gC3, mN3, gC4, mN4, gC5, mR5_0, mR5_1, gC6, mN6, gC7, mR7_0, mR7_1, gC8, mR8_0, gC9, mN9, gC10, mR10_0, gC11, mN11, mR11_0, mR11_1, mR11_2, mR11_3, mR11_4, mR11_5, gC12, mR12_0, mR12_1, gC13, mN13, gC14, mN14, gC15, mR15_0, mR15_1, gC16, mN16, gC17, mN17, gC18, mR18_0, mR18_1, gC19, mN19, gC20, mN20, gC21, mR21_0, mR21_1, gC22, mN22, gC23, mN23, gC24, mR24_0, mR24_1, gC25, mN25, gC26, mN26, gC27, mR27_0, mR27_1, gC28, mN28, gC29, mN29, gC30, mR30_0, gC31, mN31, mR31_0, mR31_1, mR31_2, mR31_3, mR31_4, mR31_5, gC32, mR32_0, mR32_1, gC33, mN33, gC34, mN34, gC35, mR35_0, mR35_1, gC36, mN36, gC37, mN37, gC38, mR38_0, mR38_1, gC39, mN39, gC40, mN40, gC41, mR41_0, mR41_1, gC42, mN42, gC43, mN43, gC44, mR44_0, mR44_1, gC45, mN45, gC46, mN46, gC47, mR47_0, mR47_1, gC48, mN48, gC49, mN49, gC50, mR50_0, mR50_1, mR50_2, mR50_3, gC51, mN51, gC52, mN52, gC53, mN53, gC54, mN54, gC55, gC56, gC57, mR57_2, mR57_3, mR57_6, mR57_7, mR57_8, mR57_9, mR57_10, mR57_11, mR57_12, mR57_13, mR57_14, mR57_15, mR57_16, mR57_18, mR57_19, mR57_20, mR57_21, mR57_22, mR57_23, mR57_25, mR57_26, mR57_27, mR57_28, mR57_37, mR57_40, mR57_41, mR57_43, mR57_44, mR57_48, mR57_49, gC58, mN58, gC59, mN59, gC60, mN60, gC61, mN61, gC62, mN62, gC63, mN63, gC64, mN64, gC65, mN65, gC66, mN66, gC67, mN67, gC68, mN68, gC69, mN69, gC70, mN70, gC71, mN71, gC72, mN72, gC73, mN73, gC74, mN74, gC75, mN75, gC76, mN76, gC77, mN77, gC78, mN78, gC79, mN79, gC80, mN80, gC81, mN81, gC82, mN82, gC83, mN83, gC84, mN84, gC85, mN85, gC86, mN86, gC87, mN87, hN.2.2]
    rw [if_pos (Int32.le_refl _)]
  · intro m t ht
    show f_X11_hasFellow_l2 (m + 1) 57 _ _ (nI t) _ = _
    rw [f_X11_hasFellow_l2_s]
    simp only [mI, mL, mZ, msI, msL, mN1020, gC1, mR1_0, mR1_1, mR1_2, mR1_3, mR1_4, mR1_5, mR1_6, mR1_7, mR1_8, gC2, mR2_6, mR2_7, gC3, mN3, gC4, mN4, gC5, mR5_0, mR5_1, gC6, mN6, gC7, mR7_0, mR7_1, gC8, mR8_0, gC9, mN9, gC10, mR10_0, gC11, mN11, mR11_0, mR11_1, mR11_2, mR11_3, mR11_4, mR11_5, gC12, mR12_0, mR12_1, gC13, mN13, gC14, mN14, gC15, mR15_0, mR15_1, gC16, mN16, gC17, mN17, gC18, mR18_0, mR18_1, gC19, mN19, gC20, mN20, gC21, mR21_0, mR21_1, gC22, mN22, gC23, mN23, gC24, mR24_0, mR24_1, gC25, mN25, gC26, mN26, gC27, mR27_0, mR27_1, gC28, mN28, gC29, mN29, gC30, mR30_0, gC31, mN31, mR31_0, mR31_1, mR31_2, mR31_3, mR31_4, mR31_5, gC32, mR32_0, mR32_1, gC33, mN33, gC34, mN34, gC35, mR35_0, mR35_1, gC36, mN36, gC37, mN37, gC38, mR38_0, mR38_1, gC39, mN39, gC40, mN40, gC41, mR41_0, mR41_1, gC42, mN42, gC43, mN43, gC44, mR44_0, mR44_1, gC45, mN45, gC46, mN46, gC47, mR47_0, mR47_1, gC48, mN48, gC49, mN49, gC50, mR50_0, mR50_1, mR50_2, mR50_3, gC51, mN51, gC52, mN52, gC53, mN53, gC54, mN54, gC55, gC56, gC57, mR57_2, mR57_3, mR57_6, mR57_7, mR57_8, mR57_9, mR57_10, mR57_11, mR57_12, mR57_13, mR57_14, mR57_15, mR57_16, mR57_18, mR57_19, mR57_20, mR57_21, mR57_22, mR57_23, mR57_25, mR57_26, mR57_27, mR57_28, mR57_37, mR57_40, mR57_41, mR57_43, mR57_44, mR57_48, mR57_49, gC58, mN58, gC59, mN59, gC60, mN60, gC61, mN61, gC62, mN62, gC63, mN63, gC64, mN64, gC65, mN65, gC66, mN66, gC67, mN67, gC68, mN68, gC69, mN69, gC70, mN70, gC71, mN71, gC72, mN72, gC73, mN73, gC74, mN74, gC75, mN75, gC76, mN76, gC77, mN77, gC78, mN78, gC79, mN79, gC80, mN80, gC81, mN81, gC82, mN82, gC83, mN83, gC84, mN84, gC85, mN85, gC86, mN86, gC87, mN87, hN.2.2, nI_clamp (show t < 2 ^ 31 by omega), nI_clamp (show s < 2 ^ 31 by omega), gI (show t < 9 by omega) (show 9 < 2 ^ 31 by omega), gI (show s < 9 by omega) (show 9 < 2 ^ 31 by omega), nI_1, bI_if]
    rw [if_neg (nI_ge ht (by omega))]
    by_cases q1 : t = s
    · rw [if_pos (by rw [q1])]; simp [q1]
    rw [if_neg (by rw [nI_eq (by omega) (by omega)]; exact q1)]
    by_cases q2 : i 66 t = -1
    · simp [q2, laB]
    rw [if_neg q2]
    by_cases q3 : i 61 t = i 61 s
    · rw [if_pos q3]
      by_cases q4 : i 62 t = i 62 s
      · rw [if_pos q4]
        cases j
        · simp [q1, q2, q3, q4, laB]
        · by_cases q5 : i 60 t = 4 <;> simp [q1, q2, q3, q4, q5, laB]
      · simp [q4]
    · simp [q3]
theorem hasKin_E (hN : RelN n i) (hF : RelF2 n i j) {s : Nat} (hs : s < n) (b : Bool) : f_X5_hasKinLaid 5 (88 + s) (bI b) (mkS n z L i l) = some (bI (flB j n s b), mkS n z L i l) := by
  have h9 := hN.1
  obtain ⟨s0, s1, s2, s3, s4, s5, s6, s8, s9, s10⟩ := hF s hs
  have key := fsel_loop (fun m t w => f_X5_hasKinLaid_l2 m 5 (88 + s) (bI b) t w) (fun t => !decide (t = s) && laB j t && decide (j 61 t = j 61 s) && decide (j 62 t = j 62 s) && (!b || decide (j 60 t = 4))) (fun _ => 1) 0 n (mkS n z L i l) ?_ ?_ n 0 xFu (by omega) (by unfold xFu; omega)
  · unfold f_X5_hasKinLaid
    rw [fsel_ex] at key
    exact key
  · intro m
    show f_X5_hasKinLaid_l2 (m + 1) 5 _ _ (nI n) _ = _
    rw [f_X5_hasKinLaid_l2_s]
    simp only [mI, mL, mZ, msI, msL, mN1020, gC1, mR1_0, mR1_1, mR1_2, mR1_3, mR1_4, mR1_5, mR1_6, mR1_7, mR1_8, gC2, mR2_6, mR2_7, gC3, mN3, gC4, mN4, gC5, mR5_0, mR5_1, gC6, mN6, gC7, mR7_0, mR7_1, gC8, mR8_0, gC9, mN9, gC10, mR10_0, gC11, mN11, mR11_0, mR11_1, mR11_2, mR11_3, mR11_4, mR11_5, gC12, mR12_0, mR12_1, gC13, mN13, gC14, mN14, gC15, mR15_0, mR15_1, gC16, mN16, gC17, mN17, gC18, mR18_0, mR18_1, gC19, mN19, gC20, mN20, gC21, mR21_0, mR21_1, gC22, mN22, gC23, mN23, gC24, mR24_0, mR24_1, gC25, mN25, gC26, mN26, gC27, mR27_0, mR27_1, gC28, mN28, gC29, mN29, gC30, mR30_0, gC31, mN31, mR31_0, mR31_1, mR31_2, mR31_3, mR31_4, mR31_5, gC32, mR32_0, mR32_1, gC33, mN33, gC34, mN34, gC35, mR35_0, mR35_1, gC36, mN36, gC37, mN37, gC38, mR38_0, mR38_1, gC39, mN39, gC40, mN40, gC41, mR41_0, mR41_1, gC42, mN42, gC43, mN43, gC44, mR44_0, mR44_1, gC45, mN45, gC46, mN46, gC47, mR47_0, mR47_1, gC48, mN48, gC49, mN49, gC50, mR50_0, mR50_1, mR50_2, mR50_3, gC51, mN51, gC52, mN52, gC53, mN53, gC54, mN54, gC55, gC56, gC57, mR57_2, mR57_3, mR57_6, mR57_7, mR57_8, mR57_9, mR57_10, mR57_11, mR57_12, mR57_13, mR57_14, mR57_15, mR57_16, mR57_18, mR57_19, mR57_20, mR57_21, mR57_22, mR57_23, mR57_25, mR57_26, mR57_27, mR57_28, mR57_37, mR57_40, mR57_41, mR57_43, mR57_44, mR57_48, mR57_49, gC58, mN58, gC59, mN59, gC60, mN60, gC61, mN61, gC62, mN62, gC63, mN63, gC64, mN64, gC65, mN65, gC66, mN66, gC67, mN67, gC68, mN68, gC69, mN69, gC70, mN70, gC71, mN71, gC72, mN72, gC73, mN73, gC74, mN74, gC75, mN75, gC76, mN76, gC77, mN77, gC78, mN78, gC79, mN79, gC80, mN80, gC81, mN81, gC82, mN82, gC83, mN83, gC84, mN84, gC85, mN85, gC86, mN86, gC87, mN87, hN.2.1]
    rw [if_pos (Int32.le_refl _)]
  · intro m t ht
    obtain ⟨t0, t1, t2, t3, t4, t5, t6, t8, t9, t10⟩ := hF t ht
    show f_X5_hasKinLaid_l2 (m + 1) 5 _ _ (nI t) _ = _
    rw [f_X5_hasKinLaid_l2_s]
    simp only [mI, mL, mZ, msI, msL, mN1020, gC1, mR1_0, mR1_1, mR1_2, mR1_3, mR1_4, mR1_5, mR1_6, mR1_7, mR1_8, gC2, mR2_6, mR2_7, gC3, mN3, gC4, mN4, gC5, mR5_0, mR5_1, gC6, mN6, gC7, mR7_0, mR7_1, gC8, mR8_0, gC9, mN9, gC10, mR10_0, gC11, mN11, mR11_0, mR11_1, mR11_2, mR11_3, mR11_4, mR11_5, gC12, mR12_0, mR12_1, gC13, mN13, gC14, mN14, gC15, mR15_0, mR15_1, gC16, mN16, gC17, mN17, gC18, mR18_0, mR18_1, gC19, mN19, gC20, mN20, gC21, mR21_0, mR21_1, gC22, mN22, gC23, mN23, gC24, mR24_0, mR24_1, gC25, mN25, gC26, mN26, gC27, mR27_0, mR27_1, gC28, mN28, gC29, mN29, gC30, mR30_0, gC31, mN31, mR31_0, mR31_1, mR31_2, mR31_3, mR31_4, mR31_5, gC32, mR32_0, mR32_1, gC33, mN33, gC34, mN34, gC35, mR35_0, mR35_1, gC36, mN36, gC37, mN37, gC38, mR38_0, mR38_1, gC39, mN39, gC40, mN40, gC41, mR41_0, mR41_1, gC42, mN42, gC43, mN43, gC44, mR44_0, mR44_1, gC45, mN45, gC46, mN46, gC47, mR47_0, mR47_1, gC48, mN48, gC49, mN49, gC50, mR50_0, mR50_1, mR50_2, mR50_3, gC51, mN51, gC52, mN52, gC53, mN53, gC54, mN54, gC55, gC56, gC57, mR57_2, mR57_3, mR57_6, mR57_7, mR57_8, mR57_9, mR57_10, mR57_11, mR57_12, mR57_13, mR57_14, mR57_15, mR57_16, mR57_18, mR57_19, mR57_20, mR57_21, mR57_22, mR57_23, mR57_25, mR57_26, mR57_27, mR57_28, mR57_37, mR57_40, mR57_41, mR57_43, mR57_44, mR57_48, mR57_49, gC58, mN58, gC59, mN59, gC60, mN60, gC61, mN61, gC62, mN62, gC63, mN63, gC64, mN64, gC65, mN65, gC66, mN66, gC67, mN67, gC68, mN68, gC69, mN69, gC70, mN70, gC71, mN71, gC72, mN72, gC73, mN73, gC74, mN74, gC75, mN75, gC76, mN76, gC77, mN77, gC78, mN78, gC79, mN79, gC80, mN80, gC81, mN81, gC82, mN82, gC83, mN83, gC84, mN84, gC85, mN85, gC86, mN86, gC87, mN87, hN.2.1, nI_clamp (show t < 2 ^ 31 by omega), gI (show t < 9 by omega) (show 9 < 2 ^ 31 by omega), nI_1, bI_if, mR6_t ht, gCS ht, X6_isLaid_E ht, f_X6_isAkin, gCS hs, bdS, if_b, t6, t0, t1, t2, s1, s2]
    rw [if_neg (nI_ge ht (by omega)), gd_t (by omega), gd_t (by omega)]
    by_cases q1 : t = s
    · rw [if_pos (by omega)]; simp [q1]
    rw [if_neg (by omega)]
    by_cases q2 : j 66 t = -1
    · simp [q2, laB]
    rw [if_pos q2]
    by_cases q3 : j 61 t = j 61 s
    · rw [if_pos q3]
      by_cases q4 : j 62 t = j 62 s
      · rw [if_pos q4, bdS, if_neg (by decide)]
        simp only [gCS ht, mI, t0]
        cases b
        · simp [q1, q2, q3, q4, laB]
        · by_cases q5 : j 60 t = 4 <;> simp [q1, q2, q3, q4, q5, laB]
      · rw [if_neg q4, bdS, if_pos rfl]; simp [q4]
    · rw [if_neg q3, bdS, if_pos rfl]; simp [q3]
/-! too near -/
def gapN (a n b m : Nat) : Nat := if b + m ≤ a then a - b - m else b - (a + n)
theorem gap20 {a b c : Nat} (ha : a < 1000) (hb : b < 1000) (hc : c < 1000) (w : xSt) : f_X11_gap_b20 ((nI b - nI a) - nI c) w = some (nI (b - (a + c)), w) := by
  have e1 := nI_toInt (show a < 2 ^ 31 by omega)
  have e2 := nI_toInt (show b < 2 ^ 31 by omega)
  have e3 := nI_toInt (show c < 2 ^ 31 by omega)
  have s1 : (nI b - nI a).toInt = (b : Int) - a := by rw [fb_subI (by omega) (by omega), e1, e2]
  have s2 : (nI b - nI a - nI c).toInt = (b : Int) - a - c := by rw [fb_subI (by omega) (by omega), s1, e3]
  unfold f_X11_gap_b20
  by_cases q : a + c ≤ b
  · rw [if_pos (by rw [Int32.le_iff_toInt_le, s2, show (0 : Int32).toInt = 0 from rfl]; omega)]
    congr 2
    apply Int32.toInt_inj.mp
    rw [s2, nI_toInt (by omega)]
    omega
  · rw [if_neg (by rw [Int32.le_iff_toInt_le, s2, show (0 : Int32).toInt = 0 from rfl]; omega), show b - (a + c) = 0 by omega]
    rfl
theorem gap_E {a n b m : Nat} (ha : a < 1000) (hn : n < 1000) (hb : b < 1000) (hm : m < 1000) (w : xSt) : f_X11_gap (nI a) (nI n) (nI b) (nI m) w = some (nI (gapN a n b m), w) := by
  unfold f_X11_gap gapN
  rw [nI_add]
  by_cases q : b + m ≤ a
  · rw [if_neg (by rw [nI_ltI (by omega) (by omega)]; omega), if_pos q, gap20 hb ha hm, show a - (b + m) = a - b - m by omega]
  · rw [if_pos (by rw [nI_ltI (by omega) (by omega)]; omega), if_neg q, gap20 ha hb hn]
def neM (C : Nat) (i : fI) (g s c t : Nat) : Bool := decide (gapN (c % C) (wdN i s) (atN i t % C) (wdN i t) < g) && decide (gapN (c / C) (dpN i s) (atN i t / C) (dpN i t) < g)
theorem isNear_E (hD : RelD C R z i) (hV : RelV C R z n i) (h9 : n ≤ 9) {g s c t : Nat} (hg : g ≤ 3) (eg : i 57 4 = nI g) (hs : s < n) (ht : t < n) (hc : c < z) (hl : ¬ i 66 t = -1) : f_X11_isNear 57 (nI s) (nI c) (nI t) (mkS n z L i l) = some (bI (neM C i g s c t), mkS n z L i l) := by
  have hz := zlt hD
  obtain ⟨⟨h1, h2, h3, h4, h5⟩, -, -, -, e1, e2⟩ := id hD
  obtain ⟨w1, w2, w3⟩ := wdN_E hV hs
  obtain ⟨d1, d2, d3⟩ := dpN_E hV hs
  obtain ⟨x1, x2, x3⟩ := wdN_E hV ht
  obtain ⟨y1, y2, y3⟩ := dpN_E hV ht
  obtain ⟨a1, a2, a3, a4⟩ := atN_E hD hV ht hl
  have m1 : c % C < C := Nat.mod_lt _ (by omega)
  have m2 : c / C ≤ c := Nat.div_le_self _ _
  have m3 := Nat.zero_le (c / C)
  have m4 := Nat.zero_le (atN i t / C)
  have hC : ¬ nI C = 0 := nI_ne0 (by omega) (by omega)
  have g1 : gapN (c % C) (wdN i s) (atN i t % C) (wdN i t) < 2 ^ 31 := by unfold gapN; split <;> omega
  have g2 : gapN (c / C) (dpN i s) (atN i t / C) (dpN i t) < 2 ^ 31 := by unfold gapN; split <;> omega
  simp only [f_X11_isNear, mI, mL, mZ, msI, msL, mN1020, gC1, mR1_0, mR1_1, mR1_2, mR1_3, mR1_4, mR1_5, mR1_6, mR1_7, mR1_8, gC2, mR2_6, mR2_7, gC3, mN3, gC4, mN4, gC5, mR5_0, mR5_1, gC6, mN6, gC7, mR7_0, mR7_1, gC8, mR8_0, gC9, mN9, gC10, mR10_0, gC11, mN11, mR11_0, mR11_1, mR11_2, mR11_3, mR11_4, mR11_5, gC12, mR12_0, mR12_1, gC13, mN13, gC14, mN14, gC15, mR15_0, mR15_1, gC16, mN16, gC17, mN17, gC18, mR18_0, mR18_1, gC19, mN19, gC20, mN20, gC21, mR21_0, mR21_1, gC22, mN22, gC23, mN23, gC24, mR24_0, mR24_1, gC25, mN25, gC26, mN26, gC27, mR27_0, mR27_1, gC28, mN28, gC29, mN29, gC30, mR30_0, gC31, mN31, mR31_0, mR31_1, mR31_2, mR31_3, mR31_4, mR31_5, gC32, mR32_0, mR32_1, gC33, mN33, gC34, mN34, gC35, mR35_0, mR35_1, gC36, mN36, gC37, mN37, gC38, mR38_0, mR38_1, gC39, mN39, gC40, mN40, gC41, mR41_0, mR41_1, gC42, mN42, gC43, mN43, gC44, mR44_0, mR44_1, gC45, mN45, gC46, mN46, gC47, mR47_0, mR47_1, gC48, mN48, gC49, mN49, gC50, mR50_0, mR50_1, mR50_2, mR50_3, gC51, mN51, gC52, mN52, gC53, mN53, gC54, mN54, gC55, gC56, gC57, mR57_2, mR57_3, mR57_6, mR57_7, mR57_8, mR57_9, mR57_10, mR57_11, mR57_12, mR57_13, mR57_14, mR57_15, mR57_16, mR57_18, mR57_19, mR57_20, mR57_21, mR57_22, mR57_23, mR57_25, mR57_26, mR57_27, mR57_28, mR57_37, mR57_40, mR57_41, mR57_43, mR57_44, mR57_48, mR57_49, gC58, mN58, gC59, mN59, gC60, mN60, gC61, mN61, gC62, mN62, gC63, mN63, gC64, mN64, gC65, mN65, gC66, mN66, gC67, mN67, gC68, mN68, gC69, mN69, gC70, mN70, gC71, mN71, gC72, mN72, gC73, mN73, gC74, mN74, gC75, mN75, gC76, mN76, gC77, mN77, gC78, mN78, gC79, mN79, gC80, mN80, gC81, mN81, gC82, mN82, gC83, mN83, gC84, mN84, gC85, mN85, gC86, mN86, gC87, mN87, e1, eg, gd_t hC, gI (show s < 9 by omega) (show 9 < 2 ^ 31 by omega), gI (show t < 9 by omega) (show 9 < 2 ^ 31 by omega), nI_clamp (show s < 2 ^ 31 by omega), nI_clamp (show t < 2 ^ 31 by omega), w1, d1, x1, y1, a1, pk_div (show c < 2 ^ 31 by omega) (show 0 < C by omega) (by omega), pk_div (show atN i t < 2 ^ 31 by omega) (show 0 < C by omega) (by omega), pk_rem' (show c < 2 ^ 31 by omega) (show 0 < C by omega) (by omega), pk_rem' (show atN i t < 2 ^ 31 by omega) (show 0 < C by omega) (by omega), gap_E (show c % C < 1000 by omega) (show wdN i s < 1000 by omega) (show atN i t % C < 1000 by omega) (show wdN i t < 1000 by omega), gap_E (show c / C < 1000 by omega) (show dpN i s < 1000 by omega) (show atN i t / C < 1000 by omega) (show dpN i t < 1000 by omega), bdS]
  unfold neM bI
  by_cases q1 : gapN (c % C) (wdN i s) (atN i t % C) (wdN i t) < g
  · rw [if_neg (by rw [nI_leI (by omega) (by omega)]; omega)]
    by_cases q2 : gapN (c / C) (dpN i s) (atN i t / C) (dpN i t) < g
    · rw [if_neg (by rw [nI_leI (by omega) (by omega)]; omega)]; simp [q1, q2]
    · rw [if_pos (by rw [nI_leI (by omega) (by omega)]; omega)]; simp [q1, q2]
  · rw [if_pos (by rw [nI_leI (by omega) (by omega)]; omega)]; simp [q1]
def btw (a n b m : Nat) : Int := max ((b : Int) - a - n) ((a : Int) - b - m)
theorem between_E {a n b m : Nat} (ha : a < 1000) (hn : n < 1000) (hb : b < 1000) (hm : m < 1000) (w : xSt) : ∃ v : Int32, f_X5_between (nI a) (nI n) (nI b) (nI m) w = some (v, w) ∧ v.toInt = btw a n b m := by
  have e1 := nI_toInt (show a < 2 ^ 31 by omega)
  have e2 := nI_toInt (show b < 2 ^ 31 by omega)
  have e3 := nI_toInt (show n < 2 ^ 31 by omega)
  have e4 := nI_toInt (show m < 2 ^ 31 by omega)
  have s1 : (nI b - nI a).toInt = (b : Int) - a := by rw [fb_subI (by omega) (by omega), e1, e2]
  have s2 : (nI b - nI a - nI n).toInt = (b : Int) - a - n := by rw [fb_subI (by omega) (by omega), s1, e3]
  have t1 : (nI a - nI b).toInt = (a : Int) - b := by rw [fb_subI (by omega) (by omega), e1, e2]
  have t2 : (nI a - nI b - nI m).toInt = (a : Int) - b - m := by rw [fb_subI (by omega) (by omega), t1, e4]
  unfold f_X5_between f_J9_max_7cf53 btw
  by_cases q : nI b - nI a - nI n < nI a - nI b - nI m
  · refine ⟨_, by rw [if_pos q, bdS], ?_⟩
    rw [Int32.lt_iff_toInt_lt, s2, t2] at q
    rw [t2, Int.max_eq_right (by omega)]
  · refine ⟨_, by rw [if_neg q, bdS], ?_⟩
    rw [Int32.lt_iff_toInt_lt, s2, t2] at q
    rw [s2, Int.max_eq_left (by omega)]
def neC (C : Nat) (i : fI) (g s c t : Nat) : Bool := decide (btw (c % C) (wdN i s) (atN i t % C) (wdN i t) < g) && decide (btw (c / C) (dpN i s) (atN i t / C) (dpN i t) < g)
theorem isTooNear_E (hD : RelD C R z i) (hN : RelN n i) (hF : RelF2 n i j) (hDj : RelD C R z j) (hV : RelV C R z n j) {g s c : Nat} (hg : g ≤ 3) (eg : i 5 3 = nI g) (hs : s < n) (hc : c < z) : f_X5_isTooNear 5 (88 + s) (nI c) (mkS n z L i l) = some (bI (exB (fun t => !decide (t = s) && laB j t && !decide (j 62 t = j 62 s) && neC C j g s c t) n), mkS n z L i l) := by
  have h9 := hN.1
  have hz := zlt hD
  obtain ⟨⟨h1, h2, h3, h4, h5⟩, -⟩ := id hD
  obtain ⟨s0, s1, s2, s3, s4, s5, s6, s8, s9, s10⟩ := hF s hs
  obtain ⟨w1, w2, w3⟩ := wdN_E hV hs
  obtain ⟨d1, d2, d3⟩ := dpN_E hV hs
  have m1 : c % C < C := Nat.mod_lt _ (by omega)
  have m2 : c / C ≤ c := Nat.div_le_self _ _
  have m3 := Nat.zero_le (c / C)
  have key := fsel_loop (fun m t w => f_X5_isTooNear_l2 m 5 (88 + s) (nI c) t w) (fun t => !decide (t = s) && laB j t && !decide (j 62 t = j 62 s) && neC C j g s c t) (fun _ => 1) 0 n (mkS n z L i l) ?_ ?_ n 0 xFu (by omega) (by unfold xFu; omega)
  · unfold f_X5_isTooNear
    rw [fsel_ex] at key
    exact key
  · intro m
    show f_X5_isTooNear_l2 (m + 1) 5 _ _ (nI n) _ = _
    rw [f_X5_isTooNear_l2_s]
    simp only [mI, mL, mZ, msI, msL, mN1020, gC1, mR1_0, mR1_1, mR1_2, mR1_3, mR1_4, mR1_5, mR1_6, mR1_7, mR1_8, gC2, mR2_6, mR2_7, gC3, mN3, gC4, mN4, gC5, mR5_0, mR5_1, gC6, mN6, gC7, mR7_0, mR7_1, gC8, mR8_0, gC9, mN9, gC10, mR10_0, gC11, mN11, mR11_0, mR11_1, mR11_2, mR11_3, mR11_4, mR11_5, gC12, mR12_0, mR12_1, gC13, mN13, gC14, mN14, gC15, mR15_0, mR15_1, gC16, mN16, gC17, mN17, gC18, mR18_0, mR18_1, gC19, mN19, gC20, mN20, gC21, mR21_0, mR21_1, gC22, mN22, gC23, mN23, gC24, mR24_0, mR24_1, gC25, mN25, gC26, mN26, gC27, mR27_0, mR27_1, gC28, mN28, gC29, mN29, gC30, mR30_0, gC31, mN31, mR31_0, mR31_1, mR31_2, mR31_3, mR31_4, mR31_5, gC32, mR32_0, mR32_1, gC33, mN33, gC34, mN34, gC35, mR35_0, mR35_1, gC36, mN36, gC37, mN37, gC38, mR38_0, mR38_1, gC39, mN39, gC40, mN40, gC41, mR41_0, mR41_1, gC42, mN42, gC43, mN43, gC44, mR44_0, mR44_1, gC45, mN45, gC46, mN46, gC47, mR47_0, mR47_1, gC48, mN48, gC49, mN49, gC50, mR50_0, mR50_1, mR50_2, mR50_3, gC51, mN51, gC52, mN52, gC53, mN53, gC54, mN54, gC55, gC56, gC57, mR57_2, mR57_3, mR57_6, mR57_7, mR57_8, mR57_9, mR57_10, mR57_11, mR57_12, mR57_13, mR57_14, mR57_15, mR57_16, mR57_18, mR57_19, mR57_20, mR57_21, mR57_22, mR57_23, mR57_25, mR57_26, mR57_27, mR57_28, mR57_37, mR57_40, mR57_41, mR57_43, mR57_44, mR57_48, mR57_49, gC58, mN58, gC59, mN59, gC60, mN60, gC61, mN61, gC62, mN62, gC63, mN63, gC64, mN64, gC65, mN65, gC66, mN66, gC67, mN67, gC68, mN68, gC69, mN69, gC70, mN70, gC71, mN71, gC72, mN72, gC73, mN73, gC74, mN74, gC75, mN75, gC76, mN76, gC77, mN77, gC78, mN78, gC79, mN79, gC80, mN80, gC81, mN81, gC82, mN82, gC83, mN83, gC84, mN84, gC85, mN85, gC86, mN86, gC87, mN87, hN.2.1]
    rw [if_pos (Int32.le_refl _)]
  · intro m t ht
    obtain ⟨t0, t1, t2, t3, t4, t5, t6, t8, t9, t10⟩ := hF t ht
    obtain ⟨x1, x2, x3⟩ := wdN_E hV ht
    obtain ⟨y1, y2, y3⟩ := dpN_E hV ht
    show f_X5_isTooNear_l2 (m + 1) 5 _ _ (nI t) _ = _
    rw [f_X5_isTooNear_l2_s]
    simp only [mI, mL, mZ, msI, msL, mN1020, gC1, mR1_0, mR1_1, mR1_2, mR1_3, mR1_4, mR1_5, mR1_6, mR1_7, mR1_8, gC2, mR2_6, mR2_7, gC3, mN3, gC4, mN4, gC5, mR5_0, mR5_1, gC6, mN6, gC7, mR7_0, mR7_1, gC8, mR8_0, gC9, mN9, gC10, mR10_0, gC11, mN11, mR11_0, mR11_1, mR11_2, mR11_3, mR11_4, mR11_5, gC12, mR12_0, mR12_1, gC13, mN13, gC14, mN14, gC15, mR15_0, mR15_1, gC16, mN16, gC17, mN17, gC18, mR18_0, mR18_1, gC19, mN19, gC20, mN20, gC21, mR21_0, mR21_1, gC22, mN22, gC23, mN23, gC24, mR24_0, mR24_1, gC25, mN25, gC26, mN26, gC27, mR27_0, mR27_1, gC28, mN28, gC29, mN29, gC30, mR30_0, gC31, mN31, mR31_0, mR31_1, mR31_2, mR31_3, mR31_4, mR31_5, gC32, mR32_0, mR32_1, gC33, mN33, gC34, mN34, gC35, mR35_0, mR35_1, gC36, mN36, gC37, mN37, gC38, mR38_0, mR38_1, gC39, mN39, gC40, mN40, gC41, mR41_0, mR41_1, gC42, mN42, gC43, mN43, gC44, mR44_0, mR44_1, gC45, mN45, gC46, mN46, gC47, mR47_0, mR47_1, gC48, mN48, gC49, mN49, gC50, mR50_0, mR50_1, mR50_2, mR50_3, gC51, mN51, gC52, mN52, gC53, mN53, gC54, mN54, gC55, gC56, gC57, mR57_2, mR57_3, mR57_6, mR57_7, mR57_8, mR57_9, mR57_10, mR57_11, mR57_12, mR57_13, mR57_14, mR57_15, mR57_16, mR57_18, mR57_19, mR57_20, mR57_21, mR57_22, mR57_23, mR57_25, mR57_26, mR57_27, mR57_28, mR57_37, mR57_40, mR57_41, mR57_43, mR57_44, mR57_48, mR57_49, gC58, mN58, gC59, mN59, gC60, mN60, gC61, mN61, gC62, mN62, gC63, mN63, gC64, mN64, gC65, mN65, gC66, mN66, gC67, mN67, gC68, mN68, gC69, mN69, gC70, mN70, gC71, mN71, gC72, mN72, gC73, mN73, gC74, mN74, gC75, mN75, gC76, mN76, gC77, mN77, gC78, mN78, gC79, mN79, gC80, mN80, gC81, mN81, gC82, mN82, gC83, mN83, gC84, mN84, gC85, mN85, gC86, mN86, gC87, mN87, hN.2.1, nI_clamp (show t < 2 ^ 31 by omega), gI (show t < 9 by omega) (show 9 < 2 ^ 31 by omega), nI_1, mR6_t ht, gCS ht, X6_isLaid_E ht, gCS hs, bdS, if_b, t6, t2, s2]
    rw [if_neg (nI_ge ht (by omega)), gd_t (by omega), gd_t (by omega)]
    by_cases q1 : t = s
    · rw [if_pos (by omega)]; simp [q1]
    rw [if_neg (by omega)]
    by_cases q2 : j 66 t = -1
    · simp [q2, laB]
    rw [if_pos q2]
    by_cases q3 : j 62 t = j 62 s
    · rw [if_pos q3]; simp [q3]
    rw [if_neg q3]
    obtain ⟨a1, a2, a3, a4⟩ := atN_E hDj hV ht q2
    have m4 := Nat.zero_le (atN j t / C)
    obtain ⟨v1, v2, v3⟩ := between_E (show c % C < 1000 by omega) (show wdN j s < 1000 by omega) (show atN j t % C < 1000 by omega) (show wdN j t < 1000 by omega) (mkS n z L i l)
    obtain ⟨u1, u2, u3⟩ := between_E (show c / C < 1000 by omega) (show dpN j s < 1000 by omega) (show atN j t / C < 1000 by omega) (show dpN j t < 1000 by omega) (mkS n z L i l)
    have cm : ∀ (v : Int32) (b : Int), v.toInt = b → (nI g ≤ v ↔ ¬ b < g) := by
      intro v b hb
      rw [Int32.le_iff_toInt_le, nI_toInt (by omega), hb]
      omega
    simp only [col_E hD hc, bdS, mI, mL, mZ, msI, msL, mN1020, gC1, mR1_0, mR1_1, mR1_2, mR1_3, mR1_4, mR1_5, mR1_6, mR1_7, mR1_8, gC2, mR2_6, mR2_7, gC3, mN3, gC4, mN4, gC5, mR5_0, mR5_1, gC6, mN6, gC7, mR7_0, mR7_1, gC8, mR8_0, gC9, mN9, gC10, mR10_0, gC11, mN11, mR11_0, mR11_1, mR11_2, mR11_3, mR11_4, mR11_5, gC12, mR12_0, mR12_1, gC13, mN13, gC14, mN14, gC15, mR15_0, mR15_1, gC16, mN16, gC17, mN17, gC18, mR18_0, mR18_1, gC19, mN19, gC20, mN20, gC21, mR21_0, mR21_1, gC22, mN22, gC23, mN23, gC24, mR24_0, mR24_1, gC25, mN25, gC26, mN26, gC27, mR27_0, mR27_1, gC28, mN28, gC29, mN29, gC30, mR30_0, gC31, mN31, mR31_0, mR31_1, mR31_2, mR31_3, mR31_4, mR31_5, gC32, mR32_0, mR32_1, gC33, mN33, gC34, mN34, gC35, mR35_0, mR35_1, gC36, mN36, gC37, mN37, gC38, mR38_0, mR38_1, gC39, mN39, gC40, mN40, gC41, mR41_0, mR41_1, gC42, mN42, gC43, mN43, gC44, mR44_0, mR44_1, gC45, mN45, gC46, mN46, gC47, mR47_0, mR47_1, gC48, mN48, gC49, mN49, gC50, mR50_0, mR50_1, mR50_2, mR50_3, gC51, mN51, gC52, mN52, gC53, mN53, gC54, mN54, gC55, gC56, gC57, mR57_2, mR57_3, mR57_6, mR57_7, mR57_8, mR57_9, mR57_10, mR57_11, mR57_12, mR57_13, mR57_14, mR57_15, mR57_16, mR57_18, mR57_19, mR57_20, mR57_21, mR57_22, mR57_23, mR57_25, mR57_26, mR57_27, mR57_28, mR57_37, mR57_40, mR57_41, mR57_43, mR57_44, mR57_48, mR57_49, gC58, mN58, gC59, mN59, gC60, mN60, gC61, mN61, gC62, mN62, gC63, mN63, gC64, mN64, gC65, mN65, gC66, mN66, gC67, mN67, gC68, mN68, gC69, mN69, gC70, mN70, gC71, mN71, gC72, mN72, gC73, mN73, gC74, mN74, gC75, mN75, gC76, mN76, gC77, mN77, gC78, mN78, gC79, mN79, gC80, mN80, gC81, mN81, gC82, mN82, gC83, mN83, gC84, mN84, gC85, mN85, gC86, mN86, gC87, mN87, gCS hs, gCS ht, t6, a1, col_E hD a2, line_E hD hc, line_E hD a2, s3, w1, t3, x1, v2, s4, d1, t4, y1, u2, eg]
    by_cases q4 : btw (c % C) (wdN j s) (atN j t % C) (wdN j t) < g
    · rw [if_neg (fun r => (cm _ _ v3).mp r q4)]
      by_cases q5 : btw (c / C) (dpN j s) (atN j t / C) (dpN j t) < g
      · rw [if_neg (fun r => (cm _ _ u3).mp r q5)]; simp [q1, q2, q3, q4, q5, laB, neC]
      · rw [if_pos ((cm _ _ u3).mpr q5)]; simp [q5, neC]
    · rw [if_pos ((cm _ _ v3).mpr q4)]; simp [q4, neC]
theorem carries_E (hD : RelD C R z i) (hB : ∀ c, c < z → i 4 c = j 59 c) (x : Int64) (v : Int32) : f_X0_carries 2 x v (mkS n z L i l) = some (bI (!exB (fun k => bt6 x k && decide (j 59 k < v)) z), mkS n z L i l) := by
  have hz := zlt hD
  have key := fsel_loop (fun m t w => f_X0_carries_l3 m 2 x v t w) (fun k => bt6 x k && decide (j 59 k < v)) (fun _ => 0) 1 z (mkS n z L i l) ?_ ?_ z 0 xFu (by omega) (by unfold xFu; omega)
  · unfold f_X0_carries
    rw [fsel_ex] at key
    have e : (if exB (fun k => bt6 x k && decide (j 59 k < v)) z = true then (0 : Int32) else 1) = bI (!exB (fun k => bt6 x k && decide (j 59 k < v)) z) := by
      cases exB (fun k => bt6 x k && decide (j 59 k < v)) z <;> rfl
    rw [e] at key
    exact key
  · intro m
    show f_X0_carries_l3 (m + 1) 2 _ _ (nI z) _ = _
    rw [f_X0_carries_l3_s]
    simp only [mI, mL, mZ, msI, msL, mN1020, gC1, mR1_0, mR1_1, mR1_2, mR1_3, mR1_4, mR1_5, mR1_6, mR1_7, mR1_8, gC2, mR2_6, mR2_7, gC3, mN3, gC4, mN4, gC5, mR5_0, mR5_1, gC6, mN6, gC7, mR7_0, mR7_1, gC8, mR8_0, gC9, mN9, gC10, mR10_0, gC11, mN11, mR11_0, mR11_1, mR11_2, mR11_3, mR11_4, mR11_5, gC12, mR12_0, mR12_1, gC13, mN13, gC14, mN14, gC15, mR15_0, mR15_1, gC16, mN16, gC17, mN17, gC18, mR18_0, mR18_1, gC19, mN19, gC20, mN20, gC21, mR21_0, mR21_1, gC22, mN22, gC23, mN23, gC24, mR24_0, mR24_1, gC25, mN25, gC26, mN26, gC27, mR27_0, mR27_1, gC28, mN28, gC29, mN29, gC30, mR30_0, gC31, mN31, mR31_0, mR31_1, mR31_2, mR31_3, mR31_4, mR31_5, gC32, mR32_0, mR32_1, gC33, mN33, gC34, mN34, gC35, mR35_0, mR35_1, gC36, mN36, gC37, mN37, gC38, mR38_0, mR38_1, gC39, mN39, gC40, mN40, gC41, mR41_0, mR41_1, gC42, mN42, gC43, mN43, gC44, mR44_0, mR44_1, gC45, mN45, gC46, mN46, gC47, mR47_0, mR47_1, gC48, mN48, gC49, mN49, gC50, mR50_0, mR50_1, mR50_2, mR50_3, gC51, mN51, gC52, mN52, gC53, mN53, gC54, mN54, gC55, gC56, gC57, mR57_2, mR57_3, mR57_6, mR57_7, mR57_8, mR57_9, mR57_10, mR57_11, mR57_12, mR57_13, mR57_14, mR57_15, mR57_16, mR57_18, mR57_19, mR57_20, mR57_21, mR57_22, mR57_23, mR57_25, mR57_26, mR57_27, mR57_28, mR57_37, mR57_40, mR57_41, mR57_43, mR57_44, mR57_48, mR57_49, gC58, mN58, gC59, mN59, gC60, mN60, gC61, mN61, gC62, mN62, gC63, mN63, gC64, mN64, gC65, mN65, gC66, mN66, gC67, mN67, gC68, mN68, gC69, mN69, gC70, mN70, gC71, mN71, gC72, mN72, gC73, mN73, gC74, mN74, gC75, mN75, gC76, mN76, gC77, mN77, gC78, mN78, gC79, mN79, gC80, mN80, gC81, mN81, gC82, mN82, gC83, mN83, gC84, mN84, gC85, mN85, gC86, mN86, gC87, mN87, hD.2.2.2.1]
    rw [if_pos (Int32.le_refl _)]
  · intro m k hk
    show f_X0_carries_l3 (m + 1) 2 _ _ (nI k) _ = _
    rw [f_X0_carries_l3_s]
    simp only [mI, mL, mZ, msI, msL, mN1020, gC1, mR1_0, mR1_1, mR1_2, mR1_3, mR1_4, mR1_5, mR1_6, mR1_7, mR1_8, gC2, mR2_6, mR2_7, gC3, mN3, gC4, mN4, gC5, mR5_0, mR5_1, gC6, mN6, gC7, mR7_0, mR7_1, gC8, mR8_0, gC9, mN9, gC10, mR10_0, gC11, mN11, mR11_0, mR11_1, mR11_2, mR11_3, mR11_4, mR11_5, gC12, mR12_0, mR12_1, gC13, mN13, gC14, mN14, gC15, mR15_0, mR15_1, gC16, mN16, gC17, mN17, gC18, mR18_0, mR18_1, gC19, mN19, gC20, mN20, gC21, mR21_0, mR21_1, gC22, mN22, gC23, mN23, gC24, mR24_0, mR24_1, gC25, mN25, gC26, mN26, gC27, mR27_0, mR27_1, gC28, mN28, gC29, mN29, gC30, mR30_0, gC31, mN31, mR31_0, mR31_1, mR31_2, mR31_3, mR31_4, mR31_5, gC32, mR32_0, mR32_1, gC33, mN33, gC34, mN34, gC35, mR35_0, mR35_1, gC36, mN36, gC37, mN37, gC38, mR38_0, mR38_1, gC39, mN39, gC40, mN40, gC41, mR41_0, mR41_1, gC42, mN42, gC43, mN43, gC44, mR44_0, mR44_1, gC45, mN45, gC46, mN46, gC47, mR47_0, mR47_1, gC48, mN48, gC49, mN49, gC50, mR50_0, mR50_1, mR50_2, mR50_3, gC51, mN51, gC52, mN52, gC53, mN53, gC54, mN54, gC55, gC56, gC57, mR57_2, mR57_3, mR57_6, mR57_7, mR57_8, mR57_9, mR57_10, mR57_11, mR57_12, mR57_13, mR57_14, mR57_15, mR57_16, mR57_18, mR57_19, mR57_20, mR57_21, mR57_22, mR57_23, mR57_25, mR57_26, mR57_27, mR57_28, mR57_37, mR57_40, mR57_41, mR57_43, mR57_44, mR57_48, mR57_49, gC58, mN58, gC59, mN59, gC60, mN60, gC61, mN61, gC62, mN62, gC63, mN63, gC64, mN64, gC65, mN65, gC66, mN66, gC67, mN67, gC68, mN68, gC69, mN69, gC70, mN70, gC71, mN71, gC72, mN72, gC73, mN73, gC74, mN74, gC75, mN75, gC76, mN76, gC77, mN77, gC78, mN78, gC79, mN79, gC80, mN80, gC81, mN81, gC82, mN82, gC83, mN83, gC84, mN84, gC85, mN85, gC86, mN86, gC87, mN87, hD.2.2.2.1, only_E, bdS, nI_clamp (show k < 2 ^ 31 by omega), nI_1, hB k hk]
    rw [if_neg (nI_ge hk (by omega)), and1_if _ (by omega), gI hk (by omega)]
    by_cases q1 : bt6 x k = true
    · rw [if_pos q1]
      by_cases q2 : v ≤ j 59 k
      · rw [if_pos q2]; simp [q1, Int32.not_lt.mpr q2]
      · rw [if_neg q2]; simp [q1, Int32.not_le.mp q2]
    · rw [if_neg q1]; simp [q1]
end HIN
