section GEO
variable {C R n z L : Nat} {i : fI} {l : fL}
/-! some number below N -/
def exB (p : Nat → Bool) : Nat → Bool
  | 0 => false
  | k + 1 => exB p k || p k
theorem exB_succ (p : Nat → Bool) (k : Nat) : exB p (k + 1) = (exB p k || p k) := rfl
theorem exB_iff {p : Nat → Bool} : ∀ {N : Nat}, exB p N = true ↔ ∃ k, k < N ∧ p k = true
  | 0 => ⟨fun h => absurd (show false = true from h) (by decide), fun ⟨k, h, _⟩ => absurd h (by omega)⟩
  | N + 1 => by
    unfold exB
    rw [Bool.or_eq_true, exB_iff]
    constructor
    · rintro (⟨k, h1, h2⟩ | h)
      · exact ⟨k, by omega, h2⟩
      · exact ⟨N, by omega, h⟩
    · rintro ⟨k, h1, h2⟩
      by_cases e : k = N
      · subst e; exact Or.inr h2
      · exact Or.inl ⟨k, by omega, h2⟩
theorem exB_f {p : Nat → Bool} {N : Nat} : exB p N = false ↔ ∀ k, k < N → p k = false := by
  constructor
  · intro h k hk
    cases e : p k with
    | false => rfl
    | true => rw [exB_iff.mpr ⟨k, hk, e⟩] at h; exact absurd h (by decide)
  · intro h
    cases e : exB p N with
    | false => rfl
    | true =>
      obtain ⟨k, h1, h2⟩ := exB_iff.mp e
      rw [h k h1] at h2
      exact absurd h2 (by decide)
theorem Bool_iff {a b : Bool} (h : a = true ↔ b = true) : a = b := by
  cases a <;> cases b <;> simp_all
theorem exB_cong {p q : Nat → Bool} {N : Nat} (h : ∀ k, k < N → p k = q k) : exB p N = exB q N := by
  apply Bool_iff
  rw [exB_iff, exB_iff]
  constructor
  · rintro ⟨k, h1, h2⟩; exact ⟨k, h1, by rw [← h k h1]; exact h2⟩
  · rintro ⟨k, h1, h2⟩; exact ⟨k, h1, by rw [h k h1]; exact h2⟩
def bI (b : Bool) : Int32 := if b = true then 1 else 0
theorem bI_if {α : Type} (b : Bool) (x y : α) : (if bI b = 0 then x else y) = if b = true then y else x := by
  cases b <;> rfl
theorem bI_b2i (b : Bool) : b2i (b = true) = bI b := by cases b <;> rfl
theorem fsel_at {p : Nat → Bool} {a b : Int32} : ∀ (k j : Nat), fsel p (fun _ => a) b k j = if exB (fun q => p (j + q)) k = true then a else b
  | 0, j => rfl
  | k + 1, j => by
    unfold fsel
    rw [fsel_at k (j + 1)]
    by_cases c : p j = true
    · rw [if_pos c, if_pos (exB_iff.mpr ⟨0, by omega, c⟩)]
    · rw [if_neg c]
      by_cases d : exB (fun q => p (j + 1 + q)) k = true
      · rw [if_pos d]
        obtain ⟨q, h1, h2⟩ := exB_iff.mp d
        rw [if_pos (exB_iff.mpr ⟨q + 1, by omega, by rw [show j + (q + 1) = j + 1 + q by omega]; exact h2⟩)]
      · rw [if_neg d, if_neg]
        intro e
        obtain ⟨q, h1, h2⟩ := exB_iff.mp e
        cases q with
        | zero => exact c h2
        | succ q => exact d (exB_iff.mpr ⟨q, by omega, by rw [show j + 1 + q = j + (q + 1) by omega]; exact h2⟩)
theorem fsel_ex {p : Nat → Bool} {a b : Int32} (k : Nat) : fsel p (fun _ => a) b k 0 = if exB p k = true then a else b := by
  rw [fsel_at]
  simp only [Nat.zero_add]
/-! the stands, as numbers -/
def wdN (i : fI) (s : Nat) : Nat := (i 63 s).toNatClampNeg
def dpN (i : fI) (s : Nat) : Nat := (i 64 s).toNatClampNeg
def atN (i : fI) (s : Nat) : Nat := (i 66 s).toNatClampNeg
def laB (i : fI) (s : Nat) : Bool := !decide (i 66 s = -1)
def onB (C : Nat) (i : fI) (s c : Nat) : Bool := laB i s && covB C (wdN i s) (dpN i s) (atN i s) c
theorem wdN_E (hV : RelV C R z n i) {s : Nat} (hs : s < n) : i 63 s = nI (wdN i s) ∧ 1 ≤ wdN i s ∧ wdN i s ≤ 4 := by
  obtain ⟨-, -, -, wd, dp, ⟨h1, h2, h3⟩, -, -⟩ := hV s hs
  unfold wdN
  rw [h3, nI_clamp (by omega)]
  exact ⟨rfl, h1, h2⟩
theorem dpN_E (hV : RelV C R z n i) {s : Nat} (hs : s < n) : i 64 s = nI (dpN i s) ∧ 1 ≤ dpN i s ∧ dpN i s ≤ 4 := by
  obtain ⟨-, -, -, wd, dp, -, ⟨h1, h2, h3⟩, -⟩ := hV s hs
  unfold dpN
  rw [h3, nI_clamp (by omega)]
  exact ⟨rfl, h1, h2⟩
theorem atN_E (hD : RelD C R z i) (hV : RelV C R z n i) {s : Nat} (hs : s < n) (hl : ¬ i 66 s = -1) : i 66 s = nI (atN i s) ∧ atN i s < z ∧ atN i s % C + wdN i s ≤ C ∧ atN i s / C + dpN i s ≤ R := by
  have hz := zlt hD
  obtain ⟨-, -, -, wd, dp, ⟨-, h2, h3⟩, ⟨-, h4, h5⟩, h6⟩ := hV s hs
  rcases h6 with h | ⟨a, a1, a2, a3, a4⟩
  · exact absurd h hl
  · unfold atN wdN dpN
    rw [h3, h5, a2, nI_clamp (by omega), nI_clamp (by omega), nI_clamp (by omega)]
    exact ⟨rfl, a1, a3, a4⟩
theorem laB_t {s : Nat} : laB i s = true ↔ ¬ i 66 s = -1 := by unfold laB; simp
theorem cells_E (hD : RelD C R z i) (hV : RelV C R z n i) (hA : RelA C z n i l) {s : Nat} (hs : s < n) (c : Nat) : bt6 (l (88 + s) 7) c = (decide (c < z) && onB C i s c) := by
  by_cases h : i 66 s = -1
  · rw [(hA s hs).1 h, b6_0]
    simp [onB, laB, h]
  · obtain ⟨a1, a2, a3, a4⟩ := atN_E hD hV hs h
    obtain ⟨w1, w2, w3⟩ := wdN_E hV hs
    obtain ⟨d1, d2, d3⟩ := dpN_E hV hs
    rw [(hA s hs).2 _ _ _ w3 d3 a2 w1 d1 a1 c]
    simp [onB, laB, h]
theorem covers_E (hD : RelD C R z i) (hV : RelV C R z n i) (h9 : n ≤ 9) {s a c : Nat} (hs : s < n) (ha : a < z) (hc : c < z) : f_X11_covers 57 (nI s) (nI a) (nI c) (mkS n z L i l) = some (bI (covB C (wdN i s) (dpN i s) a c), mkS n z L i l) := by
  have hz := zlt hD
  obtain ⟨⟨h1, h2, h3, h4, h5⟩, -, -, -, e1, e2⟩ := id hD
  obtain ⟨w1, w2, w3⟩ := wdN_E hV hs
  obtain ⟨d1, d2, d3⟩ := dpN_E hV hs
  have m1 : a % C < C := Nat.mod_lt _ (by omega)
  have m2 : c % C < C := Nat.mod_lt _ (by omega)
  have m3 : a / C ≤ a := Nat.div_le_self _ _
  have m5 := Nat.zero_le (a / C)
  have m6 := Nat.zero_le (c / C)
  have m4 : c / C ≤ c := Nat.div_le_self _ _
  have hC : ¬ nI C = 0 := nI_ne0 (by omega) (by omega)
  simp only [f_X11_covers, mI, mL, mZ, msI, msL, mN1020, gC1, mR1_0, mR1_1, mR1_2, mR1_3, mR1_4, mR1_5, mR1_6, mR1_7, mR1_8, gC2, mR2_6, mR2_7, gC3, mN3, gC4, mN4, gC5, mR5_0, mR5_1, gC6, mN6, gC7, mR7_0, mR7_1, gC8, mR8_0, gC9, mN9, gC10, mR10_0, gC11, mN11, mR11_0, mR11_1, mR11_2, mR11_3, mR11_4, mR11_5, gC12, mR12_0, mR12_1, gC13, mN13, gC14, mN14, gC15, mR15_0, mR15_1, gC16, mN16, gC17, mN17, gC18, mR18_0, mR18_1, gC19, mN19, gC20, mN20, gC21, mR21_0, mR21_1, gC22, mN22, gC23, mN23, gC24, mR24_0, mR24_1, gC25, mN25, gC26, mN26, gC27, mR27_0, mR27_1, gC28, mN28, gC29, mN29, gC30, mR30_0, gC31, mN31, mR31_0, mR31_1, mR31_2, mR31_3, mR31_4, mR31_5, gC32, mR32_0, mR32_1, gC33, mN33, gC34, mN34, gC35, mR35_0, mR35_1, gC36, mN36, gC37, mN37, gC38, mR38_0, mR38_1, gC39, mN39, gC40, mN40, gC41, mR41_0, mR41_1, gC42, mN42, gC43, mN43, gC44, mR44_0, mR44_1, gC45, mN45, gC46, mN46, gC47, mR47_0, mR47_1, gC48, mN48, gC49, mN49, gC50, mR50_0, mR50_1, mR50_2, mR50_3, gC51, mN51, gC52, mN52, gC53, mN53, gC54, mN54, gC55, gC56, gC57, mR57_2, mR57_3, mR57_6, mR57_7, mR57_8, mR57_9, mR57_10, mR57_11, mR57_12, mR57_13, mR57_14, mR57_15, mR57_16, mR57_18, mR57_19, mR57_20, mR57_21, mR57_22, mR57_23, mR57_25, mR57_26, mR57_27, mR57_28, mR57_37, mR57_40, mR57_41, mR57_43, mR57_44, mR57_48, mR57_49, gC58, mN58, gC59, mN59, gC60, mN60, gC61, mN61, gC62, mN62, gC63, mN63, gC64, mN64, gC65, mN65, gC66, mN66, gC67, mN67, gC68, mN68, gC69, mN69, gC70, mN70, gC71, mN71, gC72, mN72, gC73, mN73, gC74, mN74, gC75, mN75, gC76, mN76, gC77, mN77, gC78, mN78, gC79, mN79, gC80, mN80, gC81, mN81, gC82, mN82, gC83, mN83, gC84, mN84, gC85, mN85, gC86, mN86, gC87, mN87, e1, pk_div (show c < 2 ^ 31 by omega) (show 0 < C by omega) (by omega), pk_div (show a < 2 ^ 31 by omega) (show 0 < C by omega) (by omega), pk_rem' (show c < 2 ^ 31 by omega) (show 0 < C by omega) (by omega), pk_rem' (show a < 2 ^ 31 by omega) (show 0 < C by omega) (by omega), nI_clamp (show s < 2 ^ 31 by omega), w1, d1, nI_add, nI_s1 (show 0 < a % C + wdN i s by omega), nI_s1 (show 0 < a / C + dpN i s by omega), in_E, bdS, if_b, gd_t hC, gI (show s < 9 by omega) (show 9 < 2 ^ 31 by omega)]
  have t1 : (nI (a % C) ≤ nI (c % C) ∧ nI (c % C) ≤ nI (a % C + wdN i s - 1)) ↔ (a % C ≤ c % C ∧ c % C < a % C + wdN i s) := by
    rw [nI_leI (by omega) (by omega), nI_leI (by omega) (by omega)]
    omega
  have t2 : (nI (a / C) ≤ nI (c / C) ∧ nI (c / C) ≤ nI (a / C + dpN i s - 1)) ↔ (a / C ≤ c / C ∧ c / C < a / C + dpN i s) := by
    rw [nI_leI (by omega) (by omega), nI_leI (by omega) (by omega)]
    omega
  unfold bI covB
  by_cases q1 : a % C ≤ c % C ∧ c % C < a % C + wdN i s
  · rw [if_pos (t1.mpr q1)]
    by_cases q2 : a / C ≤ c / C ∧ c / C < a / C + dpN i s
    · rw [if_pos (t2.mpr q2)]
      simp [q1, q2]
    · rw [if_neg (fun r => q2 (t2.mp r))]
      rw [if_neg]
      simp only [Bool.and_eq_true, decide_eq_true_eq]
      exact fun r => q2 r.2
  · rw [if_neg (fun r => q1 (t1.mp r))]
    rw [if_neg]
    simp only [Bool.and_eq_true, decide_eq_true_eq]
    exact fun r => q1 r.1
def sOn (C n : Nat) (i : fI) (c : Nat) : Int32 := fsel (fun s => onB C i s c) (fun s => nI s) (-1) n 0
theorem standOnM_E (hD : RelD C R z i) (hN : RelN n i) (hV : RelV C R z n i) {c : Nat} (hc : c < z) : f_X11_standOn 57 (nI c) (mkS n z L i l) = some (sOn C n i c, mkS n z L i l) := by
  have h9 := hN.1
  unfold f_X11_standOn sOn
  refine fsel_loop (fun m s w => f_X11_standOn_l2 m 57 (nI c) s w) _ _ _ n (mkS n z L i l) ?_ ?_ n 0 xFu (by omega) (by unfold xFu; omega)
  · intro m
    show f_X11_standOn_l2 (m + 1) 57 _ (nI n) _ = _
    rw [f_X11_standOn_l2_s]
    simp only [mI, mL, mZ, msI, msL, mN1020, gC1, mR1_0, mR1_1, mR1_2, mR1_3, mR1_4, mR1_5, mR1_6, mR1_7, mR1_8, gC2, mR2_6, mR2_7, gC3, mN3, gC4, mN4, gC5, mR5_0, mR5_1, gC6, mN6, gC7, mR7_0, mR7_1, gC8, mR8_0, gC9, mN9, gC10, mR10_0, gC11, mN11, mR11_0, mR11_1, mR11_2, mR11_3, mR11_4, mR11_5, gC12, mR12_0, mR12_1, gC13, mN13, gC14, mN14, gC15, mR15_0, mR15_1, gC16, mN16, gC17, mN17, gC18, mR18_0, mR18_1, gC19, mN19, gC20, mN20, gC21, mR21_0, mR21_1, gC22, mN22, gC23, mN23, gC24, mR24_0, mR24_1, gC25, mN25, gC26, mN26, gC27, mR27_0, mR27_1, gC28, mN28, gC29, mN29, gC30, mR30_0, gC31, mN31, mR31_0, mR31_1, mR31_2, mR31_3, mR31_4, mR31_5, gC32, mR32_0, mR32_1, gC33, mN33, gC34, mN34, gC35, mR35_0, mR35_1, gC36, mN36, gC37, mN37, gC38, mR38_0, mR38_1, gC39, mN39, gC40, mN40, gC41, mR41_0, mR41_1, gC42, mN42, gC43, mN43, gC44, mR44_0, mR44_1, gC45, mN45, gC46, mN46, gC47, mR47_0, mR47_1, gC48, mN48, gC49, mN49, gC50, mR50_0, mR50_1, mR50_2, mR50_3, gC51, mN51, gC52, mN52, gC53, mN53, gC54, mN54, gC55, gC56, gC57, mR57_2, mR57_3, mR57_6, mR57_7, mR57_8, mR57_9, mR57_10, mR57_11, mR57_12, mR57_13, mR57_14, mR57_15, mR57_16, mR57_18, mR57_19, mR57_20, mR57_21, mR57_22, mR57_23, mR57_25, mR57_26, mR57_27, mR57_28, mR57_37, mR57_40, mR57_41, mR57_43, mR57_44, mR57_48, mR57_49, gC58, mN58, gC59, mN59, gC60, mN60, gC61, mN61, gC62, mN62, gC63, mN63, gC64, mN64, gC65, mN65, gC66, mN66, gC67, mN67, gC68, mN68, gC69, mN69, gC70, mN70, gC71, mN71, gC72, mN72, gC73, mN73, gC74, mN74, gC75, mN75, gC76, mN76, gC77, mN77, gC78, mN78, gC79, mN79, gC80, mN80, gC81, mN81, gC82, mN82, gC83, mN83, gC84, mN84, gC85, mN85, gC86, mN86, gC87, mN87, hN.2.2]
    rw [if_pos (Int32.le_refl _)]
  · intro m s hs
    show f_X11_standOn_l2 (m + 1) 57 _ (nI s) _ = _
    rw [f_X11_standOn_l2_s]
    simp only [mI, mL, mZ, msI, msL, mN1020, gC1, mR1_0, mR1_1, mR1_2, mR1_3, mR1_4, mR1_5, mR1_6, mR1_7, mR1_8, gC2, mR2_6, mR2_7, gC3, mN3, gC4, mN4, gC5, mR5_0, mR5_1, gC6, mN6, gC7, mR7_0, mR7_1, gC8, mR8_0, gC9, mN9, gC10, mR10_0, gC11, mN11, mR11_0, mR11_1, mR11_2, mR11_3, mR11_4, mR11_5, gC12, mR12_0, mR12_1, gC13, mN13, gC14, mN14, gC15, mR15_0, mR15_1, gC16, mN16, gC17, mN17, gC18, mR18_0, mR18_1, gC19, mN19, gC20, mN20, gC21, mR21_0, mR21_1, gC22, mN22, gC23, mN23, gC24, mR24_0, mR24_1, gC25, mN25, gC26, mN26, gC27, mR27_0, mR27_1, gC28, mN28, gC29, mN29, gC30, mR30_0, gC31, mN31, mR31_0, mR31_1, mR31_2, mR31_3, mR31_4, mR31_5, gC32, mR32_0, mR32_1, gC33, mN33, gC34, mN34, gC35, mR35_0, mR35_1, gC36, mN36, gC37, mN37, gC38, mR38_0, mR38_1, gC39, mN39, gC40, mN40, gC41, mR41_0, mR41_1, gC42, mN42, gC43, mN43, gC44, mR44_0, mR44_1, gC45, mN45, gC46, mN46, gC47, mR47_0, mR47_1, gC48, mN48, gC49, mN49, gC50, mR50_0, mR50_1, mR50_2, mR50_3, gC51, mN51, gC52, mN52, gC53, mN53, gC54, mN54, gC55, gC56, gC57, mR57_2, mR57_3, mR57_6, mR57_7, mR57_8, mR57_9, mR57_10, mR57_11, mR57_12, mR57_13, mR57_14, mR57_15, mR57_16, mR57_18, mR57_19, mR57_20, mR57_21, mR57_22, mR57_23, mR57_25, mR57_26, mR57_27, mR57_28, mR57_37, mR57_40, mR57_41, mR57_43, mR57_44, mR57_48, mR57_49, gC58, mN58, gC59, mN59, gC60, mN60, gC61, mN61, gC62, mN62, gC63, mN63, gC64, mN64, gC65, mN65, gC66, mN66, gC67, mN67, gC68, mN68, gC69, mN69, gC70, mN70, gC71, mN71, gC72, mN72, gC73, mN73, gC74, mN74, gC75, mN75, gC76, mN76, gC77, mN77, gC78, mN78, gC79, mN79, gC80, mN80, gC81, mN81, gC82, mN82, gC83, mN83, gC84, mN84, gC85, mN85, gC86, mN86, gC87, mN87, hN.2.2, nI_clamp (show s < 2 ^ 31 by omega)]
    rw [if_neg (nI_ge hs (by omega)), gI (by omega) (by omega), nI_1]
    by_cases e : i 66 s = -1
    · rw [if_pos e, if_neg (by simp [onB, laB, e])]
    · obtain ⟨a1, a2, -, -⟩ := atN_E hD hV hs e
      rw [if_neg e, a1, covers_E hD hV h9 hs a2 hc, bdS, bI_if]
      have : onB C i s c = covB C (wdN i s) (dpN i s) (atN i s) c := by simp [onB, laB, e]
      rw [this]
theorem standOnC_E (hD : RelD C R z i) (hN : RelN n i) (hV : RelV C R z n i) (hA : RelA C z n i l) {c : Nat} (hc : c < z) : f_X5_standOn 5 (nI c) (mkS n z L i l) = some (sOn C n i c, mkS n z L i l) := by
  have h9 := hN.1
  have hz := zlt hD
  unfold f_X5_standOn sOn
  refine fsel_loop (fun m s w => f_X5_standOn_l2 m 5 (nI c) s w) _ _ _ n (mkS n z L i l) ?_ ?_ n 0 xFu (by omega) (by unfold xFu; omega)
  · intro m
    show f_X5_standOn_l2 (m + 1) 5 _ (nI n) _ = _
    rw [f_X5_standOn_l2_s]
    simp only [mI, mL, mZ, msI, msL, mN1020, gC1, mR1_0, mR1_1, mR1_2, mR1_3, mR1_4, mR1_5, mR1_6, mR1_7, mR1_8, gC2, mR2_6, mR2_7, gC3, mN3, gC4, mN4, gC5, mR5_0, mR5_1, gC6, mN6, gC7, mR7_0, mR7_1, gC8, mR8_0, gC9, mN9, gC10, mR10_0, gC11, mN11, mR11_0, mR11_1, mR11_2, mR11_3, mR11_4, mR11_5, gC12, mR12_0, mR12_1, gC13, mN13, gC14, mN14, gC15, mR15_0, mR15_1, gC16, mN16, gC17, mN17, gC18, mR18_0, mR18_1, gC19, mN19, gC20, mN20, gC21, mR21_0, mR21_1, gC22, mN22, gC23, mN23, gC24, mR24_0, mR24_1, gC25, mN25, gC26, mN26, gC27, mR27_0, mR27_1, gC28, mN28, gC29, mN29, gC30, mR30_0, gC31, mN31, mR31_0, mR31_1, mR31_2, mR31_3, mR31_4, mR31_5, gC32, mR32_0, mR32_1, gC33, mN33, gC34, mN34, gC35, mR35_0, mR35_1, gC36, mN36, gC37, mN37, gC38, mR38_0, mR38_1, gC39, mN39, gC40, mN40, gC41, mR41_0, mR41_1, gC42, mN42, gC43, mN43, gC44, mR44_0, mR44_1, gC45, mN45, gC46, mN46, gC47, mR47_0, mR47_1, gC48, mN48, gC49, mN49, gC50, mR50_0, mR50_1, mR50_2, mR50_3, gC51, mN51, gC52, mN52, gC53, mN53, gC54, mN54, gC55, gC56, gC57, mR57_2, mR57_3, mR57_6, mR57_7, mR57_8, mR57_9, mR57_10, mR57_11, mR57_12, mR57_13, mR57_14, mR57_15, mR57_16, mR57_18, mR57_19, mR57_20, mR57_21, mR57_22, mR57_23, mR57_25, mR57_26, mR57_27, mR57_28, mR57_37, mR57_40, mR57_41, mR57_43, mR57_44, mR57_48, mR57_49, gC58, mN58, gC59, mN59, gC60, mN60, gC61, mN61, gC62, mN62, gC63, mN63, gC64, mN64, gC65, mN65, gC66, mN66, gC67, mN67, gC68, mN68, gC69, mN69, gC70, mN70, gC71, mN71, gC72, mN72, gC73, mN73, gC74, mN74, gC75, mN75, gC76, mN76, gC77, mN77, gC78, mN78, gC79, mN79, gC80, mN80, gC81, mN81, gC82, mN82, gC83, mN83, gC84, mN84, gC85, mN85, gC86, mN86, gC87, mN87, hN.2.1]
    rw [if_pos (Int32.le_refl _)]
  · intro m s hs
    show f_X5_standOn_l2 (m + 1) 5 _ (nI s) _ = _
    rw [f_X5_standOn_l2_s]
    simp only [mI, mL, mZ, msI, msL, mN1020, gC1, mR1_0, mR1_1, mR1_2, mR1_3, mR1_4, mR1_5, mR1_6, mR1_7, mR1_8, gC2, mR2_6, mR2_7, gC3, mN3, gC4, mN4, gC5, mR5_0, mR5_1, gC6, mN6, gC7, mR7_0, mR7_1, gC8, mR8_0, gC9, mN9, gC10, mR10_0, gC11, mN11, mR11_0, mR11_1, mR11_2, mR11_3, mR11_4, mR11_5, gC12, mR12_0, mR12_1, gC13, mN13, gC14, mN14, gC15, mR15_0, mR15_1, gC16, mN16, gC17, mN17, gC18, mR18_0, mR18_1, gC19, mN19, gC20, mN20, gC21, mR21_0, mR21_1, gC22, mN22, gC23, mN23, gC24, mR24_0, mR24_1, gC25, mN25, gC26, mN26, gC27, mR27_0, mR27_1, gC28, mN28, gC29, mN29, gC30, mR30_0, gC31, mN31, mR31_0, mR31_1, mR31_2, mR31_3, mR31_4, mR31_5, gC32, mR32_0, mR32_1, gC33, mN33, gC34, mN34, gC35, mR35_0, mR35_1, gC36, mN36, gC37, mN37, gC38, mR38_0, mR38_1, gC39, mN39, gC40, mN40, gC41, mR41_0, mR41_1, gC42, mN42, gC43, mN43, gC44, mR44_0, mR44_1, gC45, mN45, gC46, mN46, gC47, mR47_0, mR47_1, gC48, mN48, gC49, mN49, gC50, mR50_0, mR50_1, mR50_2, mR50_3, gC51, mN51, gC52, mN52, gC53, mN53, gC54, mN54, gC55, gC56, gC57, mR57_2, mR57_3, mR57_6, mR57_7, mR57_8, mR57_9, mR57_10, mR57_11, mR57_12, mR57_13, mR57_14, mR57_15, mR57_16, mR57_18, mR57_19, mR57_20, mR57_21, mR57_22, mR57_23, mR57_25, mR57_26, mR57_27, mR57_28, mR57_37, mR57_40, mR57_41, mR57_43, mR57_44, mR57_48, mR57_49, gC58, mN58, gC59, mN59, gC60, mN60, gC61, mN61, gC62, mN62, gC63, mN63, gC64, mN64, gC65, mN65, gC66, mN66, gC67, mN67, gC68, mN68, gC69, mN69, gC70, mN70, gC71, mN71, gC72, mN72, gC73, mN73, gC74, mN74, gC75, mN75, gC76, mN76, gC77, mN77, gC78, mN78, gC79, mN79, gC80, mN80, gC81, mN81, gC82, mN82, gC83, mN83, gC84, mN84, gC85, mN85, gC86, mN86, gC87, mN87, hN.2.1, nI_clamp (show s < 2 ^ 31 by omega), mR6_t hs, gCS hs, only_E, bdS]
    rw [if_neg (nI_ge hs (by omega)), gI (by omega) (by omega), nI_1, and1_if _ (by omega), cells_E hD hV hA hs]
    have : (decide (c < z) && onB C i s c) = onB C i s c := by simp [hc]
    rw [this]
theorem op_at (h : Rel C R n z i l) (x : Int32) : OpOK C R n z L (f_X10_at 1 x) (f_X11_at 57 x) i l := by
  obtain ⟨hD, hE, hK, hB, hG, hN, hF, hV, hA, hX, hT, hU, hJ, hM, hL, hO, hY, hP⟩ := id h
  rcases ix_em z x with ⟨c, hc, rfl⟩ | hx
  · refine ⟨sOn C n i c, mkS n z L i l, n, i, l, ?_, ?_, ⟨_, _, rfl, by repeat first | exact Fr_rfl | refine Fr_u2 ?_ (by unfold sQ; omega)⟩, h⟩
    · simp only [f_X10_at, has_t hD hc, bdS, mI, mL, mZ, msI, msL, mN1020, gC1, mR1_0, mR1_1, mR1_2, mR1_3, mR1_4, mR1_5, mR1_6, mR1_7, mR1_8, gC2, mR2_6, mR2_7, gC3, mN3, gC4, mN4, gC5, mR5_0, mR5_1, gC6, mN6, gC7, mR7_0, mR7_1, gC8, mR8_0, gC9, mN9, gC10, mR10_0, gC11, mN11, mR11_0, mR11_1, mR11_2, mR11_3, mR11_4, mR11_5, gC12, mR12_0, mR12_1, gC13, mN13, gC14, mN14, gC15, mR15_0, mR15_1, gC16, mN16, gC17, mN17, gC18, mR18_0, mR18_1, gC19, mN19, gC20, mN20, gC21, mR21_0, mR21_1, gC22, mN22, gC23, mN23, gC24, mR24_0, mR24_1, gC25, mN25, gC26, mN26, gC27, mR27_0, mR27_1, gC28, mN28, gC29, mN29, gC30, mR30_0, gC31, mN31, mR31_0, mR31_1, mR31_2, mR31_3, mR31_4, mR31_5, gC32, mR32_0, mR32_1, gC33, mN33, gC34, mN34, gC35, mR35_0, mR35_1, gC36, mN36, gC37, mN37, gC38, mR38_0, mR38_1, gC39, mN39, gC40, mN40, gC41, mR41_0, mR41_1, gC42, mN42, gC43, mN43, gC44, mR44_0, mR44_1, gC45, mN45, gC46, mN46, gC47, mR47_0, mR47_1, gC48, mN48, gC49, mN49, gC50, mR50_0, mR50_1, mR50_2, mR50_3, gC51, mN51, gC52, mN52, gC53, mN53, gC54, mN54, gC55, gC56, gC57, mR57_2, mR57_3, mR57_6, mR57_7, mR57_8, mR57_9, mR57_10, mR57_11, mR57_12, mR57_13, mR57_14, mR57_15, mR57_16, mR57_18, mR57_19, mR57_20, mR57_21, mR57_22, mR57_23, mR57_25, mR57_26, mR57_27, mR57_28, mR57_37, mR57_40, mR57_41, mR57_43, mR57_44, mR57_48, mR57_49, gC58, mN58, gC59, mN59, gC60, mN60, gC61, mN61, gC62, mN62, gC63, mN63, gC64, mN64, gC65, mN65, gC66, mN66, gC67, mN67, gC68, mN68, gC69, mN69, gC70, mN70, gC71, mN71, gC72, mN72, gC73, mN73, gC74, mN74, gC75, mN75, gC76, mN76, gC77, mN77, gC78, mN78, gC79, mN79, gC80, mN80, gC81, mN81, gC82, mN82, gC83, mN83, gC84, mN84, gC85, mN85, gC86, mN86, gC87, mN87, standOnC_E hD hN hV hA hc]
      rw [if_neg (by decide)]
    · simp only [f_X11_at, isCell_t hD hc, bdS, mI, mL, mZ, msI, msL, mN1020, gC1, mR1_0, mR1_1, mR1_2, mR1_3, mR1_4, mR1_5, mR1_6, mR1_7, mR1_8, gC2, mR2_6, mR2_7, gC3, mN3, gC4, mN4, gC5, mR5_0, mR5_1, gC6, mN6, gC7, mR7_0, mR7_1, gC8, mR8_0, gC9, mN9, gC10, mR10_0, gC11, mN11, mR11_0, mR11_1, mR11_2, mR11_3, mR11_4, mR11_5, gC12, mR12_0, mR12_1, gC13, mN13, gC14, mN14, gC15, mR15_0, mR15_1, gC16, mN16, gC17, mN17, gC18, mR18_0, mR18_1, gC19, mN19, gC20, mN20, gC21, mR21_0, mR21_1, gC22, mN22, gC23, mN23, gC24, mR24_0, mR24_1, gC25, mN25, gC26, mN26, gC27, mR27_0, mR27_1, gC28, mN28, gC29, mN29, gC30, mR30_0, gC31, mN31, mR31_0, mR31_1, mR31_2, mR31_3, mR31_4, mR31_5, gC32, mR32_0, mR32_1, gC33, mN33, gC34, mN34, gC35, mR35_0, mR35_1, gC36, mN36, gC37, mN37, gC38, mR38_0, mR38_1, gC39, mN39, gC40, mN40, gC41, mR41_0, mR41_1, gC42, mN42, gC43, mN43, gC44, mR44_0, mR44_1, gC45, mN45, gC46, mN46, gC47, mR47_0, mR47_1, gC48, mN48, gC49, mN49, gC50, mR50_0, mR50_1, mR50_2, mR50_3, gC51, mN51, gC52, mN52, gC53, mN53, gC54, mN54, gC55, gC56, gC57, mR57_2, mR57_3, mR57_6, mR57_7, mR57_8, mR57_9, mR57_10, mR57_11, mR57_12, mR57_13, mR57_14, mR57_15, mR57_16, mR57_18, mR57_19, mR57_20, mR57_21, mR57_22, mR57_23, mR57_25, mR57_26, mR57_27, mR57_28, mR57_37, mR57_40, mR57_41, mR57_43, mR57_44, mR57_48, mR57_49, gC58, mN58, gC59, mN59, gC60, mN60, gC61, mN61, gC62, mN62, gC63, mN63, gC64, mN64, gC65, mN65, gC66, mN66, gC67, mN67, gC68, mN68, gC69, mN69, gC70, mN70, gC71, mN71, gC72, mN72, gC73, mN73, gC74, mN74, gC75, mN75, gC76, mN76, gC77, mN77, gC78, mN78, gC79, mN79, gC80, mN80, gC81, mN81, gC82, mN82, gC83, mN83, gC84, mN84, gC85, mN85, gC86, mN86, gC87, mN87, standOnM_E hD hN hV hc]
      rw [if_neg (by decide)]
  · refine ⟨-1, mkS n z L i l, n, i, l, ?_, ?_, ⟨_, _, rfl, by repeat first | exact Fr_rfl | refine Fr_u2 ?_ (by unfold sQ; omega)⟩, h⟩
    · simp only [f_X10_at, has_f hD hx, bdS, mI, mL, mZ, msI, msL, mN1020, gC1, mR1_0, mR1_1, mR1_2, mR1_3, mR1_4, mR1_5, mR1_6, mR1_7, mR1_8, gC2, mR2_6, mR2_7, gC3, mN3, gC4, mN4, gC5, mR5_0, mR5_1, gC6, mN6, gC7, mR7_0, mR7_1, gC8, mR8_0, gC9, mN9, gC10, mR10_0, gC11, mN11, mR11_0, mR11_1, mR11_2, mR11_3, mR11_4, mR11_5, gC12, mR12_0, mR12_1, gC13, mN13, gC14, mN14, gC15, mR15_0, mR15_1, gC16, mN16, gC17, mN17, gC18, mR18_0, mR18_1, gC19, mN19, gC20, mN20, gC21, mR21_0, mR21_1, gC22, mN22, gC23, mN23, gC24, mR24_0, mR24_1, gC25, mN25, gC26, mN26, gC27, mR27_0, mR27_1, gC28, mN28, gC29, mN29, gC30, mR30_0, gC31, mN31, mR31_0, mR31_1, mR31_2, mR31_3, mR31_4, mR31_5, gC32, mR32_0, mR32_1, gC33, mN33, gC34, mN34, gC35, mR35_0, mR35_1, gC36, mN36, gC37, mN37, gC38, mR38_0, mR38_1, gC39, mN39, gC40, mN40, gC41, mR41_0, mR41_1, gC42, mN42, gC43, mN43, gC44, mR44_0, mR44_1, gC45, mN45, gC46, mN46, gC47, mR47_0, mR47_1, gC48, mN48, gC49, mN49, gC50, mR50_0, mR50_1, mR50_2, mR50_3, gC51, mN51, gC52, mN52, gC53, mN53, gC54, mN54, gC55, gC56, gC57, mR57_2, mR57_3, mR57_6, mR57_7, mR57_8, mR57_9, mR57_10, mR57_11, mR57_12, mR57_13, mR57_14, mR57_15, mR57_16, mR57_18, mR57_19, mR57_20, mR57_21, mR57_22, mR57_23, mR57_25, mR57_26, mR57_27, mR57_28, mR57_37, mR57_40, mR57_41, mR57_43, mR57_44, mR57_48, mR57_49, gC58, mN58, gC59, mN59, gC60, mN60, gC61, mN61, gC62, mN62, gC63, mN63, gC64, mN64, gC65, mN65, gC66, mN66, gC67, mN67, gC68, mN68, gC69, mN69, gC70, mN70, gC71, mN71, gC72, mN72, gC73, mN73, gC74, mN74, gC75, mN75, gC76, mN76, gC77, mN77, gC78, mN78, gC79, mN79, gC80, mN80, gC81, mN81, gC82, mN82, gC83, mN83, gC84, mN84, gC85, mN85, gC86, mN86, gC87, mN87, if_pos]
    · simp only [f_X11_at, isCell_f hD hx, bdS, mI, mL, mZ, msI, msL, mN1020, gC1, mR1_0, mR1_1, mR1_2, mR1_3, mR1_4, mR1_5, mR1_6, mR1_7, mR1_8, gC2, mR2_6, mR2_7, gC3, mN3, gC4, mN4, gC5, mR5_0, mR5_1, gC6, mN6, gC7, mR7_0, mR7_1, gC8, mR8_0, gC9, mN9, gC10, mR10_0, gC11, mN11, mR11_0, mR11_1, mR11_2, mR11_3, mR11_4, mR11_5, gC12, mR12_0, mR12_1, gC13, mN13, gC14, mN14, gC15, mR15_0, mR15_1, gC16, mN16, gC17, mN17, gC18, mR18_0, mR18_1, gC19, mN19, gC20, mN20, gC21, mR21_0, mR21_1, gC22, mN22, gC23, mN23, gC24, mR24_0, mR24_1, gC25, mN25, gC26, mN26, gC27, mR27_0, mR27_1, gC28, mN28, gC29, mN29, gC30, mR30_0, gC31, mN31, mR31_0, mR31_1, mR31_2, mR31_3, mR31_4, mR31_5, gC32, mR32_0, mR32_1, gC33, mN33, gC34, mN34, gC35, mR35_0, mR35_1, gC36, mN36, gC37, mN37, gC38, mR38_0, mR38_1, gC39, mN39, gC40, mN40, gC41, mR41_0, mR41_1, gC42, mN42, gC43, mN43, gC44, mR44_0, mR44_1, gC45, mN45, gC46, mN46, gC47, mR47_0, mR47_1, gC48, mN48, gC49, mN49, gC50, mR50_0, mR50_1, mR50_2, mR50_3, gC51, mN51, gC52, mN52, gC53, mN53, gC54, mN54, gC55, gC56, gC57, mR57_2, mR57_3, mR57_6, mR57_7, mR57_8, mR57_9, mR57_10, mR57_11, mR57_12, mR57_13, mR57_14, mR57_15, mR57_16, mR57_18, mR57_19, mR57_20, mR57_21, mR57_22, mR57_23, mR57_25, mR57_26, mR57_27, mR57_28, mR57_37, mR57_40, mR57_41, mR57_43, mR57_44, mR57_48, mR57_49, gC58, mN58, gC59, mN59, gC60, mN60, gC61, mN61, gC62, mN62, gC63, mN63, gC64, mN64, gC65, mN65, gC66, mN66, gC67, mN67, gC68, mN68, gC69, mN69, gC70, mN70, gC71, mN71, gC72, mN72, gC73, mN73, gC74, mN74, gC75, mN75, gC76, mN76, gC77, mN77, gC78, mN78, gC79, mN79, gC80, mN80, gC81, mN81, gC82, mN82, gC83, mN83, gC84, mN84, gC85, mN85, gC86, mN86, gC87, mN87, if_pos]
/-! the cells of a stand -/
theorem col_E (hD : RelD C R z i) {c : Nat} (hc : c < z) : f_X0_columnOf 2 (nI c) (mkS n z L i l) = some (nI (c % C), mkS n z L i l) := by
  have hz := zlt hD
  obtain ⟨⟨h1, h2, h3, h4, h5⟩, e1, -⟩ := id hD
  simp only [f_X0_columnOf, mI, mL, mZ, msI, msL, mN1020, gC1, mR1_0, mR1_1, mR1_2, mR1_3, mR1_4, mR1_5, mR1_6, mR1_7, mR1_8, gC2, mR2_6, mR2_7, gC3, mN3, gC4, mN4, gC5, mR5_0, mR5_1, gC6, mN6, gC7, mR7_0, mR7_1, gC8, mR8_0, gC9, mN9, gC10, mR10_0, gC11, mN11, mR11_0, mR11_1, mR11_2, mR11_3, mR11_4, mR11_5, gC12, mR12_0, mR12_1, gC13, mN13, gC14, mN14, gC15, mR15_0, mR15_1, gC16, mN16, gC17, mN17, gC18, mR18_0, mR18_1, gC19, mN19, gC20, mN20, gC21, mR21_0, mR21_1, gC22, mN22, gC23, mN23, gC24, mR24_0, mR24_1, gC25, mN25, gC26, mN26, gC27, mR27_0, mR27_1, gC28, mN28, gC29, mN29, gC30, mR30_0, gC31, mN31, mR31_0, mR31_1, mR31_2, mR31_3, mR31_4, mR31_5, gC32, mR32_0, mR32_1, gC33, mN33, gC34, mN34, gC35, mR35_0, mR35_1, gC36, mN36, gC37, mN37, gC38, mR38_0, mR38_1, gC39, mN39, gC40, mN40, gC41, mR41_0, mR41_1, gC42, mN42, gC43, mN43, gC44, mR44_0, mR44_1, gC45, mN45, gC46, mN46, gC47, mR47_0, mR47_1, gC48, mN48, gC49, mN49, gC50, mR50_0, mR50_1, mR50_2, mR50_3, gC51, mN51, gC52, mN52, gC53, mN53, gC54, mN54, gC55, gC56, gC57, mR57_2, mR57_3, mR57_6, mR57_7, mR57_8, mR57_9, mR57_10, mR57_11, mR57_12, mR57_13, mR57_14, mR57_15, mR57_16, mR57_18, mR57_19, mR57_20, mR57_21, mR57_22, mR57_23, mR57_25, mR57_26, mR57_27, mR57_28, mR57_37, mR57_40, mR57_41, mR57_43, mR57_44, mR57_48, mR57_49, gC58, mN58, gC59, mN59, gC60, mN60, gC61, mN61, gC62, mN62, gC63, mN63, gC64, mN64, gC65, mN65, gC66, mN66, gC67, mN67, gC68, mN68, gC69, mN69, gC70, mN70, gC71, mN71, gC72, mN72, gC73, mN73, gC74, mN74, gC75, mN75, gC76, mN76, gC77, mN77, gC78, mN78, gC79, mN79, gC80, mN80, gC81, mN81, gC82, mN82, gC83, mN83, gC84, mN84, gC85, mN85, gC86, mN86, gC87, mN87, e1]
  rw [gd_t (nI_ne0 (by omega) (by omega)), pk_rem (by omega) (by omega) (by omega)]
theorem line_E (hD : RelD C R z i) {c : Nat} (hc : c < z) : f_X0_lineOf 2 (nI c) (mkS n z L i l) = some (nI (c / C), mkS n z L i l) := by
  have hz := zlt hD
  obtain ⟨⟨h1, h2, h3, h4, h5⟩, e1, -⟩ := id hD
  simp only [f_X0_lineOf, mI, mL, mZ, msI, msL, mN1020, gC1, mR1_0, mR1_1, mR1_2, mR1_3, mR1_4, mR1_5, mR1_6, mR1_7, mR1_8, gC2, mR2_6, mR2_7, gC3, mN3, gC4, mN4, gC5, mR5_0, mR5_1, gC6, mN6, gC7, mR7_0, mR7_1, gC8, mR8_0, gC9, mN9, gC10, mR10_0, gC11, mN11, mR11_0, mR11_1, mR11_2, mR11_3, mR11_4, mR11_5, gC12, mR12_0, mR12_1, gC13, mN13, gC14, mN14, gC15, mR15_0, mR15_1, gC16, mN16, gC17, mN17, gC18, mR18_0, mR18_1, gC19, mN19, gC20, mN20, gC21, mR21_0, mR21_1, gC22, mN22, gC23, mN23, gC24, mR24_0, mR24_1, gC25, mN25, gC26, mN26, gC27, mR27_0, mR27_1, gC28, mN28, gC29, mN29, gC30, mR30_0, gC31, mN31, mR31_0, mR31_1, mR31_2, mR31_3, mR31_4, mR31_5, gC32, mR32_0, mR32_1, gC33, mN33, gC34, mN34, gC35, mR35_0, mR35_1, gC36, mN36, gC37, mN37, gC38, mR38_0, mR38_1, gC39, mN39, gC40, mN40, gC41, mR41_0, mR41_1, gC42, mN42, gC43, mN43, gC44, mR44_0, mR44_1, gC45, mN45, gC46, mN46, gC47, mR47_0, mR47_1, gC48, mN48, gC49, mN49, gC50, mR50_0, mR50_1, mR50_2, mR50_3, gC51, mN51, gC52, mN52, gC53, mN53, gC54, mN54, gC55, gC56, gC57, mR57_2, mR57_3, mR57_6, mR57_7, mR57_8, mR57_9, mR57_10, mR57_11, mR57_12, mR57_13, mR57_14, mR57_15, mR57_16, mR57_18, mR57_19, mR57_20, mR57_21, mR57_22, mR57_23, mR57_25, mR57_26, mR57_27, mR57_28, mR57_37, mR57_40, mR57_41, mR57_43, mR57_44, mR57_48, mR57_49, gC58, mN58, gC59, mN59, gC60, mN60, gC61, mN61, gC62, mN62, gC63, mN63, gC64, mN64, gC65, mN65, gC66, mN66, gC67, mN67, gC68, mN68, gC69, mN69, gC70, mN70, gC71, mN71, gC72, mN72, gC73, mN73, gC74, mN74, gC75, mN75, gC76, mN76, gC77, mN77, gC78, mN78, gC79, mN79, gC80, mN80, gC81, mN81, gC82, mN82, gC83, mN83, gC84, mN84, gC85, mN85, gC86, mN86, gC87, mN87, e1]
  rw [gd_t (nI_ne0 (by omega) (by omega)), pk_div (by omega) (by omega) (by omega)]
def lnW (W : Nat) : Int64 := ((1 : Int64) <<< ((nI W).toInt64 &&& 63)) - (1 : Int64)
theorem lnW_b {W : Nat} (h1 : 1 ≤ W) (h2 : W ≤ 4) (k : Nat) : bt6 (lnW W) k = decide (k < W) := by
  have g : ∀ (x : Int64) (m : Nat), x.toBitVec.toNat = 2 ^ m - 1 → bt6 x k = decide (k < m) := by
    intro x m hx
    show x.toBitVec.toNat.testBit k = _
    rw [hx, Nat.testBit_two_pow_sub_one]
  have : W = 1 ∨ W = 2 ∨ W = 3 ∨ W = 4 := by omega
  rcases this with rfl | rfl | rfl | rfl
  · exact g _ 1 (by decide)
  · exact g _ 2 (by decide)
  · exact g _ 3 (by decide)
  · exact g _ 4 (by decide)
def arV (C c W : Nat) : Nat → Int64
  | 0 => 0
  | j + 1 => arV C c W j ||| (lnW W <<< ((nI (c + j * C)).toInt64 &&& 63))
theorem fit_lt {C R c D : Nat} (h0 : 0 < C) (h : c / C + D ≤ R) {j : Nat} (hj : j < D) : c + j * C < C * R := by
  have e := Nat.div_add_mod c C
  have m : c % C < C := Nat.mod_lt _ h0
  have h3 : C * (c / C + j + 1) ≤ C * R := Nat.mul_le_mul_left C (by omega)
  rw [Nat.mul_add, Nat.mul_add] at h3
  rw [Nat.mul_comm j C]
  omega
theorem arV_b {C R c W D : Nat} (h0 : 0 < C) (hz : C * R ≤ 64) (w1 : 1 ≤ W) (w4 : W ≤ 4) (hD : c / C + D ≤ R) (k : Nat) : ∀ j, j ≤ D → bt6 (arV C c W j) k = (decide (k < 64) && exB (fun r => decide (c + r * C ≤ k) && decide (k - (c + r * C) < W)) j)
  | 0, _ => by
    show bt6 0 k = _
    rw [b6_0]
    simp [exB]
  | j + 1, hj => by
    have := fit_lt h0 hD (show j < D by omega)
    show bt6 (arV C c W j ||| _) k = _
    rw [b6_or, arV_b h0 hz w1 w4 hD k j (by omega), b6_shl _ (by omega), lnW_b w1 w4]
    rw [exB_succ]
    cases decide (k < 64) <;> simp
theorem cov_iff {C c W D k : Nat} (h0 : 0 < C) (hW : c % C + W ≤ C) : (∃ r, r < D ∧ c + r * C ≤ k ∧ k - (c + r * C) < W) ↔ covB C W D c k = true := by
  rw [covB_iff]
  unfold cov
  have ec := Nat.div_add_mod c C
  have ek := Nat.div_add_mod k C
  have mk : k % C < C := Nat.mod_lt _ h0
  constructor
  · rintro ⟨r, h1, h2, h3⟩
    obtain ⟨x, hx⟩ : ∃ x, k = c + r * C + x := ⟨k - (c + r * C), by omega⟩
    have hxW : x < W := by omega
    have e2 : k = (c % C + x) + C * (c / C + r) := by
      rw [Nat.mul_add, Nat.mul_comm C r]
      omega
    have q1 : k / C = c / C + r := by
      rw [e2, Nat.add_mul_div_left _ _ h0, Nat.div_eq_of_lt (by omega)]
      omega
    have q2 : k % C = c % C + x := by
      rw [e2, Nat.add_mul_mod_self_left, Nat.mod_eq_of_lt (by omega)]
    omega
  · rintro ⟨⟨h1, h2⟩, h3, h4⟩
    obtain ⟨r, hr⟩ : ∃ r, k / C = c / C + r := ⟨k / C - c / C, by omega⟩
    have e3 : C * (k / C) = C * (c / C) + r * C := by rw [hr, Nat.mul_add, Nat.mul_comm C r]
    exact ⟨r, by omega, by omega, by omega⟩
theorem cov_lt {C R c W D k : Nat} (h0 : 0 < C) (hD : c / C + D ≤ R) (h : covB C W D c k = true) : k < C * R := by
  have := (covB_iff.mp h).2
  have ek := Nat.div_add_mod k C
  have mk : k % C < C := Nat.mod_lt _ h0
  have h3 : C * (k / C + 1) ≤ C * R := Nat.mul_le_mul_left C (by omega)
  rw [Nat.mul_add] at h3
  omega
def areaV (C R c W D : Nat) : Int64 := if c % C + W ≤ C ∧ c / C + D ≤ R then arV C c W D else 0
theorem area_E (hD : RelD C R z i) {c W D : Nat} (hc : c < z) (w4 : W ≤ 4) (d4 : D ≤ 4) : f_X0_area 2 (nI c) (nI W) (nI D) (mkS n z L i l) = some (areaV C R c W D, mkS n z L i l) := by
  have hz := zlt hD
  obtain ⟨⟨h1, h2, h3, h4, h5⟩, e1, e2, -⟩ := id hD
  have m1 : c % C < C := Nat.mod_lt _ (by omega)
  have m3 : c / C ≤ c := Nat.div_le_self _ _
  have m6 := Nat.zero_le (c / C)
  simp only [f_X0_area, mI, mL, mZ, msI, msL, mN1020, gC1, mR1_0, mR1_1, mR1_2, mR1_3, mR1_4, mR1_5, mR1_6, mR1_7, mR1_8, gC2, mR2_6, mR2_7, gC3, mN3, gC4, mN4, gC5, mR5_0, mR5_1, gC6, mN6, gC7, mR7_0, mR7_1, gC8, mR8_0, gC9, mN9, gC10, mR10_0, gC11, mN11, mR11_0, mR11_1, mR11_2, mR11_3, mR11_4, mR11_5, gC12, mR12_0, mR12_1, gC13, mN13, gC14, mN14, gC15, mR15_0, mR15_1, gC16, mN16, gC17, mN17, gC18, mR18_0, mR18_1, gC19, mN19, gC20, mN20, gC21, mR21_0, mR21_1, gC22, mN22, gC23, mN23, gC24, mR24_0, mR24_1, gC25, mN25, gC26, mN26, gC27, mR27_0, mR27_1, gC28, mN28, gC29, mN29, gC30, mR30_0, gC31, mN31, mR31_0, mR31_1, mR31_2, mR31_3, mR31_4, mR31_5, gC32, mR32_0, mR32_1, gC33, mN33, gC34, mN34, gC35, mR35_0, mR35_1, gC36, mN36, gC37, mN37, gC38, mR38_0, mR38_1, gC39, mN39, gC40, mN40, gC41, mR41_0, mR41_1, gC42, mN42, gC43, mN43, gC44, mR44_0, mR44_1, gC45, mN45, gC46, mN46, gC47, mR47_0, mR47_1, gC48, mN48, gC49, mN49, gC50, mR50_0, mR50_1, mR50_2, mR50_3, gC51, mN51, gC52, mN52, gC53, mN53, gC54, mN54, gC55, gC56, gC57, mR57_2, mR57_3, mR57_6, mR57_7, mR57_8, mR57_9, mR57_10, mR57_11, mR57_12, mR57_13, mR57_14, mR57_15, mR57_16, mR57_18, mR57_19, mR57_20, mR57_21, mR57_22, mR57_23, mR57_25, mR57_26, mR57_27, mR57_28, mR57_37, mR57_40, mR57_41, mR57_43, mR57_44, mR57_48, mR57_49, gC58, mN58, gC59, mN59, gC60, mN60, gC61, mN61, gC62, mN62, gC63, mN63, gC64, mN64, gC65, mN65, gC66, mN66, gC67, mN67, gC68, mN68, gC69, mN69, gC70, mN70, gC71, mN71, gC72, mN72, gC73, mN73, gC74, mN74, gC75, mN75, gC76, mN76, gC77, mN77, gC78, mN78, gC79, mN79, gC80, mN80, gC81, mN81, gC82, mN82, gC83, mN83, gC84, mN84, gC85, mN85, gC86, mN86, gC87, mN87, col_E hD hc, line_E hD hc, bdS, e1, e2, nI_add]
  unfold areaV
  by_cases q1 : c % C + W ≤ C
  · rw [if_neg (by rw [nI_ltI (by omega) (by omega)]; omega)]
    by_cases q2 : c / C + D ≤ R
    · rw [if_pos ((nI_leI (by omega) (by omega)).mpr q2), if_pos ⟨q1, q2⟩]
      refine acc_loop (fun m a s w => f_X0_area_l43 m 2 (nI c) (nI D) (((1 : Int64) <<< ((nI W).toInt64 &&& 63)) - (1 : Int64)) a s w) (fun j => arV C c W j) (fun _ => mkS n z L i l) D _ ?_ ?_ D 0 xFu (by omega) (by unfold xFu; omega)
      · intro m
        show f_X0_area_l43 (m + 1) 2 _ _ _ _ (nI D) _ = _
        rw [f_X0_area_l43_s, if_pos (Int32.le_refl _)]
      · intro m s hs
        show f_X0_area_l43 (m + 1) 2 _ _ _ _ (nI s) _ = f_X0_area_l43 m 2 _ _ _ (arV C c W (s + 1)) (nI (s + 1)) _
        rw [f_X0_area_l43_s, if_neg (nI_ge hs (by omega))]
        simp only [mI, mL, mZ, msI, msL, mN1020, gC1, mR1_0, mR1_1, mR1_2, mR1_3, mR1_4, mR1_5, mR1_6, mR1_7, mR1_8, gC2, mR2_6, mR2_7, gC3, mN3, gC4, mN4, gC5, mR5_0, mR5_1, gC6, mN6, gC7, mR7_0, mR7_1, gC8, mR8_0, gC9, mN9, gC10, mR10_0, gC11, mN11, mR11_0, mR11_1, mR11_2, mR11_3, mR11_4, mR11_5, gC12, mR12_0, mR12_1, gC13, mN13, gC14, mN14, gC15, mR15_0, mR15_1, gC16, mN16, gC17, mN17, gC18, mR18_0, mR18_1, gC19, mN19, gC20, mN20, gC21, mR21_0, mR21_1, gC22, mN22, gC23, mN23, gC24, mR24_0, mR24_1, gC25, mN25, gC26, mN26, gC27, mR27_0, mR27_1, gC28, mN28, gC29, mN29, gC30, mR30_0, gC31, mN31, mR31_0, mR31_1, mR31_2, mR31_3, mR31_4, mR31_5, gC32, mR32_0, mR32_1, gC33, mN33, gC34, mN34, gC35, mR35_0, mR35_1, gC36, mN36, gC37, mN37, gC38, mR38_0, mR38_1, gC39, mN39, gC40, mN40, gC41, mR41_0, mR41_1, gC42, mN42, gC43, mN43, gC44, mR44_0, mR44_1, gC45, mN45, gC46, mN46, gC47, mR47_0, mR47_1, gC48, mN48, gC49, mN49, gC50, mR50_0, mR50_1, mR50_2, mR50_3, gC51, mN51, gC52, mN52, gC53, mN53, gC54, mN54, gC55, gC56, gC57, mR57_2, mR57_3, mR57_6, mR57_7, mR57_8, mR57_9, mR57_10, mR57_11, mR57_12, mR57_13, mR57_14, mR57_15, mR57_16, mR57_18, mR57_19, mR57_20, mR57_21, mR57_22, mR57_23, mR57_25, mR57_26, mR57_27, mR57_28, mR57_37, mR57_40, mR57_41, mR57_43, mR57_44, mR57_48, mR57_49, gC58, mN58, gC59, mN59, gC60, mN60, gC61, mN61, gC62, mN62, gC63, mN63, gC64, mN64, gC65, mN65, gC66, mN66, gC67, mN67, gC68, mN68, gC69, mN69, gC70, mN70, gC71, mN71, gC72, mN72, gC73, mN73, gC74, mN74, gC75, mN75, gC76, mN76, gC77, mN77, gC78, mN78, gC79, mN79, gC80, mN80, gC81, mN81, gC82, mN82, gC83, mN83, gC84, mN84, gC85, mN85, gC86, mN86, gC87, mN87, e1, pk_mul, nI_add, nI_1]
        rfl
    · rw [if_neg (fun r => q2 ((nI_leI (by omega) (by omega)).mp r)), if_neg (fun r => q2 r.2)]
  · rw [if_pos (by rw [nI_ltI (by omega) (by omega)]; omega), if_neg (fun r => q1 r.1)]
theorem areaV_b (hD : RelD C R z i) {c W D : Nat} (w1 : 1 ≤ W) (w4 : W ≤ 4) (f1 : c % C + W ≤ C) (f2 : c / C + D ≤ R) (k : Nat) : bt6 (areaV C R c W D) k = (decide (k < z) && covB C W D c k) := by
  have hz := zlt hD
  obtain ⟨⟨h1, h2, h3, h4, h5⟩, -⟩ := id hD
  unfold areaV
  rw [if_pos ⟨f1, f2⟩, arV_b (R := R) (by omega) (by omega) w1 w4 f2 k D (Nat.le_refl _)]
  apply Bool_iff
  simp only [Bool.and_eq_true, decide_eq_true_eq]
  rw [exB_iff]
  constructor
  · rintro ⟨q1, r, r1, r2⟩
    have hc := (cov_iff (by omega) f1).mp ⟨r, r1, by simpa using r2⟩
    exact ⟨by rw [h5]; exact cov_lt (by omega) f2 hc, hc⟩
  · rintro ⟨q1, q2⟩
    obtain ⟨r, r1, r2⟩ := (cov_iff (by omega) f1).mpr q2
    exact ⟨by omega, r, r1, by simpa using r2⟩
theorem cov_self {C W D c : Nat} (w1 : 1 ≤ W) (d1 : 1 ≤ D) : covB C W D c c = true := by
  rw [covB_iff]
  unfold cov
  omega
/-! all stands' cells but one -/
def cvV (l : fL) (p : Nat) : Nat → Int64
  | 0 => 0
  | s + 1 => if 88 + s = p then cvV l p s ||| 0 else cvV l p s ||| l (88 + s) 7
theorem cvV_b (l : fL) (p c : Nat) : ∀ s, bt6 (cvV l p s) c = exB (fun t => !decide (88 + t = p) && bt6 (l (88 + t) 7) c) s
  | 0 => b6_0 c
  | s + 1 => by
    unfold cvV exB
    by_cases e : 88 + s = p
    · rw [if_pos e, b6_or, cvV_b, b6_0]
      simp [e]
    · rw [if_neg e, b6_or, cvV_b]
      simp [e]
theorem covered_E (hN : RelN n i) {p : Nat} (hp : p ≤ n + 87) : f_X5_covered 5 p (mkS n z L i l) = some (cvV l p n, mkS n z L i l) := by
  have h9 := hN.1
  unfold f_X5_covered
  refine acc_loop (fun m a s w => f_X5_covered_l5 m 5 p a s w) (fun s => cvV l p s) (fun _ => mkS n z L i l) n _ ?_ ?_ n 0 xFu (by omega) (by unfold xFu; omega)
  · intro m
    show f_X5_covered_l5 (m + 1) 5 p _ (nI n) _ = _
    rw [f_X5_covered_l5_s]
    simp only [mI, mL, mZ, msI, msL, mN1020, gC1, mR1_0, mR1_1, mR1_2, mR1_3, mR1_4, mR1_5, mR1_6, mR1_7, mR1_8, gC2, mR2_6, mR2_7, gC3, mN3, gC4, mN4, gC5, mR5_0, mR5_1, gC6, mN6, gC7, mR7_0, mR7_1, gC8, mR8_0, gC9, mN9, gC10, mR10_0, gC11, mN11, mR11_0, mR11_1, mR11_2, mR11_3, mR11_4, mR11_5, gC12, mR12_0, mR12_1, gC13, mN13, gC14, mN14, gC15, mR15_0, mR15_1, gC16, mN16, gC17, mN17, gC18, mR18_0, mR18_1, gC19, mN19, gC20, mN20, gC21, mR21_0, mR21_1, gC22, mN22, gC23, mN23, gC24, mR24_0, mR24_1, gC25, mN25, gC26, mN26, gC27, mR27_0, mR27_1, gC28, mN28, gC29, mN29, gC30, mR30_0, gC31, mN31, mR31_0, mR31_1, mR31_2, mR31_3, mR31_4, mR31_5, gC32, mR32_0, mR32_1, gC33, mN33, gC34, mN34, gC35, mR35_0, mR35_1, gC36, mN36, gC37, mN37, gC38, mR38_0, mR38_1, gC39, mN39, gC40, mN40, gC41, mR41_0, mR41_1, gC42, mN42, gC43, mN43, gC44, mR44_0, mR44_1, gC45, mN45, gC46, mN46, gC47, mR47_0, mR47_1, gC48, mN48, gC49, mN49, gC50, mR50_0, mR50_1, mR50_2, mR50_3, gC51, mN51, gC52, mN52, gC53, mN53, gC54, mN54, gC55, gC56, gC57, mR57_2, mR57_3, mR57_6, mR57_7, mR57_8, mR57_9, mR57_10, mR57_11, mR57_12, mR57_13, mR57_14, mR57_15, mR57_16, mR57_18, mR57_19, mR57_20, mR57_21, mR57_22, mR57_23, mR57_25, mR57_26, mR57_27, mR57_28, mR57_37, mR57_40, mR57_41, mR57_43, mR57_44, mR57_48, mR57_49, gC58, mN58, gC59, mN59, gC60, mN60, gC61, mN61, gC62, mN62, gC63, mN63, gC64, mN64, gC65, mN65, gC66, mN66, gC67, mN67, gC68, mN68, gC69, mN69, gC70, mN70, gC71, mN71, gC72, mN72, gC73, mN73, gC74, mN74, gC75, mN75, gC76, mN76, gC77, mN77, gC78, mN78, gC79, mN79, gC80, mN80, gC81, mN81, gC82, mN82, gC83, mN83, gC84, mN84, gC85, mN85, gC86, mN86, gC87, mN87, hN.2.1]
    rw [if_pos (Int32.le_refl _)]
  · intro m s hs
    show f_X5_covered_l5 (m + 1) 5 p _ (nI s) _ = f_X5_covered_l5 m 5 p (if 88 + s = p then cvV l p s ||| 0 else cvV l p s ||| l (88 + s) 7) (nI (s + 1)) _
    rw [f_X5_covered_l5_s]
    simp only [mI, mL, mZ, msI, msL, mN1020, gC1, mR1_0, mR1_1, mR1_2, mR1_3, mR1_4, mR1_5, mR1_6, mR1_7, mR1_8, gC2, mR2_6, mR2_7, gC3, mN3, gC4, mN4, gC5, mR5_0, mR5_1, gC6, mN6, gC7, mR7_0, mR7_1, gC8, mR8_0, gC9, mN9, gC10, mR10_0, gC11, mN11, mR11_0, mR11_1, mR11_2, mR11_3, mR11_4, mR11_5, gC12, mR12_0, mR12_1, gC13, mN13, gC14, mN14, gC15, mR15_0, mR15_1, gC16, mN16, gC17, mN17, gC18, mR18_0, mR18_1, gC19, mN19, gC20, mN20, gC21, mR21_0, mR21_1, gC22, mN22, gC23, mN23, gC24, mR24_0, mR24_1, gC25, mN25, gC26, mN26, gC27, mR27_0, mR27_1, gC28, mN28, gC29, mN29, gC30, mR30_0, gC31, mN31, mR31_0, mR31_1, mR31_2, mR31_3, mR31_4, mR31_5, gC32, mR32_0, mR32_1, gC33, mN33, gC34, mN34, gC35, mR35_0, mR35_1, gC36, mN36, gC37, mN37, gC38, mR38_0, mR38_1, gC39, mN39, gC40, mN40, gC41, mR41_0, mR41_1, gC42, mN42, gC43, mN43, gC44, mR44_0, mR44_1, gC45, mN45, gC46, mN46, gC47, mR47_0, mR47_1, gC48, mN48, gC49, mN49, gC50, mR50_0, mR50_1, mR50_2, mR50_3, gC51, mN51, gC52, mN52, gC53, mN53, gC54, mN54, gC55, gC56, gC57, mR57_2, mR57_3, mR57_6, mR57_7, mR57_8, mR57_9, mR57_10, mR57_11, mR57_12, mR57_13, mR57_14, mR57_15, mR57_16, mR57_18, mR57_19, mR57_20, mR57_21, mR57_22, mR57_23, mR57_25, mR57_26, mR57_27, mR57_28, mR57_37, mR57_40, mR57_41, mR57_43, mR57_44, mR57_48, mR57_49, gC58, mN58, gC59, mN59, gC60, mN60, gC61, mN61, gC62, mN62, gC63, mN63, gC64, mN64, gC65, mN65, gC66, mN66, gC67, mN67, gC68, mN68, gC69, mN69, gC70, mN70, gC71, mN71, gC72, mN72, gC73, mN73, gC74, mN74, gC75, mN75, gC76, mN76, gC77, mN77, gC78, mN78, gC79, mN79, gC80, mN80, gC81, mN81, gC82, mN82, gC83, mN83, gC84, mN84, gC85, mN85, gC86, mN86, gC87, mN87, hN.2.1, nI_clamp (show s < 2 ^ 31 by omega), mR6_t hs, gCS hs]
    rw [if_neg (nI_ge hs (by omega)), gI (by omega) (by omega), nI_1, gd_t (by omega), gd_t hp]
    by_cases e : 88 + s = p
    · rw [if_pos e, if_pos e]
    · rw [if_neg e, if_neg e]
end GEO
