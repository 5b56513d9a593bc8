section LAYS
variable {C R n z L : Nat} {i j : fI} {l : fL}
theorem fsel_none {p : Nat → Bool} {v : Nat → Int32} {d : Int32} : ∀ (k q : Nat), (∀ a, q ≤ a → a < q + k → p a = false) → fsel p v d k q = d
  | 0, _, _ => rfl
  | k + 1, q, h => by
    unfold fsel
    rw [if_neg (by rw [h q (by omega) (by omega)]; decide)]
    exact fsel_none k (q + 1) (fun a h1 h2 => h a (by omega) (by omega))
theorem fsel_some {p : Nat → Bool} {v : Nat → Int32} {d : Int32} : ∀ (k q : Nat), (∃ a, q ≤ a ∧ a < q + k ∧ p a = true) → ∃ a, q ≤ a ∧ a < q + k ∧ p a = true ∧ fsel p v d k q = v a
  | 0, _, ⟨a, h1, h2, _⟩ => by omega
  | k + 1, q, ⟨a, h1, h2, h3⟩ => by
    unfold fsel
    by_cases c : p q = true
    · exact ⟨q, by omega, by omega, c, by rw [if_pos c]⟩
    · rw [if_neg c]
      have : a ≠ q := fun e => c (e ▸ h3)
      obtain ⟨b, b1, b2, b3, b4⟩ := fsel_some (v := v) (d := d) k (q + 1) ⟨a, by omega, by omega, h3⟩
      exact ⟨b, by omega, by omega, b3, b4⟩
theorem fsel_m1 {p : Nat → Bool} {N : Nat} (hN : N < 2 ^ 31) : (fsel p (fun s => nI s) (-1) N 0 = -1) ↔ exB p N = false := by
  constructor
  · intro h
    rw [exB_f]
    intro k hk
    cases e : p k with
    | false => rfl
    | true =>
      obtain ⟨a, -, a2, -, a4⟩ := fsel_some (v := fun s => nI s) (d := -1) N 0 ⟨k, by omega, by omega, e⟩
      rw [a4] at h
      exact absurd h (nI_m1 (by omega))
  · intro h
    exact fsel_none N 0 (fun a _ h2 => exB_f.mp h a (by omega))
/-! what hinders, by the reference's words -/
def cvS (C : Nat) (i : fI) (s c k : Nat) : Bool := covB C (wdN i s) (dpN i s) c k
def twP (C : Nat) (i : fI) (s c k : Nat) : Bool := cvS C i s c k && !decide (i 58 k = 0)
def thP (C n : Nat) (i : fI) (s c k : Nat) : Bool := cvS C i s c k && exB (fun t => !decide (t = s) && onB C i t k) n
def foP (C : Nat) (i : fI) (g s c t : Nat) : Bool := !decide (t = s) && laB i t && !decide (i 62 t = i 62 s) && neM C i g s c t
def fiP (C : Nat) (i : fI) (s c k : Nat) : Bool := cvS C i s c k && decide (i 59 k < i 65 s)
def ndP (C R : Nat) (i : fI) (s c k : Nat) : Bool := cvS C i s c k && (if i 60 s = 1 then decide (edgeP C R k) else bsP C R i k (if i 60 s = 2 then 2 else 3))
def sixB (C R n z : Nat) (i : fI) (s c : Nat) : Bool := if i 60 s = 4 then flB i n s false else !(decide (i 60 s = 0) || exB (ndP C R i s c) z)
def hinV (C R n z : Nat) (i : fI) (g s c : Nat) : Int32 := if c % C + wdN i s ≤ C ∧ c / C + dpN i s ≤ R then (if exB (twP C i s c) z = true then 2 else if exB (thP C n i s c) z = true then 3 else if exB (foP C i g s c) n = true then 4 else if exB (fiP C i s c) z = true then 5 else if sixB C R n z i s c = true then 6 else if flB i n s true = true then 7 else 0) else 1
theorem otherOn_E (hD : RelD C R z i) (hN : RelN n i) (hV : RelV C R z n i) {s c : Nat} (hs : s < n) (hc : c < z) : f_X11_otherOn 57 (nI s) (nI c) (mkS n z L i l) = some (fsel (fun t => !decide (t = s) && onB C i t c) (fun t => nI t) (-1) n 0, mkS n z L i l) := by
  have h9 := hN.1
  unfold f_X11_otherOn
  refine fsel_loop (fun m s2 w => f_X11_otherOn_l2 m 57 (nI s) (nI c) s2 w) _ _ _ n (mkS n z L i l) ?_ ?_ n 0 xFu (by omega) (by unfold xFu; omega)
  · intro m
    show f_X11_otherOn_l2 (m + 1) 57 _ _ (nI n) _ = _
    rw [f_X11_otherOn_l2_s]
    simp only [mI, mL, mZ, msI, msL, mN1020, gC1, mR1_0, mR1_1, mR1_2, mR1_3, mR1_4, mR1_5, mR1_6, mR1_7, mR1_8, gC2, mR2_6, mR2_7, gC3, mN3, gC4, mN4, gC5, mR5_0, mR5_1, gC6, mN6, gC7, mR7_0, mR7_1, gC8, mR8_0, gC9, mN9, gC10, mR10_0, gC11, mN11, mR11_0, mR11_1, mR11_2, mR11_3, mR11_4, mR11_5, gC12, mR12_0, mR12_1, gC13, mN13, gC14, mN14, gC15, mR15_0, mR15_1, gC16, mN16, gC17, mN17, gC18, mR18_0, mR18_1, gC19, mN19, gC20, mN20, gC21, mR21_0, mR21_1, gC22, mN22, gC23, mN23, gC24, mR24_0, mR24_1, gC25, mN25, gC26, mN26, gC27, mR27_0, mR27_1, gC28, mN28, gC29, mN29, gC30, mR30_0, gC31, mN31, mR31_0, mR31_1, mR31_2, mR31_3, mR31_4, mR31_5, gC32, mR32_0, mR32_1, gC33, mN33, gC34, mN34, gC35, mR35_0, mR35_1, gC36, mN36, gC37, mN37, gC38, mR38_0, mR38_1, gC39, mN39, gC40, mN40, gC41, mR41_0, mR41_1, gC42, mN42, gC43, mN43, gC44, mR44_0, mR44_1, gC45, mN45, gC46, mN46, gC47, mR47_0, mR47_1, gC48, mN48, gC49, mN49, gC50, mR50_0, mR50_1, mR50_2, mR50_3, gC51, mN51, gC52, mN52, gC53, mN53, gC54, mN54, gC55, gC56, gC57, mR57_2, mR57_3, mR57_6, mR57_7, mR57_8, mR57_9, mR57_10, mR57_11, mR57_12, mR57_13, mR57_14, mR57_15, mR57_16, mR57_18, mR57_19, mR57_20, mR57_21, mR57_22, mR57_23, mR57_25, mR57_26, mR57_27, mR57_28, mR57_37, mR57_40, mR57_41, mR57_43, mR57_44, mR57_48, mR57_49, gC58, mN58, gC59, mN59, gC60, mN60, gC61, mN61, gC62, mN62, gC63, mN63, gC64, mN64, gC65, mN65, gC66, mN66, gC67, mN67, gC68, mN68, gC69, mN69, gC70, mN70, gC71, mN71, gC72, mN72, gC73, mN73, gC74, mN74, gC75, mN75, gC76, mN76, gC77, mN77, gC78, mN78, gC79, mN79, gC80, mN80, gC81, mN81, gC82, mN82, gC83, mN83, gC84, mN84, gC85, mN85, gC86, mN86, gC87, mN87, hN.2.2]
    rw [if_pos (Int32.le_refl _)]
  · intro m t ht
    show f_X11_otherOn_l2 (m + 1) 57 _ _ (nI t) _ = _
    rw [f_X11_otherOn_l2_s]
    simp only [mI, mL, mZ, msI, msL, mN1020, gC1, mR1_0, mR1_1, mR1_2, mR1_3, mR1_4, mR1_5, mR1_6, mR1_7, mR1_8, gC2, mR2_6, mR2_7, gC3, mN3, gC4, mN4, gC5, mR5_0, mR5_1, gC6, mN6, gC7, mR7_0, mR7_1, gC8, mR8_0, gC9, mN9, gC10, mR10_0, gC11, mN11, mR11_0, mR11_1, mR11_2, mR11_3, mR11_4, mR11_5, gC12, mR12_0, mR12_1, gC13, mN13, gC14, mN14, gC15, mR15_0, mR15_1, gC16, mN16, gC17, mN17, gC18, mR18_0, mR18_1, gC19, mN19, gC20, mN20, gC21, mR21_0, mR21_1, gC22, mN22, gC23, mN23, gC24, mR24_0, mR24_1, gC25, mN25, gC26, mN26, gC27, mR27_0, mR27_1, gC28, mN28, gC29, mN29, gC30, mR30_0, gC31, mN31, mR31_0, mR31_1, mR31_2, mR31_3, mR31_4, mR31_5, gC32, mR32_0, mR32_1, gC33, mN33, gC34, mN34, gC35, mR35_0, mR35_1, gC36, mN36, gC37, mN37, gC38, mR38_0, mR38_1, gC39, mN39, gC40, mN40, gC41, mR41_0, mR41_1, gC42, mN42, gC43, mN43, gC44, mR44_0, mR44_1, gC45, mN45, gC46, mN46, gC47, mR47_0, mR47_1, gC48, mN48, gC49, mN49, gC50, mR50_0, mR50_1, mR50_2, mR50_3, gC51, mN51, gC52, mN52, gC53, mN53, gC54, mN54, gC55, gC56, gC57, mR57_2, mR57_3, mR57_6, mR57_7, mR57_8, mR57_9, mR57_10, mR57_11, mR57_12, mR57_13, mR57_14, mR57_15, mR57_16, mR57_18, mR57_19, mR57_20, mR57_21, mR57_22, mR57_23, mR57_25, mR57_26, mR57_27, mR57_28, mR57_37, mR57_40, mR57_41, mR57_43, mR57_44, mR57_48, mR57_49, gC58, mN58, gC59, mN59, gC60, mN60, gC61, mN61, gC62, mN62, gC63, mN63, gC64, mN64, gC65, mN65, gC66, mN66, gC67, mN67, gC68, mN68, gC69, mN69, gC70, mN70, gC71, mN71, gC72, mN72, gC73, mN73, gC74, mN74, gC75, mN75, gC76, mN76, gC77, mN77, gC78, mN78, gC79, mN79, gC80, mN80, gC81, mN81, gC82, mN82, gC83, mN83, gC84, mN84, gC85, mN85, gC86, mN86, gC87, mN87, hN.2.2, nI_clamp (show t < 2 ^ 31 by omega)]
    rw [if_neg (nI_ge ht (by omega)), gI (by omega) (by omega), nI_1]
    by_cases q : t = s
    · rw [if_pos (by rw [q])]; simp [q]
    rw [if_neg (by rw [nI_eq (by omega) (by omega)]; exact q)]
    by_cases e : i 66 t = -1
    · rw [if_pos e, if_neg (by simp [onB, laB, e])]
    · obtain ⟨a1, a2, -, -⟩ := atN_E hD hV ht e
      rw [if_neg e, a1, covers_E hD hV h9 ht a2 hc, bdS, bI_if]
      have : (!decide (t = s) && onB C i t c) = covB C (wdN i t) (dpN i t) (atN i t) c := by simp [onB, laB, e, q]
      rw [this]
theorem needsMore_E (hD : RelD C R z i) (hN : RelN n i) (hV : RelV C R z n i) {s c : Nat} (hs : s < n) (hc : c < z) : f_X11_needsMore 57 (nI s) (nI c) (mkS n z L i l) = some (bI (sixB C R n z i s c), mkS n z L i l) := by
  have h9 := hN.1
  have hz := zlt hD
  obtain ⟨⟨h1, h2, h3, h4, h5⟩, -, -, -, e1, e2⟩ := id hD
  have gs : ∀ {α : Type} {d : Decidable (inR (nI s) 9)} (e : Option α), @gd α (inR (nI s) 9) d e = e := fun e => gI (by omega) (by omega) e
  have b119 : ∀ b : Bool, f_X11_needsMore_b119 57 (nI s) (bI b) (mkS n z L i l) = some (bI (if i 60 s = 4 then flB i n s false else !b), mkS n z L i l) := by
    intro b
    have hf := hasFellow_E (z := z) (L := L) (l := l) hN hs false
    rw [show bI false = 0 from rfl] at hf
    simp only [f_X11_needsMore_b119, mI, mL, mZ, msI, msL, mN1020, gC1, mR1_0, mR1_1, mR1_2, mR1_3, mR1_4, mR1_5, mR1_6, mR1_7, mR1_8, gC2, mR2_6, mR2_7, gC3, mN3, gC4, mN4, gC5, mR5_0, mR5_1, gC6, mN6, gC7, mR7_0, mR7_1, gC8, mR8_0, gC9, mN9, gC10, mR10_0, gC11, mN11, mR11_0, mR11_1, mR11_2, mR11_3, mR11_4, mR11_5, gC12, mR12_0, mR12_1, gC13, mN13, gC14, mN14, gC15, mR15_0, mR15_1, gC16, mN16, gC17, mN17, gC18, mR18_0, mR18_1, gC19, mN19, gC20, mN20, gC21, mR21_0, mR21_1, gC22, mN22, gC23, mN23, gC24, mR24_0, mR24_1, gC25, mN25, gC26, mN26, gC27, mR27_0, mR27_1, gC28, mN28, gC29, mN29, gC30, mR30_0, gC31, mN31, mR31_0, mR31_1, mR31_2, mR31_3, mR31_4, mR31_5, gC32, mR32_0, mR32_1, gC33, mN33, gC34, mN34, gC35, mR35_0, mR35_1, gC36, mN36, gC37, mN37, gC38, mR38_0, mR38_1, gC39, mN39, gC40, mN40, gC41, mR41_0, mR41_1, gC42, mN42, gC43, mN43, gC44, mR44_0, mR44_1, gC45, mN45, gC46, mN46, gC47, mR47_0, mR47_1, gC48, mN48, gC49, mN49, gC50, mR50_0, mR50_1, mR50_2, mR50_3, gC51, mN51, gC52, mN52, gC53, mN53, gC54, mN54, gC55, gC56, gC57, mR57_2, mR57_3, mR57_6, mR57_7, mR57_8, mR57_9, mR57_10, mR57_11, mR57_12, mR57_13, mR57_14, mR57_15, mR57_16, mR57_18, mR57_19, mR57_20, mR57_21, mR57_22, mR57_23, mR57_25, mR57_26, mR57_27, mR57_28, mR57_37, mR57_40, mR57_41, mR57_43, mR57_44, mR57_48, mR57_49, gC58, mN58, gC59, mN59, gC60, mN60, gC61, mN61, gC62, mN62, gC63, mN63, gC64, mN64, gC65, mN65, gC66, mN66, gC67, mN67, gC68, mN68, gC69, mN69, gC70, mN70, gC71, mN71, gC72, mN72, gC73, mN73, gC74, mN74, gC75, mN75, gC76, mN76, gC77, mN77, gC78, mN78, gC79, mN79, gC80, mN80, gC81, mN81, gC82, mN82, gC83, mN83, gC84, mN84, gC85, mN85, gC86, mN86, gC87, mN87, nI_clamp (show s < 2 ^ 31 by omega), gs, hf, bdS, bI_if]
    by_cases q : i 60 s = 4
    · rw [if_pos q, if_pos q, gd_t (by unfold bI; split <;> simp)]
    · rw [if_neg q, if_neg q]
      cases b <;> rfl
  obtain ⟨kd, kd1, kd2⟩ := (hV s hs).1
  by_cases k0 : kd = 0
  · have q : i 60 s = 0 := by rw [kd2, k0]; rfl
    have := b119 true
    rw [show bI true = 1 from rfl] at this
    simp only [f_X11_needsMore, mI, mL, mZ, msI, msL, mN1020, gC1, mR1_0, mR1_1, mR1_2, mR1_3, mR1_4, mR1_5, mR1_6, mR1_7, mR1_8, gC2, mR2_6, mR2_7, gC3, mN3, gC4, mN4, gC5, mR5_0, mR5_1, gC6, mN6, gC7, mR7_0, mR7_1, gC8, mR8_0, gC9, mN9, gC10, mR10_0, gC11, mN11, mR11_0, mR11_1, mR11_2, mR11_3, mR11_4, mR11_5, gC12, mR12_0, mR12_1, gC13, mN13, gC14, mN14, gC15, mR15_0, mR15_1, gC16, mN16, gC17, mN17, gC18, mR18_0, mR18_1, gC19, mN19, gC20, mN20, gC21, mR21_0, mR21_1, gC22, mN22, gC23, mN23, gC24, mR24_0, mR24_1, gC25, mN25, gC26, mN26, gC27, mR27_0, mR27_1, gC28, mN28, gC29, mN29, gC30, mR30_0, gC31, mN31, mR31_0, mR31_1, mR31_2, mR31_3, mR31_4, mR31_5, gC32, mR32_0, mR32_1, gC33, mN33, gC34, mN34, gC35, mR35_0, mR35_1, gC36, mN36, gC37, mN37, gC38, mR38_0, mR38_1, gC39, mN39, gC40, mN40, gC41, mR41_0, mR41_1, gC42, mN42, gC43, mN43, gC44, mR44_0, mR44_1, gC45, mN45, gC46, mN46, gC47, mR47_0, mR47_1, gC48, mN48, gC49, mN49, gC50, mR50_0, mR50_1, mR50_2, mR50_3, gC51, mN51, gC52, mN52, gC53, mN53, gC54, mN54, gC55, gC56, gC57, mR57_2, mR57_3, mR57_6, mR57_7, mR57_8, mR57_9, mR57_10, mR57_11, mR57_12, mR57_13, mR57_14, mR57_15, mR57_16, mR57_18, mR57_19, mR57_20, mR57_21, mR57_22, mR57_23, mR57_25, mR57_26, mR57_27, mR57_28, mR57_37, mR57_40, mR57_41, mR57_43, mR57_44, mR57_48, mR57_49, gC58, mN58, gC59, mN59, gC60, mN60, gC61, mN61, gC62, mN62, gC63, mN63, gC64, mN64, gC65, mN65, gC66, mN66, gC67, mN67, gC68, mN68, gC69, mN69, gC70, mN70, gC71, mN71, gC72, mN72, gC73, mN73, gC74, mN74, gC75, mN75, gC76, mN76, gC77, mN77, gC78, mN78, gC79, mN79, gC80, mN80, gC81, mN81, gC82, mN82, gC83, mN83, gC84, mN84, gC85, mN85, gC86, mN86, gC87, mN87, nI_clamp (show s < 2 ^ 31 by omega), gs]
    rw [if_pos q, show xFu = 999 + 1 from rfl, f_X11_needsMore_l18_s]
    simp only [mI, mL, mZ, msI, msL, mN1020, gC1, mR1_0, mR1_1, mR1_2, mR1_3, mR1_4, mR1_5, mR1_6, mR1_7, mR1_8, gC2, mR2_6, mR2_7, gC3, mN3, gC4, mN4, gC5, mR5_0, mR5_1, gC6, mN6, gC7, mR7_0, mR7_1, gC8, mR8_0, gC9, mN9, gC10, mR10_0, gC11, mN11, mR11_0, mR11_1, mR11_2, mR11_3, mR11_4, mR11_5, gC12, mR12_0, mR12_1, gC13, mN13, gC14, mN14, gC15, mR15_0, mR15_1, gC16, mN16, gC17, mN17, gC18, mR18_0, mR18_1, gC19, mN19, gC20, mN20, gC21, mR21_0, mR21_1, gC22, mN22, gC23, mN23, gC24, mR24_0, mR24_1, gC25, mN25, gC26, mN26, gC27, mR27_0, mR27_1, gC28, mN28, gC29, mN29, gC30, mR30_0, gC31, mN31, mR31_0, mR31_1, mR31_2, mR31_3, mR31_4, mR31_5, gC32, mR32_0, mR32_1, gC33, mN33, gC34, mN34, gC35, mR35_0, mR35_1, gC36, mN36, gC37, mN37, gC38, mR38_0, mR38_1, gC39, mN39, gC40, mN40, gC41, mR41_0, mR41_1, gC42, mN42, gC43, mN43, gC44, mR44_0, mR44_1, gC45, mN45, gC46, mN46, gC47, mR47_0, mR47_1, gC48, mN48, gC49, mN49, gC50, mR50_0, mR50_1, mR50_2, mR50_3, gC51, mN51, gC52, mN52, gC53, mN53, gC54, mN54, gC55, gC56, gC57, mR57_2, mR57_3, mR57_6, mR57_7, mR57_8, mR57_9, mR57_10, mR57_11, mR57_12, mR57_13, mR57_14, mR57_15, mR57_16, mR57_18, mR57_19, mR57_20, mR57_21, mR57_22, mR57_23, mR57_25, mR57_26, mR57_27, mR57_28, mR57_37, mR57_40, mR57_41, mR57_43, mR57_44, mR57_48, mR57_49, gC58, mN58, gC59, mN59, gC60, mN60, gC61, mN61, gC62, mN62, gC63, mN63, gC64, mN64, gC65, mN65, gC66, mN66, gC67, mN67, gC68, mN68, gC69, mN69, gC70, mN70, gC71, mN71, gC72, mN72, gC73, mN73, gC74, mN74, gC75, mN75, gC76, mN76, gC77, mN77, gC78, mN78, gC79, mN79, gC80, mN80, gC81, mN81, gC82, mN82, gC83, mN83, gC84, mN84, gC85, mN85, gC86, mN86, gC87, mN87, nI_clamp (show s < 2 ^ 31 by omega), gs, in_E, bdS, if_b, this, e1, e2, pk_mul, ← h5]
    rw [if_neg (by rw [show (0 : Int32) = nI 0 from rfl]; exact nI_ge (by omega) (by omega)), if_neg (by rw [q]; decide)]
    unfold sixB
    rw [q]
    rfl
  by_cases k4 : kd = 4
  · have q : i 60 s = 4 := by rw [kd2, k4]; rfl
    have := b119 false
    rw [show bI false = 0 from rfl] at this
    simp only [f_X11_needsMore, mI, mL, mZ, msI, msL, mN1020, gC1, mR1_0, mR1_1, mR1_2, mR1_3, mR1_4, mR1_5, mR1_6, mR1_7, mR1_8, gC2, mR2_6, mR2_7, gC3, mN3, gC4, mN4, gC5, mR5_0, mR5_1, gC6, mN6, gC7, mR7_0, mR7_1, gC8, mR8_0, gC9, mN9, gC10, mR10_0, gC11, mN11, mR11_0, mR11_1, mR11_2, mR11_3, mR11_4, mR11_5, gC12, mR12_0, mR12_1, gC13, mN13, gC14, mN14, gC15, mR15_0, mR15_1, gC16, mN16, gC17, mN17, gC18, mR18_0, mR18_1, gC19, mN19, gC20, mN20, gC21, mR21_0, mR21_1, gC22, mN22, gC23, mN23, gC24, mR24_0, mR24_1, gC25, mN25, gC26, mN26, gC27, mR27_0, mR27_1, gC28, mN28, gC29, mN29, gC30, mR30_0, gC31, mN31, mR31_0, mR31_1, mR31_2, mR31_3, mR31_4, mR31_5, gC32, mR32_0, mR32_1, gC33, mN33, gC34, mN34, gC35, mR35_0, mR35_1, gC36, mN36, gC37, mN37, gC38, mR38_0, mR38_1, gC39, mN39, gC40, mN40, gC41, mR41_0, mR41_1, gC42, mN42, gC43, mN43, gC44, mR44_0, mR44_1, gC45, mN45, gC46, mN46, gC47, mR47_0, mR47_1, gC48, mN48, gC49, mN49, gC50, mR50_0, mR50_1, mR50_2, mR50_3, gC51, mN51, gC52, mN52, gC53, mN53, gC54, mN54, gC55, gC56, gC57, mR57_2, mR57_3, mR57_6, mR57_7, mR57_8, mR57_9, mR57_10, mR57_11, mR57_12, mR57_13, mR57_14, mR57_15, mR57_16, mR57_18, mR57_19, mR57_20, mR57_21, mR57_22, mR57_23, mR57_25, mR57_26, mR57_27, mR57_28, mR57_37, mR57_40, mR57_41, mR57_43, mR57_44, mR57_48, mR57_49, gC58, mN58, gC59, mN59, gC60, mN60, gC61, mN61, gC62, mN62, gC63, mN63, gC64, mN64, gC65, mN65, gC66, mN66, gC67, mN67, gC68, mN68, gC69, mN69, gC70, mN70, gC71, mN71, gC72, mN72, gC73, mN73, gC74, mN74, gC75, mN75, gC76, mN76, gC77, mN77, gC78, mN78, gC79, mN79, gC80, mN80, gC81, mN81, gC82, mN82, gC83, mN83, gC84, mN84, gC85, mN85, gC86, mN86, gC87, mN87, nI_clamp (show s < 2 ^ 31 by omega), gs]
    rw [if_neg (by rw [q]; decide), show xFu = 999 + 1 from rfl, f_X11_needsMore_l18_s]
    simp only [mI, mL, mZ, msI, msL, mN1020, gC1, mR1_0, mR1_1, mR1_2, mR1_3, mR1_4, mR1_5, mR1_6, mR1_7, mR1_8, gC2, mR2_6, mR2_7, gC3, mN3, gC4, mN4, gC5, mR5_0, mR5_1, gC6, mN6, gC7, mR7_0, mR7_1, gC8, mR8_0, gC9, mN9, gC10, mR10_0, gC11, mN11, mR11_0, mR11_1, mR11_2, mR11_3, mR11_4, mR11_5, gC12, mR12_0, mR12_1, gC13, mN13, gC14, mN14, gC15, mR15_0, mR15_1, gC16, mN16, gC17, mN17, gC18, mR18_0, mR18_1, gC19, mN19, gC20, mN20, gC21, mR21_0, mR21_1, gC22, mN22, gC23, mN23, gC24, mR24_0, mR24_1, gC25, mN25, gC26, mN26, gC27, mR27_0, mR27_1, gC28, mN28, gC29, mN29, gC30, mR30_0, gC31, mN31, mR31_0, mR31_1, mR31_2, mR31_3, mR31_4, mR31_5, gC32, mR32_0, mR32_1, gC33, mN33, gC34, mN34, gC35, mR35_0, mR35_1, gC36, mN36, gC37, mN37, gC38, mR38_0, mR38_1, gC39, mN39, gC40, mN40, gC41, mR41_0, mR41_1, gC42, mN42, gC43, mN43, gC44, mR44_0, mR44_1, gC45, mN45, gC46, mN46, gC47, mR47_0, mR47_1, gC48, mN48, gC49, mN49, gC50, mR50_0, mR50_1, mR50_2, mR50_3, gC51, mN51, gC52, mN52, gC53, mN53, gC54, mN54, gC55, gC56, gC57, mR57_2, mR57_3, mR57_6, mR57_7, mR57_8, mR57_9, mR57_10, mR57_11, mR57_12, mR57_13, mR57_14, mR57_15, mR57_16, mR57_18, mR57_19, mR57_20, mR57_21, mR57_22, mR57_23, mR57_25, mR57_26, mR57_27, mR57_28, mR57_37, mR57_40, mR57_41, mR57_43, mR57_44, mR57_48, mR57_49, gC58, mN58, gC59, mN59, gC60, mN60, gC61, mN61, gC62, mN62, gC63, mN63, gC64, mN64, gC65, mN65, gC66, mN66, gC67, mN67, gC68, mN68, gC69, mN69, gC70, mN70, gC71, mN71, gC72, mN72, gC73, mN73, gC74, mN74, gC75, mN75, gC76, mN76, gC77, mN77, gC78, mN78, gC79, mN79, gC80, mN80, gC81, mN81, gC82, mN82, gC83, mN83, gC84, mN84, gC85, mN85, gC86, mN86, gC87, mN87, nI_clamp (show s < 2 ^ 31 by omega), gs, in_E, bdS, if_b, this, e1, e2, pk_mul, ← h5]
    rw [if_neg (by rw [show (0 : Int32) = nI 0 from rfl]; exact nI_ge (by omega) (by omega)), if_neg (by rw [q]; decide)]
    unfold sixB
    rw [if_pos q, if_pos q]
  have q13 : (1 : Int32) ≤ i 60 s ∧ i 60 s ≤ 3 := by
    rw [kd2, show (1 : Int32) = nI 1 from rfl, show (3 : Int32) = nI 3 from rfl, nI_leI (by omega) (by omega), nI_leI (by omega) (by omega)]
    omega
  have q0 : ¬ i 60 s = 0 := by rw [kd2]; exact nI_ne0 (by omega) (by omega)
  have q4 : ¬ i 60 s = 4 := by rw [kd2, show (4 : Int32) = nI 4 from rfl, nI_eq (by omega) (by omega)]; exact k4
  have t1 : (1 : Int32) = bI true := rfl
  have key : f_X11_needsMore_l18 xFu 57 (nI s) (nI c) (bI (exB (ndP C R i s c) 0)) (nI 0) (mkS n z L i l) = some (bI (!exB (ndP C R i s c) z), mkS n z L i l) := by
    refine acc_loop (fun m a k w => f_X11_needsMore_l18 m 57 (nI s) (nI c) a k w) (fun k => bI (exB (ndP C R i s c) k)) (fun _ => mkS n z L i l) z _ ?_ ?_ z 0 xFu (by omega) (by unfold xFu; omega)
    · intro m
      show f_X11_needsMore_l18 (m + 1) 57 _ _ _ (nI z) _ = _
      rw [f_X11_needsMore_l18_s]
      simp only [mI, mL, mZ, msI, msL, mN1020, gC1, mR1_0, mR1_1, mR1_2, mR1_3, mR1_4, mR1_5, mR1_6, mR1_7, mR1_8, gC2, mR2_6, mR2_7, gC3, mN3, gC4, mN4, gC5, mR5_0, mR5_1, gC6, mN6, gC7, mR7_0, mR7_1, gC8, mR8_0, gC9, mN9, gC10, mR10_0, gC11, mN11, mR11_0, mR11_1, mR11_2, mR11_3, mR11_4, mR11_5, gC12, mR12_0, mR12_1, gC13, mN13, gC14, mN14, gC15, mR15_0, mR15_1, gC16, mN16, gC17, mN17, gC18, mR18_0, mR18_1, gC19, mN19, gC20, mN20, gC21, mR21_0, mR21_1, gC22, mN22, gC23, mN23, gC24, mR24_0, mR24_1, gC25, mN25, gC26, mN26, gC27, mR27_0, mR27_1, gC28, mN28, gC29, mN29, gC30, mR30_0, gC31, mN31, mR31_0, mR31_1, mR31_2, mR31_3, mR31_4, mR31_5, gC32, mR32_0, mR32_1, gC33, mN33, gC34, mN34, gC35, mR35_0, mR35_1, gC36, mN36, gC37, mN37, gC38, mR38_0, mR38_1, gC39, mN39, gC40, mN40, gC41, mR41_0, mR41_1, gC42, mN42, gC43, mN43, gC44, mR44_0, mR44_1, gC45, mN45, gC46, mN46, gC47, mR47_0, mR47_1, gC48, mN48, gC49, mN49, gC50, mR50_0, mR50_1, mR50_2, mR50_3, gC51, mN51, gC52, mN52, gC53, mN53, gC54, mN54, gC55, gC56, gC57, mR57_2, mR57_3, mR57_6, mR57_7, mR57_8, mR57_9, mR57_10, mR57_11, mR57_12, mR57_13, mR57_14, mR57_15, mR57_16, mR57_18, mR57_19, mR57_20, mR57_21, mR57_22, mR57_23, mR57_25, mR57_26, mR57_27, mR57_28, mR57_37, mR57_40, mR57_41, mR57_43, mR57_44, mR57_48, mR57_49, gC58, mN58, gC59, mN59, gC60, mN60, gC61, mN61, gC62, mN62, gC63, mN63, gC64, mN64, gC65, mN65, gC66, mN66, gC67, mN67, gC68, mN68, gC69, mN69, gC70, mN70, gC71, mN71, gC72, mN72, gC73, mN73, gC74, mN74, gC75, mN75, gC76, mN76, gC77, mN77, gC78, mN78, gC79, mN79, gC80, mN80, gC81, mN81, gC82, mN82, gC83, mN83, gC84, mN84, gC85, mN85, gC86, mN86, gC87, mN87, e1, e2, pk_mul, ← h5, b119]
      rw [if_pos (Int32.le_refl _), if_neg q4]
    · intro m k hk
      show f_X11_needsMore_l18 (m + 1) 57 _ _ (bI (exB (ndP C R i s c) k)) (nI k) _ = f_X11_needsMore_l18 m 57 _ _ (bI (exB (ndP C R i s c) (k + 1))) (nI (k + 1)) _
      rw [f_X11_needsMore_l18_s, exB_succ]
      simp only [mI, mL, mZ, msI, msL, mN1020, gC1, mR1_0, mR1_1, mR1_2, mR1_3, mR1_4, mR1_5, mR1_6, mR1_7, mR1_8, gC2, mR2_6, mR2_7, gC3, mN3, gC4, mN4, gC5, mR5_0, mR5_1, gC6, mN6, gC7, mR7_0, mR7_1, gC8, mR8_0, gC9, mN9, gC10, mR10_0, gC11, mN11, mR11_0, mR11_1, mR11_2, mR11_3, mR11_4, mR11_5, gC12, mR12_0, mR12_1, gC13, mN13, gC14, mN14, gC15, mR15_0, mR15_1, gC16, mN16, gC17, mN17, gC18, mR18_0, mR18_1, gC19, mN19, gC20, mN20, gC21, mR21_0, mR21_1, gC22, mN22, gC23, mN23, gC24, mR24_0, mR24_1, gC25, mN25, gC26, mN26, gC27, mR27_0, mR27_1, gC28, mN28, gC29, mN29, gC30, mR30_0, gC31, mN31, mR31_0, mR31_1, mR31_2, mR31_3, mR31_4, mR31_5, gC32, mR32_0, mR32_1, gC33, mN33, gC34, mN34, gC35, mR35_0, mR35_1, gC36, mN36, gC37, mN37, gC38, mR38_0, mR38_1, gC39, mN39, gC40, mN40, gC41, mR41_0, mR41_1, gC42, mN42, gC43, mN43, gC44, mR44_0, mR44_1, gC45, mN45, gC46, mN46, gC47, mR47_0, mR47_1, gC48, mN48, gC49, mN49, gC50, mR50_0, mR50_1, mR50_2, mR50_3, gC51, mN51, gC52, mN52, gC53, mN53, gC54, mN54, gC55, gC56, gC57, mR57_2, mR57_3, mR57_6, mR57_7, mR57_8, mR57_9, mR57_10, mR57_11, mR57_12, mR57_13, mR57_14, mR57_15, mR57_16, mR57_18, mR57_19, mR57_20, mR57_21, mR57_22, mR57_23, mR57_25, mR57_26, mR57_27, mR57_28, mR57_37, mR57_40, mR57_41, mR57_43, mR57_44, mR57_48, mR57_49, gC58, mN58, gC59, mN59, gC60, mN60, gC61, mN61, gC62, mN62, gC63, mN63, gC64, mN64, gC65, mN65, gC66, mN66, gC67, mN67, gC68, mN68, gC69, mN69, gC70, mN70, gC71, mN71, gC72, mN72, gC73, mN73, gC74, mN74, gC75, mN75, gC76, mN76, gC77, mN77, gC78, mN78, gC79, mN79, gC80, mN80, gC81, mN81, gC82, mN82, gC83, mN83, gC84, mN84, gC85, mN85, gC86, mN86, gC87, mN87, e1, e2, pk_mul, ← h5, nI_clamp (show s < 2 ^ 31 by omega), gs, in_E, bdS, if_b, if_pos q13, covers_E hD hV h9 hs hc hk, bI_if, isEdge_E hD hk, f_X11_needsMore_b101, isBeside_E hD hk, nI_1]
      rw [if_neg (nI_ge hk (by omega))]
      unfold ndP cvS
      by_cases c1 : covB C (wdN i s) (dpN i s) c k = true
      · rw [if_pos c1, c1]
        cases c2 : exB (fun k => covB C (wdN i s) (dpN i s) c k && (if i 60 s = 1 then decide (edgeP C R k) else bsP C R i k (if i 60 s = 2 then 2 else 3))) k with
        | true =>
          rw [if_pos rfl]
          rfl
        | false =>
          rw [if_neg (by decide)]
          by_cases d1 : i 60 s = 1
          · rw [if_pos d1, if_pos d1]
            by_cases d2 : edgeP C R k
            · rw [if_pos d2, decide_eq_true d2]; rfl
            · rw [if_neg d2, decide_eq_false d2]; rfl
          · rw [if_neg d1, if_neg d1]
            by_cases d2 : i 60 s = 2
            · rw [if_pos d2, if_pos d2]
              cases bsP C R i k 2 <;> rfl
            · rw [if_neg d2, if_neg d2]
              cases bsP C R i k 3 <;> rfl
      · rw [if_neg c1]
        have : covB C (wdN i s) (dpN i s) c k = false := by simpa using c1
        rw [this, Bool.false_and, Bool.or_false]
  simp only [f_X11_needsMore, mI, mL, mZ, msI, msL, mN1020, gC1, mR1_0, mR1_1, mR1_2, mR1_3, mR1_4, mR1_5, mR1_6, mR1_7, mR1_8, gC2, mR2_6, mR2_7, gC3, mN3, gC4, mN4, gC5, mR5_0, mR5_1, gC6, mN6, gC7, mR7_0, mR7_1, gC8, mR8_0, gC9, mN9, gC10, mR10_0, gC11, mN11, mR11_0, mR11_1, mR11_2, mR11_3, mR11_4, mR11_5, gC12, mR12_0, mR12_1, gC13, mN13, gC14, mN14, gC15, mR15_0, mR15_1, gC16, mN16, gC17, mN17, gC18, mR18_0, mR18_1, gC19, mN19, gC20, mN20, gC21, mR21_0, mR21_1, gC22, mN22, gC23, mN23, gC24, mR24_0, mR24_1, gC25, mN25, gC26, mN26, gC27, mR27_0, mR27_1, gC28, mN28, gC29, mN29, gC30, mR30_0, gC31, mN31, mR31_0, mR31_1, mR31_2, mR31_3, mR31_4, mR31_5, gC32, mR32_0, mR32_1, gC33, mN33, gC34, mN34, gC35, mR35_0, mR35_1, gC36, mN36, gC37, mN37, gC38, mR38_0, mR38_1, gC39, mN39, gC40, mN40, gC41, mR41_0, mR41_1, gC42, mN42, gC43, mN43, gC44, mR44_0, mR44_1, gC45, mN45, gC46, mN46, gC47, mR47_0, mR47_1, gC48, mN48, gC49, mN49, gC50, mR50_0, mR50_1, mR50_2, mR50_3, gC51, mN51, gC52, mN52, gC53, mN53, gC54, mN54, gC55, gC56, gC57, mR57_2, mR57_3, mR57_6, mR57_7, mR57_8, mR57_9, mR57_10, mR57_11, mR57_12, mR57_13, mR57_14, mR57_15, mR57_16, mR57_18, mR57_19, mR57_20, mR57_21, mR57_22, mR57_23, mR57_25, mR57_26, mR57_27, mR57_28, mR57_37, mR57_40, mR57_41, mR57_43, mR57_44, mR57_48, mR57_49, gC58, mN58, gC59, mN59, gC60, mN60, gC61, mN61, gC62, mN62, gC63, mN63, gC64, mN64, gC65, mN65, gC66, mN66, gC67, mN67, gC68, mN68, gC69, mN69, gC70, mN70, gC71, mN71, gC72, mN72, gC73, mN73, gC74, mN74, gC75, mN75, gC76, mN76, gC77, mN77, gC78, mN78, gC79, mN79, gC80, mN80, gC81, mN81, gC82, mN82, gC83, mN83, gC84, mN84, gC85, mN85, gC86, mN86, gC87, mN87, nI_clamp (show s < 2 ^ 31 by omega), gs]
  rw [if_neg q0]
  unfold sixB
  rw [if_neg q4, decide_eq_false q0, Bool.false_or]
  exact key
theorem hindered_E (hD : RelD C R z i) (hN : RelN n i) (hV : RelV C R z n i) {g s c : Nat} (hg : g ≤ 3) (eg : i 57 4 = nI g) (hs : s < n) (hc : c < z) : f_X11_hindered 57 (nI s) (nI c) (mkS n z L i l) = some (hinV C R n z i g s c, mkS n z L i l) := by
  have h9 := hN.1
  have hz := zlt hD
  obtain ⟨⟨h1, h2, h3, h4, h5⟩, -, -, -, e1, e2⟩ := id hD
  obtain ⟨w1, w2, w3⟩ := wdN_E hV hs
  obtain ⟨d1, d2, d3⟩ := dpN_E hV hs
  have m1 : c % C < C := Nat.mod_lt _ (by omega)
  have m2 : c / C ≤ c := Nat.div_le_self _ _
  have m3 := Nat.zero_le (c / C)
  have hC : ¬ nI C = 0 := nI_ne0 (by omega) (by omega)
  have gs : ∀ {α : Type} {d : Decidable (inR (nI s) 9)} (e : Option α), @gd α (inR (nI s) 9) d e = e := fun e => gI (by omega) (by omega) e
  have hf1 := hasFellow_E (z := z) (L := L) (l := l) hN hs true
  rw [show bI true = 1 from rfl] at hf1
  have l165 : ∀ b2 b3 b5 : Bool, f_X11_hindered_l165 xFu 57 (nI s) (nI c) (bI b2) (bI b3) (bI (exB (foP C i g s c) 0)) (bI b5) (nI 0) (mkS n z L i l) = some (if b2 = true then 2 else if b3 = true then 3 else if exB (foP C i g s c) n = true then 4 else if b5 = true then 5 else if sixB C R n z i s c = true then 6 else if flB i n s true = true then 7 else 0, mkS n z L i l) := by
    intro b2 b3 b5
    refine acc_loop (fun m a k w => f_X11_hindered_l165 m 57 (nI s) (nI c) (bI b2) (bI b3) a (bI b5) k w) (fun k => bI (exB (foP C i g s c) k)) (fun _ => mkS n z L i l) n _ ?_ ?_ n 0 xFu (by omega) (by unfold xFu; omega)
    · intro m
      show f_X11_hindered_l165 (m + 1) 57 _ _ _ _ _ _ (nI n) _ = _
      rw [f_X11_hindered_l165_s]
      simp only [mI, mL, mZ, msI, msL, mN1020, gC1, mR1_0, mR1_1, mR1_2, mR1_3, mR1_4, mR1_5, mR1_6, mR1_7, mR1_8, gC2, mR2_6, mR2_7, gC3, mN3, gC4, mN4, gC5, mR5_0, mR5_1, gC6, mN6, gC7, mR7_0, mR7_1, gC8, mR8_0, gC9, mN9, gC10, mR10_0, gC11, mN11, mR11_0, mR11_1, mR11_2, mR11_3, mR11_4, mR11_5, gC12, mR12_0, mR12_1, gC13, mN13, gC14, mN14, gC15, mR15_0, mR15_1, gC16, mN16, gC17, mN17, gC18, mR18_0, mR18_1, gC19, mN19, gC20, mN20, gC21, mR21_0, mR21_1, gC22, mN22, gC23, mN23, gC24, mR24_0, mR24_1, gC25, mN25, gC26, mN26, gC27, mR27_0, mR27_1, gC28, mN28, gC29, mN29, gC30, mR30_0, gC31, mN31, mR31_0, mR31_1, mR31_2, mR31_3, mR31_4, mR31_5, gC32, mR32_0, mR32_1, gC33, mN33, gC34, mN34, gC35, mR35_0, mR35_1, gC36, mN36, gC37, mN37, gC38, mR38_0, mR38_1, gC39, mN39, gC40, mN40, gC41, mR41_0, mR41_1, gC42, mN42, gC43, mN43, gC44, mR44_0, mR44_1, gC45, mN45, gC46, mN46, gC47, mR47_0, mR47_1, gC48, mN48, gC49, mN49, gC50, mR50_0, mR50_1, mR50_2, mR50_3, gC51, mN51, gC52, mN52, gC53, mN53, gC54, mN54, gC55, gC56, gC57, mR57_2, mR57_3, mR57_6, mR57_7, mR57_8, mR57_9, mR57_10, mR57_11, mR57_12, mR57_13, mR57_14, mR57_15, mR57_16, mR57_18, mR57_19, mR57_20, mR57_21, mR57_22, mR57_23, mR57_25, mR57_26, mR57_27, mR57_28, mR57_37, mR57_40, mR57_41, mR57_43, mR57_44, mR57_48, mR57_49, gC58, mN58, gC59, mN59, gC60, mN60, gC61, mN61, gC62, mN62, gC63, mN63, gC64, mN64, gC65, mN65, gC66, mN66, gC67, mN67, gC68, mN68, gC69, mN69, gC70, mN70, gC71, mN71, gC72, mN72, gC73, mN73, gC74, mN74, gC75, mN75, gC76, mN76, gC77, mN77, gC78, mN78, gC79, mN79, gC80, mN80, gC81, mN81, gC82, mN82, gC83, mN83, gC84, mN84, gC85, mN85, gC86, mN86, gC87, mN87, hN.2.2, needsMore_E hD hN hV hs hc, hf1, bdS, bI_if]
      rw [if_pos (Int32.le_refl _)]
      cases b2
      · cases b3
        · cases exB (foP C i g s c) n
          · cases b5
            · cases sixB C R n z i s c
              · cases flB i n s true <;> rfl
              · rfl
            · rfl
          · rfl
        · rfl
      · rfl
    · intro m t ht
      show f_X11_hindered_l165 (m + 1) 57 _ _ _ _ (bI (exB (foP C i g s c) t)) _ (nI t) _ = f_X11_hindered_l165 m 57 _ _ _ _ (bI (exB (foP C i g s c) (t + 1))) _ (nI (t + 1)) _
      rw [f_X11_hindered_l165_s, exB_succ]
      simp only [mI, mL, mZ, msI, msL, mN1020, gC1, mR1_0, mR1_1, mR1_2, mR1_3, mR1_4, mR1_5, mR1_6, mR1_7, mR1_8, gC2, mR2_6, mR2_7, gC3, mN3, gC4, mN4, gC5, mR5_0, mR5_1, gC6, mN6, gC7, mR7_0, mR7_1, gC8, mR8_0, gC9, mN9, gC10, mR10_0, gC11, mN11, mR11_0, mR11_1, mR11_2, mR11_3, mR11_4, mR11_5, gC12, mR12_0, mR12_1, gC13, mN13, gC14, mN14, gC15, mR15_0, mR15_1, gC16, mN16, gC17, mN17, gC18, mR18_0, mR18_1, gC19, mN19, gC20, mN20, gC21, mR21_0, mR21_1, gC22, mN22, gC23, mN23, gC24, mR24_0, mR24_1, gC25, mN25, gC26, mN26, gC27, mR27_0, mR27_1, gC28, mN28, gC29, mN29, gC30, mR30_0, gC31, mN31, mR31_0, mR31_1, mR31_2, mR31_3, mR31_4, mR31_5, gC32, mR32_0, mR32_1, gC33, mN33, gC34, mN34, gC35, mR35_0, mR35_1, gC36, mN36, gC37, mN37, gC38, mR38_0, mR38_1, gC39, mN39, gC40, mN40, gC41, mR41_0, mR41_1, gC42, mN42, gC43, mN43, gC44, mR44_0, mR44_1, gC45, mN45, gC46, mN46, gC47, mR47_0, mR47_1, gC48, mN48, gC49, mN49, gC50, mR50_0, mR50_1, mR50_2, mR50_3, gC51, mN51, gC52, mN52, gC53, mN53, gC54, mN54, gC55, gC56, gC57, mR57_2, mR57_3, mR57_6, mR57_7, mR57_8, mR57_9, mR57_10, mR57_11, mR57_12, mR57_13, mR57_14, mR57_15, mR57_16, mR57_18, mR57_19, mR57_20, mR57_21, mR57_22, mR57_23, mR57_25, mR57_26, mR57_27, mR57_28, mR57_37, mR57_40, mR57_41, mR57_43, mR57_44, mR57_48, mR57_49, gC58, mN58, gC59, mN59, gC60, mN60, gC61, mN61, gC62, mN62, gC63, mN63, gC64, mN64, gC65, mN65, gC66, mN66, gC67, mN67, gC68, mN68, gC69, mN69, gC70, mN70, gC71, mN71, gC72, mN72, gC73, mN73, gC74, mN74, gC75, mN75, gC76, mN76, gC77, mN77, gC78, mN78, gC79, mN79, gC80, mN80, gC81, mN81, gC82, mN82, gC83, mN83, gC84, mN84, gC85, mN85, gC86, mN86, gC87, mN87, hN.2.2, nI_clamp (show t < 2 ^ 31 by omega), nI_clamp (show s < 2 ^ 31 by omega), gs, gI (show t < 9 by omega) (show 9 < 2 ^ 31 by omega), nI_1, bI_if]
      rw [if_neg (nI_ge ht (by omega))]
      cases c0 : exB (foP C i g s c) t with
      | true =>
        rw [if_pos rfl]
        rfl
      | false =>
        rw [if_neg (by decide), Bool.false_or]
        by_cases q1 : t = s
        · rw [if_pos (by rw [q1])]
          have : foP C i g s c t = false := by simp [foP, q1]
          rw [this]; rfl
        rw [if_neg (by rw [nI_eq (by omega) (by omega)]; exact q1)]
        by_cases q2 : i 66 t = -1
        · rw [if_pos q2]
          have : foP C i g s c t = false := by simp [foP, laB, q2]
          rw [this]; rfl
        rw [if_neg q2]
        by_cases q3 : i 62 t = i 62 s
        · rw [if_pos q3]
          have : foP C i g s c t = false := by simp [foP, q3]
          rw [this]; rfl
        rw [if_neg q3, isNear_E hD hV h9 hg eg hs ht hc q2, bdS, bI_if]
        have : foP C i g s c t = neM C i g s c t := by simp [foP, q1, q2, q3, laB]
        rw [this]
        cases neM C i g s c t <;> rfl
  have l56 : f_X11_hindered_l56 xFu 57 (nI s) (nI c) (bI (exB (twP C i s c) 0)) (bI (exB (thP C n i s c) 0)) 0 (bI (exB (fiP C i s c) 0)) (nI 0) (mkS n z L i l) = some (if exB (twP C i s c) z = true then 2 else if exB (thP C n i s c) z = true then 3 else if exB (foP C i g s c) n = true then 4 else if exB (fiP C i s c) z = true then 5 else if sixB C R n z i s c = true then 6 else if flB i n s true = true then 7 else 0, mkS n z L i l) := by
    refine acc_loop (S := Int32 × Int32 × Int32) (fun m a k w => f_X11_hindered_l56 m 57 (nI s) (nI c) a.1 a.2.1 0 a.2.2 k w) (fun k => (bI (exB (twP C i s c) k), bI (exB (thP C n i s c) k), bI (exB (fiP C i s c) k))) (fun _ => mkS n z L i l) z _ ?_ ?_ z 0 xFu (by omega) (by unfold xFu; omega)
    · intro m
      show f_X11_hindered_l56 (m + 1) 57 _ _ (bI (exB (twP C i s c) z)) (bI (exB (thP C n i s c) z)) 0 (bI (exB (fiP C i s c) z)) (nI z) _ = _
      rw [f_X11_hindered_l56_s]
      simp only [mI, mL, mZ, msI, msL, mN1020, gC1, mR1_0, mR1_1, mR1_2, mR1_3, mR1_4, mR1_5, mR1_6, mR1_7, mR1_8, gC2, mR2_6, mR2_7, gC3, mN3, gC4, mN4, gC5, mR5_0, mR5_1, gC6, mN6, gC7, mR7_0, mR7_1, gC8, mR8_0, gC9, mN9, gC10, mR10_0, gC11, mN11, mR11_0, mR11_1, mR11_2, mR11_3, mR11_4, mR11_5, gC12, mR12_0, mR12_1, gC13, mN13, gC14, mN14, gC15, mR15_0, mR15_1, gC16, mN16, gC17, mN17, gC18, mR18_0, mR18_1, gC19, mN19, gC20, mN20, gC21, mR21_0, mR21_1, gC22, mN22, gC23, mN23, gC24, mR24_0, mR24_1, gC25, mN25, gC26, mN26, gC27, mR27_0, mR27_1, gC28, mN28, gC29, mN29, gC30, mR30_0, gC31, mN31, mR31_0, mR31_1, mR31_2, mR31_3, mR31_4, mR31_5, gC32, mR32_0, mR32_1, gC33, mN33, gC34, mN34, gC35, mR35_0, mR35_1, gC36, mN36, gC37, mN37, gC38, mR38_0, mR38_1, gC39, mN39, gC40, mN40, gC41, mR41_0, mR41_1, gC42, mN42, gC43, mN43, gC44, mR44_0, mR44_1, gC45, mN45, gC46, mN46, gC47, mR47_0, mR47_1, gC48, mN48, gC49, mN49, gC50, mR50_0, mR50_1, mR50_2, mR50_3, gC51, mN51, gC52, mN52, gC53, mN53, gC54, mN54, gC55, gC56, gC57, mR57_2, mR57_3, mR57_6, mR57_7, mR57_8, mR57_9, mR57_10, mR57_11, mR57_12, mR57_13, mR57_14, mR57_15, mR57_16, mR57_18, mR57_19, mR57_20, mR57_21, mR57_22, mR57_23, mR57_25, mR57_26, mR57_27, mR57_28, mR57_37, mR57_40, mR57_41, mR57_43, mR57_44, mR57_48, mR57_49, gC58, mN58, gC59, mN59, gC60, mN60, gC61, mN61, gC62, mN62, gC63, mN63, gC64, mN64, gC65, mN65, gC66, mN66, gC67, mN67, gC68, mN68, gC69, mN69, gC70, mN70, gC71, mN71, gC72, mN72, gC73, mN73, gC74, mN74, gC75, mN75, gC76, mN76, gC77, mN77, gC78, mN78, gC79, mN79, gC80, mN80, gC81, mN81, gC82, mN82, gC83, mN83, gC84, mN84, gC85, mN85, gC86, mN86, gC87, mN87, e1, e2, pk_mul, ← h5]
      rw [if_pos (Int32.le_refl _)]
      exact l165 _ _ _
    · intro m k hk
      show f_X11_hindered_l56 (m + 1) 57 _ _ (bI (exB (twP C i s c) k)) (bI (exB (thP C n i s c) k)) 0 (bI (exB (fiP C i s c) k)) (nI k) _ = f_X11_hindered_l56 m 57 _ _ (bI (exB (twP C i s c) (k + 1))) (bI (exB (thP C n i s c) (k + 1))) 0 (bI (exB (fiP C i s c) (k + 1))) (nI (k + 1)) _
      rw [f_X11_hindered_l56_s, exB_succ, exB_succ, exB_succ]
      simp only [mI, mL, mZ, msI, msL, mN1020, gC1, mR1_0, mR1_1, mR1_2, mR1_3, mR1_4, mR1_5, mR1_6, mR1_7, mR1_8, gC2, mR2_6, mR2_7, gC3, mN3, gC4, mN4, gC5, mR5_0, mR5_1, gC6, mN6, gC7, mR7_0, mR7_1, gC8, mR8_0, gC9, mN9, gC10, mR10_0, gC11, mN11, mR11_0, mR11_1, mR11_2, mR11_3, mR11_4, mR11_5, gC12, mR12_0, mR12_1, gC13, mN13, gC14, mN14, gC15, mR15_0, mR15_1, gC16, mN16, gC17, mN17, gC18, mR18_0, mR18_1, gC19, mN19, gC20, mN20, gC21, mR21_0, mR21_1, gC22, mN22, gC23, mN23, gC24, mR24_0, mR24_1, gC25, mN25, gC26, mN26, gC27, mR27_0, mR27_1, gC28, mN28, gC29, mN29, gC30, mR30_0, gC31, mN31, mR31_0, mR31_1, mR31_2, mR31_3, mR31_4, mR31_5, gC32, mR32_0, mR32_1, gC33, mN33, gC34, mN34, gC35, mR35_0, mR35_1, gC36, mN36, gC37, mN37, gC38, mR38_0, mR38_1, gC39, mN39, gC40, mN40, gC41, mR41_0, mR41_1, gC42, mN42, gC43, mN43, gC44, mR44_0, mR44_1, gC45, mN45, gC46, mN46, gC47, mR47_0, mR47_1, gC48, mN48, gC49, mN49, gC50, mR50_0, mR50_1, mR50_2, mR50_3, gC51, mN51, gC52, mN52, gC53, mN53, gC54, mN54, gC55, gC56, gC57, mR57_2, mR57_3, mR57_6, mR57_7, mR57_8, mR57_9, mR57_10, mR57_11, mR57_12, mR57_13, mR57_14, mR57_15, mR57_16, mR57_18, mR57_19, mR57_20, mR57_21, mR57_22, mR57_23, mR57_25, mR57_26, mR57_27, mR57_28, mR57_37, mR57_40, mR57_41, mR57_43, mR57_44, mR57_48, mR57_49, gC58, mN58, gC59, mN59, gC60, mN60, gC61, mN61, gC62, mN62, gC63, mN63, gC64, mN64, gC65, mN65, gC66, mN66, gC67, mN67, gC68, mN68, gC69, mN69, gC70, mN70, gC71, mN71, gC72, mN72, gC73, mN73, gC74, mN74, gC75, mN75, gC76, mN76, gC77, mN77, gC78, mN78, gC79, mN79, gC80, mN80, gC81, mN81, gC82, mN82, gC83, mN83, gC84, mN84, gC85, mN85, gC86, mN86, gC87, mN87, e1, e2, pk_mul, ← h5, covers_E hD hV h9 hs hc hk, otherOn_E hD hN hV hs hk, bdS, bI_if, nI_clamp (show k < 2 ^ 31 by omega), nI_clamp (show s < 2 ^ 31 by omega), gI (show k < 64 by omega) (show 64 < 2 ^ 31 by omega), gs, f_X11_hindered_b109, f_X11_hindered_b126, nI_1]
      rw [if_neg (nI_ge hk (by omega))]
      by_cases c1 : cvS C i s c k = true
      · have c1' := c1
        unfold cvS at c1'
        rw [if_pos c1']
        have p2 : twP C i s c k = !decide (i 58 k = 0) := by simp [twP, c1]
        have p3 : thP C n i s c k = exB (fun t => !decide (t = s) && onB C i t k) n := by simp [thP, c1]
        have p5 : fiP C i s c k = decide (i 59 k < i 65 s) := by simp [fiP, c1]
        rw [p2, p3, p5]
        have hm := fsel_m1 (p := fun t => !decide (t = s) && onB C i t k) (N := n) (by omega)
        have hw : i 65 s ≤ i 59 k ↔ ¬ i 59 k < i 65 s := Int32.not_lt.symm
        by_cases x2 : i 58 k = 0
        · by_cases x3 : exB (fun t => !decide (t = s) && onB C i t k) n = false
          · have x3' := hm.mpr x3
            by_cases x5 : i 59 k < i 65 s
            · have x5' : ¬ i 65 s ≤ i 59 k := fun r => hw.mp r x5
              simp only [x2, x3, x3', x5, x5', decide_true, decide_false, Bool.not_true, Bool.or_false, Bool.or_true, if_true, if_false]
              cases exB (twP C i s c) k <;> cases exB (thP C n i s c) k <;> cases exB (fiP C i s c) k <;> rfl
            · have x5' : i 65 s ≤ i 59 k := hw.mpr x5
              simp only [x2, x3, x3', x5, x5', decide_true, decide_false, Bool.not_true, Bool.or_false, Bool.or_true, if_true, if_false]
              cases exB (twP C i s c) k <;> cases exB (thP C n i s c) k <;> cases exB (fiP C i s c) k <;> rfl
          · have x3' : ¬ fsel (fun t => !decide (t = s) && onB C i t k) (fun t => nI t) (-1) n 0 = -1 := fun r => x3 (hm.mp r)
            have x3'' : exB (fun t => !decide (t = s) && onB C i t k) n = true := by simpa using x3
            by_cases x5 : i 59 k < i 65 s
            · have x5' : ¬ i 65 s ≤ i 59 k := fun r => hw.mp r x5
              simp only [x2, x3'', x3', x5, x5', decide_true, decide_false, Bool.not_true, Bool.or_false, Bool.or_true, if_true, if_false]
              cases exB (twP C i s c) k <;> cases exB (thP C n i s c) k <;> cases exB (fiP C i s c) k <;> rfl
            · have x5' : i 65 s ≤ i 59 k := hw.mpr x5
              simp only [x2, x3'', x3', x5, x5', decide_true, decide_false, Bool.not_true, Bool.or_false, Bool.or_true, if_true, if_false]
              cases exB (twP C i s c) k <;> cases exB (thP C n i s c) k <;> cases exB (fiP C i s c) k <;> rfl
        · by_cases x3 : exB (fun t => !decide (t = s) && onB C i t k) n = false
          · have x3' := hm.mpr x3
            by_cases x5 : i 59 k < i 65 s
            · have x5' : ¬ i 65 s ≤ i 59 k := fun r => hw.mp r x5
              simp only [x2, x3, x3', x5, x5', decide_true, decide_false, Bool.not_false, Bool.or_false, Bool.or_true, if_true, if_false]
              cases exB (twP C i s c) k <;> cases exB (thP C n i s c) k <;> cases exB (fiP C i s c) k <;> rfl
            · have x5' : i 65 s ≤ i 59 k := hw.mpr x5
              simp only [x2, x3, x3', x5, x5', decide_true, decide_false, Bool.not_false, Bool.or_false, Bool.or_true, if_true, if_false]
              cases exB (twP C i s c) k <;> cases exB (thP C n i s c) k <;> cases exB (fiP C i s c) k <;> rfl
          · have x3' : ¬ fsel (fun t => !decide (t = s) && onB C i t k) (fun t => nI t) (-1) n 0 = -1 := fun r => x3 (hm.mp r)
            have x3'' : exB (fun t => !decide (t = s) && onB C i t k) n = true := by simpa using x3
            by_cases x5 : i 59 k < i 65 s
            · have x5' : ¬ i 65 s ≤ i 59 k := fun r => hw.mp r x5
              simp only [x2, x3'', x3', x5, x5', decide_true, decide_false, Bool.not_false, Bool.or_false, Bool.or_true, if_true, if_false]
              cases exB (twP C i s c) k <;> cases exB (thP C n i s c) k <;> cases exB (fiP C i s c) k <;> rfl
            · have x5' : i 65 s ≤ i 59 k := hw.mpr x5
              simp only [x2, x3'', x3', x5, x5', decide_true, decide_false, Bool.not_false, Bool.or_false, Bool.or_true, if_true, if_false]
              cases exB (twP C i s c) k <;> cases exB (thP C n i s c) k <;> cases exB (fiP C i s c) k <;> rfl
      · have c1' : cvS C i s c k = false := by simpa using c1
        have p2 : twP C i s c k = false := by simp [twP, c1']
        have p3 : thP C n i s c k = false := by simp [thP, c1']
        have p5 : fiP C i s c k = false := by simp [fiP, c1']
        unfold cvS at c1
        rw [if_neg c1, p2, p3, p5, Bool.or_false, Bool.or_false, Bool.or_false]
  simp only [f_X11_hindered, mI, mL, mZ, msI, msL, mN1020, gC1, mR1_0, mR1_1, mR1_2, mR1_3, mR1_4, mR1_5, mR1_6, mR1_7, mR1_8, gC2, mR2_6, mR2_7, gC3, mN3, gC4, mN4, gC5, mR5_0, mR5_1, gC6, mN6, gC7, mR7_0, mR7_1, gC8, mR8_0, gC9, mN9, gC10, mR10_0, gC11, mN11, mR11_0, mR11_1, mR11_2, mR11_3, mR11_4, mR11_5, gC12, mR12_0, mR12_1, gC13, mN13, gC14, mN14, gC15, mR15_0, mR15_1, gC16, mN16, gC17, mN17, gC18, mR18_0, mR18_1, gC19, mN19, gC20, mN20, gC21, mR21_0, mR21_1, gC22, mN22, gC23, mN23, gC24, mR24_0, mR24_1, gC25, mN25, gC26, mN26, gC27, mR27_0, mR27_1, gC28, mN28, gC29, mN29, gC30, mR30_0, gC31, mN31, mR31_0, mR31_1, mR31_2, mR31_3, mR31_4, mR31_5, gC32, mR32_0, mR32_1, gC33, mN33, gC34, mN34, gC35, mR35_0, mR35_1, gC36, mN36, gC37, mN37, gC38, mR38_0, mR38_1, gC39, mN39, gC40, mN40, gC41, mR41_0, mR41_1, gC42, mN42, gC43, mN43, gC44, mR44_0, mR44_1, gC45, mN45, gC46, mN46, gC47, mR47_0, mR47_1, gC48, mN48, gC49, mN49, gC50, mR50_0, mR50_1, mR50_2, mR50_3, gC51, mN51, gC52, mN52, gC53, mN53, gC54, mN54, gC55, gC56, gC57, mR57_2, mR57_3, mR57_6, mR57_7, mR57_8, mR57_9, mR57_10, mR57_11, mR57_12, mR57_13, mR57_14, mR57_15, mR57_16, mR57_18, mR57_19, mR57_20, mR57_21, mR57_22, mR57_23, mR57_25, mR57_26, mR57_27, mR57_28, mR57_37, mR57_40, mR57_41, mR57_43, mR57_44, mR57_48, mR57_49, gC58, mN58, gC59, mN59, gC60, mN60, gC61, mN61, gC62, mN62, gC63, mN63, gC64, mN64, gC65, mN65, gC66, mN66, gC67, mN67, gC68, mN68, gC69, mN69, gC70, mN70, gC71, mN71, gC72, mN72, gC73, mN73, gC74, mN74, gC75, mN75, gC76, mN76, gC77, mN77, gC78, mN78, gC79, mN79, gC80, mN80, gC81, mN81, gC82, mN82, gC83, mN83, gC84, mN84, gC85, mN85, gC86, mN86, gC87, mN87, e1, e2, gd_t hC, gs, nI_clamp (show s < 2 ^ 31 by omega), w1, d1, pk_div (show c < 2 ^ 31 by omega) (show 0 < C by omega) (show C < 2 ^ 31 by omega), pk_rem' (show c < 2 ^ 31 by omega) (show 0 < C by omega) (show C < 2 ^ 31 by omega), nI_add]
  unfold hinV
  by_cases f1 : c % C + wdN i s ≤ C
  · rw [if_neg (by rw [nI_ltI (by omega) (by omega)]; omega)]
    by_cases f2 : c / C + dpN i s ≤ R
    · rw [if_pos ((nI_leI (by omega) (by omega)).mpr f2), if_pos ⟨f1, f2⟩]
      exact l56
    · rw [if_neg (fun r => f2 ((nI_leI (by omega) (by omega)).mp r)), if_neg (fun r => f2 r.2)]
  · rw [if_pos (by rw [nI_ltI (by omega) (by omega)]; omega), if_neg (fun r => f1 r.1)]
end LAYS
