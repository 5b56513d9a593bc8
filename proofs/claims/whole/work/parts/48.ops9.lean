section OPS9
variable {C R n z L : Nat} {i : fI} {l : fL}
/-! the text in force -/
def ifo (fr : Nat → Int32) (day : Int32) : Nat → Option Nat
  | 0 => none
  | m + 1 => if day < fr m then ifo fr day m else match ifo fr day m with
    | none => some m
    | some b => if fr m < fr b then some b else some m
theorem ifo_lt (fr : Nat → Int32) (day : Int32) : ∀ m b, ifo fr day m = some b → b < m
  | 0, b, h => by simp [ifo] at h
  | m + 1, b, h => by
    unfold ifo at h
    by_cases c : day < fr m
    · rw [if_pos c] at h
      have := ifo_lt fr day m b h
      omega
    · rw [if_neg c] at h
      cases e : ifo fr day m with
      | none =>
        rw [e] at h
        have : m = b := by simpa using h
        omega
      | some b2 =>
        rw [e] at h
        have := ifo_lt fr day m b2 e
        by_cases c2 : fr m < fr b2
        · have : b2 = b := by simpa [c2] using h
          omega
        · have : m = b := by simpa [c2] using h
          omega
def ptr (B : Nat) : Option Nat → Nat
  | none => 0
  | some b => B + 3 * b
def idx (o : Nat) : Option Nat → Int32
  | none => -1
  | some b => nI (o + b)
theorem fsel_loop {W : Type} (loop : Nat → Int32 → W → Option (Int32 × W)) (p : Nat → Bool) (v : Nat → Int32) (d : Int32) (N : Nat) (w : W) (hx : ∀ m, loop (m + 1) (nI N) w = some (d, w)) (hs : ∀ m s, s < N → loop (m + 1) (nI s) w = if p s = true then some (v s, w) else loop m (nI (s + 1)) w) : ∀ k s m, s + k = N → k < m → loop m (nI s) w = some (fsel p v d k s, w) := by
  intro k
  induction k with
  | zero =>
    intro s m hsN hm
    obtain ⟨m, rfl⟩ : ∃ q, m = q + 1 := ⟨m - 1, by omega⟩
    have : s = N := by omega
    subst this
    exact hx m
  | succ k ih =>
    intro s m hsN hm
    obtain ⟨m, rfl⟩ : ∃ q, m = q + 1 := ⟨m - 1, by omega⟩
    rw [hs m s (by omega)]
    unfold fsel
    by_cases c : p s = true
    · rw [if_pos c, if_pos c]
    · rw [if_neg c, if_neg c]
      exact ih (s + 1) m (by omega) (by omega)
theorem tx0_t {t : Nat} (h : t < 6) : wR (mkS n z L i l) 11 t = 12 + 3 * t := by
  match t, h with
  | 0, _ => rfl
  | 1, _ => rfl
  | 2, _ => rfl
  | 3, _ => rfl
  | 4, _ => rfl
  | 5, _ => rfl
theorem tx0_c {t : Nat} (h : t < 6) {α : Type} {d : Decidable (isC (mkS n z L i l) (12 + 3 * t) 8)} (e : Option α) : @gd α (isC (mkS n z L i l) (12 + 3 * t) 8) d e = e := if_pos (mC _ _ _ _ _ (by omega) (by omega) (by
  have : ∀ t : Fin 6, xTB.getD (12 + 3 * t) 0 = 8 := by decide
  exact this ⟨t, h⟩))
theorem tx0_kc {t : Nat} (h : t < 6) {α : Type} {d : Decidable (isC (mkS n z L i l) (13 + 3 * t) 20)} (e : Option α) : @gd α (isC (mkS n z L i l) (13 + 3 * t) 20) d e = e := if_pos (mC _ _ _ _ _ (by omega) (by omega) (by
  have : ∀ t : Fin 6, xTB.getD (13 + 3 * t) 0 = 20 := by decide
  exact this ⟨t, h⟩))
theorem tx0_nc {t : Nat} (h : t < 6) {α : Type} {d : Decidable (isC (mkS n z L i l) (14 + 3 * t) 20)} (e : Option α) : @gd α (isC (mkS n z L i l) (14 + 3 * t) 20) d e = e := if_pos (mC _ _ _ _ _ (by omega) (by omega) (by
  have : ∀ t : Fin 6, xTB.getD (14 + 3 * t) 0 = 20 := by decide
  exact this ⟨t, h⟩))
theorem tx0_k {t : Nat} (h : t < 6) : wR (mkS n z L i l) (12 + 3 * t) 0 = 13 + 3 * t := by
  match t, h with
  | 0, _ => rfl
  | 1, _ => rfl
  | 2, _ => rfl
  | 3, _ => rfl
  | 4, _ => rfl
  | 5, _ => rfl
theorem tx0_n {t : Nat} (h : t < 6) : wR (mkS n z L i l) (12 + 3 * t) 1 = 14 + 3 * t := by
  match t, h with
  | 0, _ => rfl
  | 1, _ => rfl
  | 2, _ => rfl
  | 3, _ => rfl
  | 4, _ => rfl
  | 5, _ => rfl
theorem tx0_kn {t : Nat} (h : t < 6) : wN (mkS n z L i l) (13 + 3 * t) = 5 := by
  match t, h with
  | 0, _ => rfl
  | 1, _ => rfl
  | 2, _ => rfl
  | 3, _ => rfl
  | 4, _ => rfl
  | 5, _ => rfl
theorem tx0_nn {t : Nat} (h : t < 6) : wN (mkS n z L i l) (14 + 3 * t) = 5 := by
  match t, h with
  | 0, _ => rfl
  | 1, _ => rfl
  | 2, _ => rfl
  | 3, _ => rfl
  | 4, _ => rfl
  | 5, _ => rfl
theorem inForceC0_E {m : Nat} (hm : m ≤ 6) (h1 : i 10 1 = nI m) (hf : ∀ t, t < m → i (12 + 3 * t) 3 = i 72 (0 + t)) (day : Int32) : f_X9_inForce 10 day (mkS n z L i l) = some (ptr 12 (ifo (fun t => i 72 (0 + t)) day m), mkS n z L i l) := by
  unfold f_X9_inForce
  refine acc_loop (fun k a s w => f_X9_inForce_l4 k 10 day a s w) (fun s => ptr 12 (ifo (fun t => i 72 (0 + t)) day s)) (fun _ => mkS n z L i l) m _ ?_ ?_ m 0 xFu (by omega) (by unfold xFu; omega)
  · intro k
    show f_X9_inForce_l4 (k + 1) 10 day _ (nI m) _ = _
    rw [f_X9_inForce_l4_s]
    simp only [mI, mL, mZ, msI, msL, mN1020, gC1, mR1_0, mR1_1, mR1_2, mR1_3, mR1_4, mR1_5, mR1_6, mR1_7, mR1_8, gC2, mR2_6, mR2_7, gC3, mN3, gC4, mN4, gC5, mR5_0, mR5_1, gC6, mN6, gC7, mR7_0, mR7_1, gC8, mR8_0, gC9, mN9, gC10, mR10_0, gC11, mN11, mR11_0, mR11_1, mR11_2, mR11_3, mR11_4, mR11_5, gC12, mR12_0, mR12_1, gC13, mN13, gC14, mN14, gC15, mR15_0, mR15_1, gC16, mN16, gC17, mN17, gC18, mR18_0, mR18_1, gC19, mN19, gC20, mN20, gC21, mR21_0, mR21_1, gC22, mN22, gC23, mN23, gC24, mR24_0, mR24_1, gC25, mN25, gC26, mN26, gC27, mR27_0, mR27_1, gC28, mN28, gC29, mN29, gC30, mR30_0, gC31, mN31, mR31_0, mR31_1, mR31_2, mR31_3, mR31_4, mR31_5, gC32, mR32_0, mR32_1, gC33, mN33, gC34, mN34, gC35, mR35_0, mR35_1, gC36, mN36, gC37, mN37, gC38, mR38_0, mR38_1, gC39, mN39, gC40, mN40, gC41, mR41_0, mR41_1, gC42, mN42, gC43, mN43, gC44, mR44_0, mR44_1, gC45, mN45, gC46, mN46, gC47, mR47_0, mR47_1, gC48, mN48, gC49, mN49, gC50, mR50_0, mR50_1, mR50_2, mR50_3, gC51, mN51, gC52, mN52, gC53, mN53, gC54, mN54, gC55, gC56, gC57, mR57_2, mR57_3, mR57_6, mR57_7, mR57_8, mR57_9, mR57_10, mR57_11, mR57_12, mR57_13, mR57_14, mR57_15, mR57_16, mR57_18, mR57_19, mR57_20, mR57_21, mR57_22, mR57_23, mR57_25, mR57_26, mR57_27, mR57_28, mR57_37, mR57_40, mR57_41, mR57_43, mR57_44, mR57_48, mR57_49, gC58, mN58, gC59, mN59, gC60, mN60, gC61, mN61, gC62, mN62, gC63, mN63, gC64, mN64, gC65, mN65, gC66, mN66, gC67, mN67, gC68, mN68, gC69, mN69, gC70, mN70, gC71, mN71, gC72, mN72, gC73, mN73, gC74, mN74, gC75, mN75, gC76, mN76, gC77, mN77, gC78, mN78, gC79, mN79, gC80, mN80, gC81, mN81, gC82, mN82, gC83, mN83, gC84, mN84, gC85, mN85, gC86, mN86, gC87, mN87, h1]
    rw [if_pos (Int32.le_refl _)]
  · intro k s hs
    show f_X9_inForce_l4 (k + 1) 10 day (ptr 12 (ifo (fun t => i 72 (0 + t)) day s)) (nI s) _ = f_X9_inForce_l4 k 10 day (ptr 12 (ifo (fun t => i 72 (0 + t)) day (s + 1))) (nI (s + 1)) _
    rw [f_X9_inForce_l4_s]
    simp only [mI, mL, mZ, msI, msL, mN1020, gC1, mR1_0, mR1_1, mR1_2, mR1_3, mR1_4, mR1_5, mR1_6, mR1_7, mR1_8, gC2, mR2_6, mR2_7, gC3, mN3, gC4, mN4, gC5, mR5_0, mR5_1, gC6, mN6, gC7, mR7_0, mR7_1, gC8, mR8_0, gC9, mN9, gC10, mR10_0, gC11, mN11, mR11_0, mR11_1, mR11_2, mR11_3, mR11_4, mR11_5, gC12, mR12_0, mR12_1, gC13, mN13, gC14, mN14, gC15, mR15_0, mR15_1, gC16, mN16, gC17, mN17, gC18, mR18_0, mR18_1, gC19, mN19, gC20, mN20, gC21, mR21_0, mR21_1, gC22, mN22, gC23, mN23, gC24, mR24_0, mR24_1, gC25, mN25, gC26, mN26, gC27, mR27_0, mR27_1, gC28, mN28, gC29, mN29, gC30, mR30_0, gC31, mN31, mR31_0, mR31_1, mR31_2, mR31_3, mR31_4, mR31_5, gC32, mR32_0, mR32_1, gC33, mN33, gC34, mN34, gC35, mR35_0, mR35_1, gC36, mN36, gC37, mN37, gC38, mR38_0, mR38_1, gC39, mN39, gC40, mN40, gC41, mR41_0, mR41_1, gC42, mN42, gC43, mN43, gC44, mR44_0, mR44_1, gC45, mN45, gC46, mN46, gC47, mR47_0, mR47_1, gC48, mN48, gC49, mN49, gC50, mR50_0, mR50_1, mR50_2, mR50_3, gC51, mN51, gC52, mN52, gC53, mN53, gC54, mN54, gC55, gC56, gC57, mR57_2, mR57_3, mR57_6, mR57_7, mR57_8, mR57_9, mR57_10, mR57_11, mR57_12, mR57_13, mR57_14, mR57_15, mR57_16, mR57_18, mR57_19, mR57_20, mR57_21, mR57_22, mR57_23, mR57_25, mR57_26, mR57_27, mR57_28, mR57_37, mR57_40, mR57_41, mR57_43, mR57_44, mR57_48, mR57_49, gC58, mN58, gC59, mN59, gC60, mN60, gC61, mN61, gC62, mN62, gC63, mN63, gC64, mN64, gC65, mN65, gC66, mN66, gC67, mN67, gC68, mN68, gC69, mN69, gC70, mN70, gC71, mN71, gC72, mN72, gC73, mN73, gC74, mN74, gC75, mN75, gC76, mN76, gC77, mN77, gC78, mN78, gC79, mN79, gC80, mN80, gC81, mN81, gC82, mN82, gC83, mN83, gC84, mN84, gC85, mN85, gC86, mN86, gC87, mN87, h1, nI_clamp (show s < 2 ^ 31 by omega), tx0_t (show s < 6 by omega), tx0_c (show s < 6 by omega), hf s hs]
    rw [if_neg (nI_ge hs (by omega)), gI (by omega) (by omega), nI_1]
    by_cases c : day < i 72 (0 + s)
    · have e : ifo (fun t => i 72 (0 + t)) day (s + 1) = ifo (fun t => i 72 (0 + t)) day s := if_pos c
      rw [if_pos c, e]
    · rw [if_neg c]
      cases e : ifo (fun t => i 72 (0 + t)) day s with
      | none =>
        have e2 : ifo (fun t => i 72 (0 + t)) day (s + 1) = some s := by
          unfold ifo
          rw [if_neg c, e]
        rw [e2]
        show gd ((0 : Nat) < 1000) _ = _
        rw [gd_t (by decide)]
        rfl
      | some b =>
        have hb := ifo_lt _ _ _ _ e
        show gd (12 + 3 * b < 1000) _ = _
        rw [gd_t (by omega)]
        show (if 12 + 3 * b = 0 then _ else _) = _
        rw [if_neg (by omega)]
        show gd (isC (mkS n z L i l) (12 + 3 * b) 8) (if _ < i (12 + 3 * b) 3 then _ else _) = _
        rw [tx0_c (by omega), hf b (by omega)]
        by_cases c2 : i 72 (0 + s) < i 72 (0 + b)
        · have e2 : ifo (fun t => i 72 (0 + t)) day (s + 1) = some b := by
            unfold ifo
            rw [if_neg c, e]
            exact if_pos c2
          rw [if_pos c2, e2]
          try rfl
        · have e2 : ifo (fun t => i 72 (0 + t)) day (s + 1) = some s := by
            unfold ifo
            rw [if_neg c, e]
            exact if_neg c2
          rw [if_neg c2, e2]
          try rfl
theorem inForceM0_E {m : Nat} (hm : m ≤ 6) (h1 : i 71 0 = nI m) (day : Int32) : f_X11_inForce 57 (nI 0) day (mkS n z L i l) = some (idx 0 (ifo (fun t => i 72 (0 + t)) day m), mkS n z L i l) := by
  unfold f_X11_inForce
  rw [show (6 : Int32) * nI 0 = nI (0 + 0) from rfl]
  refine acc_loopG (S := Int32 × Int32) (fun k a w => f_X11_inForce_l8 k 57 (nI 0) day a.1 a.2 w) (fun s => (idx 0 (ifo (fun t => i 72 (0 + t)) day s), nI (0 + s))) (fun _ => mkS n z L i l) m _ ?_ ?_ m 0 xFu (by omega) (by unfold xFu; omega)
  · intro k
    show f_X11_inForce_l8 (k + 1) 57 _ day _ (nI (0 + m)) _ = _
    rw [f_X11_inForce_l8_s]
    simp only [mI, mL, mZ, msI, msL, mN1020, gC1, mR1_0, mR1_1, mR1_2, mR1_3, mR1_4, mR1_5, mR1_6, mR1_7, mR1_8, gC2, mR2_6, mR2_7, gC3, mN3, gC4, mN4, gC5, mR5_0, mR5_1, gC6, mN6, gC7, mR7_0, mR7_1, gC8, mR8_0, gC9, mN9, gC10, mR10_0, gC11, mN11, mR11_0, mR11_1, mR11_2, mR11_3, mR11_4, mR11_5, gC12, mR12_0, mR12_1, gC13, mN13, gC14, mN14, gC15, mR15_0, mR15_1, gC16, mN16, gC17, mN17, gC18, mR18_0, mR18_1, gC19, mN19, gC20, mN20, gC21, mR21_0, mR21_1, gC22, mN22, gC23, mN23, gC24, mR24_0, mR24_1, gC25, mN25, gC26, mN26, gC27, mR27_0, mR27_1, gC28, mN28, gC29, mN29, gC30, mR30_0, gC31, mN31, mR31_0, mR31_1, mR31_2, mR31_3, mR31_4, mR31_5, gC32, mR32_0, mR32_1, gC33, mN33, gC34, mN34, gC35, mR35_0, mR35_1, gC36, mN36, gC37, mN37, gC38, mR38_0, mR38_1, gC39, mN39, gC40, mN40, gC41, mR41_0, mR41_1, gC42, mN42, gC43, mN43, gC44, mR44_0, mR44_1, gC45, mN45, gC46, mN46, gC47, mR47_0, mR47_1, gC48, mN48, gC49, mN49, gC50, mR50_0, mR50_1, mR50_2, mR50_3, gC51, mN51, gC52, mN52, gC53, mN53, gC54, mN54, gC55, gC56, gC57, mR57_2, mR57_3, mR57_6, mR57_7, mR57_8, mR57_9, mR57_10, mR57_11, mR57_12, mR57_13, mR57_14, mR57_15, mR57_16, mR57_18, mR57_19, mR57_20, mR57_21, mR57_22, mR57_23, mR57_25, mR57_26, mR57_27, mR57_28, mR57_37, mR57_40, mR57_41, mR57_43, mR57_44, mR57_48, mR57_49, gC58, mN58, gC59, mN59, gC60, mN60, gC61, mN61, gC62, mN62, gC63, mN63, gC64, mN64, gC65, mN65, gC66, mN66, gC67, mN67, gC68, mN68, gC69, mN69, gC70, mN70, gC71, mN71, gC72, mN72, gC73, mN73, gC74, mN74, gC75, mN75, gC76, mN76, gC77, mN77, gC78, mN78, gC79, mN79, gC80, mN80, gC81, mN81, gC82, mN82, gC83, mN83, gC84, mN84, gC85, mN85, gC86, mN86, gC87, mN87, nI_clamp (show 0 < 2 ^ 31 by omega), h1]
    rw [gI (by omega) (by omega), show (6 : Int32) * nI 0 = nI 0 from rfl, nI_add, if_pos (Int32.le_refl _)]
  · intro k s hs
    show f_X11_inForce_l8 (k + 1) 57 _ day (idx 0 (ifo (fun t => i 72 (0 + t)) day s)) (nI (0 + s)) _ = f_X11_inForce_l8 k 57 _ day (idx 0 (ifo (fun t => i 72 (0 + t)) day (s + 1))) (nI (0 + (s + 1))) _
    rw [f_X11_inForce_l8_s]
    simp only [mI, mL, mZ, msI, msL, mN1020, gC1, mR1_0, mR1_1, mR1_2, mR1_3, mR1_4, mR1_5, mR1_6, mR1_7, mR1_8, gC2, mR2_6, mR2_7, gC3, mN3, gC4, mN4, gC5, mR5_0, mR5_1, gC6, mN6, gC7, mR7_0, mR7_1, gC8, mR8_0, gC9, mN9, gC10, mR10_0, gC11, mN11, mR11_0, mR11_1, mR11_2, mR11_3, mR11_4, mR11_5, gC12, mR12_0, mR12_1, gC13, mN13, gC14, mN14, gC15, mR15_0, mR15_1, gC16, mN16, gC17, mN17, gC18, mR18_0, mR18_1, gC19, mN19, gC20, mN20, gC21, mR21_0, mR21_1, gC22, mN22, gC23, mN23, gC24, mR24_0, mR24_1, gC25, mN25, gC26, mN26, gC27, mR27_0, mR27_1, gC28, mN28, gC29, mN29, gC30, mR30_0, gC31, mN31, mR31_0, mR31_1, mR31_2, mR31_3, mR31_4, mR31_5, gC32, mR32_0, mR32_1, gC33, mN33, gC34, mN34, gC35, mR35_0, mR35_1, gC36, mN36, gC37, mN37, gC38, mR38_0, mR38_1, gC39, mN39, gC40, mN40, gC41, mR41_0, mR41_1, gC42, mN42, gC43, mN43, gC44, mR44_0, mR44_1, gC45, mN45, gC46, mN46, gC47, mR47_0, mR47_1, gC48, mN48, gC49, mN49, gC50, mR50_0, mR50_1, mR50_2, mR50_3, gC51, mN51, gC52, mN52, gC53, mN53, gC54, mN54, gC55, gC56, gC57, mR57_2, mR57_3, mR57_6, mR57_7, mR57_8, mR57_9, mR57_10, mR57_11, mR57_12, mR57_13, mR57_14, mR57_15, mR57_16, mR57_18, mR57_19, mR57_20, mR57_21, mR57_22, mR57_23, mR57_25, mR57_26, mR57_27, mR57_28, mR57_37, mR57_40, mR57_41, mR57_43, mR57_44, mR57_48, mR57_49, gC58, mN58, gC59, mN59, gC60, mN60, gC61, mN61, gC62, mN62, gC63, mN63, gC64, mN64, gC65, mN65, gC66, mN66, gC67, mN67, gC68, mN68, gC69, mN69, gC70, mN70, gC71, mN71, gC72, mN72, gC73, mN73, gC74, mN74, gC75, mN75, gC76, mN76, gC77, mN77, gC78, mN78, gC79, mN79, gC80, mN80, gC81, mN81, gC82, mN82, gC83, mN83, gC84, mN84, gC85, mN85, gC86, mN86, gC87, mN87, nI_clamp (show 0 < 2 ^ 31 by omega), nI_clamp (show 0 + s < 2 ^ 31 by omega), h1]
    rw [gI (by omega) (by omega), show (6 : Int32) * nI 0 = nI 0 from rfl, nI_add, if_neg (nI_ge (by omega) (by omega)), gI (by omega) (by omega), nI_1]
    by_cases c : day < i 72 (0 + s)
    · have e : ifo (fun t => i 72 (0 + t)) day (s + 1) = ifo (fun t => i 72 (0 + t)) day s := if_pos c
      rw [if_pos c, e]
      rfl
    · rw [if_neg c]
      cases e : ifo (fun t => i 72 (0 + t)) day s with
      | none =>
        have e2 : ifo (fun t => i 72 (0 + t)) day (s + 1) = some s := by
          unfold ifo
          rw [if_neg c, e]
        rw [e2]
        show (if (-1 : Int32) = -1 then _ else _) = _
        rw [if_pos rfl]
        rfl
      | some b =>
        have hb := ifo_lt _ _ _ _ e
        show (if nI (0 + b) = -1 then _ else gd (inR (nI (0 + b)) 12) (if i 72 (0 + s) < i 72 (nI (0 + b)).toNatClampNeg then _ else _)) = _
        rw [if_neg (nI_m1 (by omega)), gI (by omega) (by omega), nI_clamp (by omega)]
        by_cases c2 : i 72 (0 + s) < i 72 (0 + b)
        · have e2 : ifo (fun t => i 72 (0 + t)) day (s + 1) = some b := by
            unfold ifo
            rw [if_neg c, e]
            exact if_pos c2
          rw [if_pos c2, e2]
          try rfl
        · have e2 : ifo (fun t => i 72 (0 + t)) day (s + 1) = some s := by
            unfold ifo
            rw [if_neg c, e]
            exact if_neg c2
          rw [if_neg c2, e2]
          try rfl
theorem tx1_t {t : Nat} (h : t < 6) : wR (mkS n z L i l) 31 t = 32 + 3 * t := by
  match t, h with
  | 0, _ => rfl
  | 1, _ => rfl
  | 2, _ => rfl
  | 3, _ => rfl
  | 4, _ => rfl
  | 5, _ => rfl
theorem tx1_c {t : Nat} (h : t < 6) {α : Type} {d : Decidable (isC (mkS n z L i l) (32 + 3 * t) 8)} (e : Option α) : @gd α (isC (mkS n z L i l) (32 + 3 * t) 8) d e = e := if_pos (mC _ _ _ _ _ (by omega) (by omega) (by
  have : ∀ t : Fin 6, xTB.getD (32 + 3 * t) 0 = 8 := by decide
  exact this ⟨t, h⟩))
theorem tx1_kc {t : Nat} (h : t < 6) {α : Type} {d : Decidable (isC (mkS n z L i l) (33 + 3 * t) 20)} (e : Option α) : @gd α (isC (mkS n z L i l) (33 + 3 * t) 20) d e = e := if_pos (mC _ _ _ _ _ (by omega) (by omega) (by
  have : ∀ t : Fin 6, xTB.getD (33 + 3 * t) 0 = 20 := by decide
  exact this ⟨t, h⟩))
theorem tx1_nc {t : Nat} (h : t < 6) {α : Type} {d : Decidable (isC (mkS n z L i l) (34 + 3 * t) 20)} (e : Option α) : @gd α (isC (mkS n z L i l) (34 + 3 * t) 20) d e = e := if_pos (mC _ _ _ _ _ (by omega) (by omega) (by
  have : ∀ t : Fin 6, xTB.getD (34 + 3 * t) 0 = 20 := by decide
  exact this ⟨t, h⟩))
theorem tx1_k {t : Nat} (h : t < 6) : wR (mkS n z L i l) (32 + 3 * t) 0 = 33 + 3 * t := by
  match t, h with
  | 0, _ => rfl
  | 1, _ => rfl
  | 2, _ => rfl
  | 3, _ => rfl
  | 4, _ => rfl
  | 5, _ => rfl
theorem tx1_n {t : Nat} (h : t < 6) : wR (mkS n z L i l) (32 + 3 * t) 1 = 34 + 3 * t := by
  match t, h with
  | 0, _ => rfl
  | 1, _ => rfl
  | 2, _ => rfl
  | 3, _ => rfl
  | 4, _ => rfl
  | 5, _ => rfl
theorem tx1_kn {t : Nat} (h : t < 6) : wN (mkS n z L i l) (33 + 3 * t) = 5 := by
  match t, h with
  | 0, _ => rfl
  | 1, _ => rfl
  | 2, _ => rfl
  | 3, _ => rfl
  | 4, _ => rfl
  | 5, _ => rfl
theorem tx1_nn {t : Nat} (h : t < 6) : wN (mkS n z L i l) (34 + 3 * t) = 5 := by
  match t, h with
  | 0, _ => rfl
  | 1, _ => rfl
  | 2, _ => rfl
  | 3, _ => rfl
  | 4, _ => rfl
  | 5, _ => rfl
theorem inForceC1_E {m : Nat} (hm : m ≤ 6) (h1 : i 30 1 = nI m) (hf : ∀ t, t < m → i (32 + 3 * t) 3 = i 72 (6 + t)) (day : Int32) : f_X9_inForce 30 day (mkS n z L i l) = some (ptr 32 (ifo (fun t => i 72 (6 + t)) day m), mkS n z L i l) := by
  unfold f_X9_inForce
  refine acc_loop (fun k a s w => f_X9_inForce_l4 k 30 day a s w) (fun s => ptr 32 (ifo (fun t => i 72 (6 + t)) day s)) (fun _ => mkS n z L i l) m _ ?_ ?_ m 0 xFu (by omega) (by unfold xFu; omega)
  · intro k
    show f_X9_inForce_l4 (k + 1) 30 day _ (nI m) _ = _
    rw [f_X9_inForce_l4_s]
    simp only [mI, mL, mZ, msI, msL, mN1020, gC1, mR1_0, mR1_1, mR1_2, mR1_3, mR1_4, mR1_5, mR1_6, mR1_7, mR1_8, gC2, mR2_6, mR2_7, gC3, mN3, gC4, mN4, gC5, mR5_0, mR5_1, gC6, mN6, gC7, mR7_0, mR7_1, gC8, mR8_0, gC9, mN9, gC10, mR10_0, gC11, mN11, mR11_0, mR11_1, mR11_2, mR11_3, mR11_4, mR11_5, gC12, mR12_0, mR12_1, gC13, mN13, gC14, mN14, gC15, mR15_0, mR15_1, gC16, mN16, gC17, mN17, gC18, mR18_0, mR18_1, gC19, mN19, gC20, mN20, gC21, mR21_0, mR21_1, gC22, mN22, gC23, mN23, gC24, mR24_0, mR24_1, gC25, mN25, gC26, mN26, gC27, mR27_0, mR27_1, gC28, mN28, gC29, mN29, gC30, mR30_0, gC31, mN31, mR31_0, mR31_1, mR31_2, mR31_3, mR31_4, mR31_5, gC32, mR32_0, mR32_1, gC33, mN33, gC34, mN34, gC35, mR35_0, mR35_1, gC36, mN36, gC37, mN37, gC38, mR38_0, mR38_1, gC39, mN39, gC40, mN40, gC41, mR41_0, mR41_1, gC42, mN42, gC43, mN43, gC44, mR44_0, mR44_1, gC45, mN45, gC46, mN46, gC47, mR47_0, mR47_1, gC48, mN48, gC49, mN49, gC50, mR50_0, mR50_1, mR50_2, mR50_3, gC51, mN51, gC52, mN52, gC53, mN53, gC54, mN54, gC55, gC56, gC57, mR57_2, mR57_3, mR57_6, mR57_7, mR57_8, mR57_9, mR57_10, mR57_11, mR57_12, mR57_13, mR57_14, mR57_15, mR57_16, mR57_18, mR57_19, mR57_20, mR57_21, mR57_22, mR57_23, mR57_25, mR57_26, mR57_27, mR57_28, mR57_37, mR57_40, mR57_41, mR57_43, mR57_44, mR57_48, mR57_49, gC58, mN58, gC59, mN59, gC60, mN60, gC61, mN61, gC62, mN62, gC63, mN63, gC64, mN64, gC65, mN65, gC66, mN66, gC67, mN67, gC68, mN68, gC69, mN69, gC70, mN70, gC71, mN71, gC72, mN72, gC73, mN73, gC74, mN74, gC75, mN75, gC76, mN76, gC77, mN77, gC78, mN78, gC79, mN79, gC80, mN80, gC81, mN81, gC82, mN82, gC83, mN83, gC84, mN84, gC85, mN85, gC86, mN86, gC87, mN87, h1]
    rw [if_pos (Int32.le_refl _)]
  · intro k s hs
    show f_X9_inForce_l4 (k + 1) 30 day (ptr 32 (ifo (fun t => i 72 (6 + t)) day s)) (nI s) _ = f_X9_inForce_l4 k 30 day (ptr 32 (ifo (fun t => i 72 (6 + t)) day (s + 1))) (nI (s + 1)) _
    rw [f_X9_inForce_l4_s]
    simp only [mI, mL, mZ, msI, msL, mN1020, gC1, mR1_0, mR1_1, mR1_2, mR1_3, mR1_4, mR1_5, mR1_6, mR1_7, mR1_8, gC2, mR2_6, mR2_7, gC3, mN3, gC4, mN4, gC5, mR5_0, mR5_1, gC6, mN6, gC7, mR7_0, mR7_1, gC8, mR8_0, gC9, mN9, gC10, mR10_0, gC11, mN11, mR11_0, mR11_1, mR11_2, mR11_3, mR11_4, mR11_5, gC12, mR12_0, mR12_1, gC13, mN13, gC14, mN14, gC15, mR15_0, mR15_1, gC16, mN16, gC17, mN17, gC18, mR18_0, mR18_1, gC19, mN19, gC20, mN20, gC21, mR21_0, mR21_1, gC22, mN22, gC23, mN23, gC24, mR24_0, mR24_1, gC25, mN25, gC26, mN26, gC27, mR27_0, mR27_1, gC28, mN28, gC29, mN29, gC30, mR30_0, gC31, mN31, mR31_0, mR31_1, mR31_2, mR31_3, mR31_4, mR31_5, gC32, mR32_0, mR32_1, gC33, mN33, gC34, mN34, gC35, mR35_0, mR35_1, gC36, mN36, gC37, mN37, gC38, mR38_0, mR38_1, gC39, mN39, gC40, mN40, gC41, mR41_0, mR41_1, gC42, mN42, gC43, mN43, gC44, mR44_0, mR44_1, gC45, mN45, gC46, mN46, gC47, mR47_0, mR47_1, gC48, mN48, gC49, mN49, gC50, mR50_0, mR50_1, mR50_2, mR50_3, gC51, mN51, gC52, mN52, gC53, mN53, gC54, mN54, gC55, gC56, gC57, mR57_2, mR57_3, mR57_6, mR57_7, mR57_8, mR57_9, mR57_10, mR57_11, mR57_12, mR57_13, mR57_14, mR57_15, mR57_16, mR57_18, mR57_19, mR57_20, mR57_21, mR57_22, mR57_23, mR57_25, mR57_26, mR57_27, mR57_28, mR57_37, mR57_40, mR57_41, mR57_43, mR57_44, mR57_48, mR57_49, gC58, mN58, gC59, mN59, gC60, mN60, gC61, mN61, gC62, mN62, gC63, mN63, gC64, mN64, gC65, mN65, gC66, mN66, gC67, mN67, gC68, mN68, gC69, mN69, gC70, mN70, gC71, mN71, gC72, mN72, gC73, mN73, gC74, mN74, gC75, mN75, gC76, mN76, gC77, mN77, gC78, mN78, gC79, mN79, gC80, mN80, gC81, mN81, gC82, mN82, gC83, mN83, gC84, mN84, gC85, mN85, gC86, mN86, gC87, mN87, h1, nI_clamp (show s < 2 ^ 31 by omega), tx1_t (show s < 6 by omega), tx1_c (show s < 6 by omega), hf s hs]
    rw [if_neg (nI_ge hs (by omega)), gI (by omega) (by omega), nI_1]
    by_cases c : day < i 72 (6 + s)
    · have e : ifo (fun t => i 72 (6 + t)) day (s + 1) = ifo (fun t => i 72 (6 + t)) day s := if_pos c
      rw [if_pos c, e]
    · rw [if_neg c]
      cases e : ifo (fun t => i 72 (6 + t)) day s with
      | none =>
        have e2 : ifo (fun t => i 72 (6 + t)) day (s + 1) = some s := by
          unfold ifo
          rw [if_neg c, e]
        rw [e2]
        show gd ((0 : Nat) < 1000) _ = _
        rw [gd_t (by decide)]
        rfl
      | some b =>
        have hb := ifo_lt _ _ _ _ e
        show gd (32 + 3 * b < 1000) _ = _
        rw [gd_t (by omega)]
        show (if 32 + 3 * b = 0 then _ else _) = _
        rw [if_neg (by omega)]
        show gd (isC (mkS n z L i l) (32 + 3 * b) 8) (if _ < i (32 + 3 * b) 3 then _ else _) = _
        rw [tx1_c (by omega), hf b (by omega)]
        by_cases c2 : i 72 (6 + s) < i 72 (6 + b)
        · have e2 : ifo (fun t => i 72 (6 + t)) day (s + 1) = some b := by
            unfold ifo
            rw [if_neg c, e]
            exact if_pos c2
          rw [if_pos c2, e2]
          try rfl
        · have e2 : ifo (fun t => i 72 (6 + t)) day (s + 1) = some s := by
            unfold ifo
            rw [if_neg c, e]
            exact if_neg c2
          rw [if_neg c2, e2]
          try rfl
theorem inForceM1_E {m : Nat} (hm : m ≤ 6) (h1 : i 71 1 = nI m) (day : Int32) : f_X11_inForce 57 (nI 1) day (mkS n z L i l) = some (idx 6 (ifo (fun t => i 72 (6 + t)) day m), mkS n z L i l) := by
  unfold f_X11_inForce
  rw [show (6 : Int32) * nI 1 = nI (6 + 0) from rfl]
  refine acc_loopG (S := Int32 × Int32) (fun k a w => f_X11_inForce_l8 k 57 (nI 1) day a.1 a.2 w) (fun s => (idx 6 (ifo (fun t => i 72 (6 + t)) day s), nI (6 + s))) (fun _ => mkS n z L i l) m _ ?_ ?_ m 0 xFu (by omega) (by unfold xFu; omega)
  · intro k
    show f_X11_inForce_l8 (k + 1) 57 _ day _ (nI (6 + m)) _ = _
    rw [f_X11_inForce_l8_s]
    simp only [mI, mL, mZ, msI, msL, mN1020, gC1, mR1_0, mR1_1, mR1_2, mR1_3, mR1_4, mR1_5, mR1_6, mR1_7, mR1_8, gC2, mR2_6, mR2_7, gC3, mN3, gC4, mN4, gC5, mR5_0, mR5_1, gC6, mN6, gC7, mR7_0, mR7_1, gC8, mR8_0, gC9, mN9, gC10, mR10_0, gC11, mN11, mR11_0, mR11_1, mR11_2, mR11_3, mR11_4, mR11_5, gC12, mR12_0, mR12_1, gC13, mN13, gC14, mN14, gC15, mR15_0, mR15_1, gC16, mN16, gC17, mN17, gC18, mR18_0, mR18_1, gC19, mN19, gC20, mN20, gC21, mR21_0, mR21_1, gC22, mN22, gC23, mN23, gC24, mR24_0, mR24_1, gC25, mN25, gC26, mN26, gC27, mR27_0, mR27_1, gC28, mN28, gC29, mN29, gC30, mR30_0, gC31, mN31, mR31_0, mR31_1, mR31_2, mR31_3, mR31_4, mR31_5, gC32, mR32_0, mR32_1, gC33, mN33, gC34, mN34, gC35, mR35_0, mR35_1, gC36, mN36, gC37, mN37, gC38, mR38_0, mR38_1, gC39, mN39, gC40, mN40, gC41, mR41_0, mR41_1, gC42, mN42, gC43, mN43, gC44, mR44_0, mR44_1, gC45, mN45, gC46, mN46, gC47, mR47_0, mR47_1, gC48, mN48, gC49, mN49, gC50, mR50_0, mR50_1, mR50_2, mR50_3, gC51, mN51, gC52, mN52, gC53, mN53, gC54, mN54, gC55, gC56, gC57, mR57_2, mR57_3, mR57_6, mR57_7, mR57_8, mR57_9, mR57_10, mR57_11, mR57_12, mR57_13, mR57_14, mR57_15, mR57_16, mR57_18, mR57_19, mR57_20, mR57_21, mR57_22, mR57_23, mR57_25, mR57_26, mR57_27, mR57_28, mR57_37, mR57_40, mR57_41, mR57_43, mR57_44, mR57_48, mR57_49, gC58, mN58, gC59, mN59, gC60, mN60, gC61, mN61, gC62, mN62, gC63, mN63, gC64, mN64, gC65, mN65, gC66, mN66, gC67, mN67, gC68, mN68, gC69, mN69, gC70, mN70, gC71, mN71, gC72, mN72, gC73, mN73, gC74, mN74, gC75, mN75, gC76, mN76, gC77, mN77, gC78, mN78, gC79, mN79, gC80, mN80, gC81, mN81, gC82, mN82, gC83, mN83, gC84, mN84, gC85, mN85, gC86, mN86, gC87, mN87, nI_clamp (show 1 < 2 ^ 31 by omega), h1]
    rw [gI (by omega) (by omega), show (6 : Int32) * nI 1 = nI 6 from rfl, nI_add, if_pos (Int32.le_refl _)]
  · intro k s hs
    show f_X11_inForce_l8 (k + 1) 57 _ day (idx 6 (ifo (fun t => i 72 (6 + t)) day s)) (nI (6 + s)) _ = f_X11_inForce_l8 k 57 _ day (idx 6 (ifo (fun t => i 72 (6 + t)) day (s + 1))) (nI (6 + (s + 1))) _
    rw [f_X11_inForce_l8_s]
    simp only [mI, mL, mZ, msI, msL, mN1020, gC1, mR1_0, mR1_1, mR1_2, mR1_3, mR1_4, mR1_5, mR1_6, mR1_7, mR1_8, gC2, mR2_6, mR2_7, gC3, mN3, gC4, mN4, gC5, mR5_0, mR5_1, gC6, mN6, gC7, mR7_0, mR7_1, gC8, mR8_0, gC9, mN9, gC10, mR10_0, gC11, mN11, mR11_0, mR11_1, mR11_2, mR11_3, mR11_4, mR11_5, gC12, mR12_0, mR12_1, gC13, mN13, gC14, mN14, gC15, mR15_0, mR15_1, gC16, mN16, gC17, mN17, gC18, mR18_0, mR18_1, gC19, mN19, gC20, mN20, gC21, mR21_0, mR21_1, gC22, mN22, gC23, mN23, gC24, mR24_0, mR24_1, gC25, mN25, gC26, mN26, gC27, mR27_0, mR27_1, gC28, mN28, gC29, mN29, gC30, mR30_0, gC31, mN31, mR31_0, mR31_1, mR31_2, mR31_3, mR31_4, mR31_5, gC32, mR32_0, mR32_1, gC33, mN33, gC34, mN34, gC35, mR35_0, mR35_1, gC36, mN36, gC37, mN37, gC38, mR38_0, mR38_1, gC39, mN39, gC40, mN40, gC41, mR41_0, mR41_1, gC42, mN42, gC43, mN43, gC44, mR44_0, mR44_1, gC45, mN45, gC46, mN46, gC47, mR47_0, mR47_1, gC48, mN48, gC49, mN49, gC50, mR50_0, mR50_1, mR50_2, mR50_3, gC51, mN51, gC52, mN52, gC53, mN53, gC54, mN54, gC55, gC56, gC57, mR57_2, mR57_3, mR57_6, mR57_7, mR57_8, mR57_9, mR57_10, mR57_11, mR57_12, mR57_13, mR57_14, mR57_15, mR57_16, mR57_18, mR57_19, mR57_20, mR57_21, mR57_22, mR57_23, mR57_25, mR57_26, mR57_27, mR57_28, mR57_37, mR57_40, mR57_41, mR57_43, mR57_44, mR57_48, mR57_49, gC58, mN58, gC59, mN59, gC60, mN60, gC61, mN61, gC62, mN62, gC63, mN63, gC64, mN64, gC65, mN65, gC66, mN66, gC67, mN67, gC68, mN68, gC69, mN69, gC70, mN70, gC71, mN71, gC72, mN72, gC73, mN73, gC74, mN74, gC75, mN75, gC76, mN76, gC77, mN77, gC78, mN78, gC79, mN79, gC80, mN80, gC81, mN81, gC82, mN82, gC83, mN83, gC84, mN84, gC85, mN85, gC86, mN86, gC87, mN87, nI_clamp (show 1 < 2 ^ 31 by omega), nI_clamp (show 6 + s < 2 ^ 31 by omega), h1]
    rw [gI (by omega) (by omega), show (6 : Int32) * nI 1 = nI 6 from rfl, nI_add, if_neg (nI_ge (by omega) (by omega)), gI (by omega) (by omega), nI_1]
    by_cases c : day < i 72 (6 + s)
    · have e : ifo (fun t => i 72 (6 + t)) day (s + 1) = ifo (fun t => i 72 (6 + t)) day s := if_pos c
      rw [if_pos c, e]
      rfl
    · rw [if_neg c]
      cases e : ifo (fun t => i 72 (6 + t)) day s with
      | none =>
        have e2 : ifo (fun t => i 72 (6 + t)) day (s + 1) = some s := by
          unfold ifo
          rw [if_neg c, e]
        rw [e2]
        show (if (-1 : Int32) = -1 then _ else _) = _
        rw [if_pos rfl]
        rfl
      | some b =>
        have hb := ifo_lt _ _ _ _ e
        show (if nI (6 + b) = -1 then _ else gd (inR (nI (6 + b)) 12) (if i 72 (6 + s) < i 72 (nI (6 + b)).toNatClampNeg then _ else _)) = _
        rw [if_neg (nI_m1 (by omega)), gI (by omega) (by omega), nI_clamp (by omega)]
        by_cases c2 : i 72 (6 + s) < i 72 (6 + b)
        · have e2 : ifo (fun t => i 72 (6 + t)) day (s + 1) = some b := by
            unfold ifo
            rw [if_neg c, e]
            exact if_pos c2
          rw [if_pos c2, e2]
          try rfl
        · have e2 : ifo (fun t => i 72 (6 + t)) day (s + 1) = some s := by
            unfold ifo
            rw [if_neg c, e]
            exact if_neg c2
          rw [if_neg c2, e2]
          try rfl
theorem medalFor_E {t e : Nat} (ht : t < 6) (he : e ≤ 5) (h1 : i (12 + 3 * t) 2 = nI e) (a : Int32) : f_X8_medalFor (12 + 3 * t) a (mkS n z L i l) = some (medC i t e a, mkS n z L i l) := by
  unfold f_X8_medalFor medC
  refine fsel_loop (fun m s w => f_X8_medalFor_l2 m (12 + 3 * t) a s w) _ _ _ e (mkS n z L i l) ?_ ?_ e 0 xFu (by omega) (by unfold xFu; omega)
  · intro m
    show f_X8_medalFor_l2 (m + 1) (12 + 3 * t) a (nI e) _ = _
    rw [f_X8_medalFor_l2_s, tx0_c ht]
    simp only [mI, h1]
    rw [if_pos (Int32.le_refl _)]
  · intro m s hs
    show f_X8_medalFor_l2 (m + 1) (12 + 3 * t) a (nI s) _ = _
    rw [f_X8_medalFor_l2_s, tx0_c ht]
    simp only [mI, h1, tx0_k ht, tx0_n ht, tx0_kc ht, tx0_nc ht, tx0_kn ht, tx0_nn ht, nI_clamp (show s < 2 ^ 31 by omega)]
    rw [if_neg (nI_ge hs (by omega)), gI (by omega) (by omega), gI (by omega) (by omega), nI_1]
    by_cases c : a < i (14 + 3 * t) s <;> simp [c]
theorem priceOf_E {t e d : Nat} (hd : d < 2 ^ 31) (ht : t < 6) (he : e ≤ 5) (h1 : i (32 + 3 * t) 2 = nI e) : f_X8_priceOf (32 + 3 * t) (nI d) (mkS n z L i l) = some (prcC i t e (d % 7), mkS n z L i l) := by
  have fm : f_J9_floorMod_7cf53 (nI d) 7 (mkS n z L i l) = some (nI (d % 7), mkS n z L i l) := by
    unfold f_J9_floorMod_7cf53
    rw [show (7 : Int32) = nI 7 from rfl, gd_t (by decide), fb_xorI, if_pos (nI_pos' (Nat.xor_lt_two_pow hd (by omega))), pk_rem hd (by omega) (by omega)]
  unfold f_X8_priceOf prcC
  rw [fm, bdS]
  refine fsel_loop (fun m s w => f_X8_priceOf_l9 m (32 + 3 * t) (nI (d % 7)) s w) _ _ _ e (mkS n z L i l) ?_ ?_ e 0 xFu (by omega) (by unfold xFu; omega)
  · intro m
    show f_X8_priceOf_l9 (m + 1) (32 + 3 * t) _ (nI e) _ = _
    rw [f_X8_priceOf_l9_s, tx1_c ht]
    simp only [mI, h1]
    rw [if_pos (Int32.le_refl _)]
  · intro m s hs
    show f_X8_priceOf_l9 (m + 1) (32 + 3 * t) _ (nI s) _ = _
    rw [f_X8_priceOf_l9_s, tx1_c ht]
    simp only [mI, h1, tx1_k ht, tx1_n ht, tx1_kc ht, tx1_nc ht, tx1_kn ht, tx1_nn ht, nI_clamp (show s < 2 ^ 31 by omega), gI (show s < 5 by omega) (show 5 < 2 ^ 31 by omega)]
    rw [if_neg (nI_ge hs (by omega)), nI_1]
    by_cases c : i (33 + 3 * t) s = nI (d % 7)
    · simp [c]
    · by_cases c2 : i (33 + 3 * t) s = -1
      · simp [c2]
      · simp [c, c2]
def priceV (i : fI) (d : Nat) : Int32 := match ifo (fun t => i 72 (6 + t)) (nI d) (i 71 1).toNatClampNeg with
  | none => 0
  | some t => prcM i t (i 74 (6 + t)).toNatClampNeg (d % 7)
theorem priceV_fr {i2 : fI} (f : Fr sU i i2) (d : Nat) : priceV i2 d = priceV i d := by
  have hi : ∀ p k, 71 ≤ p → p ≤ 76 → i2 p k = i p k := fun p k h1 h2 => f p k (Or.inr ⟨h1, h2⟩)
  have h71 : ∀ k, i2 71 k = i 71 k := fun k => hi 71 k (by omega) (by omega)
  have h72 : ∀ k, i2 72 k = i 72 k := fun k => hi 72 k (by omega) (by omega)
  have h74 : ∀ k, i2 74 k = i 74 k := fun k => hi 74 k (by omega) (by omega)
  have h75 : ∀ k, i2 75 k = i 75 k := fun k => hi 75 k (by omega) (by omega)
  have h76 : ∀ k, i2 76 k = i 76 k := fun k => hi 76 k (by omega) (by omega)
  simp only [priceV, prcM, h71, h72, h74, h75, h76]
theorem entryPrice_E (hU : RelU i) {d : Nat} (hd : d < 2 ^ 31) : f_X10_entryPrice 1 (nI d) (mkS n z L i l) = some (priceV i d, mkS n z L i l) := by
  obtain ⟨m, m1, m2, m3, m4⟩ := hU.2
  simp only [f_X10_entryPrice, mI, mL, mZ, msI, msL, mN1020, gC1, mR1_0, mR1_1, mR1_2, mR1_3, mR1_4, mR1_5, mR1_6, mR1_7, mR1_8, gC2, mR2_6, mR2_7, gC3, mN3, gC4, mN4, gC5, mR5_0, mR5_1, gC6, mN6, gC7, mR7_0, mR7_1, gC8, mR8_0, gC9, mN9, gC10, mR10_0, gC11, mN11, mR11_0, mR11_1, mR11_2, mR11_3, mR11_4, mR11_5, gC12, mR12_0, mR12_1, gC13, mN13, gC14, mN14, gC15, mR15_0, mR15_1, gC16, mN16, gC17, mN17, gC18, mR18_0, mR18_1, gC19, mN19, gC20, mN20, gC21, mR21_0, mR21_1, gC22, mN22, gC23, mN23, gC24, mR24_0, mR24_1, gC25, mN25, gC26, mN26, gC27, mR27_0, mR27_1, gC28, mN28, gC29, mN29, gC30, mR30_0, gC31, mN31, mR31_0, mR31_1, mR31_2, mR31_3, mR31_4, mR31_5, gC32, mR32_0, mR32_1, gC33, mN33, gC34, mN34, gC35, mR35_0, mR35_1, gC36, mN36, gC37, mN37, gC38, mR38_0, mR38_1, gC39, mN39, gC40, mN40, gC41, mR41_0, mR41_1, gC42, mN42, gC43, mN43, gC44, mR44_0, mR44_1, gC45, mN45, gC46, mN46, gC47, mR47_0, mR47_1, gC48, mN48, gC49, mN49, gC50, mR50_0, mR50_1, mR50_2, mR50_3, gC51, mN51, gC52, mN52, gC53, mN53, gC54, mN54, gC55, gC56, gC57, mR57_2, mR57_3, mR57_6, mR57_7, mR57_8, mR57_9, mR57_10, mR57_11, mR57_12, mR57_13, mR57_14, mR57_15, mR57_16, mR57_18, mR57_19, mR57_20, mR57_21, mR57_22, mR57_23, mR57_25, mR57_26, mR57_27, mR57_28, mR57_37, mR57_40, mR57_41, mR57_43, mR57_44, mR57_48, mR57_49, gC58, mN58, gC59, mN59, gC60, mN60, gC61, mN61, gC62, mN62, gC63, mN63, gC64, mN64, gC65, mN65, gC66, mN66, gC67, mN67, gC68, mN68, gC69, mN69, gC70, mN70, gC71, mN71, gC72, mN72, gC73, mN73, gC74, mN74, gC75, mN75, gC76, mN76, gC77, mN77, gC78, mN78, gC79, mN79, gC80, mN80, gC81, mN81, gC82, mN82, gC83, mN83, gC84, mN84, gC85, mN85, gC86, mN86, gC87, mN87, inForceC1_E m1 m2 (fun t ht => (m4 t ht).1) (nI d), bdS]
  unfold priceV
  rw [m3, nI_clamp (by omega)]
  cases e : ifo (fun t => i 72 (6 + t)) (nI d) m with
  | none =>
    show gd ((0 : Nat) < 1000) _ = _
    rw [gd_t (by decide)]
    rfl
  | some t =>
    have ht := ifo_lt _ _ _ _ e
    obtain ⟨x1, e, k, x2, x3, x4, x5, x6⟩ := m4 t ht
    show gd (32 + 3 * t < 1000) (if 32 + 3 * t = 0 then _ else gd (isC _ (32 + 3 * t) 8) (bd (f_X8_priceOf (32 + 3 * t) _ _) _)) = _
    rw [gd_t (by omega), if_neg (by omega), tx1_c (by omega), priceOf_E hd (by omega) x2 x4, bdS, x6 _ (Nat.mod_lt _ (by omega))]
    show _ = some (prcM i t (i 74 (6 + t)).toNatClampNeg (d % 7), _)
    rw [x5, nI_clamp (by omega)]
theorem costOf_E (hU : RelU i) {d : Nat} (hd : d < 2 ^ 31) : f_X11_costOf 57 (nI d) (mkS n z L i l) = some (priceV i d, mkS n z L i l) := by
  obtain ⟨m, m1, m2, m3, m4⟩ := hU.2
  simp only [f_X11_costOf, mI, mL, mZ, msI, msL, mN1020, gC1, mR1_0, mR1_1, mR1_2, mR1_3, mR1_4, mR1_5, mR1_6, mR1_7, mR1_8, gC2, mR2_6, mR2_7, gC3, mN3, gC4, mN4, gC5, mR5_0, mR5_1, gC6, mN6, gC7, mR7_0, mR7_1, gC8, mR8_0, gC9, mN9, gC10, mR10_0, gC11, mN11, mR11_0, mR11_1, mR11_2, mR11_3, mR11_4, mR11_5, gC12, mR12_0, mR12_1, gC13, mN13, gC14, mN14, gC15, mR15_0, mR15_1, gC16, mN16, gC17, mN17, gC18, mR18_0, mR18_1, gC19, mN19, gC20, mN20, gC21, mR21_0, mR21_1, gC22, mN22, gC23, mN23, gC24, mR24_0, mR24_1, gC25, mN25, gC26, mN26, gC27, mR27_0, mR27_1, gC28, mN28, gC29, mN29, gC30, mR30_0, gC31, mN31, mR31_0, mR31_1, mR31_2, mR31_3, mR31_4, mR31_5, gC32, mR32_0, mR32_1, gC33, mN33, gC34, mN34, gC35, mR35_0, mR35_1, gC36, mN36, gC37, mN37, gC38, mR38_0, mR38_1, gC39, mN39, gC40, mN40, gC41, mR41_0, mR41_1, gC42, mN42, gC43, mN43, gC44, mR44_0, mR44_1, gC45, mN45, gC46, mN46, gC47, mR47_0, mR47_1, gC48, mN48, gC49, mN49, gC50, mR50_0, mR50_1, mR50_2, mR50_3, gC51, mN51, gC52, mN52, gC53, mN53, gC54, mN54, gC55, gC56, gC57, mR57_2, mR57_3, mR57_6, mR57_7, mR57_8, mR57_9, mR57_10, mR57_11, mR57_12, mR57_13, mR57_14, mR57_15, mR57_16, mR57_18, mR57_19, mR57_20, mR57_21, mR57_22, mR57_23, mR57_25, mR57_26, mR57_27, mR57_28, mR57_37, mR57_40, mR57_41, mR57_43, mR57_44, mR57_48, mR57_49, gC58, mN58, gC59, mN59, gC60, mN60, gC61, mN61, gC62, mN62, gC63, mN63, gC64, mN64, gC65, mN65, gC66, mN66, gC67, mN67, gC68, mN68, gC69, mN69, gC70, mN70, gC71, mN71, gC72, mN72, gC73, mN73, gC74, mN74, gC75, mN75, gC76, mN76, gC77, mN77, gC78, mN78, gC79, mN79, gC80, mN80, gC81, mN81, gC82, mN82, gC83, mN83, gC84, mN84, gC85, mN85, gC86, mN86, gC87, mN87, show (1 : Int32) = nI 1 from rfl, inForceM1_E m1 m3 (nI d), bdS]
  unfold priceV
  rw [m3, nI_clamp (by omega)]
  cases e : ifo (fun t => i 72 (6 + t)) (nI d) m with
  | none => rfl
  | some t =>
    have ht := ifo_lt _ _ _ _ e
    obtain ⟨x1, e, k, x2, x3, x4, x5, x6⟩ := m4 t ht
    show (if nI (6 + t) = -1 then _ else f_X11_costOf_l16 xFu 57 (nI d) (nI (6 + t)) (nI 0) _) = some (prcM i t (i 74 (6 + t)).toNatClampNeg (d % 7), _)
    rw [if_neg (nI_m1 (by omega)), x5, nI_clamp (by omega)]
    unfold prcM
    refine fsel_loop (fun m s w => f_X11_costOf_l16 m 57 (nI d) (nI (6 + t)) s w) _ _ _ k (mkS n z L i l) ?_ ?_ k 0 xFu (by omega) (by unfold xFu; omega)
    · intro m
      show f_X11_costOf_l16 (m + 1) 57 _ _ (nI k) _ = _
      rw [f_X11_costOf_l16_s]
      simp only [mI, mL, mZ, msI, msL, mN1020, gC1, mR1_0, mR1_1, mR1_2, mR1_3, mR1_4, mR1_5, mR1_6, mR1_7, mR1_8, gC2, mR2_6, mR2_7, gC3, mN3, gC4, mN4, gC5, mR5_0, mR5_1, gC6, mN6, gC7, mR7_0, mR7_1, gC8, mR8_0, gC9, mN9, gC10, mR10_0, gC11, mN11, mR11_0, mR11_1, mR11_2, mR11_3, mR11_4, mR11_5, gC12, mR12_0, mR12_1, gC13, mN13, gC14, mN14, gC15, mR15_0, mR15_1, gC16, mN16, gC17, mN17, gC18, mR18_0, mR18_1, gC19, mN19, gC20, mN20, gC21, mR21_0, mR21_1, gC22, mN22, gC23, mN23, gC24, mR24_0, mR24_1, gC25, mN25, gC26, mN26, gC27, mR27_0, mR27_1, gC28, mN28, gC29, mN29, gC30, mR30_0, gC31, mN31, mR31_0, mR31_1, mR31_2, mR31_3, mR31_4, mR31_5, gC32, mR32_0, mR32_1, gC33, mN33, gC34, mN34, gC35, mR35_0, mR35_1, gC36, mN36, gC37, mN37, gC38, mR38_0, mR38_1, gC39, mN39, gC40, mN40, gC41, mR41_0, mR41_1, gC42, mN42, gC43, mN43, gC44, mR44_0, mR44_1, gC45, mN45, gC46, mN46, gC47, mR47_0, mR47_1, gC48, mN48, gC49, mN49, gC50, mR50_0, mR50_1, mR50_2, mR50_3, gC51, mN51, gC52, mN52, gC53, mN53, gC54, mN54, gC55, gC56, gC57, mR57_2, mR57_3, mR57_6, mR57_7, mR57_8, mR57_9, mR57_10, mR57_11, mR57_12, mR57_13, mR57_14, mR57_15, mR57_16, mR57_18, mR57_19, mR57_20, mR57_21, mR57_22, mR57_23, mR57_25, mR57_26, mR57_27, mR57_28, mR57_37, mR57_40, mR57_41, mR57_43, mR57_44, mR57_48, mR57_49, gC58, mN58, gC59, mN59, gC60, mN60, gC61, mN61, gC62, mN62, gC63, mN63, gC64, mN64, gC65, mN65, gC66, mN66, gC67, mN67, gC68, mN68, gC69, mN69, gC70, mN70, gC71, mN71, gC72, mN72, gC73, mN73, gC74, mN74, gC75, mN75, gC76, mN76, gC77, mN77, gC78, mN78, gC79, mN79, gC80, mN80, gC81, mN81, gC82, mN82, gC83, mN83, gC84, mN84, gC85, mN85, gC86, mN86, gC87, mN87, nI_clamp (show 6 + t < 2 ^ 31 by omega), x5, gI (show 6 + t < 12 by omega) (show 12 < 2 ^ 31 by omega)]
      rw [if_pos (Int32.le_refl _), show (5 : Int32) = nI 5 from rfl, pk_mul, nI_add, gI (by omega) (by omega), nI_clamp (by omega)]
    · intro m s hs
      show f_X11_costOf_l16 (m + 1) 57 _ _ (nI s) _ = _
      rw [f_X11_costOf_l16_s]
      simp only [mI, mL, mZ, msI, msL, mN1020, gC1, mR1_0, mR1_1, mR1_2, mR1_3, mR1_4, mR1_5, mR1_6, mR1_7, mR1_8, gC2, mR2_6, mR2_7, gC3, mN3, gC4, mN4, gC5, mR5_0, mR5_1, gC6, mN6, gC7, mR7_0, mR7_1, gC8, mR8_0, gC9, mN9, gC10, mR10_0, gC11, mN11, mR11_0, mR11_1, mR11_2, mR11_3, mR11_4, mR11_5, gC12, mR12_0, mR12_1, gC13, mN13, gC14, mN14, gC15, mR15_0, mR15_1, gC16, mN16, gC17, mN17, gC18, mR18_0, mR18_1, gC19, mN19, gC20, mN20, gC21, mR21_0, mR21_1, gC22, mN22, gC23, mN23, gC24, mR24_0, mR24_1, gC25, mN25, gC26, mN26, gC27, mR27_0, mR27_1, gC28, mN28, gC29, mN29, gC30, mR30_0, gC31, mN31, mR31_0, mR31_1, mR31_2, mR31_3, mR31_4, mR31_5, gC32, mR32_0, mR32_1, gC33, mN33, gC34, mN34, gC35, mR35_0, mR35_1, gC36, mN36, gC37, mN37, gC38, mR38_0, mR38_1, gC39, mN39, gC40, mN40, gC41, mR41_0, mR41_1, gC42, mN42, gC43, mN43, gC44, mR44_0, mR44_1, gC45, mN45, gC46, mN46, gC47, mR47_0, mR47_1, gC48, mN48, gC49, mN49, gC50, mR50_0, mR50_1, mR50_2, mR50_3, gC51, mN51, gC52, mN52, gC53, mN53, gC54, mN54, gC55, gC56, gC57, mR57_2, mR57_3, mR57_6, mR57_7, mR57_8, mR57_9, mR57_10, mR57_11, mR57_12, mR57_13, mR57_14, mR57_15, mR57_16, mR57_18, mR57_19, mR57_20, mR57_21, mR57_22, mR57_23, mR57_25, mR57_26, mR57_27, mR57_28, mR57_37, mR57_40, mR57_41, mR57_43, mR57_44, mR57_48, mR57_49, gC58, mN58, gC59, mN59, gC60, mN60, gC61, mN61, gC62, mN62, gC63, mN63, gC64, mN64, gC65, mN65, gC66, mN66, gC67, mN67, gC68, mN68, gC69, mN69, gC70, mN70, gC71, mN71, gC72, mN72, gC73, mN73, gC74, mN74, gC75, mN75, gC76, mN76, gC77, mN77, gC78, mN78, gC79, mN79, gC80, mN80, gC81, mN81, gC82, mN82, gC83, mN83, gC84, mN84, gC85, mN85, gC86, mN86, gC87, mN87, nI_clamp (show 6 + t < 2 ^ 31 by omega), x5, gI (show 6 + t < 12 by omega) (show 12 < 2 ^ 31 by omega), show (5 : Int32) = nI 5 from rfl, show (4 : Int32) = nI 4 from rfl, show (7 : Int32) = nI 7 from rfl, pk_mul, nI_add]
      rw [pk_rem hd (by omega) (by omega)]
      simp only [nI_clamp (show 4 * (6 + t) + s < 2 ^ 31 by omega), nI_clamp (show 5 * (6 + t) + s < 2 ^ 31 by omega), gI (show 4 * (6 + t) + s < 48 by omega) (show 48 < 2 ^ 31 by omega), gI (show 5 * (6 + t) + s < 60 by omega) (show 60 < 2 ^ 31 by omega)]
      rw [if_neg (nI_ge hs (by omega)), show (1 : Int32) = nI 1 from rfl, nI_add]
      by_cases c : i 75 (4 * (6 + t) + s) = nI (d % 7) <;> simp [c]
theorem op_cost (h : Rel C R n z i l) (x : Int32) : OpOK C R n z L (f_X10_cost 1 x) (f_X11_cost 57 x) i l := by
  obtain ⟨hD, hE, hK, hB, hG, hN, hF, hV, hA, hX, hT, hU, hJ, hM, hL, hO, hY, hP⟩ := id h
  by_cases c : 0 ≤ x
  · obtain ⟨d, hd, rfl⟩ := nI_of (Int32.not_lt.mpr c)
    refine ⟨priceV i d, mkS n z L i l, n, i, l, ?_, ?_, ⟨_, _, rfl, by repeat first | exact Fr_rfl | refine Fr_u2 ?_ (by unfold sQ; omega)⟩, h⟩
    · simp only [f_X10_cost, if_pos c, mI, mL, mZ, msI, msL, mN1020, gC1, mR1_0, mR1_1, mR1_2, mR1_3, mR1_4, mR1_5, mR1_6, mR1_7, mR1_8, gC2, mR2_6, mR2_7, gC3, mN3, gC4, mN4, gC5, mR5_0, mR5_1, gC6, mN6, gC7, mR7_0, mR7_1, gC8, mR8_0, gC9, mN9, gC10, mR10_0, gC11, mN11, mR11_0, mR11_1, mR11_2, mR11_3, mR11_4, mR11_5, gC12, mR12_0, mR12_1, gC13, mN13, gC14, mN14, gC15, mR15_0, mR15_1, gC16, mN16, gC17, mN17, gC18, mR18_0, mR18_1, gC19, mN19, gC20, mN20, gC21, mR21_0, mR21_1, gC22, mN22, gC23, mN23, gC24, mR24_0, mR24_1, gC25, mN25, gC26, mN26, gC27, mR27_0, mR27_1, gC28, mN28, gC29, mN29, gC30, mR30_0, gC31, mN31, mR31_0, mR31_1, mR31_2, mR31_3, mR31_4, mR31_5, gC32, mR32_0, mR32_1, gC33, mN33, gC34, mN34, gC35, mR35_0, mR35_1, gC36, mN36, gC37, mN37, gC38, mR38_0, mR38_1, gC39, mN39, gC40, mN40, gC41, mR41_0, mR41_1, gC42, mN42, gC43, mN43, gC44, mR44_0, mR44_1, gC45, mN45, gC46, mN46, gC47, mR47_0, mR47_1, gC48, mN48, gC49, mN49, gC50, mR50_0, mR50_1, mR50_2, mR50_3, gC51, mN51, gC52, mN52, gC53, mN53, gC54, mN54, gC55, gC56, gC57, mR57_2, mR57_3, mR57_6, mR57_7, mR57_8, mR57_9, mR57_10, mR57_11, mR57_12, mR57_13, mR57_14, mR57_15, mR57_16, mR57_18, mR57_19, mR57_20, mR57_21, mR57_22, mR57_23, mR57_25, mR57_26, mR57_27, mR57_28, mR57_37, mR57_40, mR57_41, mR57_43, mR57_44, mR57_48, mR57_49, gC58, mN58, gC59, mN59, gC60, mN60, gC61, mN61, gC62, mN62, gC63, mN63, gC64, mN64, gC65, mN65, gC66, mN66, gC67, mN67, gC68, mN68, gC69, mN69, gC70, mN70, gC71, mN71, gC72, mN72, gC73, mN73, gC74, mN74, gC75, mN75, gC76, mN76, gC77, mN77, gC78, mN78, gC79, mN79, gC80, mN80, gC81, mN81, gC82, mN82, gC83, mN83, gC84, mN84, gC85, mN85, gC86, mN86, gC87, mN87, entryPrice_E hU hd, bdS]
    · simp only [f_X11_cost, if_pos c, mI, mL, mZ, msI, msL, mN1020, gC1, mR1_0, mR1_1, mR1_2, mR1_3, mR1_4, mR1_5, mR1_6, mR1_7, mR1_8, gC2, mR2_6, mR2_7, gC3, mN3, gC4, mN4, gC5, mR5_0, mR5_1, gC6, mN6, gC7, mR7_0, mR7_1, gC8, mR8_0, gC9, mN9, gC10, mR10_0, gC11, mN11, mR11_0, mR11_1, mR11_2, mR11_3, mR11_4, mR11_5, gC12, mR12_0, mR12_1, gC13, mN13, gC14, mN14, gC15, mR15_0, mR15_1, gC16, mN16, gC17, mN17, gC18, mR18_0, mR18_1, gC19, mN19, gC20, mN20, gC21, mR21_0, mR21_1, gC22, mN22, gC23, mN23, gC24, mR24_0, mR24_1, gC25, mN25, gC26, mN26, gC27, mR27_0, mR27_1, gC28, mN28, gC29, mN29, gC30, mR30_0, gC31, mN31, mR31_0, mR31_1, mR31_2, mR31_3, mR31_4, mR31_5, gC32, mR32_0, mR32_1, gC33, mN33, gC34, mN34, gC35, mR35_0, mR35_1, gC36, mN36, gC37, mN37, gC38, mR38_0, mR38_1, gC39, mN39, gC40, mN40, gC41, mR41_0, mR41_1, gC42, mN42, gC43, mN43, gC44, mR44_0, mR44_1, gC45, mN45, gC46, mN46, gC47, mR47_0, mR47_1, gC48, mN48, gC49, mN49, gC50, mR50_0, mR50_1, mR50_2, mR50_3, gC51, mN51, gC52, mN52, gC53, mN53, gC54, mN54, gC55, gC56, gC57, mR57_2, mR57_3, mR57_6, mR57_7, mR57_8, mR57_9, mR57_10, mR57_11, mR57_12, mR57_13, mR57_14, mR57_15, mR57_16, mR57_18, mR57_19, mR57_20, mR57_21, mR57_22, mR57_23, mR57_25, mR57_26, mR57_27, mR57_28, mR57_37, mR57_40, mR57_41, mR57_43, mR57_44, mR57_48, mR57_49, gC58, mN58, gC59, mN59, gC60, mN60, gC61, mN61, gC62, mN62, gC63, mN63, gC64, mN64, gC65, mN65, gC66, mN66, gC67, mN67, gC68, mN68, gC69, mN69, gC70, mN70, gC71, mN71, gC72, mN72, gC73, mN73, gC74, mN74, gC75, mN75, gC76, mN76, gC77, mN77, gC78, mN78, gC79, mN79, gC80, mN80, gC81, mN81, gC82, mN82, gC83, mN83, gC84, mN84, gC85, mN85, gC86, mN86, gC87, mN87, costOf_E hU hd, bdS]
  · refine ⟨-1, mkS n z L i l, n, i, l, ?_, ?_, ⟨_, _, rfl, by repeat first | exact Fr_rfl | refine Fr_u2 ?_ (by unfold sQ; omega)⟩, h⟩
    · simp only [f_X10_cost, if_neg c]
    · simp only [f_X11_cost, if_neg c]
theorem op_medal (h : Rel C R n z i l) (x y : Int32) : OpOK C R n z L (f_X10_medal 1 x y) (f_X11_medal 57 x y) i l := by
  obtain ⟨hD, hE, hK, hB, hG, hN, hF, hV, hA, hX, hT, hU, hJ, hM, hL, hO, hY, hP⟩ := id h
  have h9 := hN.1
  obtain ⟨⟨q, q1, q2, q3⟩, j2, j3⟩ := id hJ
  obtain ⟨m, m1, m2, m3, m4⟩ := hU.1
  rcases ix_em n x with ⟨k, hk, rfl⟩ | hx
  · have mf : ∀ (a : Int32) (t : Nat), t < 6 → ¬ a = -1 → f_X11_medal_l28 xFu 57 a (nI t) (nI 0) (mkS n z L i l) = some (medM i t a, mkS n z L i l) := by
      intro a t ht ha
      unfold medM
      refine fsel_loop (fun m s w => f_X11_medal_l28 m 57 a (nI t) s w) _ _ _ 3 (mkS n z L i l) ?_ ?_ 3 0 xFu (by omega) (by unfold xFu; omega)
      · intro m
        show f_X11_medal_l28 (m + 1) 57 _ _ (nI 3) _ = _
        rw [f_X11_medal_l28_s, if_pos (by decide)]
      · intro m s hs
        show f_X11_medal_l28 (m + 1) 57 _ _ (nI s) _ = _
        rw [f_X11_medal_l28_s, if_neg (by rw [show (3 : Int32) = nI 3 from rfl]; exact nI_ge hs (by omega)), if_neg ha, if_neg (nI_m1 (by omega))]
        simp only [mI, mL, mZ, msI, msL, mN1020, gC1, mR1_0, mR1_1, mR1_2, mR1_3, mR1_4, mR1_5, mR1_6, mR1_7, mR1_8, gC2, mR2_6, mR2_7, gC3, mN3, gC4, mN4, gC5, mR5_0, mR5_1, gC6, mN6, gC7, mR7_0, mR7_1, gC8, mR8_0, gC9, mN9, gC10, mR10_0, gC11, mN11, mR11_0, mR11_1, mR11_2, mR11_3, mR11_4, mR11_5, gC12, mR12_0, mR12_1, gC13, mN13, gC14, mN14, gC15, mR15_0, mR15_1, gC16, mN16, gC17, mN17, gC18, mR18_0, mR18_1, gC19, mN19, gC20, mN20, gC21, mR21_0, mR21_1, gC22, mN22, gC23, mN23, gC24, mR24_0, mR24_1, gC25, mN25, gC26, mN26, gC27, mR27_0, mR27_1, gC28, mN28, gC29, mN29, gC30, mR30_0, gC31, mN31, mR31_0, mR31_1, mR31_2, mR31_3, mR31_4, mR31_5, gC32, mR32_0, mR32_1, gC33, mN33, gC34, mN34, gC35, mR35_0, mR35_1, gC36, mN36, gC37, mN37, gC38, mR38_0, mR38_1, gC39, mN39, gC40, mN40, gC41, mR41_0, mR41_1, gC42, mN42, gC43, mN43, gC44, mR44_0, mR44_1, gC45, mN45, gC46, mN46, gC47, mR47_0, mR47_1, gC48, mN48, gC49, mN49, gC50, mR50_0, mR50_1, mR50_2, mR50_3, gC51, mN51, gC52, mN52, gC53, mN53, gC54, mN54, gC55, gC56, gC57, mR57_2, mR57_3, mR57_6, mR57_7, mR57_8, mR57_9, mR57_10, mR57_11, mR57_12, mR57_13, mR57_14, mR57_15, mR57_16, mR57_18, mR57_19, mR57_20, mR57_21, mR57_22, mR57_23, mR57_25, mR57_26, mR57_27, mR57_28, mR57_37, mR57_40, mR57_41, mR57_43, mR57_44, mR57_48, mR57_49, gC58, mN58, gC59, mN59, gC60, mN60, gC61, mN61, gC62, mN62, gC63, mN63, gC64, mN64, gC65, mN65, gC66, mN66, gC67, mN67, gC68, mN68, gC69, mN69, gC70, mN70, gC71, mN71, gC72, mN72, gC73, mN73, gC74, mN74, gC75, mN75, gC76, mN76, gC77, mN77, gC78, mN78, gC79, mN79, gC80, mN80, gC81, mN81, gC82, mN82, gC83, mN83, gC84, mN84, gC85, mN85, gC86, mN86, gC87, mN87, show (3 : Int32) = nI 3 from rfl, pk_mul, nI_add, nI_clamp (show 3 * t + s < 2 ^ 31 by omega), gI (show 3 * t + s < 36 by omega) (show 36 < 2 ^ 31 by omega), nI_1, pk_sub (show s ≤ 3 by omega)]
        by_cases c : i 73 (3 * t + s) = -1
        · simp [c]
        · by_cases c2 : a < i 73 (3 * t + s) <;> simp [c, c2]
    refine ⟨if meanV i k y q = -1 then 0 else match ifo (fun t => i 72 (0 + t)) y m with
      | none => 0
      | some t => medM i t (meanV i k y q), mkS n z L i l, n, i, l, ?_, ?_, ⟨_, _, rfl, by repeat first | exact Fr_rfl | refine Fr_u2 ?_ (by unfold sQ; omega)⟩, h⟩
    · simp only [f_X10_medal, mI, mL, mZ, msI, msL, mN1020, gC1, mR1_0, mR1_1, mR1_2, mR1_3, mR1_4, mR1_5, mR1_6, mR1_7, mR1_8, gC2, mR2_6, mR2_7, gC3, mN3, gC4, mN4, gC5, mR5_0, mR5_1, gC6, mN6, gC7, mR7_0, mR7_1, gC8, mR8_0, gC9, mN9, gC10, mR10_0, gC11, mN11, mR11_0, mR11_1, mR11_2, mR11_3, mR11_4, mR11_5, gC12, mR12_0, mR12_1, gC13, mN13, gC14, mN14, gC15, mR15_0, mR15_1, gC16, mN16, gC17, mN17, gC18, mR18_0, mR18_1, gC19, mN19, gC20, mN20, gC21, mR21_0, mR21_1, gC22, mN22, gC23, mN23, gC24, mR24_0, mR24_1, gC25, mN25, gC26, mN26, gC27, mR27_0, mR27_1, gC28, mN28, gC29, mN29, gC30, mR30_0, gC31, mN31, mR31_0, mR31_1, mR31_2, mR31_3, mR31_4, mR31_5, gC32, mR32_0, mR32_1, gC33, mN33, gC34, mN34, gC35, mR35_0, mR35_1, gC36, mN36, gC37, mN37, gC38, mR38_0, mR38_1, gC39, mN39, gC40, mN40, gC41, mR41_0, mR41_1, gC42, mN42, gC43, mN43, gC44, mR44_0, mR44_1, gC45, mN45, gC46, mN46, gC47, mR47_0, mR47_1, gC48, mN48, gC49, mN49, gC50, mR50_0, mR50_1, mR50_2, mR50_3, gC51, mN51, gC52, mN52, gC53, mN53, gC54, mN54, gC55, gC56, gC57, mR57_2, mR57_3, mR57_6, mR57_7, mR57_8, mR57_9, mR57_10, mR57_11, mR57_12, mR57_13, mR57_14, mR57_15, mR57_16, mR57_18, mR57_19, mR57_20, mR57_21, mR57_22, mR57_23, mR57_25, mR57_26, mR57_27, mR57_28, mR57_37, mR57_40, mR57_41, mR57_43, mR57_44, mR57_48, mR57_49, gC58, mN58, gC59, mN59, gC60, mN60, gC61, mN61, gC62, mN62, gC63, mN63, gC64, mN64, gC65, mN65, gC66, mN66, gC67, mN67, gC68, mN68, gC69, mN69, gC70, mN70, gC71, mN71, gC72, mN72, gC73, mN73, gC74, mN74, gC75, mN75, gC76, mN76, gC77, mN77, gC78, mN78, gC79, mN79, gC80, mN80, gC81, mN81, gC82, mN82, gC83, mN83, gC84, mN84, gC85, mN85, gC86, mN86, gC87, mN87, find_t hN hk, bdS, average_E hJ q1 q2 (show k < 9 by omega), inForceC0_E m1 m2 (fun t ht => by rw [Nat.zero_add]; exact (m4 t ht).1) y]
      rw [gd_t (by omega), if_neg (by omega)]
      by_cases c : meanV i k y q = -1
      · rw [if_pos c, if_pos c]
      · rw [if_neg c, if_neg c]
        cases e : ifo (fun t => i 72 (0 + t)) y m with
        | none =>
          show gd ((0 : Nat) < 1000) _ = _
          rw [gd_t (by decide)]
          rfl
        | some t =>
          have ht := ifo_lt _ _ _ _ e
          obtain ⟨x1, e, x2, x4, x6⟩ := m4 t ht
          show gd (12 + 3 * t < 1000) (if 12 + 3 * t = 0 then _ else gd (isC _ (12 + 3 * t) 8) (bd (f_X8_medalFor (12 + 3 * t) _ _) _)) = some (medM i t (meanV i k y q), _)
          rw [gd_t (by omega), if_neg (by omega), tx0_c (by omega), medalFor_E (by omega) x2 x4, bdS, x6]
    · have e0 := inForceM0_E (n := n) (z := z) (L := L) (l := l) m1 m3 y
      rw [show nI 0 = (0 : Int32) from rfl] at e0
      simp only [f_X11_medal, mI, mL, mZ, msI, msL, mN1020, gC1, mR1_0, mR1_1, mR1_2, mR1_3, mR1_4, mR1_5, mR1_6, mR1_7, mR1_8, gC2, mR2_6, mR2_7, gC3, mN3, gC4, mN4, gC5, mR5_0, mR5_1, gC6, mN6, gC7, mR7_0, mR7_1, gC8, mR8_0, gC9, mN9, gC10, mR10_0, gC11, mN11, mR11_0, mR11_1, mR11_2, mR11_3, mR11_4, mR11_5, gC12, mR12_0, mR12_1, gC13, mN13, gC14, mN14, gC15, mR15_0, mR15_1, gC16, mN16, gC17, mN17, gC18, mR18_0, mR18_1, gC19, mN19, gC20, mN20, gC21, mR21_0, mR21_1, gC22, mN22, gC23, mN23, gC24, mR24_0, mR24_1, gC25, mN25, gC26, mN26, gC27, mR27_0, mR27_1, gC28, mN28, gC29, mN29, gC30, mR30_0, gC31, mN31, mR31_0, mR31_1, mR31_2, mR31_3, mR31_4, mR31_5, gC32, mR32_0, mR32_1, gC33, mN33, gC34, mN34, gC35, mR35_0, mR35_1, gC36, mN36, gC37, mN37, gC38, mR38_0, mR38_1, gC39, mN39, gC40, mN40, gC41, mR41_0, mR41_1, gC42, mN42, gC43, mN43, gC44, mR44_0, mR44_1, gC45, mN45, gC46, mN46, gC47, mR47_0, mR47_1, gC48, mN48, gC49, mN49, gC50, mR50_0, mR50_1, mR50_2, mR50_3, gC51, mN51, gC52, mN52, gC53, mN53, gC54, mN54, gC55, gC56, gC57, mR57_2, mR57_3, mR57_6, mR57_7, mR57_8, mR57_9, mR57_10, mR57_11, mR57_12, mR57_13, mR57_14, mR57_15, mR57_16, mR57_18, mR57_19, mR57_20, mR57_21, mR57_22, mR57_23, mR57_25, mR57_26, mR57_27, mR57_28, mR57_37, mR57_40, mR57_41, mR57_43, mR57_44, mR57_48, mR57_49, gC58, mN58, gC59, mN59, gC60, mN60, gC61, mN61, gC62, mN62, gC63, mN63, gC64, mN64, gC65, mN65, gC66, mN66, gC67, mN67, gC68, mN68, gC69, mN69, gC70, mN70, gC71, mN71, gC72, mN72, gC73, mN73, gC74, mN74, gC75, mN75, gC76, mN76, gC77, mN77, gC78, mN78, gC79, mN79, gC80, mN80, gC81, mN81, gC82, mN82, gC83, mN83, gC84, mN84, gC85, mN85, gC86, mN86, gC87, mN87, isStand_t hN hk, bdS, meanOf_E q1 q3 (show k < 9 by omega), e0]
      rw [if_neg (by decide)]
      by_cases c : meanV i k y q = -1
      · rw [if_pos c, c, show xFu = 999 + 1 from rfl, f_X11_medal_l28_s, if_neg (by decide), if_pos rfl]
      · rw [if_neg c]
        cases e : ifo (fun t => i 72 (0 + t)) y m with
        | none =>
          show f_X11_medal_l28 xFu 57 _ (-1) _ _ = some (0, _)
          rw [show xFu = 999 + 1 from rfl, f_X11_medal_l28_s, if_neg (by decide), if_neg c, if_pos rfl]
        | some t =>
          have ht := ifo_lt _ _ _ _ e
          show f_X11_medal_l28 xFu 57 _ (nI (0 + t)) (nI 0) _ = some (medM i t (meanV i k y q), _)
          rw [Nat.zero_add, mf _ t (by omega) c]
  · refine ⟨-1, mkS n z L i l, n, i, l, ?_, ?_, ⟨_, _, rfl, by repeat first | exact Fr_rfl | refine Fr_u2 ?_ (by unfold sQ; omega)⟩, h⟩
    · simp only [f_X10_medal, mI, mL, mZ, msI, msL, mN1020, gC1, mR1_0, mR1_1, mR1_2, mR1_3, mR1_4, mR1_5, mR1_6, mR1_7, mR1_8, gC2, mR2_6, mR2_7, gC3, mN3, gC4, mN4, gC5, mR5_0, mR5_1, gC6, mN6, gC7, mR7_0, mR7_1, gC8, mR8_0, gC9, mN9, gC10, mR10_0, gC11, mN11, mR11_0, mR11_1, mR11_2, mR11_3, mR11_4, mR11_5, gC12, mR12_0, mR12_1, gC13, mN13, gC14, mN14, gC15, mR15_0, mR15_1, gC16, mN16, gC17, mN17, gC18, mR18_0, mR18_1, gC19, mN19, gC20, mN20, gC21, mR21_0, mR21_1, gC22, mN22, gC23, mN23, gC24, mR24_0, mR24_1, gC25, mN25, gC26, mN26, gC27, mR27_0, mR27_1, gC28, mN28, gC29, mN29, gC30, mR30_0, gC31, mN31, mR31_0, mR31_1, mR31_2, mR31_3, mR31_4, mR31_5, gC32, mR32_0, mR32_1, gC33, mN33, gC34, mN34, gC35, mR35_0, mR35_1, gC36, mN36, gC37, mN37, gC38, mR38_0, mR38_1, gC39, mN39, gC40, mN40, gC41, mR41_0, mR41_1, gC42, mN42, gC43, mN43, gC44, mR44_0, mR44_1, gC45, mN45, gC46, mN46, gC47, mR47_0, mR47_1, gC48, mN48, gC49, mN49, gC50, mR50_0, mR50_1, mR50_2, mR50_3, gC51, mN51, gC52, mN52, gC53, mN53, gC54, mN54, gC55, gC56, gC57, mR57_2, mR57_3, mR57_6, mR57_7, mR57_8, mR57_9, mR57_10, mR57_11, mR57_12, mR57_13, mR57_14, mR57_15, mR57_16, mR57_18, mR57_19, mR57_20, mR57_21, mR57_22, mR57_23, mR57_25, mR57_26, mR57_27, mR57_28, mR57_37, mR57_40, mR57_41, mR57_43, mR57_44, mR57_48, mR57_49, gC58, mN58, gC59, mN59, gC60, mN60, gC61, mN61, gC62, mN62, gC63, mN63, gC64, mN64, gC65, mN65, gC66, mN66, gC67, mN67, gC68, mN68, gC69, mN69, gC70, mN70, gC71, mN71, gC72, mN72, gC73, mN73, gC74, mN74, gC75, mN75, gC76, mN76, gC77, mN77, gC78, mN78, gC79, mN79, gC80, mN80, gC81, mN81, gC82, mN82, gC83, mN83, gC84, mN84, gC85, mN85, gC86, mN86, gC87, mN87, find_f hN hx, bdS]
      rw [gd_t (by omega), if_pos trivial]
    · simp only [f_X11_medal, mI, mL, mZ, msI, msL, mN1020, gC1, mR1_0, mR1_1, mR1_2, mR1_3, mR1_4, mR1_5, mR1_6, mR1_7, mR1_8, gC2, mR2_6, mR2_7, gC3, mN3, gC4, mN4, gC5, mR5_0, mR5_1, gC6, mN6, gC7, mR7_0, mR7_1, gC8, mR8_0, gC9, mN9, gC10, mR10_0, gC11, mN11, mR11_0, mR11_1, mR11_2, mR11_3, mR11_4, mR11_5, gC12, mR12_0, mR12_1, gC13, mN13, gC14, mN14, gC15, mR15_0, mR15_1, gC16, mN16, gC17, mN17, gC18, mR18_0, mR18_1, gC19, mN19, gC20, mN20, gC21, mR21_0, mR21_1, gC22, mN22, gC23, mN23, gC24, mR24_0, mR24_1, gC25, mN25, gC26, mN26, gC27, mR27_0, mR27_1, gC28, mN28, gC29, mN29, gC30, mR30_0, gC31, mN31, mR31_0, mR31_1, mR31_2, mR31_3, mR31_4, mR31_5, gC32, mR32_0, mR32_1, gC33, mN33, gC34, mN34, gC35, mR35_0, mR35_1, gC36, mN36, gC37, mN37, gC38, mR38_0, mR38_1, gC39, mN39, gC40, mN40, gC41, mR41_0, mR41_1, gC42, mN42, gC43, mN43, gC44, mR44_0, mR44_1, gC45, mN45, gC46, mN46, gC47, mR47_0, mR47_1, gC48, mN48, gC49, mN49, gC50, mR50_0, mR50_1, mR50_2, mR50_3, gC51, mN51, gC52, mN52, gC53, mN53, gC54, mN54, gC55, gC56, gC57, mR57_2, mR57_3, mR57_6, mR57_7, mR57_8, mR57_9, mR57_10, mR57_11, mR57_12, mR57_13, mR57_14, mR57_15, mR57_16, mR57_18, mR57_19, mR57_20, mR57_21, mR57_22, mR57_23, mR57_25, mR57_26, mR57_27, mR57_28, mR57_37, mR57_40, mR57_41, mR57_43, mR57_44, mR57_48, mR57_49, gC58, mN58, gC59, mN59, gC60, mN60, gC61, mN61, gC62, mN62, gC63, mN63, gC64, mN64, gC65, mN65, gC66, mN66, gC67, mN67, gC68, mN68, gC69, mN69, gC70, mN70, gC71, mN71, gC72, mN72, gC73, mN73, gC74, mN74, gC75, mN75, gC76, mN76, gC77, mN77, gC78, mN78, gC79, mN79, gC80, mN80, gC81, mN81, gC82, mN82, gC83, mN83, gC84, mN84, gC85, mN85, gC86, mN86, gC87, mN87, isStand_f hN hx, bdS]
      rw [if_pos trivial]
/-! a minute -/
theorem min_E {a b : Nat} (ha : a < 2 ^ 31) (hb : b < 2 ^ 31) (w : xSt) : f_J9_min_7cf53 (nI a) (nI b) w = some (nI (min a b), w) := by
  unfold f_J9_min_7cf53
  by_cases c : b < a
  · rw [if_pos ((nI_ltI hb ha).mpr c), Nat.min_eq_right (by omega)]
  · rw [if_neg (fun q => c ((nI_ltI hb ha).mp q)), Nat.min_eq_left (by omega)]
theorem max_E {a b : Nat} (ha : a < 2 ^ 30) (hb : b < 2 ^ 30) (w : xSt) : f_J9_max_7cf53 0 (nI a - nI b) w = some (nI (a - b), w) := by
  unfold f_J9_max_7cf53
  by_cases c : b ≤ a
  · rw [pk_sub c]
    by_cases c2 : a - b = 0
    · rw [c2, if_neg (by decide)]; rfl
    · rw [if_pos (by rw [show (0 : Int32) = nI 0 from rfl, nI_ltI (by omega) (by omega)]; omega)]
  · have e : (nI a - nI b).toInt = (a : Int) - b := by
      have e1 := nI_toInt (show a < 2 ^ 31 by omega)
      have e2 := nI_toInt (show b < 2 ^ 31 by omega)
      rw [fb_subI (by rw [e1, e2]; omega) (by rw [e1, e2]; omega), e1, e2]
    rw [if_neg (by rw [Int32.lt_iff_toInt_lt, e, show (0 : Int32).toInt = 0 from rfl]; omega), show a - b = 0 by omega]
    rfl
def gtC (i : fI) (m a1 b1 e : Nat) (P : Int32) : fI := u2 (u2 (u2 (u2 (u2 (u2 (u2 i 55 2 (nI (m + 1))) 55 3 (nI a1)) 55 4 (nI b1)) 55 4 (nI (b1 - e))) 55 3 (nI (a1 + e))) 55 5 (i 55 5 + nI e * P)) 55 6 (i 55 6 + nI e * P)
def gtM (i : fI) (m a1 b1 e : Nat) (P : Int32) : fI := u2 (u2 (u2 (u2 (u2 (u2 (u2 i 57 31 (nI (m + 1))) 57 32 (nI a1)) 57 33 (nI b1)) 57 32 (nI (a1 + e))) 57 33 (nI (b1 - e))) 57 34 (i 57 34 + nI e * P)) 57 35 (i 57 35 + nI e * P)
theorem pass_E {c g m a b M : Nat} (P : Int32) (hc : c ≤ 2000) (hg : g ≤ 2000) (hm : m ≤ 600) (ha : a ≤ 20000) (hb : b ≤ 2000 * m) (hM : M ≤ 20000) (e0 : i 55 0 = nI M) (e2 : i 55 2 = nI m) (e3 : i 55 3 = nI a) (e4 : i 55 4 = nI b) : f_X1_pass 55 (nI c) (nI g) P (mkS n z L i l) = some ((), mkS n z L (gtC i m (a - min g a) (b + c) (min (b + c) (M - (a - min g a))) P) l) := by
  have k1 : u2 i 55 2 (nI (m + 1)) 55 3 = nI a := by rw [u2_k _ _ (by omega), e3]
  have hmn : min g a ≤ a := Nat.min_le_right _ _
  have hmo : min (b + c) (M - (a - min g a)) ≤ b + c := Nat.min_le_left _ _
  simp only [f_X1_pass, mI, mL, mZ, msI, msL, mN1020, gC1, mR1_0, mR1_1, mR1_2, mR1_3, mR1_4, mR1_5, mR1_6, mR1_7, mR1_8, gC2, mR2_6, mR2_7, gC3, mN3, gC4, mN4, gC5, mR5_0, mR5_1, gC6, mN6, gC7, mR7_0, mR7_1, gC8, mR8_0, gC9, mN9, gC10, mR10_0, gC11, mN11, mR11_0, mR11_1, mR11_2, mR11_3, mR11_4, mR11_5, gC12, mR12_0, mR12_1, gC13, mN13, gC14, mN14, gC15, mR15_0, mR15_1, gC16, mN16, gC17, mN17, gC18, mR18_0, mR18_1, gC19, mN19, gC20, mN20, gC21, mR21_0, mR21_1, gC22, mN22, gC23, mN23, gC24, mR24_0, mR24_1, gC25, mN25, gC26, mN26, gC27, mR27_0, mR27_1, gC28, mN28, gC29, mN29, gC30, mR30_0, gC31, mN31, mR31_0, mR31_1, mR31_2, mR31_3, mR31_4, mR31_5, gC32, mR32_0, mR32_1, gC33, mN33, gC34, mN34, gC35, mR35_0, mR35_1, gC36, mN36, gC37, mN37, gC38, mR38_0, mR38_1, gC39, mN39, gC40, mN40, gC41, mR41_0, mR41_1, gC42, mN42, gC43, mN43, gC44, mR44_0, mR44_1, gC45, mN45, gC46, mN46, gC47, mR47_0, mR47_1, gC48, mN48, gC49, mN49, gC50, mR50_0, mR50_1, mR50_2, mR50_3, gC51, mN51, gC52, mN52, gC53, mN53, gC54, mN54, gC55, gC56, gC57, mR57_2, mR57_3, mR57_6, mR57_7, mR57_8, mR57_9, mR57_10, mR57_11, mR57_12, mR57_13, mR57_14, mR57_15, mR57_16, mR57_18, mR57_19, mR57_20, mR57_21, mR57_22, mR57_23, mR57_25, mR57_26, mR57_27, mR57_28, mR57_37, mR57_40, mR57_41, mR57_43, mR57_44, mR57_48, mR57_49, gC58, mN58, gC59, mN59, gC60, mN60, gC61, mN61, gC62, mN62, gC63, mN63, gC64, mN64, gC65, mN65, gC66, mN66, gC67, mN67, gC68, mN68, gC69, mN69, gC70, mN70, gC71, mN71, gC72, mN72, gC73, mN73, gC74, mN74, gC75, mN75, gC76, mN76, gC77, mN77, gC78, mN78, gC79, mN79, gC80, mN80, gC81, mN81, gC82, mN82, gC83, mN83, gC84, mN84, gC85, mN85, gC86, mN86, gC87, mN87, lt1E, e2, nI_1, k1, min_E (show g < 2 ^ 31 by omega) (show a < 2 ^ 31 by omega), bdS, pk_sub hmn]
  simp only [u2e, Nat.reduceEqDiff, and_false, if_false, and_self, if_true, e4, e0, nI_add, max_E (show M < 2 ^ 30 by omega) (show a - min g a < 2 ^ 30 by omega), bdS, min_E (show b + c < 2 ^ 31 by omega) (show M - (a - min g a) < 2 ^ 31 by omega), mI, mL, mZ, msI, msL, mN1020, gC1, mR1_0, mR1_1, mR1_2, mR1_3, mR1_4, mR1_5, mR1_6, mR1_7, mR1_8, gC2, mR2_6, mR2_7, gC3, mN3, gC4, mN4, gC5, mR5_0, mR5_1, gC6, mN6, gC7, mR7_0, mR7_1, gC8, mR8_0, gC9, mN9, gC10, mR10_0, gC11, mN11, mR11_0, mR11_1, mR11_2, mR11_3, mR11_4, mR11_5, gC12, mR12_0, mR12_1, gC13, mN13, gC14, mN14, gC15, mR15_0, mR15_1, gC16, mN16, gC17, mN17, gC18, mR18_0, mR18_1, gC19, mN19, gC20, mN20, gC21, mR21_0, mR21_1, gC22, mN22, gC23, mN23, gC24, mR24_0, mR24_1, gC25, mN25, gC26, mN26, gC27, mR27_0, mR27_1, gC28, mN28, gC29, mN29, gC30, mR30_0, gC31, mN31, mR31_0, mR31_1, mR31_2, mR31_3, mR31_4, mR31_5, gC32, mR32_0, mR32_1, gC33, mN33, gC34, mN34, gC35, mR35_0, mR35_1, gC36, mN36, gC37, mN37, gC38, mR38_0, mR38_1, gC39, mN39, gC40, mN40, gC41, mR41_0, mR41_1, gC42, mN42, gC43, mN43, gC44, mR44_0, mR44_1, gC45, mN45, gC46, mN46, gC47, mR47_0, mR47_1, gC48, mN48, gC49, mN49, gC50, mR50_0, mR50_1, mR50_2, mR50_3, gC51, mN51, gC52, mN52, gC53, mN53, gC54, mN54, gC55, gC56, gC57, mR57_2, mR57_3, mR57_6, mR57_7, mR57_8, mR57_9, mR57_10, mR57_11, mR57_12, mR57_13, mR57_14, mR57_15, mR57_16, mR57_18, mR57_19, mR57_20, mR57_21, mR57_22, mR57_23, mR57_25, mR57_26, mR57_27, mR57_28, mR57_37, mR57_40, mR57_41, mR57_43, mR57_44, mR57_48, mR57_49, gC58, mN58, gC59, mN59, gC60, mN60, gC61, mN61, gC62, mN62, gC63, mN63, gC64, mN64, gC65, mN65, gC66, mN66, gC67, mN67, gC68, mN68, gC69, mN69, gC70, mN70, gC71, mN71, gC72, mN72, gC73, mN73, gC74, mN74, gC75, mN75, gC76, mN76, gC77, mN77, gC78, mN78, gC79, mN79, gC80, mN80, gC81, mN81, gC82, mN82, gC83, mN83, gC84, mN84, gC85, mN85, gC86, mN86, gC87, mN87, pk_sub hmo]
  rfl
theorem minM_E {c m a1 b M d : Nat} (P : Int32) (hc : c ≤ 2000) (hm : m ≤ 600) (ha : a1 ≤ 20000) (hb : b ≤ 2000 * m) (hM : M ≤ 20000) (hd : d < 2 ^ 31) (hU : RelU i) (e0 : i 57 29 = nI M) (e3 : ∀ x, x - x = 0 → True) (e4 : i 57 33 = nI b) (e5 : i 57 30 = nI d) (s1 s2 : Int32) (hs : s1 - s2 = nI a1) : f_X11_minute_b69 57 (nI c) 57 s1 s2 (mkS n z L (u2 i 57 31 (nI (m + 1))) l) = some (nI (a1 + min (b + c) (M - a1)), mkS n z L (gtM i m a1 (b + c) (min (b + c) (M - a1)) (priceV i d)) l) := by
  have hmo : min (b + c) (M - a1) ≤ b + c := Nat.min_le_left _ _
  have b124 : f_X11_minute_b124 57 (nI (min (b + c) (M - a1))) (mkS n z L (u2 (u2 (u2 i 57 31 (nI (m + 1))) 57 32 (nI a1)) 57 33 (nI (b + c))) l) = some (nI (a1 + min (b + c) (M - a1)), mkS n z L (gtM i m a1 (b + c) (min (b + c) (M - a1)) (priceV i d)) l) := by
    have v1 : u2 (u2 (u2 i 57 31 (nI (m + 1))) 57 32 (nI a1)) 57 33 (nI (b + c)) 57 32 = nI a1 := by rw [u2_k _ _ (by omega), u2_s]
    have v2 : u2 (u2 (u2 (u2 i 57 31 (nI (m + 1))) 57 32 (nI a1)) 57 33 (nI (b + c))) 57 32 (nI (a1 + min (b + c) (M - a1))) 57 33 = nI (b + c) := by rw [u2_k _ _ (by omega), u2_s]
    have fu : ∀ {j : fI} {k : Nat} {v : Int32}, Fr sU i j → Fr sU i (u2 j 57 k v) := fun h => Fr_u2 h (by unfold sU; omega)
    have f1 : Fr sU i (u2 (u2 (u2 (u2 (u2 i 57 31 (nI (m + 1))) 57 32 (nI a1)) 57 33 (nI (b + c))) 57 32 (nI (a1 + min (b + c) (M - a1)))) 57 33 (nI (b + c - min (b + c) (M - a1)))) := fu (fu (fu (fu (fu Fr_rfl))))
    have p1 := costOf_E (n := n) (z := z) (L := L) (l := l) (hU.fr f1) hd
    rw [priceV_fr f1] at p1
    have f2 : Fr sU i (u2 (u2 (u2 (u2 (u2 (u2 i 57 31 (nI (m + 1))) 57 32 (nI a1)) 57 33 (nI (b + c))) 57 32 (nI (a1 + min (b + c) (M - a1)))) 57 33 (nI (b + c - min (b + c) (M - a1)))) 57 34 (i 57 34 + nI (min (b + c) (M - a1)) * priceV i d)) := fu f1
    have p2 := costOf_E (n := n) (z := z) (L := L) (l := l) (hU.fr f2) hd
    rw [priceV_fr f2] at p2
    have w1 : u2 (u2 (u2 (u2 (u2 i 57 31 (nI (m + 1))) 57 32 (nI a1)) 57 33 (nI (b + c))) 57 32 (nI (a1 + min (b + c) (M - a1)))) 57 33 (nI (b + c - min (b + c) (M - a1))) 57 30 = nI d := by
      rw [u2_k _ _ (by omega), u2_k _ _ (by omega), u2_k _ _ (by omega), u2_k _ _ (by omega), u2_k _ _ (by omega), e5]
    have w2 : u2 (u2 (u2 (u2 (u2 i 57 31 (nI (m + 1))) 57 32 (nI a1)) 57 33 (nI (b + c))) 57 32 (nI (a1 + min (b + c) (M - a1)))) 57 33 (nI (b + c - min (b + c) (M - a1))) 57 34 = i 57 34 := by
      rw [u2_k _ _ (by omega), u2_k _ _ (by omega), u2_k _ _ (by omega), u2_k _ _ (by omega), u2_k _ _ (by omega)]
    have w3 : ∀ v, u2 (u2 (u2 (u2 (u2 (u2 i 57 31 (nI (m + 1))) 57 32 (nI a1)) 57 33 (nI (b + c))) 57 32 (nI (a1 + min (b + c) (M - a1)))) 57 33 (nI (b + c - min (b + c) (M - a1)))) 57 34 v 57 30 = nI d := fun v => by rw [u2_k _ _ (by omega), w1]
    have w4 : ∀ v, u2 (u2 (u2 (u2 (u2 (u2 i 57 31 (nI (m + 1))) 57 32 (nI a1)) 57 33 (nI (b + c))) 57 32 (nI (a1 + min (b + c) (M - a1)))) 57 33 (nI (b + c - min (b + c) (M - a1)))) 57 34 v 57 35 = i 57 35 := fun v => by
      rw [u2_k _ _ (by omega), u2_k _ _ (by omega), u2_k _ _ (by omega), u2_k _ _ (by omega), u2_k _ _ (by omega), u2_k _ _ (by omega)]
    simp only [f_X11_minute_b124, mI, mL, mZ, msI, msL, mN1020, gC1, mR1_0, mR1_1, mR1_2, mR1_3, mR1_4, mR1_5, mR1_6, mR1_7, mR1_8, gC2, mR2_6, mR2_7, gC3, mN3, gC4, mN4, gC5, mR5_0, mR5_1, gC6, mN6, gC7, mR7_0, mR7_1, gC8, mR8_0, gC9, mN9, gC10, mR10_0, gC11, mN11, mR11_0, mR11_1, mR11_2, mR11_3, mR11_4, mR11_5, gC12, mR12_0, mR12_1, gC13, mN13, gC14, mN14, gC15, mR15_0, mR15_1, gC16, mN16, gC17, mN17, gC18, mR18_0, mR18_1, gC19, mN19, gC20, mN20, gC21, mR21_0, mR21_1, gC22, mN22, gC23, mN23, gC24, mR24_0, mR24_1, gC25, mN25, gC26, mN26, gC27, mR27_0, mR27_1, gC28, mN28, gC29, mN29, gC30, mR30_0, gC31, mN31, mR31_0, mR31_1, mR31_2, mR31_3, mR31_4, mR31_5, gC32, mR32_0, mR32_1, gC33, mN33, gC34, mN34, gC35, mR35_0, mR35_1, gC36, mN36, gC37, mN37, gC38, mR38_0, mR38_1, gC39, mN39, gC40, mN40, gC41, mR41_0, mR41_1, gC42, mN42, gC43, mN43, gC44, mR44_0, mR44_1, gC45, mN45, gC46, mN46, gC47, mR47_0, mR47_1, gC48, mN48, gC49, mN49, gC50, mR50_0, mR50_1, mR50_2, mR50_3, gC51, mN51, gC52, mN52, gC53, mN53, gC54, mN54, gC55, gC56, gC57, mR57_2, mR57_3, mR57_6, mR57_7, mR57_8, mR57_9, mR57_10, mR57_11, mR57_12, mR57_13, mR57_14, mR57_15, mR57_16, mR57_18, mR57_19, mR57_20, mR57_21, mR57_22, mR57_23, mR57_25, mR57_26, mR57_27, mR57_28, mR57_37, mR57_40, mR57_41, mR57_43, mR57_44, mR57_48, mR57_49, gC58, mN58, gC59, mN59, gC60, mN60, gC61, mN61, gC62, mN62, gC63, mN63, gC64, mN64, gC65, mN65, gC66, mN66, gC67, mN67, gC68, mN68, gC69, mN69, gC70, mN70, gC71, mN71, gC72, mN72, gC73, mN73, gC74, mN74, gC75, mN75, gC76, mN76, gC77, mN77, gC78, mN78, gC79, mN79, gC80, mN80, gC81, mN81, gC82, mN82, gC83, mN83, gC84, mN84, gC85, mN85, gC86, mN86, gC87, mN87, lt1E, v1, nI_add, v2, pk_sub hmo, w1, p1, bdS, w2, w3, p2, w4]
    rw [u2_k _ _ (by omega), u2_k _ _ (by omega), u2_k _ _ (by omega), u2_s]
    rfl
  have b107 : f_X11_minute_b107 57 (nI (M - a1)) (mkS n z L (u2 (u2 (u2 i 57 31 (nI (m + 1))) 57 32 (nI a1)) 57 33 (nI (b + c))) l) = some (nI (a1 + min (b + c) (M - a1)), mkS n z L (gtM i m a1 (b + c) (min (b + c) (M - a1)) (priceV i d)) l) := by
    simp only [f_X11_minute_b107, mI, mL, mZ, msI, msL, mN1020, gC1, mR1_0, mR1_1, mR1_2, mR1_3, mR1_4, mR1_5, mR1_6, mR1_7, mR1_8, gC2, mR2_6, mR2_7, gC3, mN3, gC4, mN4, gC5, mR5_0, mR5_1, gC6, mN6, gC7, mR7_0, mR7_1, gC8, mR8_0, gC9, mN9, gC10, mR10_0, gC11, mN11, mR11_0, mR11_1, mR11_2, mR11_3, mR11_4, mR11_5, gC12, mR12_0, mR12_1, gC13, mN13, gC14, mN14, gC15, mR15_0, mR15_1, gC16, mN16, gC17, mN17, gC18, mR18_0, mR18_1, gC19, mN19, gC20, mN20, gC21, mR21_0, mR21_1, gC22, mN22, gC23, mN23, gC24, mR24_0, mR24_1, gC25, mN25, gC26, mN26, gC27, mR27_0, mR27_1, gC28, mN28, gC29, mN29, gC30, mR30_0, gC31, mN31, mR31_0, mR31_1, mR31_2, mR31_3, mR31_4, mR31_5, gC32, mR32_0, mR32_1, gC33, mN33, gC34, mN34, gC35, mR35_0, mR35_1, gC36, mN36, gC37, mN37, gC38, mR38_0, mR38_1, gC39, mN39, gC40, mN40, gC41, mR41_0, mR41_1, gC42, mN42, gC43, mN43, gC44, mR44_0, mR44_1, gC45, mN45, gC46, mN46, gC47, mR47_0, mR47_1, gC48, mN48, gC49, mN49, gC50, mR50_0, mR50_1, mR50_2, mR50_3, gC51, mN51, gC52, mN52, gC53, mN53, gC54, mN54, gC55, gC56, gC57, mR57_2, mR57_3, mR57_6, mR57_7, mR57_8, mR57_9, mR57_10, mR57_11, mR57_12, mR57_13, mR57_14, mR57_15, mR57_16, mR57_18, mR57_19, mR57_20, mR57_21, mR57_22, mR57_23, mR57_25, mR57_26, mR57_27, mR57_28, mR57_37, mR57_40, mR57_41, mR57_43, mR57_44, mR57_48, mR57_49, gC58, mN58, gC59, mN59, gC60, mN60, gC61, mN61, gC62, mN62, gC63, mN63, gC64, mN64, gC65, mN65, gC66, mN66, gC67, mN67, gC68, mN68, gC69, mN69, gC70, mN70, gC71, mN71, gC72, mN72, gC73, mN73, gC74, mN74, gC75, mN75, gC76, mN76, gC77, mN77, gC78, mN78, gC79, mN79, gC80, mN80, gC81, mN81, gC82, mN82, gC83, mN83, gC84, mN84, gC85, mN85, gC86, mN86, gC87, mN87, u2_s]
    by_cases q : M - a1 ≤ b + c
    · rw [Nat.min_eq_right q] at b124 ⊢
      rw [if_pos ((nI_leI (by omega) (by omega)).mpr q), b124]
    · rw [Nat.min_eq_left (by omega)] at b124 ⊢
      rw [if_neg (fun r => q ((nI_leI (by omega) (by omega)).mp r)), b124]
  have k1 : u2 (u2 i 57 31 (nI (m + 1))) 57 32 (nI a1) 57 33 = nI b := by rw [u2_k _ _ (by omega), u2_k _ _ (by omega), e4]
  have k2 : u2 (u2 (u2 i 57 31 (nI (m + 1))) 57 32 (nI a1)) 57 33 (nI (b + c)) 57 29 = nI M := by rw [u2_k _ _ (by omega), u2_k _ _ (by omega), u2_k _ _ (by omega), e0]
  have k3 : u2 (u2 (u2 i 57 31 (nI (m + 1))) 57 32 (nI a1)) 57 33 (nI (b + c)) 57 32 = nI a1 := by rw [u2_k _ _ (by omega), u2_s]
  simp only [f_X11_minute_b69, mI, mL, mZ, msI, msL, mN1020, gC1, mR1_0, mR1_1, mR1_2, mR1_3, mR1_4, mR1_5, mR1_6, mR1_7, mR1_8, gC2, mR2_6, mR2_7, gC3, mN3, gC4, mN4, gC5, mR5_0, mR5_1, gC6, mN6, gC7, mR7_0, mR7_1, gC8, mR8_0, gC9, mN9, gC10, mR10_0, gC11, mN11, mR11_0, mR11_1, mR11_2, mR11_3, mR11_4, mR11_5, gC12, mR12_0, mR12_1, gC13, mN13, gC14, mN14, gC15, mR15_0, mR15_1, gC16, mN16, gC17, mN17, gC18, mR18_0, mR18_1, gC19, mN19, gC20, mN20, gC21, mR21_0, mR21_1, gC22, mN22, gC23, mN23, gC24, mR24_0, mR24_1, gC25, mN25, gC26, mN26, gC27, mR27_0, mR27_1, gC28, mN28, gC29, mN29, gC30, mR30_0, gC31, mN31, mR31_0, mR31_1, mR31_2, mR31_3, mR31_4, mR31_5, gC32, mR32_0, mR32_1, gC33, mN33, gC34, mN34, gC35, mR35_0, mR35_1, gC36, mN36, gC37, mN37, gC38, mR38_0, mR38_1, gC39, mN39, gC40, mN40, gC41, mR41_0, mR41_1, gC42, mN42, gC43, mN43, gC44, mR44_0, mR44_1, gC45, mN45, gC46, mN46, gC47, mR47_0, mR47_1, gC48, mN48, gC49, mN49, gC50, mR50_0, mR50_1, mR50_2, mR50_3, gC51, mN51, gC52, mN52, gC53, mN53, gC54, mN54, gC55, gC56, gC57, mR57_2, mR57_3, mR57_6, mR57_7, mR57_8, mR57_9, mR57_10, mR57_11, mR57_12, mR57_13, mR57_14, mR57_15, mR57_16, mR57_18, mR57_19, mR57_20, mR57_21, mR57_22, mR57_23, mR57_25, mR57_26, mR57_27, mR57_28, mR57_37, mR57_40, mR57_41, mR57_43, mR57_44, mR57_48, mR57_49, gC58, mN58, gC59, mN59, gC60, mN60, gC61, mN61, gC62, mN62, gC63, mN63, gC64, mN64, gC65, mN65, gC66, mN66, gC67, mN67, gC68, mN68, gC69, mN69, gC70, mN70, gC71, mN71, gC72, mN72, gC73, mN73, gC74, mN74, gC75, mN75, gC76, mN76, gC77, mN77, gC78, mN78, gC79, mN79, gC80, mN80, gC81, mN81, gC82, mN82, gC83, mN83, gC84, mN84, gC85, mN85, gC86, mN86, gC87, mN87, lt1E, hs, k1, nI_add, k2, k3]
  by_cases q : M ≤ a1
  · rw [if_pos ((nI_leI (by omega) (by omega)).mpr q)]
    rw [show M - a1 = 0 by omega] at b107 ⊢
    exact b107
  · rw [if_neg (fun r => q ((nI_leI (by omega) (by omega)).mp r)), pk_sub (by omega)]
    exact b107
theorem op_minute (h : Rel C R n z i l) (x y : Int32) : OpOK C R n z L (f_X10_minute 1 x y) (f_X11_minute 57 x y) i l := by
  obtain ⟨hD, hE, hK, hB, hG, hN, hF, hV, hA, hX, hT, hU, hJ, hM, hL, hO, hY, hP⟩ := id h
  obtain ⟨⟨M, M0, M1, M2, M3⟩, ⟨d, d1, d2, d3⟩, ⟨m, a, b, m1, m2, m3, m4, m5, m6, m7, m8, m9⟩, t1, t2⟩ := id hM
  by_cases c1 : 0 ≤ x ∧ x ≤ 2000
  · by_cases c2 : 0 ≤ y ∧ y ≤ 2000
    · obtain ⟨c, hc, rfl⟩ := nI_rng (N := 2000) (by decide) c1
      obtain ⟨g, hg, rfl⟩ := nI_rng (N := 2000) (by decide) c2
      by_cases c3 : m = 600
      · subst c3
        refine ⟨-4, mkS n z L i l, n, i, l, ?_, ?_, ⟨_, _, rfl, by repeat first | exact Fr_rfl | refine Fr_u2 ?_ (by unfold sQ; omega)⟩, h⟩
        · simp only [f_X10_minute, within_E, bdS, if_b, if_pos c1, if_pos c2, mI, mL, mZ, msI, msL, mN1020, gC1, mR1_0, mR1_1, mR1_2, mR1_3, mR1_4, mR1_5, mR1_6, mR1_7, mR1_8, gC2, mR2_6, mR2_7, gC3, mN3, gC4, mN4, gC5, mR5_0, mR5_1, gC6, mN6, gC7, mR7_0, mR7_1, gC8, mR8_0, gC9, mN9, gC10, mR10_0, gC11, mN11, mR11_0, mR11_1, mR11_2, mR11_3, mR11_4, mR11_5, gC12, mR12_0, mR12_1, gC13, mN13, gC14, mN14, gC15, mR15_0, mR15_1, gC16, mN16, gC17, mN17, gC18, mR18_0, mR18_1, gC19, mN19, gC20, mN20, gC21, mR21_0, mR21_1, gC22, mN22, gC23, mN23, gC24, mR24_0, mR24_1, gC25, mN25, gC26, mN26, gC27, mR27_0, mR27_1, gC28, mN28, gC29, mN29, gC30, mR30_0, gC31, mN31, mR31_0, mR31_1, mR31_2, mR31_3, mR31_4, mR31_5, gC32, mR32_0, mR32_1, gC33, mN33, gC34, mN34, gC35, mR35_0, mR35_1, gC36, mN36, gC37, mN37, gC38, mR38_0, mR38_1, gC39, mN39, gC40, mN40, gC41, mR41_0, mR41_1, gC42, mN42, gC43, mN43, gC44, mR44_0, mR44_1, gC45, mN45, gC46, mN46, gC47, mR47_0, mR47_1, gC48, mN48, gC49, mN49, gC50, mR50_0, mR50_1, mR50_2, mR50_3, gC51, mN51, gC52, mN52, gC53, mN53, gC54, mN54, gC55, gC56, gC57, mR57_2, mR57_3, mR57_6, mR57_7, mR57_8, mR57_9, mR57_10, mR57_11, mR57_12, mR57_13, mR57_14, mR57_15, mR57_16, mR57_18, mR57_19, mR57_20, mR57_21, mR57_22, mR57_23, mR57_25, mR57_26, mR57_27, mR57_28, mR57_37, mR57_40, mR57_41, mR57_43, mR57_44, mR57_48, mR57_49, gC58, mN58, gC59, mN59, gC60, mN60, gC61, mN61, gC62, mN62, gC63, mN63, gC64, mN64, gC65, mN65, gC66, mN66, gC67, mN67, gC68, mN68, gC69, mN69, gC70, mN70, gC71, mN71, gC72, mN72, gC73, mN73, gC74, mN74, gC75, mN75, gC76, mN76, gC77, mN77, gC78, mN78, gC79, mN79, gC80, mN80, gC81, mN81, gC82, mN82, gC83, mN83, gC84, mN84, gC85, mN85, gC86, mN86, gC87, mN87, m4]
          rw [if_neg (by decide)]
        · simp only [f_X11_minute, in_E, bdS, if_b, if_pos c1, if_pos c2, mI, mL, mZ, msI, msL, mN1020, gC1, mR1_0, mR1_1, mR1_2, mR1_3, mR1_4, mR1_5, mR1_6, mR1_7, mR1_8, gC2, mR2_6, mR2_7, gC3, mN3, gC4, mN4, gC5, mR5_0, mR5_1, gC6, mN6, gC7, mR7_0, mR7_1, gC8, mR8_0, gC9, mN9, gC10, mR10_0, gC11, mN11, mR11_0, mR11_1, mR11_2, mR11_3, mR11_4, mR11_5, gC12, mR12_0, mR12_1, gC13, mN13, gC14, mN14, gC15, mR15_0, mR15_1, gC16, mN16, gC17, mN17, gC18, mR18_0, mR18_1, gC19, mN19, gC20, mN20, gC21, mR21_0, mR21_1, gC22, mN22, gC23, mN23, gC24, mR24_0, mR24_1, gC25, mN25, gC26, mN26, gC27, mR27_0, mR27_1, gC28, mN28, gC29, mN29, gC30, mR30_0, gC31, mN31, mR31_0, mR31_1, mR31_2, mR31_3, mR31_4, mR31_5, gC32, mR32_0, mR32_1, gC33, mN33, gC34, mN34, gC35, mR35_0, mR35_1, gC36, mN36, gC37, mN37, gC38, mR38_0, mR38_1, gC39, mN39, gC40, mN40, gC41, mR41_0, mR41_1, gC42, mN42, gC43, mN43, gC44, mR44_0, mR44_1, gC45, mN45, gC46, mN46, gC47, mR47_0, mR47_1, gC48, mN48, gC49, mN49, gC50, mR50_0, mR50_1, mR50_2, mR50_3, gC51, mN51, gC52, mN52, gC53, mN53, gC54, mN54, gC55, gC56, gC57, mR57_2, mR57_3, mR57_6, mR57_7, mR57_8, mR57_9, mR57_10, mR57_11, mR57_12, mR57_13, mR57_14, mR57_15, mR57_16, mR57_18, mR57_19, mR57_20, mR57_21, mR57_22, mR57_23, mR57_25, mR57_26, mR57_27, mR57_28, mR57_37, mR57_40, mR57_41, mR57_43, mR57_44, mR57_48, mR57_49, gC58, mN58, gC59, mN59, gC60, mN60, gC61, mN61, gC62, mN62, gC63, mN63, gC64, mN64, gC65, mN65, gC66, mN66, gC67, mN67, gC68, mN68, gC69, mN69, gC70, mN70, gC71, mN71, gC72, mN72, gC73, mN73, gC74, mN74, gC75, mN75, gC76, mN76, gC77, mN77, gC78, mN78, gC79, mN79, gC80, mN80, gC81, mN81, gC82, mN82, gC83, mN83, gC84, mN84, gC85, mN85, gC86, mN86, gC87, mN87, m5]
          rw [if_pos (by decide)]
      · have hmn : min g a ≤ a := Nat.min_le_right _ _
        refine ⟨nI ((a - min g a) + min (b + c) (M - (a - min g a))), mkS n z L (gtC i m (a - min g a) (b + c) (min (b + c) (M - (a - min g a))) (priceV i d)) l, n, gtM (gtC i m (a - min g a) (b + c) (min (b + c) (M - (a - min g a))) (priceV i d)) m (a - min g a) (b + c) (min (b + c) (M - (a - min g a))) (priceV i d), l, ?_, ?_, ⟨_, _, rfl, ?_⟩, ?_⟩
        · simp only [f_X10_minute, within_E, bdS, if_b, if_pos c1, if_pos c2, mI, mL, mZ, msI, msL, mN1020, gC1, mR1_0, mR1_1, mR1_2, mR1_3, mR1_4, mR1_5, mR1_6, mR1_7, mR1_8, gC2, mR2_6, mR2_7, gC3, mN3, gC4, mN4, gC5, mR5_0, mR5_1, gC6, mN6, gC7, mR7_0, mR7_1, gC8, mR8_0, gC9, mN9, gC10, mR10_0, gC11, mN11, mR11_0, mR11_1, mR11_2, mR11_3, mR11_4, mR11_5, gC12, mR12_0, mR12_1, gC13, mN13, gC14, mN14, gC15, mR15_0, mR15_1, gC16, mN16, gC17, mN17, gC18, mR18_0, mR18_1, gC19, mN19, gC20, mN20, gC21, mR21_0, mR21_1, gC22, mN22, gC23, mN23, gC24, mR24_0, mR24_1, gC25, mN25, gC26, mN26, gC27, mR27_0, mR27_1, gC28, mN28, gC29, mN29, gC30, mR30_0, gC31, mN31, mR31_0, mR31_1, mR31_2, mR31_3, mR31_4, mR31_5, gC32, mR32_0, mR32_1, gC33, mN33, gC34, mN34, gC35, mR35_0, mR35_1, gC36, mN36, gC37, mN37, gC38, mR38_0, mR38_1, gC39, mN39, gC40, mN40, gC41, mR41_0, mR41_1, gC42, mN42, gC43, mN43, gC44, mR44_0, mR44_1, gC45, mN45, gC46, mN46, gC47, mR47_0, mR47_1, gC48, mN48, gC49, mN49, gC50, mR50_0, mR50_1, mR50_2, mR50_3, gC51, mN51, gC52, mN52, gC53, mN53, gC54, mN54, gC55, gC56, gC57, mR57_2, mR57_3, mR57_6, mR57_7, mR57_8, mR57_9, mR57_10, mR57_11, mR57_12, mR57_13, mR57_14, mR57_15, mR57_16, mR57_18, mR57_19, mR57_20, mR57_21, mR57_22, mR57_23, mR57_25, mR57_26, mR57_27, mR57_28, mR57_37, mR57_40, mR57_41, mR57_43, mR57_44, mR57_48, mR57_49, gC58, mN58, gC59, mN59, gC60, mN60, gC61, mN61, gC62, mN62, gC63, mN63, gC64, mN64, gC65, mN65, gC66, mN66, gC67, mN67, gC68, mN68, gC69, mN69, gC70, mN70, gC71, mN71, gC72, mN72, gC73, mN73, gC74, mN74, gC75, mN75, gC76, mN76, gC77, mN77, gC78, mN78, gC79, mN79, gC80, mN80, gC81, mN81, gC82, mN82, gC83, mN83, gC84, mN84, gC85, mN85, gC86, mN86, gC87, mN87, m4, d2, entryPrice_E hU (show d < 2 ^ 31 by omega), pass_E (priceV i d) hc hg m1 m2 m3 M1 M2 m4 m6 m8]
          rw [if_pos (by rw [show (600 : Int32) = nI 600 from rfl, nI_ltI (by omega) (by omega)]; omega)]
          simp [gtC, u2]
        · have lo : ∀ k, gtC i m (a - min g a) (b + c) (min (b + c) (M - (a - min g a))) (priceV i d) 57 k = i 57 k := fun k => by
            unfold gtC
            rw [u2_p _ _ (by omega), u2_p _ _ (by omega), u2_p _ _ (by omega), u2_p _ _ (by omega), u2_p _ _ (by omega), u2_p _ _ (by omega), u2_p _ _ (by omega)]
          have fU : Fr sU i (gtC i m (a - min g a) (b + c) (min (b + c) (M - (a - min g a))) (priceV i d)) := by
            unfold gtC
            repeat first | exact Fr_rfl | refine Fr_u2 ?_ (by unfold sU; omega)
          have key := fun s1 s2 hs => minM_E (n := n) (z := z) (L := L) (l := l) (i := gtC i m (a - min g a) (b + c) (min (b + c) (M - (a - min g a))) (priceV i d)) 0 hc m1 (show a - min g a ≤ 20000 by omega) m3 M1 (show d < 2 ^ 31 by omega) (hU.fr fU) (by rw [lo, M3]) (fun _ _ => trivial) (by rw [lo, m9]) (by rw [lo, d3]) s1 s2 hs
          rw [priceV_fr fU] at key
          simp only [f_X11_minute, in_E, bdS, if_b, if_pos c1, if_pos c2, mI, mL, mZ, msI, msL, mN1020, gC1, mR1_0, mR1_1, mR1_2, mR1_3, mR1_4, mR1_5, mR1_6, mR1_7, mR1_8, gC2, mR2_6, mR2_7, gC3, mN3, gC4, mN4, gC5, mR5_0, mR5_1, gC6, mN6, gC7, mR7_0, mR7_1, gC8, mR8_0, gC9, mN9, gC10, mR10_0, gC11, mN11, mR11_0, mR11_1, mR11_2, mR11_3, mR11_4, mR11_5, gC12, mR12_0, mR12_1, gC13, mN13, gC14, mN14, gC15, mR15_0, mR15_1, gC16, mN16, gC17, mN17, gC18, mR18_0, mR18_1, gC19, mN19, gC20, mN20, gC21, mR21_0, mR21_1, gC22, mN22, gC23, mN23, gC24, mR24_0, mR24_1, gC25, mN25, gC26, mN26, gC27, mR27_0, mR27_1, gC28, mN28, gC29, mN29, gC30, mR30_0, gC31, mN31, mR31_0, mR31_1, mR31_2, mR31_3, mR31_4, mR31_5, gC32, mR32_0, mR32_1, gC33, mN33, gC34, mN34, gC35, mR35_0, mR35_1, gC36, mN36, gC37, mN37, gC38, mR38_0, mR38_1, gC39, mN39, gC40, mN40, gC41, mR41_0, mR41_1, gC42, mN42, gC43, mN43, gC44, mR44_0, mR44_1, gC45, mN45, gC46, mN46, gC47, mR47_0, mR47_1, gC48, mN48, gC49, mN49, gC50, mR50_0, mR50_1, mR50_2, mR50_3, gC51, mN51, gC52, mN52, gC53, mN53, gC54, mN54, gC55, gC56, gC57, mR57_2, mR57_3, mR57_6, mR57_7, mR57_8, mR57_9, mR57_10, mR57_11, mR57_12, mR57_13, mR57_14, mR57_15, mR57_16, mR57_18, mR57_19, mR57_20, mR57_21, mR57_22, mR57_23, mR57_25, mR57_26, mR57_27, mR57_28, mR57_37, mR57_40, mR57_41, mR57_43, mR57_44, mR57_48, mR57_49, gC58, mN58, gC59, mN59, gC60, mN60, gC61, mN61, gC62, mN62, gC63, mN63, gC64, mN64, gC65, mN65, gC66, mN66, gC67, mN67, gC68, mN68, gC69, mN69, gC70, mN70, gC71, mN71, gC72, mN72, gC73, mN73, gC74, mN74, gC75, mN75, gC76, mN76, gC77, mN77, gC78, mN78, gC79, mN79, gC80, mN80, gC81, mN81, gC82, mN82, gC83, mN83, gC84, mN84, gC85, mN85, gC86, mN86, gC87, mN87, lo, m5, lt1E, nI_1, u2_k _ _ (show 32 ≠ 31 by omega), m7]
          rw [if_neg (by rw [show (600 : Int32) = nI 600 from rfl, nI_eq (by omega) (by omega)]; exact c3)]
          by_cases q : a ≤ g
          · rw [if_pos ((nI_leI (by omega) (by omega)).mpr q), key _ _ (by rw [pk_sub (Nat.le_refl _), Nat.min_eq_right q])]
          · rw [if_neg (fun r => q ((nI_leI (by omega) (by omega)).mp r)), key _ _ (by rw [pk_sub (by omega), Nat.min_eq_left (by omega)])]
        · unfold gtC
          repeat first | exact Fr_rfl | refine Fr_u2 ?_ (by unfold sQ; omega)
        · have hmo : min (b + c) (M - (a - min g a)) ≤ b + c := Nat.min_le_left _ _
          have hmp : min (b + c) (M - (a - min g a)) ≤ M - (a - min g a) := Nat.min_le_right _ _
          unfold gtM gtC
          refine ⟨hD.fr (Fr_u2 (Fr_u2 (Fr_u2 (Fr_u2 (Fr_u2 (Fr_u2 (Fr_u2 (Fr_u2 (Fr_u2 (Fr_u2 (Fr_u2 (Fr_u2 (Fr_u2 (Fr_u2 Fr_rfl (by unfold sD; omega)) (by unfold sD; omega)) (by unfold sD; omega)) (by unfold sD; omega)) (by unfold sD; omega)) (by unfold sD; omega)) (by unfold sD; omega)) (by unfold sD; omega)) (by unfold sD; omega)) (by unfold sD; omega)) (by unfold sD; omega)) (by unfold sD; omega)) (by unfold sD; omega)) (by unfold sD; omega)), hE.fr Fr_rfl, hK.fr (Fr_u2 (Fr_u2 (Fr_u2 (Fr_u2 (Fr_u2 (Fr_u2 (Fr_u2 (Fr_u2 (Fr_u2 (Fr_u2 (Fr_u2 (Fr_u2 (Fr_u2 (Fr_u2 Fr_rfl (by unfold sK; omega)) (by unfold sK; omega)) (by unfold sK; omega)) (by unfold sK; omega)) (by unfold sK; omega)) (by unfold sK; omega)) (by unfold sK; omega)) (by unfold sK; omega)) (by unfold sK; omega)) (by unfold sK; omega)) (by unfold sK; omega)) (by unfold sK; omega)) (by unfold sK; omega)) (by unfold sK; omega)) Fr_rfl, hB.fr (Fr_u2 (Fr_u2 (Fr_u2 (Fr_u2 (Fr_u2 (Fr_u2 (Fr_u2 (Fr_u2 (Fr_u2 (Fr_u2 (Fr_u2 (Fr_u2 (Fr_u2 (Fr_u2 Fr_rfl (by unfold sB; omega)) (by unfold sB; omega)) (by unfold sB; omega)) (by unfold sB; omega)) (by unfold sB; omega)) (by unfold sB; omega)) (by unfold sB; omega)) (by unfold sB; omega)) (by unfold sB; omega)) (by unfold sB; omega)) (by unfold sB; omega)) (by unfold sB; omega)) (by unfold sB; omega)) (by unfold sB; omega)), hG.fr (Fr_u2 (Fr_u2 (Fr_u2 (Fr_u2 (Fr_u2 (Fr_u2 (Fr_u2 (Fr_u2 (Fr_u2 (Fr_u2 (Fr_u2 (Fr_u2 (Fr_u2 (Fr_u2 Fr_rfl (by unfold sG; omega)) (by unfold sG; omega)) (by unfold sG; omega)) (by unfold sG; omega)) (by unfold sG; omega)) (by unfold sG; omega)) (by unfold sG; omega)) (by unfold sG; omega)) (by unfold sG; omega)) (by unfold sG; omega)) (by unfold sG; omega)) (by unfold sG; omega)) (by unfold sG; omega)) (by unfold sG; omega)), hN.fr (Fr_u2 (Fr_u2 (Fr_u2 (Fr_u2 (Fr_u2 (Fr_u2 (Fr_u2 (Fr_u2 (Fr_u2 (Fr_u2 (Fr_u2 (Fr_u2 (Fr_u2 (Fr_u2 Fr_rfl (by unfold sN; omega)) (by unfold sN; omega)) (by unfold sN; omega)) (by unfold sN; omega)) (by unfold sN; omega)) (by unfold sN; omega)) (by unfold sN; omega)) (by unfold sN; omega)) (by unfold sN; omega)) (by unfold sN; omega)) (by unfold sN; omega)) (by unfold sN; omega)) (by unfold sN; omega)) (by unfold sN; omega)), hF.fr hN.1 (Fr_u2 (Fr_u2 (Fr_u2 (Fr_u2 (Fr_u2 (Fr_u2 (Fr_u2 (Fr_u2 (Fr_u2 (Fr_u2 (Fr_u2 (Fr_u2 (Fr_u2 (Fr_u2 Fr_rfl (by unfold sF; omega)) (by unfold sF; omega)) (by unfold sF; omega)) (by unfold sF; omega)) (by unfold sF; omega)) (by unfold sF; omega)) (by unfold sF; omega)) (by unfold sF; omega)) (by unfold sF; omega)) (by unfold sF; omega)) (by unfold sF; omega)) (by unfold sF; omega)) (by unfold sF; omega)) (by unfold sF; omega)), hV.fr (Fr_u2 (Fr_u2 (Fr_u2 (Fr_u2 (Fr_u2 (Fr_u2 (Fr_u2 (Fr_u2 (Fr_u2 (Fr_u2 (Fr_u2 (Fr_u2 (Fr_u2 (Fr_u2 Fr_rfl (by unfold sVv; omega)) (by unfold sVv; omega)) (by unfold sVv; omega)) (by unfold sVv; omega)) (by unfold sVv; omega)) (by unfold sVv; omega)) (by unfold sVv; omega)) (by unfold sVv; omega)) (by unfold sVv; omega)) (by unfold sVv; omega)) (by unfold sVv; omega)) (by unfold sVv; omega)) (by unfold sVv; omega)) (by unfold sVv; omega)), hA.fr (Fr_u2 (Fr_u2 (Fr_u2 (Fr_u2 (Fr_u2 (Fr_u2 (Fr_u2 (Fr_u2 (Fr_u2 (Fr_u2 (Fr_u2 (Fr_u2 (Fr_u2 (Fr_u2 Fr_rfl (by unfold sVv; omega)) (by unfold sVv; omega)) (by unfold sVv; omega)) (by unfold sVv; omega)) (by unfold sVv; omega)) (by unfold sVv; omega)) (by unfold sVv; omega)) (by unfold sVv; omega)) (by unfold sVv; omega)) (by unfold sVv; omega)) (by unfold sVv; omega)) (by unfold sVv; omega)) (by unfold sVv; omega)) (by unfold sVv; omega)) Fr_rfl, hX.fr (Fr_u2 (Fr_u2 (Fr_u2 (Fr_u2 (Fr_u2 (Fr_u2 (Fr_u2 (Fr_u2 (Fr_u2 (Fr_u2 (Fr_u2 (Fr_u2 (Fr_u2 (Fr_u2 Fr_rfl (by unfold sX; omega)) (by unfold sX; omega)) (by unfold sX; omega)) (by unfold sX; omega)) (by unfold sX; omega)) (by unfold sX; omega)) (by unfold sX; omega)) (by unfold sX; omega)) (by unfold sX; omega)) (by unfold sX; omega)) (by unfold sX; omega)) (by unfold sX; omega)) (by unfold sX; omega)) (by unfold sX; omega)), hT.fr (Fr_u2 (Fr_u2 (Fr_u2 (Fr_u2 (Fr_u2 (Fr_u2 (Fr_u2 (Fr_u2 (Fr_u2 (Fr_u2 (Fr_u2 (Fr_u2 (Fr_u2 (Fr_u2 Fr_rfl (by unfold sT; omega)) (by unfold sT; omega)) (by unfold sT; omega)) (by unfold sT; omega)) (by unfold sT; omega)) (by unfold sT; omega)) (by unfold sT; omega)) (by unfold sT; omega)) (by unfold sT; omega)) (by unfold sT; omega)) (by unfold sT; omega)) (by unfold sT; omega)) (by unfold sT; omega)) (by unfold sT; omega)), hU.fr (Fr_u2 (Fr_u2 (Fr_u2 (Fr_u2 (Fr_u2 (Fr_u2 (Fr_u2 (Fr_u2 (Fr_u2 (Fr_u2 (Fr_u2 (Fr_u2 (Fr_u2 (Fr_u2 Fr_rfl (by unfold sU; omega)) (by unfold sU; omega)) (by unfold sU; omega)) (by unfold sU; omega)) (by unfold sU; omega)) (by unfold sU; omega)) (by unfold sU; omega)) (by unfold sU; omega)) (by unfold sU; omega)) (by unfold sU; omega)) (by unfold sU; omega)) (by unfold sU; omega)) (by unfold sU; omega)) (by unfold sU; omega)), hJ.fr (Fr_u2 (Fr_u2 (Fr_u2 (Fr_u2 (Fr_u2 (Fr_u2 (Fr_u2 (Fr_u2 (Fr_u2 (Fr_u2 (Fr_u2 (Fr_u2 (Fr_u2 (Fr_u2 Fr_rfl (by unfold sJ; omega)) (by unfold sJ; omega)) (by unfold sJ; omega)) (by unfold sJ; omega)) (by unfold sJ; omega)) (by unfold sJ; omega)) (by unfold sJ; omega)) (by unfold sJ; omega)) (by unfold sJ; omega)) (by unfold sJ; omega)) (by unfold sJ; omega)) (by unfold sJ; omega)) (by unfold sJ; omega)) (by unfold sJ; omega)), ?_, hL.fr (Fr_u2 (Fr_u2 (Fr_u2 (Fr_u2 (Fr_u2 (Fr_u2 (Fr_u2 (Fr_u2 (Fr_u2 (Fr_u2 (Fr_u2 (Fr_u2 (Fr_u2 (Fr_u2 Fr_rfl (by unfold sLo; omega)) (by unfold sLo; omega)) (by unfold sLo; omega)) (by unfold sLo; omega)) (by unfold sLo; omega)) (by unfold sLo; omega)) (by unfold sLo; omega)) (by unfold sLo; omega)) (by unfold sLo; omega)) (by unfold sLo; omega)) (by unfold sLo; omega)) (by unfold sLo; omega)) (by unfold sLo; omega)) (by unfold sLo; omega)), hO.fr (Fr_u2 (Fr_u2 (Fr_u2 (Fr_u2 (Fr_u2 (Fr_u2 (Fr_u2 (Fr_u2 (Fr_u2 (Fr_u2 (Fr_u2 (Fr_u2 (Fr_u2 (Fr_u2 Fr_rfl (by unfold sO; omega)) (by unfold sO; omega)) (by unfold sO; omega)) (by unfold sO; omega)) (by unfold sO; omega)) (by unfold sO; omega)) (by unfold sO; omega)) (by unfold sO; omega)) (by unfold sO; omega)) (by unfold sO; omega)) (by unfold sO; omega)) (by unfold sO; omega)) (by unfold sO; omega)) (by unfold sO; omega)), hY.fr (Fr_u2 (Fr_u2 (Fr_u2 (Fr_u2 (Fr_u2 (Fr_u2 (Fr_u2 (Fr_u2 (Fr_u2 (Fr_u2 (Fr_u2 (Fr_u2 (Fr_u2 (Fr_u2 Fr_rfl (by unfold sY; omega)) (by unfold sY; omega)) (by unfold sY; omega)) (by unfold sY; omega)) (by unfold sY; omega)) (by unfold sY; omega)) (by unfold sY; omega)) (by unfold sY; omega)) (by unfold sY; omega)) (by unfold sY; omega)) (by unfold sY; omega)) (by unfold sY; omega)) (by unfold sY; omega)) (by unfold sY; omega)), hP.fr Fr_rfl⟩
          refine ⟨⟨M, M0, M1, by simp [u2]; exact M2, by simp [u2]; exact M3⟩, ⟨d, d1, by simp [u2]; exact d2, by simp [u2]; exact d3⟩, ⟨m + 1, (a - min g a) + min (b + c) (M - (a - min g a)), (b + c) - min (b + c) (M - (a - min g a)), by omega, by omega, by omega, by simp [u2], by simp [u2], by simp [u2], by simp [u2], by simp [u2], by simp [u2]⟩, by simp [u2, t1], by simp [u2, t2]⟩
    · refine ⟨-2, mkS n z L i l, n, i, l, ?_, ?_, ⟨_, _, rfl, by repeat first | exact Fr_rfl | refine Fr_u2 ?_ (by unfold sQ; omega)⟩, h⟩
      · simp only [f_X10_minute, within_E, bdS, if_b, if_pos c1, if_neg c2]
      · simp only [f_X11_minute, in_E, bdS, if_b, if_pos c1, if_neg c2]
  · refine ⟨-2, mkS n z L i l, n, i, l, ?_, ?_, ⟨_, _, rfl, by repeat first | exact Fr_rfl | refine Fr_u2 ?_ (by unfold sQ; omega)⟩, h⟩
    · simp only [f_X10_minute, within_E, bdS, if_b, if_neg c1]
    · simp only [f_X11_minute, in_E, bdS, if_b, if_neg c1]
end OPS9
