section TAPE
variable {C R n z L : Nat} {i : fI} {l : fL}
/-! the tape: its bytes as numbers; 999 beyond its end -/
def TC (T : Nat) (b : Nat → Nat) (i : fI) : Prop := T ≤ 120 ∧ i 8 1 = nI T ∧ ∀ j, j < T → b j < 256 ∧ i 9 j = (nI (b j)).toInt8.toInt32
def TM (T : Nat) (b : Nat → Nat) (i : fI) : Prop := T ≤ 120 ∧ i 57 17 = nI T ∧ ∀ j, j < T → b j < 256 ∧ i 70 j = nI (b j)
def tpF2 (T : Nat) (b : Nat → Nat) (p : Nat) : Nat := if p < T then b p else 999
theorem sb_all : ∀ b : Fin 256, if b.1 < 128 then (nI b.1).toInt8.toInt32 = nI b.1 else (nI b.1).toInt8.toInt32 < 0 := by decide +kernel
theorem sb_lo {b : Nat} (h : b < 128) : (nI b).toInt8.toInt32 = nI b := by
  have := sb_all ⟨b, by omega⟩
  rwa [if_pos h] at this
theorem sb_hi {b : Nat} (h : ¬ b < 128) (h2 : b < 256) : (nI b).toInt8.toInt32 < 0 := by
  have := sb_all ⟨b, h2⟩
  rwa [if_neg h] at this
theorem sb_ch {b c : Nat} (hb : b < 256) (hc : c < 128) : ((nI b).toInt8.toInt32 = nI c) = (b = c) := by
  apply propext
  by_cases h : b < 128
  · rw [sb_lo h, nI_eq (by omega) (by omega)]
  · have := sb_hi h hb
    constructor
    · intro e
      rw [e] at this
      exact absurd this (nI_pos (by omega))
    · intro e
      omega
theorem atEnd_E {T p : Nat} {b : Nat → Nat} (hT : TC T b i) (hp : p ≤ 120) (h2 : i 8 2 = nI p) : f_X7_isAtEnd 8 (mkS n z L i l) = some (bI (decide (T ≤ p)), mkS n z L i l) := by
  have := hT.1
  simp only [f_X7_isAtEnd, mI, mL, mZ, msI, msL, mN1020, gC1, mR1_0, mR1_1, mR1_2, mR1_3, mR1_4, mR1_5, mR1_6, mR1_7, mR1_8, gC2, mR2_6, mR2_7, gC3, mN3, gC4, mN4, gC5, mR5_0, mR5_1, gC6, mN6, gC7, mR7_0, mR7_1, gC8, mR8_0, gC9, mN9, gC10, mR10_0, gC11, mN11, mR11_0, mR11_1, mR11_2, mR11_3, mR11_4, mR11_5, gC12, mR12_0, mR12_1, gC13, mN13, gC14, mN14, gC15, mR15_0, mR15_1, gC16, mN16, gC17, mN17, gC18, mR18_0, mR18_1, gC19, mN19, gC20, mN20, gC21, mR21_0, mR21_1, gC22, mN22, gC23, mN23, gC24, mR24_0, mR24_1, gC25, mN25, gC26, mN26, gC27, mR27_0, mR27_1, gC28, mN28, gC29, mN29, gC30, mR30_0, gC31, mN31, mR31_0, mR31_1, mR31_2, mR31_3, mR31_4, mR31_5, gC32, mR32_0, mR32_1, gC33, mN33, gC34, mN34, gC35, mR35_0, mR35_1, gC36, mN36, gC37, mN37, gC38, mR38_0, mR38_1, gC39, mN39, gC40, mN40, gC41, mR41_0, mR41_1, gC42, mN42, gC43, mN43, gC44, mR44_0, mR44_1, gC45, mN45, gC46, mN46, gC47, mR47_0, mR47_1, gC48, mN48, gC49, mN49, gC50, mR50_0, mR50_1, mR50_2, mR50_3, gC51, mN51, gC52, mN52, gC53, mN53, gC54, mN54, gC55, gC56, gC57, mR57_2, mR57_3, mR57_6, mR57_7, mR57_8, mR57_9, mR57_10, mR57_11, mR57_12, mR57_13, mR57_14, mR57_15, mR57_16, mR57_18, mR57_19, mR57_20, mR57_21, mR57_22, mR57_23, mR57_25, mR57_26, mR57_27, mR57_28, mR57_37, mR57_40, mR57_41, mR57_43, mR57_44, mR57_48, mR57_49, gC58, mN58, gC59, mN59, gC60, mN60, gC61, mN61, gC62, mN62, gC63, mN63, gC64, mN64, gC65, mN65, gC66, mN66, gC67, mN67, gC68, mN68, gC69, mN69, gC70, mN70, gC71, mN71, gC72, mN72, gC73, mN73, gC74, mN74, gC75, mN75, gC76, mN76, gC77, mN77, gC78, mN78, gC79, mN79, gC80, mN80, gC81, mN81, gC82, mN82, gC83, mN83, gC84, mN84, gC85, mN85, gC86, mN86, gC87, mN87, h2, hT.2.1]
  by_cases e : T ≤ p
  · rw [if_neg (nI_nlt e (by omega)), decide_eq_true e]; rfl
  · rw [if_pos (nI_lt (by omega) (by omega)), decide_eq_false e]; rfl
def wdL : List (List Nat) := [[103, 111, 108, 100], [115, 105, 108, 118, 101, 114], [98, 114, 111, 110, 122, 101], [32, 97, 116, 32], [44], [112, 97, 121, 32], [32, 111, 110, 32]]
def wch (s j : Nat) : Nat := (wdL.getD s []).getD j 0
def wln (s : Nat) : Nat := (wdL.getD s []).length
theorem wl_all : ∀ s : Fin 7, xlen.getD s.1 0 = wln s.1 ∧ wln s.1 ≤ 6 ∧ (Int32.ofNat (xlen.getD s.1 0)) >>> ((0 : Int32) &&& 31) = nI (wln s.1) := by decide +kernel
theorem wc_all : ∀ s : Fin 7, ∀ j : Fin 6, j.1 < wln s.1 → ((((xbyt.getD s.1 []).getD j.1 0) &&& (255 : Int32)).toUInt32 % 65536).toInt32 = nI (wch s.1 j.1) ∧ vp_nar .char (nI (wch s.1 j.1)) = nI (wch s.1 j.1) ∧ wch s.1 j.1 < 128 := by decide +kernel
theorem len_E {s : Nat} (hs : s < 7) (w : xSt) : f_J0_length_8abf5 s w = some (nI (wln s), w) := by
  obtain ⟨-, -, e⟩ := wl_all ⟨s, hs⟩
  unfold f_J0_length_8abf5 f_J0_coder_7d493
  rw [gd_t hs, gd_t hs, gd_t hs, if_neg (by decide), gd_t hs, gd_t (Or.inl rfl), bdS]
  rw [show (Int32.ofNat (xlen.getD s 0)) >>> ((0 : Int32) &&& 31) = nI (wln s) from e]
theorem charAt_E {s j : Nat} (hs : s < 7) (hj : j < wln s) (w : xSt) : f_J0_charAt_5068e s (nI j) w = some (nI (wch s j), w) := by
  obtain ⟨e1, e2, -⟩ := wl_all ⟨s, hs⟩
  have e1 : xlen.getD s 0 = wln s := e1
  have e2 : wln s ≤ 6 := e2
  obtain ⟨c1, c2, -⟩ := wc_all ⟨s, hs⟩ ⟨j, by omega⟩ hj
  have c1 : ((((xbyt.getD s []).getD j 0) &&& (255 : Int32)).toUInt32 % 65536).toInt32 = nI (wch s j) := c1
  have c2 : vp_nar .char (nI (wch s j)) = nI (wch s j) := c2
  unfold f_J0_charAt_5068e f_J0_isLatin1_aae02 f_J1_charAt_3b067 f_J0_checkIndex_df160 f_J3_checkIndex_8e157
  rw [gd_t hs, if_neg (by decide), gd_t hs, if_pos rfl, bdS, if_neg (by decide), gd_t hs, gd_t hs, if_neg (nI_pos (by omega)), e1, if_pos (show nI j < Int32.ofNat (wln s) from nI_lt hj (by omega)), bdS, bdS, gd_t hs, gI hj (by omega), nI_clamp (by omega), c1, gd_t c2, bdS, gd_t c2]
theorem wch_lt {s j : Nat} (hs : s < 7) (hj : j < wln s) : wch s j < 128 := by
  obtain ⟨-, e2, -⟩ := wl_all ⟨s, hs⟩
  have e2 : wln s ≤ 6 := e2
  exact (wc_all ⟨s, hs⟩ ⟨j, by omega⟩ hj).2.2
/-- a word, from its letter j on -/
def wrd (t : Nat → Nat) (s : Nat) : Nat → Nat → Nat → Bool × Nat
  | 0, _, p => (true, p)
  | r + 1, j, p => if t p = wch s j then wrd t s r (j + 1) (p + 1) else (false, p)
theorem wrd_le {T : Nat} {b : Nat → Nat} {s : Nat} (hs : s < 7) : ∀ r j p, j + r = wln s → p ≤ T → (wrd (tpF2 T b) s r j p).2 ≤ T
  | 0, _, p, _, hp => hp
  | r + 1, j, p, hj, hp => by
    unfold wrd
    by_cases e : tpF2 T b p = wch s j
    · rw [if_pos e]
      have hp2 : p < T := by
        refine Classical.byContradiction (fun q => ?_)
        unfold tpF2 at e
        rw [if_neg q] at e
        have := wch_lt hs (show j < wln s by omega)
        omega
      exact wrd_le hs r (j + 1) (p + 1) (by omega) (by omega)
    · rw [if_neg e]; exact hp
theorem TC_p {T : Nat} {b : Nat → Nat} (hT : TC T b i) (v : Int32) : TC T b (u2 i 8 2 v) := ⟨hT.1, by rw [u2_k _ _ (by decide)]; exact hT.2.1, fun j hj => ⟨(hT.2.2 j hj).1, by rw [u2_p _ _ (by decide)]; exact (hT.2.2 j hj).2⟩⟩
theorem reads_E {T : Nat} {b : Nat → Nat} (hT : TC T b i) {s : Nat} (hs : s < 7) : ∀ r j p m, j + r = wln s → r < m → p ≤ T → f_X7_reads_l2 m 8 s (nI j) (mkS n z L (u2 i 8 2 (nI p)) l) = some (bI (wrd (tpF2 T b) s r j p).1, mkS n z L (u2 i 8 2 (nI (wrd (tpF2 T b) s r j p).2)) l) := by
  have h120 := hT.1
  have h6 : wln s ≤ 6 := (wl_all ⟨s, hs⟩).2.1
  intro r
  induction r with
  | zero =>
    intro j p m hj hm hp
    obtain ⟨m, rfl⟩ : ∃ m', m = m' + 1 := ⟨m - 1, by omega⟩
    rw [f_X7_reads_l2_s, gd_t hs, len_E hs, bdS, if_pos (nI_le (by omega) (by omega))]
    rfl
  | succ r ih =>
    intro j p m hj hm hp
    obtain ⟨m, rfl⟩ : ∃ m', m = m' + 1 := ⟨m - 1, by omega⟩
    have hjl : j < wln s := by omega
    have hc := wch_lt hs hjl
    rw [f_X7_reads_l2_s, gd_t hs, len_E hs, bdS, if_neg (nI_ge hjl (by omega))]
    simp only [mI, mL, mZ, msI, msL, mN1020, gC1, mR1_0, mR1_1, mR1_2, mR1_3, mR1_4, mR1_5, mR1_6, mR1_7, mR1_8, gC2, mR2_6, mR2_7, gC3, mN3, gC4, mN4, gC5, mR5_0, mR5_1, gC6, mN6, gC7, mR7_0, mR7_1, gC8, mR8_0, gC9, mN9, gC10, mR10_0, gC11, mN11, mR11_0, mR11_1, mR11_2, mR11_3, mR11_4, mR11_5, gC12, mR12_0, mR12_1, gC13, mN13, gC14, mN14, gC15, mR15_0, mR15_1, gC16, mN16, gC17, mN17, gC18, mR18_0, mR18_1, gC19, mN19, gC20, mN20, gC21, mR21_0, mR21_1, gC22, mN22, gC23, mN23, gC24, mR24_0, mR24_1, gC25, mN25, gC26, mN26, gC27, mR27_0, mR27_1, gC28, mN28, gC29, mN29, gC30, mR30_0, gC31, mN31, mR31_0, mR31_1, mR31_2, mR31_3, mR31_4, mR31_5, gC32, mR32_0, mR32_1, gC33, mN33, gC34, mN34, gC35, mR35_0, mR35_1, gC36, mN36, gC37, mN37, gC38, mR38_0, mR38_1, gC39, mN39, gC40, mN40, gC41, mR41_0, mR41_1, gC42, mN42, gC43, mN43, gC44, mR44_0, mR44_1, gC45, mN45, gC46, mN46, gC47, mR47_0, mR47_1, gC48, mN48, gC49, mN49, gC50, mR50_0, mR50_1, mR50_2, mR50_3, gC51, mN51, gC52, mN52, gC53, mN53, gC54, mN54, gC55, gC56, gC57, mR57_2, mR57_3, mR57_6, mR57_7, mR57_8, mR57_9, mR57_10, mR57_11, mR57_12, mR57_13, mR57_14, mR57_15, mR57_16, mR57_18, mR57_19, mR57_20, mR57_21, mR57_22, mR57_23, mR57_25, mR57_26, mR57_27, mR57_28, mR57_37, mR57_40, mR57_41, mR57_43, mR57_44, mR57_48, mR57_49, gC58, mN58, gC59, mN59, gC60, mN60, gC61, mN61, gC62, mN62, gC63, mN63, gC64, mN64, gC65, mN65, gC66, mN66, gC67, mN67, gC68, mN68, gC69, mN69, gC70, mN70, gC71, mN71, gC72, mN72, gC73, mN73, gC74, mN74, gC75, mN75, gC76, mN76, gC77, mN77, gC78, mN78, gC79, mN79, gC80, mN80, gC81, mN81, gC82, mN82, gC83, mN83, gC84, mN84, gC85, mN85, gC86, mN86, gC87, mN87, atEnd_E (TC_p hT (nI p)) (show p ≤ 120 by omega) (u2_s _ _ _ _), bdS, bI_e0, u2_s, nI_clamp (show p < 2 ^ 31 by omega), charAt_E hs hjl, lt1E, u2_u2, nI_1, gd_t hs]
    unfold wrd
    by_cases e : T ≤ p
    · rw [decide_eq_true e, if_neg (by decide), if_neg (show ¬ tpF2 T b p = wch s j by unfold tpF2; rw [if_neg (by omega)]; omega)]
      rfl
    · have hv := hT.2.2 p (by omega)
      rw [decide_eq_false e, if_pos rfl, gI (show p < 120 by omega) (by omega), u2_p _ _ (show (9 : Nat) ≠ 8 by decide), hv.2]
      have ep : tpF2 T b p = b p := if_pos (by omega)
      rw [ep]
      by_cases e2 : b p = wch s j
      · rw [if_pos (by rw [sb_ch hv.1 hc]; exact e2), if_pos e2]
        exact ih (j + 1) (p + 1) m (by omega) (by omega) (by omega)
      · rw [if_neg (by rw [sb_ch hv.1 hc]; exact e2), if_neg e2]
        rfl
/-! numbers -/
def dgB (c : Nat) (g : Nat) : Bool := decide (48 ≤ c ∧ c ≤ g)
def nmR (t : Nat → Nat) : Nat → Nat → Nat → Nat × Nat
  | 0, p, v => (p, v)
  | k + 1, p, v => if dgB (t p) 57 = true then nmR t k (p + 1) (10 * v + t p - 48) else (p, v)
theorem tp_dg {T p g : Nat} {b : Nat → Nat} (hg : g < 128) (h : dgB (tpF2 T b p) g = true) : p < T ∧ tpF2 T b p = b p := by
  have h := of_decide_eq_true h
  have hp : p < T := by
    refine Classical.byContradiction (fun q => ?_)
    unfold tpF2 at h
    rw [if_neg q] at h
    omega
  exact ⟨hp, if_pos hp⟩
theorem digit_E {T p g : Nat} {b : Nat → Nat} (hT : TC T b i) (hp : p ≤ T) (h2 : i 8 2 = nI p) (hg : g < 128) : f_X7_isDigitHere 8 (nI g) (mkS n z L i l) = some (bI (dgB (tpF2 T b p) g), mkS n z L i l) := by
  have h120 := hT.1
  simp only [f_X7_isDigitHere, mI, mL, mZ, msI, msL, mN1020, gC1, mR1_0, mR1_1, mR1_2, mR1_3, mR1_4, mR1_5, mR1_6, mR1_7, mR1_8, gC2, mR2_6, mR2_7, gC3, mN3, gC4, mN4, gC5, mR5_0, mR5_1, gC6, mN6, gC7, mR7_0, mR7_1, gC8, mR8_0, gC9, mN9, gC10, mR10_0, gC11, mN11, mR11_0, mR11_1, mR11_2, mR11_3, mR11_4, mR11_5, gC12, mR12_0, mR12_1, gC13, mN13, gC14, mN14, gC15, mR15_0, mR15_1, gC16, mN16, gC17, mN17, gC18, mR18_0, mR18_1, gC19, mN19, gC20, mN20, gC21, mR21_0, mR21_1, gC22, mN22, gC23, mN23, gC24, mR24_0, mR24_1, gC25, mN25, gC26, mN26, gC27, mR27_0, mR27_1, gC28, mN28, gC29, mN29, gC30, mR30_0, gC31, mN31, mR31_0, mR31_1, mR31_2, mR31_3, mR31_4, mR31_5, gC32, mR32_0, mR32_1, gC33, mN33, gC34, mN34, gC35, mR35_0, mR35_1, gC36, mN36, gC37, mN37, gC38, mR38_0, mR38_1, gC39, mN39, gC40, mN40, gC41, mR41_0, mR41_1, gC42, mN42, gC43, mN43, gC44, mR44_0, mR44_1, gC45, mN45, gC46, mN46, gC47, mR47_0, mR47_1, gC48, mN48, gC49, mN49, gC50, mR50_0, mR50_1, mR50_2, mR50_3, gC51, mN51, gC52, mN52, gC53, mN53, gC54, mN54, gC55, gC56, gC57, mR57_2, mR57_3, mR57_6, mR57_7, mR57_8, mR57_9, mR57_10, mR57_11, mR57_12, mR57_13, mR57_14, mR57_15, mR57_16, mR57_18, mR57_19, mR57_20, mR57_21, mR57_22, mR57_23, mR57_25, mR57_26, mR57_27, mR57_28, mR57_37, mR57_40, mR57_41, mR57_43, mR57_44, mR57_48, mR57_49, gC58, mN58, gC59, mN59, gC60, mN60, gC61, mN61, gC62, mN62, gC63, mN63, gC64, mN64, gC65, mN65, gC66, mN66, gC67, mN67, gC68, mN68, gC69, mN69, gC70, mN70, gC71, mN71, gC72, mN72, gC73, mN73, gC74, mN74, gC75, mN75, gC76, mN76, gC77, mN77, gC78, mN78, gC79, mN79, gC80, mN80, gC81, mN81, gC82, mN82, gC83, mN83, gC84, mN84, gC85, mN85, gC86, mN86, gC87, mN87, atEnd_E hT (show p ≤ 120 by omega) h2, bdS, bI_e0, h2, nI_clamp (show p < 2 ^ 31 by omega)]
  by_cases e : T ≤ p
  · have : tpF2 T b p = 999 := if_neg (by omega)
    rw [decide_eq_true e, if_neg (by decide), this]
    unfold dgB
    rw [decide_eq_false (by omega)]
    rfl
  · have hv := hT.2.2 p (by omega)
    have ep : tpF2 T b p = b p := if_pos (by omega)
    rw [decide_eq_false e, if_pos rfl, gI (show p < 120 by omega) (by omega), hv.2, ep]
    unfold dgB
    by_cases h : b p < 128
    · rw [sb_lo h]
      by_cases e1 : 48 ≤ b p
      · rw [if_neg (by rw [show (48 : Int32) = nI 48 from rfl, nI_ltI (by omega) (by omega)]; omega)]
        by_cases e2 : b p ≤ g
        · rw [if_neg (by rw [nI_ltI (by omega) (by omega)]; omega), decide_eq_true ⟨e1, e2⟩]; rfl
        · rw [if_pos (by rw [nI_ltI (by omega) (by omega)]; omega), decide_eq_false (fun q => e2 q.2)]; rfl
      · rw [if_pos (by rw [show (48 : Int32) = nI 48 from rfl, nI_ltI (by omega) (by omega)]; omega), decide_eq_false (fun q => e1 q.1)]; rfl
    · have := sb_hi h hv.1
      rw [if_pos (Int32.lt_trans this (by decide)), decide_eq_false (fun q => by omega)]; rfl
theorem nmR_le {T : Nat} {b : Nat → Nat} : ∀ k p v, p ≤ T → (nmR (tpF2 T b) k p v).1 ≤ T
  | 0, p, v, hp => hp
  | k + 1, p, v, hp => by
    unfold nmR
    by_cases e : dgB (tpF2 T b p) 57 = true
    · rw [if_pos e]
      have := (tp_dg (by decide) e).1
      exact nmR_le k (p + 1) _ (by omega)
    · rw [if_neg e]; exact hp
theorem nmR_v {t : Nat → Nat} : ∀ k p v, (nmR t k p v).2 < (v + 1) * 10 ^ k
  | 0, p, v => by
    show v < (v + 1) * 10 ^ 0
    omega
  | k + 1, p, v => by
    unfold nmR
    have hp : 1 ≤ 10 ^ k := Nat.pos_of_ne_zero (by simp)
    by_cases e : dgB (t p) 57 = true
    · rw [if_pos e]
      have h := of_decide_eq_true e
      have := nmR_v (t := t) k (p + 1) (10 * v + t p - 48)
      refine Nat.lt_of_lt_of_le this ?_
      rw [Nat.pow_succ, ← Nat.mul_assoc, Nat.mul_right_comm]
      exact Nat.mul_le_mul_right _ (by omega)
    · rw [if_neg e]
      show v < (v + 1) * 10 ^ (k + 1)
      rw [Nat.pow_succ]
      have : (v + 1) * 1 ≤ (v + 1) * (10 ^ k * 10) := Nat.mul_le_mul_left _ (by omega)
      omega
theorem max0 (w : xSt) : f_J9_max_7cf53 (-1) 0 w = some (nI 0, w) := by
  unfold f_J9_max_7cf53
  rw [if_pos (by decide)]
  rfl
theorem maxv {v : Nat} (hv : v < 2 ^ 31) (w : xSt) : f_J9_max_7cf53 (nI v) 0 w = some (nI v, w) := by
  unfold f_J9_max_7cf53
  rw [if_neg (nI_pos hv)]
theorem dig_v {v c : Nat} (hc : 48 ≤ c) : nI v * (10 : Int32) + nI c - (48 : Int32) = nI (10 * v + c - 48) := by
  rw [show (10 : Int32) = nI 10 from rfl, show (48 : Int32) = nI 48 from rfl, pk_mul, nI_add, pk_sub (by omega), Nat.mul_comm v 10]
theorem dig_m {v c : Nat} (hc : 48 ≤ c) : (10 : Int32) * nI v + nI c - (48 : Int32) = nI (10 * v + c - 48) := by
  rw [show (10 : Int32) = nI 10 from rfl, show (48 : Int32) = nI 48 from rfl, pk_mul, nI_add, pk_sub (by omega)]
theorem numC_s {T : Nat} {b : Nat → Nat} (hT : TC T b i) {p q v m : Nat} {x : Int32} (hp : p ≤ T) (hq : q < 3) (hd : dgB (tpF2 T b p) 57 = true) (hx : ∀ w, f_J9_max_7cf53 x 0 w = some (nI v, w)) : f_X7_readNumber_l4 (m + 1) 8 x (nI q) (mkS n z L (u2 i 8 2 (nI p)) l) = f_X7_readNumber_l4 m 8 (nI (10 * v + tpF2 T b p - 48)) (nI (q + 1)) (mkS n z L (u2 i 8 2 (nI (p + 1))) l) := by
  have h120 := hT.1
  obtain ⟨hp2, ep⟩ := tp_dg (by decide) hd
  have hv := hT.2.2 p hp2
  have hc := of_decide_eq_true hd
  rw [ep] at hc ⊢
  rw [f_X7_readNumber_l4_s, if_neg (by rw [show (3 : Int32) = nI 3 from rfl]; exact nI_ge hq (by omega)), show (57 : Int32) = nI 57 from rfl]
  simp only [mI, mL, mZ, msI, msL, mN1020, gC1, mR1_0, mR1_1, mR1_2, mR1_3, mR1_4, mR1_5, mR1_6, mR1_7, mR1_8, gC2, mR2_6, mR2_7, gC3, mN3, gC4, mN4, gC5, mR5_0, mR5_1, gC6, mN6, gC7, mR7_0, mR7_1, gC8, mR8_0, gC9, mN9, gC10, mR10_0, gC11, mN11, mR11_0, mR11_1, mR11_2, mR11_3, mR11_4, mR11_5, gC12, mR12_0, mR12_1, gC13, mN13, gC14, mN14, gC15, mR15_0, mR15_1, gC16, mN16, gC17, mN17, gC18, mR18_0, mR18_1, gC19, mN19, gC20, mN20, gC21, mR21_0, mR21_1, gC22, mN22, gC23, mN23, gC24, mR24_0, mR24_1, gC25, mN25, gC26, mN26, gC27, mR27_0, mR27_1, gC28, mN28, gC29, mN29, gC30, mR30_0, gC31, mN31, mR31_0, mR31_1, mR31_2, mR31_3, mR31_4, mR31_5, gC32, mR32_0, mR32_1, gC33, mN33, gC34, mN34, gC35, mR35_0, mR35_1, gC36, mN36, gC37, mN37, gC38, mR38_0, mR38_1, gC39, mN39, gC40, mN40, gC41, mR41_0, mR41_1, gC42, mN42, gC43, mN43, gC44, mR44_0, mR44_1, gC45, mN45, gC46, mN46, gC47, mR47_0, mR47_1, gC48, mN48, gC49, mN49, gC50, mR50_0, mR50_1, mR50_2, mR50_3, gC51, mN51, gC52, mN52, gC53, mN53, gC54, mN54, gC55, gC56, gC57, mR57_2, mR57_3, mR57_6, mR57_7, mR57_8, mR57_9, mR57_10, mR57_11, mR57_12, mR57_13, mR57_14, mR57_15, mR57_16, mR57_18, mR57_19, mR57_20, mR57_21, mR57_22, mR57_23, mR57_25, mR57_26, mR57_27, mR57_28, mR57_37, mR57_40, mR57_41, mR57_43, mR57_44, mR57_48, mR57_49, gC58, mN58, gC59, mN59, gC60, mN60, gC61, mN61, gC62, mN62, gC63, mN63, gC64, mN64, gC65, mN65, gC66, mN66, gC67, mN67, gC68, mN68, gC69, mN69, gC70, mN70, gC71, mN71, gC72, mN72, gC73, mN73, gC74, mN74, gC75, mN75, gC76, mN76, gC77, mN77, gC78, mN78, gC79, mN79, gC80, mN80, gC81, mN81, gC82, mN82, gC83, mN83, gC84, mN84, gC85, mN85, gC86, mN86, gC87, mN87, digit_E (TC_p hT (nI p)) hp (u2_s _ _ _ _) (show 57 < 128 by decide), hd, bdS, bI_e0, hx, u2_s, nI_clamp (show p < 2 ^ 31 by omega), lt1E, u2_u2, nI_1]
  rw [if_neg (by decide), gI (show p < 120 by omega) (by omega), u2_p _ _ (show (9 : Nat) ≠ 8 by decide), hv.2, sb_lo (by omega), dig_v hc.1]
theorem numC_f {T : Nat} {b : Nat → Nat} (hT : TC T b i) {p q m : Nat} {x : Int32} (hp : p ≤ T) (hd : dgB (tpF2 T b p) 57 = false) : f_X7_readNumber_l4 (m + 1) 8 x (nI q) (mkS n z L (u2 i 8 2 (nI p)) l) = some (x, mkS n z L (u2 i 8 2 (nI p)) l) := by
  rw [f_X7_readNumber_l4_s, show (57 : Int32) = nI 57 from rfl]
  by_cases e : (3 : Int32) ≤ nI q
  · rw [if_pos e]
  · rw [if_neg e]
    simp only [mI, mL, mZ, msI, msL, mN1020, gC1, mR1_0, mR1_1, mR1_2, mR1_3, mR1_4, mR1_5, mR1_6, mR1_7, mR1_8, gC2, mR2_6, mR2_7, gC3, mN3, gC4, mN4, gC5, mR5_0, mR5_1, gC6, mN6, gC7, mR7_0, mR7_1, gC8, mR8_0, gC9, mN9, gC10, mR10_0, gC11, mN11, mR11_0, mR11_1, mR11_2, mR11_3, mR11_4, mR11_5, gC12, mR12_0, mR12_1, gC13, mN13, gC14, mN14, gC15, mR15_0, mR15_1, gC16, mN16, gC17, mN17, gC18, mR18_0, mR18_1, gC19, mN19, gC20, mN20, gC21, mR21_0, mR21_1, gC22, mN22, gC23, mN23, gC24, mR24_0, mR24_1, gC25, mN25, gC26, mN26, gC27, mR27_0, mR27_1, gC28, mN28, gC29, mN29, gC30, mR30_0, gC31, mN31, mR31_0, mR31_1, mR31_2, mR31_3, mR31_4, mR31_5, gC32, mR32_0, mR32_1, gC33, mN33, gC34, mN34, gC35, mR35_0, mR35_1, gC36, mN36, gC37, mN37, gC38, mR38_0, mR38_1, gC39, mN39, gC40, mN40, gC41, mR41_0, mR41_1, gC42, mN42, gC43, mN43, gC44, mR44_0, mR44_1, gC45, mN45, gC46, mN46, gC47, mR47_0, mR47_1, gC48, mN48, gC49, mN49, gC50, mR50_0, mR50_1, mR50_2, mR50_3, gC51, mN51, gC52, mN52, gC53, mN53, gC54, mN54, gC55, gC56, gC57, mR57_2, mR57_3, mR57_6, mR57_7, mR57_8, mR57_9, mR57_10, mR57_11, mR57_12, mR57_13, mR57_14, mR57_15, mR57_16, mR57_18, mR57_19, mR57_20, mR57_21, mR57_22, mR57_23, mR57_25, mR57_26, mR57_27, mR57_28, mR57_37, mR57_40, mR57_41, mR57_43, mR57_44, mR57_48, mR57_49, gC58, mN58, gC59, mN59, gC60, mN60, gC61, mN61, gC62, mN62, gC63, mN63, gC64, mN64, gC65, mN65, gC66, mN66, gC67, mN67, gC68, mN68, gC69, mN69, gC70, mN70, gC71, mN71, gC72, mN72, gC73, mN73, gC74, mN74, gC75, mN75, gC76, mN76, gC77, mN77, gC78, mN78, gC79, mN79, gC80, mN80, gC81, mN81, gC82, mN82, gC83, mN83, gC84, mN84, gC85, mN85, gC86, mN86, gC87, mN87, digit_E (TC_p hT (nI p)) hp (u2_s _ _ _ _) (show 57 < 128 by decide), hd, bdS, bI_e0, eq_self, if_true]
theorem numC_l {T : Nat} {b : Nat → Nat} (hT : TC T b i) : ∀ k p q v m, q + k = 3 → k < m → p ≤ T → v < 10 ^ q → f_X7_readNumber_l4 m 8 (nI v) (nI q) (mkS n z L (u2 i 8 2 (nI p)) l) = some (nI (nmR (tpF2 T b) k p v).2, mkS n z L (u2 i 8 2 (nI (nmR (tpF2 T b) k p v).1)) l) := by
  intro k
  induction k with
  | zero =>
    intro p q v m hq hm hp hv
    obtain ⟨m, rfl⟩ : ∃ m', m = m' + 1 := ⟨m - 1, by omega⟩
    have e : q = 3 := by omega
    subst e
    rw [f_X7_readNumber_l4_s, if_pos (by decide)]
    rfl
  | succ k ih =>
    intro p q v m hq hm hp hv
    obtain ⟨m, rfl⟩ : ∃ m', m = m' + 1 := ⟨m - 1, by omega⟩
    unfold nmR
    have h3 : (10 : Nat) ^ q ≤ 10 ^ 3 := Nat.pow_le_pow_right (by decide) (by omega)
    have h4 : (10 : Nat) ^ 3 = 1000 := by decide
    cases hd : dgB (tpF2 T b p) 57 with
    | true =>
      rw [numC_s hT hp (by omega) hd (fun w => maxv (by omega) w), if_pos rfl]
      have hc := of_decide_eq_true hd
      exact ih (p + 1) (q + 1) _ m (by omega) (by omega) (by have := (tp_dg (by decide) hd).1; omega) (by rw [Nat.pow_succ]; omega)
    | false => rw [numC_f hT hp hd, if_neg (by decide)]
theorem numC_E {T : Nat} {b : Nat → Nat} (hT : TC T b i) {p : Nat} (hp : p ≤ T) : f_X7_readNumber 8 (mkS n z L (u2 i 8 2 (nI p)) l) = if dgB (tpF2 T b p) 57 = true then some (nI (nmR (tpF2 T b) 3 p 0).2, mkS n z L (u2 i 8 2 (nI (nmR (tpF2 T b) 3 p 0).1)) l) else some (-1, mkS n z L (u2 i 8 2 (nI p)) l) := by
  unfold f_X7_readNumber
  rw [show (0 : Int32) = nI 0 from rfl, show xFu = 999 + 1 from rfl]
  cases hd : dgB (tpF2 T b p) 57 with
  | true =>
    rw [numC_s hT hp (by omega) hd max0, if_pos rfl]
    have hc := of_decide_eq_true hd
    have e : nmR (tpF2 T b) 3 p 0 = nmR (tpF2 T b) 2 (p + 1) (10 * 0 + tpF2 T b p - 48) := if_pos hd
    rw [e]
    exact numC_l hT 2 (p + 1) 1 _ 999 (by omega) (by omega) (by have := (tp_dg (by decide) hd).1; omega) (by omega)
  | false => rw [numC_f hT hp hd, if_neg (by decide)]
/-! the reference's reading: where it is, whether it went wrong, the number told -/
def stM (i : fI) (p : Nat) (wr : Bool) (td : Int32) : fI := fun q j => if q = 57 ∧ j = 45 then nI p else if q = 57 ∧ j = 46 then bI wr else if q = 57 ∧ j = 47 then td else i q j
theorem stM_45 (i : fI) (p : Nat) (wr : Bool) (td : Int32) : stM i p wr td 57 45 = nI p := if_pos ⟨rfl, rfl⟩
theorem stM_46 (i : fI) (p : Nat) (wr : Bool) (td : Int32) : stM i p wr td 57 46 = bI wr := by
  unfold stM
  rw [if_neg (by decide), if_pos ⟨rfl, rfl⟩]
theorem stM_47 (i : fI) (p : Nat) (wr : Bool) (td : Int32) : stM i p wr td 57 47 = td := by
  unfold stM
  rw [if_neg (by decide), if_neg (by decide), if_pos ⟨rfl, rfl⟩]
theorem stM_o (i : fI) (p : Nat) (wr : Bool) (td : Int32) {q j : Nat} (h : ¬ (q = 57 ∧ (j = 45 ∨ j = 46 ∨ j = 47))) : stM i p wr td q j = i q j := by
  unfold stM
  rw [if_neg (by omega), if_neg (by omega), if_neg (by omega)]
theorem stM_p (i : fI) (p p2 : Nat) (wr : Bool) (td : Int32) : u2 (stM i p wr td) 57 45 (nI p2) = stM i p2 wr td := by
  funext q j
  unfold u2 stM
  by_cases e : q = 57 ∧ j = 45
  · rw [if_pos e, if_pos e]
  · rw [if_neg e, if_neg e, if_neg e]
theorem stM_w (i : fI) (p : Nat) (wr w2 : Bool) (td : Int32) : u2 (stM i p wr td) 57 46 (bI w2) = stM i p w2 td := by
  funext q j
  unfold u2 stM
  by_cases e : q = 57 ∧ j = 46
  · rw [if_pos e, if_neg (by omega), if_pos e]
  · rw [if_neg e]
    by_cases e2 : q = 57 ∧ j = 45
    · rw [if_pos e2, if_pos e2]
    · rw [if_neg e2, if_neg e2, if_neg e, if_neg e]
theorem stM_t (i : fI) (p : Nat) (wr : Bool) (td t2 : Int32) : u2 (stM i p wr td) 57 47 t2 = stM i p wr t2 := by
  funext q j
  unfold u2 stM
  by_cases e : q = 57 ∧ j = 47
  · rw [if_pos e, if_neg (by omega), if_neg (by omega), if_pos e]
  · rw [if_neg e]
    by_cases e2 : q = 57 ∧ j = 45
    · rw [if_pos e2, if_pos e2]
    · rw [if_neg e2, if_neg e2]
      by_cases e3 : q = 57 ∧ j = 46
      · rw [if_pos e3, if_pos e3]
      · rw [if_neg e3, if_neg e3, if_neg e, if_neg e]
theorem stM_i (i : fI) (p : Nat) (wr : Bool) (td : Int32) {a k : Nat} (v : Int32) (h : a ≠ 57) : u2 (stM i p wr td) a k v = stM (u2 i a k v) p wr td := by
  funext q j
  by_cases e : q = a ∧ j = k
  · obtain ⟨rfl, rfl⟩ := e
    rw [u2_s, stM_o _ _ _ _ (by omega), u2_s]
  · rw [u2_n _ _ e]
    unfold stM
    rw [u2_n _ _ e]
theorem stM_self {i : fI} {p : Nat} {wr : Bool} {td : Int32} (h1 : i 57 45 = nI p) (h2 : i 57 46 = bI wr) (h3 : i 57 47 = td) : stM i p wr td = i := by
  funext q j
  unfold stM
  by_cases e : q = 57 ∧ j = 45
  · rw [if_pos e, e.1, e.2, h1]
  · rw [if_neg e]
    by_cases e3 : q = 57 ∧ j = 46
    · rw [if_pos e3, e3.1, e3.2, h2]
    · rw [if_neg e3]
      by_cases e4 : q = 57 ∧ j = 47
      · rw [if_pos e4, e4.1, e4.2, h3]
      · rw [if_neg e4]
theorem TM_s {T : Nat} {b : Nat → Nat} (hT : TM T b i) (p : Nat) (wr : Bool) (td : Int32) : TM T b (stM i p wr td) := ⟨hT.1, by rw [stM_o _ _ _ _ (by omega)]; exact hT.2.1, fun j hj => ⟨(hT.2.2 j hj).1, by rw [stM_o _ _ _ _ (by omega)]; exact (hT.2.2 j hj).2⟩⟩
def bvI (c : Nat) : Int32 := if c = 999 then -1 else nI c
theorem byteAt_E {T p : Nat} {b : Nat → Nat} (hT : TM T b i) (hp : p ≤ T) : f_X11_byteAt 57 (nI p) (mkS n z L i l) = some (bvI (tpF2 T b p), mkS n z L i l) := by
  have h120 := hT.1
  simp only [f_X11_byteAt, mI, mL, mZ, msI, msL, mN1020, gC1, mR1_0, mR1_1, mR1_2, mR1_3, mR1_4, mR1_5, mR1_6, mR1_7, mR1_8, gC2, mR2_6, mR2_7, gC3, mN3, gC4, mN4, gC5, mR5_0, mR5_1, gC6, mN6, gC7, mR7_0, mR7_1, gC8, mR8_0, gC9, mN9, gC10, mR10_0, gC11, mN11, mR11_0, mR11_1, mR11_2, mR11_3, mR11_4, mR11_5, gC12, mR12_0, mR12_1, gC13, mN13, gC14, mN14, gC15, mR15_0, mR15_1, gC16, mN16, gC17, mN17, gC18, mR18_0, mR18_1, gC19, mN19, gC20, mN20, gC21, mR21_0, mR21_1, gC22, mN22, gC23, mN23, gC24, mR24_0, mR24_1, gC25, mN25, gC26, mN26, gC27, mR27_0, mR27_1, gC28, mN28, gC29, mN29, gC30, mR30_0, gC31, mN31, mR31_0, mR31_1, mR31_2, mR31_3, mR31_4, mR31_5, gC32, mR32_0, mR32_1, gC33, mN33, gC34, mN34, gC35, mR35_0, mR35_1, gC36, mN36, gC37, mN37, gC38, mR38_0, mR38_1, gC39, mN39, gC40, mN40, gC41, mR41_0, mR41_1, gC42, mN42, gC43, mN43, gC44, mR44_0, mR44_1, gC45, mN45, gC46, mN46, gC47, mR47_0, mR47_1, gC48, mN48, gC49, mN49, gC50, mR50_0, mR50_1, mR50_2, mR50_3, gC51, mN51, gC52, mN52, gC53, mN53, gC54, mN54, gC55, gC56, gC57, mR57_2, mR57_3, mR57_6, mR57_7, mR57_8, mR57_9, mR57_10, mR57_11, mR57_12, mR57_13, mR57_14, mR57_15, mR57_16, mR57_18, mR57_19, mR57_20, mR57_21, mR57_22, mR57_23, mR57_25, mR57_26, mR57_27, mR57_28, mR57_37, mR57_40, mR57_41, mR57_43, mR57_44, mR57_48, mR57_49, gC58, mN58, gC59, mN59, gC60, mN60, gC61, mN61, gC62, mN62, gC63, mN63, gC64, mN64, gC65, mN65, gC66, mN66, gC67, mN67, gC68, mN68, gC69, mN69, gC70, mN70, gC71, mN71, gC72, mN72, gC73, mN73, gC74, mN74, gC75, mN75, gC76, mN76, gC77, mN77, gC78, mN78, gC79, mN79, gC80, mN80, gC81, mN81, gC82, mN82, gC83, mN83, gC84, mN84, gC85, mN85, gC86, mN86, gC87, mN87, hT.2.1, nI_clamp (show p < 2 ^ 31 by omega)]
  by_cases e : T ≤ p
  · have e9 : tpF2 T b p = 999 := if_neg (by omega)
    rw [if_pos (nI_le e (by omega)), e9]
    rfl
  · have hv := hT.2.2 p (by omega)
    have e9 : tpF2 T b p = b p := if_pos (by omega)
    rw [if_neg (nI_ge (by omega) (by omega)), gI (show p < 120 by omega) (by omega), hv.2, e9]
    unfold bvI
    rw [if_neg (by omega)]
theorem tp_rng {T p : Nat} {b : Nat → Nat} (h : ∀ j, j < T → b j < 256) : tpF2 T b p = 999 ∨ tpF2 T b p < 256 := by
  unfold tpF2
  by_cases e : p < T
  · rw [if_pos e]; exact Or.inr (h p e)
  · rw [if_neg e]; exact Or.inl rfl
theorem bvI_eq {c d : Nat} (hc : c = 999 ∨ c < 256) (hd : d < 256) : (bvI c = nI d) = (c = d) := by
  apply propext
  unfold bvI
  by_cases e : c = 999
  · rw [if_pos e]
    constructor
    · intro q; exact absurd q.symm (nI_m1 (by omega))
    · intro q; omega
  · rw [if_neg e, nI_eq (by omega) (by omega)]
theorem must_E {T p c : Nat} {b : Nat → Nat} (hT : TM T b i) (hp : p ≤ T) (hc : c < 256) {x : Int32} (hx : x = nI c) (td : Int32) : f_X11_must 57 x (mkS n z L (stM i p false td) l) = if tpF2 T b p = c then some ((), mkS n z L (stM i (p + 1) false td) l) else some ((), mkS n z L (stM i p true td) l) := by
  subst hx
  simp only [f_X11_must, mI, mL, mZ, msI, msL, mN1020, gC1, mR1_0, mR1_1, mR1_2, mR1_3, mR1_4, mR1_5, mR1_6, mR1_7, mR1_8, gC2, mR2_6, mR2_7, gC3, mN3, gC4, mN4, gC5, mR5_0, mR5_1, gC6, mN6, gC7, mR7_0, mR7_1, gC8, mR8_0, gC9, mN9, gC10, mR10_0, gC11, mN11, mR11_0, mR11_1, mR11_2, mR11_3, mR11_4, mR11_5, gC12, mR12_0, mR12_1, gC13, mN13, gC14, mN14, gC15, mR15_0, mR15_1, gC16, mN16, gC17, mN17, gC18, mR18_0, mR18_1, gC19, mN19, gC20, mN20, gC21, mR21_0, mR21_1, gC22, mN22, gC23, mN23, gC24, mR24_0, mR24_1, gC25, mN25, gC26, mN26, gC27, mR27_0, mR27_1, gC28, mN28, gC29, mN29, gC30, mR30_0, gC31, mN31, mR31_0, mR31_1, mR31_2, mR31_3, mR31_4, mR31_5, gC32, mR32_0, mR32_1, gC33, mN33, gC34, mN34, gC35, mR35_0, mR35_1, gC36, mN36, gC37, mN37, gC38, mR38_0, mR38_1, gC39, mN39, gC40, mN40, gC41, mR41_0, mR41_1, gC42, mN42, gC43, mN43, gC44, mR44_0, mR44_1, gC45, mN45, gC46, mN46, gC47, mR47_0, mR47_1, gC48, mN48, gC49, mN49, gC50, mR50_0, mR50_1, mR50_2, mR50_3, gC51, mN51, gC52, mN52, gC53, mN53, gC54, mN54, gC55, gC56, gC57, mR57_2, mR57_3, mR57_6, mR57_7, mR57_8, mR57_9, mR57_10, mR57_11, mR57_12, mR57_13, mR57_14, mR57_15, mR57_16, mR57_18, mR57_19, mR57_20, mR57_21, mR57_22, mR57_23, mR57_25, mR57_26, mR57_27, mR57_28, mR57_37, mR57_40, mR57_41, mR57_43, mR57_44, mR57_48, mR57_49, gC58, mN58, gC59, mN59, gC60, mN60, gC61, mN61, gC62, mN62, gC63, mN63, gC64, mN64, gC65, mN65, gC66, mN66, gC67, mN67, gC68, mN68, gC69, mN69, gC70, mN70, gC71, mN71, gC72, mN72, gC73, mN73, gC74, mN74, gC75, mN75, gC76, mN76, gC77, mN77, gC78, mN78, gC79, mN79, gC80, mN80, gC81, mN81, gC82, mN82, gC83, mN83, gC84, mN84, gC85, mN85, gC86, mN86, gC87, mN87, stM_45, stM_46, byteAt_E (TM_s hT p false td) hp, bdS, lt1E, nI_1, stM_p, bvI_eq (tp_rng (fun j hj => (hT.2.2 j hj).1)) hc]
  rw [if_pos (show bI false = 0 from rfl), show (1 : Int32) = bI true from rfl, stM_w]
theorem must_w {p : Nat} (x : Int32) (td : Int32) : f_X11_must 57 x (mkS n z L (stM i p true td) l) = some ((), mkS n z L (stM i p true td) l) := by
  simp only [f_X11_must, mI, mL, mZ, msI, msL, mN1020, gC1, mR1_0, mR1_1, mR1_2, mR1_3, mR1_4, mR1_5, mR1_6, mR1_7, mR1_8, gC2, mR2_6, mR2_7, gC3, mN3, gC4, mN4, gC5, mR5_0, mR5_1, gC6, mN6, gC7, mR7_0, mR7_1, gC8, mR8_0, gC9, mN9, gC10, mR10_0, gC11, mN11, mR11_0, mR11_1, mR11_2, mR11_3, mR11_4, mR11_5, gC12, mR12_0, mR12_1, gC13, mN13, gC14, mN14, gC15, mR15_0, mR15_1, gC16, mN16, gC17, mN17, gC18, mR18_0, mR18_1, gC19, mN19, gC20, mN20, gC21, mR21_0, mR21_1, gC22, mN22, gC23, mN23, gC24, mR24_0, mR24_1, gC25, mN25, gC26, mN26, gC27, mR27_0, mR27_1, gC28, mN28, gC29, mN29, gC30, mR30_0, gC31, mN31, mR31_0, mR31_1, mR31_2, mR31_3, mR31_4, mR31_5, gC32, mR32_0, mR32_1, gC33, mN33, gC34, mN34, gC35, mR35_0, mR35_1, gC36, mN36, gC37, mN37, gC38, mR38_0, mR38_1, gC39, mN39, gC40, mN40, gC41, mR41_0, mR41_1, gC42, mN42, gC43, mN43, gC44, mR44_0, mR44_1, gC45, mN45, gC46, mN46, gC47, mR47_0, mR47_1, gC48, mN48, gC49, mN49, gC50, mR50_0, mR50_1, mR50_2, mR50_3, gC51, mN51, gC52, mN52, gC53, mN53, gC54, mN54, gC55, gC56, gC57, mR57_2, mR57_3, mR57_6, mR57_7, mR57_8, mR57_9, mR57_10, mR57_11, mR57_12, mR57_13, mR57_14, mR57_15, mR57_16, mR57_18, mR57_19, mR57_20, mR57_21, mR57_22, mR57_23, mR57_25, mR57_26, mR57_27, mR57_28, mR57_37, mR57_40, mR57_41, mR57_43, mR57_44, mR57_48, mR57_49, gC58, mN58, gC59, mN59, gC60, mN60, gC61, mN61, gC62, mN62, gC63, mN63, gC64, mN64, gC65, mN65, gC66, mN66, gC67, mN67, gC68, mN68, gC69, mN69, gC70, mN70, gC71, mN71, gC72, mN72, gC73, mN73, gC74, mN74, gC75, mN75, gC76, mN76, gC77, mN77, gC78, mN78, gC79, mN79, gC80, mN80, gC81, mN81, gC82, mN82, gC83, mN83, gC84, mN84, gC85, mN85, gC86, mN86, gC87, mN87, stM_46, lt1E]
  rw [if_neg (by decide), show (1 : Int32) = bI true from rfl, stM_w]
theorem numM_l {T : Nat} {b : Nat → Nat} (hT : TM T b i) : ∀ k p q v m, q + k = 3 → k < m → p ≤ T → ∃ q2, f_X11_number_l7 m 57 (nI q) (mkS n z L (stM i p false (nI v)) l) = f_X11_number_b76 57 (nI q2) (mkS n z L (stM i (nmR (tpF2 T b) k p v).1 false (nI (nmR (tpF2 T b) k p v).2)) l) ∧ q ≤ q2 ∧ q2 ≤ 3 ∧ (k ≠ 0 → dgB (tpF2 T b p) 57 = true → q < q2) ∧ (dgB (tpF2 T b p) 57 = false → q2 = q) := by
  intro k
  induction k with
  | zero =>
    intro p q v m hq hm hp
    obtain ⟨m, rfl⟩ : ∃ m', m = m' + 1 := ⟨m - 1, by omega⟩
    have e : q = 3 := by omega
    subst e
    refine ⟨3, ?_, by omega, by omega, fun r => absurd rfl r, fun _ => rfl⟩
    rw [f_X11_number_l7_s]
    simp only [mI, mL, mZ, msI, msL, mN1020, gC1, mR1_0, mR1_1, mR1_2, mR1_3, mR1_4, mR1_5, mR1_6, mR1_7, mR1_8, gC2, mR2_6, mR2_7, gC3, mN3, gC4, mN4, gC5, mR5_0, mR5_1, gC6, mN6, gC7, mR7_0, mR7_1, gC8, mR8_0, gC9, mN9, gC10, mR10_0, gC11, mN11, mR11_0, mR11_1, mR11_2, mR11_3, mR11_4, mR11_5, gC12, mR12_0, mR12_1, gC13, mN13, gC14, mN14, gC15, mR15_0, mR15_1, gC16, mN16, gC17, mN17, gC18, mR18_0, mR18_1, gC19, mN19, gC20, mN20, gC21, mR21_0, mR21_1, gC22, mN22, gC23, mN23, gC24, mR24_0, mR24_1, gC25, mN25, gC26, mN26, gC27, mR27_0, mR27_1, gC28, mN28, gC29, mN29, gC30, mR30_0, gC31, mN31, mR31_0, mR31_1, mR31_2, mR31_3, mR31_4, mR31_5, gC32, mR32_0, mR32_1, gC33, mN33, gC34, mN34, gC35, mR35_0, mR35_1, gC36, mN36, gC37, mN37, gC38, mR38_0, mR38_1, gC39, mN39, gC40, mN40, gC41, mR41_0, mR41_1, gC42, mN42, gC43, mN43, gC44, mR44_0, mR44_1, gC45, mN45, gC46, mN46, gC47, mR47_0, mR47_1, gC48, mN48, gC49, mN49, gC50, mR50_0, mR50_1, mR50_2, mR50_3, gC51, mN51, gC52, mN52, gC53, mN53, gC54, mN54, gC55, gC56, gC57, mR57_2, mR57_3, mR57_6, mR57_7, mR57_8, mR57_9, mR57_10, mR57_11, mR57_12, mR57_13, mR57_14, mR57_15, mR57_16, mR57_18, mR57_19, mR57_20, mR57_21, mR57_22, mR57_23, mR57_25, mR57_26, mR57_27, mR57_28, mR57_37, mR57_40, mR57_41, mR57_43, mR57_44, mR57_48, mR57_49, gC58, mN58, gC59, mN59, gC60, mN60, gC61, mN61, gC62, mN62, gC63, mN63, gC64, mN64, gC65, mN65, gC66, mN66, gC67, mN67, gC68, mN68, gC69, mN69, gC70, mN70, gC71, mN71, gC72, mN72, gC73, mN73, gC74, mN74, gC75, mN75, gC76, mN76, gC77, mN77, gC78, mN78, gC79, mN79, gC80, mN80, gC81, mN81, gC82, mN82, gC83, mN83, gC84, mN84, gC85, mN85, gC86, mN86, gC87, mN87, stM_46]
    rw [if_pos (show bI false = 0 from rfl), if_pos (by decide)]
    rfl
  | succ k ih =>
    intro p q v m hq hm hp
    obtain ⟨m, rfl⟩ : ∃ m', m = m' + 1 := ⟨m - 1, by omega⟩
    have h120 := hT.1
    have ht := tp_rng (p := p) (fun j hj => (hT.2.2 j hj).1)
    have key : ((48 : Int32) ≤ bvI (tpF2 T b p) ∧ bvI (tpF2 T b p) ≤ 57) ↔ dgB (tpF2 T b p) 57 = true := by
      unfold dgB
      rw [decide_eq_true_eq]
      unfold bvI
      rcases ht with e | e
      · rw [if_pos e, e]
        constructor
        · intro r; exact absurd r.1 (by decide)
        · intro r; omega
      · rw [if_neg (by omega), show (48 : Int32) = nI 48 from rfl, show (57 : Int32) = nI 57 from rfl, nI_leI (by omega) (by omega), nI_leI (by omega) (by omega)]
    unfold nmR
    cases hd : dgB (tpF2 T b p) 57 with
    | true =>
      obtain ⟨hp2, ep⟩ := tp_dg (by decide) hd
      have hc := of_decide_eq_true hd
      obtain ⟨q2, a1, a2, a3, -⟩ := ih (p + 1) (q + 1) (10 * v + tpF2 T b p - 48) m (by omega) (by omega) (by omega)
      refine ⟨q2, ?_, by omega, a3, fun _ _ => by omega, fun r => absurd r (by decide)⟩
      rw [if_pos rfl, ← a1, f_X11_number_l7_s]
      simp only [mI, mL, mZ, msI, msL, mN1020, gC1, mR1_0, mR1_1, mR1_2, mR1_3, mR1_4, mR1_5, mR1_6, mR1_7, mR1_8, gC2, mR2_6, mR2_7, gC3, mN3, gC4, mN4, gC5, mR5_0, mR5_1, gC6, mN6, gC7, mR7_0, mR7_1, gC8, mR8_0, gC9, mN9, gC10, mR10_0, gC11, mN11, mR11_0, mR11_1, mR11_2, mR11_3, mR11_4, mR11_5, gC12, mR12_0, mR12_1, gC13, mN13, gC14, mN14, gC15, mR15_0, mR15_1, gC16, mN16, gC17, mN17, gC18, mR18_0, mR18_1, gC19, mN19, gC20, mN20, gC21, mR21_0, mR21_1, gC22, mN22, gC23, mN23, gC24, mR24_0, mR24_1, gC25, mN25, gC26, mN26, gC27, mR27_0, mR27_1, gC28, mN28, gC29, mN29, gC30, mR30_0, gC31, mN31, mR31_0, mR31_1, mR31_2, mR31_3, mR31_4, mR31_5, gC32, mR32_0, mR32_1, gC33, mN33, gC34, mN34, gC35, mR35_0, mR35_1, gC36, mN36, gC37, mN37, gC38, mR38_0, mR38_1, gC39, mN39, gC40, mN40, gC41, mR41_0, mR41_1, gC42, mN42, gC43, mN43, gC44, mR44_0, mR44_1, gC45, mN45, gC46, mN46, gC47, mR47_0, mR47_1, gC48, mN48, gC49, mN49, gC50, mR50_0, mR50_1, mR50_2, mR50_3, gC51, mN51, gC52, mN52, gC53, mN53, gC54, mN54, gC55, gC56, gC57, mR57_2, mR57_3, mR57_6, mR57_7, mR57_8, mR57_9, mR57_10, mR57_11, mR57_12, mR57_13, mR57_14, mR57_15, mR57_16, mR57_18, mR57_19, mR57_20, mR57_21, mR57_22, mR57_23, mR57_25, mR57_26, mR57_27, mR57_28, mR57_37, mR57_40, mR57_41, mR57_43, mR57_44, mR57_48, mR57_49, gC58, mN58, gC59, mN59, gC60, mN60, gC61, mN61, gC62, mN62, gC63, mN63, gC64, mN64, gC65, mN65, gC66, mN66, gC67, mN67, gC68, mN68, gC69, mN69, gC70, mN70, gC71, mN71, gC72, mN72, gC73, mN73, gC74, mN74, gC75, mN75, gC76, mN76, gC77, mN77, gC78, mN78, gC79, mN79, gC80, mN80, gC81, mN81, gC82, mN82, gC83, mN83, gC84, mN84, gC85, mN85, gC86, mN86, gC87, mN87, stM_45, stM_46, stM_47, byteAt_E (TM_s hT p false (nI v)) hp, bdS, in_E, if_b, key, hd, lt1E, stM_t, nI_1, stM_p]
      rw [if_pos (show bI false = 0 from rfl), if_neg (by rw [show (3 : Int32) = nI 3 from rfl]; exact nI_ge (by omega) (by omega)), if_pos trivial]
      have eb : bvI (tpF2 T b p) = nI (tpF2 T b p) := if_neg (by omega)
      rw [eb, dig_m hc.1]
    | false =>
      refine ⟨q, ?_, by omega, by omega, fun _ r => absurd r (by decide), fun _ => rfl⟩
      rw [if_neg (by decide), f_X11_number_l7_s]
      simp only [mI, mL, mZ, msI, msL, mN1020, gC1, mR1_0, mR1_1, mR1_2, mR1_3, mR1_4, mR1_5, mR1_6, mR1_7, mR1_8, gC2, mR2_6, mR2_7, gC3, mN3, gC4, mN4, gC5, mR5_0, mR5_1, gC6, mN6, gC7, mR7_0, mR7_1, gC8, mR8_0, gC9, mN9, gC10, mR10_0, gC11, mN11, mR11_0, mR11_1, mR11_2, mR11_3, mR11_4, mR11_5, gC12, mR12_0, mR12_1, gC13, mN13, gC14, mN14, gC15, mR15_0, mR15_1, gC16, mN16, gC17, mN17, gC18, mR18_0, mR18_1, gC19, mN19, gC20, mN20, gC21, mR21_0, mR21_1, gC22, mN22, gC23, mN23, gC24, mR24_0, mR24_1, gC25, mN25, gC26, mN26, gC27, mR27_0, mR27_1, gC28, mN28, gC29, mN29, gC30, mR30_0, gC31, mN31, mR31_0, mR31_1, mR31_2, mR31_3, mR31_4, mR31_5, gC32, mR32_0, mR32_1, gC33, mN33, gC34, mN34, gC35, mR35_0, mR35_1, gC36, mN36, gC37, mN37, gC38, mR38_0, mR38_1, gC39, mN39, gC40, mN40, gC41, mR41_0, mR41_1, gC42, mN42, gC43, mN43, gC44, mR44_0, mR44_1, gC45, mN45, gC46, mN46, gC47, mR47_0, mR47_1, gC48, mN48, gC49, mN49, gC50, mR50_0, mR50_1, mR50_2, mR50_3, gC51, mN51, gC52, mN52, gC53, mN53, gC54, mN54, gC55, gC56, gC57, mR57_2, mR57_3, mR57_6, mR57_7, mR57_8, mR57_9, mR57_10, mR57_11, mR57_12, mR57_13, mR57_14, mR57_15, mR57_16, mR57_18, mR57_19, mR57_20, mR57_21, mR57_22, mR57_23, mR57_25, mR57_26, mR57_27, mR57_28, mR57_37, mR57_40, mR57_41, mR57_43, mR57_44, mR57_48, mR57_49, gC58, mN58, gC59, mN59, gC60, mN60, gC61, mN61, gC62, mN62, gC63, mN63, gC64, mN64, gC65, mN65, gC66, mN66, gC67, mN67, gC68, mN68, gC69, mN69, gC70, mN70, gC71, mN71, gC72, mN72, gC73, mN73, gC74, mN74, gC75, mN75, gC76, mN76, gC77, mN77, gC78, mN78, gC79, mN79, gC80, mN80, gC81, mN81, gC82, mN82, gC83, mN83, gC84, mN84, gC85, mN85, gC86, mN86, gC87, mN87, stM_45, stM_46, byteAt_E (TM_s hT p false (nI v)) hp, bdS, in_E, if_b, key, hd]
      rw [if_pos (show bI false = 0 from rfl), if_neg (by rw [show (3 : Int32) = nI 3 from rfl]; exact nI_ge (by omega) (by omega)), if_neg (by decide)]
theorem numM_E {T p : Nat} {b : Nat → Nat} (hT : TM T b i) (hp : p ≤ T) (td : Int32) : f_X11_number 57 (mkS n z L (stM i p false td) l) = some ((), mkS n z L (stM i (nmR (tpF2 T b) 3 p 0).1 (!dgB (tpF2 T b p) 57) (nI (nmR (tpF2 T b) 3 p 0).2)) l) := by
  obtain ⟨q2, a1, a2, a3, a4, a5⟩ := numM_l (n := n) (z := z) (L := L) (l := l) hT 3 p 0 0 xFu (by omega) (by unfold xFu; omega) hp
  simp only [f_X11_number, mI, mL, mZ, msI, msL, mN1020, gC1, mR1_0, mR1_1, mR1_2, mR1_3, mR1_4, mR1_5, mR1_6, mR1_7, mR1_8, gC2, mR2_6, mR2_7, gC3, mN3, gC4, mN4, gC5, mR5_0, mR5_1, gC6, mN6, gC7, mR7_0, mR7_1, gC8, mR8_0, gC9, mN9, gC10, mR10_0, gC11, mN11, mR11_0, mR11_1, mR11_2, mR11_3, mR11_4, mR11_5, gC12, mR12_0, mR12_1, gC13, mN13, gC14, mN14, gC15, mR15_0, mR15_1, gC16, mN16, gC17, mN17, gC18, mR18_0, mR18_1, gC19, mN19, gC20, mN20, gC21, mR21_0, mR21_1, gC22, mN22, gC23, mN23, gC24, mR24_0, mR24_1, gC25, mN25, gC26, mN26, gC27, mR27_0, mR27_1, gC28, mN28, gC29, mN29, gC30, mR30_0, gC31, mN31, mR31_0, mR31_1, mR31_2, mR31_3, mR31_4, mR31_5, gC32, mR32_0, mR32_1, gC33, mN33, gC34, mN34, gC35, mR35_0, mR35_1, gC36, mN36, gC37, mN37, gC38, mR38_0, mR38_1, gC39, mN39, gC40, mN40, gC41, mR41_0, mR41_1, gC42, mN42, gC43, mN43, gC44, mR44_0, mR44_1, gC45, mN45, gC46, mN46, gC47, mR47_0, mR47_1, gC48, mN48, gC49, mN49, gC50, mR50_0, mR50_1, mR50_2, mR50_3, gC51, mN51, gC52, mN52, gC53, mN53, gC54, mN54, gC55, gC56, gC57, mR57_2, mR57_3, mR57_6, mR57_7, mR57_8, mR57_9, mR57_10, mR57_11, mR57_12, mR57_13, mR57_14, mR57_15, mR57_16, mR57_18, mR57_19, mR57_20, mR57_21, mR57_22, mR57_23, mR57_25, mR57_26, mR57_27, mR57_28, mR57_37, mR57_40, mR57_41, mR57_43, mR57_44, mR57_48, mR57_49, gC58, mN58, gC59, mN59, gC60, mN60, gC61, mN61, gC62, mN62, gC63, mN63, gC64, mN64, gC65, mN65, gC66, mN66, gC67, mN67, gC68, mN68, gC69, mN69, gC70, mN70, gC71, mN71, gC72, mN72, gC73, mN73, gC74, mN74, gC75, mN75, gC76, mN76, gC77, mN77, gC78, mN78, gC79, mN79, gC80, mN80, gC81, mN81, gC82, mN82, gC83, mN83, gC84, mN84, gC85, mN85, gC86, mN86, gC87, mN87, lt1E, stM_t]
  rw [show (0 : Int32) = nI 0 from rfl, a1]
  simp only [f_X11_number_b76, mI, mL, mZ, msI, msL, mN1020, gC1, mR1_0, mR1_1, mR1_2, mR1_3, mR1_4, mR1_5, mR1_6, mR1_7, mR1_8, gC2, mR2_6, mR2_7, gC3, mN3, gC4, mN4, gC5, mR5_0, mR5_1, gC6, mN6, gC7, mR7_0, mR7_1, gC8, mR8_0, gC9, mN9, gC10, mR10_0, gC11, mN11, mR11_0, mR11_1, mR11_2, mR11_3, mR11_4, mR11_5, gC12, mR12_0, mR12_1, gC13, mN13, gC14, mN14, gC15, mR15_0, mR15_1, gC16, mN16, gC17, mN17, gC18, mR18_0, mR18_1, gC19, mN19, gC20, mN20, gC21, mR21_0, mR21_1, gC22, mN22, gC23, mN23, gC24, mR24_0, mR24_1, gC25, mN25, gC26, mN26, gC27, mR27_0, mR27_1, gC28, mN28, gC29, mN29, gC30, mR30_0, gC31, mN31, mR31_0, mR31_1, mR31_2, mR31_3, mR31_4, mR31_5, gC32, mR32_0, mR32_1, gC33, mN33, gC34, mN34, gC35, mR35_0, mR35_1, gC36, mN36, gC37, mN37, gC38, mR38_0, mR38_1, gC39, mN39, gC40, mN40, gC41, mR41_0, mR41_1, gC42, mN42, gC43, mN43, gC44, mR44_0, mR44_1, gC45, mN45, gC46, mN46, gC47, mR47_0, mR47_1, gC48, mN48, gC49, mN49, gC50, mR50_0, mR50_1, mR50_2, mR50_3, gC51, mN51, gC52, mN52, gC53, mN53, gC54, mN54, gC55, gC56, gC57, mR57_2, mR57_3, mR57_6, mR57_7, mR57_8, mR57_9, mR57_10, mR57_11, mR57_12, mR57_13, mR57_14, mR57_15, mR57_16, mR57_18, mR57_19, mR57_20, mR57_21, mR57_22, mR57_23, mR57_25, mR57_26, mR57_27, mR57_28, mR57_37, mR57_40, mR57_41, mR57_43, mR57_44, mR57_48, mR57_49, gC58, mN58, gC59, mN59, gC60, mN60, gC61, mN61, gC62, mN62, gC63, mN63, gC64, mN64, gC65, mN65, gC66, mN66, gC67, mN67, gC68, mN68, gC69, mN69, gC70, mN70, gC71, mN71, gC72, mN72, gC73, mN73, gC74, mN74, gC75, mN75, gC76, mN76, gC77, mN77, gC78, mN78, gC79, mN79, gC80, mN80, gC81, mN81, gC82, mN82, gC83, mN83, gC84, mN84, gC85, mN85, gC86, mN86, gC87, mN87, stM_46, lt1E]
  rw [if_pos (show bI false = 0 from rfl)]
  cases hd : dgB (tpF2 T b p) 57 with
  | true =>
    rw [if_neg (nI_ne0 (a4 (by decide) hd) (by omega)), show (0 : Int32) = bI false from rfl, stM_w]
    rfl
  | false =>
    rw [a5 hd, if_pos (show nI 0 = 0 from rfl), show (1 : Int32) = bI true from rfl, stM_w]
    rfl
theorem numM_w {p : Nat} (td : Int32) : f_X11_number 57 (mkS n z L (stM i p true td) l) = some ((), mkS n z L (stM i p true 0) l) := by
  simp only [f_X11_number, mI, mL, mZ, msI, msL, mN1020, gC1, mR1_0, mR1_1, mR1_2, mR1_3, mR1_4, mR1_5, mR1_6, mR1_7, mR1_8, gC2, mR2_6, mR2_7, gC3, mN3, gC4, mN4, gC5, mR5_0, mR5_1, gC6, mN6, gC7, mR7_0, mR7_1, gC8, mR8_0, gC9, mN9, gC10, mR10_0, gC11, mN11, mR11_0, mR11_1, mR11_2, mR11_3, mR11_4, mR11_5, gC12, mR12_0, mR12_1, gC13, mN13, gC14, mN14, gC15, mR15_0, mR15_1, gC16, mN16, gC17, mN17, gC18, mR18_0, mR18_1, gC19, mN19, gC20, mN20, gC21, mR21_0, mR21_1, gC22, mN22, gC23, mN23, gC24, mR24_0, mR24_1, gC25, mN25, gC26, mN26, gC27, mR27_0, mR27_1, gC28, mN28, gC29, mN29, gC30, mR30_0, gC31, mN31, mR31_0, mR31_1, mR31_2, mR31_3, mR31_4, mR31_5, gC32, mR32_0, mR32_1, gC33, mN33, gC34, mN34, gC35, mR35_0, mR35_1, gC36, mN36, gC37, mN37, gC38, mR38_0, mR38_1, gC39, mN39, gC40, mN40, gC41, mR41_0, mR41_1, gC42, mN42, gC43, mN43, gC44, mR44_0, mR44_1, gC45, mN45, gC46, mN46, gC47, mR47_0, mR47_1, gC48, mN48, gC49, mN49, gC50, mR50_0, mR50_1, mR50_2, mR50_3, gC51, mN51, gC52, mN52, gC53, mN53, gC54, mN54, gC55, gC56, gC57, mR57_2, mR57_3, mR57_6, mR57_7, mR57_8, mR57_9, mR57_10, mR57_11, mR57_12, mR57_13, mR57_14, mR57_15, mR57_16, mR57_18, mR57_19, mR57_20, mR57_21, mR57_22, mR57_23, mR57_25, mR57_26, mR57_27, mR57_28, mR57_37, mR57_40, mR57_41, mR57_43, mR57_44, mR57_48, mR57_49, gC58, mN58, gC59, mN59, gC60, mN60, gC61, mN61, gC62, mN62, gC63, mN63, gC64, mN64, gC65, mN65, gC66, mN66, gC67, mN67, gC68, mN68, gC69, mN69, gC70, mN70, gC71, mN71, gC72, mN72, gC73, mN73, gC74, mN74, gC75, mN75, gC76, mN76, gC77, mN77, gC78, mN78, gC79, mN79, gC80, mN80, gC81, mN81, gC82, mN82, gC83, mN83, gC84, mN84, gC85, mN85, gC86, mN86, gC87, mN87, lt1E, stM_t]
  rw [show xFu = 999 + 1 from rfl, f_X11_number_l7_s]
  simp only [mI, mL, mZ, msI, msL, mN1020, gC1, mR1_0, mR1_1, mR1_2, mR1_3, mR1_4, mR1_5, mR1_6, mR1_7, mR1_8, gC2, mR2_6, mR2_7, gC3, mN3, gC4, mN4, gC5, mR5_0, mR5_1, gC6, mN6, gC7, mR7_0, mR7_1, gC8, mR8_0, gC9, mN9, gC10, mR10_0, gC11, mN11, mR11_0, mR11_1, mR11_2, mR11_3, mR11_4, mR11_5, gC12, mR12_0, mR12_1, gC13, mN13, gC14, mN14, gC15, mR15_0, mR15_1, gC16, mN16, gC17, mN17, gC18, mR18_0, mR18_1, gC19, mN19, gC20, mN20, gC21, mR21_0, mR21_1, gC22, mN22, gC23, mN23, gC24, mR24_0, mR24_1, gC25, mN25, gC26, mN26, gC27, mR27_0, mR27_1, gC28, mN28, gC29, mN29, gC30, mR30_0, gC31, mN31, mR31_0, mR31_1, mR31_2, mR31_3, mR31_4, mR31_5, gC32, mR32_0, mR32_1, gC33, mN33, gC34, mN34, gC35, mR35_0, mR35_1, gC36, mN36, gC37, mN37, gC38, mR38_0, mR38_1, gC39, mN39, gC40, mN40, gC41, mR41_0, mR41_1, gC42, mN42, gC43, mN43, gC44, mR44_0, mR44_1, gC45, mN45, gC46, mN46, gC47, mR47_0, mR47_1, gC48, mN48, gC49, mN49, gC50, mR50_0, mR50_1, mR50_2, mR50_3, gC51, mN51, gC52, mN52, gC53, mN53, gC54, mN54, gC55, gC56, gC57, mR57_2, mR57_3, mR57_6, mR57_7, mR57_8, mR57_9, mR57_10, mR57_11, mR57_12, mR57_13, mR57_14, mR57_15, mR57_16, mR57_18, mR57_19, mR57_20, mR57_21, mR57_22, mR57_23, mR57_25, mR57_26, mR57_27, mR57_28, mR57_37, mR57_40, mR57_41, mR57_43, mR57_44, mR57_48, mR57_49, gC58, mN58, gC59, mN59, gC60, mN60, gC61, mN61, gC62, mN62, gC63, mN63, gC64, mN64, gC65, mN65, gC66, mN66, gC67, mN67, gC68, mN68, gC69, mN69, gC70, mN70, gC71, mN71, gC72, mN72, gC73, mN73, gC74, mN74, gC75, mN75, gC76, mN76, gC77, mN77, gC78, mN78, gC79, mN79, gC80, mN80, gC81, mN81, gC82, mN82, gC83, mN83, gC84, mN84, gC85, mN85, gC86, mN86, gC87, mN87, stM_46]
  rw [if_neg (by decide)]
  simp only [f_X11_number_b76, mI, mL, mZ, msI, msL, mN1020, gC1, mR1_0, mR1_1, mR1_2, mR1_3, mR1_4, mR1_5, mR1_6, mR1_7, mR1_8, gC2, mR2_6, mR2_7, gC3, mN3, gC4, mN4, gC5, mR5_0, mR5_1, gC6, mN6, gC7, mR7_0, mR7_1, gC8, mR8_0, gC9, mN9, gC10, mR10_0, gC11, mN11, mR11_0, mR11_1, mR11_2, mR11_3, mR11_4, mR11_5, gC12, mR12_0, mR12_1, gC13, mN13, gC14, mN14, gC15, mR15_0, mR15_1, gC16, mN16, gC17, mN17, gC18, mR18_0, mR18_1, gC19, mN19, gC20, mN20, gC21, mR21_0, mR21_1, gC22, mN22, gC23, mN23, gC24, mR24_0, mR24_1, gC25, mN25, gC26, mN26, gC27, mR27_0, mR27_1, gC28, mN28, gC29, mN29, gC30, mR30_0, gC31, mN31, mR31_0, mR31_1, mR31_2, mR31_3, mR31_4, mR31_5, gC32, mR32_0, mR32_1, gC33, mN33, gC34, mN34, gC35, mR35_0, mR35_1, gC36, mN36, gC37, mN37, gC38, mR38_0, mR38_1, gC39, mN39, gC40, mN40, gC41, mR41_0, mR41_1, gC42, mN42, gC43, mN43, gC44, mR44_0, mR44_1, gC45, mN45, gC46, mN46, gC47, mR47_0, mR47_1, gC48, mN48, gC49, mN49, gC50, mR50_0, mR50_1, mR50_2, mR50_3, gC51, mN51, gC52, mN52, gC53, mN53, gC54, mN54, gC55, gC56, gC57, mR57_2, mR57_3, mR57_6, mR57_7, mR57_8, mR57_9, mR57_10, mR57_11, mR57_12, mR57_13, mR57_14, mR57_15, mR57_16, mR57_18, mR57_19, mR57_20, mR57_21, mR57_22, mR57_23, mR57_25, mR57_26, mR57_27, mR57_28, mR57_37, mR57_40, mR57_41, mR57_43, mR57_44, mR57_48, mR57_49, gC58, mN58, gC59, mN59, gC60, mN60, gC61, mN61, gC62, mN62, gC63, mN63, gC64, mN64, gC65, mN65, gC66, mN66, gC67, mN67, gC68, mN68, gC69, mN69, gC70, mN70, gC71, mN71, gC72, mN72, gC73, mN73, gC74, mN74, gC75, mN75, gC76, mN76, gC77, mN77, gC78, mN78, gC79, mN79, gC80, mN80, gC81, mN81, gC82, mN82, gC83, mN83, gC84, mN84, gC85, mN85, gC86, mN86, gC87, mN87, stM_46, lt1E]
  rw [if_neg (by decide), show (1 : Int32) = bI true from rfl, stM_w]
end TAPE
