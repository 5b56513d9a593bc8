section LOST
variable {C R n z L : Nat} {i : fI} {l : fL}
/-! the reference's search for the lost one -/
def FW (g : bS) (i : fI) : Prop := (∀ c, c < 64 → i 87 c = if g.1 c = true then nI (g.2.1 c) else -1) ∧ (∀ a, a < g.2.2.2 → i 83 a = nI (g.2.2.1 a)) ∧ i 57 42 = nI g.2.2.2
def PwB (C n : Nat) (i : fI) (c : Nat) : Bool := (!decide (i 58 c = 2) && !decide (i 58 c = 3)) && decide (sOn C n i c = -1)
theorem PwB_fr {i2 : fI} (f : Fr sZ i i2) (c : Nat) : PwB C n i2 c = PwB C n i c := by
  unfold PwB
  rw [sOn_fr f, f 58 c (by unfold sZ; omega)]
theorem walks_E (h : Rel C R n z i l) {P : Nat → Bool} (hp : ∀ c, c < z → P c = PwB C n i c) {g : bS} {d c : Nat} (hg : FW g i) (hc : c < z) (hst : g.1 c = true → g.2.1 c < 64) (hQ : (pv P d c g).2.2.2 ≤ 64) : ∃ i2, f_X11_walks 57 (nI c) (nI d) (mkS n z L i l) = some ((), mkS n z L i2 l) ∧ FW (pv P d c g) i2 ∧ Fr sZ i i2 := by
  obtain ⟨hD, hE, hK, hB, hG, hN, hF, hV, hA, hX, hT, hU, hJ, hM, hL, hO, hY, hP⟩ := id h
  have hz := zlt hD
  have hc6 : c < 64 := by omega
  unfold pv at hQ ⊢
  by_cases e : g.1 c = true ∨ P c = false
  · rw [if_pos e]
    refine ⟨i, ?_, hg, Fr_rfl⟩
    by_cases e1 : g.1 c = true
    · have v : i 87 c = nI (g.2.1 c) := by rw [hg.1 c hc6, if_pos e1]
      simp only [f_X11_walks, mI, mL, mZ, msI, msL, mN1020, gC1, mR1_0, mR1_1, mR1_2, mR1_3, mR1_4, mR1_5, mR1_6, mR1_7, mR1_8, gC2, mR2_6, mR2_7, gC3, mN3, gC4, mN4, gC5, mR5_0, mR5_1, gC6, mN6, gC7, mR7_0, mR7_1, gC8, mR8_0, gC9, mN9, gC10, mR10_0, gC11, mN11, mR11_0, mR11_1, mR11_2, mR11_3, mR11_4, mR11_5, gC12, mR12_0, mR12_1, gC13, mN13, gC14, mN14, gC15, mR15_0, mR15_1, gC16, mN16, gC17, mN17, gC18, mR18_0, mR18_1, gC19, mN19, gC20, mN20, gC21, mR21_0, mR21_1, gC22, mN22, gC23, mN23, gC24, mR24_0, mR24_1, gC25, mN25, gC26, mN26, gC27, mR27_0, mR27_1, gC28, mN28, gC29, mN29, gC30, mR30_0, gC31, mN31, mR31_0, mR31_1, mR31_2, mR31_3, mR31_4, mR31_5, gC32, mR32_0, mR32_1, gC33, mN33, gC34, mN34, gC35, mR35_0, mR35_1, gC36, mN36, gC37, mN37, gC38, mR38_0, mR38_1, gC39, mN39, gC40, mN40, gC41, mR41_0, mR41_1, gC42, mN42, gC43, mN43, gC44, mR44_0, mR44_1, gC45, mN45, gC46, mN46, gC47, mR47_0, mR47_1, gC48, mN48, gC49, mN49, gC50, mR50_0, mR50_1, mR50_2, mR50_3, gC51, mN51, gC52, mN52, gC53, mN53, gC54, mN54, gC55, gC56, gC57, mR57_2, mR57_3, mR57_6, mR57_7, mR57_8, mR57_9, mR57_10, mR57_11, mR57_12, mR57_13, mR57_14, mR57_15, mR57_16, mR57_18, mR57_19, mR57_20, mR57_21, mR57_22, mR57_23, mR57_25, mR57_26, mR57_27, mR57_28, mR57_37, mR57_40, mR57_41, mR57_43, mR57_44, mR57_48, mR57_49, gC58, mN58, gC59, mN59, gC60, mN60, gC61, mN61, gC62, mN62, gC63, mN63, gC64, mN64, gC65, mN65, gC66, mN66, gC67, mN67, gC68, mN68, gC69, mN69, gC70, mN70, gC71, mN71, gC72, mN72, gC73, mN73, gC74, mN74, gC75, mN75, gC76, mN76, gC77, mN77, gC78, mN78, gC79, mN79, gC80, mN80, gC81, mN81, gC82, mN82, gC83, mN83, gC84, mN84, gC85, mN85, gC86, mN86, gC87, mN87, nI_clamp (show c < 2 ^ 31 by omega), gI (show c < 64 by omega) (show 64 < 2 ^ 31 by omega), v]
      rw [if_neg (nI_m1 (by have := hst e1; omega))]
    · have v : i 87 c = -1 := by rw [hg.1 c hc6, if_neg e1]
      have hq : PwB C n i c = false := by rw [← hp c hc]; exact e.resolve_left e1
      unfold PwB at hq
      simp only [f_X11_walks, mI, mL, mZ, msI, msL, mN1020, gC1, mR1_0, mR1_1, mR1_2, mR1_3, mR1_4, mR1_5, mR1_6, mR1_7, mR1_8, gC2, mR2_6, mR2_7, gC3, mN3, gC4, mN4, gC5, mR5_0, mR5_1, gC6, mN6, gC7, mR7_0, mR7_1, gC8, mR8_0, gC9, mN9, gC10, mR10_0, gC11, mN11, mR11_0, mR11_1, mR11_2, mR11_3, mR11_4, mR11_5, gC12, mR12_0, mR12_1, gC13, mN13, gC14, mN14, gC15, mR15_0, mR15_1, gC16, mN16, gC17, mN17, gC18, mR18_0, mR18_1, gC19, mN19, gC20, mN20, gC21, mR21_0, mR21_1, gC22, mN22, gC23, mN23, gC24, mR24_0, mR24_1, gC25, mN25, gC26, mN26, gC27, mR27_0, mR27_1, gC28, mN28, gC29, mN29, gC30, mR30_0, gC31, mN31, mR31_0, mR31_1, mR31_2, mR31_3, mR31_4, mR31_5, gC32, mR32_0, mR32_1, gC33, mN33, gC34, mN34, gC35, mR35_0, mR35_1, gC36, mN36, gC37, mN37, gC38, mR38_0, mR38_1, gC39, mN39, gC40, mN40, gC41, mR41_0, mR41_1, gC42, mN42, gC43, mN43, gC44, mR44_0, mR44_1, gC45, mN45, gC46, mN46, gC47, mR47_0, mR47_1, gC48, mN48, gC49, mN49, gC50, mR50_0, mR50_1, mR50_2, mR50_3, gC51, mN51, gC52, mN52, gC53, mN53, gC54, mN54, gC55, gC56, gC57, mR57_2, mR57_3, mR57_6, mR57_7, mR57_8, mR57_9, mR57_10, mR57_11, mR57_12, mR57_13, mR57_14, mR57_15, mR57_16, mR57_18, mR57_19, mR57_20, mR57_21, mR57_22, mR57_23, mR57_25, mR57_26, mR57_27, mR57_28, mR57_37, mR57_40, mR57_41, mR57_43, mR57_44, mR57_48, mR57_49, gC58, mN58, gC59, mN59, gC60, mN60, gC61, mN61, gC62, mN62, gC63, mN63, gC64, mN64, gC65, mN65, gC66, mN66, gC67, mN67, gC68, mN68, gC69, mN69, gC70, mN70, gC71, mN71, gC72, mN72, gC73, mN73, gC74, mN74, gC75, mN75, gC76, mN76, gC77, mN77, gC78, mN78, gC79, mN79, gC80, mN80, gC81, mN81, gC82, mN82, gC83, mN83, gC84, mN84, gC85, mN85, gC86, mN86, gC87, mN87, nI_clamp (show c < 2 ^ 31 by omega), gI (show c < 64 by omega) (show 64 < 2 ^ 31 by omega), v, standOnM_E hD hN hV hc, bdS, eq_self, if_true]
      by_cases t2 : i 58 c = 2
      · rw [if_pos t2]
      · rw [if_neg t2]
        by_cases t3 : i 58 c = 3
        · rw [if_pos t3]
        · rw [if_neg t3]
          by_cases t4 : sOn C n i c = -1
          · exfalso
            simp [t2, t3, t4] at hq
          · rw [if_neg t4]
  · rw [if_neg e] at hQ ⊢
    have e1 : ¬ g.1 c = true := fun r => e (Or.inl r)
    have e2 : PwB C n i c = true := by
      rw [← hp c hc]
      cases q : P c with
      | true => rfl
      | false => exact absurd (Or.inr q) e
    unfold PwB at e2
    simp only [Bool.and_eq_true, Bool.not_eq_true', decide_eq_false_iff_not, decide_eq_true_eq] at e2
    obtain ⟨⟨t2, t3⟩, t4⟩ := e2
    have v : i 87 c = -1 := by rw [hg.1 c hc6, if_neg e1]
    have hQ2 : g.2.2.2 < 64 := hQ
    have e42 : u2 i 87 c (nI d) 57 42 = nI g.2.2.2 := by rw [u2_p _ _ (by decide)]; exact hg.2.2
    have e43 : u2 (u2 i 87 c (nI d)) 83 g.2.2.2 (nI c) 57 42 = nI g.2.2.2 := by rw [u2_p _ _ (by decide)]; exact e42
    refine ⟨u2 (u2 (u2 i 87 c (nI d)) 83 g.2.2.2 (nI c)) 57 42 (nI (g.2.2.2 + 1)), ?_, ⟨fun x hx => ?_, fun a ha => ?_, u2_s _ _ _ _⟩, ?_⟩
    · simp only [f_X11_walks, mI, mL, mZ, msI, msL, mN1020, gC1, mR1_0, mR1_1, mR1_2, mR1_3, mR1_4, mR1_5, mR1_6, mR1_7, mR1_8, gC2, mR2_6, mR2_7, gC3, mN3, gC4, mN4, gC5, mR5_0, mR5_1, gC6, mN6, gC7, mR7_0, mR7_1, gC8, mR8_0, gC9, mN9, gC10, mR10_0, gC11, mN11, mR11_0, mR11_1, mR11_2, mR11_3, mR11_4, mR11_5, gC12, mR12_0, mR12_1, gC13, mN13, gC14, mN14, gC15, mR15_0, mR15_1, gC16, mN16, gC17, mN17, gC18, mR18_0, mR18_1, gC19, mN19, gC20, mN20, gC21, mR21_0, mR21_1, gC22, mN22, gC23, mN23, gC24, mR24_0, mR24_1, gC25, mN25, gC26, mN26, gC27, mR27_0, mR27_1, gC28, mN28, gC29, mN29, gC30, mR30_0, gC31, mN31, mR31_0, mR31_1, mR31_2, mR31_3, mR31_4, mR31_5, gC32, mR32_0, mR32_1, gC33, mN33, gC34, mN34, gC35, mR35_0, mR35_1, gC36, mN36, gC37, mN37, gC38, mR38_0, mR38_1, gC39, mN39, gC40, mN40, gC41, mR41_0, mR41_1, gC42, mN42, gC43, mN43, gC44, mR44_0, mR44_1, gC45, mN45, gC46, mN46, gC47, mR47_0, mR47_1, gC48, mN48, gC49, mN49, gC50, mR50_0, mR50_1, mR50_2, mR50_3, gC51, mN51, gC52, mN52, gC53, mN53, gC54, mN54, gC55, gC56, gC57, mR57_2, mR57_3, mR57_6, mR57_7, mR57_8, mR57_9, mR57_10, mR57_11, mR57_12, mR57_13, mR57_14, mR57_15, mR57_16, mR57_18, mR57_19, mR57_20, mR57_21, mR57_22, mR57_23, mR57_25, mR57_26, mR57_27, mR57_28, mR57_37, mR57_40, mR57_41, mR57_43, mR57_44, mR57_48, mR57_49, gC58, mN58, gC59, mN59, gC60, mN60, gC61, mN61, gC62, mN62, gC63, mN63, gC64, mN64, gC65, mN65, gC66, mN66, gC67, mN67, gC68, mN68, gC69, mN69, gC70, mN70, gC71, mN71, gC72, mN72, gC73, mN73, gC74, mN74, gC75, mN75, gC76, mN76, gC77, mN77, gC78, mN78, gC79, mN79, gC80, mN80, gC81, mN81, gC82, mN82, gC83, mN83, gC84, mN84, gC85, mN85, gC86, mN86, gC87, mN87, nI_clamp (show c < 2 ^ 31 by omega), gI (show c < 64 by omega) (show 64 < 2 ^ 31 by omega), v, standOnM_E hD hN hV hc, bdS, eq_self, if_true, if_neg t2, if_neg t3, t4, lt1E, e42, e43, nI_clamp (show g.2.2.2 < 2 ^ 31 by omega), gI hQ2 (show 64 < 2 ^ 31 by omega), nI_1]
    · rw [u2_p _ _ (by decide), u2_p _ _ (by decide)]
      show u2 i 87 c (nI d) 87 x = if upF g.1 c true x = true then nI (upF g.2.1 c d x) else -1
      by_cases ex : x = c
      · subst ex; rw [u2_s, upF_s, upF_s, if_pos rfl]
      · rw [u2_k _ _ ex, upF_n _ _ ex, upF_n _ _ ex]; exact hg.1 x hx
    · have ha2 : a < g.2.2.2 + 1 := ha
      rw [u2_p _ _ (by decide)]
      show u2 (u2 i 87 c (nI d)) 83 g.2.2.2 (nI c) 83 a = nI (upF g.2.2.1 g.2.2.2 c a)
      by_cases ex : a = g.2.2.2
      · subst ex; rw [u2_s, upF_s]
      · rw [u2_k _ _ ex, upF_n _ _ ex, u2_p _ _ (by decide)]; exact hg.2.1 a (by omega)
    · exact Fr_u2 (Fr_u2 (Fr_u2 Fr_rfl (by unfold sZ; omega)) (by unfold sZ; omega)) (by unfold sZ; omega)
theorem wv_E (h : Rel C R n z i l) {S P : Nat → Bool} (hp : ∀ c, c < z → P c = PwB C n i c) {g : bS} {k d b c : Nat} {q : Bool} (hg : FW g i) (hq : q = true → c < z ∧ nbB C b c = true) (h0 : QI C z S P k d g) (h1 : QI C z S P k d (pvI q P d c g)) : ∃ i2, (q = true → f_X11_walks 57 (nI c) (nI d) (mkS n z L i l) = some ((), mkS n z L i2 l)) ∧ (q = false → i2 = i) ∧ FW (pvI q P d c g) i2 ∧ Fr sZ i i2 := by
  have hz := zlt h.1
  have hl := h1.le
  have hl0 := h0.le
  unfold pvI at hl ⊢
  cases q with
  | true =>
    rw [if_pos rfl] at hl ⊢
    obtain ⟨i2, a1, a2, a3⟩ := walks_E (L := L) h hp hg (hq rfl).1 (fun hm => by have := h0.st_le hm; omega) (by omega) (d := d)
    exact ⟨i2, fun _ => a1, fun r => absurd r (by decide), a2, a3⟩
  | false =>
    rw [if_neg (by decide)]
    exact ⟨i, fun r => absurd r (by decide), fun _ => rfl, hg, Fr_rfl⟩
theorem stp_mid (hD : RelD C R z i) {S P : Nat → Bool} {k d b e : Nat} {g : bS} (h : QI C z S P k d g) (hk : k < g.2.2.2) (hb : g.2.2.1 k = b) (he : g.2.1 b + 1 = e) (hd : d ≤ e) : QI C z S P k e (pvI (decide (0 < b % C)) P e (b - 1) g) ∧ QI C z S P k e (pvI (decide (b % C < C - 1)) P e (b + 1) (pvI (decide (0 < b % C)) P e (b - 1) g)) ∧ QI C z S P k e (pvI (decide (C ≤ b)) P e (b - C) (pvI (decide (b % C < C - 1)) P e (b + 1) (pvI (decide (0 < b % C)) P e (b - 1) g))) ∧ QI C z S P k e (stp C R P e b g) := by
  have hbz : b < z := by rw [← hb]; exact (h.qa k hk).1
  have hbm : g.1 b = true := by rw [← hb]; exact (h.qa k hk).2
  have heQ : e ≤ g.2.2.2 := by
    have := h.qi k hk
    rw [hb] at this
    omega
  obtain ⟨n1, n2, n3, n4⟩ := nb4 hD hbz
  have h0 := h.up hd
  unfold stp
  obtain ⟨a1, a2, a3⟩ := pvI_E (c := b - 1) (q := decide (0 < b % C)) h0 n1 hbz hbm he heQ (by omega)
  refine ⟨a1, ?_⟩
  generalize pvI (decide (0 < b % C)) P e (b - 1) g = g1 at a1 a2 a3 ⊢
  obtain ⟨b1, b2, b3⟩ := pvI_E (c := b + 1) (q := decide (b % C < C - 1)) a1 n2 hbz (a2.2.2 b hbm).1 (by rw [(a2.2.2 b hbm).2]; exact he) (Nat.le_trans heQ a2.1) (by have := a2.1; omega)
  refine ⟨b1, ?_⟩
  generalize pvI (decide (b % C < C - 1)) P e (b + 1) g1 = g2 at b1 b2 b3 ⊢
  have t2 := grow_t a2 b2
  obtain ⟨c1, c2, c3⟩ := pvI_E (c := b - C) (q := decide (C ≤ b)) b1 n3 hbz (t2.2.2 b hbm).1 (by rw [(t2.2.2 b hbm).2]; exact he) (Nat.le_trans heQ t2.1) (by have := t2.1; omega)
  refine ⟨c1, ?_⟩
  generalize pvI (decide (C ≤ b)) P e (b - C) g2 = g3 at c1 c2 c3 ⊢
  have t3 := grow_t t2 c2
  exact (pvI_E (c := b + C) (q := decide (b < C * (R - 1))) c1 n4 hbz (t3.2.2 b hbm).1 (by rw [(t3.2.2 b hbm).2]; exact he) (Nat.le_trans heQ t3.1) (by have := t3.1; omega)).1
theorem look_step (h : Rel C R n z i l) {S P : Nat → Bool} (hp : ∀ c, c < z → P c = PwB C n i c) {g : bS} {k d b e : Nat} (hg : FW g i) (hq : QI C z S P k d g) (hk : k < g.2.2.2) (hb : g.2.2.1 k = b) (he : g.2.1 b + 1 = e) (hd : d ≤ e) (m : Nat) : ∃ i2, f_X11_looks_l54 (m + 1) 57 (nI k) (mkS n z L i l) = f_X11_looks_l54 m 57 (nI (k + 1)) (mkS n z L i2 l) ∧ FW (stp C R P e b g) i2 ∧ Fr sZ i i2 := by
  have hz := zlt h.1
  have hbz : b < z := by rw [← hb]; exact (hq.qa k hk).1
  have hbm : g.1 b = true := by rw [← hb]; exact (hq.qa k hk).2
  have hQz := hq.le
  have hst := hq.st_le hbm
  obtain ⟨q1, q2, q3, q4⟩ := stp_mid h.1 hq hk hb he hd
  obtain ⟨n1, n2, n3, n4⟩ := nb4 h.1 hbz
  obtain ⟨⟨h1, h2, h3, h4, h5⟩, -⟩ := id h.1
  have c1 := CR1 (C := C) (show 1 ≤ R by omega)
  have m1 : b % C < C := Nat.mod_lt _ (by omega)
  have m2 := Nat.mod_le b C
  have hC : ¬ nI C = 0 := nI_ne0 (by omega) (by omega)
  unfold stp at q4 ⊢
  obtain ⟨i1, a1, a2, a3, a4⟩ := wv_E (L := L) h hp hg n1 (hq.up hd) q1
  have r1 := Rel_fr h a4
  generalize pvI (decide (0 < b % C)) P e (b - 1) g = g1 at q1 q2 q3 q4 a3 ⊢
  obtain ⟨i2, b1, b2, b3, b4⟩ := wv_E (L := L) r1 (fun c hc => by rw [PwB_fr a4]; exact hp c hc) a3 n2 q1 q2
  have f2 := Fr_trans a4 b4
  have r2 := Rel_fr h f2
  generalize pvI (decide (b % C < C - 1)) P e (b + 1) g1 = g2 at q2 q3 q4 b3 ⊢
  obtain ⟨i3, c1, c2, c3, c4⟩ := wv_E (L := L) r2 (fun c hc => by rw [PwB_fr f2]; exact hp c hc) b3 n3 q2 q3
  have f3 := Fr_trans f2 c4
  have r3 := Rel_fr h f3
  generalize pvI (decide (C ≤ b)) P e (b - C) g2 = g3 at q3 q4 c3 ⊢
  obtain ⟨i4, d1, d2, d3, d4⟩ := wv_E (L := L) r3 (fun c hc => by rw [PwB_fr f3]; exact hp c hc) c3 n4 q3 q4
  refine ⟨i4, ?_, d3, Fr_trans f3 d4⟩
  have E4 : f_X11_looks_b141 (f_X11_looks_l54 m) 57 (nI k) (nI b) (nI e) (mkS n z L i3 l) = f_X11_looks_l54 m 57 (nI (k + 1)) (mkS n z L i4 l) := by
    simp only [f_X11_looks_b141, mI, mL, mZ, msI, msL, mN1020, gC1, mR1_0, mR1_1, mR1_2, mR1_3, mR1_4, mR1_5, mR1_6, mR1_7, mR1_8, gC2, mR2_6, mR2_7, gC3, mN3, gC4, mN4, gC5, mR5_0, mR5_1, gC6, mN6, gC7, mR7_0, mR7_1, gC8, mR8_0, gC9, mN9, gC10, mR10_0, gC11, mN11, mR11_0, mR11_1, mR11_2, mR11_3, mR11_4, mR11_5, gC12, mR12_0, mR12_1, gC13, mN13, gC14, mN14, gC15, mR15_0, mR15_1, gC16, mN16, gC17, mN17, gC18, mR18_0, mR18_1, gC19, mN19, gC20, mN20, gC21, mR21_0, mR21_1, gC22, mN22, gC23, mN23, gC24, mR24_0, mR24_1, gC25, mN25, gC26, mN26, gC27, mR27_0, mR27_1, gC28, mN28, gC29, mN29, gC30, mR30_0, gC31, mN31, mR31_0, mR31_1, mR31_2, mR31_3, mR31_4, mR31_5, gC32, mR32_0, mR32_1, gC33, mN33, gC34, mN34, gC35, mR35_0, mR35_1, gC36, mN36, gC37, mN37, gC38, mR38_0, mR38_1, gC39, mN39, gC40, mN40, gC41, mR41_0, mR41_1, gC42, mN42, gC43, mN43, gC44, mR44_0, mR44_1, gC45, mN45, gC46, mN46, gC47, mR47_0, mR47_1, gC48, mN48, gC49, mN49, gC50, mR50_0, mR50_1, mR50_2, mR50_3, gC51, mN51, gC52, mN52, gC53, mN53, gC54, mN54, gC55, gC56, gC57, mR57_2, mR57_3, mR57_6, mR57_7, mR57_8, mR57_9, mR57_10, mR57_11, mR57_12, mR57_13, mR57_14, mR57_15, mR57_16, mR57_18, mR57_19, mR57_20, mR57_21, mR57_22, mR57_23, mR57_25, mR57_26, mR57_27, mR57_28, mR57_37, mR57_40, mR57_41, mR57_43, mR57_44, mR57_48, mR57_49, gC58, mN58, gC59, mN59, gC60, mN60, gC61, mN61, gC62, mN62, gC63, mN63, gC64, mN64, gC65, mN65, gC66, mN66, gC67, mN67, gC68, mN68, gC69, mN69, gC70, mN70, gC71, mN71, gC72, mN72, gC73, mN73, gC74, mN74, gC75, mN75, gC76, mN76, gC77, mN77, gC78, mN78, gC79, mN79, gC80, mN80, gC81, mN81, gC82, mN82, gC83, mN83, gC84, mN84, gC85, mN85, gC86, mN86, gC87, mN87, r3.1.2.2.2.2.1, r3.1.2.2.2.2.2, nI_s1 (show 0 < R by omega), pk_mul, nI_add, nI_1]
    by_cases t : b < C * (R - 1)
    · rw [if_neg (by rw [nI_leI (by omega) (by omega)]; omega), d1 (decide_eq_true t), bdS]
    · rw [if_pos (by rw [nI_leI (by omega) (by omega)]; omega), d2 (decide_eq_false t)]
  have E3 : f_X11_looks_b121 (f_X11_looks_l54 m) 57 (nI k) (nI b) (nI e) (mkS n z L i2 l) = f_X11_looks_l54 m 57 (nI (k + 1)) (mkS n z L i4 l) := by
    simp only [f_X11_looks_b121, mI, mL, mZ, msI, msL, mN1020, gC1, mR1_0, mR1_1, mR1_2, mR1_3, mR1_4, mR1_5, mR1_6, mR1_7, mR1_8, gC2, mR2_6, mR2_7, gC3, mN3, gC4, mN4, gC5, mR5_0, mR5_1, gC6, mN6, gC7, mR7_0, mR7_1, gC8, mR8_0, gC9, mN9, gC10, mR10_0, gC11, mN11, mR11_0, mR11_1, mR11_2, mR11_3, mR11_4, mR11_5, gC12, mR12_0, mR12_1, gC13, mN13, gC14, mN14, gC15, mR15_0, mR15_1, gC16, mN16, gC17, mN17, gC18, mR18_0, mR18_1, gC19, mN19, gC20, mN20, gC21, mR21_0, mR21_1, gC22, mN22, gC23, mN23, gC24, mR24_0, mR24_1, gC25, mN25, gC26, mN26, gC27, mR27_0, mR27_1, gC28, mN28, gC29, mN29, gC30, mR30_0, gC31, mN31, mR31_0, mR31_1, mR31_2, mR31_3, mR31_4, mR31_5, gC32, mR32_0, mR32_1, gC33, mN33, gC34, mN34, gC35, mR35_0, mR35_1, gC36, mN36, gC37, mN37, gC38, mR38_0, mR38_1, gC39, mN39, gC40, mN40, gC41, mR41_0, mR41_1, gC42, mN42, gC43, mN43, gC44, mR44_0, mR44_1, gC45, mN45, gC46, mN46, gC47, mR47_0, mR47_1, gC48, mN48, gC49, mN49, gC50, mR50_0, mR50_1, mR50_2, mR50_3, gC51, mN51, gC52, mN52, gC53, mN53, gC54, mN54, gC55, gC56, gC57, mR57_2, mR57_3, mR57_6, mR57_7, mR57_8, mR57_9, mR57_10, mR57_11, mR57_12, mR57_13, mR57_14, mR57_15, mR57_16, mR57_18, mR57_19, mR57_20, mR57_21, mR57_22, mR57_23, mR57_25, mR57_26, mR57_27, mR57_28, mR57_37, mR57_40, mR57_41, mR57_43, mR57_44, mR57_48, mR57_49, gC58, mN58, gC59, mN59, gC60, mN60, gC61, mN61, gC62, mN62, gC63, mN63, gC64, mN64, gC65, mN65, gC66, mN66, gC67, mN67, gC68, mN68, gC69, mN69, gC70, mN70, gC71, mN71, gC72, mN72, gC73, mN73, gC74, mN74, gC75, mN75, gC76, mN76, gC77, mN77, gC78, mN78, gC79, mN79, gC80, mN80, gC81, mN81, gC82, mN82, gC83, mN83, gC84, mN84, gC85, mN85, gC86, mN86, gC87, mN87, r2.1.2.2.2.2.1]
    by_cases t : C ≤ b
    · rw [if_neg (by rw [nI_ltI (by omega) (by omega)]; omega), pk_sub t, c1 (decide_eq_true t), bdS, E4]
    · rw [if_pos (by rw [nI_ltI (by omega) (by omega)]; omega), ← c2 (decide_eq_false t), E4]
  have E2 : f_X11_looks_b97 (f_X11_looks_l54 m) 57 (nI k) (nI b) (nI e) (mkS n z L i1 l) = f_X11_looks_l54 m 57 (nI (k + 1)) (mkS n z L i4 l) := by
    simp only [f_X11_looks_b97, mI, mL, mZ, msI, msL, mN1020, gC1, mR1_0, mR1_1, mR1_2, mR1_3, mR1_4, mR1_5, mR1_6, mR1_7, mR1_8, gC2, mR2_6, mR2_7, gC3, mN3, gC4, mN4, gC5, mR5_0, mR5_1, gC6, mN6, gC7, mR7_0, mR7_1, gC8, mR8_0, gC9, mN9, gC10, mR10_0, gC11, mN11, mR11_0, mR11_1, mR11_2, mR11_3, mR11_4, mR11_5, gC12, mR12_0, mR12_1, gC13, mN13, gC14, mN14, gC15, mR15_0, mR15_1, gC16, mN16, gC17, mN17, gC18, mR18_0, mR18_1, gC19, mN19, gC20, mN20, gC21, mR21_0, mR21_1, gC22, mN22, gC23, mN23, gC24, mR24_0, mR24_1, gC25, mN25, gC26, mN26, gC27, mR27_0, mR27_1, gC28, mN28, gC29, mN29, gC30, mR30_0, gC31, mN31, mR31_0, mR31_1, mR31_2, mR31_3, mR31_4, mR31_5, gC32, mR32_0, mR32_1, gC33, mN33, gC34, mN34, gC35, mR35_0, mR35_1, gC36, mN36, gC37, mN37, gC38, mR38_0, mR38_1, gC39, mN39, gC40, mN40, gC41, mR41_0, mR41_1, gC42, mN42, gC43, mN43, gC44, mR44_0, mR44_1, gC45, mN45, gC46, mN46, gC47, mR47_0, mR47_1, gC48, mN48, gC49, mN49, gC50, mR50_0, mR50_1, mR50_2, mR50_3, gC51, mN51, gC52, mN52, gC53, mN53, gC54, mN54, gC55, gC56, gC57, mR57_2, mR57_3, mR57_6, mR57_7, mR57_8, mR57_9, mR57_10, mR57_11, mR57_12, mR57_13, mR57_14, mR57_15, mR57_16, mR57_18, mR57_19, mR57_20, mR57_21, mR57_22, mR57_23, mR57_25, mR57_26, mR57_27, mR57_28, mR57_37, mR57_40, mR57_41, mR57_43, mR57_44, mR57_48, mR57_49, gC58, mN58, gC59, mN59, gC60, mN60, gC61, mN61, gC62, mN62, gC63, mN63, gC64, mN64, gC65, mN65, gC66, mN66, gC67, mN67, gC68, mN68, gC69, mN69, gC70, mN70, gC71, mN71, gC72, mN72, gC73, mN73, gC74, mN74, gC75, mN75, gC76, mN76, gC77, mN77, gC78, mN78, gC79, mN79, gC80, mN80, gC81, mN81, gC82, mN82, gC83, mN83, gC84, mN84, gC85, mN85, gC86, mN86, gC87, mN87, r1.1.2.2.2.2.1, gd_t hC, nI_s1 (show 0 < C by omega), pk_rem (show b < 2 ^ 31 by omega) (show 0 < C by omega) (show C < 2 ^ 31 by omega), nI_1]
    by_cases t : b % C < C - 1
    · rw [if_neg (by rw [nI_leI (by omega) (by omega)]; omega), b1 (decide_eq_true t), bdS, E3]
    · rw [if_pos (by rw [nI_leI (by omega) (by omega)]; omega), ← b2 (decide_eq_false t), E3]
  have v1 : i 83 k = nI b := by rw [hg.2.1 k hk, hb]
  have v2 : i 87 b = nI (g.2.1 b) := by rw [hg.1 b (by omega), if_pos hbm]
  rw [f_X11_looks_l54_s]
  simp only [mI, mL, mZ, msI, msL, mN1020, gC1, mR1_0, mR1_1, mR1_2, mR1_3, mR1_4, mR1_5, mR1_6, mR1_7, mR1_8, gC2, mR2_6, mR2_7, gC3, mN3, gC4, mN4, gC5, mR5_0, mR5_1, gC6, mN6, gC7, mR7_0, mR7_1, gC8, mR8_0, gC9, mN9, gC10, mR10_0, gC11, mN11, mR11_0, mR11_1, mR11_2, mR11_3, mR11_4, mR11_5, gC12, mR12_0, mR12_1, gC13, mN13, gC14, mN14, gC15, mR15_0, mR15_1, gC16, mN16, gC17, mN17, gC18, mR18_0, mR18_1, gC19, mN19, gC20, mN20, gC21, mR21_0, mR21_1, gC22, mN22, gC23, mN23, gC24, mR24_0, mR24_1, gC25, mN25, gC26, mN26, gC27, mR27_0, mR27_1, gC28, mN28, gC29, mN29, gC30, mR30_0, gC31, mN31, mR31_0, mR31_1, mR31_2, mR31_3, mR31_4, mR31_5, gC32, mR32_0, mR32_1, gC33, mN33, gC34, mN34, gC35, mR35_0, mR35_1, gC36, mN36, gC37, mN37, gC38, mR38_0, mR38_1, gC39, mN39, gC40, mN40, gC41, mR41_0, mR41_1, gC42, mN42, gC43, mN43, gC44, mR44_0, mR44_1, gC45, mN45, gC46, mN46, gC47, mR47_0, mR47_1, gC48, mN48, gC49, mN49, gC50, mR50_0, mR50_1, mR50_2, mR50_3, gC51, mN51, gC52, mN52, gC53, mN53, gC54, mN54, gC55, gC56, gC57, mR57_2, mR57_3, mR57_6, mR57_7, mR57_8, mR57_9, mR57_10, mR57_11, mR57_12, mR57_13, mR57_14, mR57_15, mR57_16, mR57_18, mR57_19, mR57_20, mR57_21, mR57_22, mR57_23, mR57_25, mR57_26, mR57_27, mR57_28, mR57_37, mR57_40, mR57_41, mR57_43, mR57_44, mR57_48, mR57_49, gC58, mN58, gC59, mN59, gC60, mN60, gC61, mN61, gC62, mN62, gC63, mN63, gC64, mN64, gC65, mN65, gC66, mN66, gC67, mN67, gC68, mN68, gC69, mN69, gC70, mN70, gC71, mN71, gC72, mN72, gC73, mN73, gC74, mN74, gC75, mN75, gC76, mN76, gC77, mN77, gC78, mN78, gC79, mN79, gC80, mN80, gC81, mN81, gC82, mN82, gC83, mN83, gC84, mN84, gC85, mN85, gC86, mN86, gC87, mN87, hg.2.2, v1, v2, nI_clamp (show k < 2 ^ 31 by omega), nI_clamp (show b < 2 ^ 31 by omega), gI (show k < 64 by omega) (show 64 < 2 ^ 31 by omega), gI (show b < 64 by omega) (show 64 < 2 ^ 31 by omega), h.1.2.2.2.2.1, gd_t hC, pk_rem (show b < 2 ^ 31 by omega) (show 0 < C by omega) (show C < 2 ^ 31 by omega), nI_1, he]
  rw [if_neg (nI_ge hk (by omega))]
  by_cases t : 0 < b % C
  · rw [if_neg (by rw [le0_nI (by omega)]; omega), nI_s1 (show 0 < b by omega), a1 (decide_eq_true t), bdS, E2]
  · rw [if_pos (by rw [le0_nI (by omega)]; omega), ← a2 (decide_eq_false t), E2]
/-! clearing a row -/
def clr (i : fI) (p : Nat) (v : Int32) (s : Nat) : fI := fun q j => if q = p ∧ j < s then v else i q j
theorem clr_0 (i : fI) (p : Nat) (v : Int32) : clr i p v 0 = i := by
  funext q j
  exact if_neg (by omega)
theorem clr_s (i : fI) (p : Nat) (v : Int32) (s : Nat) : u2 (clr i p v s) p s v = clr i p v (s + 1) := by
  funext q j
  unfold u2 clr
  by_cases e : q = p ∧ j = s
  · rw [if_pos e, if_pos (by omega)]
  · rw [if_neg e]
    by_cases e2 : q = p ∧ j < s
    · rw [if_pos e2, if_pos (by omega)]
    · rw [if_neg e2, if_neg (by omega)]
theorem clr_in (i : fI) {p : Nat} (v : Int32) {s j : Nat} (h : j < s) : clr i p v s p j = v := if_pos ⟨rfl, h⟩
theorem clr_o (i : fI) {p : Nat} (v : Int32) {s q j : Nat} (h : q ≠ p) : clr i p v s q j = i q j := if_neg (fun e => h e.1)
def g0L (c0 : Nat) : bS := (fun c => decide (c = c0), fun _ => 0, fun _ => c0, 1)
theorem g0L_Q {P : Nat → Bool} {c0 : Nat} (h : c0 < z) : QI C z (fun c => decide (c = c0)) P 0 0 (g0L c0) := by
  refine ⟨fun a _ => ⟨h, decide_eq_true rfl⟩, fun c hc => ⟨0, Nat.one_pos, ?_⟩, fun a b hab hb => ?_, fun c hc => hc, fun a b _ _ => Nat.le_refl _, fun b _ => Nat.le_refl _, fun a ha => ?_, fun c _ hs => ⟨hs, rfl⟩, fun a _ => Nat.zero_le _⟩
  · exact (of_decide_eq_true hc).symm
  · have : b < 1 := hb
    omega
  · omega
theorem looks_E (h : Rel C R n z i l) {k c0 : Nat} (hk : 0 < k) (hk1 : k ≤ 10) (e1 : i 57 36 = nI k) (hc : c0 < z) (e2 : i 81 (k - 1) = nI c0) : ∃ i2 g d, f_X11_looks 57 (mkS n z L i l) = some ((), mkS n z L i2 l) ∧ Fr sZ i i2 ∧ FW g i2 ∧ QI C z (fun c => decide (c = c0)) (PwB C n i) g.2.2.2 d g := by
  have hz := zlt h.1
  have fc : Fr sZ i (clr i 87 (-1) 64) := fun p j hp => clr_o _ _ (by unfold sZ at hp; omega)
  have hstart : f_X11_looks_l2 xFu 57 (nI 0) (mkS n z L (clr i 87 (-1) 0) l) = f_X11_looks_l54 xFu 57 (nI 0) (mkS n z L (u2 (u2 (u2 (clr i 87 (-1) 64) 87 c0 0) 83 0 (nI c0)) 57 42 1) l) := by
    refine acc_loopG (fun m a q => f_X11_looks_l2 m 57 a q) (fun s => nI s) (fun s => mkS n z L (clr i 87 (-1) s) l) 64 _ ?_ ?_ 64 0 xFu (by omega) (by unfold xFu; omega)
    · intro m
      show f_X11_looks_l2 (m + 1) 57 (nI 64) _ = _
      have q1 : clr i 87 (-1) 64 57 36 = nI k := by rw [clr_o _ _ (by decide), e1]
      have q2 : clr i 87 (-1) 64 81 (k - 1) = nI c0 := by rw [clr_o _ _ (by decide), e2]
      rw [f_X11_looks_l2_s, if_pos (by decide)]
      simp only [mI, mL, mZ, msI, msL, mN1020, gC1, mR1_0, mR1_1, mR1_2, mR1_3, mR1_4, mR1_5, mR1_6, mR1_7, mR1_8, gC2, mR2_6, mR2_7, gC3, mN3, gC4, mN4, gC5, mR5_0, mR5_1, gC6, mN6, gC7, mR7_0, mR7_1, gC8, mR8_0, gC9, mN9, gC10, mR10_0, gC11, mN11, mR11_0, mR11_1, mR11_2, mR11_3, mR11_4, mR11_5, gC12, mR12_0, mR12_1, gC13, mN13, gC14, mN14, gC15, mR15_0, mR15_1, gC16, mN16, gC17, mN17, gC18, mR18_0, mR18_1, gC19, mN19, gC20, mN20, gC21, mR21_0, mR21_1, gC22, mN22, gC23, mN23, gC24, mR24_0, mR24_1, gC25, mN25, gC26, mN26, gC27, mR27_0, mR27_1, gC28, mN28, gC29, mN29, gC30, mR30_0, gC31, mN31, mR31_0, mR31_1, mR31_2, mR31_3, mR31_4, mR31_5, gC32, mR32_0, mR32_1, gC33, mN33, gC34, mN34, gC35, mR35_0, mR35_1, gC36, mN36, gC37, mN37, gC38, mR38_0, mR38_1, gC39, mN39, gC40, mN40, gC41, mR41_0, mR41_1, gC42, mN42, gC43, mN43, gC44, mR44_0, mR44_1, gC45, mN45, gC46, mN46, gC47, mR47_0, mR47_1, gC48, mN48, gC49, mN49, gC50, mR50_0, mR50_1, mR50_2, mR50_3, gC51, mN51, gC52, mN52, gC53, mN53, gC54, mN54, gC55, gC56, gC57, mR57_2, mR57_3, mR57_6, mR57_7, mR57_8, mR57_9, mR57_10, mR57_11, mR57_12, mR57_13, mR57_14, mR57_15, mR57_16, mR57_18, mR57_19, mR57_20, mR57_21, mR57_22, mR57_23, mR57_25, mR57_26, mR57_27, mR57_28, mR57_37, mR57_40, mR57_41, mR57_43, mR57_44, mR57_48, mR57_49, gC58, mN58, gC59, mN59, gC60, mN60, gC61, mN61, gC62, mN62, gC63, mN63, gC64, mN64, gC65, mN65, gC66, mN66, gC67, mN67, gC68, mN68, gC69, mN69, gC70, mN70, gC71, mN71, gC72, mN72, gC73, mN73, gC74, mN74, gC75, mN75, gC76, mN76, gC77, mN77, gC78, mN78, gC79, mN79, gC80, mN80, gC81, mN81, gC82, mN82, gC83, mN83, gC84, mN84, gC85, mN85, gC86, mN86, gC87, mN87, q1, nI_s1 hk, nI_clamp (show k - 1 < 2 ^ 31 by omega), gI (show k - 1 < 10 by omega) (show 10 < 2 ^ 31 by omega), q2, nI_clamp (show c0 < 2 ^ 31 by omega), gI (show c0 < 64 by omega) (show 64 < 2 ^ 31 by omega), lt1E]
      rw [gd_t (by decide)]
      rfl
    · intro m s hs
      show f_X11_looks_l2 (m + 1) 57 (nI s) _ = f_X11_looks_l2 m 57 (nI (s + 1)) _
      rw [f_X11_looks_l2_s, if_neg (by rw [show (64 : Int32) = nI 64 from rfl]; exact nI_ge hs (by omega))]
      simp only [mI, mL, mZ, msI, msL, mN1020, gC1, mR1_0, mR1_1, mR1_2, mR1_3, mR1_4, mR1_5, mR1_6, mR1_7, mR1_8, gC2, mR2_6, mR2_7, gC3, mN3, gC4, mN4, gC5, mR5_0, mR5_1, gC6, mN6, gC7, mR7_0, mR7_1, gC8, mR8_0, gC9, mN9, gC10, mR10_0, gC11, mN11, mR11_0, mR11_1, mR11_2, mR11_3, mR11_4, mR11_5, gC12, mR12_0, mR12_1, gC13, mN13, gC14, mN14, gC15, mR15_0, mR15_1, gC16, mN16, gC17, mN17, gC18, mR18_0, mR18_1, gC19, mN19, gC20, mN20, gC21, mR21_0, mR21_1, gC22, mN22, gC23, mN23, gC24, mR24_0, mR24_1, gC25, mN25, gC26, mN26, gC27, mR27_0, mR27_1, gC28, mN28, gC29, mN29, gC30, mR30_0, gC31, mN31, mR31_0, mR31_1, mR31_2, mR31_3, mR31_4, mR31_5, gC32, mR32_0, mR32_1, gC33, mN33, gC34, mN34, gC35, mR35_0, mR35_1, gC36, mN36, gC37, mN37, gC38, mR38_0, mR38_1, gC39, mN39, gC40, mN40, gC41, mR41_0, mR41_1, gC42, mN42, gC43, mN43, gC44, mR44_0, mR44_1, gC45, mN45, gC46, mN46, gC47, mR47_0, mR47_1, gC48, mN48, gC49, mN49, gC50, mR50_0, mR50_1, mR50_2, mR50_3, gC51, mN51, gC52, mN52, gC53, mN53, gC54, mN54, gC55, gC56, gC57, mR57_2, mR57_3, mR57_6, mR57_7, mR57_8, mR57_9, mR57_10, mR57_11, mR57_12, mR57_13, mR57_14, mR57_15, mR57_16, mR57_18, mR57_19, mR57_20, mR57_21, mR57_22, mR57_23, mR57_25, mR57_26, mR57_27, mR57_28, mR57_37, mR57_40, mR57_41, mR57_43, mR57_44, mR57_48, mR57_49, gC58, mN58, gC59, mN59, gC60, mN60, gC61, mN61, gC62, mN62, gC63, mN63, gC64, mN64, gC65, mN65, gC66, mN66, gC67, mN67, gC68, mN68, gC69, mN69, gC70, mN70, gC71, mN71, gC72, mN72, gC73, mN73, gC74, mN74, gC75, mN75, gC76, mN76, gC77, mN77, gC78, mN78, gC79, mN79, gC80, mN80, gC81, mN81, gC82, mN82, gC83, mN83, gC84, mN84, gC85, mN85, gC86, mN86, gC87, mN87, nI_clamp (show s < 2 ^ 31 by omega), gI hs (show 64 < 2 ^ 31 by omega), lt1E, clr_s, nI_1]
  rw [clr_0] at hstart
  have fr1 : Fr sZ i (u2 (u2 (u2 (clr i 87 (-1) 64) 87 c0 0) 83 0 (nI c0)) 57 42 1) := Fr_u2 (Fr_u2 (Fr_u2 fc (by unfold sZ; omega)) (by unfold sZ; omega)) (by unfold sZ; omega)
  have fw1 : FW (g0L c0) (u2 (u2 (u2 (clr i 87 (-1) 64) 87 c0 0) 83 0 (nI c0)) 57 42 1) := by
    refine ⟨fun c hc2 => ?_, fun a ha => ?_, u2_s _ _ _ _⟩
    · rw [u2_p _ _ (by decide), u2_p _ _ (by decide)]
      show _ = if decide (c = c0) = true then nI 0 else -1
      by_cases ex : c = c0
      · subst ex; rw [u2_s, if_pos (decide_eq_true rfl)]; rfl
      · rw [u2_k _ _ ex, clr_in _ _ hc2, if_neg (by simpa using ex)]
    · have ha2 : a < 1 := ha
      have : a = 0 := by omega
      subst this
      rw [u2_p _ _ (by decide), u2_s]
      rfl
  obtain ⟨gE, wE, dE, a1, ⟨i2, rfl, a2, a3⟩, a4⟩ := bfs_loop (W := xSt) h.1 (S := fun c => decide (c = c0)) (P := PwB C n i) (fun m a w => f_X11_looks_l54 m 57 a w) (fun g w => ∃ i2, w = mkS n z L i2 l ∧ Fr sZ i i2 ∧ FW g i2) (by
    rintro m g w d ⟨i2, rfl, f2, w2⟩ hq
    show f_X11_looks_l54 (m + 1) 57 (nI g.2.2.2) _ = _
    rw [f_X11_looks_l54_s]
    simp only [mI, mL, mZ, msI, msL, mN1020, gC1, mR1_0, mR1_1, mR1_2, mR1_3, mR1_4, mR1_5, mR1_6, mR1_7, mR1_8, gC2, mR2_6, mR2_7, gC3, mN3, gC4, mN4, gC5, mR5_0, mR5_1, gC6, mN6, gC7, mR7_0, mR7_1, gC8, mR8_0, gC9, mN9, gC10, mR10_0, gC11, mN11, mR11_0, mR11_1, mR11_2, mR11_3, mR11_4, mR11_5, gC12, mR12_0, mR12_1, gC13, mN13, gC14, mN14, gC15, mR15_0, mR15_1, gC16, mN16, gC17, mN17, gC18, mR18_0, mR18_1, gC19, mN19, gC20, mN20, gC21, mR21_0, mR21_1, gC22, mN22, gC23, mN23, gC24, mR24_0, mR24_1, gC25, mN25, gC26, mN26, gC27, mR27_0, mR27_1, gC28, mN28, gC29, mN29, gC30, mR30_0, gC31, mN31, mR31_0, mR31_1, mR31_2, mR31_3, mR31_4, mR31_5, gC32, mR32_0, mR32_1, gC33, mN33, gC34, mN34, gC35, mR35_0, mR35_1, gC36, mN36, gC37, mN37, gC38, mR38_0, mR38_1, gC39, mN39, gC40, mN40, gC41, mR41_0, mR41_1, gC42, mN42, gC43, mN43, gC44, mR44_0, mR44_1, gC45, mN45, gC46, mN46, gC47, mR47_0, mR47_1, gC48, mN48, gC49, mN49, gC50, mR50_0, mR50_1, mR50_2, mR50_3, gC51, mN51, gC52, mN52, gC53, mN53, gC54, mN54, gC55, gC56, gC57, mR57_2, mR57_3, mR57_6, mR57_7, mR57_8, mR57_9, mR57_10, mR57_11, mR57_12, mR57_13, mR57_14, mR57_15, mR57_16, mR57_18, mR57_19, mR57_20, mR57_21, mR57_22, mR57_23, mR57_25, mR57_26, mR57_27, mR57_28, mR57_37, mR57_40, mR57_41, mR57_43, mR57_44, mR57_48, mR57_49, gC58, mN58, gC59, mN59, gC60, mN60, gC61, mN61, gC62, mN62, gC63, mN63, gC64, mN64, gC65, mN65, gC66, mN66, gC67, mN67, gC68, mN68, gC69, mN69, gC70, mN70, gC71, mN71, gC72, mN72, gC73, mN73, gC74, mN74, gC75, mN75, gC76, mN76, gC77, mN77, gC78, mN78, gC79, mN79, gC80, mN80, gC81, mN81, gC82, mN82, gC83, mN83, gC84, mN84, gC85, mN85, gC86, mN86, gC87, mN87, w2.2.2]
    rw [if_pos (Int32.le_refl _)]) (by
    rintro m k2 g w d ⟨i2, rfl, f2, w2⟩ hq hkq hd
    obtain ⟨i3, b1, b2, b3⟩ := look_step (L := L) (Rel_fr h f2) (fun c hc => (PwB_fr f2 c).symm) w2 hq hkq rfl rfl hd m
    exact ⟨_, b1, i3, rfl, Fr_trans f2 b3, b2⟩) z 0 0 (g0L c0) _ xFu (by omega) (by unfold xFu; omega) (g0L_Q hc) ⟨_, rfl, fr1, fw1⟩ (Nat.zero_le _) (fun _ => Nat.zero_le _)
  refine ⟨i2, gE, dE, ?_, a2, a3, a4⟩
  unfold f_X11_looks
  rw [show (0 : Int32) = nI 0 from rfl, hstart]
  exact a1
/-! the class's search -/
theorem free_b (h : Rel C R n z i l) {c : Nat} (hc : c < z) : bt6 ((l 3 0 ||| l 3 1) &&& (cvV l 0 n ^^^ (-1 : Int64))) c = PwB C n i c := by
  obtain ⟨hD, hE, hK, hB, hG, hN, hF, hV, hA, hX, hT, hU, hJ, hM, hL, hO, hY, hP⟩ := id h
  have hz := zlt hD
  obtain ⟨t, t1, t2⟩ := hK.1 c hc
  rw [b6_and, b6_or, b6_not _ (by omega), cvV_b, hK.2 0 (by omega), hK.2 1 (by omega)]
  have e1 : (decide (c < z ∧ i 58 c = nI 0) || decide (c < z ∧ i 58 c = nI 1)) = (!decide (i 58 c = 2) && !decide (i 58 c = 3)) := by
    rw [t2]
    have : t = 0 ∨ t = 1 ∨ t = 2 ∨ t = 3 := by omega
    rcases this with rfl | rfl | rfl | rfl
    · simp [hc]; decide
    · simp [hc]; decide
    · simp [hc]; decide
    · simp [hc]; decide
  have e2 : exB (fun t => !decide (88 + t = 0) && bt6 (l (88 + t) 7) c) n = exB (fun t => onB C i t c) n := exB_cong (fun t ht => by
    rw [cells_E hD hV hA ht]
    have : ¬ 88 + t = 0 := by omega
    simp [hc])
  rw [e1, e2]
  unfold PwB
  congr 1
  rcases sOn_or (C := C) (n := n) (i := i) c with ⟨a, b⟩ | ⟨s, a, b, d⟩
  · rw [exB_f.mpr b, decide_eq_true a]; rfl
  · rw [exB_iff.mpr ⟨s, a, b⟩, d, decide_eq_false (nI_m1 (by have := hN.1; omega))]; rfl
theorem free_lt (h : Rel C R n z i l) {c : Nat} (hc : bt6 ((l 3 0 ||| l 3 1) &&& (cvV l 0 n ^^^ (-1 : Int64))) c = true) : c < z := by
  obtain ⟨hD, hE, hK, hB, hG, hN, hF, hV, hA, hX, hT, hU, hJ, hM, hL, hO, hY, hP⟩ := id h
  rw [b6_and, b6_or, Bool.and_eq_true, Bool.or_eq_true, hK.2 0 (by omega), hK.2 1 (by omega)] at hc
  simp only [decide_eq_true_eq] at hc
  rcases hc.1 with q | q
  · exact q.1
  · exact q.1
theorem where_E (h : Rel C R n z i l) {m q c0 : Nat} (hc : c0 < z) (e1 : i 56 1 = nI c0) (e2 : i 56 2 = nI m) (hm : m ≤ q) (hq : q < 2 ^ 31) : ∃ v, f_X10_whereabouts 1 (nI q) (mkS n z L i l) = some (v, mkS n z L i l) ∧ (∀ c, c < z → bt6 v c = rch C z (fun c => decide (c = c0)) (PwB C n i) (q - m) c) ∧ ∀ c, bt6 v c = true → c < z := by
  obtain ⟨hD, hE, hK, hB, hG, hN, hF, hV, hA, hX, hT, hU, hJ, hM, hL, hO, hY, hP⟩ := id h
  have hz := zlt hD
  obtain ⟨v, v1, v2, v3⟩ := spread_E (n := n) (L := L) (i := i) (l := l) hD hE (x := b1 c0) (t := (l 3 0 ||| l 3 1) &&& (cvV l 0 n ^^^ (-1 : Int64))) (fun c hb => by
    rw [b6_1 (by omega)] at hb
    have := of_decide_eq_true hb
    omega) (fun c hb => free_lt h hb) (k := q - m) (by omega)
  refine ⟨v, ?_, fun c hb => ?_, v3⟩
  · have g1 : ∀ {α : Type} (e : Option α), gd (inR (0 : Int32) 4) e = e := fun e => gd_t (by decide)
    have g2 : ∀ {α : Type} (e : Option α), gd (inR (1 : Int32) 4) e = e := fun e => gd_t (by decide)
    have k0 : (0 : Int32).toNatClampNeg = 0 := by decide
    have k1 : (1 : Int32).toNatClampNeg = 1 := by decide
    simp only [f_X10_whereabouts, f_X0_open, mI, mL, mZ, msI, msL, mN1020, gC1, mR1_0, mR1_1, mR1_2, mR1_3, mR1_4, mR1_5, mR1_6, mR1_7, mR1_8, gC2, mR2_6, mR2_7, gC3, mN3, gC4, mN4, gC5, mR5_0, mR5_1, gC6, mN6, gC7, mR7_0, mR7_1, gC8, mR8_0, gC9, mN9, gC10, mR10_0, gC11, mN11, mR11_0, mR11_1, mR11_2, mR11_3, mR11_4, mR11_5, gC12, mR12_0, mR12_1, gC13, mN13, gC14, mN14, gC15, mR15_0, mR15_1, gC16, mN16, gC17, mN17, gC18, mR18_0, mR18_1, gC19, mN19, gC20, mN20, gC21, mR21_0, mR21_1, gC22, mN22, gC23, mN23, gC24, mR24_0, mR24_1, gC25, mN25, gC26, mN26, gC27, mR27_0, mR27_1, gC28, mN28, gC29, mN29, gC30, mR30_0, gC31, mN31, mR31_0, mR31_1, mR31_2, mR31_3, mR31_4, mR31_5, gC32, mR32_0, mR32_1, gC33, mN33, gC34, mN34, gC35, mR35_0, mR35_1, gC36, mN36, gC37, mN37, gC38, mR38_0, mR38_1, gC39, mN39, gC40, mN40, gC41, mR41_0, mR41_1, gC42, mN42, gC43, mN43, gC44, mR44_0, mR44_1, gC45, mN45, gC46, mN46, gC47, mR47_0, mR47_1, gC48, mN48, gC49, mN49, gC50, mR50_0, mR50_1, mR50_2, mR50_3, gC51, mN51, gC52, mN52, gC53, mN53, gC54, mN54, gC55, gC56, gC57, mR57_2, mR57_3, mR57_6, mR57_7, mR57_8, mR57_9, mR57_10, mR57_11, mR57_12, mR57_13, mR57_14, mR57_15, mR57_16, mR57_18, mR57_19, mR57_20, mR57_21, mR57_22, mR57_23, mR57_25, mR57_26, mR57_27, mR57_28, mR57_37, mR57_40, mR57_41, mR57_43, mR57_44, mR57_48, mR57_49, gC58, mN58, gC59, mN59, gC60, mN60, gC61, mN61, gC62, mN62, gC63, mN63, gC64, mN64, gC65, mN65, gC66, mN66, gC67, mN67, gC68, mN68, gC69, mN69, gC70, mN70, gC71, mN71, gC72, mN72, gC73, mN73, gC74, mN74, gC75, mN75, gC76, mN76, gC77, mN77, gC78, mN78, gC79, mN79, gC80, mN80, gC81, mN81, gC82, mN82, gC83, mN83, gC84, mN84, gC85, mN85, gC86, mN86, gC87, mN87, g1, g2, k0, k1, bdS, covered_E (L := L) (l := l) hN (show 0 ≤ n + 87 by omega), e1, only_E, e2, pk_sub hm, v1]
  · rw [v2 c hb]
    exact rch_cong (fun c2 _ => b6_1 (by omega) c2) (fun c2 hc2 => free_b h hc2) _ c hb
theorem op_canBe (h : Rel C R n z i l) (x y : Int32) : OpOK C R n z L (f_X10_canBe 1 x y) (f_X11_canBe 57 x y) i l := by
  obtain ⟨hD, hE, hK, hB, hG, hN, hF, hV, hA, hX, hT, hU, hJ, hM, hL, hO, hY, hP⟩ := id h
  have h9 := hN.1
  have hz := zlt hD
  obtain ⟨k, k1, k2, k3, k4, k5⟩ := id hL
  rcases ix_em z x with ⟨c, hc, rfl⟩ | hx
  · by_cases e : k = 0
    · subst e
      refine ⟨-3, mkS n z L i l, n, i, l, ?_, ?_, ⟨_, _, rfl, by repeat first | exact Fr_rfl | refine Fr_u2 ?_ (by unfold sQ; omega)⟩, h⟩
      · simp only [f_X10_canBe, f_X10_refusalOfSearch, has_t hD hc, bdS, mI, mL, mZ, msI, msL, mN1020, gC1, mR1_0, mR1_1, mR1_2, mR1_3, mR1_4, mR1_5, mR1_6, mR1_7, mR1_8, gC2, mR2_6, mR2_7, gC3, mN3, gC4, mN4, gC5, mR5_0, mR5_1, gC6, mN6, gC7, mR7_0, mR7_1, gC8, mR8_0, gC9, mN9, gC10, mR10_0, gC11, mN11, mR11_0, mR11_1, mR11_2, mR11_3, mR11_4, mR11_5, gC12, mR12_0, mR12_1, gC13, mN13, gC14, mN14, gC15, mR15_0, mR15_1, gC16, mN16, gC17, mN17, gC18, mR18_0, mR18_1, gC19, mN19, gC20, mN20, gC21, mR21_0, mR21_1, gC22, mN22, gC23, mN23, gC24, mR24_0, mR24_1, gC25, mN25, gC26, mN26, gC27, mR27_0, mR27_1, gC28, mN28, gC29, mN29, gC30, mR30_0, gC31, mN31, mR31_0, mR31_1, mR31_2, mR31_3, mR31_4, mR31_5, gC32, mR32_0, mR32_1, gC33, mN33, gC34, mN34, gC35, mR35_0, mR35_1, gC36, mN36, gC37, mN37, gC38, mR38_0, mR38_1, gC39, mN39, gC40, mN40, gC41, mR41_0, mR41_1, gC42, mN42, gC43, mN43, gC44, mR44_0, mR44_1, gC45, mN45, gC46, mN46, gC47, mR47_0, mR47_1, gC48, mN48, gC49, mN49, gC50, mR50_0, mR50_1, mR50_2, mR50_3, gC51, mN51, gC52, mN52, gC53, mN53, gC54, mN54, gC55, gC56, gC57, mR57_2, mR57_3, mR57_6, mR57_7, mR57_8, mR57_9, mR57_10, mR57_11, mR57_12, mR57_13, mR57_14, mR57_15, mR57_16, mR57_18, mR57_19, mR57_20, mR57_21, mR57_22, mR57_23, mR57_25, mR57_26, mR57_27, mR57_28, mR57_37, mR57_40, mR57_41, mR57_43, mR57_44, mR57_48, mR57_49, gC58, mN58, gC59, mN59, gC60, mN60, gC61, mN61, gC62, mN62, gC63, mN63, gC64, mN64, gC65, mN65, gC66, mN66, gC67, mN67, gC68, mN68, gC69, mN69, gC70, mN70, gC71, mN71, gC72, mN72, gC73, mN73, gC74, mN74, gC75, mN75, gC76, mN76, gC77, mN77, gC78, mN78, gC79, mN79, gC80, mN80, gC81, mN81, gC82, mN82, gC83, mN83, gC84, mN84, gC85, mN85, gC86, mN86, gC87, mN87, k2]
        rw [if_neg (by decide), if_pos (by decide), bdS, if_neg (by decide)]
      · simp only [f_X11_canBe, isCell_t hD hc, bdS, mI, mL, mZ, msI, msL, mN1020, gC1, mR1_0, mR1_1, mR1_2, mR1_3, mR1_4, mR1_5, mR1_6, mR1_7, mR1_8, gC2, mR2_6, mR2_7, gC3, mN3, gC4, mN4, gC5, mR5_0, mR5_1, gC6, mN6, gC7, mR7_0, mR7_1, gC8, mR8_0, gC9, mN9, gC10, mR10_0, gC11, mN11, mR11_0, mR11_1, mR11_2, mR11_3, mR11_4, mR11_5, gC12, mR12_0, mR12_1, gC13, mN13, gC14, mN14, gC15, mR15_0, mR15_1, gC16, mN16, gC17, mN17, gC18, mR18_0, mR18_1, gC19, mN19, gC20, mN20, gC21, mR21_0, mR21_1, gC22, mN22, gC23, mN23, gC24, mR24_0, mR24_1, gC25, mN25, gC26, mN26, gC27, mR27_0, mR27_1, gC28, mN28, gC29, mN29, gC30, mR30_0, gC31, mN31, mR31_0, mR31_1, mR31_2, mR31_3, mR31_4, mR31_5, gC32, mR32_0, mR32_1, gC33, mN33, gC34, mN34, gC35, mR35_0, mR35_1, gC36, mN36, gC37, mN37, gC38, mR38_0, mR38_1, gC39, mN39, gC40, mN40, gC41, mR41_0, mR41_1, gC42, mN42, gC43, mN43, gC44, mR44_0, mR44_1, gC45, mN45, gC46, mN46, gC47, mR47_0, mR47_1, gC48, mN48, gC49, mN49, gC50, mR50_0, mR50_1, mR50_2, mR50_3, gC51, mN51, gC52, mN52, gC53, mN53, gC54, mN54, gC55, gC56, gC57, mR57_2, mR57_3, mR57_6, mR57_7, mR57_8, mR57_9, mR57_10, mR57_11, mR57_12, mR57_13, mR57_14, mR57_15, mR57_16, mR57_18, mR57_19, mR57_20, mR57_21, mR57_22, mR57_23, mR57_25, mR57_26, mR57_27, mR57_28, mR57_37, mR57_40, mR57_41, mR57_43, mR57_44, mR57_48, mR57_49, gC58, mN58, gC59, mN59, gC60, mN60, gC61, mN61, gC62, mN62, gC63, mN63, gC64, mN64, gC65, mN65, gC66, mN66, gC67, mN67, gC68, mN68, gC69, mN69, gC70, mN70, gC71, mN71, gC72, mN72, gC73, mN73, gC74, mN74, gC75, mN75, gC76, mN76, gC77, mN77, gC78, mN78, gC79, mN79, gC80, mN80, gC81, mN81, gC82, mN82, gC83, mN83, gC84, mN84, gC85, mN85, gC86, mN86, gC87, mN87, k3]
        rw [if_neg (by decide), if_pos (by decide)]
    · obtain ⟨⟨c0, hc0, c1, c2⟩, m, m1, m2⟩ := k5 (by omega)
      by_cases e2 : nI m ≤ y
      · have y0 : ¬ y < 0 := fun q => absurd (Int32.lt_of_le_of_lt e2 q) (nI_pos (by omega))
        obtain ⟨q, q1, rfl⟩ := nI_of y0
        have hmq : m ≤ q := (nI_leI (by omega) q1).mp e2
        obtain ⟨v, v1, v2, v3⟩ := where_E (L := L) h hc0 c1 m2 hmq q1
        obtain ⟨i2, g, d, a1, a2, a3, a4⟩ := looks_E (L := L) h (by omega) k1 k3 hc0 c2
        have hr := bfs_fin a4 (q - m) c hc
        have gs : g.1 c = true → g.2.1 c < 64 := fun hm => by
          have := a4.st_le hm
          have := a4.le
          omega
        refine ⟨bI (rch C z (fun c => decide (c = c0)) (PwB C n i) (q - m) c), mkS n z L i l, n, i2, l, ?_, ?_, ⟨_, _, rfl, by repeat first | exact Fr_rfl | refine Fr_u2 ?_ (by unfold sQ; omega)⟩, Rel_fr h a2⟩
        · simp only [f_X10_canBe, f_X10_refusalOfSearch, has_t hD hc, bdS, mI, mL, mZ, msI, msL, mN1020, gC1, mR1_0, mR1_1, mR1_2, mR1_3, mR1_4, mR1_5, mR1_6, mR1_7, mR1_8, gC2, mR2_6, mR2_7, gC3, mN3, gC4, mN4, gC5, mR5_0, mR5_1, gC6, mN6, gC7, mR7_0, mR7_1, gC8, mR8_0, gC9, mN9, gC10, mR10_0, gC11, mN11, mR11_0, mR11_1, mR11_2, mR11_3, mR11_4, mR11_5, gC12, mR12_0, mR12_1, gC13, mN13, gC14, mN14, gC15, mR15_0, mR15_1, gC16, mN16, gC17, mN17, gC18, mR18_0, mR18_1, gC19, mN19, gC20, mN20, gC21, mR21_0, mR21_1, gC22, mN22, gC23, mN23, gC24, mR24_0, mR24_1, gC25, mN25, gC26, mN26, gC27, mR27_0, mR27_1, gC28, mN28, gC29, mN29, gC30, mR30_0, gC31, mN31, mR31_0, mR31_1, mR31_2, mR31_3, mR31_4, mR31_5, gC32, mR32_0, mR32_1, gC33, mN33, gC34, mN34, gC35, mR35_0, mR35_1, gC36, mN36, gC37, mN37, gC38, mR38_0, mR38_1, gC39, mN39, gC40, mN40, gC41, mR41_0, mR41_1, gC42, mN42, gC43, mN43, gC44, mR44_0, mR44_1, gC45, mN45, gC46, mN46, gC47, mR47_0, mR47_1, gC48, mN48, gC49, mN49, gC50, mR50_0, mR50_1, mR50_2, mR50_3, gC51, mN51, gC52, mN52, gC53, mN53, gC54, mN54, gC55, gC56, gC57, mR57_2, mR57_3, mR57_6, mR57_7, mR57_8, mR57_9, mR57_10, mR57_11, mR57_12, mR57_13, mR57_14, mR57_15, mR57_16, mR57_18, mR57_19, mR57_20, mR57_21, mR57_22, mR57_23, mR57_25, mR57_26, mR57_27, mR57_28, mR57_37, mR57_40, mR57_41, mR57_43, mR57_44, mR57_48, mR57_49, gC58, mN58, gC59, mN59, gC60, mN60, gC61, mN61, gC62, mN62, gC63, mN63, gC64, mN64, gC65, mN65, gC66, mN66, gC67, mN67, gC68, mN68, gC69, mN69, gC70, mN70, gC71, mN71, gC72, mN72, gC73, mN73, gC74, mN74, gC75, mN75, gC76, mN76, gC77, mN77, gC78, mN78, gC79, mN79, gC80, mN80, gC81, mN81, gC82, mN82, gC83, mN83, gC84, mN84, gC85, mN85, gC86, mN86, gC87, mN87, k2, m2, if_neg (nI_ne0 (show 0 < k by omega) (by omega)), if_pos e2, v1, only_E, eq_self, if_true, and1_if v (show c < 64 by omega), v2 c hc]
          rw [if_neg (by decide)]
          cases rch C z (fun c => decide (c = c0)) (PwB C n i) (q - m) c <;> rfl
        · have w38 : i2 57 38 = nI m := by rw [a2 57 38 (by unfold sZ; omega), ← k4, m2]
          simp only [f_X11_canBe, isCell_t hD hc, bdS, mI, mL, mZ, msI, msL, mN1020, gC1, mR1_0, mR1_1, mR1_2, mR1_3, mR1_4, mR1_5, mR1_6, mR1_7, mR1_8, gC2, mR2_6, mR2_7, gC3, mN3, gC4, mN4, gC5, mR5_0, mR5_1, gC6, mN6, gC7, mR7_0, mR7_1, gC8, mR8_0, gC9, mN9, gC10, mR10_0, gC11, mN11, mR11_0, mR11_1, mR11_2, mR11_3, mR11_4, mR11_5, gC12, mR12_0, mR12_1, gC13, mN13, gC14, mN14, gC15, mR15_0, mR15_1, gC16, mN16, gC17, mN17, gC18, mR18_0, mR18_1, gC19, mN19, gC20, mN20, gC21, mR21_0, mR21_1, gC22, mN22, gC23, mN23, gC24, mR24_0, mR24_1, gC25, mN25, gC26, mN26, gC27, mR27_0, mR27_1, gC28, mN28, gC29, mN29, gC30, mR30_0, gC31, mN31, mR31_0, mR31_1, mR31_2, mR31_3, mR31_4, mR31_5, gC32, mR32_0, mR32_1, gC33, mN33, gC34, mN34, gC35, mR35_0, mR35_1, gC36, mN36, gC37, mN37, gC38, mR38_0, mR38_1, gC39, mN39, gC40, mN40, gC41, mR41_0, mR41_1, gC42, mN42, gC43, mN43, gC44, mR44_0, mR44_1, gC45, mN45, gC46, mN46, gC47, mR47_0, mR47_1, gC48, mN48, gC49, mN49, gC50, mR50_0, mR50_1, mR50_2, mR50_3, gC51, mN51, gC52, mN52, gC53, mN53, gC54, mN54, gC55, gC56, gC57, mR57_2, mR57_3, mR57_6, mR57_7, mR57_8, mR57_9, mR57_10, mR57_11, mR57_12, mR57_13, mR57_14, mR57_15, mR57_16, mR57_18, mR57_19, mR57_20, mR57_21, mR57_22, mR57_23, mR57_25, mR57_26, mR57_27, mR57_28, mR57_37, mR57_40, mR57_41, mR57_43, mR57_44, mR57_48, mR57_49, gC58, mN58, gC59, mN59, gC60, mN60, gC61, mN61, gC62, mN62, gC63, mN63, gC64, mN64, gC65, mN65, gC66, mN66, gC67, mN67, gC68, mN68, gC69, mN69, gC70, mN70, gC71, mN71, gC72, mN72, gC73, mN73, gC74, mN74, gC75, mN75, gC76, mN76, gC77, mN77, gC78, mN78, gC79, mN79, gC80, mN80, gC81, mN81, gC82, mN82, gC83, mN83, gC84, mN84, gC85, mN85, gC86, mN86, gC87, mN87, k3, ← k4, m2, if_neg (nI_ne0 (show 0 < k by omega) (by omega)), if_pos e2, a1, nI_clamp (show c < 2 ^ 31 by omega), gI (show c < 64 by omega) (show 64 < 2 ^ 31 by omega), w38, pk_sub hmq, a3.1 c (show c < 64 by omega), hr]
          rw [if_neg (by decide)]
          by_cases r1 : g.1 c = true
          · have := gs r1
            rw [if_pos r1, if_neg (nI_m1 (by omega)), r1, Bool.true_and]
            by_cases r2 : g.2.1 c ≤ q - m
            · rw [if_neg (by rw [nI_ltI (by omega) (by omega)]; omega), decide_eq_true r2]; rfl
            · rw [if_pos (by rw [nI_ltI (by omega) (by omega)]; omega), decide_eq_false r2]; rfl
          · rw [if_neg r1, if_pos rfl, show g.1 c = false by simpa using r1]; rfl
      · refine ⟨-2, mkS n z L i l, n, i, l, ?_, ?_, ⟨_, _, rfl, by repeat first | exact Fr_rfl | refine Fr_u2 ?_ (by unfold sQ; omega)⟩, h⟩
        · simp only [f_X10_canBe, f_X10_refusalOfSearch, has_t hD hc, bdS, mI, mL, mZ, msI, msL, mN1020, gC1, mR1_0, mR1_1, mR1_2, mR1_3, mR1_4, mR1_5, mR1_6, mR1_7, mR1_8, gC2, mR2_6, mR2_7, gC3, mN3, gC4, mN4, gC5, mR5_0, mR5_1, gC6, mN6, gC7, mR7_0, mR7_1, gC8, mR8_0, gC9, mN9, gC10, mR10_0, gC11, mN11, mR11_0, mR11_1, mR11_2, mR11_3, mR11_4, mR11_5, gC12, mR12_0, mR12_1, gC13, mN13, gC14, mN14, gC15, mR15_0, mR15_1, gC16, mN16, gC17, mN17, gC18, mR18_0, mR18_1, gC19, mN19, gC20, mN20, gC21, mR21_0, mR21_1, gC22, mN22, gC23, mN23, gC24, mR24_0, mR24_1, gC25, mN25, gC26, mN26, gC27, mR27_0, mR27_1, gC28, mN28, gC29, mN29, gC30, mR30_0, gC31, mN31, mR31_0, mR31_1, mR31_2, mR31_3, mR31_4, mR31_5, gC32, mR32_0, mR32_1, gC33, mN33, gC34, mN34, gC35, mR35_0, mR35_1, gC36, mN36, gC37, mN37, gC38, mR38_0, mR38_1, gC39, mN39, gC40, mN40, gC41, mR41_0, mR41_1, gC42, mN42, gC43, mN43, gC44, mR44_0, mR44_1, gC45, mN45, gC46, mN46, gC47, mR47_0, mR47_1, gC48, mN48, gC49, mN49, gC50, mR50_0, mR50_1, mR50_2, mR50_3, gC51, mN51, gC52, mN52, gC53, mN53, gC54, mN54, gC55, gC56, gC57, mR57_2, mR57_3, mR57_6, mR57_7, mR57_8, mR57_9, mR57_10, mR57_11, mR57_12, mR57_13, mR57_14, mR57_15, mR57_16, mR57_18, mR57_19, mR57_20, mR57_21, mR57_22, mR57_23, mR57_25, mR57_26, mR57_27, mR57_28, mR57_37, mR57_40, mR57_41, mR57_43, mR57_44, mR57_48, mR57_49, gC58, mN58, gC59, mN59, gC60, mN60, gC61, mN61, gC62, mN62, gC63, mN63, gC64, mN64, gC65, mN65, gC66, mN66, gC67, mN67, gC68, mN68, gC69, mN69, gC70, mN70, gC71, mN71, gC72, mN72, gC73, mN73, gC74, mN74, gC75, mN75, gC76, mN76, gC77, mN77, gC78, mN78, gC79, mN79, gC80, mN80, gC81, mN81, gC82, mN82, gC83, mN83, gC84, mN84, gC85, mN85, gC86, mN86, gC87, mN87, k2, m2, if_neg (nI_ne0 (show 0 < k by omega) (by omega)), if_neg e2]
          rw [if_neg (by decide), if_neg (by decide)]
        · simp only [f_X11_canBe, isCell_t hD hc, bdS, mI, mL, mZ, msI, msL, mN1020, gC1, mR1_0, mR1_1, mR1_2, mR1_3, mR1_4, mR1_5, mR1_6, mR1_7, mR1_8, gC2, mR2_6, mR2_7, gC3, mN3, gC4, mN4, gC5, mR5_0, mR5_1, gC6, mN6, gC7, mR7_0, mR7_1, gC8, mR8_0, gC9, mN9, gC10, mR10_0, gC11, mN11, mR11_0, mR11_1, mR11_2, mR11_3, mR11_4, mR11_5, gC12, mR12_0, mR12_1, gC13, mN13, gC14, mN14, gC15, mR15_0, mR15_1, gC16, mN16, gC17, mN17, gC18, mR18_0, mR18_1, gC19, mN19, gC20, mN20, gC21, mR21_0, mR21_1, gC22, mN22, gC23, mN23, gC24, mR24_0, mR24_1, gC25, mN25, gC26, mN26, gC27, mR27_0, mR27_1, gC28, mN28, gC29, mN29, gC30, mR30_0, gC31, mN31, mR31_0, mR31_1, mR31_2, mR31_3, mR31_4, mR31_5, gC32, mR32_0, mR32_1, gC33, mN33, gC34, mN34, gC35, mR35_0, mR35_1, gC36, mN36, gC37, mN37, gC38, mR38_0, mR38_1, gC39, mN39, gC40, mN40, gC41, mR41_0, mR41_1, gC42, mN42, gC43, mN43, gC44, mR44_0, mR44_1, gC45, mN45, gC46, mN46, gC47, mR47_0, mR47_1, gC48, mN48, gC49, mN49, gC50, mR50_0, mR50_1, mR50_2, mR50_3, gC51, mN51, gC52, mN52, gC53, mN53, gC54, mN54, gC55, gC56, gC57, mR57_2, mR57_3, mR57_6, mR57_7, mR57_8, mR57_9, mR57_10, mR57_11, mR57_12, mR57_13, mR57_14, mR57_15, mR57_16, mR57_18, mR57_19, mR57_20, mR57_21, mR57_22, mR57_23, mR57_25, mR57_26, mR57_27, mR57_28, mR57_37, mR57_40, mR57_41, mR57_43, mR57_44, mR57_48, mR57_49, gC58, mN58, gC59, mN59, gC60, mN60, gC61, mN61, gC62, mN62, gC63, mN63, gC64, mN64, gC65, mN65, gC66, mN66, gC67, mN67, gC68, mN68, gC69, mN69, gC70, mN70, gC71, mN71, gC72, mN72, gC73, mN73, gC74, mN74, gC75, mN75, gC76, mN76, gC77, mN77, gC78, mN78, gC79, mN79, gC80, mN80, gC81, mN81, gC82, mN82, gC83, mN83, gC84, mN84, gC85, mN85, gC86, mN86, gC87, mN87, k3, ← k4, m2, if_neg (nI_ne0 (show 0 < k by omega) (by omega)), if_neg e2]
          rw [if_neg (by decide)]
  · refine ⟨-1, mkS n z L i l, n, i, l, ?_, ?_, ⟨_, _, rfl, by repeat first | exact Fr_rfl | refine Fr_u2 ?_ (by unfold sQ; omega)⟩, h⟩
    · simp only [f_X10_canBe, has_f hD hx, bdS, mI, mL, mZ, msI, msL, mN1020, gC1, mR1_0, mR1_1, mR1_2, mR1_3, mR1_4, mR1_5, mR1_6, mR1_7, mR1_8, gC2, mR2_6, mR2_7, gC3, mN3, gC4, mN4, gC5, mR5_0, mR5_1, gC6, mN6, gC7, mR7_0, mR7_1, gC8, mR8_0, gC9, mN9, gC10, mR10_0, gC11, mN11, mR11_0, mR11_1, mR11_2, mR11_3, mR11_4, mR11_5, gC12, mR12_0, mR12_1, gC13, mN13, gC14, mN14, gC15, mR15_0, mR15_1, gC16, mN16, gC17, mN17, gC18, mR18_0, mR18_1, gC19, mN19, gC20, mN20, gC21, mR21_0, mR21_1, gC22, mN22, gC23, mN23, gC24, mR24_0, mR24_1, gC25, mN25, gC26, mN26, gC27, mR27_0, mR27_1, gC28, mN28, gC29, mN29, gC30, mR30_0, gC31, mN31, mR31_0, mR31_1, mR31_2, mR31_3, mR31_4, mR31_5, gC32, mR32_0, mR32_1, gC33, mN33, gC34, mN34, gC35, mR35_0, mR35_1, gC36, mN36, gC37, mN37, gC38, mR38_0, mR38_1, gC39, mN39, gC40, mN40, gC41, mR41_0, mR41_1, gC42, mN42, gC43, mN43, gC44, mR44_0, mR44_1, gC45, mN45, gC46, mN46, gC47, mR47_0, mR47_1, gC48, mN48, gC49, mN49, gC50, mR50_0, mR50_1, mR50_2, mR50_3, gC51, mN51, gC52, mN52, gC53, mN53, gC54, mN54, gC55, gC56, gC57, mR57_2, mR57_3, mR57_6, mR57_7, mR57_8, mR57_9, mR57_10, mR57_11, mR57_12, mR57_13, mR57_14, mR57_15, mR57_16, mR57_18, mR57_19, mR57_20, mR57_21, mR57_22, mR57_23, mR57_25, mR57_26, mR57_27, mR57_28, mR57_37, mR57_40, mR57_41, mR57_43, mR57_44, mR57_48, mR57_49, gC58, mN58, gC59, mN59, gC60, mN60, gC61, mN61, gC62, mN62, gC63, mN63, gC64, mN64, gC65, mN65, gC66, mN66, gC67, mN67, gC68, mN68, gC69, mN69, gC70, mN70, gC71, mN71, gC72, mN72, gC73, mN73, gC74, mN74, gC75, mN75, gC76, mN76, gC77, mN77, gC78, mN78, gC79, mN79, gC80, mN80, gC81, mN81, gC82, mN82, gC83, mN83, gC84, mN84, gC85, mN85, gC86, mN86, gC87, mN87, eq_self, if_true]
    · simp only [f_X11_canBe, isCell_f hD hx, bdS, mI, mL, mZ, msI, msL, mN1020, gC1, mR1_0, mR1_1, mR1_2, mR1_3, mR1_4, mR1_5, mR1_6, mR1_7, mR1_8, gC2, mR2_6, mR2_7, gC3, mN3, gC4, mN4, gC5, mR5_0, mR5_1, gC6, mN6, gC7, mR7_0, mR7_1, gC8, mR8_0, gC9, mN9, gC10, mR10_0, gC11, mN11, mR11_0, mR11_1, mR11_2, mR11_3, mR11_4, mR11_5, gC12, mR12_0, mR12_1, gC13, mN13, gC14, mN14, gC15, mR15_0, mR15_1, gC16, mN16, gC17, mN17, gC18, mR18_0, mR18_1, gC19, mN19, gC20, mN20, gC21, mR21_0, mR21_1, gC22, mN22, gC23, mN23, gC24, mR24_0, mR24_1, gC25, mN25, gC26, mN26, gC27, mR27_0, mR27_1, gC28, mN28, gC29, mN29, gC30, mR30_0, gC31, mN31, mR31_0, mR31_1, mR31_2, mR31_3, mR31_4, mR31_5, gC32, mR32_0, mR32_1, gC33, mN33, gC34, mN34, gC35, mR35_0, mR35_1, gC36, mN36, gC37, mN37, gC38, mR38_0, mR38_1, gC39, mN39, gC40, mN40, gC41, mR41_0, mR41_1, gC42, mN42, gC43, mN43, gC44, mR44_0, mR44_1, gC45, mN45, gC46, mN46, gC47, mR47_0, mR47_1, gC48, mN48, gC49, mN49, gC50, mR50_0, mR50_1, mR50_2, mR50_3, gC51, mN51, gC52, mN52, gC53, mN53, gC54, mN54, gC55, gC56, gC57, mR57_2, mR57_3, mR57_6, mR57_7, mR57_8, mR57_9, mR57_10, mR57_11, mR57_12, mR57_13, mR57_14, mR57_15, mR57_16, mR57_18, mR57_19, mR57_20, mR57_21, mR57_22, mR57_23, mR57_25, mR57_26, mR57_27, mR57_28, mR57_37, mR57_40, mR57_41, mR57_43, mR57_44, mR57_48, mR57_49, gC58, mN58, gC59, mN59, gC60, mN60, gC61, mN61, gC62, mN62, gC63, mN63, gC64, mN64, gC65, mN65, gC66, mN66, gC67, mN67, gC68, mN68, gC69, mN69, gC70, mN70, gC71, mN71, gC72, mN72, gC73, mN73, gC74, mN74, gC75, mN75, gC76, mN76, gC77, mN77, gC78, mN78, gC79, mN79, gC80, mN80, gC81, mN81, gC82, mN82, gC83, mN83, gC84, mN84, gC85, mN85, gC86, mN86, gC87, mN87, eq_self, if_true]
end LOST
