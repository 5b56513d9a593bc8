section LAYS2
variable {C R n z L : Nat} {i j : fI} {l : fL}
theorem lgB {α : Type} {x : Int64} {b : Bool} (h : b = true ↔ ∃ c, c < 64 ∧ bt6 x c = true) (A B : α) : (if lg_cmp x 0 = 0 then A else B) = if b = true then B else A := by
  by_cases q : b = true
  · rw [if_pos q, if_neg ((lg0n x).mpr (h.mp q))]
  · rw [if_neg q, if_pos (Classical.byContradiction (fun r => q (h.mpr ((lg0n x).mp r))))]
theorem bI_some (b : Bool) (w : xSt) : (if b = true then some ((1 : Int32), w) else some (0, w)) = some (bI b, w) := by cases b <;> rfl
theorem gap_btw (a n b m : Nat) : ((gapN a n b m : Nat) : Int) = max 0 (btw a n b m) := by
  unfold gapN btw
  by_cases q : b + m ≤ a
  · rw [if_pos q, Int.max_eq_right (show (b : Int) - a - n ≤ (a : Int) - b - m by omega), Int.max_eq_right (by omega)]
    omega
  · rw [if_neg q]
    by_cases r : a + n ≤ b
    · rw [Int.max_eq_left (show (a : Int) - b - m ≤ (b : Int) - a - n by omega), Int.max_eq_right (by omega)]
      omega
    · have : max ((b : Int) - a - n) ((a : Int) - b - m) < 0 := by
        rcases Int.le_total ((b : Int) - a - n) ((a : Int) - b - m) with h | h
        · rw [Int.max_eq_right h]; omega
        · rw [Int.max_eq_left h]; omega
      rw [Int.max_eq_left (by omega)]
      omega
theorem btw_neg {a n b m : Nat} (h : btw a n b m < 0) : a < b + m ∧ b < a + n := by
  unfold btw at h
  have h1 := Int.le_max_left ((b : Int) - a - n) ((a : Int) - b - m)
  have h2 := Int.le_max_right ((b : Int) - a - n) ((a : Int) - b - m)
  omega
theorem overlap {C R W D W2 D2 c a : Nat} (p1 : 1 ≤ W) (p2 : 1 ≤ D) (p3 : 1 ≤ W2) (p4 : 1 ≤ D2) (h0 : 0 < C) (f1 : c % C + W ≤ C) (f2 : c / C + D ≤ R) (g1 : a % C + W2 ≤ C) (g2 : a / C + D2 ≤ R) (o1 : c % C < a % C + W2 ∧ a % C < c % C + W) (o2 : c / C < a / C + D2 ∧ a / C < c / C + D) : ∃ k, k < C * R ∧ covB C W D c k = true ∧ covB C W2 D2 a k = true := by
  obtain ⟨X, hX⟩ : ∃ X, X = max (c % C) (a % C) := ⟨_, rfl⟩
  obtain ⟨Y, hY⟩ : ∃ Y, Y = max (c / C) (a / C) := ⟨_, rfl⟩
  have n1 := Nat.zero_le (c / C)
  have n2 := Nat.zero_le (a / C)
  have x1 : c % C ≤ X := by rw [hX]; exact Nat.le_max_left _ _
  have x2 : a % C ≤ X := by rw [hX]; exact Nat.le_max_right _ _
  have y1 : c / C ≤ Y := by rw [hY]; exact Nat.le_max_left _ _
  have y2 : a / C ≤ Y := by rw [hY]; exact Nat.le_max_right _ _
  have x3 : X < c % C + W ∧ X < a % C + W2 := by
    rcases Nat.le_total (c % C) (a % C) with h | h
    · rw [Nat.max_eq_right h] at hX; omega
    · rw [Nat.max_eq_left h] at hX; omega
  have y3 : Y < c / C + D ∧ Y < a / C + D2 := by
    rcases Nat.le_total (c / C) (a / C) with h | h
    · rw [Nat.max_eq_right h] at hY; omega
    · rw [Nat.max_eq_left h] at hY; omega
  have e1 : (X + C * Y) % C = X := by rw [Nat.add_mul_mod_self_left, Nat.mod_eq_of_lt (by omega)]
  have e2 : (X + C * Y) / C = Y := by rw [Nat.add_mul_div_left _ _ h0, Nat.div_eq_of_lt (by omega), Nat.zero_add]
  have k1 : covB C W D c (X + C * Y) = true := by
    rw [covB_iff]; unfold cov
    rw [e1, e2]
    omega
  refine ⟨X + C * Y, cov_lt h0 f2 k1, k1, ?_⟩
  rw [covB_iff]; unfold cov
  rw [e1, e2]
  omega
theorem near_eq (hD : RelD C R z i) (hV : RelV C R z n i) {g s c t : Nat} (hs : s < n) (ht : t < n) (hts : ¬ t = s) (f1 : c % C + wdN i s ≤ C) (f2 : c / C + dpN i s ≤ R) (h3 : exB (thP C n i s c) z = false) (hl : ¬ i 66 t = -1) : neC C i g s c t = neM C i g s c t := by
  obtain ⟨⟨h1, -, -, -, h5⟩, -⟩ := id hD
  obtain ⟨a1, a2, a3, a4⟩ := atN_E hD hV ht hl
  have e1 := gap_btw (c % C) (wdN i s) (atN i t % C) (wdN i t)
  have e2 := gap_btw (c / C) (dpN i s) (atN i t / C) (dpN i t)
  have no : ¬ (btw (c % C) (wdN i s) (atN i t % C) (wdN i t) < 0 ∧ btw (c / C) (dpN i s) (atN i t / C) (dpN i t) < 0) := by
    rintro ⟨q1, q2⟩
    obtain ⟨k, k1, k2, k3⟩ := overlap (wdN_E hV hs).2.1 (dpN_E hV hs).2.1 (wdN_E hV ht).2.1 (dpN_E hV ht).2.1 (by omega) f1 f2 a3 a4 (btw_neg q1) (btw_neg q2)
    have := exB_f.mp h3 k (by omega)
    unfold thP cvS at this
    rw [k2, Bool.true_and] at this
    have := exB_f.mp this t ht
    simp [hts, onB, laB, hl, k3] at this
  unfold neC neM
  apply Bool_iff
  simp only [Bool.and_eq_true, decide_eq_true_eq]
  have l1 := Int.le_max_left 0 (btw (c % C) (wdN i s) (atN i t % C) (wdN i t))
  have l2 := Int.le_max_right 0 (btw (c % C) (wdN i s) (atN i t % C) (wdN i t))
  have l3 := Int.le_max_left 0 (btw (c / C) (dpN i s) (atN i t / C) (dpN i t))
  have l4 := Int.le_max_right 0 (btw (c / C) (dpN i s) (atN i t / C) (dpN i t))
  constructor
  · rintro ⟨q1, q2⟩
    have g0 : 0 < g := by
      by_cases r : g = 0
      · subst r; exact absurd ⟨by omega, by omega⟩ no
      · omega
    constructor
    · rcases Int.le_total 0 (btw (c % C) (wdN i s) (atN i t % C) (wdN i t)) with r | r
      · rw [Int.max_eq_right r] at e1; omega
      · rw [Int.max_eq_left r] at e1; omega
    · rcases Int.le_total 0 (btw (c / C) (dpN i s) (atN i t / C) (dpN i t)) with r | r
      · rw [Int.max_eq_right r] at e2; omega
      · rw [Int.max_eq_left r] at e2; omega
  · rintro ⟨q1, q2⟩
    omega
theorem need_E (hD : RelD C R z i) (hDj : RelD C R z j) (hE : RelE C R z l) (hK : RelK z j l) (hN : RelN n i) (hF : RelF2 n i j) (hV : RelV C R z n j) {s c : Nat} (hs : s < n) (f1 : c % C + wdN j s ≤ C) (f2 : c / C + dpN j s ≤ R) : f_X5_hasItsNeed 5 (88 + s) (areaV C R c (wdN j s) (dpN j s)) (mkS n z L i l) = some (bI (!sixB C R n z j s c), mkS n z L i l) := by
  have hz := zlt hD
  obtain ⟨w1, w2, w3⟩ := wdN_E hV hs
  obtain ⟨d1, d2, d3⟩ := dpN_E hV hs
  have bits := areaV_b hDj w2 w3 f1 f2
  obtain ⟨s0, s1, s2, s3, s4, s5, s6, s8, s9, s10⟩ := hF s hs
  obtain ⟨kd, kd1, kd2⟩ := (hV s hs).1
  obtain ⟨v, v1, v2⟩ := beside_E (n := n) (L := L) hD hE (areaV C R c (wdN j s) (dpN j s))
  have hx : ∀ k, bt6 (areaV C R c (wdN j s) (dpN j s)) k = true → k < z := by
    intro k hk
    rw [bits] at hk
    simp at hk
    exact hk.1
  have kin := hasKin_E (z := z) (L := L) (l := l) hN hF hs false
  rw [show bI false = 0 from rfl] at kin
  simp only [f_X5_hasItsNeed, gCS hs, mI, mL, mZ, msI, msL, mN1020, gC1, mR1_0, mR1_1, mR1_2, mR1_3, mR1_4, mR1_5, mR1_6, mR1_7, mR1_8, gC2, mR2_6, mR2_7, gC3, mN3, gC4, mN4, gC5, mR5_0, mR5_1, gC6, mN6, gC7, mR7_0, mR7_1, gC8, mR8_0, gC9, mN9, gC10, mR10_0, gC11, mN11, mR11_0, mR11_1, mR11_2, mR11_3, mR11_4, mR11_5, gC12, mR12_0, mR12_1, gC13, mN13, gC14, mN14, gC15, mR15_0, mR15_1, gC16, mN16, gC17, mN17, gC18, mR18_0, mR18_1, gC19, mN19, gC20, mN20, gC21, mR21_0, mR21_1, gC22, mN22, gC23, mN23, gC24, mR24_0, mR24_1, gC25, mN25, gC26, mN26, gC27, mR27_0, mR27_1, gC28, mN28, gC29, mN29, gC30, mR30_0, gC31, mN31, mR31_0, mR31_1, mR31_2, mR31_3, mR31_4, mR31_5, gC32, mR32_0, mR32_1, gC33, mN33, gC34, mN34, gC35, mR35_0, mR35_1, gC36, mN36, gC37, mN37, gC38, mR38_0, mR38_1, gC39, mN39, gC40, mN40, gC41, mR41_0, mR41_1, gC42, mN42, gC43, mN43, gC44, mR44_0, mR44_1, gC45, mN45, gC46, mN46, gC47, mR47_0, mR47_1, gC48, mN48, gC49, mN49, gC50, mR50_0, mR50_1, mR50_2, mR50_3, gC51, mN51, gC52, mN52, gC53, mN53, gC54, mN54, gC55, gC56, gC57, mR57_2, mR57_3, mR57_6, mR57_7, mR57_8, mR57_9, mR57_10, mR57_11, mR57_12, mR57_13, mR57_14, mR57_15, mR57_16, mR57_18, mR57_19, mR57_20, mR57_21, mR57_22, mR57_23, mR57_25, mR57_26, mR57_27, mR57_28, mR57_37, mR57_40, mR57_41, mR57_43, mR57_44, mR57_48, mR57_49, gC58, mN58, gC59, mN59, gC60, mN60, gC61, mN61, gC62, mN62, gC63, mN63, gC64, mN64, gC65, mN65, gC66, mN66, gC67, mN67, gC68, mN68, gC69, mN69, gC70, mN70, gC71, mN71, gC72, mN72, gC73, mN73, gC74, mN74, gC75, mN75, gC76, mN76, gC77, mN77, gC78, mN78, gC79, mN79, gC80, mN80, gC81, mN81, gC82, mN82, gC83, mN83, gC84, mN84, gC85, mN85, gC86, mN86, gC87, mN87, s0, v1, bdS, kin, bI_if]
  rw [gd_t (show inR 2 4 by decide), gd_t (show inR 3 4 by decide), show (2 : Int32).toNatClampNeg = 2 from rfl, show (3 : Int32).toNatClampNeg = 3 from rfl]
  have nb : ∀ t, t < 4 → (exB (fun k => cvS C j s c k && bsP C R j k (nI t)) z = true ↔ ∃ k, k < 64 ∧ bt6 (v &&& l 3 t) k = true) := by
    intro t ht
    rw [exB_iff]
    constructor
    · rintro ⟨k, k1, k2⟩
      simp only [Bool.and_eq_true] at k2
      obtain ⟨q, q1, q2, q3⟩ := (bsP_iff hDj k1 _).mp k2.2
      refine ⟨q, by omega, ?_⟩
      rw [b6_and, Bool.and_eq_true]
      refine ⟨(v2 hx q q1).mpr ⟨k, k1, ?_, q2⟩, ?_⟩
      · rw [bits]
        have := k2.1
        unfold cvS at this
        simp [k1, this]
      · rw [hK.2 t ht]
        exact decide_eq_true ⟨q1, q3⟩
    · rintro ⟨q, q1, q2⟩
      rw [b6_and, Bool.and_eq_true, hK.2 t ht] at q2
      obtain ⟨r1, r2⟩ := q2
      have r3 := of_decide_eq_true r2
      obtain ⟨k, k1, k2, k3⟩ := (v2 hx q r3.1).mp r1
      refine ⟨k, k1, ?_⟩
      rw [bits] at k2
      simp only [Bool.and_eq_true] at k2 ⊢
      exact ⟨k2.2, (bsP_iff hDj k1 _).mpr ⟨q, r3.1, k3, r3.2⟩⟩
  unfold sixB
  have : kd = 0 ∨ kd = 1 ∨ kd = 2 ∨ kd = 3 ∨ kd = 4 := by omega
  rcases this with rfl | rfl | rfl | rfl | rfl
  · have q : j 60 s = 0 := kd2
    rw [q]
    rfl
  · have q : j 60 s = 1 := kd2
    rw [if_pos q, if_neg (show ¬ j 60 s = 4 by rw [q]; decide), decide_eq_false (show ¬ j 60 s = 0 by rw [q]; decide), Bool.false_or, Bool.not_not]
    rw [lgB (b := exB (ndP C R j s c) z)]
    · exact bI_some _ _
    · rw [exB_iff]
      unfold ndP
      rw [q]
      constructor
      · rintro ⟨k, k1, k2⟩
        simp only [Bool.and_eq_true] at k2
        refine ⟨k, by omega, ?_⟩
        rw [b6_and, bits, hE.2.2]
        have k3 := k2.1
        unfold cvS at k3
        rw [if_pos trivial] at k2
        have k4 := of_decide_eq_true k2.2
        rw [k3, decide_eq_true k1, decide_eq_true (show k < z ∧ edgeP C R k from ⟨k1, k4⟩)]
        rfl
      · rintro ⟨k, k1, k2⟩
        rw [b6_and, bits, hE.2.2] at k2
        simp only [Bool.and_eq_true, decide_eq_true_eq] at k2
        refine ⟨k, k2.1.1, ?_⟩
        rw [if_pos rfl]
        unfold cvS
        rw [k2.1.2, Bool.true_and]
        exact decide_eq_true k2.2.2
  · have q : j 60 s = 2 := kd2
    rw [if_neg (show ¬ j 60 s = 1 by rw [q]; decide), if_pos q, if_neg (show ¬ j 60 s = 4 by rw [q]; decide), decide_eq_false (show ¬ j 60 s = 0 by rw [q]; decide), Bool.false_or, Bool.not_not]
    have e : exB (ndP C R j s c) z = exB (fun k => cvS C j s c k && bsP C R j k (nI 2)) z := exB_cong (fun k hk => by
      unfold ndP
      rw [if_neg (show ¬ j 60 s = 1 by rw [q]; decide), if_pos q]
      rfl)
    rw [lgB (nb 2 (by omega)), e]
    exact bI_some _ _
  · have q : j 60 s = 3 := kd2
    rw [if_neg (show ¬ j 60 s = 1 by rw [q]; decide), if_neg (show ¬ j 60 s = 2 by rw [q]; decide), if_pos q, if_neg (show ¬ j 60 s = 4 by rw [q]; decide), decide_eq_false (show ¬ j 60 s = 0 by rw [q]; decide), Bool.false_or, Bool.not_not]
    have e : exB (ndP C R j s c) z = exB (fun k => cvS C j s c k && bsP C R j k (nI 3)) z := exB_cong (fun k hk => by
      unfold ndP
      rw [if_neg (show ¬ j 60 s = 1 by rw [q]; decide), if_neg (show ¬ j 60 s = 2 by rw [q]; decide)]
      rfl)
    rw [lgB (nb 3 (by omega)), e]
    exact bI_some _ _
  · have q : j 60 s = 4 := kd2
    rw [if_neg (show ¬ j 60 s = 1 by rw [q]; decide), if_neg (show ¬ j 60 s = 2 by rw [q]; decide), if_neg (show ¬ j 60 s = 3 by rw [q]; decide), if_pos q, if_pos q]
    cases flB j n s false <;> rfl
theorem hindrance_E (hD : RelD C R z i) (hDj : RelD C R z j) (hE : RelE C R z l) (hK : RelK z j l) (hB : ∀ c, c < z → i 4 c = j 59 c) (hN : RelN n i) (hF : RelF2 n i j) (hV : RelV C R z n j) (hA : RelA C z n j l) {g s c : Nat} (hg : g ≤ 3) (eg : i 5 3 = nI g) (hs : s < n) (hc : c < z) : f_X5_hindrance 5 (88 + s) (nI c) (mkS n z L i l) = some (hinV C R n z j g s c, mkS n z L i l) := by
  have hz := zlt hD
  have h9 := hN.1
  obtain ⟨w1, w2, w3⟩ := wdN_E hV hs
  obtain ⟨d1, d2, d3⟩ := dpN_E hV hs
  obtain ⟨s0, s1, s2, s3, s4, s5, s6, s8, s9, s10⟩ := hF s hs
  have kin := hasKin_E (z := z) (L := L) (l := l) hN hF hs true
  rw [show bI true = 1 from rfl] at kin
  simp only [f_X5_hindrance, mI, mL, mZ, msI, msL, mN1020, gC1, mR1_0, mR1_1, mR1_2, mR1_3, mR1_4, mR1_5, mR1_6, mR1_7, mR1_8, gC2, mR2_6, mR2_7, gC3, mN3, gC4, mN4, gC5, mR5_0, mR5_1, gC6, mN6, gC7, mR7_0, mR7_1, gC8, mR8_0, gC9, mN9, gC10, mR10_0, gC11, mN11, mR11_0, mR11_1, mR11_2, mR11_3, mR11_4, mR11_5, gC12, mR12_0, mR12_1, gC13, mN13, gC14, mN14, gC15, mR15_0, mR15_1, gC16, mN16, gC17, mN17, gC18, mR18_0, mR18_1, gC19, mN19, gC20, mN20, gC21, mR21_0, mR21_1, gC22, mN22, gC23, mN23, gC24, mR24_0, mR24_1, gC25, mN25, gC26, mN26, gC27, mR27_0, mR27_1, gC28, mN28, gC29, mN29, gC30, mR30_0, gC31, mN31, mR31_0, mR31_1, mR31_2, mR31_3, mR31_4, mR31_5, gC32, mR32_0, mR32_1, gC33, mN33, gC34, mN34, gC35, mR35_0, mR35_1, gC36, mN36, gC37, mN37, gC38, mR38_0, mR38_1, gC39, mN39, gC40, mN40, gC41, mR41_0, mR41_1, gC42, mN42, gC43, mN43, gC44, mR44_0, mR44_1, gC45, mN45, gC46, mN46, gC47, mR47_0, mR47_1, gC48, mN48, gC49, mN49, gC50, mR50_0, mR50_1, mR50_2, mR50_3, gC51, mN51, gC52, mN52, gC53, mN53, gC54, mN54, gC55, gC56, gC57, mR57_2, mR57_3, mR57_6, mR57_7, mR57_8, mR57_9, mR57_10, mR57_11, mR57_12, mR57_13, mR57_14, mR57_15, mR57_16, mR57_18, mR57_19, mR57_20, mR57_21, mR57_22, mR57_23, mR57_25, mR57_26, mR57_27, mR57_28, mR57_37, mR57_40, mR57_41, mR57_43, mR57_44, mR57_48, mR57_49, gC58, mN58, gC59, mN59, gC60, mN60, gC61, mN61, gC62, mN62, gC63, mN63, gC64, mN64, gC65, mN65, gC66, mN66, gC67, mN67, gC68, mN68, gC69, mN69, gC70, mN70, gC71, mN71, gC72, mN72, gC73, mN73, gC74, mN74, gC75, mN75, gC76, mN76, gC77, mN77, gC78, mN78, gC79, mN79, gC80, mN80, gC81, mN81, gC82, mN82, gC83, mN83, gC84, mN84, gC85, mN85, gC86, mN86, gC87, mN87, gCS hs, s3, w1, s4, d1, area_E hD hc w3 d3, bdS]
  unfold hinV
  by_cases fit : c % C + wdN j s ≤ C ∧ c / C + dpN j s ≤ R
  · obtain ⟨f1, f2⟩ := id fit
    have bits := areaV_b hDj w2 w3 f1 f2
    rw [if_pos fit, if_neg ((lg0n _).mpr ⟨c, by omega, by rw [bits, cov_self w2 d2, decide_eq_true hc]; rfl⟩), gd_t (show inR 0 4 by decide), show (0 : Int32).toNatClampNeg = 0 from rfl]
    have hb2 : exB (twP C j s c) z = true ↔ ∃ q, q < 64 ∧ bt6 (areaV C R c (wdN j s) (dpN j s) &&& (l 3 0 ^^^ -1)) q = true := by
      rw [exB_iff]
      constructor
      · rintro ⟨k, k1, k2⟩
        unfold twP cvS at k2
        simp only [Bool.and_eq_true, Bool.not_eq_true', decide_eq_false_iff_not] at k2
        refine ⟨k, by omega, ?_⟩
        rw [b6_and, b6_not _ (by omega), bits, k2.1, decide_eq_true k1, hK.2 0 (by omega), decide_eq_false (show ¬ (k < z ∧ j 58 k = nI 0) from fun r => k2.2 r.2)]
        rfl
      · rintro ⟨k, k1, k2⟩
        rw [b6_and, b6_not _ k1, bits, hK.2 0 (by omega)] at k2
        simp only [Bool.and_eq_true, decide_eq_true_eq, Bool.not_eq_true', decide_eq_false_iff_not] at k2
        refine ⟨k, k2.1.1, ?_⟩
        unfold twP cvS
        rw [k2.1.2, Bool.true_and, decide_eq_false (show ¬ j 58 k = 0 from fun r => k2.2 ⟨k2.1.1, r⟩)]
        rfl
    rw [lgB hb2]
    by_cases t2 : exB (twP C j s c) z = true
    · rw [if_pos t2, if_pos t2]
    rw [if_neg t2, if_neg t2, covered_E hN (by omega), bdS]
    have hb3 : exB (thP C n j s c) z = true ↔ ∃ q, q < 64 ∧ bt6 (areaV C R c (wdN j s) (dpN j s) &&& cvV l (88 + s) n) q = true := by
      rw [exB_iff]
      constructor
      · rintro ⟨k, k1, k2⟩
        unfold thP cvS at k2
        rw [Bool.and_eq_true, exB_iff] at k2
        obtain ⟨k3, t, t1, t2⟩ := k2
        simp only [Bool.and_eq_true, Bool.not_eq_true', decide_eq_false_iff_not] at t2
        refine ⟨k, by omega, ?_⟩
        rw [b6_and, bits, k3, decide_eq_true k1, cvV_b, Bool.and_eq_true, exB_iff]
        refine ⟨rfl, t, t1, ?_⟩
        rw [cells_E hDj hV hA t1, decide_eq_true k1, t2.2, decide_eq_false (show ¬ 88 + t = 88 + s by omega)]
        rfl
      · rintro ⟨k, k1, k2⟩
        rw [b6_and, bits, cvV_b, Bool.and_eq_true, exB_iff] at k2
        obtain ⟨k3, t, t1, t2⟩ := k2
        rw [cells_E hDj hV hA t1] at t2
        simp only [Bool.and_eq_true, Bool.not_eq_true', decide_eq_false_iff_not, decide_eq_true_eq] at t2 k3
        refine ⟨k, k3.1, ?_⟩
        unfold thP cvS
        rw [Bool.and_eq_true, exB_iff]
        refine ⟨k3.2, t, t1, ?_⟩
        rw [t2.2.2, decide_eq_false (show ¬ t = s by omega)]
        rfl
    rw [lgB hb3]
    by_cases t3 : exB (thP C n j s c) z = true
    · rw [if_pos t3, if_pos t3]
    have t3' : exB (thP C n j s c) z = false := by simpa using t3
    rw [if_neg t3, if_neg t3]
    simp only [mI, mL, mZ, msI, msL, mN1020, gC1, mR1_0, mR1_1, mR1_2, mR1_3, mR1_4, mR1_5, mR1_6, mR1_7, mR1_8, gC2, mR2_6, mR2_7, gC3, mN3, gC4, mN4, gC5, mR5_0, mR5_1, gC6, mN6, gC7, mR7_0, mR7_1, gC8, mR8_0, gC9, mN9, gC10, mR10_0, gC11, mN11, mR11_0, mR11_1, mR11_2, mR11_3, mR11_4, mR11_5, gC12, mR12_0, mR12_1, gC13, mN13, gC14, mN14, gC15, mR15_0, mR15_1, gC16, mN16, gC17, mN17, gC18, mR18_0, mR18_1, gC19, mN19, gC20, mN20, gC21, mR21_0, mR21_1, gC22, mN22, gC23, mN23, gC24, mR24_0, mR24_1, gC25, mN25, gC26, mN26, gC27, mR27_0, mR27_1, gC28, mN28, gC29, mN29, gC30, mR30_0, gC31, mN31, mR31_0, mR31_1, mR31_2, mR31_3, mR31_4, mR31_5, gC32, mR32_0, mR32_1, gC33, mN33, gC34, mN34, gC35, mR35_0, mR35_1, gC36, mN36, gC37, mN37, gC38, mR38_0, mR38_1, gC39, mN39, gC40, mN40, gC41, mR41_0, mR41_1, gC42, mN42, gC43, mN43, gC44, mR44_0, mR44_1, gC45, mN45, gC46, mN46, gC47, mR47_0, mR47_1, gC48, mN48, gC49, mN49, gC50, mR50_0, mR50_1, mR50_2, mR50_3, gC51, mN51, gC52, mN52, gC53, mN53, gC54, mN54, gC55, gC56, gC57, mR57_2, mR57_3, mR57_6, mR57_7, mR57_8, mR57_9, mR57_10, mR57_11, mR57_12, mR57_13, mR57_14, mR57_15, mR57_16, mR57_18, mR57_19, mR57_20, mR57_21, mR57_22, mR57_23, mR57_25, mR57_26, mR57_27, mR57_28, mR57_37, mR57_40, mR57_41, mR57_43, mR57_44, mR57_48, mR57_49, gC58, mN58, gC59, mN59, gC60, mN60, gC61, mN61, gC62, mN62, gC63, mN63, gC64, mN64, gC65, mN65, gC66, mN66, gC67, mN67, gC68, mN68, gC69, mN69, gC70, mN70, gC71, mN71, gC72, mN72, gC73, mN73, gC74, mN74, gC75, mN75, gC76, mN76, gC77, mN77, gC78, mN78, gC79, mN79, gC80, mN80, gC81, mN81, gC82, mN82, gC83, mN83, gC84, mN84, gC85, mN85, gC86, mN86, gC87, mN87, gCS hs, isTooNear_E hD hN hF hDj hV hg eg hs hc, bdS, bI_if, s5, carries_E hD hB, need_E hD hDj hE hK hN hF hV hs f1 f2, kin]
    have e4 : exB (fun t => !decide (t = s) && laB j t && !decide (j 62 t = j 62 s) && neC C j g s c t) n = exB (foP C j g s c) n := exB_cong (fun t ht => by
      unfold foP
      by_cases q1 : t = s
      · simp [q1]
      by_cases q2 : j 66 t = -1
      · simp [q2, laB]
      rw [near_eq hDj hV hs ht q1 f1 f2 t3' q2])
    have e5 : exB (fun k => bt6 (areaV C R c (wdN j s) (dpN j s)) k && decide (j 59 k < j 65 s)) z = exB (fiP C j s c) z := exB_cong (fun k hk => by
      unfold fiP cvS
      rw [bits, decide_eq_true hk, Bool.true_and])
    rw [e4, e5]
    cases exB (foP C j g s c) n
    · cases exB (fiP C j s c) z
      · cases sixB C R n z j s c
        · cases flB j n s true <;> rfl
        · rfl
      · rfl
    · rfl
  · rw [if_neg fit]
    have : areaV C R c (wdN j s) (dpN j s) = 0 := if_neg fit
    rw [this, if_pos (by decide)]
theorem hin0 {g s c : Nat} (h : hinV C R n z i g s c = 0) : (c % C + wdN i s ≤ C ∧ c / C + dpN i s ≤ R) ∧ exB (twP C i s c) z = false ∧ exB (thP C n i s c) z = false := by
  unfold hinV at h
  by_cases f : c % C + wdN i s ≤ C ∧ c / C + dpN i s ≤ R
  · rw [if_pos f] at h
    cases a : exB (twP C i s c) z with
    | true => rw [if_pos a] at h; exact absurd h (by decide)
    | false =>
      rw [if_neg (by rw [a]; decide)] at h
      cases b : exB (thP C n i s c) z with
      | true => rw [if_pos b] at h; exact absurd h (by decide)
      | false => exact ⟨f, rfl, rfl⟩
  · rw [if_neg f] at h
    exact absurd h (by decide)
/-- a stand is laid there: the relation goes on -/
theorem put_rel (h : Rel C R n z i l) {g s c : Nat} (hs : s < n) (hc : c < z) (h0 : hinV C R n z i g s c = 0) : Rel C R n z (u2 (u2 i (88 + s) 6 (nI c)) 66 s (nI c)) (u2 l (88 + s) 7 (areaV C R c (wdN i s) (dpN i s))) := by
  obtain ⟨hD, hE, hK, hB, hG, hN, hF, hV, hA, hX, hT, hU, hJ, hM, hL, hO, hY, hP⟩ := id h
  have h9 := hN.1
  have hz := zlt hD
  obtain ⟨⟨f1, f2⟩, f3, f4⟩ := hin0 h0
  obtain ⟨w1, w2, w3⟩ := wdN_E hV hs
  obtain ⟨d1, d2, d3⟩ := dpN_E hV hs
  have bits := areaV_b hD w2 w3 f1 f2
  refine ⟨hD.fr (Fr_u2 (Fr_u2 Fr_rfl (by unfold sD; omega)) (by unfold sD; omega)), hE.fr (Fr_u2 Fr_rfl (by unfold sE; omega)), hK.fr (Fr_u2 (Fr_u2 Fr_rfl (by unfold sK; omega)) (by unfold sK; omega)) (Fr_u2 Fr_rfl (by unfold sKl; omega)), hB.fr (Fr_u2 (Fr_u2 Fr_rfl (by unfold sB; omega)) (by unfold sB; omega)), hG.fr (Fr_u2 (Fr_u2 Fr_rfl (by unfold sG; omega)) (by unfold sG; omega)), hN.fr (Fr_u2 (Fr_u2 Fr_rfl (by unfold sN; omega)) (by unfold sN; omega)), ?_, ?_, ?_, hX.fr (Fr_u2 (Fr_u2 Fr_rfl (by unfold sX; omega)) (by unfold sX; omega)), hT.fr (Fr_u2 (Fr_u2 Fr_rfl (by unfold sT; omega)) (by unfold sT; omega)), hU.fr (Fr_u2 (Fr_u2 Fr_rfl (by unfold sU; omega)) (by unfold sU; omega)), hJ.fr (Fr_u2 (Fr_u2 Fr_rfl (by unfold sJ; omega)) (by unfold sJ; omega)), hM.fr (Fr_u2 (Fr_u2 Fr_rfl (by unfold sM; omega)) (by unfold sM; omega)), hL.fr (Fr_u2 (Fr_u2 Fr_rfl (by unfold sLo; omega)) (by unfold sLo; omega)), hO.fr (Fr_u2 (Fr_u2 Fr_rfl (by unfold sO; omega)) (by unfold sO; omega)), hY.fr (Fr_u2 (Fr_u2 Fr_rfl (by unfold sY; omega)) (by unfold sY; omega)), ?_⟩
  · intro t ht
    have g := hF t ht
    by_cases e : t = s
    · subst e; simp [u2, ne88, ne88']; simp [g]
    · simp [u2, ne88, ne88', e]; simp [g]
  · intro t ht
    have g := hV t ht
    by_cases e : t = s
    · subst e
      obtain ⟨g1, g2, g3, -⟩ := g
      have u : ∀ p, 60 ≤ p → p ≤ 69 → p ≠ 66 → u2 (u2 i (88 + t) 6 (nI c)) 66 t (nI c) p t = i p t := fun p h1 h2 h3 => by rw [u2_p _ _ h3, u2_p _ _ (by omega)]
      rw [u 60 (by omega) (by omega) (by omega), u 63 (by omega) (by omega) (by omega), u 64 (by omega) (by omega) (by omega), u 68 (by omega) (by omega) (by omega), u 69 (by omega) (by omega) (by omega), u2_s]
      exact ⟨g1, g2, g3, wdN i t, dpN i t, ⟨w2, w3, w1⟩, ⟨d2, d3, d1⟩, Or.inr ⟨c, hc, rfl, f1, f2⟩⟩
    · simp [u2, ne88, ne88', e]; simpa using g
  · intro t ht
    by_cases e : t = s
    · subst e
      have u : ∀ p, 60 ≤ p → p ≤ 69 → p ≠ 66 → u2 (u2 i (88 + t) 6 (nI c)) 66 t (nI c) p t = i p t := fun p h1 h2 h3 => by rw [u2_p _ _ h3, u2_p _ _ (by omega)]
      rw [u 63 (by omega) (by omega) (by omega), u 64 (by omega) (by omega) (by omega), u2_s, u2_s]
      refine ⟨fun r => absurd r (nI_m1 (by omega)), fun wd dp a q1 q2 q3 q4 q5 q6 k => ?_⟩
      have e1 : a = c := ((nI_eq (by omega) (by omega)).mp q6).symm
      have e2 : wd = wdN i t := by rw [w1] at q4; exact ((nI_eq (by omega) (by omega)).mp q4).symm
      have e3 : dp = dpN i t := by rw [d1] at q5; exact ((nI_eq (by omega) (by omega)).mp q5).symm
      rw [e1, e2, e3]
      exact bits k
    · have g := hA t ht
      have el : u2 l (88 + s) 7 (areaV C R c (wdN i s) (dpN i s)) (88 + t) 7 = l (88 + t) 7 := u2_p _ _ (by omega)
      rw [el]
      simp [u2, ne88, ne88', e]
      simpa using g
  · have new : u2 l (88 + s) 7 (areaV C R c (wdN i s) (dpN i s)) (88 + s) 7 = areaV C R c (wdN i s) (dpN i s) := u2_s _ _ _ _
    have old : ∀ t, t ≠ s → u2 l (88 + s) 7 (areaV C R c (wdN i s) (dpN i s)) (88 + t) 7 = l (88 + t) 7 := fun t ht => u2_p _ _ (by omega)
    have k3 : u2 l (88 + s) 7 (areaV C R c (wdN i s) (dpN i s)) 3 0 = l 3 0 := u2_p _ _ (by omega)
    intro t ht k hk
    rw [k3]
    by_cases e : t = s
    · subst e
      rw [new, bits] at hk
      simp only [Bool.and_eq_true, decide_eq_true_eq] at hk
      refine ⟨?_, fun t2 ht2 e2 => ?_⟩
      · have := exB_f.mp f3 k hk.1
        unfold twP cvS at this
        rw [hk.2, Bool.true_and] at this
        rw [hK.2 0 (by omega)]
        have q : i 58 k = 0 := by simpa using this
        exact decide_eq_true ⟨hk.1, q⟩
      · rw [old t2 e2, cells_E hD hV hA ht2]
        have := exB_f.mp f4 k hk.1
        unfold thP cvS at this
        rw [hk.2, Bool.true_and] at this
        have := exB_f.mp this t2 ht2
        simp [e2] at this
        simp [this]
    · rw [old t e] at hk
      obtain ⟨x1, x2⟩ := hP t ht k hk
      refine ⟨x1, fun t2 ht2 e2 => ?_⟩
      by_cases e3 : t2 = s
      · subst e3
        rw [new, bits]
        rw [cells_E hD hV hA ht] at hk
        simp only [Bool.and_eq_true, decide_eq_true_eq] at hk
        have := exB_f.mp f4 k hk.1
        unfold thP cvS at this
        cases q : covB C (wdN i t2) (dpN i t2) c k with
        | false => simp
        | true =>
          rw [q, Bool.true_and] at this
          have := exB_f.mp this t ht
          simp [e, hk.2] at this
      · rw [old t2 e3]
        exact x2 t2 ht2 e2
theorem put_E (hD : RelD C R z i) (hF : RelF2 n i j) (hV : RelV C R z n j) (h9 : n ≤ 9) {s c : Nat} (hs : s < n) (hc : c < z) : f_X5_put 5 (88 + s) (nI c) (mkS n z L i l) = some ((), mkS n z L (u2 i (88 + s) 6 (nI c)) (u2 l (88 + s) 7 (areaV C R c (wdN j s) (dpN j s)))) := by
  obtain ⟨w1, w2, w3⟩ := wdN_E hV hs
  obtain ⟨d1, d2, d3⟩ := dpN_E hV hs
  obtain ⟨s0, s1, s2, s3, s4, s5, s6, s8, s9, s10⟩ := hF s hs
  have hD' : RelD C R z (u2 i (88 + s) 6 (nI c)) := hD.fr (Fr_u2 Fr_rfl (by unfold sD; omega))
  have e3 : u2 i (88 + s) 6 (nI c) (88 + s) 3 = nI (wdN j s) := by rw [u2_k _ _ (by omega), s3, w1]
  have e4 : u2 i (88 + s) 6 (nI c) (88 + s) 4 = nI (dpN j s) := by rw [u2_k _ _ (by omega), s4, d1]
  simp only [f_X5_put, gCS hs, mI, mL, mZ, msI, msL, mN1020, gC1, mR1_0, mR1_1, mR1_2, mR1_3, mR1_4, mR1_5, mR1_6, mR1_7, mR1_8, gC2, mR2_6, mR2_7, gC3, mN3, gC4, mN4, gC5, mR5_0, mR5_1, gC6, mN6, gC7, mR7_0, mR7_1, gC8, mR8_0, gC9, mN9, gC10, mR10_0, gC11, mN11, mR11_0, mR11_1, mR11_2, mR11_3, mR11_4, mR11_5, gC12, mR12_0, mR12_1, gC13, mN13, gC14, mN14, gC15, mR15_0, mR15_1, gC16, mN16, gC17, mN17, gC18, mR18_0, mR18_1, gC19, mN19, gC20, mN20, gC21, mR21_0, mR21_1, gC22, mN22, gC23, mN23, gC24, mR24_0, mR24_1, gC25, mN25, gC26, mN26, gC27, mR27_0, mR27_1, gC28, mN28, gC29, mN29, gC30, mR30_0, gC31, mN31, mR31_0, mR31_1, mR31_2, mR31_3, mR31_4, mR31_5, gC32, mR32_0, mR32_1, gC33, mN33, gC34, mN34, gC35, mR35_0, mR35_1, gC36, mN36, gC37, mN37, gC38, mR38_0, mR38_1, gC39, mN39, gC40, mN40, gC41, mR41_0, mR41_1, gC42, mN42, gC43, mN43, gC44, mR44_0, mR44_1, gC45, mN45, gC46, mN46, gC47, mR47_0, mR47_1, gC48, mN48, gC49, mN49, gC50, mR50_0, mR50_1, mR50_2, mR50_3, gC51, mN51, gC52, mN52, gC53, mN53, gC54, mN54, gC55, gC56, gC57, mR57_2, mR57_3, mR57_6, mR57_7, mR57_8, mR57_9, mR57_10, mR57_11, mR57_12, mR57_13, mR57_14, mR57_15, mR57_16, mR57_18, mR57_19, mR57_20, mR57_21, mR57_22, mR57_23, mR57_25, mR57_26, mR57_27, mR57_28, mR57_37, mR57_40, mR57_41, mR57_43, mR57_44, mR57_48, mR57_49, gC58, mN58, gC59, mN59, gC60, mN60, gC61, mN61, gC62, mN62, gC63, mN63, gC64, mN64, gC65, mN65, gC66, mN66, gC67, mN67, gC68, mN68, gC69, mN69, gC70, mN70, gC71, mN71, gC72, mN72, gC73, mN73, gC74, mN74, gC75, mN75, gC76, mN76, gC77, mN77, gC78, mN78, gC79, mN79, gC80, mN80, gC81, mN81, gC82, mN82, gC83, mN83, gC84, mN84, gC85, mN85, gC86, mN86, gC87, mN87, lt1E, e3, e4, area_E hD' hc w3 d3, bdS]
theorem op_hinders (h : Rel C R n z i l) (x y : Int32) : OpOK C R n z L (f_X10_hinders 1 x y) (f_X11_hinders 57 x y) i l := by
  obtain ⟨hD, hE, hK, hB, hG, hN, hF, hV, hA, hX, hT, hU, hJ, hM, hL, hO, hY, hP⟩ := id h
  have h9 := hN.1
  obtain ⟨g0, g, g1, g2⟩ := id hG
  rcases ix_em n x with ⟨s, hs, rfl⟩ | hx
  · rcases ix_em z y with ⟨c, hc, rfl⟩ | hy
    · refine ⟨hinV C R n z i g s c, mkS n z L i l, n, i, l, ?_, ?_, ⟨_, _, rfl, by repeat first | exact Fr_rfl | refine Fr_u2 ?_ (by unfold sQ; omega)⟩, h⟩
      · simp only [f_X10_hinders, mI, mL, mZ, msI, msL, mN1020, gC1, mR1_0, mR1_1, mR1_2, mR1_3, mR1_4, mR1_5, mR1_6, mR1_7, mR1_8, gC2, mR2_6, mR2_7, gC3, mN3, gC4, mN4, gC5, mR5_0, mR5_1, gC6, mN6, gC7, mR7_0, mR7_1, gC8, mR8_0, gC9, mN9, gC10, mR10_0, gC11, mN11, mR11_0, mR11_1, mR11_2, mR11_3, mR11_4, mR11_5, gC12, mR12_0, mR12_1, gC13, mN13, gC14, mN14, gC15, mR15_0, mR15_1, gC16, mN16, gC17, mN17, gC18, mR18_0, mR18_1, gC19, mN19, gC20, mN20, gC21, mR21_0, mR21_1, gC22, mN22, gC23, mN23, gC24, mR24_0, mR24_1, gC25, mN25, gC26, mN26, gC27, mR27_0, mR27_1, gC28, mN28, gC29, mN29, gC30, mR30_0, gC31, mN31, mR31_0, mR31_1, mR31_2, mR31_3, mR31_4, mR31_5, gC32, mR32_0, mR32_1, gC33, mN33, gC34, mN34, gC35, mR35_0, mR35_1, gC36, mN36, gC37, mN37, gC38, mR38_0, mR38_1, gC39, mN39, gC40, mN40, gC41, mR41_0, mR41_1, gC42, mN42, gC43, mN43, gC44, mR44_0, mR44_1, gC45, mN45, gC46, mN46, gC47, mR47_0, mR47_1, gC48, mN48, gC49, mN49, gC50, mR50_0, mR50_1, mR50_2, mR50_3, gC51, mN51, gC52, mN52, gC53, mN53, gC54, mN54, gC55, gC56, gC57, mR57_2, mR57_3, mR57_6, mR57_7, mR57_8, mR57_9, mR57_10, mR57_11, mR57_12, mR57_13, mR57_14, mR57_15, mR57_16, mR57_18, mR57_19, mR57_20, mR57_21, mR57_22, mR57_23, mR57_25, mR57_26, mR57_27, mR57_28, mR57_37, mR57_40, mR57_41, mR57_43, mR57_44, mR57_48, mR57_49, gC58, mN58, gC59, mN59, gC60, mN60, gC61, mN61, gC62, mN62, gC63, mN63, gC64, mN64, gC65, mN65, gC66, mN66, gC67, mN67, gC68, mN68, gC69, mN69, gC70, mN70, gC71, mN71, gC72, mN72, gC73, mN73, gC74, mN74, gC75, mN75, gC76, mN76, gC77, mN77, gC78, mN78, gC79, mN79, gC80, mN80, gC81, mN81, gC82, mN82, gC83, mN83, gC84, mN84, gC85, mN85, gC86, mN86, gC87, mN87, find_t hN hs, bdS, has_t hD hc, hindrance_E hD hD hE hK hB hN hF hV hA g1 (g0.trans g2) hs hc]
        rw [gd_t (by omega), if_neg (by omega), if_neg (by decide)]
      · simp only [f_X11_hinders, mI, mL, mZ, msI, msL, mN1020, gC1, mR1_0, mR1_1, mR1_2, mR1_3, mR1_4, mR1_5, mR1_6, mR1_7, mR1_8, gC2, mR2_6, mR2_7, gC3, mN3, gC4, mN4, gC5, mR5_0, mR5_1, gC6, mN6, gC7, mR7_0, mR7_1, gC8, mR8_0, gC9, mN9, gC10, mR10_0, gC11, mN11, mR11_0, mR11_1, mR11_2, mR11_3, mR11_4, mR11_5, gC12, mR12_0, mR12_1, gC13, mN13, gC14, mN14, gC15, mR15_0, mR15_1, gC16, mN16, gC17, mN17, gC18, mR18_0, mR18_1, gC19, mN19, gC20, mN20, gC21, mR21_0, mR21_1, gC22, mN22, gC23, mN23, gC24, mR24_0, mR24_1, gC25, mN25, gC26, mN26, gC27, mR27_0, mR27_1, gC28, mN28, gC29, mN29, gC30, mR30_0, gC31, mN31, mR31_0, mR31_1, mR31_2, mR31_3, mR31_4, mR31_5, gC32, mR32_0, mR32_1, gC33, mN33, gC34, mN34, gC35, mR35_0, mR35_1, gC36, mN36, gC37, mN37, gC38, mR38_0, mR38_1, gC39, mN39, gC40, mN40, gC41, mR41_0, mR41_1, gC42, mN42, gC43, mN43, gC44, mR44_0, mR44_1, gC45, mN45, gC46, mN46, gC47, mR47_0, mR47_1, gC48, mN48, gC49, mN49, gC50, mR50_0, mR50_1, mR50_2, mR50_3, gC51, mN51, gC52, mN52, gC53, mN53, gC54, mN54, gC55, gC56, gC57, mR57_2, mR57_3, mR57_6, mR57_7, mR57_8, mR57_9, mR57_10, mR57_11, mR57_12, mR57_13, mR57_14, mR57_15, mR57_16, mR57_18, mR57_19, mR57_20, mR57_21, mR57_22, mR57_23, mR57_25, mR57_26, mR57_27, mR57_28, mR57_37, mR57_40, mR57_41, mR57_43, mR57_44, mR57_48, mR57_49, gC58, mN58, gC59, mN59, gC60, mN60, gC61, mN61, gC62, mN62, gC63, mN63, gC64, mN64, gC65, mN65, gC66, mN66, gC67, mN67, gC68, mN68, gC69, mN69, gC70, mN70, gC71, mN71, gC72, mN72, gC73, mN73, gC74, mN74, gC75, mN75, gC76, mN76, gC77, mN77, gC78, mN78, gC79, mN79, gC80, mN80, gC81, mN81, gC82, mN82, gC83, mN83, gC84, mN84, gC85, mN85, gC86, mN86, gC87, mN87, isStand_t hN hs, bdS, isCell_t hD hc, hindered_E hD hN hV g1 g2 hs hc]
        rw [if_neg (by decide), if_neg (by decide)]
    · refine ⟨-1, mkS n z L i l, n, i, l, ?_, ?_, ⟨_, _, rfl, by repeat first | exact Fr_rfl | refine Fr_u2 ?_ (by unfold sQ; omega)⟩, h⟩
      · simp only [f_X10_hinders, mI, mL, mZ, msI, msL, mN1020, gC1, mR1_0, mR1_1, mR1_2, mR1_3, mR1_4, mR1_5, mR1_6, mR1_7, mR1_8, gC2, mR2_6, mR2_7, gC3, mN3, gC4, mN4, gC5, mR5_0, mR5_1, gC6, mN6, gC7, mR7_0, mR7_1, gC8, mR8_0, gC9, mN9, gC10, mR10_0, gC11, mN11, mR11_0, mR11_1, mR11_2, mR11_3, mR11_4, mR11_5, gC12, mR12_0, mR12_1, gC13, mN13, gC14, mN14, gC15, mR15_0, mR15_1, gC16, mN16, gC17, mN17, gC18, mR18_0, mR18_1, gC19, mN19, gC20, mN20, gC21, mR21_0, mR21_1, gC22, mN22, gC23, mN23, gC24, mR24_0, mR24_1, gC25, mN25, gC26, mN26, gC27, mR27_0, mR27_1, gC28, mN28, gC29, mN29, gC30, mR30_0, gC31, mN31, mR31_0, mR31_1, mR31_2, mR31_3, mR31_4, mR31_5, gC32, mR32_0, mR32_1, gC33, mN33, gC34, mN34, gC35, mR35_0, mR35_1, gC36, mN36, gC37, mN37, gC38, mR38_0, mR38_1, gC39, mN39, gC40, mN40, gC41, mR41_0, mR41_1, gC42, mN42, gC43, mN43, gC44, mR44_0, mR44_1, gC45, mN45, gC46, mN46, gC47, mR47_0, mR47_1, gC48, mN48, gC49, mN49, gC50, mR50_0, mR50_1, mR50_2, mR50_3, gC51, mN51, gC52, mN52, gC53, mN53, gC54, mN54, gC55, gC56, gC57, mR57_2, mR57_3, mR57_6, mR57_7, mR57_8, mR57_9, mR57_10, mR57_11, mR57_12, mR57_13, mR57_14, mR57_15, mR57_16, mR57_18, mR57_19, mR57_20, mR57_21, mR57_22, mR57_23, mR57_25, mR57_26, mR57_27, mR57_28, mR57_37, mR57_40, mR57_41, mR57_43, mR57_44, mR57_48, mR57_49, gC58, mN58, gC59, mN59, gC60, mN60, gC61, mN61, gC62, mN62, gC63, mN63, gC64, mN64, gC65, mN65, gC66, mN66, gC67, mN67, gC68, mN68, gC69, mN69, gC70, mN70, gC71, mN71, gC72, mN72, gC73, mN73, gC74, mN74, gC75, mN75, gC76, mN76, gC77, mN77, gC78, mN78, gC79, mN79, gC80, mN80, gC81, mN81, gC82, mN82, gC83, mN83, gC84, mN84, gC85, mN85, gC86, mN86, gC87, mN87, find_t hN hs, bdS, has_f hD hy]
        rw [gd_t (by omega), if_neg (by omega), if_pos trivial]
      · simp only [f_X11_hinders, mI, mL, mZ, msI, msL, mN1020, gC1, mR1_0, mR1_1, mR1_2, mR1_3, mR1_4, mR1_5, mR1_6, mR1_7, mR1_8, gC2, mR2_6, mR2_7, gC3, mN3, gC4, mN4, gC5, mR5_0, mR5_1, gC6, mN6, gC7, mR7_0, mR7_1, gC8, mR8_0, gC9, mN9, gC10, mR10_0, gC11, mN11, mR11_0, mR11_1, mR11_2, mR11_3, mR11_4, mR11_5, gC12, mR12_0, mR12_1, gC13, mN13, gC14, mN14, gC15, mR15_0, mR15_1, gC16, mN16, gC17, mN17, gC18, mR18_0, mR18_1, gC19, mN19, gC20, mN20, gC21, mR21_0, mR21_1, gC22, mN22, gC23, mN23, gC24, mR24_0, mR24_1, gC25, mN25, gC26, mN26, gC27, mR27_0, mR27_1, gC28, mN28, gC29, mN29, gC30, mR30_0, gC31, mN31, mR31_0, mR31_1, mR31_2, mR31_3, mR31_4, mR31_5, gC32, mR32_0, mR32_1, gC33, mN33, gC34, mN34, gC35, mR35_0, mR35_1, gC36, mN36, gC37, mN37, gC38, mR38_0, mR38_1, gC39, mN39, gC40, mN40, gC41, mR41_0, mR41_1, gC42, mN42, gC43, mN43, gC44, mR44_0, mR44_1, gC45, mN45, gC46, mN46, gC47, mR47_0, mR47_1, gC48, mN48, gC49, mN49, gC50, mR50_0, mR50_1, mR50_2, mR50_3, gC51, mN51, gC52, mN52, gC53, mN53, gC54, mN54, gC55, gC56, gC57, mR57_2, mR57_3, mR57_6, mR57_7, mR57_8, mR57_9, mR57_10, mR57_11, mR57_12, mR57_13, mR57_14, mR57_15, mR57_16, mR57_18, mR57_19, mR57_20, mR57_21, mR57_22, mR57_23, mR57_25, mR57_26, mR57_27, mR57_28, mR57_37, mR57_40, mR57_41, mR57_43, mR57_44, mR57_48, mR57_49, gC58, mN58, gC59, mN59, gC60, mN60, gC61, mN61, gC62, mN62, gC63, mN63, gC64, mN64, gC65, mN65, gC66, mN66, gC67, mN67, gC68, mN68, gC69, mN69, gC70, mN70, gC71, mN71, gC72, mN72, gC73, mN73, gC74, mN74, gC75, mN75, gC76, mN76, gC77, mN77, gC78, mN78, gC79, mN79, gC80, mN80, gC81, mN81, gC82, mN82, gC83, mN83, gC84, mN84, gC85, mN85, gC86, mN86, gC87, mN87, isStand_t hN hs, bdS, isCell_f hD hy]
        rw [if_neg (by decide), if_pos trivial]
  · refine ⟨-1, mkS n z L i l, n, i, l, ?_, ?_, ⟨_, _, rfl, by repeat first | exact Fr_rfl | refine Fr_u2 ?_ (by unfold sQ; omega)⟩, h⟩
    · simp only [f_X10_hinders, mI, mL, mZ, msI, msL, mN1020, gC1, mR1_0, mR1_1, mR1_2, mR1_3, mR1_4, mR1_5, mR1_6, mR1_7, mR1_8, gC2, mR2_6, mR2_7, gC3, mN3, gC4, mN4, gC5, mR5_0, mR5_1, gC6, mN6, gC7, mR7_0, mR7_1, gC8, mR8_0, gC9, mN9, gC10, mR10_0, gC11, mN11, mR11_0, mR11_1, mR11_2, mR11_3, mR11_4, mR11_5, gC12, mR12_0, mR12_1, gC13, mN13, gC14, mN14, gC15, mR15_0, mR15_1, gC16, mN16, gC17, mN17, gC18, mR18_0, mR18_1, gC19, mN19, gC20, mN20, gC21, mR21_0, mR21_1, gC22, mN22, gC23, mN23, gC24, mR24_0, mR24_1, gC25, mN25, gC26, mN26, gC27, mR27_0, mR27_1, gC28, mN28, gC29, mN29, gC30, mR30_0, gC31, mN31, mR31_0, mR31_1, mR31_2, mR31_3, mR31_4, mR31_5, gC32, mR32_0, mR32_1, gC33, mN33, gC34, mN34, gC35, mR35_0, mR35_1, gC36, mN36, gC37, mN37, gC38, mR38_0, mR38_1, gC39, mN39, gC40, mN40, gC41, mR41_0, mR41_1, gC42, mN42, gC43, mN43, gC44, mR44_0, mR44_1, gC45, mN45, gC46, mN46, gC47, mR47_0, mR47_1, gC48, mN48, gC49, mN49, gC50, mR50_0, mR50_1, mR50_2, mR50_3, gC51, mN51, gC52, mN52, gC53, mN53, gC54, mN54, gC55, gC56, gC57, mR57_2, mR57_3, mR57_6, mR57_7, mR57_8, mR57_9, mR57_10, mR57_11, mR57_12, mR57_13, mR57_14, mR57_15, mR57_16, mR57_18, mR57_19, mR57_20, mR57_21, mR57_22, mR57_23, mR57_25, mR57_26, mR57_27, mR57_28, mR57_37, mR57_40, mR57_41, mR57_43, mR57_44, mR57_48, mR57_49, gC58, mN58, gC59, mN59, gC60, mN60, gC61, mN61, gC62, mN62, gC63, mN63, gC64, mN64, gC65, mN65, gC66, mN66, gC67, mN67, gC68, mN68, gC69, mN69, gC70, mN70, gC71, mN71, gC72, mN72, gC73, mN73, gC74, mN74, gC75, mN75, gC76, mN76, gC77, mN77, gC78, mN78, gC79, mN79, gC80, mN80, gC81, mN81, gC82, mN82, gC83, mN83, gC84, mN84, gC85, mN85, gC86, mN86, gC87, mN87, find_f hN hx, bdS]
      rw [gd_t (by omega), if_pos trivial]
    · simp only [f_X11_hinders, mI, mL, mZ, msI, msL, mN1020, gC1, mR1_0, mR1_1, mR1_2, mR1_3, mR1_4, mR1_5, mR1_6, mR1_7, mR1_8, gC2, mR2_6, mR2_7, gC3, mN3, gC4, mN4, gC5, mR5_0, mR5_1, gC6, mN6, gC7, mR7_0, mR7_1, gC8, mR8_0, gC9, mN9, gC10, mR10_0, gC11, mN11, mR11_0, mR11_1, mR11_2, mR11_3, mR11_4, mR11_5, gC12, mR12_0, mR12_1, gC13, mN13, gC14, mN14, gC15, mR15_0, mR15_1, gC16, mN16, gC17, mN17, gC18, mR18_0, mR18_1, gC19, mN19, gC20, mN20, gC21, mR21_0, mR21_1, gC22, mN22, gC23, mN23, gC24, mR24_0, mR24_1, gC25, mN25, gC26, mN26, gC27, mR27_0, mR27_1, gC28, mN28, gC29, mN29, gC30, mR30_0, gC31, mN31, mR31_0, mR31_1, mR31_2, mR31_3, mR31_4, mR31_5, gC32, mR32_0, mR32_1, gC33, mN33, gC34, mN34, gC35, mR35_0, mR35_1, gC36, mN36, gC37, mN37, gC38, mR38_0, mR38_1, gC39, mN39, gC40, mN40, gC41, mR41_0, mR41_1, gC42, mN42, gC43, mN43, gC44, mR44_0, mR44_1, gC45, mN45, gC46, mN46, gC47, mR47_0, mR47_1, gC48, mN48, gC49, mN49, gC50, mR50_0, mR50_1, mR50_2, mR50_3, gC51, mN51, gC52, mN52, gC53, mN53, gC54, mN54, gC55, gC56, gC57, mR57_2, mR57_3, mR57_6, mR57_7, mR57_8, mR57_9, mR57_10, mR57_11, mR57_12, mR57_13, mR57_14, mR57_15, mR57_16, mR57_18, mR57_19, mR57_20, mR57_21, mR57_22, mR57_23, mR57_25, mR57_26, mR57_27, mR57_28, mR57_37, mR57_40, mR57_41, mR57_43, mR57_44, mR57_48, mR57_49, gC58, mN58, gC59, mN59, gC60, mN60, gC61, mN61, gC62, mN62, gC63, mN63, gC64, mN64, gC65, mN65, gC66, mN66, gC67, mN67, gC68, mN68, gC69, mN69, gC70, mN70, gC71, mN71, gC72, mN72, gC73, mN73, gC74, mN74, gC75, mN75, gC76, mN76, gC77, mN77, gC78, mN78, gC79, mN79, gC80, mN80, gC81, mN81, gC82, mN82, gC83, mN83, gC84, mN84, gC85, mN85, gC86, mN86, gC87, mN87, isStand_f hN hx, bdS]
      rw [if_pos trivial]
theorem hin_cong {g s c : Nat} {i2 : fI} (h : ∀ p k, 57 < p → p < 88 → i2 p k = i p k) : hinV C R n z i2 g s c = hinV C R n z i g s c := by
  have g58 : ∀ k, i2 58 k = i 58 k := fun k => h 58 k (by omega) (by omega)
  have g59 : ∀ k, i2 59 k = i 59 k := fun k => h 59 k (by omega) (by omega)
  have g60 : ∀ k, i2 60 k = i 60 k := fun k => h 60 k (by omega) (by omega)
  have g61 : ∀ k, i2 61 k = i 61 k := fun k => h 61 k (by omega) (by omega)
  have g62 : ∀ k, i2 62 k = i 62 k := fun k => h 62 k (by omega) (by omega)
  have g63 : ∀ k, i2 63 k = i 63 k := fun k => h 63 k (by omega) (by omega)
  have g64 : ∀ k, i2 64 k = i 64 k := fun k => h 64 k (by omega) (by omega)
  have g65 : ∀ k, i2 65 k = i 65 k := fun k => h 65 k (by omega) (by omega)
  have g66 : ∀ k, i2 66 k = i 66 k := fun k => h 66 k (by omega) (by omega)
  have e1 : twP C i2 s c = twP C i s c := by funext k; simp only [twP, cvS, wdN, dpN, g58, g63, g64]
  have e2 : thP C n i2 s c = thP C n i s c := by funext k; simp only [thP, cvS, onB, laB, wdN, dpN, atN, g63, g64, g66]
  have e3 : foP C i2 g s c = foP C i g s c := by funext k; simp only [foP, neM, laB, wdN, dpN, atN, g62, g63, g64, g66]; try rfl
  have e4 : fiP C i2 s c = fiP C i s c := by funext k; simp only [fiP, cvS, wdN, dpN, g59, g65, g63, g64]
  have e5 : ∀ b, flB i2 n s b = flB i n s b := by intro b; simp only [flB, laB, g60, g61, g62, g66]
  have e6 : ndP C R i2 s c = ndP C R i s c := by funext k; simp only [ndP, cvS, bsP, wdN, dpN, g58, g60, g63, g64]
  simp only [hinV, sixB, e1, e2, e3, e4, e5, e6, wdN, dpN, g60, g63, g64]
  try rfl
theorem op_lay (h : Rel C R n z i l) (x y : Int32) : OpOK C R n z L (f_X10_lay 1 x y) (f_X11_lay 57 x y) i l := by
  obtain ⟨hD, hE, hK, hB, hG, hN, hF, hV, hA, hX, hT, hU, hJ, hM, hL, hO, hY, hP⟩ := id h
  have h9 := hN.1
  obtain ⟨g0, g, g1, g2⟩ := id hG
  rcases ix_em n x with ⟨s, hs, rfl⟩ | hx
  · have f := hF s hs
    rcases ix_em z y with ⟨c, hc, rfl⟩ | hy
    · by_cases e : i 68 s = 0
      · by_cases e2 : hinV C R n z i g s c = 0
        · have r : ∀ p m, p < 88 → u2 i (88 + s) 6 (nI c) p m = i p m := fun p m hp => u2_p _ _ (by omega)
          refine ⟨0, mkS n z L (u2 i (88 + s) 6 (nI c)) (u2 l (88 + s) 7 (areaV C R c (wdN i s) (dpN i s))), n, u2 (u2 i (88 + s) 6 (nI c)) 66 s (nI c), u2 l (88 + s) 7 (areaV C R c (wdN i s) (dpN i s)), ?_, ?_, ⟨_, _, rfl, by repeat first | exact Fr_rfl | refine Fr_u2 ?_ (by unfold sQ; omega)⟩, put_rel h hs hc e2⟩
          · simp only [f_X10_lay, mI, mL, mZ, msI, msL, mN1020, gC1, mR1_0, mR1_1, mR1_2, mR1_3, mR1_4, mR1_5, mR1_6, mR1_7, mR1_8, gC2, mR2_6, mR2_7, gC3, mN3, gC4, mN4, gC5, mR5_0, mR5_1, gC6, mN6, gC7, mR7_0, mR7_1, gC8, mR8_0, gC9, mN9, gC10, mR10_0, gC11, mN11, mR11_0, mR11_1, mR11_2, mR11_3, mR11_4, mR11_5, gC12, mR12_0, mR12_1, gC13, mN13, gC14, mN14, gC15, mR15_0, mR15_1, gC16, mN16, gC17, mN17, gC18, mR18_0, mR18_1, gC19, mN19, gC20, mN20, gC21, mR21_0, mR21_1, gC22, mN22, gC23, mN23, gC24, mR24_0, mR24_1, gC25, mN25, gC26, mN26, gC27, mR27_0, mR27_1, gC28, mN28, gC29, mN29, gC30, mR30_0, gC31, mN31, mR31_0, mR31_1, mR31_2, mR31_3, mR31_4, mR31_5, gC32, mR32_0, mR32_1, gC33, mN33, gC34, mN34, gC35, mR35_0, mR35_1, gC36, mN36, gC37, mN37, gC38, mR38_0, mR38_1, gC39, mN39, gC40, mN40, gC41, mR41_0, mR41_1, gC42, mN42, gC43, mN43, gC44, mR44_0, mR44_1, gC45, mN45, gC46, mN46, gC47, mR47_0, mR47_1, gC48, mN48, gC49, mN49, gC50, mR50_0, mR50_1, mR50_2, mR50_3, gC51, mN51, gC52, mN52, gC53, mN53, gC54, mN54, gC55, gC56, gC57, mR57_2, mR57_3, mR57_6, mR57_7, mR57_8, mR57_9, mR57_10, mR57_11, mR57_12, mR57_13, mR57_14, mR57_15, mR57_16, mR57_18, mR57_19, mR57_20, mR57_21, mR57_22, mR57_23, mR57_25, mR57_26, mR57_27, mR57_28, mR57_37, mR57_40, mR57_41, mR57_43, mR57_44, mR57_48, mR57_49, gC58, mN58, gC59, mN59, gC60, mN60, gC61, mN61, gC62, mN62, gC63, mN63, gC64, mN64, gC65, mN65, gC66, mN66, gC67, mN67, gC68, mN68, gC69, mN69, gC70, mN70, gC71, mN71, gC72, mN72, gC73, mN73, gC74, mN74, gC75, mN75, gC76, mN76, gC77, mN77, gC78, mN78, gC79, mN79, gC80, mN80, gC81, mN81, gC82, mN82, gC83, mN83, gC84, mN84, gC85, mN85, gC86, mN86, gC87, mN87, find_t hN hs, bdS, has_t hD hc, gCS hs, f.2.2.2.2.2.2.2.1, if_pos e, hindrance_E hD hD hE hK hB hN hF hV hA g1 (g0.trans g2) hs hc, e2, put_E hD hF hV h9 hs hc]
            rw [gd_t (by omega), if_neg (by omega), if_neg (by decide), if_pos trivial]
          · have hN' : RelN n (u2 i (88 + s) 6 (nI c)) := hN.fr (Fr_u2 Fr_rfl (by unfold sN; omega))
            have hD' : RelD C R z (u2 i (88 + s) 6 (nI c)) := hD.fr (Fr_u2 Fr_rfl (by unfold sD; omega))
            have hV' : RelV C R z n (u2 i (88 + s) 6 (nI c)) := hV.fr (Fr_u2 Fr_rfl (by unfold sVv; omega))
            simp only [f_X11_lay, mI, mL, mZ, msI, msL, mN1020, gC1, mR1_0, mR1_1, mR1_2, mR1_3, mR1_4, mR1_5, mR1_6, mR1_7, mR1_8, gC2, mR2_6, mR2_7, gC3, mN3, gC4, mN4, gC5, mR5_0, mR5_1, gC6, mN6, gC7, mR7_0, mR7_1, gC8, mR8_0, gC9, mN9, gC10, mR10_0, gC11, mN11, mR11_0, mR11_1, mR11_2, mR11_3, mR11_4, mR11_5, gC12, mR12_0, mR12_1, gC13, mN13, gC14, mN14, gC15, mR15_0, mR15_1, gC16, mN16, gC17, mN17, gC18, mR18_0, mR18_1, gC19, mN19, gC20, mN20, gC21, mR21_0, mR21_1, gC22, mN22, gC23, mN23, gC24, mR24_0, mR24_1, gC25, mN25, gC26, mN26, gC27, mR27_0, mR27_1, gC28, mN28, gC29, mN29, gC30, mR30_0, gC31, mN31, mR31_0, mR31_1, mR31_2, mR31_3, mR31_4, mR31_5, gC32, mR32_0, mR32_1, gC33, mN33, gC34, mN34, gC35, mR35_0, mR35_1, gC36, mN36, gC37, mN37, gC38, mR38_0, mR38_1, gC39, mN39, gC40, mN40, gC41, mR41_0, mR41_1, gC42, mN42, gC43, mN43, gC44, mR44_0, mR44_1, gC45, mN45, gC46, mN46, gC47, mR47_0, mR47_1, gC48, mN48, gC49, mN49, gC50, mR50_0, mR50_1, mR50_2, mR50_3, gC51, mN51, gC52, mN52, gC53, mN53, gC54, mN54, gC55, gC56, gC57, mR57_2, mR57_3, mR57_6, mR57_7, mR57_8, mR57_9, mR57_10, mR57_11, mR57_12, mR57_13, mR57_14, mR57_15, mR57_16, mR57_18, mR57_19, mR57_20, mR57_21, mR57_22, mR57_23, mR57_25, mR57_26, mR57_27, mR57_28, mR57_37, mR57_40, mR57_41, mR57_43, mR57_44, mR57_48, mR57_49, gC58, mN58, gC59, mN59, gC60, mN60, gC61, mN61, gC62, mN62, gC63, mN63, gC64, mN64, gC65, mN65, gC66, mN66, gC67, mN67, gC68, mN68, gC69, mN69, gC70, mN70, gC71, mN71, gC72, mN72, gC73, mN73, gC74, mN74, gC75, mN75, gC76, mN76, gC77, mN77, gC78, mN78, gC79, mN79, gC80, mN80, gC81, mN81, gC82, mN82, gC83, mN83, gC84, mN84, gC85, mN85, gC86, mN86, gC87, mN87, isStand_t hN' hs, bdS, isCell_t hD' hc, gI (show s < 9 by omega) (show 9 < 2 ^ 31 by omega), nI_clamp (show s < 2 ^ 31 by omega), r 68 s (by omega), if_pos e, hindered_E hD' hN' hV' g1 ((r 57 4 (by omega)).trans g2) hs hc, hin_cong (fun p k h1 h2 => r p k h2), e2, lt1E]
            rw [if_neg (by decide), if_neg (by decide), if_pos trivial]
        · refine ⟨hinV C R n z i g s c, mkS n z L i l, n, i, l, ?_, ?_, ⟨_, _, rfl, by repeat first | exact Fr_rfl | refine Fr_u2 ?_ (by unfold sQ; omega)⟩, h⟩
          · simp only [f_X10_lay, mI, mL, mZ, msI, msL, mN1020, gC1, mR1_0, mR1_1, mR1_2, mR1_3, mR1_4, mR1_5, mR1_6, mR1_7, mR1_8, gC2, mR2_6, mR2_7, gC3, mN3, gC4, mN4, gC5, mR5_0, mR5_1, gC6, mN6, gC7, mR7_0, mR7_1, gC8, mR8_0, gC9, mN9, gC10, mR10_0, gC11, mN11, mR11_0, mR11_1, mR11_2, mR11_3, mR11_4, mR11_5, gC12, mR12_0, mR12_1, gC13, mN13, gC14, mN14, gC15, mR15_0, mR15_1, gC16, mN16, gC17, mN17, gC18, mR18_0, mR18_1, gC19, mN19, gC20, mN20, gC21, mR21_0, mR21_1, gC22, mN22, gC23, mN23, gC24, mR24_0, mR24_1, gC25, mN25, gC26, mN26, gC27, mR27_0, mR27_1, gC28, mN28, gC29, mN29, gC30, mR30_0, gC31, mN31, mR31_0, mR31_1, mR31_2, mR31_3, mR31_4, mR31_5, gC32, mR32_0, mR32_1, gC33, mN33, gC34, mN34, gC35, mR35_0, mR35_1, gC36, mN36, gC37, mN37, gC38, mR38_0, mR38_1, gC39, mN39, gC40, mN40, gC41, mR41_0, mR41_1, gC42, mN42, gC43, mN43, gC44, mR44_0, mR44_1, gC45, mN45, gC46, mN46, gC47, mR47_0, mR47_1, gC48, mN48, gC49, mN49, gC50, mR50_0, mR50_1, mR50_2, mR50_3, gC51, mN51, gC52, mN52, gC53, mN53, gC54, mN54, gC55, gC56, gC57, mR57_2, mR57_3, mR57_6, mR57_7, mR57_8, mR57_9, mR57_10, mR57_11, mR57_12, mR57_13, mR57_14, mR57_15, mR57_16, mR57_18, mR57_19, mR57_20, mR57_21, mR57_22, mR57_23, mR57_25, mR57_26, mR57_27, mR57_28, mR57_37, mR57_40, mR57_41, mR57_43, mR57_44, mR57_48, mR57_49, gC58, mN58, gC59, mN59, gC60, mN60, gC61, mN61, gC62, mN62, gC63, mN63, gC64, mN64, gC65, mN65, gC66, mN66, gC67, mN67, gC68, mN68, gC69, mN69, gC70, mN70, gC71, mN71, gC72, mN72, gC73, mN73, gC74, mN74, gC75, mN75, gC76, mN76, gC77, mN77, gC78, mN78, gC79, mN79, gC80, mN80, gC81, mN81, gC82, mN82, gC83, mN83, gC84, mN84, gC85, mN85, gC86, mN86, gC87, mN87, find_t hN hs, bdS, has_t hD hc, gCS hs, f.2.2.2.2.2.2.2.1, if_pos e, hindrance_E hD hD hE hK hB hN hF hV hA g1 (g0.trans g2) hs hc, if_neg e2]
            rw [gd_t (by omega), if_neg (by omega), if_neg (by decide)]
          · have u : u2 i 66 s (i 66 s) = i := by
              funext p k
              unfold u2
              by_cases q : p = 66 ∧ k = s
              · rw [if_pos q, q.1, q.2]
              · rw [if_neg q]
            simp only [f_X11_lay, mI, mL, mZ, msI, msL, mN1020, gC1, mR1_0, mR1_1, mR1_2, mR1_3, mR1_4, mR1_5, mR1_6, mR1_7, mR1_8, gC2, mR2_6, mR2_7, gC3, mN3, gC4, mN4, gC5, mR5_0, mR5_1, gC6, mN6, gC7, mR7_0, mR7_1, gC8, mR8_0, gC9, mN9, gC10, mR10_0, gC11, mN11, mR11_0, mR11_1, mR11_2, mR11_3, mR11_4, mR11_5, gC12, mR12_0, mR12_1, gC13, mN13, gC14, mN14, gC15, mR15_0, mR15_1, gC16, mN16, gC17, mN17, gC18, mR18_0, mR18_1, gC19, mN19, gC20, mN20, gC21, mR21_0, mR21_1, gC22, mN22, gC23, mN23, gC24, mR24_0, mR24_1, gC25, mN25, gC26, mN26, gC27, mR27_0, mR27_1, gC28, mN28, gC29, mN29, gC30, mR30_0, gC31, mN31, mR31_0, mR31_1, mR31_2, mR31_3, mR31_4, mR31_5, gC32, mR32_0, mR32_1, gC33, mN33, gC34, mN34, gC35, mR35_0, mR35_1, gC36, mN36, gC37, mN37, gC38, mR38_0, mR38_1, gC39, mN39, gC40, mN40, gC41, mR41_0, mR41_1, gC42, mN42, gC43, mN43, gC44, mR44_0, mR44_1, gC45, mN45, gC46, mN46, gC47, mR47_0, mR47_1, gC48, mN48, gC49, mN49, gC50, mR50_0, mR50_1, mR50_2, mR50_3, gC51, mN51, gC52, mN52, gC53, mN53, gC54, mN54, gC55, gC56, gC57, mR57_2, mR57_3, mR57_6, mR57_7, mR57_8, mR57_9, mR57_10, mR57_11, mR57_12, mR57_13, mR57_14, mR57_15, mR57_16, mR57_18, mR57_19, mR57_20, mR57_21, mR57_22, mR57_23, mR57_25, mR57_26, mR57_27, mR57_28, mR57_37, mR57_40, mR57_41, mR57_43, mR57_44, mR57_48, mR57_49, gC58, mN58, gC59, mN59, gC60, mN60, gC61, mN61, gC62, mN62, gC63, mN63, gC64, mN64, gC65, mN65, gC66, mN66, gC67, mN67, gC68, mN68, gC69, mN69, gC70, mN70, gC71, mN71, gC72, mN72, gC73, mN73, gC74, mN74, gC75, mN75, gC76, mN76, gC77, mN77, gC78, mN78, gC79, mN79, gC80, mN80, gC81, mN81, gC82, mN82, gC83, mN83, gC84, mN84, gC85, mN85, gC86, mN86, gC87, mN87, isStand_t hN hs, bdS, isCell_t hD hc, gI (show s < 9 by omega) (show 9 < 2 ^ 31 by omega), nI_clamp (show s < 2 ^ 31 by omega), if_pos e, hindered_E hD hN hV g1 g2 hs hc, if_neg e2, lt1E, u]
            rw [if_neg (by decide), if_neg (by decide)]
      · refine ⟨-3, mkS n z L i l, n, i, l, ?_, ?_, ⟨_, _, rfl, by repeat first | exact Fr_rfl | refine Fr_u2 ?_ (by unfold sQ; omega)⟩, h⟩
        · simp only [f_X10_lay, mI, mL, mZ, msI, msL, mN1020, gC1, mR1_0, mR1_1, mR1_2, mR1_3, mR1_4, mR1_5, mR1_6, mR1_7, mR1_8, gC2, mR2_6, mR2_7, gC3, mN3, gC4, mN4, gC5, mR5_0, mR5_1, gC6, mN6, gC7, mR7_0, mR7_1, gC8, mR8_0, gC9, mN9, gC10, mR10_0, gC11, mN11, mR11_0, mR11_1, mR11_2, mR11_3, mR11_4, mR11_5, gC12, mR12_0, mR12_1, gC13, mN13, gC14, mN14, gC15, mR15_0, mR15_1, gC16, mN16, gC17, mN17, gC18, mR18_0, mR18_1, gC19, mN19, gC20, mN20, gC21, mR21_0, mR21_1, gC22, mN22, gC23, mN23, gC24, mR24_0, mR24_1, gC25, mN25, gC26, mN26, gC27, mR27_0, mR27_1, gC28, mN28, gC29, mN29, gC30, mR30_0, gC31, mN31, mR31_0, mR31_1, mR31_2, mR31_3, mR31_4, mR31_5, gC32, mR32_0, mR32_1, gC33, mN33, gC34, mN34, gC35, mR35_0, mR35_1, gC36, mN36, gC37, mN37, gC38, mR38_0, mR38_1, gC39, mN39, gC40, mN40, gC41, mR41_0, mR41_1, gC42, mN42, gC43, mN43, gC44, mR44_0, mR44_1, gC45, mN45, gC46, mN46, gC47, mR47_0, mR47_1, gC48, mN48, gC49, mN49, gC50, mR50_0, mR50_1, mR50_2, mR50_3, gC51, mN51, gC52, mN52, gC53, mN53, gC54, mN54, gC55, gC56, gC57, mR57_2, mR57_3, mR57_6, mR57_7, mR57_8, mR57_9, mR57_10, mR57_11, mR57_12, mR57_13, mR57_14, mR57_15, mR57_16, mR57_18, mR57_19, mR57_20, mR57_21, mR57_22, mR57_23, mR57_25, mR57_26, mR57_27, mR57_28, mR57_37, mR57_40, mR57_41, mR57_43, mR57_44, mR57_48, mR57_49, gC58, mN58, gC59, mN59, gC60, mN60, gC61, mN61, gC62, mN62, gC63, mN63, gC64, mN64, gC65, mN65, gC66, mN66, gC67, mN67, gC68, mN68, gC69, mN69, gC70, mN70, gC71, mN71, gC72, mN72, gC73, mN73, gC74, mN74, gC75, mN75, gC76, mN76, gC77, mN77, gC78, mN78, gC79, mN79, gC80, mN80, gC81, mN81, gC82, mN82, gC83, mN83, gC84, mN84, gC85, mN85, gC86, mN86, gC87, mN87, find_t hN hs, bdS, has_t hD hc, gCS hs, f.2.2.2.2.2.2.2.1, if_neg e]
          rw [gd_t (by omega), if_neg (by omega), if_neg (by decide)]
        · simp only [f_X11_lay, mI, mL, mZ, msI, msL, mN1020, gC1, mR1_0, mR1_1, mR1_2, mR1_3, mR1_4, mR1_5, mR1_6, mR1_7, mR1_8, gC2, mR2_6, mR2_7, gC3, mN3, gC4, mN4, gC5, mR5_0, mR5_1, gC6, mN6, gC7, mR7_0, mR7_1, gC8, mR8_0, gC9, mN9, gC10, mR10_0, gC11, mN11, mR11_0, mR11_1, mR11_2, mR11_3, mR11_4, mR11_5, gC12, mR12_0, mR12_1, gC13, mN13, gC14, mN14, gC15, mR15_0, mR15_1, gC16, mN16, gC17, mN17, gC18, mR18_0, mR18_1, gC19, mN19, gC20, mN20, gC21, mR21_0, mR21_1, gC22, mN22, gC23, mN23, gC24, mR24_0, mR24_1, gC25, mN25, gC26, mN26, gC27, mR27_0, mR27_1, gC28, mN28, gC29, mN29, gC30, mR30_0, gC31, mN31, mR31_0, mR31_1, mR31_2, mR31_3, mR31_4, mR31_5, gC32, mR32_0, mR32_1, gC33, mN33, gC34, mN34, gC35, mR35_0, mR35_1, gC36, mN36, gC37, mN37, gC38, mR38_0, mR38_1, gC39, mN39, gC40, mN40, gC41, mR41_0, mR41_1, gC42, mN42, gC43, mN43, gC44, mR44_0, mR44_1, gC45, mN45, gC46, mN46, gC47, mR47_0, mR47_1, gC48, mN48, gC49, mN49, gC50, mR50_0, mR50_1, mR50_2, mR50_3, gC51, mN51, gC52, mN52, gC53, mN53, gC54, mN54, gC55, gC56, gC57, mR57_2, mR57_3, mR57_6, mR57_7, mR57_8, mR57_9, mR57_10, mR57_11, mR57_12, mR57_13, mR57_14, mR57_15, mR57_16, mR57_18, mR57_19, mR57_20, mR57_21, mR57_22, mR57_23, mR57_25, mR57_26, mR57_27, mR57_28, mR57_37, mR57_40, mR57_41, mR57_43, mR57_44, mR57_48, mR57_49, gC58, mN58, gC59, mN59, gC60, mN60, gC61, mN61, gC62, mN62, gC63, mN63, gC64, mN64, gC65, mN65, gC66, mN66, gC67, mN67, gC68, mN68, gC69, mN69, gC70, mN70, gC71, mN71, gC72, mN72, gC73, mN73, gC74, mN74, gC75, mN75, gC76, mN76, gC77, mN77, gC78, mN78, gC79, mN79, gC80, mN80, gC81, mN81, gC82, mN82, gC83, mN83, gC84, mN84, gC85, mN85, gC86, mN86, gC87, mN87, isStand_t hN hs, bdS, isCell_t hD hc, gI (show s < 9 by omega) (show 9 < 2 ^ 31 by omega), nI_clamp (show s < 2 ^ 31 by omega), if_neg e]
          rw [if_neg (by decide), if_neg (by decide)]
    · refine ⟨-1, mkS n z L i l, n, i, l, ?_, ?_, ⟨_, _, rfl, by repeat first | exact Fr_rfl | refine Fr_u2 ?_ (by unfold sQ; omega)⟩, h⟩
      · simp only [f_X10_lay, mI, mL, mZ, msI, msL, mN1020, gC1, mR1_0, mR1_1, mR1_2, mR1_3, mR1_4, mR1_5, mR1_6, mR1_7, mR1_8, gC2, mR2_6, mR2_7, gC3, mN3, gC4, mN4, gC5, mR5_0, mR5_1, gC6, mN6, gC7, mR7_0, mR7_1, gC8, mR8_0, gC9, mN9, gC10, mR10_0, gC11, mN11, mR11_0, mR11_1, mR11_2, mR11_3, mR11_4, mR11_5, gC12, mR12_0, mR12_1, gC13, mN13, gC14, mN14, gC15, mR15_0, mR15_1, gC16, mN16, gC17, mN17, gC18, mR18_0, mR18_1, gC19, mN19, gC20, mN20, gC21, mR21_0, mR21_1, gC22, mN22, gC23, mN23, gC24, mR24_0, mR24_1, gC25, mN25, gC26, mN26, gC27, mR27_0, mR27_1, gC28, mN28, gC29, mN29, gC30, mR30_0, gC31, mN31, mR31_0, mR31_1, mR31_2, mR31_3, mR31_4, mR31_5, gC32, mR32_0, mR32_1, gC33, mN33, gC34, mN34, gC35, mR35_0, mR35_1, gC36, mN36, gC37, mN37, gC38, mR38_0, mR38_1, gC39, mN39, gC40, mN40, gC41, mR41_0, mR41_1, gC42, mN42, gC43, mN43, gC44, mR44_0, mR44_1, gC45, mN45, gC46, mN46, gC47, mR47_0, mR47_1, gC48, mN48, gC49, mN49, gC50, mR50_0, mR50_1, mR50_2, mR50_3, gC51, mN51, gC52, mN52, gC53, mN53, gC54, mN54, gC55, gC56, gC57, mR57_2, mR57_3, mR57_6, mR57_7, mR57_8, mR57_9, mR57_10, mR57_11, mR57_12, mR57_13, mR57_14, mR57_15, mR57_16, mR57_18, mR57_19, mR57_20, mR57_21, mR57_22, mR57_23, mR57_25, mR57_26, mR57_27, mR57_28, mR57_37, mR57_40, mR57_41, mR57_43, mR57_44, mR57_48, mR57_49, gC58, mN58, gC59, mN59, gC60, mN60, gC61, mN61, gC62, mN62, gC63, mN63, gC64, mN64, gC65, mN65, gC66, mN66, gC67, mN67, gC68, mN68, gC69, mN69, gC70, mN70, gC71, mN71, gC72, mN72, gC73, mN73, gC74, mN74, gC75, mN75, gC76, mN76, gC77, mN77, gC78, mN78, gC79, mN79, gC80, mN80, gC81, mN81, gC82, mN82, gC83, mN83, gC84, mN84, gC85, mN85, gC86, mN86, gC87, mN87, find_t hN hs, bdS, has_f hD hy]
        rw [gd_t (by omega), if_neg (by omega), if_pos trivial]
      · simp only [f_X11_lay, mI, mL, mZ, msI, msL, mN1020, gC1, mR1_0, mR1_1, mR1_2, mR1_3, mR1_4, mR1_5, mR1_6, mR1_7, mR1_8, gC2, mR2_6, mR2_7, gC3, mN3, gC4, mN4, gC5, mR5_0, mR5_1, gC6, mN6, gC7, mR7_0, mR7_1, gC8, mR8_0, gC9, mN9, gC10, mR10_0, gC11, mN11, mR11_0, mR11_1, mR11_2, mR11_3, mR11_4, mR11_5, gC12, mR12_0, mR12_1, gC13, mN13, gC14, mN14, gC15, mR15_0, mR15_1, gC16, mN16, gC17, mN17, gC18, mR18_0, mR18_1, gC19, mN19, gC20, mN20, gC21, mR21_0, mR21_1, gC22, mN22, gC23, mN23, gC24, mR24_0, mR24_1, gC25, mN25, gC26, mN26, gC27, mR27_0, mR27_1, gC28, mN28, gC29, mN29, gC30, mR30_0, gC31, mN31, mR31_0, mR31_1, mR31_2, mR31_3, mR31_4, mR31_5, gC32, mR32_0, mR32_1, gC33, mN33, gC34, mN34, gC35, mR35_0, mR35_1, gC36, mN36, gC37, mN37, gC38, mR38_0, mR38_1, gC39, mN39, gC40, mN40, gC41, mR41_0, mR41_1, gC42, mN42, gC43, mN43, gC44, mR44_0, mR44_1, gC45, mN45, gC46, mN46, gC47, mR47_0, mR47_1, gC48, mN48, gC49, mN49, gC50, mR50_0, mR50_1, mR50_2, mR50_3, gC51, mN51, gC52, mN52, gC53, mN53, gC54, mN54, gC55, gC56, gC57, mR57_2, mR57_3, mR57_6, mR57_7, mR57_8, mR57_9, mR57_10, mR57_11, mR57_12, mR57_13, mR57_14, mR57_15, mR57_16, mR57_18, mR57_19, mR57_20, mR57_21, mR57_22, mR57_23, mR57_25, mR57_26, mR57_27, mR57_28, mR57_37, mR57_40, mR57_41, mR57_43, mR57_44, mR57_48, mR57_49, gC58, mN58, gC59, mN59, gC60, mN60, gC61, mN61, gC62, mN62, gC63, mN63, gC64, mN64, gC65, mN65, gC66, mN66, gC67, mN67, gC68, mN68, gC69, mN69, gC70, mN70, gC71, mN71, gC72, mN72, gC73, mN73, gC74, mN74, gC75, mN75, gC76, mN76, gC77, mN77, gC78, mN78, gC79, mN79, gC80, mN80, gC81, mN81, gC82, mN82, gC83, mN83, gC84, mN84, gC85, mN85, gC86, mN86, gC87, mN87, isStand_t hN hs, bdS, isCell_f hD hy]
        rw [if_neg (by decide), if_pos trivial]
  · refine ⟨-1, mkS n z L i l, n, i, l, ?_, ?_, ⟨_, _, rfl, by repeat first | exact Fr_rfl | refine Fr_u2 ?_ (by unfold sQ; omega)⟩, h⟩
    · simp only [f_X10_lay, mI, mL, mZ, msI, msL, mN1020, gC1, mR1_0, mR1_1, mR1_2, mR1_3, mR1_4, mR1_5, mR1_6, mR1_7, mR1_8, gC2, mR2_6, mR2_7, gC3, mN3, gC4, mN4, gC5, mR5_0, mR5_1, gC6, mN6, gC7, mR7_0, mR7_1, gC8, mR8_0, gC9, mN9, gC10, mR10_0, gC11, mN11, mR11_0, mR11_1, mR11_2, mR11_3, mR11_4, mR11_5, gC12, mR12_0, mR12_1, gC13, mN13, gC14, mN14, gC15, mR15_0, mR15_1, gC16, mN16, gC17, mN17, gC18, mR18_0, mR18_1, gC19, mN19, gC20, mN20, gC21, mR21_0, mR21_1, gC22, mN22, gC23, mN23, gC24, mR24_0, mR24_1, gC25, mN25, gC26, mN26, gC27, mR27_0, mR27_1, gC28, mN28, gC29, mN29, gC30, mR30_0, gC31, mN31, mR31_0, mR31_1, mR31_2, mR31_3, mR31_4, mR31_5, gC32, mR32_0, mR32_1, gC33, mN33, gC34, mN34, gC35, mR35_0, mR35_1, gC36, mN36, gC37, mN37, gC38, mR38_0, mR38_1, gC39, mN39, gC40, mN40, gC41, mR41_0, mR41_1, gC42, mN42, gC43, mN43, gC44, mR44_0, mR44_1, gC45, mN45, gC46, mN46, gC47, mR47_0, mR47_1, gC48, mN48, gC49, mN49, gC50, mR50_0, mR50_1, mR50_2, mR50_3, gC51, mN51, gC52, mN52, gC53, mN53, gC54, mN54, gC55, gC56, gC57, mR57_2, mR57_3, mR57_6, mR57_7, mR57_8, mR57_9, mR57_10, mR57_11, mR57_12, mR57_13, mR57_14, mR57_15, mR57_16, mR57_18, mR57_19, mR57_20, mR57_21, mR57_22, mR57_23, mR57_25, mR57_26, mR57_27, mR57_28, mR57_37, mR57_40, mR57_41, mR57_43, mR57_44, mR57_48, mR57_49, gC58, mN58, gC59, mN59, gC60, mN60, gC61, mN61, gC62, mN62, gC63, mN63, gC64, mN64, gC65, mN65, gC66, mN66, gC67, mN67, gC68, mN68, gC69, mN69, gC70, mN70, gC71, mN71, gC72, mN72, gC73, mN73, gC74, mN74, gC75, mN75, gC76, mN76, gC77, mN77, gC78, mN78, gC79, mN79, gC80, mN80, gC81, mN81, gC82, mN82, gC83, mN83, gC84, mN84, gC85, mN85, gC86, mN86, gC87, mN87, find_f hN hx, bdS]
      rw [gd_t (by omega), if_pos trivial]
    · simp only [f_X11_lay, mI, mL, mZ, msI, msL, mN1020, gC1, mR1_0, mR1_1, mR1_2, mR1_3, mR1_4, mR1_5, mR1_6, mR1_7, mR1_8, gC2, mR2_6, mR2_7, gC3, mN3, gC4, mN4, gC5, mR5_0, mR5_1, gC6, mN6, gC7, mR7_0, mR7_1, gC8, mR8_0, gC9, mN9, gC10, mR10_0, gC11, mN11, mR11_0, mR11_1, mR11_2, mR11_3, mR11_4, mR11_5, gC12, mR12_0, mR12_1, gC13, mN13, gC14, mN14, gC15, mR15_0, mR15_1, gC16, mN16, gC17, mN17, gC18, mR18_0, mR18_1, gC19, mN19, gC20, mN20, gC21, mR21_0, mR21_1, gC22, mN22, gC23, mN23, gC24, mR24_0, mR24_1, gC25, mN25, gC26, mN26, gC27, mR27_0, mR27_1, gC28, mN28, gC29, mN29, gC30, mR30_0, gC31, mN31, mR31_0, mR31_1, mR31_2, mR31_3, mR31_4, mR31_5, gC32, mR32_0, mR32_1, gC33, mN33, gC34, mN34, gC35, mR35_0, mR35_1, gC36, mN36, gC37, mN37, gC38, mR38_0, mR38_1, gC39, mN39, gC40, mN40, gC41, mR41_0, mR41_1, gC42, mN42, gC43, mN43, gC44, mR44_0, mR44_1, gC45, mN45, gC46, mN46, gC47, mR47_0, mR47_1, gC48, mN48, gC49, mN49, gC50, mR50_0, mR50_1, mR50_2, mR50_3, gC51, mN51, gC52, mN52, gC53, mN53, gC54, mN54, gC55, gC56, gC57, mR57_2, mR57_3, mR57_6, mR57_7, mR57_8, mR57_9, mR57_10, mR57_11, mR57_12, mR57_13, mR57_14, mR57_15, mR57_16, mR57_18, mR57_19, mR57_20, mR57_21, mR57_22, mR57_23, mR57_25, mR57_26, mR57_27, mR57_28, mR57_37, mR57_40, mR57_41, mR57_43, mR57_44, mR57_48, mR57_49, gC58, mN58, gC59, mN59, gC60, mN60, gC61, mN61, gC62, mN62, gC63, mN63, gC64, mN64, gC65, mN65, gC66, mN66, gC67, mN67, gC68, mN68, gC69, mN69, gC70, mN70, gC71, mN71, gC72, mN72, gC73, mN73, gC74, mN74, gC75, mN75, gC76, mN76, gC77, mN77, gC78, mN78, gC79, mN79, gC80, mN80, gC81, mN81, gC82, mN82, gC83, mN83, gC84, mN84, gC85, mN85, gC86, mN86, gC87, mN87, isStand_f hN hx, bdS]
      rw [if_pos trivial]
end LAYS2
