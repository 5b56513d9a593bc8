section CTORM
variable {i : fI} {l : fL} {R : Nat → Nat → Nat} {T N : Nat → Nat} {Z : Nat}
theorem mdl_l (hT : T 57 = 11) (hR : R 57 3 = 59) (hT2 : T 59 = 20) (hN : N 59 = 64) (hR2 : R 57 27 = 79) (hT3 : T 79 = 20) (hN2 : N 79 = 108) : f_X11_init_l398 xFu 57 0 (mk6 i l R T N 87) = some ((), mk6 (clr (clr i 59 50 64) 79 (-1) 108) l R T N 87) := by
  have key2 : f_X11_init_l420 xFu 57 (nI 0) (mk6 (clr (clr i 59 50 64) 79 (-1) 0) l R T N 87) = some ((), mk6 (clr (clr i 59 50 64) 79 (-1) 108) l R T N 87) := by
    refine acc_loopG (fun m a q => f_X11_init_l420 m 57 a q) (fun s => nI s) (fun s => mk6 (clr (clr i 59 50 64) 79 (-1) s) l R T N 87) 108 _ ?_ ?_ 108 0 xFu (by omega) (by unfold xFu; omega)
    · intro m
      show f_X11_init_l420 (m + 1) 57 (nI 108) _ = _
      rw [f_X11_init_l420_s, if_pos (by decide)]
    · intro m s hs
      show f_X11_init_l420 (m + 1) 57 (nI s) _ = f_X11_init_l420 m 57 (nI (s + 1)) _
      rw [f_X11_init_l420_s, if_neg (show ¬ (108 : Int32) ≤ nI s from nI_ge hs (show 108 < 2 ^ 31 by decide)), k_C (by decide) (by decide) hT, k_r hR2, k_C (by decide) (by decide) hT3, k_n hN2, gI hs (by omega), nI_clamp (by omega), k_I, clr_s, nI_1]
  have key : f_X11_init_l398 xFu 57 (nI 0) (mk6 (clr i 59 50 0) l R T N 87) = some ((), mk6 (clr (clr i 59 50 64) 79 (-1) 108) l R T N 87) := by
    refine acc_loopG (fun m a q => f_X11_init_l398 m 57 a q) (fun s => nI s) (fun s => mk6 (clr i 59 50 s) l R T N 87) 64 _ ?_ ?_ 64 0 xFu (by omega) (by unfold xFu; omega)
    · intro m
      show f_X11_init_l398 (m + 1) 57 (nI 64) _ = _
      rw [f_X11_init_l398_s, if_pos (by decide)]
      rw [clr_0] at key2
      exact key2
    · intro m s hs
      show f_X11_init_l398 (m + 1) 57 (nI s) _ = f_X11_init_l398 m 57 (nI (s + 1)) _
      rw [f_X11_init_l398_s, if_neg (show ¬ (64 : Int32) ≤ nI s from nI_ge hs (show 64 < 2 ^ 31 by decide)), k_C (by decide) (by decide) hT, k_r hR, k_C (by decide) (by decide) hT2, k_n hN, gI hs (by omega), nI_clamp (by omega), k_I, clr_s, nI_1]
  rw [clr_0] at key
  exact key
theorem finS {z L : Nat} (hR : ∀ p k, R p k = ((xRB 0).getD p []).getD k 0) (hT : ∀ p, T p = (xTB ++ List.replicate 0 6).getD p 0) (hN : ∀ p, N p = if p = 1020 then L else (xNB z).getD p 0) : some ((), mk6 i l R T N 87) = some ((), mkS 0 z L i l) := by
  rw [funext fun p => funext fun k => hR p k, funext hT, funext hN]
  rfl
theorem rl88 : ∀ p, p < 88 → ((xRB 0).getD p []).length ≤ 50 := by decide +kernel
theorem rn88 : (xRB 0).length = 88 ∧ xTB.length = 88 := by decide +kernel
theorem ctorM (L z : Nat) (i : fI) (l : fL) {v1 v2 : Int32} {C H : Nat} (h57 : ∀ k, i 57 k = 0) (g1 : (3 : Int32) + (((v1 - v1 / (6 : Int32) * (6 : Int32)) + (6 : Int32)) - ((v1 - v1 / (6 : Int32) * (6 : Int32)) + (6 : Int32)) / (6 : Int32) * (6 : Int32)) = nI C) (g2 : (3 : Int32) + (((v2 - v2 / (6 : Int32) * (6 : Int32)) + (6 : Int32)) - ((v2 - v2 / (6 : Int32) * (6 : Int32)) + (6 : Int32)) / (6 : Int32) * (6 : Int32)) = nI H) : ∃ i2 l2, f_X11_init 57 v1 v2 (mk6 i l (zr0 0 RCd 57) (upF TCd 57 11) (upF (NCd z L) 57 0) 57) = some ((), mkS 0 z L i2 l2) ∧ (∀ p k, p < 57 → i2 p k = i p k) ∧ (∀ p k, p < 57 → l2 p k = l p k) ∧ (i2 57 0 = nI C ∧ i2 57 1 = nI H ∧ i2 57 4 = 1 ∧ i2 57 5 = 0 ∧ i2 57 17 = 0 ∧ i2 57 24 = 0 ∧ i2 57 29 = 1000 ∧ i2 57 30 = 0 ∧ i2 57 31 = 0 ∧ i2 57 32 = 0 ∧ i2 57 33 = 0 ∧ i2 57 34 = 0 ∧ i2 57 35 = 0 ∧ i2 57 36 = 0 ∧ i2 57 38 = 0 ∧ i2 57 39 = 180) ∧ ((∀ c, i2 58 c = 0) ∧ (∀ c, c < 64 → i2 59 c = 50) ∧ (∀ c, i2 68 c = 0) ∧ (∀ c, i2 69 c = 0) ∧ (∀ c, i2 71 c = 0) ∧ (∀ c, i2 77 c = 0) ∧ (∀ c, i2 78 c = 0) ∧ (∀ c, c < 108 → i2 79 c = -1) ∧ (∀ c, i2 80 c = 0) ∧ RelY i2) := by
  have c0 : (0 : Int32).toNatClampNeg = 0 := by decide
  have c1 : (1 : Int32).toNatClampNeg = 1 := by decide
  have c2 : (2 : Int32).toNatClampNeg = 2 := by decide
  have c3 : (3 : Int32).toNatClampNeg = 3 := by decide
  have c4 : (4 : Int32).toNatClampNeg = 4 := by decide
  have c5 : (5 : Int32).toNatClampNeg = 5 := by decide
  have c6 : (6 : Int32).toNatClampNeg = 6 := by decide
  have c7 : (7 : Int32).toNatClampNeg = 7 := by decide
  have c8 : (8 : Int32).toNatClampNeg = 8 := by decide
  have c9 : (9 : Int32).toNatClampNeg = 9 := by decide
  have c10 : (10 : Int32).toNatClampNeg = 10 := by decide
  have c11 : (11 : Int32).toNatClampNeg = 11 := by decide
  have c12 : (12 : Int32).toNatClampNeg = 12 := by decide
  have c13 : (13 : Int32).toNatClampNeg = 13 := by decide
  have c14 : (14 : Int32).toNatClampNeg = 14 := by decide
  have c15 : (15 : Int32).toNatClampNeg = 15 := by decide
  have c16 : (16 : Int32).toNatClampNeg = 16 := by decide
  have c17 : (17 : Int32).toNatClampNeg = 17 := by decide
  have c18 : (18 : Int32).toNatClampNeg = 18 := by decide
  have c36 : (36 : Int32).toNatClampNeg = 36 := by decide
  have c48 : (48 : Int32).toNatClampNeg = 48 := by decide
  have c60 : (60 : Int32).toNatClampNeg = 60 := by decide
  have c64 : (64 : Int32).toNatClampNeg = 64 := by decide
  have c108 : (108 : Int32).toNatClampNeg = 108 := by decide
  have c120 : (120 : Int32).toNatClampNeg = 120 := by decide
  have c512 : (512 : Int32).toNatClampNeg = 512 := by decide
  obtain ⟨w, hw⟩ : ∃ w, f_X11_init 57 v1 v2 (mk6 i l (zr0 0 RCd 57) (upF TCd 57 11) (upF (NCd z L) 57 0) 57) = w := ⟨_, rfl⟩
  rw [hw]
  rw [f_X11_init, c0, c1, c2, c3, c4, c5, c6, c7, c8, c9, c10, c11, c12, c13, c14, c15, c16, c17, c18, c36, c48, c60, c64, c108, c120, c512, k_C (by decide) (by decide) (by rfl), k_Z (by decide), k_q (Z2 := 58) (by rfl), k_A (Z2 := 58) (by rfl), k_R, k_Z (by decide), k_q (Z2 := 59) (by rfl), k_A (Z2 := 59) (by rfl), k_R, k_I, k_Z (by decide), k_q (Z2 := 60) (by rfl), k_A (Z2 := 60) (by rfl), k_R, k_Z (by decide), k_q (Z2 := 61) (by rfl), k_A (Z2 := 61) (by rfl), k_R, k_Z (by decide), k_q (Z2 := 62) (by rfl), k_A (Z2 := 62) (by rfl), k_R, k_Z (by decide), k_q (Z2 := 63) (by rfl), k_A (Z2 := 63) (by rfl), k_R, k_Z (by decide), k_q (Z2 := 64) (by rfl), k_A (Z2 := 64) (by rfl), k_R, k_Z (by decide), k_q (Z2 := 65) (by rfl), k_A (Z2 := 65) (by rfl), k_R, k_Z (by decide), k_q (Z2 := 66) (by rfl), k_A (Z2 := 66) (by rfl), k_R, k_Z (by decide), k_q (Z2 := 67) (by rfl), k_A (Z2 := 67) (by rfl), k_R, k_Z (by decide), k_q (Z2 := 68) (by rfl), k_A (Z2 := 68) (by rfl), k_R, k_Z (by decide), k_q (Z2 := 69) (by rfl), k_A (Z2 := 69) (by rfl), k_R, k_Z (by decide), k_q (Z2 := 70) (by rfl), k_A (Z2 := 70) (by rfl), k_R, k_Z (by decide), k_q (Z2 := 71) (by rfl), k_A (Z2 := 71) (by rfl), k_R, k_Z (by decide), k_q (Z2 := 72) (by rfl), k_A (Z2 := 72) (by rfl), k_R, k_Z (by decide), k_q (Z2 := 73) (by rfl), k_A (Z2 := 73) (by rfl), k_R, k_Z (by decide), k_q (Z2 := 74) (by rfl), k_A (Z2 := 74) (by rfl), k_R, k_Z (by decide), k_q (Z2 := 75) (by rfl), k_A (Z2 := 75) (by rfl), k_R, k_Z (by decide), k_q (Z2 := 76) (by rfl), k_A (Z2 := 76) (by rfl), k_R, k_Z (by decide), k_q (Z2 := 77) (by rfl), k_A (Z2 := 77) (by rfl), k_R, k_Z (by decide), k_q (Z2 := 78) (by rfl), k_A (Z2 := 78) (by rfl), k_R, k_Z (by decide), k_q (Z2 := 79) (by rfl), k_A (Z2 := 79) (by rfl), k_R, k_Z (by decide), k_q (Z2 := 80) (by rfl), k_A (Z2 := 80) (by rfl), k_R, k_I, k_Z (by decide), k_q (Z2 := 81) (by rfl), k_A (Z2 := 81) (by rfl), k_R, k_I, k_Z (by decide), k_q (Z2 := 82) (by rfl), k_A (Z2 := 82) (by rfl), k_R, k_Z (by decide), k_q (Z2 := 83) (by rfl), k_A (Z2 := 83) (by rfl), k_R, k_Z (by decide), k_q (Z2 := 84) (by rfl), k_A (Z2 := 84) (by rfl), k_R, k_Z (by decide), k_q (Z2 := 85) (by rfl), k_A (Z2 := 85) (by rfl), k_R, k_Z (by decide), k_q (Z2 := 86) (by rfl), k_A (Z2 := 86) (by rfl), k_N (m := 18) (by rfl) (by decide), k_I, k_N (m := 18) (by rfl) (by decide), k_I, k_N (m := 18) (by rfl) (by decide), k_I, k_N (m := 18) (by rfl) (by decide), k_I, k_N (m := 18) (by rfl) (by decide), k_I, k_N (m := 18) (by rfl) (by decide), k_I, k_N (m := 18) (by rfl) (by decide), k_I, k_N (m := 18) (by rfl) (by decide), k_I, k_N (m := 18) (by rfl) (by decide), k_I, k_N (m := 18) (by rfl) (by decide), k_I, k_N (m := 18) (by rfl) (by decide), k_I, k_N (m := 18) (by rfl) (by decide), k_I, k_N (m := 18) (by rfl) (by decide), k_I, k_N (m := 18) (by rfl) (by decide), k_I, k_N (m := 18) (by rfl) (by decide), k_I, k_N (m := 18) (by rfl) (by decide), k_I, k_N (m := 18) (by rfl) (by decide), k_I, k_N (m := 18) (by rfl) (by decide), k_I, k_R, k_Z (by decide), k_q (Z2 := 87) (by rfl), k_A (Z2 := 87) (by rfl), k_R, k_I, k_I, g1, g2, mdl_l (by rfl) (by rfl) (by rfl) (by rfl) (by rfl) (by rfl) (by rfl)] at hw
  subst hw
  refine ⟨_, _, finS (fun p k => ?_) (fun p => ?_) (fun p => ?_), fun p k hp => ?_, fun p k hp => ?_, ⟨?_, ?_, ?_, ?_, ?_, ?_, ?_, ?_, ?_, ?_, ?_, ?_, ?_, ?_, ?_, ?_⟩, ⟨?_, ?_, ?_, ?_, ?_, ?_, ?_, ?_, ?_, ?_⟩⟩
  · by_cases hp : p < 88
    · by_cases hk : k < 50
      · revert hk
        revert k
        revert hp
        revert p
        decide +kernel
      · have e2 : ((xRB 0).getD p []).getD k 0 = 0 := by
          rw [List.getD_eq_getElem?_getD, List.getElem?_eq_none]
          · rfl
          · exact Nat.le_trans (rl88 p hp) (by omega)
        have e3 : RCd p k = 0 := by
          unfold RCd
          split
          · exact e2
          · rfl
        rw [e2]
        repeat first | rw [u2_n _ _ (by omega)] | refine zr_z ?_
        exact e3
    · have e2 : ((xRB 0).getD p []).getD k 0 = 0 := by
        have : (xRB 0).getD p [] = [] := by
          rw [List.getD_eq_getElem?_getD, List.getElem?_eq_none (by rw [rn88.1]; omega)]
          rfl
        rw [this]
        rfl
      rw [e2]
      repeat first | rw [u2_n _ _ (by omega)] | refine zr_z ?_
      exact if_neg (by omega)
  · show _ = xTB.getD p 0
    by_cases hp : p < 88
    · revert hp
      revert p
      decide +kernel
    · have e2 : xTB.getD p 0 = 0 := by
        rw [List.getD_eq_getElem?_getD, List.getElem?_eq_none (by rw [rn88.2]; omega)]
        rfl
      rw [e2]
      repeat rw [upF_n _ _ (by omega)]
      exact if_neg (by omega)
  · by_cases hp : p < 88
    · have e2 : (if p = 1020 then L else (xNB z).getD p 0) = (xNB z).getD p 0 := if_neg (by omega)
      rw [e2]
      exact match p, hp with
        | 0, _ => rfl | 1, _ => rfl | 2, _ => rfl | 3, _ => rfl | 4, _ => rfl | 5, _ => rfl | 6, _ => rfl | 7, _ => rfl | 8, _ => rfl | 9, _ => rfl | 10, _ => rfl | 11, _ => rfl | 12, _ => rfl | 13, _ => rfl | 14, _ => rfl | 15, _ => rfl | 16, _ => rfl | 17, _ => rfl | 18, _ => rfl | 19, _ => rfl | 20, _ => rfl | 21, _ => rfl | 22, _ => rfl | 23, _ => rfl | 24, _ => rfl | 25, _ => rfl | 26, _ => rfl | 27, _ => rfl | 28, _ => rfl | 29, _ => rfl | 30, _ => rfl | 31, _ => rfl | 32, _ => rfl | 33, _ => rfl | 34, _ => rfl | 35, _ => rfl | 36, _ => rfl | 37, _ => rfl | 38, _ => rfl | 39, _ => rfl | 40, _ => rfl | 41, _ => rfl | 42, _ => rfl | 43, _ => rfl | 44, _ => rfl | 45, _ => rfl | 46, _ => rfl | 47, _ => rfl | 48, _ => rfl | 49, _ => rfl | 50, _ => rfl | 51, _ => rfl | 52, _ => rfl | 53, _ => rfl | 54, _ => rfl | 55, _ => rfl | 56, _ => rfl | 57, _ => rfl | 58, _ => rfl | 59, _ => rfl | 60, _ => rfl | 61, _ => rfl | 62, _ => rfl | 63, _ => rfl | 64, _ => rfl | 65, _ => rfl | 66, _ => rfl | 67, _ => rfl | 68, _ => rfl | 69, _ => rfl | 70, _ => rfl | 71, _ => rfl | 72, _ => rfl | 73, _ => rfl | 74, _ => rfl | 75, _ => rfl | 76, _ => rfl | 77, _ => rfl | 78, _ => rfl | 79, _ => rfl | 80, _ => rfl | 81, _ => rfl | 82, _ => rfl | 83, _ => rfl | 84, _ => rfl | 85, _ => rfl | 86, _ => rfl | 87, _ => rfl
        | q + 88, h => absurd h (by omega)
    · have e2 : (if p = 1020 then L else (xNB z).getD p 0) = NCd z L p := by
        unfold NCd
        rw [if_neg (show ¬ p ≤ 56 by omega)]
        have : (xNB z).getD p 0 = 0 := by
          rw [List.getD_eq_getElem?_getD, List.getElem?_eq_none (by show 88 ≤ p; omega)]
          rfl
        rw [this]
      rw [e2]
      repeat rw [upF_n _ _ (by omega)]
      done
  · rw [clr_o _ _ (by omega), clr_o _ _ (by omega)]
    repeat first | rw [u2_n _ _ (by omega)] | rw [zr_n (by omega)]
    done
  · repeat first | rw [u2_n _ _ (by omega)] | rw [zr_n (by omega)]
    done
  all_goals first | (simp [u2, zr0, clr, h57]; done) | (intro c hc; simp [u2, zr0, clr, hc]; done) | skip
  · intro j hj
    have : j = 0 ∨ j = 1 ∨ j = 2 ∨ j = 3 ∨ j = 4 ∨ j = 5 ∨ j = 6 ∨ j = 7 ∨ j = 8 ∨ j = 9 ∨ j = 10 ∨ j = 11 ∨ j = 12 ∨ j = 13 ∨ j = 14 ∨ j = 15 ∨ j = 16 ∨ j = 17 := by omega
    rcases this with rfl | rfl | rfl | rfl | rfl | rfl | rfl | rfl | rfl | rfl | rfl | rfl | rfl | rfl | rfl | rfl | rfl | rfl <;> simp [u2, zr0, clr]
end CTORM
