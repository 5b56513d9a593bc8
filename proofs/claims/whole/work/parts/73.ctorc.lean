section CTORC
variable {i : fI} {l : fL} {R : Nat → Nat → Nat} {T N : Nat → Nat} {Z : Nat}
theorem k_iv {p k : Nat} {v : Int32} (h : i p k = v) : wI (mk6 i l R T N Z) p k = v := h
theorem jury_l (hR : R 50 2 = 53) (hT : T 50 = 3) (hT2 : T 53 = 20) (hN : N 53 = 108) : f_X3_init_l38 xFu 50 0 (mk6 i l R T N 54) = some ((), mk6 (clr i 53 (-1) 108) l R T N 54) := by
  have key : f_X3_init_l38 xFu 50 (nI 0) (mk6 (clr i 53 (-1) 0) l R T N 54) = some ((), mk6 (clr i 53 (-1) 108) l R T N 54) := by
    refine acc_loopG (fun m a q => f_X3_init_l38 m 50 a q) (fun s => nI s) (fun s => mk6 (clr i 53 (-1) s) l R T N 54) 108 _ ?_ ?_ 108 0 xFu (by omega) (by unfold xFu; omega)
    · intro m
      show f_X3_init_l38 (m + 1) 50 (nI 108) _ = _
      rw [f_X3_init_l38_s, k_C (by decide) (by decide) hT, k_r hR, k_C (by decide) (by decide) hT2, k_n hN, if_pos (by decide)]
    · intro m s hs
      show f_X3_init_l38 (m + 1) 50 (nI s) _ = f_X3_init_l38 m 50 (nI (s + 1)) _
      rw [f_X3_init_l38_s, k_C (by decide) (by decide) hT, k_r hR, k_C (by decide) (by decide) hT2, k_n hN, if_neg (show ¬ Int32.ofNat 108 ≤ nI s from nI_ge hs (by omega)), gI hs (by omega), nI_clamp (by omega), k_I, clr_s, nI_1]
  rw [clr_0] at key
  exact key
theorem fin6 {R2 : Nat → Nat → Nat} {T2 N2 : Nat → Nat} (hR : ∀ p k, R p k = R2 p k) (hT : ∀ p, T p = T2 p) (hN : ∀ p, N p = N2 p) : some ((), mk6 i l R T N Z) = some ((), mk6 i l R2 T2 N2 Z) := by
  rw [funext fun p => funext fun k => hR p k, funext hT, funext hN]
theorem rl57 : ∀ p, p < 57 → ((xRB 0).getD p []).length ≤ 50 := by decide +kernel
def RCd (p k : Nat) : Nat := if p ≤ 56 then ((xRB 0).getD p []).getD k 0 else 0
def TCd (p : Nat) : Nat := if p ≤ 56 then xTB.getD p 0 else 0
def NCd (z L p : Nat) : Nat := if p = 1020 then L else if p ≤ 56 then (xNB z).getD p 0 else 0
theorem ctorC (L : Nat) (i : fI) (l : fL) {v1 v2 : Int32} {C H z : Nat} (hC1 : 3 ≤ C) (hC8 : C ≤ 8) (hH1 : 3 ≤ H) (hH8 : H ≤ 8) (hz : z = C * H) (f1 : ∀ w, f_J9_floorMod_7cf53 v1 (6 : Int32) w = some (nI (C - 3), w)) (f2 : ∀ w, f_J9_floorMod_7cf53 v2 (6 : Int32) w = some (nI (H - 3), w)) : ∃ i2 l2, f_X10_init 1 v1 v2 (mk6 i l (zr0 0 (fun _ _ => 0) 1) (upF (fun _ => 0) 1 10) (upF (fun q => if q = 1020 then L else 0) 1 0) 1) = some ((), mk6 i2 l2 RCd TCd (NCd z L) 56) ∧ (i2 2 0 = nI C ∧ i2 2 1 = nI H ∧ i2 2 2 = nI z ∧ (∀ c, c < z → i2 4 c = 50)) ∧ (i2 5 2 = 0 ∧ i2 5 3 = 1 ∧ i2 8 1 = 0 ∧ i2 10 1 = 0 ∧ i2 30 1 = 0 ∧ i2 50 4 = 0) ∧ ((∀ q, i2 51 q = 0) ∧ (∀ q, i2 52 q = 0) ∧ (∀ k, k < 108 → i2 53 k = -1) ∧ (∀ k, i2 54 k = 0)) ∧ (i2 55 0 = 1000 ∧ i2 55 1 = 0 ∧ i2 55 2 = 0 ∧ i2 55 3 = 0 ∧ i2 55 4 = 0 ∧ i2 55 5 = 0 ∧ i2 55 6 = 0) ∧ (i2 56 0 = 0 ∧ i2 56 2 = 0 ∧ i2 1 9 = 180) ∧ (∀ k, i2 1020 k = i 1020 k) ∧ (l2 3 0 = wsW (fun _ => true) z ∧ l2 3 1 = 0 ∧ l2 3 2 = 0 ∧ l2 3 3 = 0 ∧ l2 2 3 = wsW (pW C) z ∧ l2 2 4 = wsW (pE2 C) z ∧ l2 2 5 = ((wsW (pM C H) z ||| wsW (pW C) z) ||| wsW (pE2 C) z)) := by
  have hz64 : z ≤ 64 := by rw [hz]; exact Nat.mul_le_mul hC8 hH8
  have eC : (3 : Int32) + nI (C - 3) = nI C := by rw [show (3 : Int32) = nI 3 from rfl, nI_add, show 3 + (C - 3) = C by omega]
  have eH : (3 : Int32) + nI (H - 3) = nI H := by rw [show (3 : Int32) = nI 3 from rfl, nI_add, show 3 + (H - 3) = H by omega]
  have c4 : (4 : Int32).toNatClampNeg = 4 := by decide
  have c9 : (9 : Int32).toNatClampNeg = 9 := by decide
  have c120 : (120 : Int32).toNatClampNeg = 120 := by decide
  have c6 : (6 : Int32).toNatClampNeg = 6 := by decide
  have c5 : (5 : Int32).toNatClampNeg = 5 := by decide
  have c12 : (12 : Int32).toNatClampNeg = 12 := by decide
  have c108 : (108 : Int32).toNatClampNeg = 108 := by decide
  have y0 : ((0 : Int32)).toNatClampNeg = 0 := by decide
  have y1 : ((0 : Int32) + 1).toNatClampNeg = 1 := by decide
  have y2 : ((0 : Int32) + 1 + 1).toNatClampNeg = 2 := by decide
  have y3 : ((0 : Int32) + 1 + 1 + 1).toNatClampNeg = 3 := by decide
  have y4 : ((0 : Int32) + 1 + 1 + 1 + 1).toNatClampNeg = 4 := by decide
  have y5 : ((0 : Int32) + 1 + 1 + 1 + 1 + 1).toNatClampNeg = 5 := by decide
  obtain ⟨w, hw⟩ : ∃ w, f_X10_init 1 v1 v2 (mk6 i l (zr0 0 (fun _ _ => 0) 1) (upF (fun _ => 0) 1 10) (upF (fun q => if q = 1020 then L else 0) 1 0) 1) = w := ⟨_, rfl⟩
  rw [hw]
  rw [f_X10_init, k_C (by decide) (by decide) (by rfl), k_Z (by decide), k_q (Z2 := 2) (by rfl), k_A (Z2 := 2) (by rfl), f1, bdS, f2, bdS, k_C (by decide) (by decide) (by rfl), eC, eH, f_X0_init, k_C (by decide) (by decide) (by rfl), k_I, k_I, pk_mul, ← hz, k_I, k_Z (by decide), k_q (Z2 := 3) (by rfl), c4, k_A (Z2 := 3) (by rfl), k_R, k_Z (by decide), k_iv (p := 2) (k := 2) (v := nI z) (by rfl), gI (show z < 65 by omega) (by omega), k_q (Z2 := 4) (by rfl), nI_clamp (show z < 2 ^ 31 by omega), k_A (Z2 := 4) (by rfl), k_R, floor_l hC1 hC8 hH1 hH8 hz hz64 (by rfl) (by rfl) (by rfl) (by rfl) (by rfl) (by rfl) (by rfl) (by rfl) (by rfl), bdS, k_C (by decide) (by decide) (by rfl), k_R, k_Z (by decide), k_q (Z2 := 5) (by rfl), k_A (Z2 := 5) (by rfl), k_r (p := 1) (k := 0) (v := 2) (by rfl), f_X5_init, k_C (by decide) (by decide) (by rfl), k_R, k_Z (by decide), k_q (Z2 := 6) (by rfl), c9, k_A (Z2 := 6) (by rfl), k_R, k_I, bdS, k_C (by decide) (by decide) (by rfl), k_R, k_Z (by decide), k_q (Z2 := 7) (by rfl), k_A (Z2 := 7) (by rfl), k_r (p := 1) (k := 0) (v := 2) (by rfl), k_r (p := 1) (k := 1) (v := 5) (by rfl), f_X2_init, k_C (by decide) (by decide) (by rfl), k_R, k_R, bdS, k_C (by decide) (by decide) (by rfl), k_R, k_Z (by decide), k_q (Z2 := 8) (by rfl), k_A (Z2 := 8) (by rfl), f_X7_init, k_C (by decide) (by decide) (by rfl), k_Z (by decide), k_q (Z2 := 9) (by rfl), c120, k_A (Z2 := 9) (by rfl), k_R, bdS, k_C (by decide) (by decide) (by rfl), k_R, k_Z (by decide), k_q (Z2 := 10) (by rfl), k_A (Z2 := 10) (by rfl), f_X9_init, k_C (by decide) (by decide) (by rfl), k_Z (by decide), k_le (by rfl), k_le (by rfl), k_q (Z2 := 11) (by rfl), c6, k_A (Z2 := 11) (by rfl), k_R, show xFu = 999 + 1 from rfl, f_X9_init_l15_s, if_neg (by decide), k_C (by decide) (by decide) (by rfl), k_Z (by decide), k_le (by rfl), k_le (by rfl), k_q (Z2 := 12) (by rfl), k_A (Z2 := 12) (by rfl), k_le (by rfl), k_le (by rfl), f_X8_init, k_C (by decide) (by decide) (by rfl), k_Z (by decide), k_q (Z2 := 13) (by rfl), c5, k_A (Z2 := 13) (by rfl), k_R, k_Z (by decide), k_q (Z2 := 14) (by rfl), k_A (Z2 := 14) (by rfl), k_R, bdS, k_r (p := 10) (k := 0) (v := 11) (by rfl), k_C (by decide) (by decide) (by rfl), k_N (m := 6) (by rfl) (by decide), k_C (by decide) (by decide) (by rfl), y0, k_R, f_X9_init_l15_s, if_neg (by decide), k_C (by decide) (by decide) (by rfl), k_Z (by decide), k_le (by rfl), k_le (by rfl), k_q (Z2 := 15) (by rfl), k_A (Z2 := 15) (by rfl), k_le (by rfl), k_le (by rfl), f_X8_init, k_C (by decide) (by decide) (by rfl), k_Z (by decide), k_q (Z2 := 16) (by rfl), c5, k_A (Z2 := 16) (by rfl), k_R, k_Z (by decide), k_q (Z2 := 17) (by rfl), k_A (Z2 := 17) (by rfl), k_R, bdS, k_r (p := 10) (k := 0) (v := 11) (by rfl), k_C (by decide) (by decide) (by rfl), k_N (m := 6) (by rfl) (by decide), k_C (by decide) (by decide) (by rfl), y1, k_R, f_X9_init_l15_s, if_neg (by decide), k_C (by decide) (by decide) (by rfl), k_Z (by decide), k_le (by rfl), k_le (by rfl), k_q (Z2 := 18) (by rfl), k_A (Z2 := 18) (by rfl), k_le (by rfl), k_le (by rfl), f_X8_init, k_C (by decide) (by decide) (by rfl), k_Z (by decide), k_q (Z2 := 19) (by rfl), c5, k_A (Z2 := 19) (by rfl), k_R, k_Z (by decide), k_q (Z2 := 20) (by rfl), k_A (Z2 := 20) (by rfl), k_R, bdS, k_r (p := 10) (k := 0) (v := 11) (by rfl), k_C (by decide) (by decide) (by rfl), k_N (m := 6) (by rfl) (by decide), k_C (by decide) (by decide) (by rfl), y2, k_R, f_X9_init_l15_s, if_neg (by decide), k_C (by decide) (by decide) (by rfl), k_Z (by decide), k_le (by rfl), k_le (by rfl), k_q (Z2 := 21) (by rfl), k_A (Z2 := 21) (by rfl), k_le (by rfl), k_le (by rfl), f_X8_init, k_C (by decide) (by decide) (by rfl), k_Z (by decide), k_q (Z2 := 22) (by rfl), c5, k_A (Z2 := 22) (by rfl), k_R, k_Z (by decide), k_q (Z2 := 23) (by rfl), k_A (Z2 := 23) (by rfl), k_R, bdS, k_r (p := 10) (k := 0) (v := 11) (by rfl), k_C (by decide) (by decide) (by rfl), k_N (m := 6) (by rfl) (by decide), k_C (by decide) (by decide) (by rfl), y3, k_R, f_X9_init_l15_s, if_neg (by decide), k_C (by decide) (by decide) (by rfl), k_Z (by decide), k_le (by rfl), k_le (by rfl), k_q (Z2 := 24) (by rfl), k_A (Z2 := 24) (by rfl), k_le (by rfl), k_le (by rfl), f_X8_init, k_C (by decide) (by decide) (by rfl), k_Z (by decide), k_q (Z2 := 25) (by rfl), c5, k_A (Z2 := 25) (by rfl), k_R, k_Z (by decide), k_q (Z2 := 26) (by rfl), k_A (Z2 := 26) (by rfl), k_R, bdS, k_r (p := 10) (k := 0) (v := 11) (by rfl), k_C (by decide) (by decide) (by rfl), k_N (m := 6) (by rfl) (by decide), k_C (by decide) (by decide) (by rfl), y4, k_R, f_X9_init_l15_s, if_neg (by decide), k_C (by decide) (by decide) (by rfl), k_Z (by decide), k_le (by rfl), k_le (by rfl), k_q (Z2 := 27) (by rfl), k_A (Z2 := 27) (by rfl), k_le (by rfl), k_le (by rfl), f_X8_init, k_C (by decide) (by decide) (by rfl), k_Z (by decide), k_q (Z2 := 28) (by rfl), c5, k_A (Z2 := 28) (by rfl), k_R, k_Z (by decide), k_q (Z2 := 29) (by rfl), k_A (Z2 := 29) (by rfl), k_R, bdS, k_r (p := 10) (k := 0) (v := 11) (by rfl), k_C (by decide) (by decide) (by rfl), k_N (m := 6) (by rfl) (by decide), k_C (by decide) (by decide) (by rfl), y5, k_R, f_X9_init_l15_s, if_pos (by decide), bdS, k_C (by decide) (by decide) (by rfl), k_R, k_Z (by decide), k_q (Z2 := 30) (by rfl), k_A (Z2 := 30) (by rfl), f_X9_init, k_C (by decide) (by decide) (by rfl), k_Z (by decide), k_le (by rfl), k_le (by rfl), k_q (Z2 := 31) (by rfl), c6, k_A (Z2 := 31) (by rfl), k_R, show xFu = 999 + 1 from rfl, f_X9_init_l15_s, if_neg (by decide), k_C (by decide) (by decide) (by rfl), k_Z (by decide), k_le (by rfl), k_le (by rfl), k_q (Z2 := 32) (by rfl), k_A (Z2 := 32) (by rfl), k_le (by rfl), k_le (by rfl), f_X8_init, k_C (by decide) (by decide) (by rfl), k_Z (by decide), k_q (Z2 := 33) (by rfl), c5, k_A (Z2 := 33) (by rfl), k_R, k_Z (by decide), k_q (Z2 := 34) (by rfl), k_A (Z2 := 34) (by rfl), k_R, bdS, k_r (p := 30) (k := 0) (v := 31) (by rfl), k_C (by decide) (by decide) (by rfl), k_N (m := 6) (by rfl) (by decide), k_C (by decide) (by decide) (by rfl), y0, k_R, f_X9_init_l15_s, if_neg (by decide), k_C (by decide) (by decide) (by rfl), k_Z (by decide), k_le (by rfl), k_le (by rfl), k_q (Z2 := 35) (by rfl), k_A (Z2 := 35) (by rfl), k_le (by rfl), k_le (by rfl), f_X8_init, k_C (by decide) (by decide) (by rfl), k_Z (by decide), k_q (Z2 := 36) (by rfl), c5, k_A (Z2 := 36) (by rfl), k_R, k_Z (by decide), k_q (Z2 := 37) (by rfl), k_A (Z2 := 37) (by rfl), k_R, bdS, k_r (p := 30) (k := 0) (v := 31) (by rfl), k_C (by decide) (by decide) (by rfl), k_N (m := 6) (by rfl) (by decide), k_C (by decide) (by decide) (by rfl), y1, k_R, f_X9_init_l15_s, if_neg (by decide), k_C (by decide) (by decide) (by rfl), k_Z (by decide), k_le (by rfl), k_le (by rfl), k_q (Z2 := 38) (by rfl), k_A (Z2 := 38) (by rfl), k_le (by rfl), k_le (by rfl), f_X8_init, k_C (by decide) (by decide) (by rfl), k_Z (by decide), k_q (Z2 := 39) (by rfl), c5, k_A (Z2 := 39) (by rfl), k_R, k_Z (by decide), k_q (Z2 := 40) (by rfl), k_A (Z2 := 40) (by rfl), k_R, bdS, k_r (p := 30) (k := 0) (v := 31) (by rfl), k_C (by decide) (by decide) (by rfl), k_N (m := 6) (by rfl) (by decide), k_C (by decide) (by decide) (by rfl), y2, k_R, f_X9_init_l15_s, if_neg (by decide), k_C (by decide) (by decide) (by rfl), k_Z (by decide), k_le (by rfl), k_le (by rfl), k_q (Z2 := 41) (by rfl), k_A (Z2 := 41) (by rfl), k_le (by rfl), k_le (by rfl), f_X8_init, k_C (by decide) (by decide) (by rfl), k_Z (by decide), k_q (Z2 := 42) (by rfl), c5, k_A (Z2 := 42) (by rfl), k_R, k_Z (by decide), k_q (Z2 := 43) (by rfl), k_A (Z2 := 43) (by rfl), k_R, bdS, k_r (p := 30) (k := 0) (v := 31) (by rfl), k_C (by decide) (by decide) (by rfl), k_N (m := 6) (by rfl) (by decide), k_C (by decide) (by decide) (by rfl), y3, k_R, f_X9_init_l15_s, if_neg (by decide), k_C (by decide) (by decide) (by rfl), k_Z (by decide), k_le (by rfl), k_le (by rfl), k_q (Z2 := 44) (by rfl), k_A (Z2 := 44) (by rfl), k_le (by rfl), k_le (by rfl), f_X8_init, k_C (by decide) (by decide) (by rfl), k_Z (by decide), k_q (Z2 := 45) (by rfl), c5, k_A (Z2 := 45) (by rfl), k_R, k_Z (by decide), k_q (Z2 := 46) (by rfl), k_A (Z2 := 46) (by rfl), k_R, bdS, k_r (p := 30) (k := 0) (v := 31) (by rfl), k_C (by decide) (by decide) (by rfl), k_N (m := 6) (by rfl) (by decide), k_C (by decide) (by decide) (by rfl), y4, k_R, f_X9_init_l15_s, if_neg (by decide), k_C (by decide) (by decide) (by rfl), k_Z (by decide), k_le (by rfl), k_le (by rfl), k_q (Z2 := 47) (by rfl), k_A (Z2 := 47) (by rfl), k_le (by rfl), k_le (by rfl), f_X8_init, k_C (by decide) (by decide) (by rfl), k_Z (by decide), k_q (Z2 := 48) (by rfl), c5, k_A (Z2 := 48) (by rfl), k_R, k_Z (by decide), k_q (Z2 := 49) (by rfl), k_A (Z2 := 49) (by rfl), k_R, bdS, k_r (p := 30) (k := 0) (v := 31) (by rfl), k_C (by decide) (by decide) (by rfl), k_N (m := 6) (by rfl) (by decide), k_C (by decide) (by decide) (by rfl), y5, k_R, f_X9_init_l15_s, if_pos (by decide), bdS, k_C (by decide) (by decide) (by rfl), k_R, k_Z (by decide), k_q (Z2 := 50) (by rfl), k_A (Z2 := 50) (by rfl), f_X3_init, k_C (by decide) (by decide) (by rfl), k_Z (by decide), k_q (Z2 := 51) (by rfl), c12, k_A (Z2 := 51) (by rfl), k_R, k_Z (by decide), k_q (Z2 := 52) (by rfl), k_A (Z2 := 52) (by rfl), k_R, k_Z (by decide), k_q (Z2 := 53) (by rfl), c108, k_A (Z2 := 53) (by rfl), k_R, k_Z (by decide), k_q (Z2 := 54) (by rfl), k_A (Z2 := 54) (by rfl), k_R, jury_l (by rfl) (by rfl) (by rfl) (by rfl), bdS, k_C (by decide) (by decide) (by rfl), k_R, k_Z (by decide), k_q (Z2 := 55) (by rfl), k_A (Z2 := 55) (by rfl), f_X1_init, k_C (by decide) (by decide) (by rfl), k_I, bdS, k_C (by decide) (by decide) (by rfl), k_R, k_Z (by decide), k_q (Z2 := 56) (by rfl), k_A (Z2 := 56) (by rfl), f_X4_init, k_C (by decide) (by decide) (by rfl), bdS, k_C (by decide) (by decide) (by rfl), k_R, k_I] at hw
  subst hw
  refine ⟨_, _, fin6 (fun p k => ?_) (fun p => ?_) (fun p => ?_), ⟨?_, ?_, ?_, ?_⟩, ⟨?_, ?_, ?_, ?_, ?_, ?_⟩, ⟨?_, ?_, ?_, ?_⟩, ⟨?_, ?_, ?_, ?_, ?_, ?_, ?_⟩, ⟨?_, ?_, ?_⟩, ?_, ⟨?_, ?_, ?_, ?_, ?_, ?_, ?_⟩⟩
  · by_cases hp : p < 57
    · by_cases hk : k < 50
      · revert hk
        revert k
        revert hp
        revert p
        decide +kernel
      · have e2 : RCd p k = 0 := by
          unfold RCd
          rw [if_pos (by omega), List.getD_eq_getElem?_getD, List.getElem?_eq_none]
          · rfl
          · exact Nat.le_trans (rl57 p hp) (by omega)
        rw [e2]
        repeat first | rw [u2_n _ _ (by omega)] | refine zr_z ?_
        rfl
    · have e2 : RCd p k = 0 := if_neg (by omega)
      rw [e2]
      repeat first | rw [u2_n _ _ (by omega)] | refine zr_z ?_
      rfl
  · by_cases hp : p < 57
    · revert hp
      revert p
      decide +kernel
    · have e2 : TCd p = 0 := if_neg (by omega)
      rw [e2]
      repeat rw [upF_n _ _ (by omega)]
      done
  · by_cases hp : p < 57
    · have e2 : NCd z L p = (xNB z).getD p 0 := by
        unfold NCd
        rw [if_neg (by omega), if_pos (by omega)]
      rw [e2]
      exact match p, hp with
        | 0, _ => rfl | 1, _ => rfl | 2, _ => rfl | 3, _ => rfl | 4, _ => rfl | 5, _ => rfl | 6, _ => rfl | 7, _ => rfl | 8, _ => rfl | 9, _ => rfl | 10, _ => rfl | 11, _ => rfl | 12, _ => rfl | 13, _ => rfl | 14, _ => rfl | 15, _ => rfl | 16, _ => rfl | 17, _ => rfl | 18, _ => rfl | 19, _ => rfl | 20, _ => rfl | 21, _ => rfl | 22, _ => rfl | 23, _ => rfl | 24, _ => rfl | 25, _ => rfl | 26, _ => rfl | 27, _ => rfl | 28, _ => rfl | 29, _ => rfl | 30, _ => rfl | 31, _ => rfl | 32, _ => rfl | 33, _ => rfl | 34, _ => rfl | 35, _ => rfl | 36, _ => rfl | 37, _ => rfl | 38, _ => rfl | 39, _ => rfl | 40, _ => rfl | 41, _ => rfl | 42, _ => rfl | 43, _ => rfl | 44, _ => rfl | 45, _ => rfl | 46, _ => rfl | 47, _ => rfl | 48, _ => rfl | 49, _ => rfl | 50, _ => rfl | 51, _ => rfl | 52, _ => rfl | 53, _ => rfl | 54, _ => rfl | 55, _ => rfl | 56, _ => rfl
        | q + 57, h => absurd h (by omega)
    · have e2 : NCd z L p = if p = 1020 then L else 0 := by
        unfold NCd
        rw [if_neg (show ¬ p ≤ 56 by omega)]
      rw [e2]
      repeat rw [upF_n _ _ (by omega)]
      done
  all_goals first | (simp [u2, zr0, clr]; done) | (intro c hc; simp [u2, zr0, clr, hc]; done)
end CTORC
