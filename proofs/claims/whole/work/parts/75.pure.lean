section PURE
variable {i : fI} {l : fL} {R : Nat → Nat → Nat} {T N : Nat → Nat} {Z : Nat}
def cvL (L : Nat) (x : Nat → Int32) (k : Nat) : Int32 := if L ≤ k then 0 else x k
theorem cell_E {L k : Nat} (hN : N 1020 = L) (hL : L ≤ 3586) (hk : k < 2) {y : Int32} (hy : y = nI k) : f_L_cell y (mk6 i l R T N Z) = some (cvL L (fun j => i 1020 j) k, mk6 i l R T N Z) := by
  subst hy
  unfold f_L_cell cvL
  rw [k_n hN]
  by_cases e : L ≤ k
  · rw [if_pos (show Int32.ofNat L ≤ nI k from nI_le e (by omega)), if_pos e]
  · rw [if_neg (show ¬ Int32.ofNat L ≤ nI k from nI_ge (by omega) (by omega)), if_neg e, gI (by omega) (by omega), nI_clamp (by omega), k_i]
theorem pure_all (L : Nat) (xs : Nat → Int32) (hL : L ≤ 3586) : ∃ (rE : Int32) (wE : xSt), f_L_law (w0 L xs) = some (rE, wE) := by
  obtain ⟨k1, h1, f1, g1⟩ := fm_E (cvL L xs 0)
  obtain ⟨k2, h2, f2, g2⟩ := fm_E (cvL L xs 1)
  have w0e : w0 L xs = mk6 (fun q j => if q = 1020 then xs j else 0) (fun _ _ => 0) (fun _ _ => 0) (fun _ => 0) (fun q => if q = 1020 then L else 0) 0 := rfl
  obtain ⟨i2, l2, a1, ⟨b1, b2, b3, b4⟩, ⟨b5, b6, b7, b8, b9, b10⟩, ⟨c1, c2, c3, c4⟩, ⟨d0, d1, d2, d3, d4, d5, d6⟩, ⟨e0, e2, e3⟩, sc, ⟨m0, m1, m2, m3, m4, m5, m6⟩⟩ := ctorC L (zr0 0 (fun q j => if q = 1020 then xs j else 0) 1) (zr0 0 (fun _ _ => 0) 1) (v1 := cvL L xs 0) (v2 := cvL L xs 1) (C := 3 + k1) (H := 3 + k2) (z := (3 + k1) * (3 + k2)) (by omega) (by omega) (by omega) (by omega) rfl (by rw [Nat.add_sub_cancel_left]; exact f1) (by rw [Nat.add_sub_cancel_left]; exact f2)
  have gg1 : (3 : Int32) + (((cvL L xs 0 - cvL L xs 0 / (6 : Int32) * (6 : Int32)) + (6 : Int32)) - ((cvL L xs 0 - cvL L xs 0 / (6 : Int32) * (6 : Int32)) + (6 : Int32)) / (6 : Int32) * (6 : Int32)) = nI (3 + k1) := by rw [g1]; exact nI_add 3 k1
  have gg2 : (3 : Int32) + (((cvL L xs 1 - cvL L xs 1 / (6 : Int32) * (6 : Int32)) + (6 : Int32)) - ((cvL L xs 1 - cvL L xs 1 / (6 : Int32) * (6 : Int32)) + (6 : Int32)) / (6 : Int32) * (6 : Int32)) = nI (3 + k2) := by rw [g2]; exact nI_add 3 k2
  obtain ⟨C, hC⟩ : ∃ C, 3 + k1 = C := ⟨_, rfl⟩
  obtain ⟨H, hH⟩ : ∃ H, 3 + k2 = H := ⟨_, rfl⟩
  rw [hC] at b1 b3 b4 a1 m0 m4 m5 m6 gg1
  rw [hH] at b2 b3 b4 a1 m0 m4 m5 m6 gg2
  obtain ⟨z, hz⟩ : ∃ z, C * H = z := ⟨_, rfl⟩
  rw [hz] at b3 b4 a1 m0 m4 m5 m6
  have hz64 : z ≤ 64 := by rw [← hz]; exact Nat.mul_le_mul (show C ≤ 8 by omega) (show H ≤ 8 by omega)
  obtain ⟨i3, l3, r1, r2, r3, ⟨s0, s1, s4, s5, s17, s24, s29, s30, s31, s32, s33, s34, s35, s36, s38, s39⟩, ⟨t58, t59, t68, t69, t71, t77, t78, t79, t80, tY⟩⟩ := ctorM L z (zr0 0 i2 57) (zr0 0 l2 57) (v1 := cvL L xs 0) (v2 := cvL L xs 1) (fun k => zr_s) gg1 gg2
  have q2 : ∀ p k, p < 57 → i3 p k = i2 p k := fun p k hp => by rw [r2 p k hp, zr_n (by omega)]
  have q3 : ∀ p k, p < 57 → l3 p k = l2 p k := fun p k hp => by rw [r3 p k hp, zr_n (by omega)]
  have hrel : Rel C H 0 z i3 l3 := by
    refine ⟨⟨⟨by omega, by omega, by omega, by omega, hz.symm⟩, by rw [q2 _ _ (by omega)]; exact b1, by rw [q2 _ _ (by omega)]; exact b2, by rw [q2 _ _ (by omega)]; exact b3, s0, s1⟩, ⟨fun c => ?_, fun c => ?_, fun c => ?_⟩, ⟨fun c hc => ⟨0, by omega, t58 c⟩, fun t ht c => ?_⟩, fun c hc => by rw [q2 _ _ (by omega), b4 c hc, t59 c (by omega)], ⟨by rw [q2 _ _ (by omega), b6, s4], 1, by omega, s4⟩, ⟨by omega, by rw [q2 _ _ (by omega)]; exact b5, s5⟩, fun s hs => absurd hs (Nat.not_lt_zero s), fun s hs => absurd hs (Nat.not_lt_zero s), fun s hs => absurd hs (Nat.not_lt_zero s), fun s _ hs => ⟨t68 s, t69 s, fun q hq => t79 _ (by omega)⟩, ⟨0, by omega, by rw [q2 _ _ (by omega)]; exact b7, s17, fun j hj => absurd hj (Nat.not_lt_zero j)⟩, ⟨⟨0, by omega, by rw [q2 _ _ (by omega)]; exact b8, t71 0, fun t ht => absurd ht (Nat.not_lt_zero t)⟩, ⟨0, by omega, by rw [q2 _ _ (by omega)]; exact b9, t71 1, fun t ht => absurd ht (Nat.not_lt_zero t)⟩⟩, ⟨⟨0, by omega, by rw [q2 _ _ (by omega)]; exact b10, s24⟩, fun q hq => ⟨by rw [q2 _ _ (by omega), c1, t77], by rw [q2 _ _ (by omega), c2, t78]⟩, fun k hk => ⟨by rw [q2 _ _ (by omega), c3 k hk, t79 k hk], by rw [q2 _ _ (by omega), c4, t80]⟩⟩, ⟨⟨1000, by omega, by omega, by rw [q2 _ _ (by omega)]; exact d0, s29⟩, ⟨0, by omega, by rw [q2 _ _ (by omega)]; exact d1, s30⟩, ⟨0, 0, 0, by omega, by omega, by omega, by rw [q2 _ _ (by omega)]; exact d2, s31, by rw [q2 _ _ (by omega)]; exact d3, s32, by rw [q2 _ _ (by omega)]; exact d4, s33⟩, by rw [q2 _ _ (by omega), d5, s34], by rw [q2 _ _ (by omega), d6, s35]⟩, ⟨0, by omega, by rw [q2 _ _ (by omega)]; exact e0, s36, by rw [q2 _ _ (by omega), e2, s38], fun hk => absurd hk (Nat.lt_irrefl 0)⟩, (by show i3 1 9 = i3 57 39; rw [q2 _ _ (by omega), e3, s39]), tY, fun s hs => absurd hs (Nat.not_lt_zero s)⟩
    · rw [q3 _ _ (by omega), m4, wsW_b _ _ _ hz64]
      apply Bool_iff
      unfold pW
      simp
    · rw [q3 _ _ (by omega), m5, wsW_b _ _ _ hz64]
      apply Bool_iff
      unfold pE2
      simp
    · rw [q3 _ _ (by omega), m6, b6_or, b6_or, wsW_b _ _ _ hz64, wsW_b _ _ _ hz64, wsW_b _ _ _ hz64]
      apply Bool_iff
      unfold pM pW pE2
      simp only [Bool.or_eq_true, Bool.and_eq_true, decide_eq_true_eq]
      constructor
      · rintro ((⟨x1, x2 | x2⟩ | ⟨x1, x2⟩) | ⟨x1, x2⟩)
        · exact ⟨x1, Or.inl x2⟩
        · exact ⟨x1, Or.inr (Or.inl x2)⟩
        · exact ⟨x1, Or.inr (Or.inr (Or.inl x2))⟩
        · exact ⟨x1, Or.inr (Or.inr (Or.inr x2))⟩
      · rintro ⟨x1, x2 | x2 | x2 | x2⟩
        · exact Or.inl (Or.inl ⟨x1, Or.inl x2⟩)
        · exact Or.inl (Or.inl ⟨x1, Or.inr x2⟩)
        · exact Or.inl (Or.inr ⟨x1, x2⟩)
        · exact Or.inr ⟨x1, x2⟩
    · rw [q3 _ _ (by omega), t58 c]
      have : t = 0 ∨ t = 1 ∨ t = 2 ∨ t = 3 := by omega
      rcases this with rfl | rfl | rfl | rfl
      · rw [m0, wsW_b _ _ _ hz64]
        apply Bool_iff
        simp only [Bool.and_eq_true, decide_eq_true_eq]
        exact ⟨fun q => ⟨q.1, rfl⟩, fun q => ⟨q.1, trivial⟩⟩
      · rw [m1, b6_0, decide_eq_false (fun q => absurd q.2 (by decide))]
      · rw [m2, b6_0, decide_eq_false (fun q => absurd q.2 (by decide))]
      · rw [m3, b6_0, decide_eq_false (fun q => absurd q.2 (by decide))]
  obtain ⟨rE, wE, hE⟩ := law_loop (C := C) (R := H) (z := z) hL 512 2 xFu ((((600000 - 1) - 55) - 1) - 30) ((((7302250 - 10) - 653) - 50) - 1992) 0 i3 l3 (by omega) (by unfold xFu; omega) (by omega) (by omega) (by omega) hrel
  refine ⟨rE, wE, ?_⟩
  have x0 : (fun j => zr0 (0 : Int32) (fun q j => if q = 1020 then xs j else 0) 1 1020 j) = xs := by
    funext j
    rw [zr_n (by omega)]
    exact if_pos rfl
  have x1 : (fun j => zr0 (0 : Int32) i2 57 1020 j) = xs := by
    funext j
    rw [zr_n (by omega), sc, zr_n (by omega)]
    exact if_pos rfl
  unfold f_L_law
  rw [w0e, k_Z (by decide), k_le (by rfl), k_le (by rfl), k_q (Z2 := 1) (by rfl), k_A (Z2 := 1) (by rfl), cell_E (L := L) (k := 0) (by rfl) hL (by omega) (show (0 : Int32) = nI 0 from rfl), x0, bdS, cell_E (L := L) (k := 1) (by rfl) hL (by omega) (show (1 : Int32) = nI 1 from rfl), x0, bdS, k_C (by decide) (by decide) (by rfl), k_le (by rfl), k_le (by rfl), a1, bdS, k_Z (by decide), k_le (by rfl), k_le (by rfl), k_q (Z2 := 57) (by rfl), k_A (Z2 := 57) (by rfl), cell_E (L := L) (k := 0) (by rfl) hL (by omega) (show (0 : Int32) = nI 0 from rfl), x1, bdS, cell_E (L := L) (k := 1) (by rfl) hL (by omega) (show (1 : Int32) = nI 1 from rfl), x1, bdS, k_C (by decide) (by decide) (by rfl), k_le (by rfl), k_le (by rfl), r1, bdS]
  exact hE
end PURE
