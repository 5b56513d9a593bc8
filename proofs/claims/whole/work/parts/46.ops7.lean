section OPS7
variable {C R n z L : Nat} {i : fI} {l : fL}
/-! feed -/
theorem acc_loopG {S W β : Type} (loop : Nat → S → W → Option β) (A : Nat → S) (wf : Nat → W) (N : Nat) (res : Option β) (hx : ∀ m, loop (m + 1) (A N) (wf N) = res) (hs : ∀ m s, s < N → loop (m + 1) (A s) (wf s) = loop m (A (s + 1)) (wf (s + 1))) : ∀ k s m, s + k = N → k < m → loop m (A s) (wf s) = res := by
  intro k
  induction k with
  | zero =>
    intro s m hsN hm
    obtain ⟨m, rfl⟩ : ∃ q, m = q + 1 := ⟨m - 1, by omega⟩
    have : s = N := by omega
    subst this
    exact hx m
  | succ k ih =>
    intro s m hsN hm
    obtain ⟨m, rfl⟩ : ∃ q, m = q + 1 := ⟨m - 1, by omega⟩
    rw [hs m s (by omega)]
    exact ih (s + 1) m (by omega) (by omega)
def fdC (w : Int64) (k : Nat) : Int32 := vp_nar .byte (((lushr w ((8 : Int32) * nI k)).toInt32).toInt8.toInt32)
def fdM (w : Int64) (k : Nat) : Int32 := ((w >>> (((8 : Int32) * nI k).toInt64 &&& 63)) &&& (255 : Int64)).toInt32
theorem fd_rel (w : Int64) {k : Nat} (hk : k < 8) : ∃ b, b < 256 ∧ fdM w k = nI b ∧ fdC w k = (nI b).toInt8.toInt32 := by
  have e8 : (8 : Int32) * nI k = nI (8 * k) := by rw [show (8 : Int32) = nI 8 from rfl, pk_mul]
  have es : (nI (8 * k)).toInt64 &&& 63 = Int64.ofBitVec (BitVec.ofNat 64 (8 * k)) := Int64.toBitVec_inj.mp (sh_am (by omega))
  have hb : (fdM w k).toBitVec = BitVec.ofNat 32 (((w.toBitVec.sshiftRight (8 * k)).toNat) % 256) := by
    unfold fdM
    rw [e8, es, Int64.toBitVec_toInt32, Int64.toBitVec_and, Int64.toBitVec_shiftRight]
    have e : (BitVec.ofNat 64 (8 * k)).smod 64 = BitVec.ofNat 64 (8 * k) := by
      have : ∀ c : Fin 64, (BitVec.ofNat 64 c).smod 64 = BitVec.ofNat 64 c := by decide
      exact this ⟨8 * k, by omega⟩
    rw [BitVec.signExtend_eq_setWidth_of_le _ (by omega)]
    show BitVec.setWidth 32 (BitVec.sshiftRight' w.toBitVec ((BitVec.ofNat 64 (8 * k)).smod 64) &&& _) = _
    rw [e, BitVec.sshiftRight_eq']
    have : (BitVec.ofNat 64 (8 * k)).toNat = 8 * k := by rw [BitVec.toNat_ofNat]; omega
    rw [this]
    apply BitVec.eq_of_toNat_eq
    rw [BitVec.toNat_setWidth, BitVec.toNat_and, BitVec.toNat_ofNat]
    have : (255 : Int64).toBitVec.toNat = 2 ^ 8 - 1 := by decide
    rw [this, Nat.and_two_pow_sub_one_eq_mod]
  refine ⟨((w.toBitVec.sshiftRight (8 * k)).toNat) % 256, Nat.mod_lt _ (by omega), ?_, ?_⟩
  · apply Int32.toBitVec_inj.mp
    rw [hb]
    rfl
  · unfold fdC
    rw [pk_vb]
    congr 1
    apply Int8.toBitVec_inj.mp
    rw [Int32.toBitVec_toInt8, Int32.toBitVec_toInt8, Int64.toBitVec_toInt32]
    apply BitVec.eq_of_getLsbD_eq
    intro j hj
    rw [BitVec.signExtend_eq_setWidth_of_le _ (by omega), BitVec.signExtend_eq_setWidth_of_le _ (by omega), BitVec.signExtend_eq_setWidth_of_le _ (by omega), BitVec.getLsbD_setWidth, BitVec.getLsbD_setWidth, BitVec.getLsbD_setWidth]
    have h1 : (lushr w ((8 : Int32) * nI k)).toBitVec.getLsbD j = w.toBitVec.getLsbD (j + 8 * k) := by
      rw [e8]
      exact b6_ushr w (by omega) j
    have h2 : (nI ((w.toBitVec.sshiftRight (8 * k)).toNat % 256)).toBitVec.getLsbD j = w.toBitVec.getLsbD (j + 8 * k) := by
      show (BitVec.ofNat 32 ((w.toBitVec.sshiftRight (8 * k)).toNat % 256)).getLsbD j = _
      rw [BitVec.getLsbD_ofNat, show (256 : Nat) = 2 ^ 8 from rfl, Nat.testBit_mod_two_pow]
      have : (w.toBitVec.sshiftRight (8 * k)).toNat.testBit j = (w.toBitVec.sshiftRight (8 * k)).getLsbD j := rfl
      rw [this, BitVec.getLsbD_sshiftRight]
      have q1 : ¬ 64 ≤ j := by omega
      have q2 : 8 * k + j < 64 := by omega
      have q3 : j < 32 := by omega
      have q4 : ¬ 64 ≤ j + 8 * k := by omega
      simp [q1, q2, q3, q4, hj, Nat.add_comm]
    rw [h1, h2]
    simp [hj, show j < 32 by omega]
def tpF (i : fI) (P Q K t N : Nat) (v : Nat → Int32) (s : Nat) : fI := fun p k => if p = P ∧ t ≤ k ∧ k < t + s then v (N - 1 - (k - t)) else if p = Q ∧ k = K then nI (t + s) else i p k
theorem tpF_0 (i : fI) {P Q K t N : Nat} {v : Nat → Int32} (h : i Q K = nI t) : tpF i P Q K t N v 0 = i := by
  funext p k
  unfold tpF
  rw [if_neg (by omega)]
  by_cases e : p = Q ∧ k = K
  · rw [if_pos e, e.1, e.2, h]; rfl
  · rw [if_neg e]
theorem tpF_s (i : fI) {P Q K t N : Nat} {v : Nat → Int32} (s : Nat) (hs : s < N) (hPQ : P ≠ Q) : u2 (u2 (tpF i P Q K t N v s) P (t + s) (v (N - s - 1))) Q K (nI (t + s + 1)) = tpF i P Q K t N v (s + 1) := by
  funext p k
  unfold u2
  by_cases e : p = Q ∧ k = K
  · rw [if_pos e]
    unfold tpF
    rw [if_neg (by omega), if_pos e]
    rfl
  · rw [if_neg e]
    by_cases e2 : p = P ∧ k = t + s
    · rw [if_pos e2]
      unfold tpF
      rw [if_pos (by omega), e2.2, show N - 1 - (t + s - t) = N - s - 1 by omega]
    · rw [if_neg e2]
      unfold tpF
      by_cases e3 : p = P ∧ t ≤ k ∧ k < t + s
      · rw [if_pos e3, if_pos (by omega)]
      · rw [if_neg e3, if_neg e, if_neg (by omega), if_neg e]
theorem tpF_o (i : fI) {P Q K t N : Nat} {v : Nat → Int32} (s : Nat) {p k : Nat} (h : p ≠ P) (h2 : ¬ (p = Q ∧ k = K)) : tpF i P Q K t N v s p k = i p k := by
  unfold tpF
  rw [if_neg (by omega), if_neg h2]
theorem tpF_q (i : fI) {P Q K t N : Nat} {v : Nat → Int32} (s : Nat) (h : P ≠ Q) : tpF i P Q K t N v s Q K = nI (t + s) := by
  unfold tpF
  rw [if_neg (by omega), if_pos ⟨rfl, rfl⟩]
theorem op_feed (h : Rel C R n z i l) (w : Int64) (y : Int32) : OpOK C R n z L (f_X10_feed 1 w y) (f_X11_feed 57 w y) i l := by
  obtain ⟨hD, hE, hK, hB, hG, hN, hF, hV, hA, hX, hT, hU, hJ, hM, hL, hO, hY, hP⟩ := id h
  have h9 := hN.1
  obtain ⟨t, t1, t2, t3, t4⟩ := id hT
  by_cases e : 1 ≤ y ∧ y ≤ 8
  · obtain ⟨N, N1, rfl⟩ := nI_rng (N := 8) (by decide) ⟨Int32.le_trans (by decide) e.1, e.2⟩
    have N0 : 1 ≤ N := by
      have := e.1
      rw [show (1 : Int32) = nI 1 from rfl, nI_leI (by omega) (by omega)] at this
      exact this
    have dn : ∀ s, s < N → nI (N - s) - 1 = nI (N - s - 1) := fun s hs => nI_s1 (by omega)
    have dn2 : ∀ s, s < N → nI (N - s - 1) + (-1) = nI (N - (s + 1)) - 1 := fun s hs => by
      rw [show N - (s + 1) = N - s - 1 by omega, ← Int32.sub_eq_add_neg]
    by_cases e1 : t + N ≤ 120
    · have c120 : nI t + nI N ≤ 120 := by rw [nI_add, show (120 : Int32) = nI 120 from rfl, nI_leI (by omega) (by omega)]; exact e1
      refine ⟨nI (t + N), mkS n z L (tpF i 9 8 1 t N (fdC w) N) l, n, tpF (tpF i 9 8 1 t N (fdC w) N) 70 57 17 t N (fdM w) N, l, ?_, ?_, ⟨_, _, rfl, fun p k hp => tpF_o _ _ (by unfold sQ at hp; omega) (by unfold sQ at hp; omega)⟩, ?_⟩
      · have : f_X7_add_l5 xFu 8 w (nI (N - 0) - 1) (mkS n z L (tpF i 9 8 1 t N (fdC w) 0) l) = some ((), mkS n z L (tpF i 9 8 1 t N (fdC w) N) l) := by
          refine acc_loopG (fun m a q => f_X7_add_l5 m 8 w a q) (fun s => nI (N - s) - 1) (fun s => mkS n z L (tpF i 9 8 1 t N (fdC w) s) l) N _ ?_ ?_ N 0 xFu (by omega) (by unfold xFu; omega)
          · intro m
            show f_X7_add_l5 (m + 1) 8 w (nI (N - N) - 1) _ = _
            rw [f_X7_add_l5_s, Nat.sub_self, if_pos (by decide)]
          · intro m s hs
            show f_X7_add_l5 (m + 1) 8 w (nI (N - s) - 1) (mkS n z L (tpF i 9 8 1 t N (fdC w) s) l) = f_X7_add_l5 m 8 w (nI (N - (s + 1)) - 1) (mkS n z L (tpF i 9 8 1 t N (fdC w) (s + 1)) l)
            rw [f_X7_add_l5_s, dn s hs, if_neg (nI_pos (by omega))]
            have v : u2 (tpF i 9 8 1 t N (fdC w) s) 9 (t + s) (fdC w (N - s - 1)) 8 1 = nI (t + s) := by rw [u2_p _ _ (by omega), tpF_q _ _ (by omega)]
            simp only [mI, mL, mZ, msI, msL, mN1020, gC1, mR1_0, mR1_1, mR1_2, mR1_3, mR1_4, mR1_5, mR1_6, mR1_7, mR1_8, gC2, mR2_6, mR2_7, gC3, mN3, gC4, mN4, gC5, mR5_0, mR5_1, gC6, mN6, gC7, mR7_0, mR7_1, gC8, mR8_0, gC9, mN9, gC10, mR10_0, gC11, mN11, mR11_0, mR11_1, mR11_2, mR11_3, mR11_4, mR11_5, gC12, mR12_0, mR12_1, gC13, mN13, gC14, mN14, gC15, mR15_0, mR15_1, gC16, mN16, gC17, mN17, gC18, mR18_0, mR18_1, gC19, mN19, gC20, mN20, gC21, mR21_0, mR21_1, gC22, mN22, gC23, mN23, gC24, mR24_0, mR24_1, gC25, mN25, gC26, mN26, gC27, mR27_0, mR27_1, gC28, mN28, gC29, mN29, gC30, mR30_0, gC31, mN31, mR31_0, mR31_1, mR31_2, mR31_3, mR31_4, mR31_5, gC32, mR32_0, mR32_1, gC33, mN33, gC34, mN34, gC35, mR35_0, mR35_1, gC36, mN36, gC37, mN37, gC38, mR38_0, mR38_1, gC39, mN39, gC40, mN40, gC41, mR41_0, mR41_1, gC42, mN42, gC43, mN43, gC44, mR44_0, mR44_1, gC45, mN45, gC46, mN46, gC47, mR47_0, mR47_1, gC48, mN48, gC49, mN49, gC50, mR50_0, mR50_1, mR50_2, mR50_3, gC51, mN51, gC52, mN52, gC53, mN53, gC54, mN54, gC55, gC56, gC57, mR57_2, mR57_3, mR57_6, mR57_7, mR57_8, mR57_9, mR57_10, mR57_11, mR57_12, mR57_13, mR57_14, mR57_15, mR57_16, mR57_18, mR57_19, mR57_20, mR57_21, mR57_22, mR57_23, mR57_25, mR57_26, mR57_27, mR57_28, mR57_37, mR57_40, mR57_41, mR57_43, mR57_44, mR57_48, mR57_49, gC58, mN58, gC59, mN59, gC60, mN60, gC61, mN61, gC62, mN62, gC63, mN63, gC64, mN64, gC65, mN65, gC66, mN66, gC67, mN67, gC68, mN68, gC69, mN69, gC70, mN70, gC71, mN71, gC72, mN72, gC73, mN73, gC74, mN74, gC75, mN75, gC76, mN76, gC77, mN77, gC78, mN78, gC79, mN79, gC80, mN80, gC81, mN81, gC82, mN82, gC83, mN83, gC84, mN84, gC85, mN85, gC86, mN86, gC87, mN87, tpF_q i s (show 9 ≠ 8 by omega), nI_clamp (show t + s < 2 ^ 31 by omega), lt1E, dn2 s hs]
            rw [gI (by omega) (by omega)]
            show f_X7_add_l5 m 8 w _ (mkS n z L (u2 (u2 (tpF i 9 8 1 t N (fdC w) s) 9 (t + s) (fdC w (N - s - 1))) 8 1 (u2 (tpF i 9 8 1 t N (fdC w) s) 9 (t + s) (fdC w (N - s - 1)) 8 1 + 1)) l) = _
            rw [v, nI_1, tpF_s _ _ hs (by omega)]
        rw [tpF_0 i t2, Nat.sub_zero] at this
        simp only [f_X10_feed, within_E, bdS, if_b, if_pos e, mI, mL, mZ, msI, msL, mN1020, gC1, mR1_0, mR1_1, mR1_2, mR1_3, mR1_4, mR1_5, mR1_6, mR1_7, mR1_8, gC2, mR2_6, mR2_7, gC3, mN3, gC4, mN4, gC5, mR5_0, mR5_1, gC6, mN6, gC7, mR7_0, mR7_1, gC8, mR8_0, gC9, mN9, gC10, mR10_0, gC11, mN11, mR11_0, mR11_1, mR11_2, mR11_3, mR11_4, mR11_5, gC12, mR12_0, mR12_1, gC13, mN13, gC14, mN14, gC15, mR15_0, mR15_1, gC16, mN16, gC17, mN17, gC18, mR18_0, mR18_1, gC19, mN19, gC20, mN20, gC21, mR21_0, mR21_1, gC22, mN22, gC23, mN23, gC24, mR24_0, mR24_1, gC25, mN25, gC26, mN26, gC27, mR27_0, mR27_1, gC28, mN28, gC29, mN29, gC30, mR30_0, gC31, mN31, mR31_0, mR31_1, mR31_2, mR31_3, mR31_4, mR31_5, gC32, mR32_0, mR32_1, gC33, mN33, gC34, mN34, gC35, mR35_0, mR35_1, gC36, mN36, gC37, mN37, gC38, mR38_0, mR38_1, gC39, mN39, gC40, mN40, gC41, mR41_0, mR41_1, gC42, mN42, gC43, mN43, gC44, mR44_0, mR44_1, gC45, mN45, gC46, mN46, gC47, mR47_0, mR47_1, gC48, mN48, gC49, mN49, gC50, mR50_0, mR50_1, mR50_2, mR50_3, gC51, mN51, gC52, mN52, gC53, mN53, gC54, mN54, gC55, gC56, gC57, mR57_2, mR57_3, mR57_6, mR57_7, mR57_8, mR57_9, mR57_10, mR57_11, mR57_12, mR57_13, mR57_14, mR57_15, mR57_16, mR57_18, mR57_19, mR57_20, mR57_21, mR57_22, mR57_23, mR57_25, mR57_26, mR57_27, mR57_28, mR57_37, mR57_40, mR57_41, mR57_43, mR57_44, mR57_48, mR57_49, gC58, mN58, gC59, mN59, gC60, mN60, gC61, mN61, gC62, mN62, gC63, mN63, gC64, mN64, gC65, mN65, gC66, mN66, gC67, mN67, gC68, mN68, gC69, mN69, gC70, mN70, gC71, mN71, gC72, mN72, gC73, mN73, gC74, mN74, gC75, mN75, gC76, mN76, gC77, mN77, gC78, mN78, gC79, mN79, gC80, mN80, gC81, mN81, gC82, mN82, gC83, mN83, gC84, mN84, gC85, mN85, gC86, mN86, gC87, mN87, f_X7_hasRoom, t2]
        rw [if_neg (Int32.not_lt.mpr c120), bdS, if_neg (by decide)]
        unfold f_X7_add
        simp only [mI, mL, mZ, msI, msL, mN1020, gC1, mR1_0, mR1_1, mR1_2, mR1_3, mR1_4, mR1_5, mR1_6, mR1_7, mR1_8, gC2, mR2_6, mR2_7, gC3, mN3, gC4, mN4, gC5, mR5_0, mR5_1, gC6, mN6, gC7, mR7_0, mR7_1, gC8, mR8_0, gC9, mN9, gC10, mR10_0, gC11, mN11, mR11_0, mR11_1, mR11_2, mR11_3, mR11_4, mR11_5, gC12, mR12_0, mR12_1, gC13, mN13, gC14, mN14, gC15, mR15_0, mR15_1, gC16, mN16, gC17, mN17, gC18, mR18_0, mR18_1, gC19, mN19, gC20, mN20, gC21, mR21_0, mR21_1, gC22, mN22, gC23, mN23, gC24, mR24_0, mR24_1, gC25, mN25, gC26, mN26, gC27, mR27_0, mR27_1, gC28, mN28, gC29, mN29, gC30, mR30_0, gC31, mN31, mR31_0, mR31_1, mR31_2, mR31_3, mR31_4, mR31_5, gC32, mR32_0, mR32_1, gC33, mN33, gC34, mN34, gC35, mR35_0, mR35_1, gC36, mN36, gC37, mN37, gC38, mR38_0, mR38_1, gC39, mN39, gC40, mN40, gC41, mR41_0, mR41_1, gC42, mN42, gC43, mN43, gC44, mR44_0, mR44_1, gC45, mN45, gC46, mN46, gC47, mR47_0, mR47_1, gC48, mN48, gC49, mN49, gC50, mR50_0, mR50_1, mR50_2, mR50_3, gC51, mN51, gC52, mN52, gC53, mN53, gC54, mN54, gC55, gC56, gC57, mR57_2, mR57_3, mR57_6, mR57_7, mR57_8, mR57_9, mR57_10, mR57_11, mR57_12, mR57_13, mR57_14, mR57_15, mR57_16, mR57_18, mR57_19, mR57_20, mR57_21, mR57_22, mR57_23, mR57_25, mR57_26, mR57_27, mR57_28, mR57_37, mR57_40, mR57_41, mR57_43, mR57_44, mR57_48, mR57_49, gC58, mN58, gC59, mN59, gC60, mN60, gC61, mN61, gC62, mN62, gC63, mN63, gC64, mN64, gC65, mN65, gC66, mN66, gC67, mN67, gC68, mN68, gC69, mN69, gC70, mN70, gC71, mN71, gC72, mN72, gC73, mN73, gC74, mN74, gC75, mN75, gC76, mN76, gC77, mN77, gC78, mN78, gC79, mN79, gC80, mN80, gC81, mN81, gC82, mN82, gC83, mN83, gC84, mN84, gC85, mN85, gC86, mN86, gC87, mN87]
        rw [this, bdS]
        simp only [mI, mL, mZ, msI, msL, mN1020, gC1, mR1_0, mR1_1, mR1_2, mR1_3, mR1_4, mR1_5, mR1_6, mR1_7, mR1_8, gC2, mR2_6, mR2_7, gC3, mN3, gC4, mN4, gC5, mR5_0, mR5_1, gC6, mN6, gC7, mR7_0, mR7_1, gC8, mR8_0, gC9, mN9, gC10, mR10_0, gC11, mN11, mR11_0, mR11_1, mR11_2, mR11_3, mR11_4, mR11_5, gC12, mR12_0, mR12_1, gC13, mN13, gC14, mN14, gC15, mR15_0, mR15_1, gC16, mN16, gC17, mN17, gC18, mR18_0, mR18_1, gC19, mN19, gC20, mN20, gC21, mR21_0, mR21_1, gC22, mN22, gC23, mN23, gC24, mR24_0, mR24_1, gC25, mN25, gC26, mN26, gC27, mR27_0, mR27_1, gC28, mN28, gC29, mN29, gC30, mR30_0, gC31, mN31, mR31_0, mR31_1, mR31_2, mR31_3, mR31_4, mR31_5, gC32, mR32_0, mR32_1, gC33, mN33, gC34, mN34, gC35, mR35_0, mR35_1, gC36, mN36, gC37, mN37, gC38, mR38_0, mR38_1, gC39, mN39, gC40, mN40, gC41, mR41_0, mR41_1, gC42, mN42, gC43, mN43, gC44, mR44_0, mR44_1, gC45, mN45, gC46, mN46, gC47, mR47_0, mR47_1, gC48, mN48, gC49, mN49, gC50, mR50_0, mR50_1, mR50_2, mR50_3, gC51, mN51, gC52, mN52, gC53, mN53, gC54, mN54, gC55, gC56, gC57, mR57_2, mR57_3, mR57_6, mR57_7, mR57_8, mR57_9, mR57_10, mR57_11, mR57_12, mR57_13, mR57_14, mR57_15, mR57_16, mR57_18, mR57_19, mR57_20, mR57_21, mR57_22, mR57_23, mR57_25, mR57_26, mR57_27, mR57_28, mR57_37, mR57_40, mR57_41, mR57_43, mR57_44, mR57_48, mR57_49, gC58, mN58, gC59, mN59, gC60, mN60, gC61, mN61, gC62, mN62, gC63, mN63, gC64, mN64, gC65, mN65, gC66, mN66, gC67, mN67, gC68, mN68, gC69, mN69, gC70, mN70, gC71, mN71, gC72, mN72, gC73, mN73, gC74, mN74, gC75, mN75, gC76, mN76, gC77, mN77, gC78, mN78, gC79, mN79, gC80, mN80, gC81, mN81, gC82, mN82, gC83, mN83, gC84, mN84, gC85, mN85, gC86, mN86, gC87, mN87, tpF_q i N (show 9 ≠ 8 by omega)]
      · have i17 : tpF i 9 8 1 t N (fdC w) N 57 17 = nI t := by rw [tpF_o _ _ (by omega) (by omega)]; exact t3
        have : f_X11_feed_l32 xFu 57 w (nI (N - 0) - 1) (mkS n z L (tpF (tpF i 9 8 1 t N (fdC w) N) 70 57 17 t N (fdM w) 0) l) = some (nI (t + N), mkS n z L (tpF (tpF i 9 8 1 t N (fdC w) N) 70 57 17 t N (fdM w) N) l) := by
          refine acc_loopG (fun m a q => f_X11_feed_l32 m 57 w a q) (fun s => nI (N - s) - 1) (fun s => mkS n z L (tpF (tpF i 9 8 1 t N (fdC w) N) 70 57 17 t N (fdM w) s) l) N _ ?_ ?_ N 0 xFu (by omega) (by unfold xFu; omega)
          · intro m
            show f_X11_feed_l32 (m + 1) 57 w (nI (N - N) - 1) _ = _
            rw [f_X11_feed_l32_s, Nat.sub_self, if_pos (by decide)]
            simp only [mI, mL, mZ, msI, msL, mN1020, gC1, mR1_0, mR1_1, mR1_2, mR1_3, mR1_4, mR1_5, mR1_6, mR1_7, mR1_8, gC2, mR2_6, mR2_7, gC3, mN3, gC4, mN4, gC5, mR5_0, mR5_1, gC6, mN6, gC7, mR7_0, mR7_1, gC8, mR8_0, gC9, mN9, gC10, mR10_0, gC11, mN11, mR11_0, mR11_1, mR11_2, mR11_3, mR11_4, mR11_5, gC12, mR12_0, mR12_1, gC13, mN13, gC14, mN14, gC15, mR15_0, mR15_1, gC16, mN16, gC17, mN17, gC18, mR18_0, mR18_1, gC19, mN19, gC20, mN20, gC21, mR21_0, mR21_1, gC22, mN22, gC23, mN23, gC24, mR24_0, mR24_1, gC25, mN25, gC26, mN26, gC27, mR27_0, mR27_1, gC28, mN28, gC29, mN29, gC30, mR30_0, gC31, mN31, mR31_0, mR31_1, mR31_2, mR31_3, mR31_4, mR31_5, gC32, mR32_0, mR32_1, gC33, mN33, gC34, mN34, gC35, mR35_0, mR35_1, gC36, mN36, gC37, mN37, gC38, mR38_0, mR38_1, gC39, mN39, gC40, mN40, gC41, mR41_0, mR41_1, gC42, mN42, gC43, mN43, gC44, mR44_0, mR44_1, gC45, mN45, gC46, mN46, gC47, mR47_0, mR47_1, gC48, mN48, gC49, mN49, gC50, mR50_0, mR50_1, mR50_2, mR50_3, gC51, mN51, gC52, mN52, gC53, mN53, gC54, mN54, gC55, gC56, gC57, mR57_2, mR57_3, mR57_6, mR57_7, mR57_8, mR57_9, mR57_10, mR57_11, mR57_12, mR57_13, mR57_14, mR57_15, mR57_16, mR57_18, mR57_19, mR57_20, mR57_21, mR57_22, mR57_23, mR57_25, mR57_26, mR57_27, mR57_28, mR57_37, mR57_40, mR57_41, mR57_43, mR57_44, mR57_48, mR57_49, gC58, mN58, gC59, mN59, gC60, mN60, gC61, mN61, gC62, mN62, gC63, mN63, gC64, mN64, gC65, mN65, gC66, mN66, gC67, mN67, gC68, mN68, gC69, mN69, gC70, mN70, gC71, mN71, gC72, mN72, gC73, mN73, gC74, mN74, gC75, mN75, gC76, mN76, gC77, mN77, gC78, mN78, gC79, mN79, gC80, mN80, gC81, mN81, gC82, mN82, gC83, mN83, gC84, mN84, gC85, mN85, gC86, mN86, gC87, mN87, tpF_q _ N (show 70 ≠ 57 by omega)]
          · intro m s hs
            show f_X11_feed_l32 (m + 1) 57 w (nI (N - s) - 1) (mkS n z L (tpF (tpF i 9 8 1 t N (fdC w) N) 70 57 17 t N (fdM w) s) l) = f_X11_feed_l32 m 57 w (nI (N - (s + 1)) - 1) (mkS n z L (tpF (tpF i 9 8 1 t N (fdC w) N) 70 57 17 t N (fdM w) (s + 1)) l)
            rw [f_X11_feed_l32_s, dn s hs, if_neg (nI_pos (by omega))]
            have v : u2 (tpF (tpF i 9 8 1 t N (fdC w) N) 70 57 17 t N (fdM w) s) 70 (t + s) (fdM w (N - s - 1)) 57 17 = nI (t + s) := by rw [u2_p _ _ (by omega), tpF_q _ _ (by omega)]
            simp only [mI, mL, mZ, msI, msL, mN1020, gC1, mR1_0, mR1_1, mR1_2, mR1_3, mR1_4, mR1_5, mR1_6, mR1_7, mR1_8, gC2, mR2_6, mR2_7, gC3, mN3, gC4, mN4, gC5, mR5_0, mR5_1, gC6, mN6, gC7, mR7_0, mR7_1, gC8, mR8_0, gC9, mN9, gC10, mR10_0, gC11, mN11, mR11_0, mR11_1, mR11_2, mR11_3, mR11_4, mR11_5, gC12, mR12_0, mR12_1, gC13, mN13, gC14, mN14, gC15, mR15_0, mR15_1, gC16, mN16, gC17, mN17, gC18, mR18_0, mR18_1, gC19, mN19, gC20, mN20, gC21, mR21_0, mR21_1, gC22, mN22, gC23, mN23, gC24, mR24_0, mR24_1, gC25, mN25, gC26, mN26, gC27, mR27_0, mR27_1, gC28, mN28, gC29, mN29, gC30, mR30_0, gC31, mN31, mR31_0, mR31_1, mR31_2, mR31_3, mR31_4, mR31_5, gC32, mR32_0, mR32_1, gC33, mN33, gC34, mN34, gC35, mR35_0, mR35_1, gC36, mN36, gC37, mN37, gC38, mR38_0, mR38_1, gC39, mN39, gC40, mN40, gC41, mR41_0, mR41_1, gC42, mN42, gC43, mN43, gC44, mR44_0, mR44_1, gC45, mN45, gC46, mN46, gC47, mR47_0, mR47_1, gC48, mN48, gC49, mN49, gC50, mR50_0, mR50_1, mR50_2, mR50_3, gC51, mN51, gC52, mN52, gC53, mN53, gC54, mN54, gC55, gC56, gC57, mR57_2, mR57_3, mR57_6, mR57_7, mR57_8, mR57_9, mR57_10, mR57_11, mR57_12, mR57_13, mR57_14, mR57_15, mR57_16, mR57_18, mR57_19, mR57_20, mR57_21, mR57_22, mR57_23, mR57_25, mR57_26, mR57_27, mR57_28, mR57_37, mR57_40, mR57_41, mR57_43, mR57_44, mR57_48, mR57_49, gC58, mN58, gC59, mN59, gC60, mN60, gC61, mN61, gC62, mN62, gC63, mN63, gC64, mN64, gC65, mN65, gC66, mN66, gC67, mN67, gC68, mN68, gC69, mN69, gC70, mN70, gC71, mN71, gC72, mN72, gC73, mN73, gC74, mN74, gC75, mN75, gC76, mN76, gC77, mN77, gC78, mN78, gC79, mN79, gC80, mN80, gC81, mN81, gC82, mN82, gC83, mN83, gC84, mN84, gC85, mN85, gC86, mN86, gC87, mN87, tpF_q _ s (show 70 ≠ 57 by omega), nI_clamp (show t + s < 2 ^ 31 by omega), lt1E, dn2 s hs]
            rw [gI (by omega) (by omega)]
            show f_X11_feed_l32 m 57 w _ (mkS n z L (u2 (u2 (tpF (tpF i 9 8 1 t N (fdC w) N) 70 57 17 t N (fdM w) s) 70 (t + s) (fdM w (N - s - 1))) 57 17 (u2 (tpF (tpF i 9 8 1 t N (fdC w) N) 70 57 17 t N (fdM w) s) 70 (t + s) (fdM w (N - s - 1)) 57 17 + 1)) l) = _
            rw [v, nI_1, tpF_s _ _ hs (by omega)]
        rw [tpF_0 _ i17, Nat.sub_zero] at this
        simp only [f_X11_feed, in_E, bdS, if_b, if_pos e, mI, mL, mZ, msI, msL, mN1020, gC1, mR1_0, mR1_1, mR1_2, mR1_3, mR1_4, mR1_5, mR1_6, mR1_7, mR1_8, gC2, mR2_6, mR2_7, gC3, mN3, gC4, mN4, gC5, mR5_0, mR5_1, gC6, mN6, gC7, mR7_0, mR7_1, gC8, mR8_0, gC9, mN9, gC10, mR10_0, gC11, mN11, mR11_0, mR11_1, mR11_2, mR11_3, mR11_4, mR11_5, gC12, mR12_0, mR12_1, gC13, mN13, gC14, mN14, gC15, mR15_0, mR15_1, gC16, mN16, gC17, mN17, gC18, mR18_0, mR18_1, gC19, mN19, gC20, mN20, gC21, mR21_0, mR21_1, gC22, mN22, gC23, mN23, gC24, mR24_0, mR24_1, gC25, mN25, gC26, mN26, gC27, mR27_0, mR27_1, gC28, mN28, gC29, mN29, gC30, mR30_0, gC31, mN31, mR31_0, mR31_1, mR31_2, mR31_3, mR31_4, mR31_5, gC32, mR32_0, mR32_1, gC33, mN33, gC34, mN34, gC35, mR35_0, mR35_1, gC36, mN36, gC37, mN37, gC38, mR38_0, mR38_1, gC39, mN39, gC40, mN40, gC41, mR41_0, mR41_1, gC42, mN42, gC43, mN43, gC44, mR44_0, mR44_1, gC45, mN45, gC46, mN46, gC47, mR47_0, mR47_1, gC48, mN48, gC49, mN49, gC50, mR50_0, mR50_1, mR50_2, mR50_3, gC51, mN51, gC52, mN52, gC53, mN53, gC54, mN54, gC55, gC56, gC57, mR57_2, mR57_3, mR57_6, mR57_7, mR57_8, mR57_9, mR57_10, mR57_11, mR57_12, mR57_13, mR57_14, mR57_15, mR57_16, mR57_18, mR57_19, mR57_20, mR57_21, mR57_22, mR57_23, mR57_25, mR57_26, mR57_27, mR57_28, mR57_37, mR57_40, mR57_41, mR57_43, mR57_44, mR57_48, mR57_49, gC58, mN58, gC59, mN59, gC60, mN60, gC61, mN61, gC62, mN62, gC63, mN63, gC64, mN64, gC65, mN65, gC66, mN66, gC67, mN67, gC68, mN68, gC69, mN69, gC70, mN70, gC71, mN71, gC72, mN72, gC73, mN73, gC74, mN74, gC75, mN75, gC76, mN76, gC77, mN77, gC78, mN78, gC79, mN79, gC80, mN80, gC81, mN81, gC82, mN82, gC83, mN83, gC84, mN84, gC85, mN85, gC86, mN86, gC87, mN87, i17]
        rw [if_pos c120, this]
      · have fr : ∀ S : Nat → Nat → Prop, (∀ p k, S p k → p ≠ 9 ∧ ¬ (p = 8 ∧ k = 1) ∧ p ≠ 70 ∧ ¬ (p = 57 ∧ k = 17)) → Fr S i (tpF (tpF i 9 8 1 t N (fdC w) N) 70 57 17 t N (fdM w) N) := fun S hS p k hp => by
          obtain ⟨a, b, c, d⟩ := hS p k hp
          rw [tpF_o _ _ c d, tpF_o _ _ a b]
        refine ⟨hD.fr (fr _ (fun p k q => by unfold sD at q; omega)), hE, hK.fr (fr _ (fun p k q => by unfold sK at q; omega)) Fr_rfl, hB.fr (fr _ (fun p k q => by unfold sB at q; omega)), hG.fr (fr _ (fun p k q => by unfold sG at q; omega)), hN.fr (fr _ (fun p k q => by unfold sN at q; omega)), hF.fr hN.1 (fr _ (fun p k q => by unfold sF at q; omega)), hV.fr (fr _ (fun p k q => by unfold sVv at q; omega)), hA.fr (fr _ (fun p k q => by unfold sVv at q; omega)) Fr_rfl, hX.fr (fr _ (fun p k q => by unfold sX at q; omega)), ?_, hU.fr (fr _ (fun p k q => by unfold sU at q; omega)), hJ.fr (fr _ (fun p k q => by unfold sJ at q; omega)), hM.fr (fr _ (fun p k q => by unfold sM at q; omega)), hL.fr (fr _ (fun p k q => by unfold sLo at q; omega)), hO.fr (fr _ (fun p k q => by unfold sO at q; omega)), hY.fr (fr _ (fun p k q => by unfold sY at q; omega)), hP⟩
        refine ⟨t + N, e1, by rw [tpF_o _ _ (by omega) (by omega), tpF_q _ _ (by omega)], tpF_q _ _ (by omega), fun j hj => ?_⟩
        by_cases q : j < t
        · obtain ⟨b, b1, b2, b3⟩ := t4 j q
          refine ⟨b, b1, ?_, ?_⟩
          · unfold tpF
            rw [if_neg (by omega), if_neg (by omega), if_neg (by omega), if_neg (by omega)]
            exact b2
          · rw [tpF_o _ _ (by omega) (by omega)]
            unfold tpF
            rw [if_neg (by omega), if_neg (by omega)]
            exact b3
        · obtain ⟨b, b1, b2, b3⟩ := fd_rel w (show N - 1 - (j - t) < 8 by omega)
          refine ⟨b, b1, ?_, ?_⟩
          · unfold tpF
            rw [if_pos (by omega)]
            exact b2
          · rw [tpF_o _ _ (by omega) (by omega)]
            unfold tpF
            rw [if_pos (by omega)]
            exact b3
    · have c120 : ¬ nI t + nI N ≤ 120 := by rw [nI_add, show (120 : Int32) = nI 120 from rfl, nI_leI (by omega) (by omega)]; exact e1
      refine ⟨-4, mkS n z L i l, n, i, l, ?_, ?_, ⟨_, _, rfl, by repeat first | exact Fr_rfl | refine Fr_u2 ?_ (by unfold sQ; omega)⟩, h⟩
      · simp only [f_X10_feed, within_E, bdS, if_b, if_pos e, mI, mL, mZ, msI, msL, mN1020, gC1, mR1_0, mR1_1, mR1_2, mR1_3, mR1_4, mR1_5, mR1_6, mR1_7, mR1_8, gC2, mR2_6, mR2_7, gC3, mN3, gC4, mN4, gC5, mR5_0, mR5_1, gC6, mN6, gC7, mR7_0, mR7_1, gC8, mR8_0, gC9, mN9, gC10, mR10_0, gC11, mN11, mR11_0, mR11_1, mR11_2, mR11_3, mR11_4, mR11_5, gC12, mR12_0, mR12_1, gC13, mN13, gC14, mN14, gC15, mR15_0, mR15_1, gC16, mN16, gC17, mN17, gC18, mR18_0, mR18_1, gC19, mN19, gC20, mN20, gC21, mR21_0, mR21_1, gC22, mN22, gC23, mN23, gC24, mR24_0, mR24_1, gC25, mN25, gC26, mN26, gC27, mR27_0, mR27_1, gC28, mN28, gC29, mN29, gC30, mR30_0, gC31, mN31, mR31_0, mR31_1, mR31_2, mR31_3, mR31_4, mR31_5, gC32, mR32_0, mR32_1, gC33, mN33, gC34, mN34, gC35, mR35_0, mR35_1, gC36, mN36, gC37, mN37, gC38, mR38_0, mR38_1, gC39, mN39, gC40, mN40, gC41, mR41_0, mR41_1, gC42, mN42, gC43, mN43, gC44, mR44_0, mR44_1, gC45, mN45, gC46, mN46, gC47, mR47_0, mR47_1, gC48, mN48, gC49, mN49, gC50, mR50_0, mR50_1, mR50_2, mR50_3, gC51, mN51, gC52, mN52, gC53, mN53, gC54, mN54, gC55, gC56, gC57, mR57_2, mR57_3, mR57_6, mR57_7, mR57_8, mR57_9, mR57_10, mR57_11, mR57_12, mR57_13, mR57_14, mR57_15, mR57_16, mR57_18, mR57_19, mR57_20, mR57_21, mR57_22, mR57_23, mR57_25, mR57_26, mR57_27, mR57_28, mR57_37, mR57_40, mR57_41, mR57_43, mR57_44, mR57_48, mR57_49, gC58, mN58, gC59, mN59, gC60, mN60, gC61, mN61, gC62, mN62, gC63, mN63, gC64, mN64, gC65, mN65, gC66, mN66, gC67, mN67, gC68, mN68, gC69, mN69, gC70, mN70, gC71, mN71, gC72, mN72, gC73, mN73, gC74, mN74, gC75, mN75, gC76, mN76, gC77, mN77, gC78, mN78, gC79, mN79, gC80, mN80, gC81, mN81, gC82, mN82, gC83, mN83, gC84, mN84, gC85, mN85, gC86, mN86, gC87, mN87, f_X7_hasRoom, t2]
        rw [if_pos (Int32.not_le.mp c120)]
        rfl
      · simp only [f_X11_feed, in_E, bdS, if_b, if_pos e, mI, mL, mZ, msI, msL, mN1020, gC1, mR1_0, mR1_1, mR1_2, mR1_3, mR1_4, mR1_5, mR1_6, mR1_7, mR1_8, gC2, mR2_6, mR2_7, gC3, mN3, gC4, mN4, gC5, mR5_0, mR5_1, gC6, mN6, gC7, mR7_0, mR7_1, gC8, mR8_0, gC9, mN9, gC10, mR10_0, gC11, mN11, mR11_0, mR11_1, mR11_2, mR11_3, mR11_4, mR11_5, gC12, mR12_0, mR12_1, gC13, mN13, gC14, mN14, gC15, mR15_0, mR15_1, gC16, mN16, gC17, mN17, gC18, mR18_0, mR18_1, gC19, mN19, gC20, mN20, gC21, mR21_0, mR21_1, gC22, mN22, gC23, mN23, gC24, mR24_0, mR24_1, gC25, mN25, gC26, mN26, gC27, mR27_0, mR27_1, gC28, mN28, gC29, mN29, gC30, mR30_0, gC31, mN31, mR31_0, mR31_1, mR31_2, mR31_3, mR31_4, mR31_5, gC32, mR32_0, mR32_1, gC33, mN33, gC34, mN34, gC35, mR35_0, mR35_1, gC36, mN36, gC37, mN37, gC38, mR38_0, mR38_1, gC39, mN39, gC40, mN40, gC41, mR41_0, mR41_1, gC42, mN42, gC43, mN43, gC44, mR44_0, mR44_1, gC45, mN45, gC46, mN46, gC47, mR47_0, mR47_1, gC48, mN48, gC49, mN49, gC50, mR50_0, mR50_1, mR50_2, mR50_3, gC51, mN51, gC52, mN52, gC53, mN53, gC54, mN54, gC55, gC56, gC57, mR57_2, mR57_3, mR57_6, mR57_7, mR57_8, mR57_9, mR57_10, mR57_11, mR57_12, mR57_13, mR57_14, mR57_15, mR57_16, mR57_18, mR57_19, mR57_20, mR57_21, mR57_22, mR57_23, mR57_25, mR57_26, mR57_27, mR57_28, mR57_37, mR57_40, mR57_41, mR57_43, mR57_44, mR57_48, mR57_49, gC58, mN58, gC59, mN59, gC60, mN60, gC61, mN61, gC62, mN62, gC63, mN63, gC64, mN64, gC65, mN65, gC66, mN66, gC67, mN67, gC68, mN68, gC69, mN69, gC70, mN70, gC71, mN71, gC72, mN72, gC73, mN73, gC74, mN74, gC75, mN75, gC76, mN76, gC77, mN77, gC78, mN78, gC79, mN79, gC80, mN80, gC81, mN81, gC82, mN82, gC83, mN83, gC84, mN84, gC85, mN85, gC86, mN86, gC87, mN87, t3]
        rw [if_neg c120]
  · refine ⟨-2, mkS n z L i l, n, i, l, ?_, ?_, ⟨_, _, rfl, by repeat first | exact Fr_rfl | refine Fr_u2 ?_ (by unfold sQ; omega)⟩, h⟩
    · simp only [f_X10_feed, within_E, bdS, if_b, if_neg e]
    · simp only [f_X11_feed, in_E, bdS, if_b, if_neg e]
end OPS7
