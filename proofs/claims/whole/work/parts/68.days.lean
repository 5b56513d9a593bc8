section DAYS
variable {C R n z L T M : Nat} {i : fI} {l : fL} {b : Nat → Nat}
theorem wrd_snoc (t : Nat → Nat) (s : Nat) : ∀ r j p, wrd t s (r + 1) j p = if (wrd t s r j p).1 = true then (if t (wrd t s r j p).2 = wch s (j + r) then (true, (wrd t s r j p).2 + 1) else (false, (wrd t s r j p).2)) else wrd t s r j p
  | 0, j, p => by
    show (if t p = wch s j then (true, p + 1) else (false, p)) = if true = true then (if t p = wch s (j + 0) then (true, p + 1) else (false, p)) else (true, p)
    rw [if_pos rfl]
    rfl
  | r + 1, j, p => by
    have ih := wrd_snoc t s r (j + 1) (p + 1)
    have e1 : wrd t s (r + 1 + 1) j p = if t p = wch s j then wrd t s (r + 1) (j + 1) (p + 1) else (false, p) := rfl
    have e2 : wrd t s (r + 1) j p = if t p = wch s j then wrd t s r (j + 1) (p + 1) else (false, p) := rfl
    rw [e1, e2]
    by_cases e : t p = wch s j
    · rw [if_pos e, if_pos e, ih, show j + 1 + r = j + (r + 1) by omega]
    · rw [if_neg e, if_neg e, if_neg (show ¬ false = true by decide)]
theorem wrd_pre {s : Nat} (hs : s < 7) : ∀ r p, r ≤ wln s → p ≤ T → (wrd (tpF2 T b) s r 0 p).2 ≤ T
  | 0, p, _, hp => hp
  | r + 1, p, hr, hp => by
    have ih := wrd_pre hs r p (by omega) hp
    rw [wrd_snoc]
    by_cases e : (wrd (tpF2 T b) s r 0 p).1 = true
    · rw [if_pos e]
      by_cases e2 : tpF2 T b (wrd (tpF2 T b) s r 0 p).2 = wch s (0 + r)
      · rw [if_pos e2]
        have hc := wch_lt hs (show 0 + r < wln s by omega)
        have := lt_tp (c := wch s (0 + r)) (by omega) e2
        exact this
      · rw [if_neg e2]; exact ih
    · rw [if_neg e]; exact ih
theorem must_j (hT : TM T b i) {s j p : Nat} (hs : s < 7) (hj : j < wln s) (hp : p ≤ T) {x : Int32} (hx : x = nI (wch s j)) (td : Int32) : f_X11_must 57 x (mkS n z L (stM i (wrd (tpF2 T b) s j 0 p).2 (!(wrd (tpF2 T b) s j 0 p).1) td) l) = some ((), mkS n z L (stM i (wrd (tpF2 T b) s (j + 1) 0 p).2 (!(wrd (tpF2 T b) s (j + 1) 0 p).1) td) l) := by
  have hl := wrd_pre (T := T) (b := b) hs j p (by omega) hp
  have hc := wch_lt hs hj
  rw [wrd_snoc, Nat.zero_add]
  cases e : (wrd (tpF2 T b) s j 0 p).1 with
  | true =>
    rw [if_pos rfl, show (!true) = false from rfl, must_E hT hl (show wch s j < 256 by omega) hx]
    by_cases e2 : tpF2 T b (wrd (tpF2 T b) s j 0 p).2 = wch s j
    · rw [if_pos e2, if_pos e2]; rfl
    · rw [if_neg e2, if_neg e2]; rfl
  | false =>
    rw [if_neg (by decide), e, show (!false) = true from rfl, must_w]
theorem addT1_E {e : Nat} (hM : M < 6) (he : e < 5) (h2 : i (32 + 3 * M) 2 = nI e) (x y : Int32) : f_X8_add (32 + 3 * M) x y (mkS n z L i l) = some ((), mkS n z L (u2 (u2 (u2 i (33 + 3 * M) e x) (34 + 3 * M) e y) (32 + 3 * M) 2 (nI (e + 1))) l) := by
  have v1 : u2 i (33 + 3 * M) e x (32 + 3 * M) 2 = nI e := by rw [u2_p _ _ (by omega)]; exact h2
  have v2 : u2 (u2 i (33 + 3 * M) e x) (34 + 3 * M) e y (32 + 3 * M) 2 = nI e := by rw [u2_p _ _ (by omega)]; exact v1
  simp only [f_X8_add, tx1_c hM, mI, mL, mZ, msI, msL, mN1020, gC1, mR1_0, mR1_1, mR1_2, mR1_3, mR1_4, mR1_5, mR1_6, mR1_7, mR1_8, gC2, mR2_6, mR2_7, gC3, mN3, gC4, mN4, gC5, mR5_0, mR5_1, gC6, mN6, gC7, mR7_0, mR7_1, gC8, mR8_0, gC9, mN9, gC10, mR10_0, gC11, mN11, mR11_0, mR11_1, mR11_2, mR11_3, mR11_4, mR11_5, gC12, mR12_0, mR12_1, gC13, mN13, gC14, mN14, gC15, mR15_0, mR15_1, gC16, mN16, gC17, mN17, gC18, mR18_0, mR18_1, gC19, mN19, gC20, mN20, gC21, mR21_0, mR21_1, gC22, mN22, gC23, mN23, gC24, mR24_0, mR24_1, gC25, mN25, gC26, mN26, gC27, mR27_0, mR27_1, gC28, mN28, gC29, mN29, gC30, mR30_0, gC31, mN31, mR31_0, mR31_1, mR31_2, mR31_3, mR31_4, mR31_5, gC32, mR32_0, mR32_1, gC33, mN33, gC34, mN34, gC35, mR35_0, mR35_1, gC36, mN36, gC37, mN37, gC38, mR38_0, mR38_1, gC39, mN39, gC40, mN40, gC41, mR41_0, mR41_1, gC42, mN42, gC43, mN43, gC44, mR44_0, mR44_1, gC45, mN45, gC46, mN46, gC47, mR47_0, mR47_1, gC48, mN48, gC49, mN49, gC50, mR50_0, mR50_1, mR50_2, mR50_3, gC51, mN51, gC52, mN52, gC53, mN53, gC54, mN54, gC55, gC56, gC57, mR57_2, mR57_3, mR57_6, mR57_7, mR57_8, mR57_9, mR57_10, mR57_11, mR57_12, mR57_13, mR57_14, mR57_15, mR57_16, mR57_18, mR57_19, mR57_20, mR57_21, mR57_22, mR57_23, mR57_25, mR57_26, mR57_27, mR57_28, mR57_37, mR57_40, mR57_41, mR57_43, mR57_44, mR57_48, mR57_49, gC58, mN58, gC59, mN59, gC60, mN60, gC61, mN61, gC62, mN62, gC63, mN63, gC64, mN64, gC65, mN65, gC66, mN66, gC67, mN67, gC68, mN68, gC69, mN69, gC70, mN70, gC71, mN71, gC72, mN72, gC73, mN73, gC74, mN74, gC75, mN75, gC76, mN76, gC77, mN77, gC78, mN78, gC79, mN79, gC80, mN80, gC81, mN81, gC82, mN82, gC83, mN83, gC84, mN84, gC85, mN85, gC86, mN86, gC87, mN87, h2, tx1_k hM, tx1_kc hM, tx1_kn hM, tx1_n hM, tx1_nc hM, tx1_nn hM, nI_clamp (show e < 2 ^ 31 by omega), gI he (show 5 < 2 ^ 31 by omega), lt1E, v1, v2, nI_1]
  rw [if_neg (by rw [show (5 : Int32) = nI 5 from rfl]; exact nI_ge he (by omega))]
theorem add1_P {e : Nat} (hM : M < 6) (he : e < 5) (h2 : i (32 + 3 * M) 2 = nI e) (x y v : Int32) : f_X8_add (32 + 3 * M) x y (mkS n z L (u2 i 8 2 v) l) = some ((), mkS n z L (u2 (adF i (32 + 3 * M) e x y) 8 2 v) l) := by
  rw [addT1_E hM he (show u2 i 8 2 v (32 + 3 * M) 2 = nI e by rw [u2_p _ _ (by omega)]; exact h2)]
  unfold adF
  rw [u2_comm i 2 e v x (show 8 ≠ 33 + 3 * M by omega), u2_comm _ 2 e v y (show 8 ≠ 34 + 3 * M by omega), u2_comm _ 2 2 v (nI (e + 1)) (show 8 ≠ 32 + 3 * M by omega), show 32 + 3 * M + 1 = 33 + 3 * M by omega, show 32 + 3 * M + 2 = 34 + 3 * M by omega]
theorem week_E (hT : TC T b i) {p : Nat} (hp : p ≤ T) : f_X7_readWeekday 8 (mkS n z L (u2 i 8 2 (nI p)) l) = if dgB (tpF2 T b p) 54 = true then some (nI (tpF2 T b p - 48), mkS n z L (u2 i 8 2 (nI (p + 1))) l) else some (-1, mkS n z L (u2 i 8 2 (nI p)) l) := by
  have h120 := hT.1
  unfold f_X7_readWeekday
  rw [show (54 : Int32) = nI 54 from rfl]
  simp only [mI, mL, mZ, msI, msL, mN1020, gC1, mR1_0, mR1_1, mR1_2, mR1_3, mR1_4, mR1_5, mR1_6, mR1_7, mR1_8, gC2, mR2_6, mR2_7, gC3, mN3, gC4, mN4, gC5, mR5_0, mR5_1, gC6, mN6, gC7, mR7_0, mR7_1, gC8, mR8_0, gC9, mN9, gC10, mR10_0, gC11, mN11, mR11_0, mR11_1, mR11_2, mR11_3, mR11_4, mR11_5, gC12, mR12_0, mR12_1, gC13, mN13, gC14, mN14, gC15, mR15_0, mR15_1, gC16, mN16, gC17, mN17, gC18, mR18_0, mR18_1, gC19, mN19, gC20, mN20, gC21, mR21_0, mR21_1, gC22, mN22, gC23, mN23, gC24, mR24_0, mR24_1, gC25, mN25, gC26, mN26, gC27, mR27_0, mR27_1, gC28, mN28, gC29, mN29, gC30, mR30_0, gC31, mN31, mR31_0, mR31_1, mR31_2, mR31_3, mR31_4, mR31_5, gC32, mR32_0, mR32_1, gC33, mN33, gC34, mN34, gC35, mR35_0, mR35_1, gC36, mN36, gC37, mN37, gC38, mR38_0, mR38_1, gC39, mN39, gC40, mN40, gC41, mR41_0, mR41_1, gC42, mN42, gC43, mN43, gC44, mR44_0, mR44_1, gC45, mN45, gC46, mN46, gC47, mR47_0, mR47_1, gC48, mN48, gC49, mN49, gC50, mR50_0, mR50_1, mR50_2, mR50_3, gC51, mN51, gC52, mN52, gC53, mN53, gC54, mN54, gC55, gC56, gC57, mR57_2, mR57_3, mR57_6, mR57_7, mR57_8, mR57_9, mR57_10, mR57_11, mR57_12, mR57_13, mR57_14, mR57_15, mR57_16, mR57_18, mR57_19, mR57_20, mR57_21, mR57_22, mR57_23, mR57_25, mR57_26, mR57_27, mR57_28, mR57_37, mR57_40, mR57_41, mR57_43, mR57_44, mR57_48, mR57_49, gC58, mN58, gC59, mN59, gC60, mN60, gC61, mN61, gC62, mN62, gC63, mN63, gC64, mN64, gC65, mN65, gC66, mN66, gC67, mN67, gC68, mN68, gC69, mN69, gC70, mN70, gC71, mN71, gC72, mN72, gC73, mN73, gC74, mN74, gC75, mN75, gC76, mN76, gC77, mN77, gC78, mN78, gC79, mN79, gC80, mN80, gC81, mN81, gC82, mN82, gC83, mN83, gC84, mN84, gC85, mN85, gC86, mN86, gC87, mN87, digit_E (TC_p hT (nI p)) hp (u2_s _ _ _ _) (show 54 < 128 by decide), bdS, bI_e0, u2_s, lt1E, u2_u2, nI_1, nI_pred, nI_clamp (show p < 2 ^ 31 by omega)]
  cases hd : dgB (tpF2 T b p) 54 with
  | false => rw [if_pos rfl, if_neg (by decide)]
  | true =>
    obtain ⟨hp2, ep⟩ := tp_dg (by decide) hd
    have hv := hT.2.2 p hp2
    have hc := of_decide_eq_true hd
    rw [ep] at hc ⊢
    rw [if_neg (by decide), if_pos rfl, gI (show p < 120 by omega) (by omega), u2_p _ _ (show (9 : Nat) ≠ 8 by decide), hv.2, sb_lo (by omega), show (48 : Int32) = nI 48 from rfl, pk_sub hc.1]
def CI1 (M : Nat) (F : Nat → Int32 → Int32) (i : fI) (e : Nat) : Prop := ∀ wd d, wd < 7 → fsel (fun j => decide (i (33 + 3 * M) j = nI wd) || decide (i (33 + 3 * M) j = -1)) (fun j => i (34 + 3 * M) j) d e 0 = F wd d
def MI1 (M : Nat) (F : Nat → Int32 → Int32) (i : fI) (N : Nat) : Prop := ∀ wd d, wd < 7 → fsel (fun j => decide (i 75 (4 * (6 + M) + j) = nI wd)) (fun j => i 76 (5 * (6 + M) + j)) d N 0 = F wd d
def nD (F : Nat → Int32 → Int32) (d0 v : Nat) (wd : Nat) (d : Int32) : Int32 := F wd (if d0 = wd then nI v else d)
theorem adF_1 (i : fI) (e : Nat) (x y : Int32) : (∀ j, j ≠ e → adF i (32 + 3 * M) e x y (34 + 3 * M) j = i (34 + 3 * M) j) ∧ (∀ j, j ≠ e → adF i (32 + 3 * M) e x y (33 + 3 * M) j = i (33 + 3 * M) j) ∧ adF i (32 + 3 * M) e x y (34 + 3 * M) e = y ∧ adF i (32 + 3 * M) e x y (33 + 3 * M) e = x := by
  unfold adF
  rw [show 32 + 3 * M + 1 = 33 + 3 * M by omega, show 32 + 3 * M + 2 = 34 + 3 * M by omega]
  refine ⟨fun j hj => ?_, fun j hj => ?_, ?_, ?_⟩
  · rw [u2_p _ _ (by omega), u2_k _ _ hj, u2_p _ _ (by omega)]
  · rw [u2_p _ _ (by omega), u2_p _ _ (by omega), u2_k _ _ hj]
  · rw [u2_p _ _ (by omega), u2_s]
  · rw [u2_p _ _ (by omega), u2_p _ _ (by omega), u2_s]
theorem CI1_add {F : Nat → Int32 → Int32} {e d0 v : Nat} (h : CI1 M F i e) (hd : d0 < 7) : CI1 M (nD F d0 v) (adF i (32 + 3 * M) e (nI d0) (nI v)) (e + 1) := by
  intro wd d hw
  obtain ⟨r1, r2, r3, r4⟩ := adF_1 (M := M) i e (nI d0) (nI v)
  rw [fsel_snoc]
  simp only [Nat.zero_add, r3, r4]
  unfold nD
  rw [← h wd _ hw]
  have e1 : (if (decide (nI d0 = nI wd) || decide (nI d0 = -1)) = true then nI v else d) = if d0 = wd then nI v else d := by
    have q1 : (nI d0 = nI wd) = (d0 = wd) := propext (nI_eq (by omega) (by omega))
    have q2 : ¬ nI d0 = -1 := nI_m1 (by omega)
    by_cases q : d0 = wd
    · rw [if_pos q, if_pos (by simp [q])]
    · rw [if_neg q, if_neg (by simp [q1, q, q2])]
  rw [e1]
  exact fsel_cong _ _ (fun j _ hj => ⟨by rw [r2 j (by omega)], r1 j (by omega)⟩) rfl
theorem CI1_any {F : Nat → Int32 → Int32} {e v : Nat} (h : CI1 M F i e) {wd : Nat} (hw : wd < 7) (d : Int32) : fsel (fun j => decide (adF i (32 + 3 * M) e (-1) (nI v) (33 + 3 * M) j = nI wd) || decide (adF i (32 + 3 * M) e (-1) (nI v) (33 + 3 * M) j = -1)) (fun j => adF i (32 + 3 * M) e (-1) (nI v) (34 + 3 * M) j) d (e + 1) 0 = F wd (nI v) := by
  obtain ⟨r1, r2, r3, r4⟩ := adF_1 (M := M) i e (-1) (nI v)
  rw [fsel_snoc]
  simp only [Nat.zero_add, r3, r4]
  rw [if_pos (by simp), ← h wd _ hw]
  exact fsel_cong _ _ (fun j _ hj => ⟨by rw [r2 j (by omega)], r1 j (by omega)⟩) rfl
theorem MI1_add {F : Nat → Int32 → Int32} {N d0 v : Nat} (h : MI1 M F i N) (hd : d0 < 7) : MI1 M (nD F d0 v) (u2 (u2 i 76 (5 * (6 + M) + N) (nI v)) 75 (4 * (6 + M) + N) (nI d0)) (N + 1) := by
  intro wd d hw
  rw [fsel_snoc]
  have r3 : u2 (u2 i 76 (5 * (6 + M) + N) (nI v)) 75 (4 * (6 + M) + N) (nI d0) 76 (5 * (6 + M) + N) = nI v := by rw [u2_p _ _ (by decide), u2_s]
  simp only [Nat.zero_add, u2_s, r3]
  unfold nD
  rw [← h wd _ hw]
  have e1 : (if decide (nI d0 = nI wd) = true then nI v else d) = if d0 = wd then nI v else d := by
    have q1 : (nI d0 = nI wd) = (d0 = wd) := propext (nI_eq (by omega) (by omega))
    by_cases q : d0 = wd
    · rw [if_pos q, if_pos (by simp [q])]
    · rw [if_neg q, if_neg (by simp [q1, q])]
  rw [e1]
  exact fsel_cong _ _ (fun j _ hj => ⟨by rw [u2_k _ _ (by omega), u2_p _ _ (by decide)], by rw [u2_p _ _ (by decide), u2_k _ _ (by omega)]⟩) rfl
theorem b94_E (hT : TC T b i) (hM : M < 6) {e p : Nat} (he : e < 5) (h2 : i (32 + 3 * M) 2 = nI e) (hp : p ≤ T) (x : Int32) : f_X7_readDays_b94 8 (32 + 3 * M) x (mkS n z L (u2 i 8 2 (nI p)) l) = some (if x = -1 then 0 else bI (decide (T ≤ p)), mkS n z L (u2 (adF i (32 + 3 * M) e (-1) x) 8 2 (nI p)) l) := by
  have h120 := hT.1
  have hT2 : TC T b (adF i (32 + 3 * M) e (-1) x) := TC_fr hT (fun p k hp => adF_fr i _ e _ _ p k (by unfold sTx; omega))
  unfold f_X7_readDays_b94
  rw [tx1_c hM, add1_P hM he h2, bdS]
  simp only [mI, mL, mZ, msI, msL, mN1020, gC1, mR1_0, mR1_1, mR1_2, mR1_3, mR1_4, mR1_5, mR1_6, mR1_7, mR1_8, gC2, mR2_6, mR2_7, gC3, mN3, gC4, mN4, gC5, mR5_0, mR5_1, gC6, mN6, gC7, mR7_0, mR7_1, gC8, mR8_0, gC9, mN9, gC10, mR10_0, gC11, mN11, mR11_0, mR11_1, mR11_2, mR11_3, mR11_4, mR11_5, gC12, mR12_0, mR12_1, gC13, mN13, gC14, mN14, gC15, mR15_0, mR15_1, gC16, mN16, gC17, mN17, gC18, mR18_0, mR18_1, gC19, mN19, gC20, mN20, gC21, mR21_0, mR21_1, gC22, mN22, gC23, mN23, gC24, mR24_0, mR24_1, gC25, mN25, gC26, mN26, gC27, mR27_0, mR27_1, gC28, mN28, gC29, mN29, gC30, mR30_0, gC31, mN31, mR31_0, mR31_1, mR31_2, mR31_3, mR31_4, mR31_5, gC32, mR32_0, mR32_1, gC33, mN33, gC34, mN34, gC35, mR35_0, mR35_1, gC36, mN36, gC37, mN37, gC38, mR38_0, mR38_1, gC39, mN39, gC40, mN40, gC41, mR41_0, mR41_1, gC42, mN42, gC43, mN43, gC44, mR44_0, mR44_1, gC45, mN45, gC46, mN46, gC47, mR47_0, mR47_1, gC48, mN48, gC49, mN49, gC50, mR50_0, mR50_1, mR50_2, mR50_3, gC51, mN51, gC52, mN52, gC53, mN53, gC54, mN54, gC55, gC56, gC57, mR57_2, mR57_3, mR57_6, mR57_7, mR57_8, mR57_9, mR57_10, mR57_11, mR57_12, mR57_13, mR57_14, mR57_15, mR57_16, mR57_18, mR57_19, mR57_20, mR57_21, mR57_22, mR57_23, mR57_25, mR57_26, mR57_27, mR57_28, mR57_37, mR57_40, mR57_41, mR57_43, mR57_44, mR57_48, mR57_49, gC58, mN58, gC59, mN59, gC60, mN60, gC61, mN61, gC62, mN62, gC63, mN63, gC64, mN64, gC65, mN65, gC66, mN66, gC67, mN67, gC68, mN68, gC69, mN69, gC70, mN70, gC71, mN71, gC72, mN72, gC73, mN73, gC74, mN74, gC75, mN75, gC76, mN76, gC77, mN77, gC78, mN78, gC79, mN79, gC80, mN80, gC81, mN81, gC82, mN82, gC83, mN83, gC84, mN84, gC85, mN85, gC86, mN86, gC87, mN87, atEnd_E (TC_p hT2 (nI p)) (show p ≤ 120 by omega) (u2_s _ _ _ _), bdS, bI_e0]
  by_cases q : x = -1
  · rw [if_pos q, if_pos q]
  · rw [if_neg q, if_neg q]
    cases decide (T ≤ p) <;> rfl
theorem b181_E (hM : M < 6) {N p : Nat} (hN : N ≤ 4) (wr : Bool) (td : Int32) : f_X11_daysOf_b181 57 (nI (6 + M)) (nI N) (mkS n z L (stM i p wr td) l) = some ((), mkS n z L (stM (u2 (u2 i 74 (6 + M) (nI N)) 76 (5 * (6 + M) + N) td) p wr td) l) := by
  simp only [f_X11_daysOf_b181, mI, mL, mZ, msI, msL, mN1020, gC1, mR1_0, mR1_1, mR1_2, mR1_3, mR1_4, mR1_5, mR1_6, mR1_7, mR1_8, gC2, mR2_6, mR2_7, gC3, mN3, gC4, mN4, gC5, mR5_0, mR5_1, gC6, mN6, gC7, mR7_0, mR7_1, gC8, mR8_0, gC9, mN9, gC10, mR10_0, gC11, mN11, mR11_0, mR11_1, mR11_2, mR11_3, mR11_4, mR11_5, gC12, mR12_0, mR12_1, gC13, mN13, gC14, mN14, gC15, mR15_0, mR15_1, gC16, mN16, gC17, mN17, gC18, mR18_0, mR18_1, gC19, mN19, gC20, mN20, gC21, mR21_0, mR21_1, gC22, mN22, gC23, mN23, gC24, mR24_0, mR24_1, gC25, mN25, gC26, mN26, gC27, mR27_0, mR27_1, gC28, mN28, gC29, mN29, gC30, mR30_0, gC31, mN31, mR31_0, mR31_1, mR31_2, mR31_3, mR31_4, mR31_5, gC32, mR32_0, mR32_1, gC33, mN33, gC34, mN34, gC35, mR35_0, mR35_1, gC36, mN36, gC37, mN37, gC38, mR38_0, mR38_1, gC39, mN39, gC40, mN40, gC41, mR41_0, mR41_1, gC42, mN42, gC43, mN43, gC44, mR44_0, mR44_1, gC45, mN45, gC46, mN46, gC47, mR47_0, mR47_1, gC48, mN48, gC49, mN49, gC50, mR50_0, mR50_1, mR50_2, mR50_3, gC51, mN51, gC52, mN52, gC53, mN53, gC54, mN54, gC55, gC56, gC57, mR57_2, mR57_3, mR57_6, mR57_7, mR57_8, mR57_9, mR57_10, mR57_11, mR57_12, mR57_13, mR57_14, mR57_15, mR57_16, mR57_18, mR57_19, mR57_20, mR57_21, mR57_22, mR57_23, mR57_25, mR57_26, mR57_27, mR57_28, mR57_37, mR57_40, mR57_41, mR57_43, mR57_44, mR57_48, mR57_49, gC58, mN58, gC59, mN59, gC60, mN60, gC61, mN61, gC62, mN62, gC63, mN63, gC64, mN64, gC65, mN65, gC66, mN66, gC67, mN67, gC68, mN68, gC69, mN69, gC70, mN70, gC71, mN71, gC72, mN72, gC73, mN73, gC74, mN74, gC75, mN75, gC76, mN76, gC77, mN77, gC78, mN78, gC79, mN79, gC80, mN80, gC81, mN81, gC82, mN82, gC83, mN83, gC84, mN84, gC85, mN85, gC86, mN86, gC87, mN87, show (5 : Int32) = nI 5 from rfl, pk_mul, nI_add, nI_clamp (show 6 + M < 2 ^ 31 by omega), gI (show 6 + M < 12 by omega) (show 12 < 2 ^ 31 by omega), nI_clamp (show 5 * (6 + M) + N < 2 ^ 31 by omega), gI (show 5 * (6 + M) + N < 60 by omega) (show 60 < 2 ^ 31 by omega), lt1E, stM_i _ _ _ _ _ (show (74 : Nat) ≠ 57 by decide), stM_47, stM_i _ _ _ _ _ (show (76 : Nat) ≠ 57 by decide)]
theorem l30_w (hM : M < 6) {N p m : Nat} (hN : N ≤ 4) (td : Int32) : f_X11_daysOf_l30 (m + 1) 57 (nI (6 + M)) (nI N) (mkS n z L (stM i p true td) l) = some ((), mkS n z L (stM (u2 (u2 i 74 (6 + M) (nI N)) 76 (5 * (6 + M) + N) td) p true td) l) := by
  rw [f_X11_daysOf_l30_s]
  simp only [mI, mL, mZ, msI, msL, mN1020, gC1, mR1_0, mR1_1, mR1_2, mR1_3, mR1_4, mR1_5, mR1_6, mR1_7, mR1_8, gC2, mR2_6, mR2_7, gC3, mN3, gC4, mN4, gC5, mR5_0, mR5_1, gC6, mN6, gC7, mR7_0, mR7_1, gC8, mR8_0, gC9, mN9, gC10, mR10_0, gC11, mN11, mR11_0, mR11_1, mR11_2, mR11_3, mR11_4, mR11_5, gC12, mR12_0, mR12_1, gC13, mN13, gC14, mN14, gC15, mR15_0, mR15_1, gC16, mN16, gC17, mN17, gC18, mR18_0, mR18_1, gC19, mN19, gC20, mN20, gC21, mR21_0, mR21_1, gC22, mN22, gC23, mN23, gC24, mR24_0, mR24_1, gC25, mN25, gC26, mN26, gC27, mR27_0, mR27_1, gC28, mN28, gC29, mN29, gC30, mR30_0, gC31, mN31, mR31_0, mR31_1, mR31_2, mR31_3, mR31_4, mR31_5, gC32, mR32_0, mR32_1, gC33, mN33, gC34, mN34, gC35, mR35_0, mR35_1, gC36, mN36, gC37, mN37, gC38, mR38_0, mR38_1, gC39, mN39, gC40, mN40, gC41, mR41_0, mR41_1, gC42, mN42, gC43, mN43, gC44, mR44_0, mR44_1, gC45, mN45, gC46, mN46, gC47, mR47_0, mR47_1, gC48, mN48, gC49, mN49, gC50, mR50_0, mR50_1, mR50_2, mR50_3, gC51, mN51, gC52, mN52, gC53, mN53, gC54, mN54, gC55, gC56, gC57, mR57_2, mR57_3, mR57_6, mR57_7, mR57_8, mR57_9, mR57_10, mR57_11, mR57_12, mR57_13, mR57_14, mR57_15, mR57_16, mR57_18, mR57_19, mR57_20, mR57_21, mR57_22, mR57_23, mR57_25, mR57_26, mR57_27, mR57_28, mR57_37, mR57_40, mR57_41, mR57_43, mR57_44, mR57_48, mR57_49, gC58, mN58, gC59, mN59, gC60, mN60, gC61, mN61, gC62, mN62, gC63, mN63, gC64, mN64, gC65, mN65, gC66, mN66, gC67, mN67, gC68, mN68, gC69, mN69, gC70, mN70, gC71, mN71, gC72, mN72, gC73, mN73, gC74, mN74, gC75, mN75, gC76, mN76, gC77, mN77, gC78, mN78, gC79, mN79, gC80, mN80, gC81, mN81, gC82, mN82, gC83, mN83, gC84, mN84, gC85, mN85, gC86, mN86, gC87, mN87, stM_46]
  rw [if_neg (by decide), b181_E hM hN]
theorem b124_w {N p : Nat} (wr : Bool) (td x1 : Int32) (k30 : Nat → Int32 → Int32 → xSt → Option (Unit × xSt)) : f_X11_daysOf_b124 k30 57 x1 (nI N) 57 1 (mkS n z L (stM i p wr td) l) = k30 57 x1 (nI (N + 1)) (mkS n z L (stM i p true 0) l) := by
  unfold f_X11_daysOf_b124
  simp only [mI, mL, mZ, msI, msL, mN1020, gC1, mR1_0, mR1_1, mR1_2, mR1_3, mR1_4, mR1_5, mR1_6, mR1_7, mR1_8, gC2, mR2_6, mR2_7, gC3, mN3, gC4, mN4, gC5, mR5_0, mR5_1, gC6, mN6, gC7, mR7_0, mR7_1, gC8, mR8_0, gC9, mN9, gC10, mR10_0, gC11, mN11, mR11_0, mR11_1, mR11_2, mR11_3, mR11_4, mR11_5, gC12, mR12_0, mR12_1, gC13, mN13, gC14, mN14, gC15, mR15_0, mR15_1, gC16, mN16, gC17, mN17, gC18, mR18_0, mR18_1, gC19, mN19, gC20, mN20, gC21, mR21_0, mR21_1, gC22, mN22, gC23, mN23, gC24, mR24_0, mR24_1, gC25, mN25, gC26, mN26, gC27, mR27_0, mR27_1, gC28, mN28, gC29, mN29, gC30, mR30_0, gC31, mN31, mR31_0, mR31_1, mR31_2, mR31_3, mR31_4, mR31_5, gC32, mR32_0, mR32_1, gC33, mN33, gC34, mN34, gC35, mR35_0, mR35_1, gC36, mN36, gC37, mN37, gC38, mR38_0, mR38_1, gC39, mN39, gC40, mN40, gC41, mR41_0, mR41_1, gC42, mN42, gC43, mN43, gC44, mR44_0, mR44_1, gC45, mN45, gC46, mN46, gC47, mR47_0, mR47_1, gC48, mN48, gC49, mN49, gC50, mR50_0, mR50_1, mR50_2, mR50_3, gC51, mN51, gC52, mN52, gC53, mN53, gC54, mN54, gC55, gC56, gC57, mR57_2, mR57_3, mR57_6, mR57_7, mR57_8, mR57_9, mR57_10, mR57_11, mR57_12, mR57_13, mR57_14, mR57_15, mR57_16, mR57_18, mR57_19, mR57_20, mR57_21, mR57_22, mR57_23, mR57_25, mR57_26, mR57_27, mR57_28, mR57_37, mR57_40, mR57_41, mR57_43, mR57_44, mR57_48, mR57_49, gC58, mN58, gC59, mN59, gC60, mN60, gC61, mN61, gC62, mN62, gC63, mN63, gC64, mN64, gC65, mN65, gC66, mN66, gC67, mN67, gC68, mN68, gC69, mN69, gC70, mN70, gC71, mN71, gC72, mN72, gC73, mN73, gC74, mN74, gC75, mN75, gC76, mN76, gC77, mN77, gC78, mN78, gC79, mN79, gC80, mN80, gC81, mN81, gC82, mN82, gC83, mN83, gC84, mN84, gC85, mN85, gC86, mN86, gC87, mN87]
  rw [gd_t (Or.inr trivial), lt1E, show u2 (stM i p wr td) 57 46 1 = stM i p true td from stM_w i p wr true td]
  simp only [mI, mL, mZ, msI, msL, mN1020, gC1, mR1_0, mR1_1, mR1_2, mR1_3, mR1_4, mR1_5, mR1_6, mR1_7, mR1_8, gC2, mR2_6, mR2_7, gC3, mN3, gC4, mN4, gC5, mR5_0, mR5_1, gC6, mN6, gC7, mR7_0, mR7_1, gC8, mR8_0, gC9, mN9, gC10, mR10_0, gC11, mN11, mR11_0, mR11_1, mR11_2, mR11_3, mR11_4, mR11_5, gC12, mR12_0, mR12_1, gC13, mN13, gC14, mN14, gC15, mR15_0, mR15_1, gC16, mN16, gC17, mN17, gC18, mR18_0, mR18_1, gC19, mN19, gC20, mN20, gC21, mR21_0, mR21_1, gC22, mN22, gC23, mN23, gC24, mR24_0, mR24_1, gC25, mN25, gC26, mN26, gC27, mR27_0, mR27_1, gC28, mN28, gC29, mN29, gC30, mR30_0, gC31, mN31, mR31_0, mR31_1, mR31_2, mR31_3, mR31_4, mR31_5, gC32, mR32_0, mR32_1, gC33, mN33, gC34, mN34, gC35, mR35_0, mR35_1, gC36, mN36, gC37, mN37, gC38, mR38_0, mR38_1, gC39, mN39, gC40, mN40, gC41, mR41_0, mR41_1, gC42, mN42, gC43, mN43, gC44, mR44_0, mR44_1, gC45, mN45, gC46, mN46, gC47, mR47_0, mR47_1, gC48, mN48, gC49, mN49, gC50, mR50_0, mR50_1, mR50_2, mR50_3, gC51, mN51, gC52, mN52, gC53, mN53, gC54, mN54, gC55, gC56, gC57, mR57_2, mR57_3, mR57_6, mR57_7, mR57_8, mR57_9, mR57_10, mR57_11, mR57_12, mR57_13, mR57_14, mR57_15, mR57_16, mR57_18, mR57_19, mR57_20, mR57_21, mR57_22, mR57_23, mR57_25, mR57_26, mR57_27, mR57_28, mR57_37, mR57_40, mR57_41, mR57_43, mR57_44, mR57_48, mR57_49, gC58, mN58, gC59, mN59, gC60, mN60, gC61, mN61, gC62, mN62, gC63, mN63, gC64, mN64, gC65, mN65, gC66, mN66, gC67, mN67, gC68, mN68, gC69, mN69, gC70, mN70, gC71, mN71, gC72, mN72, gC73, mN73, gC74, mN74, gC75, mN75, gC76, mN76, gC77, mN77, gC78, mN78, gC79, mN79, gC80, mN80, gC81, mN81, gC82, mN82, gC83, mN83, gC84, mN84, gC85, mN85, gC86, mN86, gC87, mN87, stM_46, must_w, numM_w, bdS]
  rw [if_neg (by decide), nI_1]
theorem b124_0 (hT : TM T b i) (hM : M < 6) {N p : Nat} (hN : N < 4) (hp : p < T) (h48 : 48 ≤ tpF2 T b p) (td : Int32) (k30 : Nat → Int32 → Int32 → xSt → Option (Unit × xSt)) : f_X11_daysOf_b124 k30 57 (nI (6 + M)) (nI N) 57 0 (mkS n z L (stM i p false td) l) = k30 57 (nI (6 + M)) (nI (N + 1)) (mkS n z L (if tpF2 T b (p + 1) = 44 then stM (u2 i 75 (4 * (6 + M) + N) (nI (tpF2 T b p - 48))) (nmR (tpF2 T b) 3 (p + 2) 0).1 (!dgB (tpF2 T b (p + 2)) 57) (nI (nmR (tpF2 T b) 3 (p + 2) 0).2) else stM (u2 i 75 (4 * (6 + M) + N) (nI (tpF2 T b p - 48))) (p + 1) true 0) l) := by
  have ep : tpF2 T b p = b p := if_pos hp
  have hb := (hT.2.2 p hp).1
  have eb : bvI (tpF2 T b p) = nI (tpF2 T b p) := if_neg (by omega)
  have hT2 : TM T b (u2 i 75 (4 * (6 + M) + N) (nI (tpF2 T b p - 48))) := TM_fr hT (fun q k hq => by rw [u2_p _ _ (by omega)])
  have mu := must_E (n := n) (z := z) (L := L) (l := l) hT2 (show p + 1 ≤ T by omega) (show 44 < 256 by decide) (show (44 : Int32) = nI 44 from rfl) td
  unfold f_X11_daysOf_b124
  simp only [mI, mL, mZ, msI, msL, mN1020, gC1, mR1_0, mR1_1, mR1_2, mR1_3, mR1_4, mR1_5, mR1_6, mR1_7, mR1_8, gC2, mR2_6, mR2_7, gC3, mN3, gC4, mN4, gC5, mR5_0, mR5_1, gC6, mN6, gC7, mR7_0, mR7_1, gC8, mR8_0, gC9, mN9, gC10, mR10_0, gC11, mN11, mR11_0, mR11_1, mR11_2, mR11_3, mR11_4, mR11_5, gC12, mR12_0, mR12_1, gC13, mN13, gC14, mN14, gC15, mR15_0, mR15_1, gC16, mN16, gC17, mN17, gC18, mR18_0, mR18_1, gC19, mN19, gC20, mN20, gC21, mR21_0, mR21_1, gC22, mN22, gC23, mN23, gC24, mR24_0, mR24_1, gC25, mN25, gC26, mN26, gC27, mR27_0, mR27_1, gC28, mN28, gC29, mN29, gC30, mR30_0, gC31, mN31, mR31_0, mR31_1, mR31_2, mR31_3, mR31_4, mR31_5, gC32, mR32_0, mR32_1, gC33, mN33, gC34, mN34, gC35, mR35_0, mR35_1, gC36, mN36, gC37, mN37, gC38, mR38_0, mR38_1, gC39, mN39, gC40, mN40, gC41, mR41_0, mR41_1, gC42, mN42, gC43, mN43, gC44, mR44_0, mR44_1, gC45, mN45, gC46, mN46, gC47, mR47_0, mR47_1, gC48, mN48, gC49, mN49, gC50, mR50_0, mR50_1, mR50_2, mR50_3, gC51, mN51, gC52, mN52, gC53, mN53, gC54, mN54, gC55, gC56, gC57, mR57_2, mR57_3, mR57_6, mR57_7, mR57_8, mR57_9, mR57_10, mR57_11, mR57_12, mR57_13, mR57_14, mR57_15, mR57_16, mR57_18, mR57_19, mR57_20, mR57_21, mR57_22, mR57_23, mR57_25, mR57_26, mR57_27, mR57_28, mR57_37, mR57_40, mR57_41, mR57_43, mR57_44, mR57_48, mR57_49, gC58, mN58, gC59, mN59, gC60, mN60, gC61, mN61, gC62, mN62, gC63, mN63, gC64, mN64, gC65, mN65, gC66, mN66, gC67, mN67, gC68, mN68, gC69, mN69, gC70, mN70, gC71, mN71, gC72, mN72, gC73, mN73, gC74, mN74, gC75, mN75, gC76, mN76, gC77, mN77, gC78, mN78, gC79, mN79, gC80, mN80, gC81, mN81, gC82, mN82, gC83, mN83, gC84, mN84, gC85, mN85, gC86, mN86, gC87, mN87]
  rw [gd_t (Or.inl trivial), lt1E, show u2 (stM i p false td) 57 46 0 = stM i p false td from stM_w i p false false td]
  simp only [mI, mL, mZ, msI, msL, mN1020, gC1, mR1_0, mR1_1, mR1_2, mR1_3, mR1_4, mR1_5, mR1_6, mR1_7, mR1_8, gC2, mR2_6, mR2_7, gC3, mN3, gC4, mN4, gC5, mR5_0, mR5_1, gC6, mN6, gC7, mR7_0, mR7_1, gC8, mR8_0, gC9, mN9, gC10, mR10_0, gC11, mN11, mR11_0, mR11_1, mR11_2, mR11_3, mR11_4, mR11_5, gC12, mR12_0, mR12_1, gC13, mN13, gC14, mN14, gC15, mR15_0, mR15_1, gC16, mN16, gC17, mN17, gC18, mR18_0, mR18_1, gC19, mN19, gC20, mN20, gC21, mR21_0, mR21_1, gC22, mN22, gC23, mN23, gC24, mR24_0, mR24_1, gC25, mN25, gC26, mN26, gC27, mR27_0, mR27_1, gC28, mN28, gC29, mN29, gC30, mR30_0, gC31, mN31, mR31_0, mR31_1, mR31_2, mR31_3, mR31_4, mR31_5, gC32, mR32_0, mR32_1, gC33, mN33, gC34, mN34, gC35, mR35_0, mR35_1, gC36, mN36, gC37, mN37, gC38, mR38_0, mR38_1, gC39, mN39, gC40, mN40, gC41, mR41_0, mR41_1, gC42, mN42, gC43, mN43, gC44, mR44_0, mR44_1, gC45, mN45, gC46, mN46, gC47, mR47_0, mR47_1, gC48, mN48, gC49, mN49, gC50, mR50_0, mR50_1, mR50_2, mR50_3, gC51, mN51, gC52, mN52, gC53, mN53, gC54, mN54, gC55, gC56, gC57, mR57_2, mR57_3, mR57_6, mR57_7, mR57_8, mR57_9, mR57_10, mR57_11, mR57_12, mR57_13, mR57_14, mR57_15, mR57_16, mR57_18, mR57_19, mR57_20, mR57_21, mR57_22, mR57_23, mR57_25, mR57_26, mR57_27, mR57_28, mR57_37, mR57_40, mR57_41, mR57_43, mR57_44, mR57_48, mR57_49, gC58, mN58, gC59, mN59, gC60, mN60, gC61, mN61, gC62, mN62, gC63, mN63, gC64, mN64, gC65, mN65, gC66, mN66, gC67, mN67, gC68, mN68, gC69, mN69, gC70, mN70, gC71, mN71, gC72, mN72, gC73, mN73, gC74, mN74, gC75, mN75, gC76, mN76, gC77, mN77, gC78, mN78, gC79, mN79, gC80, mN80, gC81, mN81, gC82, mN82, gC83, mN83, gC84, mN84, gC85, mN85, gC86, mN86, gC87, mN87, stM_45, stM_46, byteAt_E (TM_s hT p false td) (show p ≤ T by omega), bdS, show (4 : Int32) = nI 4 from rfl, pk_mul, nI_add, nI_clamp (show 4 * (6 + M) + N < 2 ^ 31 by omega), gI (show 4 * (6 + M) + N < 48 by omega) (show 48 < 2 ^ 31 by omega), eb, show (48 : Int32) = nI 48 from rfl, pk_sub h48, lt1E, stM_i _ _ _ _ _ (show (75 : Nat) ≠ 57 by decide), nI_1, stM_p, mu]
  rw [if_pos (show bI false = 0 from rfl)]
  by_cases e : tpF2 T b (p + 1) = 44
  · have hp2 := lt_tp (by decide) e
    rw [if_pos e, if_pos e, bdS]
    simp only [mI, mL, mZ, msI, msL, mN1020, gC1, mR1_0, mR1_1, mR1_2, mR1_3, mR1_4, mR1_5, mR1_6, mR1_7, mR1_8, gC2, mR2_6, mR2_7, gC3, mN3, gC4, mN4, gC5, mR5_0, mR5_1, gC6, mN6, gC7, mR7_0, mR7_1, gC8, mR8_0, gC9, mN9, gC10, mR10_0, gC11, mN11, mR11_0, mR11_1, mR11_2, mR11_3, mR11_4, mR11_5, gC12, mR12_0, mR12_1, gC13, mN13, gC14, mN14, gC15, mR15_0, mR15_1, gC16, mN16, gC17, mN17, gC18, mR18_0, mR18_1, gC19, mN19, gC20, mN20, gC21, mR21_0, mR21_1, gC22, mN22, gC23, mN23, gC24, mR24_0, mR24_1, gC25, mN25, gC26, mN26, gC27, mR27_0, mR27_1, gC28, mN28, gC29, mN29, gC30, mR30_0, gC31, mN31, mR31_0, mR31_1, mR31_2, mR31_3, mR31_4, mR31_5, gC32, mR32_0, mR32_1, gC33, mN33, gC34, mN34, gC35, mR35_0, mR35_1, gC36, mN36, gC37, mN37, gC38, mR38_0, mR38_1, gC39, mN39, gC40, mN40, gC41, mR41_0, mR41_1, gC42, mN42, gC43, mN43, gC44, mR44_0, mR44_1, gC45, mN45, gC46, mN46, gC47, mR47_0, mR47_1, gC48, mN48, gC49, mN49, gC50, mR50_0, mR50_1, mR50_2, mR50_3, gC51, mN51, gC52, mN52, gC53, mN53, gC54, mN54, gC55, gC56, gC57, mR57_2, mR57_3, mR57_6, mR57_7, mR57_8, mR57_9, mR57_10, mR57_11, mR57_12, mR57_13, mR57_14, mR57_15, mR57_16, mR57_18, mR57_19, mR57_20, mR57_21, mR57_22, mR57_23, mR57_25, mR57_26, mR57_27, mR57_28, mR57_37, mR57_40, mR57_41, mR57_43, mR57_44, mR57_48, mR57_49, gC58, mN58, gC59, mN59, gC60, mN60, gC61, mN61, gC62, mN62, gC63, mN63, gC64, mN64, gC65, mN65, gC66, mN66, gC67, mN67, gC68, mN68, gC69, mN69, gC70, mN70, gC71, mN71, gC72, mN72, gC73, mN73, gC74, mN74, gC75, mN75, gC76, mN76, gC77, mN77, gC78, mN78, gC79, mN79, gC80, mN80, gC81, mN81, gC82, mN82, gC83, mN83, gC84, mN84, gC85, mN85, gC86, mN86, gC87, mN87, numM_E hT2 (show p + 1 + 1 ≤ T by omega) td, bdS]
  · rw [if_neg e, if_neg e, bdS]
    simp only [mI, mL, mZ, msI, msL, mN1020, gC1, mR1_0, mR1_1, mR1_2, mR1_3, mR1_4, mR1_5, mR1_6, mR1_7, mR1_8, gC2, mR2_6, mR2_7, gC3, mN3, gC4, mN4, gC5, mR5_0, mR5_1, gC6, mN6, gC7, mR7_0, mR7_1, gC8, mR8_0, gC9, mN9, gC10, mR10_0, gC11, mN11, mR11_0, mR11_1, mR11_2, mR11_3, mR11_4, mR11_5, gC12, mR12_0, mR12_1, gC13, mN13, gC14, mN14, gC15, mR15_0, mR15_1, gC16, mN16, gC17, mN17, gC18, mR18_0, mR18_1, gC19, mN19, gC20, mN20, gC21, mR21_0, mR21_1, gC22, mN22, gC23, mN23, gC24, mR24_0, mR24_1, gC25, mN25, gC26, mN26, gC27, mR27_0, mR27_1, gC28, mN28, gC29, mN29, gC30, mR30_0, gC31, mN31, mR31_0, mR31_1, mR31_2, mR31_3, mR31_4, mR31_5, gC32, mR32_0, mR32_1, gC33, mN33, gC34, mN34, gC35, mR35_0, mR35_1, gC36, mN36, gC37, mN37, gC38, mR38_0, mR38_1, gC39, mN39, gC40, mN40, gC41, mR41_0, mR41_1, gC42, mN42, gC43, mN43, gC44, mR44_0, mR44_1, gC45, mN45, gC46, mN46, gC47, mR47_0, mR47_1, gC48, mN48, gC49, mN49, gC50, mR50_0, mR50_1, mR50_2, mR50_3, gC51, mN51, gC52, mN52, gC53, mN53, gC54, mN54, gC55, gC56, gC57, mR57_2, mR57_3, mR57_6, mR57_7, mR57_8, mR57_9, mR57_10, mR57_11, mR57_12, mR57_13, mR57_14, mR57_15, mR57_16, mR57_18, mR57_19, mR57_20, mR57_21, mR57_22, mR57_23, mR57_25, mR57_26, mR57_27, mR57_28, mR57_37, mR57_40, mR57_41, mR57_43, mR57_44, mR57_48, mR57_49, gC58, mN58, gC59, mN59, gC60, mN60, gC61, mN61, gC62, mN62, gC63, mN63, gC64, mN64, gC65, mN65, gC66, mN66, gC67, mN67, gC68, mN68, gC69, mN69, gC70, mN70, gC71, mN71, gC72, mN72, gC73, mN73, gC74, mN74, gC75, mN75, gC76, mN76, gC77, mN77, gC78, mN78, gC79, mN79, gC80, mN80, gC81, mN81, gC82, mN82, gC83, mN83, gC84, mN84, gC85, mN85, gC86, mN86, gC87, mN87, numM_w, bdS]
def sTd (M p k : Nat) : Prop := ¬ ((p = 74 ∧ k = 6 + M) ∨ (p = 75 ∧ 4 * (6 + M) ≤ k ∧ k < 4 * (6 + M) + 4) ∨ (p = 76 ∧ 5 * (6 + M) ≤ k ∧ k < 5 * (6 + M) + 5))
def MF1 (M : Nat) (G : Nat → Int32) (i : fI) : Prop := ∃ k, k ≤ 4 ∧ i 74 (6 + M) = nI k ∧ ∀ wd, wd < 7 → fsel (fun j => decide (i 75 (4 * (6 + M) + j) = nI wd)) (fun j => i 76 (5 * (6 + M) + j)) (i 76 (5 * (6 + M) + k)) k 0 = G wd
def CF1 (M : Nat) (G : Nat → Int32) (i : fI) : Prop := ∃ e, e ≤ 5 ∧ i (32 + 3 * M) 2 = nI e ∧ ∀ wd, wd < 7 → fsel (fun j => decide (i (33 + 3 * M) j = nI wd) || decide (i (33 + 3 * M) j = -1)) (fun j => i (34 + 3 * M) j) 0 e 0 = G wd
theorem day_sim (hM : M < 6) : ∀ (r N p v : Nat) (F : Nat → Int32 → Int32), N + r = 4 → p ≤ T → v < 1000 → ∃ (ok : Bool) (pE : Nat) (G : Nat → Int32), pE ≤ T ∧ (∀ (i : fI) (l : fL) (m : Nat), TC T b i → i (32 + 3 * M) 2 = nI N → r + 1 < m → CI1 M F i N → ∃ i2, f_X7_readDays_l23 m 8 (32 + 3 * M) (nI v) (nI N) (mkS n z L (u2 i 8 2 (nI p)) l) = some (bI ok, mkS n z L (u2 i2 8 2 (nI pE)) l) ∧ Fr (sTx (32 + 3 * M)) i i2 ∧ (ok = true → CF1 M G i2)) ∧ (∀ (i : fI) (l : fL) (m : Nat), TM T b i → r + 1 < m → MI1 M F i N → ∃ i2 w td2, f_X11_daysOf_l30 m 57 (nI (6 + M)) (nI N) (mkS n z L (stM i p false (nI v)) l) = some ((), mkS n z L (stM i2 pE w td2) l) ∧ ok = (!w && decide (pE = T)) ∧ Fr (sTd M) i i2 ∧ (ok = true → MF1 M G i2)) := by
  have endM : ∀ (i : fI) (N p v : Nat) (F : Nat → Int32 → Int32), N ≤ 4 → MI1 M F i N → MF1 M (fun wd => F wd (nI v)) (u2 (u2 i 74 (6 + M) (nI N)) 76 (5 * (6 + M) + N) (nI v)) := by
    intro i N p v F hN hmi
    refine ⟨N, hN, by rw [u2_p _ _ (by decide), u2_s], fun wd hw => ?_⟩
    show _ = F wd (nI v)
    rw [u2_s, ← hmi wd _ hw]
    exact fsel_cong _ _ (fun j _ hj => ⟨by rw [u2_p _ _ (by decide), u2_p _ _ (by decide)], by rw [u2_k _ _ (by omega), u2_p _ _ (by decide)]⟩) rfl
  have frM : ∀ (i : fI) (N : Nat) (td : Int32), N ≤ 4 → Fr (sTd M) i (u2 (u2 i 74 (6 + M) (nI N)) 76 (5 * (6 + M) + N) td) := fun i N td hN => Fr_u2 (Fr_u2 Fr_rfl (by unfold sTd; omega)) (by unfold sTd; omega)
  have endC : ∀ (i : fI) (N v : Nat) (F : Nat → Int32 → Int32), N ≤ 4 → CI1 M F i N → CF1 M (fun wd => F wd (nI v)) (adF i (32 + 3 * M) N (-1) (nI v)) := fun i N v F hN hci => ⟨N + 1, by omega, u2_s _ _ _ _, fun wd hw => CI1_any hci hw 0⟩
  intro r
  induction r with
  | zero =>
    intro N p v F hN hp hv
    have e4 : N = 4 := by omega
    subst e4
    refine ⟨decide (T ≤ p), p, fun wd => F wd (nI v), hp, ?_, ?_⟩
    · intro i l m hT h2 hm hci
      obtain ⟨m, rfl⟩ : ∃ m', m = m' + 1 := ⟨m - 1, by omega⟩
      refine ⟨adF i (32 + 3 * M) 4 (-1) (nI v), ?_, adF_fr i _ 4 _ _, fun _ => endC i 4 v F (by omega) hci⟩
      rw [f_X7_readDays_l23_s, if_pos (by decide), b94_E hT hM (by omega) h2 hp, if_neg (nI_m1 (by omega))]
    · intro i l m hT hm hmi
      obtain ⟨m, rfl⟩ : ∃ m', m = m' + 1 := ⟨m - 1, by omega⟩
      refine ⟨u2 (u2 i 74 (6 + M) (nI 4)) 76 (5 * (6 + M) + 4) (nI v), false, nI v, ?_, ?_, frM i 4 _ (by omega), fun _ => endM i 4 p v F (by omega) hmi⟩
      · rw [f_X11_daysOf_l30_s]
        simp only [mI, mL, mZ, msI, msL, mN1020, gC1, mR1_0, mR1_1, mR1_2, mR1_3, mR1_4, mR1_5, mR1_6, mR1_7, mR1_8, gC2, mR2_6, mR2_7, gC3, mN3, gC4, mN4, gC5, mR5_0, mR5_1, gC6, mN6, gC7, mR7_0, mR7_1, gC8, mR8_0, gC9, mN9, gC10, mR10_0, gC11, mN11, mR11_0, mR11_1, mR11_2, mR11_3, mR11_4, mR11_5, gC12, mR12_0, mR12_1, gC13, mN13, gC14, mN14, gC15, mR15_0, mR15_1, gC16, mN16, gC17, mN17, gC18, mR18_0, mR18_1, gC19, mN19, gC20, mN20, gC21, mR21_0, mR21_1, gC22, mN22, gC23, mN23, gC24, mR24_0, mR24_1, gC25, mN25, gC26, mN26, gC27, mR27_0, mR27_1, gC28, mN28, gC29, mN29, gC30, mR30_0, gC31, mN31, mR31_0, mR31_1, mR31_2, mR31_3, mR31_4, mR31_5, gC32, mR32_0, mR32_1, gC33, mN33, gC34, mN34, gC35, mR35_0, mR35_1, gC36, mN36, gC37, mN37, gC38, mR38_0, mR38_1, gC39, mN39, gC40, mN40, gC41, mR41_0, mR41_1, gC42, mN42, gC43, mN43, gC44, mR44_0, mR44_1, gC45, mN45, gC46, mN46, gC47, mR47_0, mR47_1, gC48, mN48, gC49, mN49, gC50, mR50_0, mR50_1, mR50_2, mR50_3, gC51, mN51, gC52, mN52, gC53, mN53, gC54, mN54, gC55, gC56, gC57, mR57_2, mR57_3, mR57_6, mR57_7, mR57_8, mR57_9, mR57_10, mR57_11, mR57_12, mR57_13, mR57_14, mR57_15, mR57_16, mR57_18, mR57_19, mR57_20, mR57_21, mR57_22, mR57_23, mR57_25, mR57_26, mR57_27, mR57_28, mR57_37, mR57_40, mR57_41, mR57_43, mR57_44, mR57_48, mR57_49, gC58, mN58, gC59, mN59, gC60, mN60, gC61, mN61, gC62, mN62, gC63, mN63, gC64, mN64, gC65, mN65, gC66, mN66, gC67, mN67, gC68, mN68, gC69, mN69, gC70, mN70, gC71, mN71, gC72, mN72, gC73, mN73, gC74, mN74, gC75, mN75, gC76, mN76, gC77, mN77, gC78, mN78, gC79, mN79, gC80, mN80, gC81, mN81, gC82, mN82, gC83, mN83, gC84, mN84, gC85, mN85, gC86, mN86, gC87, mN87, stM_46]
        rw [if_pos (show bI false = 0 from rfl), if_pos (by decide), b181_E hM (by omega)]
      · by_cases q : T ≤ p
        · rw [decide_eq_true q, decide_eq_true (show p = T by omega)]; rfl
        · rw [decide_eq_false q, decide_eq_false (show ¬ p = T by omega)]; rfl
  | succ r ih =>
    intro N p v F hN hp hv
    have hN4 : N < 4 := by omega
    have n4 : ¬ (4 : Int32) ≤ nI N := by rw [show (4 : Int32) = nI 4 from rfl]; exact nI_ge hN4 (by omega)
    have nv : ¬ nI v = -1 := nI_m1 (by omega)
    have tr : ∀ (i : fI), TM T b i → (tpF2 T b p = 999 ∨ tpF2 T b p < 256) := fun i h => tp_rng (fun j hj => (h.2.2 j hj).1)
    -- the reference, when no blank stands there
    have mstop : ∀ (i : fI) (l : fL) (m : Nat), TM T b i → ¬ tpF2 T b p = 32 → f_X11_daysOf_l30 (m + 1) 57 (nI (6 + M)) (nI N) (mkS n z L (stM i p false (nI v)) l) = some ((), mkS n z L (stM (u2 (u2 i 74 (6 + M) (nI N)) 76 (5 * (6 + M) + N) (nI v)) p false (nI v)) l) := by
      intro i l m hT h32
      rw [f_X11_daysOf_l30_s]
      simp only [mI, mL, mZ, msI, msL, mN1020, gC1, mR1_0, mR1_1, mR1_2, mR1_3, mR1_4, mR1_5, mR1_6, mR1_7, mR1_8, gC2, mR2_6, mR2_7, gC3, mN3, gC4, mN4, gC5, mR5_0, mR5_1, gC6, mN6, gC7, mR7_0, mR7_1, gC8, mR8_0, gC9, mN9, gC10, mR10_0, gC11, mN11, mR11_0, mR11_1, mR11_2, mR11_3, mR11_4, mR11_5, gC12, mR12_0, mR12_1, gC13, mN13, gC14, mN14, gC15, mR15_0, mR15_1, gC16, mN16, gC17, mN17, gC18, mR18_0, mR18_1, gC19, mN19, gC20, mN20, gC21, mR21_0, mR21_1, gC22, mN22, gC23, mN23, gC24, mR24_0, mR24_1, gC25, mN25, gC26, mN26, gC27, mR27_0, mR27_1, gC28, mN28, gC29, mN29, gC30, mR30_0, gC31, mN31, mR31_0, mR31_1, mR31_2, mR31_3, mR31_4, mR31_5, gC32, mR32_0, mR32_1, gC33, mN33, gC34, mN34, gC35, mR35_0, mR35_1, gC36, mN36, gC37, mN37, gC38, mR38_0, mR38_1, gC39, mN39, gC40, mN40, gC41, mR41_0, mR41_1, gC42, mN42, gC43, mN43, gC44, mR44_0, mR44_1, gC45, mN45, gC46, mN46, gC47, mR47_0, mR47_1, gC48, mN48, gC49, mN49, gC50, mR50_0, mR50_1, mR50_2, mR50_3, gC51, mN51, gC52, mN52, gC53, mN53, gC54, mN54, gC55, gC56, gC57, mR57_2, mR57_3, mR57_6, mR57_7, mR57_8, mR57_9, mR57_10, mR57_11, mR57_12, mR57_13, mR57_14, mR57_15, mR57_16, mR57_18, mR57_19, mR57_20, mR57_21, mR57_22, mR57_23, mR57_25, mR57_26, mR57_27, mR57_28, mR57_37, mR57_40, mR57_41, mR57_43, mR57_44, mR57_48, mR57_49, gC58, mN58, gC59, mN59, gC60, mN60, gC61, mN61, gC62, mN62, gC63, mN63, gC64, mN64, gC65, mN65, gC66, mN66, gC67, mN67, gC68, mN68, gC69, mN69, gC70, mN70, gC71, mN71, gC72, mN72, gC73, mN73, gC74, mN74, gC75, mN75, gC76, mN76, gC77, mN77, gC78, mN78, gC79, mN79, gC80, mN80, gC81, mN81, gC82, mN82, gC83, mN83, gC84, mN84, gC85, mN85, gC86, mN86, gC87, mN87, stM_45, stM_46, byteAt_E (TM_s hT p false (nI v)) hp, bdS, show (32 : Int32) = nI 32 from rfl, bvI_eq (tr i hT) (show 32 < 256 by decide)]
      rw [if_pos (show bI false = 0 from rfl), if_neg n4, if_neg h32, b181_E hM (by omega)]
    by_cases g1 : T ≤ p
    · have e9 : tpF2 T b p = 999 := if_neg (by omega)
      refine ⟨true, p, fun wd => F wd (nI v), hp, ?_, ?_⟩
      · intro i l m hT h2 hm hci
        obtain ⟨m, rfl⟩ : ∃ m', m = m' + 1 := ⟨m - 1, by omega⟩
        have h120 := hT.1
        refine ⟨adF i (32 + 3 * M) N (-1) (nI v), ?_, adF_fr i _ N _ _, fun _ => endC i N v F (by omega) hci⟩
        rw [f_X7_readDays_l23_s, if_neg n4, if_neg nv]
        simp only [mI, mL, mZ, msI, msL, mN1020, gC1, mR1_0, mR1_1, mR1_2, mR1_3, mR1_4, mR1_5, mR1_6, mR1_7, mR1_8, gC2, mR2_6, mR2_7, gC3, mN3, gC4, mN4, gC5, mR5_0, mR5_1, gC6, mN6, gC7, mR7_0, mR7_1, gC8, mR8_0, gC9, mN9, gC10, mR10_0, gC11, mN11, mR11_0, mR11_1, mR11_2, mR11_3, mR11_4, mR11_5, gC12, mR12_0, mR12_1, gC13, mN13, gC14, mN14, gC15, mR15_0, mR15_1, gC16, mN16, gC17, mN17, gC18, mR18_0, mR18_1, gC19, mN19, gC20, mN20, gC21, mR21_0, mR21_1, gC22, mN22, gC23, mN23, gC24, mR24_0, mR24_1, gC25, mN25, gC26, mN26, gC27, mR27_0, mR27_1, gC28, mN28, gC29, mN29, gC30, mR30_0, gC31, mN31, mR31_0, mR31_1, mR31_2, mR31_3, mR31_4, mR31_5, gC32, mR32_0, mR32_1, gC33, mN33, gC34, mN34, gC35, mR35_0, mR35_1, gC36, mN36, gC37, mN37, gC38, mR38_0, mR38_1, gC39, mN39, gC40, mN40, gC41, mR41_0, mR41_1, gC42, mN42, gC43, mN43, gC44, mR44_0, mR44_1, gC45, mN45, gC46, mN46, gC47, mR47_0, mR47_1, gC48, mN48, gC49, mN49, gC50, mR50_0, mR50_1, mR50_2, mR50_3, gC51, mN51, gC52, mN52, gC53, mN53, gC54, mN54, gC55, gC56, gC57, mR57_2, mR57_3, mR57_6, mR57_7, mR57_8, mR57_9, mR57_10, mR57_11, mR57_12, mR57_13, mR57_14, mR57_15, mR57_16, mR57_18, mR57_19, mR57_20, mR57_21, mR57_22, mR57_23, mR57_25, mR57_26, mR57_27, mR57_28, mR57_37, mR57_40, mR57_41, mR57_43, mR57_44, mR57_48, mR57_49, gC58, mN58, gC59, mN59, gC60, mN60, gC61, mN61, gC62, mN62, gC63, mN63, gC64, mN64, gC65, mN65, gC66, mN66, gC67, mN67, gC68, mN68, gC69, mN69, gC70, mN70, gC71, mN71, gC72, mN72, gC73, mN73, gC74, mN74, gC75, mN75, gC76, mN76, gC77, mN77, gC78, mN78, gC79, mN79, gC80, mN80, gC81, mN81, gC82, mN82, gC83, mN83, gC84, mN84, gC85, mN85, gC86, mN86, gC87, mN87, atEnd_E (TC_p hT (nI p)) (show p ≤ 120 by omega) (u2_s _ _ _ _), bdS, decide_eq_true g1]
        rw [if_neg (by decide), b94_E hT hM (by omega) h2 hp, if_neg nv, decide_eq_true g1]
      · intro i l m hT hm hmi
        obtain ⟨m, rfl⟩ : ∃ m', m = m' + 1 := ⟨m - 1, by omega⟩
        exact ⟨u2 (u2 i 74 (6 + M) (nI N)) 76 (5 * (6 + M) + N) (nI v), false, nI v, mstop i l m hT (by omega), by rw [decide_eq_true (show p = T by omega)]; rfl, frM i N _ (by omega), fun _ => endM i N p v F (by omega) hmi⟩
    · obtain ⟨W, hW⟩ : ∃ W, wrd (tpF2 T b) 6 4 0 p = W := ⟨_, rfl⟩
      have hWl : W.2 ≤ T := by rw [← hW]; exact wrd_le (by decide) 4 0 p (by decide) hp
      -- the class up to the weekday
      have con : ∀ (i : fI) (l : fL) (m : Nat), TC T b i → f_X7_readDays_l23 (m + 1) 8 (32 + 3 * M) (nI v) (nI N) (mkS n z L (u2 i 8 2 (nI p)) l) = if W.1 = true then (if dgB (tpF2 T b W.2) 54 = true then f_X7_readDays_b57 (f_X7_readDays_l23 m) 8 (32 + 3 * M) (nI v) (nI N) (nI (tpF2 T b W.2 - 48)) (mkS n z L (u2 i 8 2 (nI (W.2 + 1))) l) else some (0, mkS n z L (u2 i 8 2 (nI W.2)) l)) else some (0, mkS n z L (u2 i 8 2 (nI W.2)) l) := by
        intro i l m hT
        have h120 := hT.1
        have rd := reads0_E (n := n) (z := z) (L := L) (l := l) hT (s := 6) (by decide) hp
        rw [show wln 6 = 4 from rfl, hW] at rd
        have wk := week_E (n := n) (z := z) (L := L) (l := l) hT hWl
        rw [f_X7_readDays_l23_s, if_neg n4, if_neg nv]
        simp only [mI, mL, mZ, msI, msL, mN1020, gC1, mR1_0, mR1_1, mR1_2, mR1_3, mR1_4, mR1_5, mR1_6, mR1_7, mR1_8, gC2, mR2_6, mR2_7, gC3, mN3, gC4, mN4, gC5, mR5_0, mR5_1, gC6, mN6, gC7, mR7_0, mR7_1, gC8, mR8_0, gC9, mN9, gC10, mR10_0, gC11, mN11, mR11_0, mR11_1, mR11_2, mR11_3, mR11_4, mR11_5, gC12, mR12_0, mR12_1, gC13, mN13, gC14, mN14, gC15, mR15_0, mR15_1, gC16, mN16, gC17, mN17, gC18, mR18_0, mR18_1, gC19, mN19, gC20, mN20, gC21, mR21_0, mR21_1, gC22, mN22, gC23, mN23, gC24, mR24_0, mR24_1, gC25, mN25, gC26, mN26, gC27, mR27_0, mR27_1, gC28, mN28, gC29, mN29, gC30, mR30_0, gC31, mN31, mR31_0, mR31_1, mR31_2, mR31_3, mR31_4, mR31_5, gC32, mR32_0, mR32_1, gC33, mN33, gC34, mN34, gC35, mR35_0, mR35_1, gC36, mN36, gC37, mN37, gC38, mR38_0, mR38_1, gC39, mN39, gC40, mN40, gC41, mR41_0, mR41_1, gC42, mN42, gC43, mN43, gC44, mR44_0, mR44_1, gC45, mN45, gC46, mN46, gC47, mR47_0, mR47_1, gC48, mN48, gC49, mN49, gC50, mR50_0, mR50_1, mR50_2, mR50_3, gC51, mN51, gC52, mN52, gC53, mN53, gC54, mN54, gC55, gC56, gC57, mR57_2, mR57_3, mR57_6, mR57_7, mR57_8, mR57_9, mR57_10, mR57_11, mR57_12, mR57_13, mR57_14, mR57_15, mR57_16, mR57_18, mR57_19, mR57_20, mR57_21, mR57_22, mR57_23, mR57_25, mR57_26, mR57_27, mR57_28, mR57_37, mR57_40, mR57_41, mR57_43, mR57_44, mR57_48, mR57_49, gC58, mN58, gC59, mN59, gC60, mN60, gC61, mN61, gC62, mN62, gC63, mN63, gC64, mN64, gC65, mN65, gC66, mN66, gC67, mN67, gC68, mN68, gC69, mN69, gC70, mN70, gC71, mN71, gC72, mN72, gC73, mN73, gC74, mN74, gC75, mN75, gC76, mN76, gC77, mN77, gC78, mN78, gC79, mN79, gC80, mN80, gC81, mN81, gC82, mN82, gC83, mN83, gC84, mN84, gC85, mN85, gC86, mN86, gC87, mN87, atEnd_E (TC_p hT (nI p)) (show p ≤ 120 by omega) (u2_s _ _ _ _), bdS, decide_eq_false g1, rd, bI_if]
        rw [if_neg (show ¬ false = true by decide)]
        have b57 : ∀ w, f_X7_readDays_b57 (f_X7_readDays_l23 m) 8 (32 + 3 * M) (nI v) (nI N) (-1) w = some (0, w) := fun w => by
          unfold f_X7_readDays_b57
          rw [if_pos rfl]
        cases W.1 with
        | false => rw [if_neg (by decide), if_neg (by decide), b57]
        | true =>
          rw [if_pos rfl, if_pos rfl, wk]
          cases dgB (tpF2 T b W.2) 54 with
          | false => rw [if_neg (by decide), if_neg (by decide), bdS, b57]
          | true => rw [if_pos rfl, if_pos rfl, bdS]
      by_cases g2 : tpF2 T b p = 32
      · -- the reference up to the weekday
        have mon : ∀ (i : fI) (l : fL) (m : Nat), TM T b i → f_X11_daysOf_l30 (m + 1) 57 (nI (6 + M)) (nI N) (mkS n z L (stM i p false (nI v)) l) = if (W.1 && dgB (tpF2 T b W.2) 54) = true then f_X11_daysOf_b124 (f_X11_daysOf_l30 m) 57 (nI (6 + M)) (nI N) 57 0 (mkS n z L (stM (u2 i 76 (5 * (6 + M) + N) (nI v)) W.2 false (nI v)) l) else f_X11_daysOf_l30 m 57 (nI (6 + M)) (nI (N + 1)) (mkS n z L (stM (u2 i 76 (5 * (6 + M) + N) (nI v)) W.2 true 0) l) := by
          intro i l m hT
          have hT2 : TM T b (u2 i 76 (5 * (6 + M) + N) (nI v)) := TM_fr hT (fun q k hq => by rw [u2_p _ _ (by omega)])
          have m0 := must_j (n := n) (z := z) (L := L) (l := l) hT2 (s := 6) (j := 0) (by decide) (by decide) hp (show (32 : Int32) = nI (wch 6 0) from rfl) (nI v)
          have m1 := must_j (n := n) (z := z) (L := L) (l := l) hT2 (s := 6) (j := 1) (by decide) (by decide) hp (show (111 : Int32) = nI (wch 6 1) from rfl) (nI v)
          have m2 := must_j (n := n) (z := z) (L := L) (l := l) hT2 (s := 6) (j := 2) (by decide) (by decide) hp (show (110 : Int32) = nI (wch 6 2) from rfl) (nI v)
          have m3 := must_j (n := n) (z := z) (L := L) (l := l) hT2 (s := 6) (j := 3) (by decide) (by decide) hp (show (32 : Int32) = nI (wch 6 3) from rfl) (nI v)
          rw [show wrd (tpF2 T b) 6 0 0 p = (true, p) from rfl] at m0
          rw [show (3 : Nat) + 1 = 4 from rfl, hW] at m3
          have m0' : f_X11_must 57 (32 : Int32) (mkS n z L (stM (u2 i 76 (5 * (6 + M) + N) (nI v)) p false (nI v)) l) = some ((), mkS n z L (stM (u2 i 76 (5 * (6 + M) + N) (nI v)) (wrd (tpF2 T b) 6 1 0 p).2 (!(wrd (tpF2 T b) 6 1 0 p).1) (nI v)) l) := m0
          rw [f_X11_daysOf_l30_s]
          simp only [mI, mL, mZ, msI, msL, mN1020, gC1, mR1_0, mR1_1, mR1_2, mR1_3, mR1_4, mR1_5, mR1_6, mR1_7, mR1_8, gC2, mR2_6, mR2_7, gC3, mN3, gC4, mN4, gC5, mR5_0, mR5_1, gC6, mN6, gC7, mR7_0, mR7_1, gC8, mR8_0, gC9, mN9, gC10, mR10_0, gC11, mN11, mR11_0, mR11_1, mR11_2, mR11_3, mR11_4, mR11_5, gC12, mR12_0, mR12_1, gC13, mN13, gC14, mN14, gC15, mR15_0, mR15_1, gC16, mN16, gC17, mN17, gC18, mR18_0, mR18_1, gC19, mN19, gC20, mN20, gC21, mR21_0, mR21_1, gC22, mN22, gC23, mN23, gC24, mR24_0, mR24_1, gC25, mN25, gC26, mN26, gC27, mR27_0, mR27_1, gC28, mN28, gC29, mN29, gC30, mR30_0, gC31, mN31, mR31_0, mR31_1, mR31_2, mR31_3, mR31_4, mR31_5, gC32, mR32_0, mR32_1, gC33, mN33, gC34, mN34, gC35, mR35_0, mR35_1, gC36, mN36, gC37, mN37, gC38, mR38_0, mR38_1, gC39, mN39, gC40, mN40, gC41, mR41_0, mR41_1, gC42, mN42, gC43, mN43, gC44, mR44_0, mR44_1, gC45, mN45, gC46, mN46, gC47, mR47_0, mR47_1, gC48, mN48, gC49, mN49, gC50, mR50_0, mR50_1, mR50_2, mR50_3, gC51, mN51, gC52, mN52, gC53, mN53, gC54, mN54, gC55, gC56, gC57, mR57_2, mR57_3, mR57_6, mR57_7, mR57_8, mR57_9, mR57_10, mR57_11, mR57_12, mR57_13, mR57_14, mR57_15, mR57_16, mR57_18, mR57_19, mR57_20, mR57_21, mR57_22, mR57_23, mR57_25, mR57_26, mR57_27, mR57_28, mR57_37, mR57_40, mR57_41, mR57_43, mR57_44, mR57_48, mR57_49, gC58, mN58, gC59, mN59, gC60, mN60, gC61, mN61, gC62, mN62, gC63, mN63, gC64, mN64, gC65, mN65, gC66, mN66, gC67, mN67, gC68, mN68, gC69, mN69, gC70, mN70, gC71, mN71, gC72, mN72, gC73, mN73, gC74, mN74, gC75, mN75, gC76, mN76, gC77, mN77, gC78, mN78, gC79, mN79, gC80, mN80, gC81, mN81, gC82, mN82, gC83, mN83, gC84, mN84, gC85, mN85, gC86, mN86, gC87, mN87, stM_45, stM_46, stM_47, byteAt_E (TM_s hT p false (nI v)) hp, bdS, show ((32 : Int32) = nI 32) = True from eq_true rfl, g2]
          rw [if_pos (show bI false = 0 from rfl), if_neg n4, if_pos (show bvI 32 = 32 from rfl), show (5 : Int32) = nI 5 from rfl, pk_mul, nI_add, gI (show 5 * (6 + M) + N < 60 by omega) (by omega), nI_clamp (by omega), lt1E, stM_i _ _ _ _ _ (show (76 : Nat) ≠ 57 by decide), m0', bdS]
          simp only [mI, mL, mZ, msI, msL, mN1020, gC1, mR1_0, mR1_1, mR1_2, mR1_3, mR1_4, mR1_5, mR1_6, mR1_7, mR1_8, gC2, mR2_6, mR2_7, gC3, mN3, gC4, mN4, gC5, mR5_0, mR5_1, gC6, mN6, gC7, mR7_0, mR7_1, gC8, mR8_0, gC9, mN9, gC10, mR10_0, gC11, mN11, mR11_0, mR11_1, mR11_2, mR11_3, mR11_4, mR11_5, gC12, mR12_0, mR12_1, gC13, mN13, gC14, mN14, gC15, mR15_0, mR15_1, gC16, mN16, gC17, mN17, gC18, mR18_0, mR18_1, gC19, mN19, gC20, mN20, gC21, mR21_0, mR21_1, gC22, mN22, gC23, mN23, gC24, mR24_0, mR24_1, gC25, mN25, gC26, mN26, gC27, mR27_0, mR27_1, gC28, mN28, gC29, mN29, gC30, mR30_0, gC31, mN31, mR31_0, mR31_1, mR31_2, mR31_3, mR31_4, mR31_5, gC32, mR32_0, mR32_1, gC33, mN33, gC34, mN34, gC35, mR35_0, mR35_1, gC36, mN36, gC37, mN37, gC38, mR38_0, mR38_1, gC39, mN39, gC40, mN40, gC41, mR41_0, mR41_1, gC42, mN42, gC43, mN43, gC44, mR44_0, mR44_1, gC45, mN45, gC46, mN46, gC47, mR47_0, mR47_1, gC48, mN48, gC49, mN49, gC50, mR50_0, mR50_1, mR50_2, mR50_3, gC51, mN51, gC52, mN52, gC53, mN53, gC54, mN54, gC55, gC56, gC57, mR57_2, mR57_3, mR57_6, mR57_7, mR57_8, mR57_9, mR57_10, mR57_11, mR57_12, mR57_13, mR57_14, mR57_15, mR57_16, mR57_18, mR57_19, mR57_20, mR57_21, mR57_22, mR57_23, mR57_25, mR57_26, mR57_27, mR57_28, mR57_37, mR57_40, mR57_41, mR57_43, mR57_44, mR57_48, mR57_49, gC58, mN58, gC59, mN59, gC60, mN60, gC61, mN61, gC62, mN62, gC63, mN63, gC64, mN64, gC65, mN65, gC66, mN66, gC67, mN67, gC68, mN68, gC69, mN69, gC70, mN70, gC71, mN71, gC72, mN72, gC73, mN73, gC74, mN74, gC75, mN75, gC76, mN76, gC77, mN77, gC78, mN78, gC79, mN79, gC80, mN80, gC81, mN81, gC82, mN82, gC83, mN83, gC84, mN84, gC85, mN85, gC86, mN86, gC87, mN87, m1, m2, m3, bdS, stM_45, stM_46]
          have tw := tp_rng (T := T) (b := b) (p := W.2) (fun j hj => (hT.2.2 j hj).1)
          have key : ((48 : Int32) ≤ bvI (tpF2 T b W.2) ∧ bvI (tpF2 T b W.2) ≤ 54) ↔ dgB (tpF2 T b W.2) 54 = true := by
            unfold dgB
            rw [decide_eq_true_eq]
            unfold bvI
            rcases tw with e | e
            · rw [if_pos e, e]
              constructor
              · intro r; exact absurd r.1 (by decide)
              · intro r; omega
            · rw [if_neg (by omega), show (48 : Int32) = nI 48 from rfl, show (54 : Int32) = nI 54 from rfl, nI_leI (by omega) (by omega), nI_leI (by omega) (by omega)]
          cases hw : W.1 with
          | false =>
            rw [if_neg (show ¬ bI (!false) = 0 by decide), b124_w, if_neg (show ¬ (false && _) = true by simp)]
          | true =>
            rw [if_pos (show bI (!true) = 0 from rfl), show (!true) = false from rfl]
            simp only [byteAt_E (TM_s hT2 W.2 false (nI v)) hWl, bdS, in_E, if_b, key]
            cases dgB (tpF2 T b W.2) 54 with
            | false => rw [if_neg (by decide), b124_w, if_neg (by decide)]
            | true => rw [if_pos rfl]; rfl
        by_cases g3 : (W.1 && dgB (tpF2 T b W.2) 54) = true
        · have g3' := g3
          rw [Bool.and_eq_true] at g3'
          obtain ⟨hW2, eW⟩ := tp_dg (by decide) g3'.2
          have hc := of_decide_eq_true g3'.2
          have hd7 : tpF2 T b W.2 - 48 < 7 := by omega
          -- the class: the comma
          have ccom : ∀ (i : fI) (l : fL) (m : Nat), TC T b i → i (32 + 3 * M) 2 = nI N → f_X7_readDays_l23 (m + 1) 8 (32 + 3 * M) (nI v) (nI N) (mkS n z L (u2 i 8 2 (nI p)) l) = if tpF2 T b (W.2 + 1) = 44 then (if dgB (tpF2 T b (W.2 + 2)) 57 = true then f_X7_readDays_l23 m 8 (32 + 3 * M) (nI (nmR (tpF2 T b) 3 (W.2 + 2) 0).2) (nI (N + 1)) (mkS n z L (u2 (adF i (32 + 3 * M) N (nI (tpF2 T b W.2 - 48)) (nI v)) 8 2 (nI (nmR (tpF2 T b) 3 (W.2 + 2) 0).1)) l) else f_X7_readDays_l23 m 8 (32 + 3 * M) (-1) (nI (N + 1)) (mkS n z L (u2 (adF i (32 + 3 * M) N (nI (tpF2 T b W.2 - 48)) (nI v)) 8 2 (nI (W.2 + 2))) l)) else some (0, mkS n z L (u2 i 8 2 (nI (W.2 + 1))) l) := by
            intro i l m hT h2
            have rc := reads0_E (n := n) (z := z) (L := L) (l := l) hT (s := 4) (by decide) (show W.2 + 1 ≤ T by omega)
            have ew : wrd (tpF2 T b) 4 (wln 4) 0 (W.2 + 1) = if tpF2 T b (W.2 + 1) = 44 then (true, W.2 + 1 + 1) else (false, W.2 + 1) := rfl
            rw [ew] at rc
            have hT2 : TC T b (adF i (32 + 3 * M) N (nI (tpF2 T b W.2 - 48)) (nI v)) := TC_fr hT (fun p k hp => adF_fr i _ N _ _ p k (by unfold sTx; omega))
            rw [con i l m hT, if_pos g3'.1, if_pos g3'.2]
            unfold f_X7_readDays_b57
            rw [if_neg (nI_m1 (by omega))]
            simp only [mI, mL, mZ, msI, msL, mN1020, gC1, mR1_0, mR1_1, mR1_2, mR1_3, mR1_4, mR1_5, mR1_6, mR1_7, mR1_8, gC2, mR2_6, mR2_7, gC3, mN3, gC4, mN4, gC5, mR5_0, mR5_1, gC6, mN6, gC7, mR7_0, mR7_1, gC8, mR8_0, gC9, mN9, gC10, mR10_0, gC11, mN11, mR11_0, mR11_1, mR11_2, mR11_3, mR11_4, mR11_5, gC12, mR12_0, mR12_1, gC13, mN13, gC14, mN14, gC15, mR15_0, mR15_1, gC16, mN16, gC17, mN17, gC18, mR18_0, mR18_1, gC19, mN19, gC20, mN20, gC21, mR21_0, mR21_1, gC22, mN22, gC23, mN23, gC24, mR24_0, mR24_1, gC25, mN25, gC26, mN26, gC27, mR27_0, mR27_1, gC28, mN28, gC29, mN29, gC30, mR30_0, gC31, mN31, mR31_0, mR31_1, mR31_2, mR31_3, mR31_4, mR31_5, gC32, mR32_0, mR32_1, gC33, mN33, gC34, mN34, gC35, mR35_0, mR35_1, gC36, mN36, gC37, mN37, gC38, mR38_0, mR38_1, gC39, mN39, gC40, mN40, gC41, mR41_0, mR41_1, gC42, mN42, gC43, mN43, gC44, mR44_0, mR44_1, gC45, mN45, gC46, mN46, gC47, mR47_0, mR47_1, gC48, mN48, gC49, mN49, gC50, mR50_0, mR50_1, mR50_2, mR50_3, gC51, mN51, gC52, mN52, gC53, mN53, gC54, mN54, gC55, gC56, gC57, mR57_2, mR57_3, mR57_6, mR57_7, mR57_8, mR57_9, mR57_10, mR57_11, mR57_12, mR57_13, mR57_14, mR57_15, mR57_16, mR57_18, mR57_19, mR57_20, mR57_21, mR57_22, mR57_23, mR57_25, mR57_26, mR57_27, mR57_28, mR57_37, mR57_40, mR57_41, mR57_43, mR57_44, mR57_48, mR57_49, gC58, mN58, gC59, mN59, gC60, mN60, gC61, mN61, gC62, mN62, gC63, mN63, gC64, mN64, gC65, mN65, gC66, mN66, gC67, mN67, gC68, mN68, gC69, mN69, gC70, mN70, gC71, mN71, gC72, mN72, gC73, mN73, gC74, mN74, gC75, mN75, gC76, mN76, gC77, mN77, gC78, mN78, gC79, mN79, gC80, mN80, gC81, mN81, gC82, mN82, gC83, mN83, gC84, mN84, gC85, mN85, gC86, mN86, gC87, mN87, rc, bdS, bI_e0]
            by_cases g4 : tpF2 T b (W.2 + 1) = 44
            · have hp2 := lt_tp (by decide) g4
              rw [if_pos g4, if_pos g4, if_neg (show ¬ true = false by decide), tx1_c hM, add1_P hM (by omega) h2, bdS]
              have rn := numC_E (n := n) (z := z) (L := L) (l := l) hT2 (show W.2 + 1 + 1 ≤ T by omega)
              simp only [mI, mL, mZ, msI, msL, mN1020, gC1, mR1_0, mR1_1, mR1_2, mR1_3, mR1_4, mR1_5, mR1_6, mR1_7, mR1_8, gC2, mR2_6, mR2_7, gC3, mN3, gC4, mN4, gC5, mR5_0, mR5_1, gC6, mN6, gC7, mR7_0, mR7_1, gC8, mR8_0, gC9, mN9, gC10, mR10_0, gC11, mN11, mR11_0, mR11_1, mR11_2, mR11_3, mR11_4, mR11_5, gC12, mR12_0, mR12_1, gC13, mN13, gC14, mN14, gC15, mR15_0, mR15_1, gC16, mN16, gC17, mN17, gC18, mR18_0, mR18_1, gC19, mN19, gC20, mN20, gC21, mR21_0, mR21_1, gC22, mN22, gC23, mN23, gC24, mR24_0, mR24_1, gC25, mN25, gC26, mN26, gC27, mR27_0, mR27_1, gC28, mN28, gC29, mN29, gC30, mR30_0, gC31, mN31, mR31_0, mR31_1, mR31_2, mR31_3, mR31_4, mR31_5, gC32, mR32_0, mR32_1, gC33, mN33, gC34, mN34, gC35, mR35_0, mR35_1, gC36, mN36, gC37, mN37, gC38, mR38_0, mR38_1, gC39, mN39, gC40, mN40, gC41, mR41_0, mR41_1, gC42, mN42, gC43, mN43, gC44, mR44_0, mR44_1, gC45, mN45, gC46, mN46, gC47, mR47_0, mR47_1, gC48, mN48, gC49, mN49, gC50, mR50_0, mR50_1, mR50_2, mR50_3, gC51, mN51, gC52, mN52, gC53, mN53, gC54, mN54, gC55, gC56, gC57, mR57_2, mR57_3, mR57_6, mR57_7, mR57_8, mR57_9, mR57_10, mR57_11, mR57_12, mR57_13, mR57_14, mR57_15, mR57_16, mR57_18, mR57_19, mR57_20, mR57_21, mR57_22, mR57_23, mR57_25, mR57_26, mR57_27, mR57_28, mR57_37, mR57_40, mR57_41, mR57_43, mR57_44, mR57_48, mR57_49, gC58, mN58, gC59, mN59, gC60, mN60, gC61, mN61, gC62, mN62, gC63, mN63, gC64, mN64, gC65, mN65, gC66, mN66, gC67, mN67, gC68, mN68, gC69, mN69, gC70, mN70, gC71, mN71, gC72, mN72, gC73, mN73, gC74, mN74, gC75, mN75, gC76, mN76, gC77, mN77, gC78, mN78, gC79, mN79, gC80, mN80, gC81, mN81, gC82, mN82, gC83, mN83, gC84, mN84, gC85, mN85, gC86, mN86, gC87, mN87, rn, nI_1]
              by_cases g5 : dgB (tpF2 T b (W.2 + 1 + 1)) 57 = true
              · rw [if_pos g5, bdS, if_pos g5]
              · rw [if_neg g5, bdS, if_neg g5]
            · rw [if_neg g4, if_neg g4, if_pos rfl]
          have mcom : ∀ (i : fI) (l : fL) (m : Nat), TM T b i → f_X11_daysOf_l30 (m + 1) 57 (nI (6 + M)) (nI N) (mkS n z L (stM i p false (nI v)) l) = f_X11_daysOf_l30 m 57 (nI (6 + M)) (nI (N + 1)) (mkS n z L (if tpF2 T b (W.2 + 1) = 44 then stM (u2 (u2 i 76 (5 * (6 + M) + N) (nI v)) 75 (4 * (6 + M) + N) (nI (tpF2 T b W.2 - 48))) (nmR (tpF2 T b) 3 (W.2 + 2) 0).1 (!dgB (tpF2 T b (W.2 + 2)) 57) (nI (nmR (tpF2 T b) 3 (W.2 + 2) 0).2) else stM (u2 (u2 i 76 (5 * (6 + M) + N) (nI v)) 75 (4 * (6 + M) + N) (nI (tpF2 T b W.2 - 48))) (W.2 + 1) true 0) l) := by
            intro i l m hT
            have hT2 : TM T b (u2 i 76 (5 * (6 + M) + N) (nI v)) := TM_fr hT (fun q k hq => by rw [u2_p _ _ (by omega)])
            rw [mon i l m hT, if_pos g3, b124_0 hT2 hM hN4 hW2 hc.1]
          have fr2 : ∀ (i : fI), Fr (sTd M) i (u2 (u2 i 76 (5 * (6 + M) + N) (nI v)) 75 (4 * (6 + M) + N) (nI (tpF2 T b W.2 - 48))) := fun i => Fr_u2 (Fr_u2 Fr_rfl (by unfold sTd; omega)) (by unfold sTd; omega)
          by_cases g4 : tpF2 T b (W.2 + 1) = 44
          · have hp2 := lt_tp (by decide) g4
            by_cases g5 : dgB (tpF2 T b (W.2 + 2)) 57 = true
            · have hl := nmR_le (T := T) (b := b) 3 (W.2 + 2) 0 (by omega)
              have hvv := nmR_v (t := tpF2 T b) 3 (W.2 + 2) 0
              obtain ⟨ok, pE, G, x1, x2, x3⟩ := ih (N + 1) (nmR (tpF2 T b) 3 (W.2 + 2) 0).1 (nmR (tpF2 T b) 3 (W.2 + 2) 0).2 (nD F (tpF2 T b W.2 - 48) v) (by omega) hl (by simpa using hvv)
              refine ⟨ok, pE, G, x1, ?_, ?_⟩
              · intro i l m hT h2 hm hci
                obtain ⟨m, rfl⟩ : ∃ m', m = m' + 1 := ⟨m - 1, by omega⟩
                obtain ⟨i2, y1, y2, y3⟩ := x2 (adF i (32 + 3 * M) N (nI (tpF2 T b W.2 - 48)) (nI v)) l m (TC_fr hT (fun p k hp => adF_fr i _ N _ _ p k (by unfold sTx; omega))) (u2_s _ _ _ _) (by omega) (CI1_add hci hd7)
                refine ⟨i2, ?_, Fr_trans (adF_fr i _ N _ _) y2, y3⟩
                rw [ccom i l m hT h2, if_pos g4, if_pos g5, y1]
              · intro i l m hT hm hmi
                obtain ⟨m, rfl⟩ : ∃ m', m = m' + 1 := ⟨m - 1, by omega⟩
                obtain ⟨i2, w, td2, y1, y2, y3, y4⟩ := x3 (u2 (u2 i 76 (5 * (6 + M) + N) (nI v)) 75 (4 * (6 + M) + N) (nI (tpF2 T b W.2 - 48))) l m (TM_fr hT (fun q k hq => by rw [u2_p _ _ (by omega), u2_p _ _ (by omega)])) (by omega) (MI1_add hmi hd7)
                refine ⟨i2, w, td2, ?_, y2, Fr_trans (fr2 i) y3, y4⟩
                rw [mcom i l m hT, if_pos g4, g5, show (!true) = false from rfl, y1]
            · have g5' : dgB (tpF2 T b (W.2 + 2)) 57 = false := by simpa using g5
              refine ⟨false, W.2 + 2, fun _ => 0, by omega, ?_, ?_⟩
              · intro i l m hT h2 hm hci
                obtain ⟨m, rfl⟩ : ∃ m', m = m' + 1 + 1 := ⟨m - 2, by omega⟩
                refine ⟨adF (adF i (32 + 3 * M) N (nI (tpF2 T b W.2 - 48)) (nI v)) (32 + 3 * M) (N + 1) (-1) (-1), ?_, Fr_trans (adF_fr i _ N _ _) (adF_fr _ _ (N + 1) _ _), fun q => absurd q (by decide)⟩
                rw [ccom i l (m + 1) hT h2, if_pos g4, if_neg g5, f_X7_readDays_l23_s]
                have b94 := b94_E (n := n) (z := z) (L := L) (l := l) (TC_fr hT (fun p k hp => adF_fr i _ N (nI (tpF2 T b W.2 - 48)) (nI v) p k (by unfold sTx; omega))) hM (show N + 1 < 5 by omega) (u2_s _ _ _ _) (show W.2 + 2 ≤ T by omega) (-1)
                rw [if_pos rfl] at b94
                rw [b94]
                split
                · rfl
                · rw [if_pos rfl]; rfl
              · intro i l m hT hm hmi
                obtain ⟨m, rfl⟩ : ∃ m', m = m' + 1 + 1 := ⟨m - 2, by omega⟩
                have e0 : nmR (tpF2 T b) 3 (W.2 + 2) 0 = (W.2 + 2, 0) := by
                  show (if dgB (tpF2 T b (W.2 + 2)) 57 = true then _ else _) = _
                  rw [if_neg g5]
                refine ⟨_, true, nI 0, ?_, rfl, Fr_trans (fr2 i) (frM _ (N + 1) (nI 0) (by omega)), fun q => absurd q (by decide)⟩
                rw [mcom i l (m + 1) hT, if_pos g4, g5', e0, show (!false) = true from rfl, l30_w hM (by omega)]
          · refine ⟨false, W.2 + 1, fun _ => 0, by omega, ?_, ?_⟩
            · intro i l m hT h2 hm hci
              obtain ⟨m, rfl⟩ : ∃ m', m = m' + 1 := ⟨m - 1, by omega⟩
              refine ⟨i, ?_, Fr_rfl, fun q => absurd q (by decide)⟩
              rw [ccom i l m hT h2, if_neg g4]
              rfl
            · intro i l m hT hm hmi
              obtain ⟨m, rfl⟩ : ∃ m', m = m' + 1 + 1 := ⟨m - 2, by omega⟩
              refine ⟨_, true, 0, ?_, rfl, Fr_trans (fr2 i) (frM _ (N + 1) 0 (by omega)), fun q => absurd q (by decide)⟩
              rw [mcom i l (m + 1) hT, if_neg g4, l30_w hM (by omega)]
        · refine ⟨false, W.2, fun _ => 0, hWl, ?_, ?_⟩
          · intro i l m hT h2 hm hci
            obtain ⟨m, rfl⟩ : ∃ m', m = m' + 1 := ⟨m - 1, by omega⟩
            refine ⟨i, ?_, Fr_rfl, fun q => absurd q (by decide)⟩
            rw [con i l m hT]
            by_cases c1 : W.1 = true
            · rw [if_pos c1, if_neg (fun c2 => g3 (by rw [c1, c2]; rfl))]; rfl
            · rw [if_neg c1]; rfl
          · intro i l m hT hm hmi
            obtain ⟨m, rfl⟩ : ∃ m', m = m' + 1 + 1 := ⟨m - 2, by omega⟩
            have f1 : Fr (sTd M) i (u2 i 76 (5 * (6 + M) + N) (nI v)) := Fr_u2 Fr_rfl (by unfold sTd; omega)
            refine ⟨_, true, 0, ?_, rfl, Fr_trans f1 (frM _ (N + 1) 0 (by omega)), fun q => absurd q (by decide)⟩
            rw [mon i l (m + 1) hT, if_neg g3, l30_w hM (by omega)]
      · -- no blank there
        have eW : W = (false, p) := by
          rw [← hW]
          show (if tpF2 T b p = 32 then _ else _) = _
          rw [if_neg g2]
        refine ⟨false, p, fun _ => 0, hp, ?_, ?_⟩
        · intro i l m hT h2 hm hci
          obtain ⟨m, rfl⟩ : ∃ m', m = m' + 1 := ⟨m - 1, by omega⟩
          refine ⟨i, ?_, Fr_rfl, fun q => absurd q (by decide)⟩
          rw [con i l m hT, eW, if_neg (show ¬ false = true by decide)]
          rfl
        · intro i l m hT hm hmi
          obtain ⟨m, rfl⟩ : ∃ m', m = m' + 1 := ⟨m - 1, by omega⟩
          exact ⟨u2 (u2 i 74 (6 + M) (nI N)) 76 (5 * (6 + M) + N) (nI v), false, nI v, mstop i l m hT g2, by rw [decide_eq_false (show ¬ p = T by omega)]; rfl, frM i N _ (by omega), fun q => absurd q (by decide)⟩
end DAYS
