section MEDALS
variable {C R n z L T M : Nat} {i : fI} {l : fL} {b : Nat → Nat}
/-! which medal is begun by a letter, of the last r ones -/
def fkR (c : Nat) : Nat → Nat
  | 0 => 3
  | r + 1 => if c = wch (2 - r) 0 then 2 - r else fkR c r
theorem fkR_le (c : Nat) : ∀ r, fkR c r ≤ 3
  | 0 => Nat.le_refl _
  | r + 1 => by
    unfold fkR
    split
    · omega
    · exact fkR_le c r
theorem fkR_ge (c : Nat) : ∀ r, 3 - r ≤ fkR c r
  | 0 => Nat.le_refl _
  | r + 1 => by
    unfold fkR
    split
    · omega
    · have := fkR_ge c r
      omega
theorem nameOf_E {k : Nat} (hk : k < 3) (w : xSt) : f_X7_nameOf (nI (3 - k)) w = some (k, w) := by
  have : k = 0 ∨ k = 1 ∨ k = 2 := by omega
  unfold f_X7_nameOf
  rcases this with rfl | rfl | rfl
  · rw [if_neg (by decide), if_pos (by decide)]
  · rw [if_pos (by decide)]
  · rw [if_neg (by decide), if_neg (by decide)]
theorem wln_pos {k : Nat} (hk : k < 3) : 0 < wln k ∧ k < 7 := by
  have : k = 0 ∨ k = 1 ∨ k = 2 := by omega
  rcases this with rfl | rfl | rfl <;> decide
theorem begun_E (hT : TC T b i) {p : Nat} (hp : p ≤ T) : ∀ r m, r ≤ 3 → r < m → f_X7_medalBegunHere_l2 m 8 (nI r) (mkS n z L (u2 i 8 2 (nI p)) l) = some (nI (3 - fkR (tpF2 T b p) r), mkS n z L (u2 i 8 2 (nI p)) l) := by
  have h120 := hT.1
  intro r
  induction r with
  | zero =>
    intro m hr hm
    obtain ⟨m, rfl⟩ : ∃ m', m = m' + 1 := ⟨m - 1, by omega⟩
    rw [f_X7_medalBegunHere_l2_s, if_pos (by decide)]
    rfl
  | succ r ih =>
    intro m hr hm
    obtain ⟨m, rfl⟩ : ∃ m', m = m' + 1 := ⟨m - 1, by omega⟩
    have hk : 2 - r < 3 := by omega
    obtain ⟨w0, w7⟩ := wln_pos hk
    have hc := wch_lt w7 w0
    have en : nI (r + 1) = nI (3 - (2 - r)) := by rw [show 3 - (2 - r) = r + 1 by omega]
    have nm : ∀ w, f_X7_nameOf (nI (r + 1)) w = some (2 - r, w) := fun w => by rw [en]; exact nameOf_E hk w
    have ch : ∀ w, f_J0_charAt_5068e (2 - r) 0 w = some (nI (wch (2 - r) 0), w) := fun w => charAt_E w7 w0 w
    rw [f_X7_medalBegunHere_l2_s, if_neg (nI_nle (by omega) (by omega))]
    simp only [mI, mL, mZ, msI, msL, mN1020, gC1, mR1_0, mR1_1, mR1_2, mR1_3, mR1_4, mR1_5, mR1_6, mR1_7, mR1_8, gC2, mR2_6, mR2_7, gC3, mN3, gC4, mN4, gC5, mR5_0, mR5_1, gC6, mN6, gC7, mR7_0, mR7_1, gC8, mR8_0, gC9, mN9, gC10, mR10_0, gC11, mN11, mR11_0, mR11_1, mR11_2, mR11_3, mR11_4, mR11_5, gC12, mR12_0, mR12_1, gC13, mN13, gC14, mN14, gC15, mR15_0, mR15_1, gC16, mN16, gC17, mN17, gC18, mR18_0, mR18_1, gC19, mN19, gC20, mN20, gC21, mR21_0, mR21_1, gC22, mN22, gC23, mN23, gC24, mR24_0, mR24_1, gC25, mN25, gC26, mN26, gC27, mR27_0, mR27_1, gC28, mN28, gC29, mN29, gC30, mR30_0, gC31, mN31, mR31_0, mR31_1, mR31_2, mR31_3, mR31_4, mR31_5, gC32, mR32_0, mR32_1, gC33, mN33, gC34, mN34, gC35, mR35_0, mR35_1, gC36, mN36, gC37, mN37, gC38, mR38_0, mR38_1, gC39, mN39, gC40, mN40, gC41, mR41_0, mR41_1, gC42, mN42, gC43, mN43, gC44, mR44_0, mR44_1, gC45, mN45, gC46, mN46, gC47, mR47_0, mR47_1, gC48, mN48, gC49, mN49, gC50, mR50_0, mR50_1, mR50_2, mR50_3, gC51, mN51, gC52, mN52, gC53, mN53, gC54, mN54, gC55, gC56, gC57, mR57_2, mR57_3, mR57_6, mR57_7, mR57_8, mR57_9, mR57_10, mR57_11, mR57_12, mR57_13, mR57_14, mR57_15, mR57_16, mR57_18, mR57_19, mR57_20, mR57_21, mR57_22, mR57_23, mR57_25, mR57_26, mR57_27, mR57_28, mR57_37, mR57_40, mR57_41, mR57_43, mR57_44, mR57_48, mR57_49, gC58, mN58, gC59, mN59, gC60, mN60, gC61, mN61, gC62, mN62, gC63, mN63, gC64, mN64, gC65, mN65, gC66, mN66, gC67, mN67, gC68, mN68, gC69, mN69, gC70, mN70, gC71, mN71, gC72, mN72, gC73, mN73, gC74, mN74, gC75, mN75, gC76, mN76, gC77, mN77, gC78, mN78, gC79, mN79, gC80, mN80, gC81, mN81, gC82, mN82, gC83, mN83, gC84, mN84, gC85, mN85, gC86, mN86, gC87, mN87, atEnd_E (TC_p hT (nI p)) (show p ≤ 120 by omega) (u2_s _ _ _ _), bdS, bI_e0, u2_s, nI_clamp (show p < 2 ^ 31 by omega), nm, ch, pk_m1, gd_t w7]
    rw [ih m (by omega) (by omega)]
    have ef : fkR (tpF2 T b p) (r + 1) = if tpF2 T b p = wch (2 - r) 0 then 2 - r else fkR (tpF2 T b p) r := rfl
    rw [ef]
    by_cases e : T ≤ p
    · have e9 : tpF2 T b p = 999 := if_neg (by omega)
      rw [decide_eq_true e, if_neg (by decide), e9, if_neg (by omega)]
    · have hv := hT.2.2 p (by omega)
      have e9 : tpF2 T b p = b p := if_pos (by omega)
      rw [decide_eq_false e, if_pos rfl, gI (show p < 120 by omega) (by omega), u2_p _ _ (show (9 : Nat) ≠ 8 by decide), hv.2, e9]
      by_cases e2 : b p = wch (2 - r) 0
      · rw [if_pos (by rw [sb_ch hv.1 hc]; exact e2), if_pos e2, en]
      · rw [if_neg (by rw [sb_ch hv.1 hc]; exact e2), if_neg e2]
theorem addT0_E {e : Nat} (hM : M < 6) (he : e < 5) (h2 : i (12 + 3 * M) 2 = nI e) (x y : Int32) : f_X8_add (12 + 3 * M) x y (mkS n z L i l) = some ((), mkS n z L (u2 (u2 (u2 i (13 + 3 * M) e x) (14 + 3 * M) e y) (12 + 3 * M) 2 (nI (e + 1))) l) := by
  have v1 : u2 i (13 + 3 * M) e x (12 + 3 * M) 2 = nI e := by rw [u2_p _ _ (by omega)]; exact h2
  have v2 : u2 (u2 i (13 + 3 * M) e x) (14 + 3 * M) e y (12 + 3 * M) 2 = nI e := by rw [u2_p _ _ (by omega)]; exact v1
  simp only [f_X8_add, tx0_c hM, mI, mL, mZ, msI, msL, mN1020, gC1, mR1_0, mR1_1, mR1_2, mR1_3, mR1_4, mR1_5, mR1_6, mR1_7, mR1_8, gC2, mR2_6, mR2_7, gC3, mN3, gC4, mN4, gC5, mR5_0, mR5_1, gC6, mN6, gC7, mR7_0, mR7_1, gC8, mR8_0, gC9, mN9, gC10, mR10_0, gC11, mN11, mR11_0, mR11_1, mR11_2, mR11_3, mR11_4, mR11_5, gC12, mR12_0, mR12_1, gC13, mN13, gC14, mN14, gC15, mR15_0, mR15_1, gC16, mN16, gC17, mN17, gC18, mR18_0, mR18_1, gC19, mN19, gC20, mN20, gC21, mR21_0, mR21_1, gC22, mN22, gC23, mN23, gC24, mR24_0, mR24_1, gC25, mN25, gC26, mN26, gC27, mR27_0, mR27_1, gC28, mN28, gC29, mN29, gC30, mR30_0, gC31, mN31, mR31_0, mR31_1, mR31_2, mR31_3, mR31_4, mR31_5, gC32, mR32_0, mR32_1, gC33, mN33, gC34, mN34, gC35, mR35_0, mR35_1, gC36, mN36, gC37, mN37, gC38, mR38_0, mR38_1, gC39, mN39, gC40, mN40, gC41, mR41_0, mR41_1, gC42, mN42, gC43, mN43, gC44, mR44_0, mR44_1, gC45, mN45, gC46, mN46, gC47, mR47_0, mR47_1, gC48, mN48, gC49, mN49, gC50, mR50_0, mR50_1, mR50_2, mR50_3, gC51, mN51, gC52, mN52, gC53, mN53, gC54, mN54, gC55, gC56, gC57, mR57_2, mR57_3, mR57_6, mR57_7, mR57_8, mR57_9, mR57_10, mR57_11, mR57_12, mR57_13, mR57_14, mR57_15, mR57_16, mR57_18, mR57_19, mR57_20, mR57_21, mR57_22, mR57_23, mR57_25, mR57_26, mR57_27, mR57_28, mR57_37, mR57_40, mR57_41, mR57_43, mR57_44, mR57_48, mR57_49, gC58, mN58, gC59, mN59, gC60, mN60, gC61, mN61, gC62, mN62, gC63, mN63, gC64, mN64, gC65, mN65, gC66, mN66, gC67, mN67, gC68, mN68, gC69, mN69, gC70, mN70, gC71, mN71, gC72, mN72, gC73, mN73, gC74, mN74, gC75, mN75, gC76, mN76, gC77, mN77, gC78, mN78, gC79, mN79, gC80, mN80, gC81, mN81, gC82, mN82, gC83, mN83, gC84, mN84, gC85, mN85, gC86, mN86, gC87, mN87, h2, tx0_k hM, tx0_kc hM, tx0_kn hM, tx0_n hM, tx0_nc hM, tx0_nn hM, nI_clamp (show e < 2 ^ 31 by omega), gI he (show 5 < 2 ^ 31 by omega), lt1E, v1, v2, nI_1]
  rw [if_neg (by rw [show (5 : Int32) = nI 5 from rfl]; exact nI_ge he (by omega))]
theorem fsel_snoc {p : Nat → Bool} {v : Nat → Int32} : ∀ (k j : Nat) (d : Int32), fsel p v d (k + 1) j = fsel p v (if p (j + k) = true then v (j + k) else d) k j
  | 0, j, d => by
    unfold fsel
    rw [Nat.add_zero]
    rfl
  | k + 1, j, d => by
    have ih := fsel_snoc (p := p) (v := v) k (j + 1) d
    have e1 : fsel p v d (k + 1 + 1) j = if p j = true then v j else fsel p v d (k + 1) (j + 1) := rfl
    have e2 : ∀ d2, fsel p v d2 (k + 1) j = if p j = true then v j else fsel p v d2 k (j + 1) := fun _ => rfl
    rw [e1, e2, ih, show j + 1 + k = j + (k + 1) by omega]
theorem fsel_drop {p : Nat → Bool} {v : Nat → Int32} {K : Nat} (d : Int32) : ∀ r, (∀ k, K ≤ k → k < K + r → p k = false) → fsel p v d (K + r) 0 = fsel p v d K 0
  | 0, _ => rfl
  | r + 1, h => by
    show fsel p v d ((K + r) + 1) 0 = _
    rw [fsel_snoc, Nat.zero_add, h (K + r) (by omega) (by omega), if_neg (by decide)]
    exact fsel_drop d r (fun k h1 h2 => h k h1 (by omega))
def CI0 (M : Nat) (F : Int32 → Int32 → Int32) (i : fI) (e : Nat) : Prop := ∀ a d, fsel (fun j => !(decide (a < i (14 + 3 * M) j))) (fun j => i (13 + 3 * M) j) d e 0 = F a d
def MI0 (M : Nat) (F : Int32 → Int32 → Int32) (i : fI) (K : Nat) : Prop := ∀ a d, fsel (fun k => !(decide (i 73 (3 * M + k) = -1)) && !(decide (a < i 73 (3 * M + k)))) (fun k => nI (3 - k)) d K 0 = F a d
def nF (F : Int32 → Int32 → Int32) (k v : Nat) (a d : Int32) : Int32 := F a (if a < nI v then d else nI (3 - k))
theorem CI0_add {F : Int32 → Int32 → Int32} {e k v : Nat} (h : CI0 M F i e) : CI0 M (nF F k v) (u2 (u2 (u2 i (13 + 3 * M) e (nI (3 - k))) (14 + 3 * M) e (nI v)) (12 + 3 * M) 2 (nI (e + 1))) (e + 1) := by
  intro a d
  have r1 : ∀ j, j ≠ e → u2 (u2 (u2 i (13 + 3 * M) e (nI (3 - k))) (14 + 3 * M) e (nI v)) (12 + 3 * M) 2 (nI (e + 1)) (14 + 3 * M) j = i (14 + 3 * M) j := fun j hj => by rw [u2_p _ _ (by omega), u2_k _ _ hj, u2_p _ _ (by omega)]
  have r2 : ∀ j, j ≠ e → u2 (u2 (u2 i (13 + 3 * M) e (nI (3 - k))) (14 + 3 * M) e (nI v)) (12 + 3 * M) 2 (nI (e + 1)) (13 + 3 * M) j = i (13 + 3 * M) j := fun j hj => by rw [u2_p _ _ (by omega), u2_p _ _ (by omega), u2_k _ _ hj]
  have r3 : u2 (u2 (u2 i (13 + 3 * M) e (nI (3 - k))) (14 + 3 * M) e (nI v)) (12 + 3 * M) 2 (nI (e + 1)) (14 + 3 * M) e = nI v := by rw [u2_p _ _ (by omega), u2_s]
  have r4 : u2 (u2 (u2 i (13 + 3 * M) e (nI (3 - k))) (14 + 3 * M) e (nI v)) (12 + 3 * M) 2 (nI (e + 1)) (13 + 3 * M) e = nI (3 - k) := by rw [u2_p _ _ (by omega), u2_p _ _ (by omega), u2_s]
  rw [fsel_snoc]
  simp only [Nat.zero_add, r3, r4]
  unfold nF
  rw [← h a]
  have e1 : (if (!decide (a < nI v)) = true then nI (3 - k) else d) = if a < nI v then d else nI (3 - k) := by
    by_cases q : a < nI v
    · rw [if_pos q, if_neg (by simp [q])]
    · rw [if_neg q, if_pos (by simp [q])]
  rw [e1]
  exact fsel_cong _ _ (fun j _ hj => ⟨by rw [r1 j (by omega)], r2 j (by omega)⟩) rfl
theorem MI0_add {F : Int32 → Int32 → Int32} {K k v : Nat} (hK : K ≤ k) (hv : v < 2 ^ 31) (hm : ∀ j, K ≤ j → j < k → i 73 (3 * M + j) = -1) (h : MI0 M F i K) : MI0 M (nF F k v) (u2 i 73 (3 * M + k) (nI v)) (k + 1) := by
  intro a d
  rw [fsel_snoc]
  simp only [Nat.zero_add, u2_s]
  have e1 : (if (!decide (nI v = -1) && !decide (a < nI v)) = true then nI (3 - k) else d) = if a < nI v then d else nI (3 - k) := by
    have := nI_m1 hv
    by_cases q : a < nI v
    · rw [if_pos q, if_neg (by simp [q])]
    · rw [if_neg q, if_pos (by simp [q, this])]
  rw [e1]
  unfold nF
  rw [← h a, ← fsel_drop (K := K) (if a < nI v then d else nI (3 - k)) (k - K) (fun j h1 h2 => by rw [hm j h1 (by omega)]; rfl), show K + (k - K) = k by omega]
  exact fsel_cong _ _ (fun j _ hj => ⟨by rw [u2_k _ _ (by omega)], rfl⟩) rfl
/-! the reference's steps -/
theorem RelY_s (hY : RelY i) (p : Nat) (wr : Bool) (td : Int32) {j : Nat} (hj : j < 18) : stM i p wr td 86 j = ([103, 111, 108, 100, 0, 0, 115, 105, 108, 118, 101, 114, 98, 114, 111, 110, 122, 101] : List Int32).getD j 0 := by
  rw [stM_o _ _ _ _ (by omega)]
  exact hY j hj
theorem nm_all : ∀ k : Fin 3, ∀ j : Fin 6, ([103, 111, 108, 100, 0, 0, 115, 105, 108, 118, 101, 114, 98, 114, 111, 110, 122, 101] : List Int32).getD (6 * k.1 + j.1) 0 = if j.1 < wln k.1 then nI (wch k.1 j.1) else 0 := by decide +kernel
theorem nm_E (hY : RelY i) (p : Nat) (wr : Bool) (td : Int32) {k j : Nat} (hk : k < 3) (hj : j < 6) : stM i p wr td 86 (6 * k + j) = if j < wln k then nI (wch k j) else 0 := by
  rw [RelY_s hY p wr td (by omega)]
  exact nm_all ⟨k, hk⟩ ⟨j, hj⟩
theorem l39_E (hT : TM T b i) (hY : RelY i) (k28 : Nat → Int32 → Int32 → Int32 → xSt → Option (Unit × xSt)) (x1 td : Int32) {p : Nat} (hp : p ≤ T) : ∀ r m, r ≤ 3 → r < m → f_X11_medals_l39 k28 m 57 x1 (nI (3 - r)) (mkS n z L (stM i p false td) l) = f_X11_medals_b70 k28 57 x1 (nI (fkR (tpF2 T b p) r)) (mkS n z L (stM i p false td) l) := by
  intro r
  induction r with
  | zero =>
    intro m hr hm
    obtain ⟨m, rfl⟩ : ∃ m', m = m' + 1 := ⟨m - 1, by omega⟩
    rw [f_X11_medals_l39_s, if_pos (by decide)]
    rfl
  | succ r ih =>
    intro m hr hm
    obtain ⟨m, rfl⟩ : ∃ m', m = m' + 1 := ⟨m - 1, by omega⟩
    have e0 : 3 - (r + 1) = 2 - r := by omega
    have hk : 2 - r < 3 := by omega
    obtain ⟨w0, w7⟩ := wln_pos hk
    have hc := wch_lt w7 w0
    have en := nm_E hY p false td hk (show 0 < 6 by omega)
    rw [if_pos w0, Nat.add_zero] at en
    have ih' := ih m (by omega) (by omega)
    rw [show 3 - r = 2 - r + 1 by omega] at ih'
    rw [e0, f_X11_medals_l39_s, if_neg (by rw [show (3 : Int32) = nI 3 from rfl]; exact nI_ge (by omega) (by omega)), show (6 : Int32) = nI 6 from rfl]
    simp only [mI, mL, mZ, msI, msL, mN1020, gC1, mR1_0, mR1_1, mR1_2, mR1_3, mR1_4, mR1_5, mR1_6, mR1_7, mR1_8, gC2, mR2_6, mR2_7, gC3, mN3, gC4, mN4, gC5, mR5_0, mR5_1, gC6, mN6, gC7, mR7_0, mR7_1, gC8, mR8_0, gC9, mN9, gC10, mR10_0, gC11, mN11, mR11_0, mR11_1, mR11_2, mR11_3, mR11_4, mR11_5, gC12, mR12_0, mR12_1, gC13, mN13, gC14, mN14, gC15, mR15_0, mR15_1, gC16, mN16, gC17, mN17, gC18, mR18_0, mR18_1, gC19, mN19, gC20, mN20, gC21, mR21_0, mR21_1, gC22, mN22, gC23, mN23, gC24, mR24_0, mR24_1, gC25, mN25, gC26, mN26, gC27, mR27_0, mR27_1, gC28, mN28, gC29, mN29, gC30, mR30_0, gC31, mN31, mR31_0, mR31_1, mR31_2, mR31_3, mR31_4, mR31_5, gC32, mR32_0, mR32_1, gC33, mN33, gC34, mN34, gC35, mR35_0, mR35_1, gC36, mN36, gC37, mN37, gC38, mR38_0, mR38_1, gC39, mN39, gC40, mN40, gC41, mR41_0, mR41_1, gC42, mN42, gC43, mN43, gC44, mR44_0, mR44_1, gC45, mN45, gC46, mN46, gC47, mR47_0, mR47_1, gC48, mN48, gC49, mN49, gC50, mR50_0, mR50_1, mR50_2, mR50_3, gC51, mN51, gC52, mN52, gC53, mN53, gC54, mN54, gC55, gC56, gC57, mR57_2, mR57_3, mR57_6, mR57_7, mR57_8, mR57_9, mR57_10, mR57_11, mR57_12, mR57_13, mR57_14, mR57_15, mR57_16, mR57_18, mR57_19, mR57_20, mR57_21, mR57_22, mR57_23, mR57_25, mR57_26, mR57_27, mR57_28, mR57_37, mR57_40, mR57_41, mR57_43, mR57_44, mR57_48, mR57_49, gC58, mN58, gC59, mN59, gC60, mN60, gC61, mN61, gC62, mN62, gC63, mN63, gC64, mN64, gC65, mN65, gC66, mN66, gC67, mN67, gC68, mN68, gC69, mN69, gC70, mN70, gC71, mN71, gC72, mN72, gC73, mN73, gC74, mN74, gC75, mN75, gC76, mN76, gC77, mN77, gC78, mN78, gC79, mN79, gC80, mN80, gC81, mN81, gC82, mN82, gC83, mN83, gC84, mN84, gC85, mN85, gC86, mN86, gC87, mN87, stM_45, byteAt_E (TM_s hT p false td) hp, bdS, pk_mul, nI_clamp (show 6 * (2 - r) < 2 ^ 31 by omega), gI (show 6 * (2 - r) < 18 by omega) (show 18 < 2 ^ 31 by omega), en, bvI_eq (tp_rng (fun j hj => (hT.2.2 j hj).1)) (show wch (2 - r) 0 < 256 by omega), nI_1]
    rw [ih']
    have ef : fkR (tpF2 T b p) (r + 1) = if tpF2 T b p = wch (2 - r) 0 then 2 - r else fkR (tpF2 T b p) r := rfl
    rw [ef]
    by_cases e : tpF2 T b p = wch (2 - r) 0
    · rw [if_pos e, if_pos e]
    · rw [if_neg e, if_neg e]
theorem l87m_E (hT : TM T b i) (hY : RelY i) (k28 : Nat → Int32 → Int32 → Int32 → xSt → Option (Unit × xSt)) (x1 td : Int32) {k : Nat} (hk : k < 3) : ∀ r j p m, j + r = 6 → r < m → p ≤ T → f_X11_medals_l87 k28 m 57 x1 (nI k) (nI j) (mkS n z L (stM i p false td) l) = f_X11_medals_b138 k28 57 x1 (nI k) (mkS n z L (stM i (wrd (tpF2 T b) k (wln k - j) j p).2 (!(wrd (tpF2 T b) k (wln k - j) j p).1) td) l) := by
  obtain ⟨w0, w7⟩ := wln_pos hk
  have w6 : wln k ≤ 6 := (wl_all ⟨k, w7⟩).2.1
  intro r
  induction r with
  | zero =>
    intro j p m hj hm hp
    obtain ⟨m, rfl⟩ : ∃ m', m = m' + 1 := ⟨m - 1, by omega⟩
    have e : j = 6 := by omega
    subst e
    rw [f_X11_medals_l87_s, if_pos (by decide), show wln k - 6 = 0 by omega]
    rfl
  | succ r ih =>
    intro j p m hj hm hp
    obtain ⟨m, rfl⟩ : ∃ m', m = m' + 1 := ⟨m - 1, by omega⟩
    have en := nm_E hY p false td hk (show j < 6 by omega)
    rw [f_X11_medals_l87_s, if_neg (by rw [show (6 : Int32) = nI 6 from rfl]; exact nI_ge (by omega) (by omega)), show (6 : Int32) = nI 6 from rfl]
    simp only [mI, mL, mZ, msI, msL, mN1020, gC1, mR1_0, mR1_1, mR1_2, mR1_3, mR1_4, mR1_5, mR1_6, mR1_7, mR1_8, gC2, mR2_6, mR2_7, gC3, mN3, gC4, mN4, gC5, mR5_0, mR5_1, gC6, mN6, gC7, mR7_0, mR7_1, gC8, mR8_0, gC9, mN9, gC10, mR10_0, gC11, mN11, mR11_0, mR11_1, mR11_2, mR11_3, mR11_4, mR11_5, gC12, mR12_0, mR12_1, gC13, mN13, gC14, mN14, gC15, mR15_0, mR15_1, gC16, mN16, gC17, mN17, gC18, mR18_0, mR18_1, gC19, mN19, gC20, mN20, gC21, mR21_0, mR21_1, gC22, mN22, gC23, mN23, gC24, mR24_0, mR24_1, gC25, mN25, gC26, mN26, gC27, mR27_0, mR27_1, gC28, mN28, gC29, mN29, gC30, mR30_0, gC31, mN31, mR31_0, mR31_1, mR31_2, mR31_3, mR31_4, mR31_5, gC32, mR32_0, mR32_1, gC33, mN33, gC34, mN34, gC35, mR35_0, mR35_1, gC36, mN36, gC37, mN37, gC38, mR38_0, mR38_1, gC39, mN39, gC40, mN40, gC41, mR41_0, mR41_1, gC42, mN42, gC43, mN43, gC44, mR44_0, mR44_1, gC45, mN45, gC46, mN46, gC47, mR47_0, mR47_1, gC48, mN48, gC49, mN49, gC50, mR50_0, mR50_1, mR50_2, mR50_3, gC51, mN51, gC52, mN52, gC53, mN53, gC54, mN54, gC55, gC56, gC57, mR57_2, mR57_3, mR57_6, mR57_7, mR57_8, mR57_9, mR57_10, mR57_11, mR57_12, mR57_13, mR57_14, mR57_15, mR57_16, mR57_18, mR57_19, mR57_20, mR57_21, mR57_22, mR57_23, mR57_25, mR57_26, mR57_27, mR57_28, mR57_37, mR57_40, mR57_41, mR57_43, mR57_44, mR57_48, mR57_49, gC58, mN58, gC59, mN59, gC60, mN60, gC61, mN61, gC62, mN62, gC63, mN63, gC64, mN64, gC65, mN65, gC66, mN66, gC67, mN67, gC68, mN68, gC69, mN69, gC70, mN70, gC71, mN71, gC72, mN72, gC73, mN73, gC74, mN74, gC75, mN75, gC76, mN76, gC77, mN77, gC78, mN78, gC79, mN79, gC80, mN80, gC81, mN81, gC82, mN82, gC83, mN83, gC84, mN84, gC85, mN85, gC86, mN86, gC87, mN87, stM_46, pk_mul, nI_add, nI_clamp (show 6 * k + j < 2 ^ 31 by omega), gI (show 6 * k + j < 18 by omega) (show 18 < 2 ^ 31 by omega), en, nI_1]
    rw [if_pos (show bI false = 0 from rfl)]
    by_cases e : j < wln k
    · have hc := wch_lt w7 e
      have hc0 : ∀ k : Fin 3, ∀ j : Fin 6, j.1 < wln k.1 → 0 < wch k.1 j.1 := by decide +kernel
      have hc1 : 0 < wch k j := hc0 ⟨k, hk⟩ ⟨j, by omega⟩ e
      rw [if_pos e, if_neg (nI_ne0 hc1 (by omega)), must_E hT hp (show wch k j < 256 by omega) rfl td]
      have ew : wrd (tpF2 T b) k (wln k - j) j p = if tpF2 T b p = wch k j then wrd (tpF2 T b) k (wln k - (j + 1)) (j + 1) (p + 1) else (false, p) := by
        rw [show wln k - j = (wln k - (j + 1)) + 1 by omega]
        rfl
      rw [ew]
      by_cases e2 : tpF2 T b p = wch k j
      · rw [if_pos e2, if_pos e2, bdS]
        have hp2 : p < T := by
          refine Classical.byContradiction (fun q => ?_)
          unfold tpF2 at e2
          rw [if_neg q] at e2
          omega
        exact ih (j + 1) (p + 1) m (by omega) (by omega) (by omega)
      · rw [if_neg e2, if_neg e2, bdS]
        obtain ⟨m, rfl⟩ : ∃ m', m = m' + 1 := ⟨m - 1, by omega⟩
        rw [f_X11_medals_l87_s]
        by_cases e3 : (6 : Int32) ≤ nI (j + 1)
        · rw [if_pos e3]; rfl
        · rw [if_neg e3]
          simp only [mI, mL, mZ, msI, msL, mN1020, gC1, mR1_0, mR1_1, mR1_2, mR1_3, mR1_4, mR1_5, mR1_6, mR1_7, mR1_8, gC2, mR2_6, mR2_7, gC3, mN3, gC4, mN4, gC5, mR5_0, mR5_1, gC6, mN6, gC7, mR7_0, mR7_1, gC8, mR8_0, gC9, mN9, gC10, mR10_0, gC11, mN11, mR11_0, mR11_1, mR11_2, mR11_3, mR11_4, mR11_5, gC12, mR12_0, mR12_1, gC13, mN13, gC14, mN14, gC15, mR15_0, mR15_1, gC16, mN16, gC17, mN17, gC18, mR18_0, mR18_1, gC19, mN19, gC20, mN20, gC21, mR21_0, mR21_1, gC22, mN22, gC23, mN23, gC24, mR24_0, mR24_1, gC25, mN25, gC26, mN26, gC27, mR27_0, mR27_1, gC28, mN28, gC29, mN29, gC30, mR30_0, gC31, mN31, mR31_0, mR31_1, mR31_2, mR31_3, mR31_4, mR31_5, gC32, mR32_0, mR32_1, gC33, mN33, gC34, mN34, gC35, mR35_0, mR35_1, gC36, mN36, gC37, mN37, gC38, mR38_0, mR38_1, gC39, mN39, gC40, mN40, gC41, mR41_0, mR41_1, gC42, mN42, gC43, mN43, gC44, mR44_0, mR44_1, gC45, mN45, gC46, mN46, gC47, mR47_0, mR47_1, gC48, mN48, gC49, mN49, gC50, mR50_0, mR50_1, mR50_2, mR50_3, gC51, mN51, gC52, mN52, gC53, mN53, gC54, mN54, gC55, gC56, gC57, mR57_2, mR57_3, mR57_6, mR57_7, mR57_8, mR57_9, mR57_10, mR57_11, mR57_12, mR57_13, mR57_14, mR57_15, mR57_16, mR57_18, mR57_19, mR57_20, mR57_21, mR57_22, mR57_23, mR57_25, mR57_26, mR57_27, mR57_28, mR57_37, mR57_40, mR57_41, mR57_43, mR57_44, mR57_48, mR57_49, gC58, mN58, gC59, mN59, gC60, mN60, gC61, mN61, gC62, mN62, gC63, mN63, gC64, mN64, gC65, mN65, gC66, mN66, gC67, mN67, gC68, mN68, gC69, mN69, gC70, mN70, gC71, mN71, gC72, mN72, gC73, mN73, gC74, mN74, gC75, mN75, gC76, mN76, gC77, mN77, gC78, mN78, gC79, mN79, gC80, mN80, gC81, mN81, gC82, mN82, gC83, mN83, gC84, mN84, gC85, mN85, gC86, mN86, gC87, mN87, stM_46]
          rw [if_neg (by decide)]
          rfl
    · rw [if_neg e, if_pos rfl, show wln k - j = 0 by omega]
      have := ih (j + 1) p m (by omega) (by omega) hp
      rw [show wln k - (j + 1) = 0 by omega] at this
      exact this
theorem b138_w (x1 td : Int32) {k p m : Nat} (hk : k ≤ 3) : f_X11_medals_b138 (f_X11_medals_l28 (m + 1)) 57 x1 (nI k) (mkS n z L (stM i p true td) l) = some ((), mkS n z L (stM i p true 0) l) := by
  have fin : ∀ x, f_X11_medals_b220 (f_X11_medals_l28 (m + 1)) 57 x1 x 0 (mkS n z L (stM i p true 0) l) = some ((), mkS n z L (stM i p true 0) l) := by
    intro x
    have z0 : nI p + (0 : Int32) = nI p := nI_add p 0
    simp only [f_X11_medals_b220, mI, mL, mZ, msI, msL, mN1020, gC1, mR1_0, mR1_1, mR1_2, mR1_3, mR1_4, mR1_5, mR1_6, mR1_7, mR1_8, gC2, mR2_6, mR2_7, gC3, mN3, gC4, mN4, gC5, mR5_0, mR5_1, gC6, mN6, gC7, mR7_0, mR7_1, gC8, mR8_0, gC9, mN9, gC10, mR10_0, gC11, mN11, mR11_0, mR11_1, mR11_2, mR11_3, mR11_4, mR11_5, gC12, mR12_0, mR12_1, gC13, mN13, gC14, mN14, gC15, mR15_0, mR15_1, gC16, mN16, gC17, mN17, gC18, mR18_0, mR18_1, gC19, mN19, gC20, mN20, gC21, mR21_0, mR21_1, gC22, mN22, gC23, mN23, gC24, mR24_0, mR24_1, gC25, mN25, gC26, mN26, gC27, mR27_0, mR27_1, gC28, mN28, gC29, mN29, gC30, mR30_0, gC31, mN31, mR31_0, mR31_1, mR31_2, mR31_3, mR31_4, mR31_5, gC32, mR32_0, mR32_1, gC33, mN33, gC34, mN34, gC35, mR35_0, mR35_1, gC36, mN36, gC37, mN37, gC38, mR38_0, mR38_1, gC39, mN39, gC40, mN40, gC41, mR41_0, mR41_1, gC42, mN42, gC43, mN43, gC44, mR44_0, mR44_1, gC45, mN45, gC46, mN46, gC47, mR47_0, mR47_1, gC48, mN48, gC49, mN49, gC50, mR50_0, mR50_1, mR50_2, mR50_3, gC51, mN51, gC52, mN52, gC53, mN53, gC54, mN54, gC55, gC56, gC57, mR57_2, mR57_3, mR57_6, mR57_7, mR57_8, mR57_9, mR57_10, mR57_11, mR57_12, mR57_13, mR57_14, mR57_15, mR57_16, mR57_18, mR57_19, mR57_20, mR57_21, mR57_22, mR57_23, mR57_25, mR57_26, mR57_27, mR57_28, mR57_37, mR57_40, mR57_41, mR57_43, mR57_44, mR57_48, mR57_49, gC58, mN58, gC59, mN59, gC60, mN60, gC61, mN61, gC62, mN62, gC63, mN63, gC64, mN64, gC65, mN65, gC66, mN66, gC67, mN67, gC68, mN68, gC69, mN69, gC70, mN70, gC71, mN71, gC72, mN72, gC73, mN73, gC74, mN74, gC75, mN75, gC76, mN76, gC77, mN77, gC78, mN78, gC79, mN79, gC80, mN80, gC81, mN81, gC82, mN82, gC83, mN83, gC84, mN84, gC85, mN85, gC86, mN86, gC87, mN87, eq_self, if_true, stM_45, lt1E, z0, stM_p, f_X11_medals_l28_s]
  simp only [f_X11_medals_b138, mI, mL, mZ, msI, msL, mN1020, gC1, mR1_0, mR1_1, mR1_2, mR1_3, mR1_4, mR1_5, mR1_6, mR1_7, mR1_8, gC2, mR2_6, mR2_7, gC3, mN3, gC4, mN4, gC5, mR5_0, mR5_1, gC6, mN6, gC7, mR7_0, mR7_1, gC8, mR8_0, gC9, mN9, gC10, mR10_0, gC11, mN11, mR11_0, mR11_1, mR11_2, mR11_3, mR11_4, mR11_5, gC12, mR12_0, mR12_1, gC13, mN13, gC14, mN14, gC15, mR15_0, mR15_1, gC16, mN16, gC17, mN17, gC18, mR18_0, mR18_1, gC19, mN19, gC20, mN20, gC21, mR21_0, mR21_1, gC22, mN22, gC23, mN23, gC24, mR24_0, mR24_1, gC25, mN25, gC26, mN26, gC27, mR27_0, mR27_1, gC28, mN28, gC29, mN29, gC30, mR30_0, gC31, mN31, mR31_0, mR31_1, mR31_2, mR31_3, mR31_4, mR31_5, gC32, mR32_0, mR32_1, gC33, mN33, gC34, mN34, gC35, mR35_0, mR35_1, gC36, mN36, gC37, mN37, gC38, mR38_0, mR38_1, gC39, mN39, gC40, mN40, gC41, mR41_0, mR41_1, gC42, mN42, gC43, mN43, gC44, mR44_0, mR44_1, gC45, mN45, gC46, mN46, gC47, mR47_0, mR47_1, gC48, mN48, gC49, mN49, gC50, mR50_0, mR50_1, mR50_2, mR50_3, gC51, mN51, gC52, mN52, gC53, mN53, gC54, mN54, gC55, gC56, gC57, mR57_2, mR57_3, mR57_6, mR57_7, mR57_8, mR57_9, mR57_10, mR57_11, mR57_12, mR57_13, mR57_14, mR57_15, mR57_16, mR57_18, mR57_19, mR57_20, mR57_21, mR57_22, mR57_23, mR57_25, mR57_26, mR57_27, mR57_28, mR57_37, mR57_40, mR57_41, mR57_43, mR57_44, mR57_48, mR57_49, gC58, mN58, gC59, mN59, gC60, mN60, gC61, mN61, gC62, mN62, gC63, mN63, gC64, mN64, gC65, mN65, gC66, mN66, gC67, mN67, gC68, mN68, gC69, mN69, gC70, mN70, gC71, mN71, gC72, mN72, gC73, mN73, gC74, mN74, gC75, mN75, gC76, mN76, gC77, mN77, gC78, mN78, gC79, mN79, gC80, mN80, gC81, mN81, gC82, mN82, gC83, mN83, gC84, mN84, gC85, mN85, gC86, mN86, gC87, mN87, must_w, numM_w, bdS, stM_46]
  rw [if_neg (by decide)]
  simp only [f_X11_medals_b187, mI, mL, mZ, msI, msL, mN1020, gC1, mR1_0, mR1_1, mR1_2, mR1_3, mR1_4, mR1_5, mR1_6, mR1_7, mR1_8, gC2, mR2_6, mR2_7, gC3, mN3, gC4, mN4, gC5, mR5_0, mR5_1, gC6, mN6, gC7, mR7_0, mR7_1, gC8, mR8_0, gC9, mN9, gC10, mR10_0, gC11, mN11, mR11_0, mR11_1, mR11_2, mR11_3, mR11_4, mR11_5, gC12, mR12_0, mR12_1, gC13, mN13, gC14, mN14, gC15, mR15_0, mR15_1, gC16, mN16, gC17, mN17, gC18, mR18_0, mR18_1, gC19, mN19, gC20, mN20, gC21, mR21_0, mR21_1, gC22, mN22, gC23, mN23, gC24, mR24_0, mR24_1, gC25, mN25, gC26, mN26, gC27, mR27_0, mR27_1, gC28, mN28, gC29, mN29, gC30, mR30_0, gC31, mN31, mR31_0, mR31_1, mR31_2, mR31_3, mR31_4, mR31_5, gC32, mR32_0, mR32_1, gC33, mN33, gC34, mN34, gC35, mR35_0, mR35_1, gC36, mN36, gC37, mN37, gC38, mR38_0, mR38_1, gC39, mN39, gC40, mN40, gC41, mR41_0, mR41_1, gC42, mN42, gC43, mN43, gC44, mR44_0, mR44_1, gC45, mN45, gC46, mN46, gC47, mR47_0, mR47_1, gC48, mN48, gC49, mN49, gC50, mR50_0, mR50_1, mR50_2, mR50_3, gC51, mN51, gC52, mN52, gC53, mN53, gC54, mN54, gC55, gC56, gC57, mR57_2, mR57_3, mR57_6, mR57_7, mR57_8, mR57_9, mR57_10, mR57_11, mR57_12, mR57_13, mR57_14, mR57_15, mR57_16, mR57_18, mR57_19, mR57_20, mR57_21, mR57_22, mR57_23, mR57_25, mR57_26, mR57_27, mR57_28, mR57_37, mR57_40, mR57_41, mR57_43, mR57_44, mR57_48, mR57_49, gC58, mN58, gC59, mN59, gC60, mN60, gC61, mN61, gC62, mN62, gC63, mN63, gC64, mN64, gC65, mN65, gC66, mN66, gC67, mN67, gC68, mN68, gC69, mN69, gC70, mN70, gC71, mN71, gC72, mN72, gC73, mN73, gC74, mN74, gC75, mN75, gC76, mN76, gC77, mN77, gC78, mN78, gC79, mN79, gC80, mN80, gC81, mN81, gC82, mN82, gC83, mN83, gC84, mN84, gC85, mN85, gC86, mN86, gC87, mN87, stM_46, fin]
  rw [if_neg (show ¬ bI true = 0 by decide)]
  split <;> rfl
theorem at4 (hT : TM T b i) {p : Nat} (hp : p ≤ T) (td : Int32) (f : Unit → xSt → Option (Unit × xSt)) : bd (f_X11_must 57 (32 : Int32) (mkS n z L (stM i p false td) l)) (fun _ w34 => bd (f_X11_must 57 (97 : Int32) w34) fun _ w37 => bd (f_X11_must 57 (116 : Int32) w37) fun _ w40 => bd (f_X11_must 57 (32 : Int32) w40) f) = f () (mkS n z L (stM i (wrd (tpF2 T b) 3 4 0 p).2 (!(wrd (tpF2 T b) 3 4 0 p).1) td) l) := by
  have lt : ∀ q c, c < 256 → tpF2 T b q = c → q < T := fun q c hc e => by
    refine Classical.byContradiction (fun r => ?_)
    unfold tpF2 at e
    rw [if_neg r] at e
    omega
  have w : wrd (tpF2 T b) 3 4 0 p = if tpF2 T b p = 32 then (if tpF2 T b (p + 1) = 97 then (if tpF2 T b (p + 2) = 116 then (if tpF2 T b (p + 3) = 32 then (true, p + 4) else (false, p + 3)) else (false, p + 2)) else (false, p + 1)) else (false, p) := rfl
  rw [w, must_E hT hp (show 32 < 256 by decide) (show (32 : Int32) = nI 32 from rfl)]
  by_cases e1 : tpF2 T b p = 32
  · have h1 := lt _ _ (by decide) e1
    rw [if_pos e1, if_pos e1, bdS, must_E hT (show p + 1 ≤ T by omega) (show 97 < 256 by decide) (show (97 : Int32) = nI 97 from rfl)]
    by_cases e2 : tpF2 T b (p + 1) = 97
    · have h2 := lt _ _ (by decide) e2
      rw [if_pos e2, if_pos e2, bdS, must_E hT (show p + 1 + 1 ≤ T by omega) (show 116 < 256 by decide) (show (116 : Int32) = nI 116 from rfl)]
      by_cases e3 : tpF2 T b (p + 2) = 116
      · have h3 := lt _ _ (by decide) e3
        rw [if_pos e3, if_pos e3, bdS, must_E hT (show p + 1 + 1 + 1 ≤ T by omega) (show 32 < 256 by decide) (show (32 : Int32) = nI 32 from rfl)]
        by_cases e4 : tpF2 T b (p + 3) = 32
        · rw [if_pos e4, if_pos e4, bdS]; rfl
        · rw [if_neg e4, if_neg e4, bdS]; rfl
      · rw [if_neg e3, if_neg e3, bdS, must_w, bdS]; rfl
    · rw [if_neg e2, if_neg e2, bdS, must_w, bdS, must_w, bdS]; rfl
  · rw [if_neg e1, if_neg e1, bdS, must_w, bdS, must_w, bdS, must_w, bdS]; rfl
end MEDALS
