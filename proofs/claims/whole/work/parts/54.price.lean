section PRICE
variable {C R n z L : Nat} {i j : fI} {l : fL}
/-! the price -/
def adN (x y : Nat) : Nat := if y ≤ x then x - y else y - x
def dst (C a b : Nat) : Nat := adN (a % C) (b % C) + adN (a / C) (b / C)
def tie (i : fI) (s t : Nat) : Nat := (if i 62 s = i 62 t then 1 else 0) + (if i 61 s = i 61 t then 1 else 0)
def pw (C : Nat) (i : fI) (s t : Nat) : Nat := if laB i s = true ∧ laB i t = true then dst C (atN i s) (atN i t) * tie i s t else 0
def prc (C : Nat) (i : fI) (n : Nat) : Nat := fb_sm (fun s => fb_sm (fun t => pw C i s t) s) n
def shr (C : Nat) (i : fI) (s a : Nat) (n : Nat) : Nat := fb_sm (fun t => if t = s then 0 else if laB i t = true then dst C a (atN i t) * tie i s t else 0) n
theorem adN_sym (x y : Nat) : adN x y = adN y x := by unfold adN; split <;> split <;> omega
theorem dst_sym (C a b : Nat) : dst C a b = dst C b a := by unfold dst; rw [adN_sym, adN_sym (a / C)]
theorem tie_sym (i : fI) (s t : Nat) : tie i s t = tie i t s := by
  unfold tie
  by_cases a : i 62 s = i 62 t
  · by_cases b : i 61 s = i 61 t
    · rw [if_pos a, if_pos a.symm, if_pos b, if_pos b.symm]
    · rw [if_pos a, if_pos a.symm, if_neg b, if_neg (show ¬ i 61 t = i 61 s from fun h => b h.symm)]
  · by_cases b : i 61 s = i 61 t
    · rw [if_neg a, if_neg (show ¬ i 62 t = i 62 s from fun h => a h.symm), if_pos b, if_pos b.symm]
    · rw [if_neg a, if_neg (show ¬ i 62 t = i 62 s from fun h => a h.symm), if_neg b, if_neg (show ¬ i 61 t = i 61 s from fun h => b h.symm)]
theorem pw_sym (C : Nat) (i : fI) (s t : Nat) : pw C i s t = pw C i t s := by
  unfold pw
  rw [dst_sym, tie_sym]
  by_cases h : laB i s = true ∧ laB i t = true
  · rw [if_pos h, if_pos ⟨h.2, h.1⟩]
  · rw [if_neg h, if_neg (fun q => h ⟨q.2, q.1⟩)]
theorem tie_le (i : fI) (s t : Nat) : tie i s t ≤ 2 := by unfold tie; split <;> split <;> omega
theorem dst_le (C : Nat) {a b : Nat} (ha : a < 64) (hb : b < 64) : dst C a b ≤ 256 := by
  have h1 := Nat.mod_le a C
  have h2 := Nat.mod_le b C
  have h3 : a / C ≤ a := Nat.div_le_self _ _
  have h4 : b / C ≤ b := Nat.div_le_self _ _
  have h5 := Nat.zero_le (a / C)
  have h6 := Nat.zero_le (b / C)
  have g : ∀ x y, x < 64 → y < 64 → adN x y ≤ 64 := by intro x y hx hy; unfold adN; split <;> omega
  unfold dst
  have := g (a % C) (b % C) (by omega) (by omega)
  have := g (a / C) (b / C) (by omega) (by omega)
  omega
theorem dt_le (C : Nat) (i : fI) (s t : Nat) {a b : Nat} (ha : a < 64) (hb : b < 64) : dst C a b * tie i s t ≤ 512 := by
  have h1 := dst_le C ha hb
  have h2 := tie_le i s t
  have := Nat.mul_le_mul h1 h2
  omega
theorem shr_le (hD : RelD C R z i) (hV : RelV C R z n i) {s a k : Nat} (ha : a < z) (hk : k ≤ n) : shr C i s a k ≤ k * 512 := by
  have hz := zlt hD
  refine fb_sm_bound (fun t ht => ?_)
  show (if t = s then 0 else if laB i t = true then dst C a (atN i t) * tie i s t else 0) ≤ 512
  split
  · omega
  · split
    · rename_i h
      exact dt_le C i s t (by omega) (by have := (atN_E hD hV (show t < n by omega) (laB_t.mp h)).2.1; omega)
    · omega
theorem pw_le (hD : RelD C R z i) (hV : RelV C R z n i) {s t : Nat} (hs : s < n) (ht : t < n) : pw C i s t ≤ 512 := by
  have hz := zlt hD
  unfold pw
  split
  · rename_i h
    exact dt_le C i s t (by have := (atN_E hD hV hs (laB_t.mp h.1)).2.1; omega) (by have := (atN_E hD hV ht (laB_t.mp h.2)).2.1; omega)
  · omega
theorem prc_le (hD : RelD C R z i) (hV : RelV C R z n i) (h9 : n ≤ 9) {k : Nat} (hk : k ≤ n) : prc C i k ≤ k * (9 * 512) := by
  refine fb_sm_bound (fun s hs => ?_)
  have : fb_sm (fun t => pw C i s t) s ≤ s * 512 := fb_sm_bound (fun t ht => pw_le hD hV (by omega) (by omega))
  have : s * 512 ≤ 9 * 512 := Nat.mul_le_mul_right _ (by omega)
  show fb_sm (fun t => pw C i s t) s ≤ 9 * 512
  exact Nat.le_trans ‹_› ‹_›
/-- all pairs with s -/
def shw (C : Nat) (i : fI) (s n : Nat) : Nat := fb_sm (fun t => if t = s then 0 else pw C i s t) n
theorem twice_E (C : Nat) (i : fI) : ∀ n, fb_sm (fun s => shw C i s n) n = 2 * prc C i n
  | 0 => rfl
  | n + 1 => by
    have ih := twice_E C i n
    have e1 : fb_sm (fun s => shw C i s (n + 1)) n = fb_sm (fun s => shw C i s n + pw C i s n) n := fb_sm_cong (fun s hs => by
      show fb_sm _ (n + 1) = _
      rw [fb_sm_succ]
      show _ + (if n = s then 0 else pw C i s n) = _
      rw [if_neg (by omega)]
      rfl)
    have e2 : shw C i n (n + 1) = fb_sm (fun t => pw C i n t) n := by
      show fb_sm _ (n + 1) = _
      rw [fb_sm_succ]
      show _ + (if n = n then 0 else pw C i n n) = _
      rw [if_pos rfl, Nat.add_zero]
      exact fb_sm_cong (fun t ht => if_neg (by omega))
    have e3 : fb_sm (fun s => pw C i s n) n = fb_sm (fun t => pw C i n t) n := fb_sm_cong (fun t _ => pw_sym C i t n)
    rw [fb_sm_succ, e1, e2, fb_sm_add, ih, e3]
    show _ = 2 * (prc C i n + fb_sm (fun t => pw C i n t) n)
    omega
theorem split_E (C : Nat) (i : fI) (s : Nat) : ∀ k, prc C i (s + 1 + k) = fb_sm (fun a => fb_sm (fun b => if a = s ∨ b = s then 0 else pw C i a b) a) (s + 1 + k) + shw C i s (s + 1 + k)
  | 0 => by
    show prc C i (s + 1) = fb_sm _ (s + 1) + fb_sm _ (s + 1)
    unfold prc
    rw [fb_sm_succ, fb_sm_succ, fb_sm_succ]
    have e1 : fb_sm (fun b => if s = s ∨ b = s then 0 else pw C i s b) s = 0 := by
      rw [fb_sm_cong (g := fun _ => 0) (fun k _ => if_pos (Or.inl rfl)), fb_sm_const]
      omega
    have e2 : fb_sm (fun a => fb_sm (fun b => if a = s ∨ b = s then 0 else pw C i a b) a) s = fb_sm (fun a => fb_sm (fun t => pw C i a t) a) s := fb_sm_cong (fun a ha => fb_sm_cong (fun b hb => if_neg (by omega)))
    have e3 : fb_sm (fun t => if t = s then 0 else pw C i s t) s = fb_sm (fun t => pw C i s t) s := fb_sm_cong (fun t ht => if_neg (by omega))
    simp only [if_true] at *
    omega
  | k + 1 => by
    have ih := split_E C i s k
    rw [show s + 1 + (k + 1) = (s + 1 + k) + 1 by omega]
    show prc C i (s + 1 + k) + fb_sm (fun t => pw C i (s + 1 + k) t) (s + 1 + k) = fb_sm _ (s + 1 + k + 1) + (shw C i s (s + 1 + k) + (if s + 1 + k = s then 0 else pw C i s (s + 1 + k)))
    rw [fb_sm_succ, if_neg (by omega)]
    have e1 := fb_sm_upd (fun t => pw C i (s + 1 + k) t) 0 (show s < s + 1 + k by omega)
    have e2 : fb_sm (fun b => if s + 1 + k = s ∨ b = s then 0 else pw C i (s + 1 + k) b) (s + 1 + k) = fb_sm (fun b => if b = s then 0 else pw C i (s + 1 + k) b) (s + 1 + k) := fb_sm_cong (fun b _ => by
      have : (s + 1 + k = s ∨ b = s) = (b = s) := propext ⟨fun h => h.elim (fun h => by omega) id, Or.inr⟩
      simp only [this])
    have e3 := pw_sym C i (s + 1 + k) s
    omega
theorem shw_shr {s : Nat} (h : laB i s = true) (n : Nat) : shw C i s n = shr C i s (atN i s) n := fb_sm_cong (fun t _ => by
  show (if t = s then 0 else pw C i s t) = if t = s then 0 else _
  by_cases q : t = s
  · rw [if_pos q, if_pos q]
  · rw [if_neg q, if_neg q]
    unfold pw
    by_cases r : laB i t = true
    · rw [if_pos ⟨h, r⟩, if_pos r]
    · rw [if_neg (fun x => r x.2), if_neg r])
theorem shw_0 {s : Nat} (h : ¬ laB i s = true) (n : Nat) : shw C i s n = 0 := by
  have : shw C i s n = fb_sm (fun _ => 0) n := fb_sm_cong (fun t _ => by
    show (if t = s then 0 else pw C i s t) = 0
    split
    · rfl
    · exact if_neg (fun x => h x.1))
  rw [this, fb_sm_const]
  omega
/-- a move changes the price by the share alone -/
theorem move_E {s : Nat} (hs : s < n) (hl : laB i s = true) {c : Nat} (hc : c < 2 ^ 31) {j : fI} (hj : j 66 s = nI c) (ho : ∀ t, t ≠ s → j 66 t = i 66 t) (h1 : ∀ t, j 61 t = i 61 t) (h2 : ∀ t, j 62 t = i 62 t) : prc C j n + shr C i s (atN i s) n = prc C i n + shr C i s c n := by
  obtain ⟨k, rfl⟩ : ∃ k, n = s + 1 + k := ⟨n - s - 1, by omega⟩
  have hlj : laB j s = true := by
    rw [laB_t, hj]
    exact nI_m1 hc
  have hat : atN j s = c := by unfold atN; rw [hj, nI_clamp hc]
  have tj : ∀ a b, tie j a b = tie i a b := by intro a b; unfold tie; simp only [h1, h2]
  have lj : ∀ t, t ≠ s → laB j t = laB i t := by intro t ht; unfold laB; rw [ho t ht]
  have aj : ∀ t, t ≠ s → atN j t = atN i t := by intro t ht; unfold atN; rw [ho t ht]
  have a1 := split_E C i s k
  have a2 := split_E C j s k
  rw [shw_shr hl] at a1
  rw [shw_shr hlj, hat] at a2
  have b1 : fb_sm (fun a => fb_sm (fun b => if a = s ∨ b = s then 0 else pw C j a b) a) (s + 1 + k) = fb_sm (fun a => fb_sm (fun b => if a = s ∨ b = s then 0 else pw C i a b) a) (s + 1 + k) := fb_sm_cong (fun a _ => fb_sm_cong (fun b _ => by
    by_cases q : a = s ∨ b = s
    · rw [if_pos q, if_pos q]
    · rw [if_neg q, if_neg q]
      have q1 : a ≠ s := fun r => q (Or.inl r)
      have q2 : b ≠ s := fun r => q (Or.inr r)
      unfold pw
      rw [lj a q1, lj b q2, aj a q1, aj b q2, tj]))
  have b2 : shr C j s c (s + 1 + k) = shr C i s c (s + 1 + k) := fb_sm_cong (fun t _ => by
    show (if t = s then 0 else if laB j t = true then dst C c (atN j t) * tie j s t else 0) = if t = s then 0 else if laB i t = true then dst C c (atN i t) * tie i s t else 0
    by_cases q : t = s
    · rw [if_pos q, if_pos q]
    · rw [if_neg q, if_neg q, lj t q, aj t q, tj])
  omega
/-! the machine's sums -/
theorem abs_E {x y : Nat} (hx : x < 1000) (hy : y < 1000) (w : xSt) : f_J9_abs_0f7a4 (nI x - nI y) w = some (nI (adN x y), w) := by
  unfold f_J9_abs_0f7a4 adN
  by_cases q : y ≤ x
  · rw [if_pos q, pk_sub q, if_pos (nI_pos' (by omega))]
  · rw [if_neg q]
    have e1 := nI_toInt (show x < 2 ^ 31 by omega)
    have e2 := nI_toInt (show y < 2 ^ 31 by omega)
    have s1 : (nI x - nI y).toInt = (x : Int) - y := by rw [fb_subI (by omega) (by omega), e1, e2]
    rw [if_neg (by rw [Int32.le_iff_toInt_le, s1, show (0 : Int32).toInt = 0 from rfl]; omega)]
    congr 2
    apply Int32.toInt_inj.mp
    rw [fb_negI (by rw [s1]; omega), s1, nI_toInt (by omega)]
    omega
theorem apart_E {x y : Nat} (hx : x < 1000) (hy : y < 1000) (w : xSt) : f_X11_apart (nI x) (nI y) w = some (nI (adN x y), w) := by
  unfold f_X11_apart adN
  by_cases q : y ≤ x
  · rw [if_pos q, if_pos ((nI_leI (by omega) (by omega)).mpr q), pk_sub q]
  · rw [if_neg q, if_neg (fun r => q ((nI_leI (by omega) (by omega)).mp r)), pk_sub (by omega)]
theorem distance_E (hD : RelD C R z i) {a b : Nat} (ha : a < z) (hb : b < z) : f_X5_distance 5 (nI a) (nI b) (mkS n z L i l) = some (nI (dst C a b), mkS n z L i l) := by
  have hz := zlt hD
  have h1 := Nat.mod_le a C
  have h2 := Nat.mod_le b C
  have h3 : a / C ≤ a := Nat.div_le_self _ _
  have h4 : b / C ≤ b := Nat.div_le_self _ _
  have h5 := Nat.zero_le (a / C)
  have h6 := Nat.zero_le (b / C)
  simp only [f_X5_distance, mI, mL, mZ, msI, msL, mN1020, gC1, mR1_0, mR1_1, mR1_2, mR1_3, mR1_4, mR1_5, mR1_6, mR1_7, mR1_8, gC2, mR2_6, mR2_7, gC3, mN3, gC4, mN4, gC5, mR5_0, mR5_1, gC6, mN6, gC7, mR7_0, mR7_1, gC8, mR8_0, gC9, mN9, gC10, mR10_0, gC11, mN11, mR11_0, mR11_1, mR11_2, mR11_3, mR11_4, mR11_5, gC12, mR12_0, mR12_1, gC13, mN13, gC14, mN14, gC15, mR15_0, mR15_1, gC16, mN16, gC17, mN17, gC18, mR18_0, mR18_1, gC19, mN19, gC20, mN20, gC21, mR21_0, mR21_1, gC22, mN22, gC23, mN23, gC24, mR24_0, mR24_1, gC25, mN25, gC26, mN26, gC27, mR27_0, mR27_1, gC28, mN28, gC29, mN29, gC30, mR30_0, gC31, mN31, mR31_0, mR31_1, mR31_2, mR31_3, mR31_4, mR31_5, gC32, mR32_0, mR32_1, gC33, mN33, gC34, mN34, gC35, mR35_0, mR35_1, gC36, mN36, gC37, mN37, gC38, mR38_0, mR38_1, gC39, mN39, gC40, mN40, gC41, mR41_0, mR41_1, gC42, mN42, gC43, mN43, gC44, mR44_0, mR44_1, gC45, mN45, gC46, mN46, gC47, mR47_0, mR47_1, gC48, mN48, gC49, mN49, gC50, mR50_0, mR50_1, mR50_2, mR50_3, gC51, mN51, gC52, mN52, gC53, mN53, gC54, mN54, gC55, gC56, gC57, mR57_2, mR57_3, mR57_6, mR57_7, mR57_8, mR57_9, mR57_10, mR57_11, mR57_12, mR57_13, mR57_14, mR57_15, mR57_16, mR57_18, mR57_19, mR57_20, mR57_21, mR57_22, mR57_23, mR57_25, mR57_26, mR57_27, mR57_28, mR57_37, mR57_40, mR57_41, mR57_43, mR57_44, mR57_48, mR57_49, gC58, mN58, gC59, mN59, gC60, mN60, gC61, mN61, gC62, mN62, gC63, mN63, gC64, mN64, gC65, mN65, gC66, mN66, gC67, mN67, gC68, mN68, gC69, mN69, gC70, mN70, gC71, mN71, gC72, mN72, gC73, mN73, gC74, mN74, gC75, mN75, gC76, mN76, gC77, mN77, gC78, mN78, gC79, mN79, gC80, mN80, gC81, mN81, gC82, mN82, gC83, mN83, gC84, mN84, gC85, mN85, gC86, mN86, gC87, mN87, col_E hD ha, col_E hD hb, line_E hD ha, line_E hD hb, bdS, abs_E (show a % C < 1000 by omega) (show b % C < 1000 by omega), abs_E (show a / C < 1000 by omega) (show b / C < 1000 by omega), nI_add]
  rfl
theorem ties_E (hF : RelF2 n i j) {s t : Nat} (hs : s < n) (ht : t < n) : f_X6_tiesTo (88 + s) (88 + t) (mkS n z L i l) = some (nI (tie j s t), mkS n z L i l) := by
  obtain ⟨s0, s1, s2, s3, s4, s5, s6, s8, s9, s10⟩ := hF s hs
  obtain ⟨t0, t1, t2, t3, t4, t5, t6, t8, t9, t10⟩ := hF t ht
  simp only [f_X6_tiesTo, f_X6_tiesTo_b16, gCS hs, gCS ht, mI, s1, s2, t1, t2]
  unfold tie
  by_cases q1 : j 62 s = j 62 t
  · rw [if_pos q1, if_pos q1]
    by_cases q2 : j 61 s = j 61 t
    · rw [if_pos q2, if_pos q2]; rfl
    · rw [if_neg q2, if_neg q2]; rfl
  · rw [if_neg q1, if_neg q1]
    by_cases q2 : j 61 s = j 61 t
    · rw [if_pos q2, if_pos q2]; rfl
    · rw [if_neg q2, if_neg q2]; rfl
theorem share_E (hD : RelD C R z i) (hDj : RelD C R z j) (hN : RelN n i) (hF : RelF2 n i j) (hV : RelV C R z n j) {s a : Nat} (hs : s < n) (ha : a < z) : f_X5_shareAt 5 (88 + s) (nI a) (mkS n z L i l) = some (nI (shr C j s a n), mkS n z L i l) := by
  have h9 := hN.1
  unfold f_X5_shareAt
  refine acc_loop (fun m x t w => f_X5_shareAt_l5 m 5 (88 + s) (nI a) x t w) (fun t => nI (shr C j s a t)) (fun _ => mkS n z L i l) n _ ?_ ?_ n 0 xFu (by omega) (by unfold xFu; omega)
  · intro m
    show f_X5_shareAt_l5 (m + 1) 5 _ _ _ (nI n) _ = _
    rw [f_X5_shareAt_l5_s]
    simp only [mI, mL, mZ, msI, msL, mN1020, gC1, mR1_0, mR1_1, mR1_2, mR1_3, mR1_4, mR1_5, mR1_6, mR1_7, mR1_8, gC2, mR2_6, mR2_7, gC3, mN3, gC4, mN4, gC5, mR5_0, mR5_1, gC6, mN6, gC7, mR7_0, mR7_1, gC8, mR8_0, gC9, mN9, gC10, mR10_0, gC11, mN11, mR11_0, mR11_1, mR11_2, mR11_3, mR11_4, mR11_5, gC12, mR12_0, mR12_1, gC13, mN13, gC14, mN14, gC15, mR15_0, mR15_1, gC16, mN16, gC17, mN17, gC18, mR18_0, mR18_1, gC19, mN19, gC20, mN20, gC21, mR21_0, mR21_1, gC22, mN22, gC23, mN23, gC24, mR24_0, mR24_1, gC25, mN25, gC26, mN26, gC27, mR27_0, mR27_1, gC28, mN28, gC29, mN29, gC30, mR30_0, gC31, mN31, mR31_0, mR31_1, mR31_2, mR31_3, mR31_4, mR31_5, gC32, mR32_0, mR32_1, gC33, mN33, gC34, mN34, gC35, mR35_0, mR35_1, gC36, mN36, gC37, mN37, gC38, mR38_0, mR38_1, gC39, mN39, gC40, mN40, gC41, mR41_0, mR41_1, gC42, mN42, gC43, mN43, gC44, mR44_0, mR44_1, gC45, mN45, gC46, mN46, gC47, mR47_0, mR47_1, gC48, mN48, gC49, mN49, gC50, mR50_0, mR50_1, mR50_2, mR50_3, gC51, mN51, gC52, mN52, gC53, mN53, gC54, mN54, gC55, gC56, gC57, mR57_2, mR57_3, mR57_6, mR57_7, mR57_8, mR57_9, mR57_10, mR57_11, mR57_12, mR57_13, mR57_14, mR57_15, mR57_16, mR57_18, mR57_19, mR57_20, mR57_21, mR57_22, mR57_23, mR57_25, mR57_26, mR57_27, mR57_28, mR57_37, mR57_40, mR57_41, mR57_43, mR57_44, mR57_48, mR57_49, gC58, mN58, gC59, mN59, gC60, mN60, gC61, mN61, gC62, mN62, gC63, mN63, gC64, mN64, gC65, mN65, gC66, mN66, gC67, mN67, gC68, mN68, gC69, mN69, gC70, mN70, gC71, mN71, gC72, mN72, gC73, mN73, gC74, mN74, gC75, mN75, gC76, mN76, gC77, mN77, gC78, mN78, gC79, mN79, gC80, mN80, gC81, mN81, gC82, mN82, gC83, mN83, gC84, mN84, gC85, mN85, gC86, mN86, gC87, mN87, hN.2.1]
    rw [if_pos (Int32.le_refl _)]
  · intro m t ht
    obtain ⟨t0, t1, t2, t3, t4, t5, t6, t8, t9, t10⟩ := hF t ht
    show f_X5_shareAt_l5 (m + 1) 5 _ _ (nI (shr C j s a t)) (nI t) _ = f_X5_shareAt_l5 m 5 _ _ (nI (shr C j s a (t + 1))) (nI (t + 1)) _
    have e : shr C j s a (t + 1) = shr C j s a t + (if t = s then 0 else if laB j t = true then dst C a (atN j t) * tie j s t else 0) := rfl
    rw [f_X5_shareAt_l5_s, e]
    simp only [mI, mL, mZ, msI, msL, mN1020, gC1, mR1_0, mR1_1, mR1_2, mR1_3, mR1_4, mR1_5, mR1_6, mR1_7, mR1_8, gC2, mR2_6, mR2_7, gC3, mN3, gC4, mN4, gC5, mR5_0, mR5_1, gC6, mN6, gC7, mR7_0, mR7_1, gC8, mR8_0, gC9, mN9, gC10, mR10_0, gC11, mN11, mR11_0, mR11_1, mR11_2, mR11_3, mR11_4, mR11_5, gC12, mR12_0, mR12_1, gC13, mN13, gC14, mN14, gC15, mR15_0, mR15_1, gC16, mN16, gC17, mN17, gC18, mR18_0, mR18_1, gC19, mN19, gC20, mN20, gC21, mR21_0, mR21_1, gC22, mN22, gC23, mN23, gC24, mR24_0, mR24_1, gC25, mN25, gC26, mN26, gC27, mR27_0, mR27_1, gC28, mN28, gC29, mN29, gC30, mR30_0, gC31, mN31, mR31_0, mR31_1, mR31_2, mR31_3, mR31_4, mR31_5, gC32, mR32_0, mR32_1, gC33, mN33, gC34, mN34, gC35, mR35_0, mR35_1, gC36, mN36, gC37, mN37, gC38, mR38_0, mR38_1, gC39, mN39, gC40, mN40, gC41, mR41_0, mR41_1, gC42, mN42, gC43, mN43, gC44, mR44_0, mR44_1, gC45, mN45, gC46, mN46, gC47, mR47_0, mR47_1, gC48, mN48, gC49, mN49, gC50, mR50_0, mR50_1, mR50_2, mR50_3, gC51, mN51, gC52, mN52, gC53, mN53, gC54, mN54, gC55, gC56, gC57, mR57_2, mR57_3, mR57_6, mR57_7, mR57_8, mR57_9, mR57_10, mR57_11, mR57_12, mR57_13, mR57_14, mR57_15, mR57_16, mR57_18, mR57_19, mR57_20, mR57_21, mR57_22, mR57_23, mR57_25, mR57_26, mR57_27, mR57_28, mR57_37, mR57_40, mR57_41, mR57_43, mR57_44, mR57_48, mR57_49, gC58, mN58, gC59, mN59, gC60, mN60, gC61, mN61, gC62, mN62, gC63, mN63, gC64, mN64, gC65, mN65, gC66, mN66, gC67, mN67, gC68, mN68, gC69, mN69, gC70, mN70, gC71, mN71, gC72, mN72, gC73, mN73, gC74, mN74, gC75, mN75, gC76, mN76, gC77, mN77, gC78, mN78, gC79, mN79, gC80, mN80, gC81, mN81, gC82, mN82, gC83, mN83, gC84, mN84, gC85, mN85, gC86, mN86, gC87, mN87, hN.2.1, nI_clamp (show t < 2 ^ 31 by omega), gI (show t < 9 by omega) (show 9 < 2 ^ 31 by omega), nI_1, mR6_t ht, gCS ht, X6_isLaid_E ht, gCS hs, bdS, if_b, t6]
    rw [if_neg (nI_ge ht (by omega)), gd_t (by omega), gd_t (by omega)]
    by_cases q1 : t = s
    · rw [if_pos (by omega), if_pos q1]; rfl
    rw [if_neg (by omega), if_neg q1]
    by_cases q2 : j 66 t = -1
    · rw [if_neg (fun r => r q2), if_neg (fun r => laB_t.mp r q2)]; rfl
    · obtain ⟨a1, a2, -, -⟩ := atN_E hDj hV ht q2
      rw [if_pos q2, if_pos (laB_t.mpr q2)]
      simp only [gCS ht, gCS hs, mI, mL, mZ, msI, msL, mN1020, gC1, mR1_0, mR1_1, mR1_2, mR1_3, mR1_4, mR1_5, mR1_6, mR1_7, mR1_8, gC2, mR2_6, mR2_7, gC3, mN3, gC4, mN4, gC5, mR5_0, mR5_1, gC6, mN6, gC7, mR7_0, mR7_1, gC8, mR8_0, gC9, mN9, gC10, mR10_0, gC11, mN11, mR11_0, mR11_1, mR11_2, mR11_3, mR11_4, mR11_5, gC12, mR12_0, mR12_1, gC13, mN13, gC14, mN14, gC15, mR15_0, mR15_1, gC16, mN16, gC17, mN17, gC18, mR18_0, mR18_1, gC19, mN19, gC20, mN20, gC21, mR21_0, mR21_1, gC22, mN22, gC23, mN23, gC24, mR24_0, mR24_1, gC25, mN25, gC26, mN26, gC27, mR27_0, mR27_1, gC28, mN28, gC29, mN29, gC30, mR30_0, gC31, mN31, mR31_0, mR31_1, mR31_2, mR31_3, mR31_4, mR31_5, gC32, mR32_0, mR32_1, gC33, mN33, gC34, mN34, gC35, mR35_0, mR35_1, gC36, mN36, gC37, mN37, gC38, mR38_0, mR38_1, gC39, mN39, gC40, mN40, gC41, mR41_0, mR41_1, gC42, mN42, gC43, mN43, gC44, mR44_0, mR44_1, gC45, mN45, gC46, mN46, gC47, mR47_0, mR47_1, gC48, mN48, gC49, mN49, gC50, mR50_0, mR50_1, mR50_2, mR50_3, gC51, mN51, gC52, mN52, gC53, mN53, gC54, mN54, gC55, gC56, gC57, mR57_2, mR57_3, mR57_6, mR57_7, mR57_8, mR57_9, mR57_10, mR57_11, mR57_12, mR57_13, mR57_14, mR57_15, mR57_16, mR57_18, mR57_19, mR57_20, mR57_21, mR57_22, mR57_23, mR57_25, mR57_26, mR57_27, mR57_28, mR57_37, mR57_40, mR57_41, mR57_43, mR57_44, mR57_48, mR57_49, gC58, mN58, gC59, mN59, gC60, mN60, gC61, mN61, gC62, mN62, gC63, mN63, gC64, mN64, gC65, mN65, gC66, mN66, gC67, mN67, gC68, mN68, gC69, mN69, gC70, mN70, gC71, mN71, gC72, mN72, gC73, mN73, gC74, mN74, gC75, mN75, gC76, mN76, gC77, mN77, gC78, mN78, gC79, mN79, gC80, mN80, gC81, mN81, gC82, mN82, gC83, mN83, gC84, mN84, gC85, mN85, gC86, mN86, gC87, mN87, t6, a1, distance_E hD ha a2, bdS, ties_E hF hs ht, pk_mul, nI_add]
theorem wholePrice_E (hD : RelD C R z i) (hN : RelN n i) (hF : RelF n i) (hV : RelV C R z n i) : f_X5_wholePrice 5 (mkS n z L i l) = some (nI (prc C i n), mkS n z L i l) := by
  have h9 := hN.1
  unfold f_X5_wholePrice
  refine acc_loop (fun m x t w => f_X5_wholePrice_l4 m 5 x t w) (fun t => nI (fb_sm (fun s => shw C i s n) t)) (fun _ => mkS n z L i l) n _ ?_ ?_ n 0 xFu (by omega) (by unfold xFu; omega)
  · intro m
    have hp := prc_le hD hV h9 (Nat.le_refl n)
    have : n * (9 * 512) ≤ 9 * (9 * 512) := Nat.mul_le_mul_right _ h9
    show f_X5_wholePrice_l4 (m + 1) 5 _ (nI n) _ = _
    rw [f_X5_wholePrice_l4_s]
    simp only [mI, mL, mZ, msI, msL, mN1020, gC1, mR1_0, mR1_1, mR1_2, mR1_3, mR1_4, mR1_5, mR1_6, mR1_7, mR1_8, gC2, mR2_6, mR2_7, gC3, mN3, gC4, mN4, gC5, mR5_0, mR5_1, gC6, mN6, gC7, mR7_0, mR7_1, gC8, mR8_0, gC9, mN9, gC10, mR10_0, gC11, mN11, mR11_0, mR11_1, mR11_2, mR11_3, mR11_4, mR11_5, gC12, mR12_0, mR12_1, gC13, mN13, gC14, mN14, gC15, mR15_0, mR15_1, gC16, mN16, gC17, mN17, gC18, mR18_0, mR18_1, gC19, mN19, gC20, mN20, gC21, mR21_0, mR21_1, gC22, mN22, gC23, mN23, gC24, mR24_0, mR24_1, gC25, mN25, gC26, mN26, gC27, mR27_0, mR27_1, gC28, mN28, gC29, mN29, gC30, mR30_0, gC31, mN31, mR31_0, mR31_1, mR31_2, mR31_3, mR31_4, mR31_5, gC32, mR32_0, mR32_1, gC33, mN33, gC34, mN34, gC35, mR35_0, mR35_1, gC36, mN36, gC37, mN37, gC38, mR38_0, mR38_1, gC39, mN39, gC40, mN40, gC41, mR41_0, mR41_1, gC42, mN42, gC43, mN43, gC44, mR44_0, mR44_1, gC45, mN45, gC46, mN46, gC47, mR47_0, mR47_1, gC48, mN48, gC49, mN49, gC50, mR50_0, mR50_1, mR50_2, mR50_3, gC51, mN51, gC52, mN52, gC53, mN53, gC54, mN54, gC55, gC56, gC57, mR57_2, mR57_3, mR57_6, mR57_7, mR57_8, mR57_9, mR57_10, mR57_11, mR57_12, mR57_13, mR57_14, mR57_15, mR57_16, mR57_18, mR57_19, mR57_20, mR57_21, mR57_22, mR57_23, mR57_25, mR57_26, mR57_27, mR57_28, mR57_37, mR57_40, mR57_41, mR57_43, mR57_44, mR57_48, mR57_49, gC58, mN58, gC59, mN59, gC60, mN60, gC61, mN61, gC62, mN62, gC63, mN63, gC64, mN64, gC65, mN65, gC66, mN66, gC67, mN67, gC68, mN68, gC69, mN69, gC70, mN70, gC71, mN71, gC72, mN72, gC73, mN73, gC74, mN74, gC75, mN75, gC76, mN76, gC77, mN77, gC78, mN78, gC79, mN79, gC80, mN80, gC81, mN81, gC82, mN82, gC83, mN83, gC84, mN84, gC85, mN85, gC86, mN86, gC87, mN87, hN.2.1]
    rw [if_pos (Int32.le_refl _), twice_E, show (2 : Int32) = nI 2 from rfl, pk_div (by omega) (by omega) (by omega), Nat.mul_div_cancel_left _ (by omega)]
  · intro m t ht
    obtain ⟨t0, t1, t2, t3, t4, t5, t6, t8, t9, t10⟩ := hF t ht
    show f_X5_wholePrice_l4 (m + 1) 5 (nI (fb_sm (fun s => shw C i s n) t)) (nI t) _ = f_X5_wholePrice_l4 m 5 (nI (fb_sm (fun s => shw C i s n) t + shw C i t n)) (nI (t + 1)) _
    rw [f_X5_wholePrice_l4_s]
    simp only [mI, mL, mZ, msI, msL, mN1020, gC1, mR1_0, mR1_1, mR1_2, mR1_3, mR1_4, mR1_5, mR1_6, mR1_7, mR1_8, gC2, mR2_6, mR2_7, gC3, mN3, gC4, mN4, gC5, mR5_0, mR5_1, gC6, mN6, gC7, mR7_0, mR7_1, gC8, mR8_0, gC9, mN9, gC10, mR10_0, gC11, mN11, mR11_0, mR11_1, mR11_2, mR11_3, mR11_4, mR11_5, gC12, mR12_0, mR12_1, gC13, mN13, gC14, mN14, gC15, mR15_0, mR15_1, gC16, mN16, gC17, mN17, gC18, mR18_0, mR18_1, gC19, mN19, gC20, mN20, gC21, mR21_0, mR21_1, gC22, mN22, gC23, mN23, gC24, mR24_0, mR24_1, gC25, mN25, gC26, mN26, gC27, mR27_0, mR27_1, gC28, mN28, gC29, mN29, gC30, mR30_0, gC31, mN31, mR31_0, mR31_1, mR31_2, mR31_3, mR31_4, mR31_5, gC32, mR32_0, mR32_1, gC33, mN33, gC34, mN34, gC35, mR35_0, mR35_1, gC36, mN36, gC37, mN37, gC38, mR38_0, mR38_1, gC39, mN39, gC40, mN40, gC41, mR41_0, mR41_1, gC42, mN42, gC43, mN43, gC44, mR44_0, mR44_1, gC45, mN45, gC46, mN46, gC47, mR47_0, mR47_1, gC48, mN48, gC49, mN49, gC50, mR50_0, mR50_1, mR50_2, mR50_3, gC51, mN51, gC52, mN52, gC53, mN53, gC54, mN54, gC55, gC56, gC57, mR57_2, mR57_3, mR57_6, mR57_7, mR57_8, mR57_9, mR57_10, mR57_11, mR57_12, mR57_13, mR57_14, mR57_15, mR57_16, mR57_18, mR57_19, mR57_20, mR57_21, mR57_22, mR57_23, mR57_25, mR57_26, mR57_27, mR57_28, mR57_37, mR57_40, mR57_41, mR57_43, mR57_44, mR57_48, mR57_49, gC58, mN58, gC59, mN59, gC60, mN60, gC61, mN61, gC62, mN62, gC63, mN63, gC64, mN64, gC65, mN65, gC66, mN66, gC67, mN67, gC68, mN68, gC69, mN69, gC70, mN70, gC71, mN71, gC72, mN72, gC73, mN73, gC74, mN74, gC75, mN75, gC76, mN76, gC77, mN77, gC78, mN78, gC79, mN79, gC80, mN80, gC81, mN81, gC82, mN82, gC83, mN83, gC84, mN84, gC85, mN85, gC86, mN86, gC87, mN87, hN.2.1, nI_clamp (show t < 2 ^ 31 by omega), gI (show t < 9 by omega) (show 9 < 2 ^ 31 by omega), nI_1, mR6_t ht, gCS ht, X6_isLaid_E ht, bdS, if_b, t6]
    rw [if_neg (nI_ge ht (by omega))]
    by_cases q2 : i 66 t = -1
    · rw [if_neg (fun r => r q2), shw_0 (fun r => laB_t.mp r q2)]; rfl
    · obtain ⟨a1, a2, -, -⟩ := atN_E hD hV ht q2
      rw [if_pos q2, a1, share_E hD hD hN hF hV ht a2, bdS, nI_add, shw_shr (laB_t.mpr q2)]
theorem priced_E (hD : RelD C R z i) (hN : RelN n i) (hV : RelV C R z n i) : f_X11_priced 57 (mkS n z L i l) = some (nI (prc C i n), mkS n z L i l) := by
  have h9 := hN.1
  have hz := zlt hD
  obtain ⟨⟨h1, h2, h3, h4, h5⟩, -, -, -, e1, e2⟩ := id hD
  have hC : ¬ nI C = 0 := nI_ne0 (by omega) (by omega)
  have inner : ∀ (k4 : Nat → Int32 → Int32 → xSt → Option (Int32 × xSt)) (acc s : Nat), s < n → f_X11_priced_l14 k4 xFu 57 (nI acc) (nI s) (nI 0) (mkS n z L i l) = k4 57 (nI (acc + fb_sm (fun t => pw C i s t) s)) (nI (s + 1)) (mkS n z L i l) := by
    intro k4 acc s hs
    refine acc_loop (fun m x t w => f_X11_priced_l14 k4 m 57 x (nI s) t w) (fun t => nI (acc + fb_sm (fun t => pw C i s t) t)) (fun _ => mkS n z L i l) s _ ?_ ?_ s 0 xFu (by omega) (by unfold xFu; omega)
    · intro m
      show f_X11_priced_l14 k4 (m + 1) 57 _ (nI s) (nI s) _ = _
      rw [f_X11_priced_l14_s, if_pos (Int32.le_refl _), nI_1]
    · intro m t ht
      show f_X11_priced_l14 k4 (m + 1) 57 (nI (acc + fb_sm (fun t => pw C i s t) t)) (nI s) (nI t) _ = f_X11_priced_l14 k4 m 57 (nI (acc + (fb_sm (fun t => pw C i s t) t + pw C i s t))) (nI s) (nI (t + 1)) _
      rw [f_X11_priced_l14_s, if_neg (nI_ge ht (by omega))]
      simp only [mI, mL, mZ, msI, msL, mN1020, gC1, mR1_0, mR1_1, mR1_2, mR1_3, mR1_4, mR1_5, mR1_6, mR1_7, mR1_8, gC2, mR2_6, mR2_7, gC3, mN3, gC4, mN4, gC5, mR5_0, mR5_1, gC6, mN6, gC7, mR7_0, mR7_1, gC8, mR8_0, gC9, mN9, gC10, mR10_0, gC11, mN11, mR11_0, mR11_1, mR11_2, mR11_3, mR11_4, mR11_5, gC12, mR12_0, mR12_1, gC13, mN13, gC14, mN14, gC15, mR15_0, mR15_1, gC16, mN16, gC17, mN17, gC18, mR18_0, mR18_1, gC19, mN19, gC20, mN20, gC21, mR21_0, mR21_1, gC22, mN22, gC23, mN23, gC24, mR24_0, mR24_1, gC25, mN25, gC26, mN26, gC27, mR27_0, mR27_1, gC28, mN28, gC29, mN29, gC30, mR30_0, gC31, mN31, mR31_0, mR31_1, mR31_2, mR31_3, mR31_4, mR31_5, gC32, mR32_0, mR32_1, gC33, mN33, gC34, mN34, gC35, mR35_0, mR35_1, gC36, mN36, gC37, mN37, gC38, mR38_0, mR38_1, gC39, mN39, gC40, mN40, gC41, mR41_0, mR41_1, gC42, mN42, gC43, mN43, gC44, mR44_0, mR44_1, gC45, mN45, gC46, mN46, gC47, mR47_0, mR47_1, gC48, mN48, gC49, mN49, gC50, mR50_0, mR50_1, mR50_2, mR50_3, gC51, mN51, gC52, mN52, gC53, mN53, gC54, mN54, gC55, gC56, gC57, mR57_2, mR57_3, mR57_6, mR57_7, mR57_8, mR57_9, mR57_10, mR57_11, mR57_12, mR57_13, mR57_14, mR57_15, mR57_16, mR57_18, mR57_19, mR57_20, mR57_21, mR57_22, mR57_23, mR57_25, mR57_26, mR57_27, mR57_28, mR57_37, mR57_40, mR57_41, mR57_43, mR57_44, mR57_48, mR57_49, gC58, mN58, gC59, mN59, gC60, mN60, gC61, mN61, gC62, mN62, gC63, mN63, gC64, mN64, gC65, mN65, gC66, mN66, gC67, mN67, gC68, mN68, gC69, mN69, gC70, mN70, gC71, mN71, gC72, mN72, gC73, mN73, gC74, mN74, gC75, mN75, gC76, mN76, gC77, mN77, gC78, mN78, gC79, mN79, gC80, mN80, gC81, mN81, gC82, mN82, gC83, mN83, gC84, mN84, gC85, mN85, gC86, mN86, gC87, mN87, nI_clamp (show t < 2 ^ 31 by omega), nI_clamp (show s < 2 ^ 31 by omega), gI (show t < 9 by omega) (show 9 < 2 ^ 31 by omega), gI (show s < 9 by omega) (show 9 < 2 ^ 31 by omega), nI_1]
      unfold pw
      by_cases q1 : i 66 s = -1
      · rw [if_pos q1, if_neg (fun r => laB_t.mp r.1 q1)]; rfl
      rw [if_neg q1]
      by_cases q2 : i 66 t = -1
      · rw [if_pos q2, if_neg (fun r => laB_t.mp r.2 q2)]; rfl
      rw [if_neg q2, if_pos ⟨laB_t.mpr q1, laB_t.mpr q2⟩]
      obtain ⟨a1, a2, -, -⟩ := atN_E hD hV hs q1
      obtain ⟨b1, b2, -, -⟩ := atN_E hD hV (show t < n by omega) q2
      have g1 := Nat.mod_le (atN i s) C
      have g2 := Nat.mod_le (atN i t) C
      have g3 : atN i s / C ≤ atN i s := Nat.div_le_self _ _
      have g4 : atN i t / C ≤ atN i t := Nat.div_le_self _ _
      have g5 := Nat.zero_le (atN i s / C)
      have g6 := Nat.zero_le (atN i t / C)
      simp only [e1, a1, b1, gd_t hC, pk_div (show atN i s < 2 ^ 31 by omega) (show 0 < C by omega) (show C < 2 ^ 31 by omega), pk_div (show atN i t < 2 ^ 31 by omega) (show 0 < C by omega) (show C < 2 ^ 31 by omega), pk_rem' (show atN i s < 2 ^ 31 by omega) (show 0 < C by omega) (show C < 2 ^ 31 by omega), pk_rem' (show atN i t < 2 ^ 31 by omega) (show 0 < C by omega) (show C < 2 ^ 31 by omega), apart_E (show atN i s % C < 1000 by omega) (show atN i t % C < 1000 by omega), apart_E (show atN i s / C < 1000 by omega) (show atN i t / C < 1000 by omega), bdS, mI, mL, mZ, msI, msL, mN1020, gC1, mR1_0, mR1_1, mR1_2, mR1_3, mR1_4, mR1_5, mR1_6, mR1_7, mR1_8, gC2, mR2_6, mR2_7, gC3, mN3, gC4, mN4, gC5, mR5_0, mR5_1, gC6, mN6, gC7, mR7_0, mR7_1, gC8, mR8_0, gC9, mN9, gC10, mR10_0, gC11, mN11, mR11_0, mR11_1, mR11_2, mR11_3, mR11_4, mR11_5, gC12, mR12_0, mR12_1, gC13, mN13, gC14, mN14, gC15, mR15_0, mR15_1, gC16, mN16, gC17, mN17, gC18, mR18_0, mR18_1, gC19, mN19, gC20, mN20, gC21, mR21_0, mR21_1, gC22, mN22, gC23, mN23, gC24, mR24_0, mR24_1, gC25, mN25, gC26, mN26, gC27, mR27_0, mR27_1, gC28, mN28, gC29, mN29, gC30, mR30_0, gC31, mN31, mR31_0, mR31_1, mR31_2, mR31_3, mR31_4, mR31_5, gC32, mR32_0, mR32_1, gC33, mN33, gC34, mN34, gC35, mR35_0, mR35_1, gC36, mN36, gC37, mN37, gC38, mR38_0, mR38_1, gC39, mN39, gC40, mN40, gC41, mR41_0, mR41_1, gC42, mN42, gC43, mN43, gC44, mR44_0, mR44_1, gC45, mN45, gC46, mN46, gC47, mR47_0, mR47_1, gC48, mN48, gC49, mN49, gC50, mR50_0, mR50_1, mR50_2, mR50_3, gC51, mN51, gC52, mN52, gC53, mN53, gC54, mN54, gC55, gC56, gC57, mR57_2, mR57_3, mR57_6, mR57_7, mR57_8, mR57_9, mR57_10, mR57_11, mR57_12, mR57_13, mR57_14, mR57_15, mR57_16, mR57_18, mR57_19, mR57_20, mR57_21, mR57_22, mR57_23, mR57_25, mR57_26, mR57_27, mR57_28, mR57_37, mR57_40, mR57_41, mR57_43, mR57_44, mR57_48, mR57_49, gC58, mN58, gC59, mN59, gC60, mN60, gC61, mN61, gC62, mN62, gC63, mN63, gC64, mN64, gC65, mN65, gC66, mN66, gC67, mN67, gC68, mN68, gC69, mN69, gC70, mN70, gC71, mN71, gC72, mN72, gC73, mN73, gC74, mN74, gC75, mN75, gC76, mN76, gC77, mN77, gC78, mN78, gC79, mN79, gC80, mN80, gC81, mN81, gC82, mN82, gC83, mN83, gC84, mN84, gC85, mN85, gC86, mN86, gC87, mN87, gI (show t < 9 by omega) (show 9 < 2 ^ 31 by omega), gI (show s < 9 by omega) (show 9 < 2 ^ 31 by omega), f_X11_priced_b114, nI_clamp (show t < 2 ^ 31 by omega), nI_clamp (show s < 2 ^ 31 by omega), nI_add, nI_1]
      unfold tie dst
      by_cases r1 : i 62 s = i 62 t
      · by_cases r2 : i 61 s = i 61 t
        · simp only [r1, r2, if_true, nI_add]
          congr 2
          omega
        · simp only [r1, r2, if_true, if_false, nI_add, show (0 : Int32) = nI 0 from rfl]
          congr 2
          omega
      · by_cases r2 : i 61 s = i 61 t
        · simp only [r1, r2, if_true, if_false, nI_add, show (0 : Int32) = nI 0 from rfl]
          congr 2
          omega
        · simp only [r1, r2, if_false, nI_add, show (0 : Int32) = nI 0 from rfl]
          congr 2
  unfold f_X11_priced
  refine acc_loop (fun m x t w => f_X11_priced_l4 m 57 x t w) (fun s => nI (prc C i s)) (fun _ => mkS n z L i l) n _ ?_ ?_ n 0 xFu (by omega) (by unfold xFu; omega)
  · intro m
    show f_X11_priced_l4 (m + 1) 57 _ (nI n) _ = _
    rw [f_X11_priced_l4_s]
    simp only [mI, mL, mZ, msI, msL, mN1020, gC1, mR1_0, mR1_1, mR1_2, mR1_3, mR1_4, mR1_5, mR1_6, mR1_7, mR1_8, gC2, mR2_6, mR2_7, gC3, mN3, gC4, mN4, gC5, mR5_0, mR5_1, gC6, mN6, gC7, mR7_0, mR7_1, gC8, mR8_0, gC9, mN9, gC10, mR10_0, gC11, mN11, mR11_0, mR11_1, mR11_2, mR11_3, mR11_4, mR11_5, gC12, mR12_0, mR12_1, gC13, mN13, gC14, mN14, gC15, mR15_0, mR15_1, gC16, mN16, gC17, mN17, gC18, mR18_0, mR18_1, gC19, mN19, gC20, mN20, gC21, mR21_0, mR21_1, gC22, mN22, gC23, mN23, gC24, mR24_0, mR24_1, gC25, mN25, gC26, mN26, gC27, mR27_0, mR27_1, gC28, mN28, gC29, mN29, gC30, mR30_0, gC31, mN31, mR31_0, mR31_1, mR31_2, mR31_3, mR31_4, mR31_5, gC32, mR32_0, mR32_1, gC33, mN33, gC34, mN34, gC35, mR35_0, mR35_1, gC36, mN36, gC37, mN37, gC38, mR38_0, mR38_1, gC39, mN39, gC40, mN40, gC41, mR41_0, mR41_1, gC42, mN42, gC43, mN43, gC44, mR44_0, mR44_1, gC45, mN45, gC46, mN46, gC47, mR47_0, mR47_1, gC48, mN48, gC49, mN49, gC50, mR50_0, mR50_1, mR50_2, mR50_3, gC51, mN51, gC52, mN52, gC53, mN53, gC54, mN54, gC55, gC56, gC57, mR57_2, mR57_3, mR57_6, mR57_7, mR57_8, mR57_9, mR57_10, mR57_11, mR57_12, mR57_13, mR57_14, mR57_15, mR57_16, mR57_18, mR57_19, mR57_20, mR57_21, mR57_22, mR57_23, mR57_25, mR57_26, mR57_27, mR57_28, mR57_37, mR57_40, mR57_41, mR57_43, mR57_44, mR57_48, mR57_49, gC58, mN58, gC59, mN59, gC60, mN60, gC61, mN61, gC62, mN62, gC63, mN63, gC64, mN64, gC65, mN65, gC66, mN66, gC67, mN67, gC68, mN68, gC69, mN69, gC70, mN70, gC71, mN71, gC72, mN72, gC73, mN73, gC74, mN74, gC75, mN75, gC76, mN76, gC77, mN77, gC78, mN78, gC79, mN79, gC80, mN80, gC81, mN81, gC82, mN82, gC83, mN83, gC84, mN84, gC85, mN85, gC86, mN86, gC87, mN87, hN.2.2]
    rw [if_pos (Int32.le_refl _)]
  · intro m s hs
    show f_X11_priced_l4 (m + 1) 57 _ (nI s) _ = f_X11_priced_l4 m 57 _ (nI (s + 1)) _
    rw [f_X11_priced_l4_s]
    simp only [mI, mL, mZ, msI, msL, mN1020, gC1, mR1_0, mR1_1, mR1_2, mR1_3, mR1_4, mR1_5, mR1_6, mR1_7, mR1_8, gC2, mR2_6, mR2_7, gC3, mN3, gC4, mN4, gC5, mR5_0, mR5_1, gC6, mN6, gC7, mR7_0, mR7_1, gC8, mR8_0, gC9, mN9, gC10, mR10_0, gC11, mN11, mR11_0, mR11_1, mR11_2, mR11_3, mR11_4, mR11_5, gC12, mR12_0, mR12_1, gC13, mN13, gC14, mN14, gC15, mR15_0, mR15_1, gC16, mN16, gC17, mN17, gC18, mR18_0, mR18_1, gC19, mN19, gC20, mN20, gC21, mR21_0, mR21_1, gC22, mN22, gC23, mN23, gC24, mR24_0, mR24_1, gC25, mN25, gC26, mN26, gC27, mR27_0, mR27_1, gC28, mN28, gC29, mN29, gC30, mR30_0, gC31, mN31, mR31_0, mR31_1, mR31_2, mR31_3, mR31_4, mR31_5, gC32, mR32_0, mR32_1, gC33, mN33, gC34, mN34, gC35, mR35_0, mR35_1, gC36, mN36, gC37, mN37, gC38, mR38_0, mR38_1, gC39, mN39, gC40, mN40, gC41, mR41_0, mR41_1, gC42, mN42, gC43, mN43, gC44, mR44_0, mR44_1, gC45, mN45, gC46, mN46, gC47, mR47_0, mR47_1, gC48, mN48, gC49, mN49, gC50, mR50_0, mR50_1, mR50_2, mR50_3, gC51, mN51, gC52, mN52, gC53, mN53, gC54, mN54, gC55, gC56, gC57, mR57_2, mR57_3, mR57_6, mR57_7, mR57_8, mR57_9, mR57_10, mR57_11, mR57_12, mR57_13, mR57_14, mR57_15, mR57_16, mR57_18, mR57_19, mR57_20, mR57_21, mR57_22, mR57_23, mR57_25, mR57_26, mR57_27, mR57_28, mR57_37, mR57_40, mR57_41, mR57_43, mR57_44, mR57_48, mR57_49, gC58, mN58, gC59, mN59, gC60, mN60, gC61, mN61, gC62, mN62, gC63, mN63, gC64, mN64, gC65, mN65, gC66, mN66, gC67, mN67, gC68, mN68, gC69, mN69, gC70, mN70, gC71, mN71, gC72, mN72, gC73, mN73, gC74, mN74, gC75, mN75, gC76, mN76, gC77, mN77, gC78, mN78, gC79, mN79, gC80, mN80, gC81, mN81, gC82, mN82, gC83, mN83, gC84, mN84, gC85, mN85, gC86, mN86, gC87, mN87, hN.2.2]
    rw [if_neg (nI_ge hs (by omega)), show (0 : Int32) = nI 0 from rfl, inner _ _ _ hs]
    rfl
theorem op_price (h : Rel C R n z i l) : OpOK C R n z L (f_X10_price 1) (f_X11_price 57) i l := by
  obtain ⟨hD, hE, hK, hB, hG, hN, hF, hV, hA, hX, hT, hU, hJ, hM, hL, hO, hY, hP⟩ := id h
  refine ⟨nI (prc C i n), mkS n z L i l, n, i, l, ?_, ?_, ⟨_, _, rfl, by repeat first | exact Fr_rfl | refine Fr_u2 ?_ (by unfold sQ; omega)⟩, h⟩
  · simp only [f_X10_price, mI, mL, mZ, msI, msL, mN1020, gC1, mR1_0, mR1_1, mR1_2, mR1_3, mR1_4, mR1_5, mR1_6, mR1_7, mR1_8, gC2, mR2_6, mR2_7, gC3, mN3, gC4, mN4, gC5, mR5_0, mR5_1, gC6, mN6, gC7, mR7_0, mR7_1, gC8, mR8_0, gC9, mN9, gC10, mR10_0, gC11, mN11, mR11_0, mR11_1, mR11_2, mR11_3, mR11_4, mR11_5, gC12, mR12_0, mR12_1, gC13, mN13, gC14, mN14, gC15, mR15_0, mR15_1, gC16, mN16, gC17, mN17, gC18, mR18_0, mR18_1, gC19, mN19, gC20, mN20, gC21, mR21_0, mR21_1, gC22, mN22, gC23, mN23, gC24, mR24_0, mR24_1, gC25, mN25, gC26, mN26, gC27, mR27_0, mR27_1, gC28, mN28, gC29, mN29, gC30, mR30_0, gC31, mN31, mR31_0, mR31_1, mR31_2, mR31_3, mR31_4, mR31_5, gC32, mR32_0, mR32_1, gC33, mN33, gC34, mN34, gC35, mR35_0, mR35_1, gC36, mN36, gC37, mN37, gC38, mR38_0, mR38_1, gC39, mN39, gC40, mN40, gC41, mR41_0, mR41_1, gC42, mN42, gC43, mN43, gC44, mR44_0, mR44_1, gC45, mN45, gC46, mN46, gC47, mR47_0, mR47_1, gC48, mN48, gC49, mN49, gC50, mR50_0, mR50_1, mR50_2, mR50_3, gC51, mN51, gC52, mN52, gC53, mN53, gC54, mN54, gC55, gC56, gC57, mR57_2, mR57_3, mR57_6, mR57_7, mR57_8, mR57_9, mR57_10, mR57_11, mR57_12, mR57_13, mR57_14, mR57_15, mR57_16, mR57_18, mR57_19, mR57_20, mR57_21, mR57_22, mR57_23, mR57_25, mR57_26, mR57_27, mR57_28, mR57_37, mR57_40, mR57_41, mR57_43, mR57_44, mR57_48, mR57_49, gC58, mN58, gC59, mN59, gC60, mN60, gC61, mN61, gC62, mN62, gC63, mN63, gC64, mN64, gC65, mN65, gC66, mN66, gC67, mN67, gC68, mN68, gC69, mN69, gC70, mN70, gC71, mN71, gC72, mN72, gC73, mN73, gC74, mN74, gC75, mN75, gC76, mN76, gC77, mN77, gC78, mN78, gC79, mN79, gC80, mN80, gC81, mN81, gC82, mN82, gC83, mN83, gC84, mN84, gC85, mN85, gC86, mN86, gC87, mN87, wholePrice_E hD hN hF hV, bdS]
  · simp only [f_X11_price, mI, mL, mZ, msI, msL, mN1020, gC1, mR1_0, mR1_1, mR1_2, mR1_3, mR1_4, mR1_5, mR1_6, mR1_7, mR1_8, gC2, mR2_6, mR2_7, gC3, mN3, gC4, mN4, gC5, mR5_0, mR5_1, gC6, mN6, gC7, mR7_0, mR7_1, gC8, mR8_0, gC9, mN9, gC10, mR10_0, gC11, mN11, mR11_0, mR11_1, mR11_2, mR11_3, mR11_4, mR11_5, gC12, mR12_0, mR12_1, gC13, mN13, gC14, mN14, gC15, mR15_0, mR15_1, gC16, mN16, gC17, mN17, gC18, mR18_0, mR18_1, gC19, mN19, gC20, mN20, gC21, mR21_0, mR21_1, gC22, mN22, gC23, mN23, gC24, mR24_0, mR24_1, gC25, mN25, gC26, mN26, gC27, mR27_0, mR27_1, gC28, mN28, gC29, mN29, gC30, mR30_0, gC31, mN31, mR31_0, mR31_1, mR31_2, mR31_3, mR31_4, mR31_5, gC32, mR32_0, mR32_1, gC33, mN33, gC34, mN34, gC35, mR35_0, mR35_1, gC36, mN36, gC37, mN37, gC38, mR38_0, mR38_1, gC39, mN39, gC40, mN40, gC41, mR41_0, mR41_1, gC42, mN42, gC43, mN43, gC44, mR44_0, mR44_1, gC45, mN45, gC46, mN46, gC47, mR47_0, mR47_1, gC48, mN48, gC49, mN49, gC50, mR50_0, mR50_1, mR50_2, mR50_3, gC51, mN51, gC52, mN52, gC53, mN53, gC54, mN54, gC55, gC56, gC57, mR57_2, mR57_3, mR57_6, mR57_7, mR57_8, mR57_9, mR57_10, mR57_11, mR57_12, mR57_13, mR57_14, mR57_15, mR57_16, mR57_18, mR57_19, mR57_20, mR57_21, mR57_22, mR57_23, mR57_25, mR57_26, mR57_27, mR57_28, mR57_37, mR57_40, mR57_41, mR57_43, mR57_44, mR57_48, mR57_49, gC58, mN58, gC59, mN59, gC60, mN60, gC61, mN61, gC62, mN62, gC63, mN63, gC64, mN64, gC65, mN65, gC66, mN66, gC67, mN67, gC68, mN68, gC69, mN69, gC70, mN70, gC71, mN71, gC72, mN72, gC73, mN73, gC74, mN74, gC75, mN75, gC76, mN76, gC77, mN77, gC78, mN78, gC79, mN79, gC80, mN80, gC81, mN81, gC82, mN82, gC83, mN83, gC84, mN84, gC85, mN85, gC86, mN86, gC87, mN87, priced_E hD hN hV, bdS]
end PRICE
