section BFS
variable {C R n z L : Nat} {i : fI} {l : fL}
/-! where one can come in k steps -/
def rch (C z : Nat) (S T : Nat → Bool) : Nat → Nat → Bool
  | 0, c => S c
  | k + 1, c => rch C z S T k c || (T c && exB (fun b => rch C z S T k b && nbB C b c) z)
theorem rch_s (C z : Nat) (S T : Nat → Bool) (k c : Nat) : rch C z S T (k + 1) c = (rch C z S T k c || (T c && exB (fun b => rch C z S T k b && nbB C b c) z)) := rfl
theorem rch_up {S T : Nat → Bool} {k c : Nat} (h : rch C z S T k c = true) : rch C z S T (k + 1) c = true := by rw [rch_s, h]; rfl
theorem rch_le {S T : Nat → Bool} {k c : Nat} (h : rch C z S T k c = true) : ∀ d, rch C z S T (k + d) c = true
  | 0 => h
  | d + 1 => rch_up (rch_le h d)
theorem rch_lt {S T : Nat → Bool} (hS : ∀ c, S c = true → c < z) (hT : ∀ c, T c = true → c < z) : ∀ k c, rch C z S T k c = true → c < z
  | 0, c, h => hS c h
  | k + 1, c, h => by
    rw [rch_s, Bool.or_eq_true, Bool.and_eq_true] at h
    rcases h with h | h
    · exact rch_lt hS hT k c h
    · exact hT c h.1
theorem rch_cong {S T S2 T2 : Nat → Bool} (hS : ∀ c, c < z → S c = S2 c) (hT : ∀ c, c < z → T c = T2 c) : ∀ k c, c < z → rch C z S T k c = rch C z S2 T2 k c
  | 0, c, h => hS c h
  | k + 1, c, h => by
    rw [rch_s, rch_s, rch_cong hS hT k c h, hT c h]
    congr 2
    exact exB_cong (fun b hb => by rw [rch_cong hS hT k b hb])
def stb (C z : Nat) (S T : Nat → Bool) (k : Nat) : Prop := ∀ c, c < z → rch C z S T (k + 1) c = rch C z S T k c
theorem stb_up {S T : Nat → Bool} {k : Nat} (h : stb C z S T k) : ∀ d c, c < z → rch C z S T (k + d) c = rch C z S T k c
  | 0, c, _ => rfl
  | d + 1, c, hc => by
    have ih := stb_up h d
    rw [← h c hc]
    show rch C z S T (k + d + 1) c = _
    rw [rch_s, rch_s, ih c hc]
    congr 2
    exact exB_cong (fun b hb => by rw [ih b hb])
theorem stb_or {S T : Nat → Bool} : ∀ k, (∃ j, j < k ∧ stb C z S T j) ∨ k ≤ fb_ct (rch C z S T k) z
  | 0 => Or.inr (Nat.zero_le _)
  | k + 1 => by
    rcases stb_or (S := S) (T := T) k with ⟨j, h1, h2⟩ | h
    · exact Or.inl ⟨j, by omega, h2⟩
    · by_cases q : stb C z S T k
      · exact Or.inl ⟨k, by omega, q⟩
      · refine Or.inr ?_
        obtain ⟨c, hc⟩ := Classical.not_forall.mp q
        have hc1 : c < z := Classical.byContradiction (fun r => hc (fun s => absurd s r))
        have hc2 : ¬ rch C z S T (k + 1) c = rch C z S T k c := fun r => hc (fun _ => r)
        have k0 : rch C z S T k c = false := by
          cases e : rch C z S T k c with
          | false => rfl
          | true => exact absurd (by rw [rch_up e, e]) hc2
        have k1 : rch C z S T (k + 1) c = true := by
          cases e : rch C z S T (k + 1) c with
          | true => rfl
          | false => exact absurd (by rw [e, k0]) hc2
        have a1 := fb_ct_upd (rch C z S T k) true hc1
        rw [k0] at a1
        have a2 : fb_ct (fun b => if b = c then true else rch C z S T k b) z ≤ fb_ct (rch C z S T (k + 1)) z := fb_ct_sub (fun b _ hb => by
          by_cases e : b = c
          · rw [e]; exact k1
          · rw [if_neg e] at hb
            exact rch_up hb)
        simp only [Bool.false_eq_true, if_false, if_true] at a1
        omega
theorem rch_fix {S T : Nat → Bool} {m c : Nat} (hm : z ≤ m) (hc : c < z) : rch C z S T m c = rch C z S T z c := by
  rcases stb_or (C := C) (z := z) (S := S) (T := T) (z + 1) with ⟨j, h1, h2⟩ | h
  · have a := stb_up h2 (m - j) c hc
    have b := stb_up h2 (z - j) c hc
    rw [show j + (m - j) = m by omega] at a
    rw [show j + (z - j) = z by omega] at b
    rw [a, b]
  · have := fb_ct_le (rch C z S T (z + 1)) z
    omega
/-! the class's spread -/
theorem spread_E (hD : RelD C R z i) (hE : RelE C R z l) {x t : Int64} (hx : ∀ c, bt6 x c = true → c < z) (ht : ∀ c, bt6 t c = true → c < z) {k : Nat} (hk : k < 2 ^ 31) : ∃ v, f_X0_spread 2 x t (nI k) (mkS n z L i l) = some (v, mkS n z L i l) ∧ (∀ c, c < z → bt6 v c = rch C z (bt6 x) (bt6 t) k c) ∧ ∀ c, bt6 v c = true → c < z := by
  have hz := zlt hD
  have loop : ∀ (r q : Nat) (y : Int64) (m : Nat), q + r = min k z → r < m → (∀ c, c < z → bt6 y c = rch C z (bt6 x) (bt6 t) q c) → (∀ c, bt6 y c = true → c < z) → ∃ v, f_X0_spread_l17 m 2 t y (nI (min k z)) (nI q) (mkS n z L i l) = some (v, mkS n z L i l) ∧ (∀ c, c < z → bt6 v c = rch C z (bt6 x) (bt6 t) (min k z) c) ∧ ∀ c, bt6 v c = true → c < z := by
    intro r
    induction r with
    | zero =>
      intro q y m hq hm hy1 hy2
      obtain ⟨m, rfl⟩ : ∃ m', m = m' + 1 := ⟨m - 1, by omega⟩
      have e : q = min k z := by omega
      rw [← e]
      exact ⟨y, by rw [f_X0_spread_l17_s, if_pos (Int32.le_refl _)], hy1, hy2⟩
    | succ r ih =>
      intro q y m hq hm hy1 hy2
      obtain ⟨m, rfl⟩ : ∃ m', m = m' + 1 := ⟨m - 1, by omega⟩
      have hmn : min k z ≤ z := Nat.min_le_right _ _
      obtain ⟨v, v1, v2⟩ := beside_E (n := n) (L := L) hD hE y
      have v3 := v2 hy2
      have wider : ∀ c, c < z → bt6 (y ||| (v &&& t)) c = rch C z (bt6 x) (bt6 t) (q + 1) c := by
        intro c hc
        rw [b6_or, b6_and, hy1 c hc, rch_s]
        congr 1
        rw [Bool.and_comm]
        congr 1
        apply Bool_iff
        rw [v3 c hc, exB_iff]
        constructor
        · rintro ⟨b, b1, b2, b3⟩; exact ⟨b, b1, by rw [← hy1 b b1, b2, b3]; rfl⟩
        · rintro ⟨b, b1, b2⟩
          rw [Bool.and_eq_true, ← hy1 b b1] at b2
          exact ⟨b, b1, b2.1, b2.2⟩
      have wlt : ∀ c, bt6 (y ||| (v &&& t)) c = true → c < z := by
        intro c hc
        rw [b6_or, b6_and, Bool.or_eq_true, Bool.and_eq_true] at hc
        rcases hc with hc | hc
        · exact hy2 c hc
        · exact ht c hc.2
      rw [f_X0_spread_l17_s, if_neg (nI_ge (by omega) (by omega))]
      simp only [mI, mL, mZ, msI, msL, mN1020, gC1, mR1_0, mR1_1, mR1_2, mR1_3, mR1_4, mR1_5, mR1_6, mR1_7, mR1_8, gC2, mR2_6, mR2_7, gC3, mN3, gC4, mN4, gC5, mR5_0, mR5_1, gC6, mN6, gC7, mR7_0, mR7_1, gC8, mR8_0, gC9, mN9, gC10, mR10_0, gC11, mN11, mR11_0, mR11_1, mR11_2, mR11_3, mR11_4, mR11_5, gC12, mR12_0, mR12_1, gC13, mN13, gC14, mN14, gC15, mR15_0, mR15_1, gC16, mN16, gC17, mN17, gC18, mR18_0, mR18_1, gC19, mN19, gC20, mN20, gC21, mR21_0, mR21_1, gC22, mN22, gC23, mN23, gC24, mR24_0, mR24_1, gC25, mN25, gC26, mN26, gC27, mR27_0, mR27_1, gC28, mN28, gC29, mN29, gC30, mR30_0, gC31, mN31, mR31_0, mR31_1, mR31_2, mR31_3, mR31_4, mR31_5, gC32, mR32_0, mR32_1, gC33, mN33, gC34, mN34, gC35, mR35_0, mR35_1, gC36, mN36, gC37, mN37, gC38, mR38_0, mR38_1, gC39, mN39, gC40, mN40, gC41, mR41_0, mR41_1, gC42, mN42, gC43, mN43, gC44, mR44_0, mR44_1, gC45, mN45, gC46, mN46, gC47, mR47_0, mR47_1, gC48, mN48, gC49, mN49, gC50, mR50_0, mR50_1, mR50_2, mR50_3, gC51, mN51, gC52, mN52, gC53, mN53, gC54, mN54, gC55, gC56, gC57, mR57_2, mR57_3, mR57_6, mR57_7, mR57_8, mR57_9, mR57_10, mR57_11, mR57_12, mR57_13, mR57_14, mR57_15, mR57_16, mR57_18, mR57_19, mR57_20, mR57_21, mR57_22, mR57_23, mR57_25, mR57_26, mR57_27, mR57_28, mR57_37, mR57_40, mR57_41, mR57_43, mR57_44, mR57_48, mR57_49, gC58, mN58, gC59, mN59, gC60, mN60, gC61, mN61, gC62, mN62, gC63, mN63, gC64, mN64, gC65, mN65, gC66, mN66, gC67, mN67, gC68, mN68, gC69, mN69, gC70, mN70, gC71, mN71, gC72, mN72, gC73, mN73, gC74, mN74, gC75, mN75, gC76, mN76, gC77, mN77, gC78, mN78, gC79, mN79, gC80, mN80, gC81, mN81, gC82, mN82, gC83, mN83, gC84, mN84, gC85, mN85, gC86, mN86, gC87, mN87, v1, bdS, nI_1]
      by_cases e : y ||| (v &&& t) = y
      · rw [if_pos ((lg_cmp_eq _ _).mpr e)]
        refine ⟨y, rfl, fun c hc => ?_, hy2⟩
        have hs : stb C z (bt6 x) (bt6 t) q := fun c hc => by rw [← wider c hc, ← hy1 c hc, e]
        have := stb_up hs (r + 1) c hc
        rw [show q + (r + 1) = min k z from hq] at this
        rw [this, hy1 c hc]
      · rw [if_neg (fun r => e ((lg_cmp_eq _ _).mp r))]
        exact ih (q + 1) _ m (by omega) (by omega) wider wlt
  have hmn : min k z ≤ z := Nat.min_le_right _ _
  obtain ⟨v, v1, v2, v3⟩ := loop (min k z) 0 x xFu (by omega) (by unfold xFu; omega) (fun _ _ => rfl) hx
  refine ⟨v, ?_, fun c hc => ?_, v3⟩
  · simp only [f_X0_spread, mI, mL, mZ, msI, msL, mN1020, gC1, mR1_0, mR1_1, mR1_2, mR1_3, mR1_4, mR1_5, mR1_6, mR1_7, mR1_8, gC2, mR2_6, mR2_7, gC3, mN3, gC4, mN4, gC5, mR5_0, mR5_1, gC6, mN6, gC7, mR7_0, mR7_1, gC8, mR8_0, gC9, mN9, gC10, mR10_0, gC11, mN11, mR11_0, mR11_1, mR11_2, mR11_3, mR11_4, mR11_5, gC12, mR12_0, mR12_1, gC13, mN13, gC14, mN14, gC15, mR15_0, mR15_1, gC16, mN16, gC17, mN17, gC18, mR18_0, mR18_1, gC19, mN19, gC20, mN20, gC21, mR21_0, mR21_1, gC22, mN22, gC23, mN23, gC24, mR24_0, mR24_1, gC25, mN25, gC26, mN26, gC27, mR27_0, mR27_1, gC28, mN28, gC29, mN29, gC30, mR30_0, gC31, mN31, mR31_0, mR31_1, mR31_2, mR31_3, mR31_4, mR31_5, gC32, mR32_0, mR32_1, gC33, mN33, gC34, mN34, gC35, mR35_0, mR35_1, gC36, mN36, gC37, mN37, gC38, mR38_0, mR38_1, gC39, mN39, gC40, mN40, gC41, mR41_0, mR41_1, gC42, mN42, gC43, mN43, gC44, mR44_0, mR44_1, gC45, mN45, gC46, mN46, gC47, mR47_0, mR47_1, gC48, mN48, gC49, mN49, gC50, mR50_0, mR50_1, mR50_2, mR50_3, gC51, mN51, gC52, mN52, gC53, mN53, gC54, mN54, gC55, gC56, gC57, mR57_2, mR57_3, mR57_6, mR57_7, mR57_8, mR57_9, mR57_10, mR57_11, mR57_12, mR57_13, mR57_14, mR57_15, mR57_16, mR57_18, mR57_19, mR57_20, mR57_21, mR57_22, mR57_23, mR57_25, mR57_26, mR57_27, mR57_28, mR57_37, mR57_40, mR57_41, mR57_43, mR57_44, mR57_48, mR57_49, gC58, mN58, gC59, mN59, gC60, mN60, gC61, mN61, gC62, mN62, gC63, mN63, gC64, mN64, gC65, mN65, gC66, mN66, gC67, mN67, gC68, mN68, gC69, mN69, gC70, mN70, gC71, mN71, gC72, mN72, gC73, mN73, gC74, mN74, gC75, mN75, gC76, mN76, gC77, mN77, gC78, mN78, gC79, mN79, gC80, mN80, gC81, mN81, gC82, mN82, gC83, mN83, gC84, mN84, gC85, mN85, gC86, mN86, gC87, mN87, hD.2.2.2.1, min_E hk (show z < 2 ^ 31 by omega), bdS]
    exact v1
  · rw [v2 c hc]
    by_cases e : k ≤ z
    · rw [Nat.min_eq_left e]
    · rw [Nat.min_eq_right (by omega)]
      exact (rch_fix (by omega) hc).symm
/-! a queue of cells -/
abbrev bS : Type := (Nat → Bool) × (Nat → Nat) × (Nat → Nat) × Nat
def upF {α : Type} (f : Nat → α) (c : Nat) (v : α) : Nat → α := fun x => if x = c then v else f x
theorem upF_s {α : Type} (f : Nat → α) (c : Nat) (v : α) : upF f c v c = v := if_pos rfl
theorem upF_n {α : Type} (f : Nat → α) {c x : Nat} (v : α) (h : x ≠ c) : upF f c v x = f x := if_neg h
def pvN (d c : Nat) (g : bS) : bS := (upF g.1 c true, upF g.2.1 c d, upF g.2.2.1 g.2.2.2 c, g.2.2.2 + 1)
/-- a visit of cell c -/
def pv (P : Nat → Bool) (d c : Nat) (g : bS) : bS := if g.1 c = true ∨ P c = false then g else pvN d c g
/-- what holds of the queue; k cells are done, d is the step for which cells are being put -/
def QI (C z : Nat) (S P : Nat → Bool) (k d : Nat) (g : bS) : Prop := (∀ a, a < g.2.2.2 → g.2.2.1 a < z ∧ g.1 (g.2.2.1 a) = true) ∧ (∀ c, g.1 c = true → ∃ a, a < g.2.2.2 ∧ g.2.2.1 a = c) ∧ (∀ a b, a < b → b < g.2.2.2 → g.2.2.1 a ≠ g.2.2.1 b) ∧ (∀ c, g.1 c = true → rch C z S P (g.2.1 c) c = true) ∧ (∀ a b, a ≤ b → b < g.2.2.2 → g.2.1 (g.2.2.1 a) ≤ g.2.1 (g.2.2.1 b)) ∧ (∀ b, b < g.2.2.2 → g.2.1 (g.2.2.1 b) ≤ d) ∧ (∀ a, a < k → a < g.2.2.2 → ∀ c, c < z → nbB C (g.2.2.1 a) c = true → P c = true → g.1 c = true ∧ g.2.1 c ≤ g.2.1 (g.2.2.1 a) + 1) ∧ (∀ c, c < z → S c = true → g.1 c = true ∧ g.2.1 c = 0) ∧ (∀ a, a < g.2.2.2 → g.2.1 (g.2.2.1 a) ≤ a)
theorem QI.qa {S P : Nat → Bool} {k d : Nat} {g : bS} (h : QI C z S P k d g) : ∀ a, a < g.2.2.2 → g.2.2.1 a < z ∧ g.1 (g.2.2.1 a) = true := h.1
theorem QI.qb {S P : Nat → Bool} {k d : Nat} {g : bS} (h : QI C z S P k d g) : ∀ c, g.1 c = true → ∃ a, a < g.2.2.2 ∧ g.2.2.1 a = c := h.2.1
theorem QI.qc {S P : Nat → Bool} {k d : Nat} {g : bS} (h : QI C z S P k d g) : ∀ a b, a < b → b < g.2.2.2 → g.2.2.1 a ≠ g.2.2.1 b := h.2.2.1
theorem QI.qd {S P : Nat → Bool} {k d : Nat} {g : bS} (h : QI C z S P k d g) : ∀ c, g.1 c = true → rch C z S P (g.2.1 c) c = true := h.2.2.2.1
theorem QI.qe {S P : Nat → Bool} {k d : Nat} {g : bS} (h : QI C z S P k d g) : ∀ a b, a ≤ b → b < g.2.2.2 → g.2.1 (g.2.2.1 a) ≤ g.2.1 (g.2.2.1 b) := h.2.2.2.2.1
theorem QI.qf {S P : Nat → Bool} {k d : Nat} {g : bS} (h : QI C z S P k d g) : ∀ b, b < g.2.2.2 → g.2.1 (g.2.2.1 b) ≤ d := h.2.2.2.2.2.1
theorem QI.qg {S P : Nat → Bool} {k d : Nat} {g : bS} (h : QI C z S P k d g) : ∀ a, a < k → a < g.2.2.2 → ∀ c, c < z → nbB C (g.2.2.1 a) c = true → P c = true → g.1 c = true ∧ g.2.1 c ≤ g.2.1 (g.2.2.1 a) + 1 := h.2.2.2.2.2.2.1
theorem QI.qh {S P : Nat → Bool} {k d : Nat} {g : bS} (h : QI C z S P k d g) : ∀ c, c < z → S c = true → g.1 c = true ∧ g.2.1 c = 0 := h.2.2.2.2.2.2.2.1
theorem QI.qi {S P : Nat → Bool} {k d : Nat} {g : bS} (h : QI C z S P k d g) : ∀ a, a < g.2.2.2 → g.2.1 (g.2.2.1 a) ≤ a := h.2.2.2.2.2.2.2.2
theorem QI.le {S P : Nat → Bool} {k d : Nat} {g : bS} (h : QI C z S P k d g) : g.2.2.2 ≤ z := fb_holes z g.2.2.2 g.2.2.1 (fun a ha => (h.qa a ha).1) h.qc
/-- what a visit keeps -/
def grow (g g2 : bS) : Prop := g.2.2.2 ≤ g2.2.2.2 ∧ (∀ a, a < g.2.2.2 → g2.2.2.1 a = g.2.2.1 a) ∧ ∀ c, g.1 c = true → g2.1 c = true ∧ g2.2.1 c = g.2.1 c
theorem grow_r (g : bS) : grow g g := ⟨Nat.le_refl _, fun _ _ => rfl, fun _ h => ⟨h, rfl⟩⟩
theorem grow_t {g g2 g3 : bS} (h : grow g g2) (h2 : grow g2 g3) : grow g g3 := ⟨Nat.le_trans h.1 h2.1, fun a ha => by rw [h2.2.1 a (Nat.lt_of_lt_of_le ha h.1), h.2.1 a ha], fun c hc => ⟨(h2.2.2 c (h.2.2 c hc).1).1, by rw [(h2.2.2 c (h.2.2 c hc).1).2, (h.2.2 c hc).2]⟩⟩
theorem pv_E {S P : Nat → Bool} {k d b c : Nat} {g : bS} (h : QI C z S P k d g) (hc : c < z) (hb : b < z) (hm : g.1 b = true) (hd : g.2.1 b + 1 = d) (hn : nbB C b c = true) (hdQ : d ≤ g.2.2.2) (hkQ : k ≤ g.2.2.2) : QI C z S P k d (pv P d c g) ∧ grow g (pv P d c g) ∧ (P c = true → (pv P d c g).1 c = true ∧ (pv P d c g).2.1 c ≤ d) := by
  unfold pv
  by_cases q : g.1 c = true ∨ P c = false
  · rw [if_pos q]
    refine ⟨h, grow_r g, fun hp => ?_⟩
    rcases q with q | q
    · obtain ⟨a, a1, a2⟩ := h.qb c q
      exact ⟨q, by rw [← a2]; exact h.qf a a1⟩
    · rw [hp] at q; exact absurd q (by decide)
  · rw [if_neg q]
    have hcf : g.1 c = false := by
      cases e : g.1 c with
      | false => rfl
      | true => exact absurd (Or.inl e) q
    have hP : P c = true := by
      cases e : P c with
      | true => rfl
      | false => exact absurd (Or.inr e) q
    have ne : ∀ x, g.1 x = true → x ≠ c := fun x hx e => by rw [e, hcf] at hx; exact absurd hx (by decide)
    have qn : ∀ a, a < g.2.2.2 → g.2.2.1 a ≠ c := fun a ha => ne _ (h.qa a ha).2
    have gr : grow g (pvN d c g) := ⟨Nat.le_succ _, fun a ha => upF_n _ _ (by omega), fun x hx => ⟨by
      show upF g.1 c true x = true
      rw [upF_n _ _ (ne x hx)]; exact hx, upF_n _ _ (ne x hx)⟩⟩
    have new : (pvN d c g).2.2.1 g.2.2.2 = c := upF_s _ _ _
    have old : ∀ a, a < g.2.2.2 → (pvN d c g).2.2.1 a = g.2.2.1 a := gr.2.1
    have st : ∀ x, g.1 x = true → (pvN d c g).2.1 x = g.2.1 x := fun x hx => (gr.2.2 x hx).2
    have stc : (pvN d c g).2.1 c = d := upF_s _ _ _
    have mkc : (pvN d c g).1 c = true := upF_s _ _ _
    have Q2 : (pvN d c g).2.2.2 = g.2.2.2 + 1 := rfl
    refine ⟨⟨?_, ?_, ?_, ?_, ?_, ?_, ?_, ?_, ?_⟩, gr, fun _ => ⟨mkc, by rw [stc]; exact Nat.le_refl _⟩⟩
    · intro a ha
      by_cases e : a = g.2.2.2
      · subst e; rw [new]; exact ⟨hc, mkc⟩
      · rw [old a (by omega)]
        exact ⟨(h.qa a (by omega)).1, (gr.2.2 _ (h.qa a (by omega)).2).1⟩
    · intro x hx
      by_cases e : x = c
      · subst e; exact ⟨g.2.2.2, by omega, new⟩
      · have hx' : g.1 x = true := by
          have : (pvN d c g).1 x = g.1 x := upF_n _ _ e
          rw [← this]; exact hx
        obtain ⟨a, a1, a2⟩ := h.qb x hx'
        exact ⟨a, by omega, by rw [old a a1]; exact a2⟩
    · intro a b2 hab hb2
      by_cases e : b2 = g.2.2.2
      · subst e
        rw [new, old a hab]
        exact qn a hab
      · rw [old a (by omega), old b2 (by omega)]
        exact h.qc a b2 hab (by omega)
    · intro x hx
      by_cases e : x = c
      · subst e
        rw [stc, ← hd, rch_s, hP, Bool.true_and, Bool.or_eq_true, exB_iff]
        exact Or.inr ⟨b, hb, by rw [h.qd b hm, hn]; rfl⟩
      · have hx' : g.1 x = true := by
          have : (pvN d c g).1 x = g.1 x := upF_n _ _ e
          rw [← this]; exact hx
        rw [st x hx']
        exact h.qd x hx'
    · intro a b2 hab hb2
      by_cases e : b2 = g.2.2.2
      · subst e
        rw [new, stc]
        by_cases e2 : a = g.2.2.2
        · subst e2; rw [new, stc]; exact Nat.le_refl _
        · rw [old a (by omega), st _ (h.qa a (by omega)).2]
          exact h.qf a (by omega)
      · rw [old a (by omega), old b2 (by omega), st _ (h.qa a (by omega)).2, st _ (h.qa b2 (by omega)).2]
        exact h.qe a b2 hab (by omega)
    · intro b2 hb2
      by_cases e : b2 = g.2.2.2
      · subst e; rw [new, stc]; exact Nat.le_refl _
      · rw [old b2 (by omega), st _ (h.qa b2 (by omega)).2]
        exact h.qf b2 (by omega)
    · intro a ha haQ x hx hnx hpx
      by_cases e : a = g.2.2.2
      · exact absurd ha (by omega)
      · rw [old a (by omega), st _ (h.qa a (by omega)).2]
        rw [old a (by omega)] at hnx
        obtain ⟨r1, r2⟩ := h.qg a ha (by omega) x hx hnx hpx
        exact ⟨(gr.2.2 x r1).1, by rw [st x r1]; exact r2⟩
    · intro x hx hs
      obtain ⟨r1, r2⟩ := h.qh x hx hs
      exact ⟨(gr.2.2 x r1).1, by rw [st x r1]; exact r2⟩
    · intro a ha
      by_cases e : a = g.2.2.2
      · subst e; rw [new, stc]; exact hdQ
      · rw [old a (by omega), st _ (h.qa a (by omega)).2]
        exact h.qi a (by omega)
end BFS
