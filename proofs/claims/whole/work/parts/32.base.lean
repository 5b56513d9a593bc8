/-! pure rows: small numbers, guards, calls -/
theorem in_R {c N : Nat} (h : c < N) (hN : N < 2 ^ 31) : inR (nI c) N := by
  unfold inR
  rw [nI_toInt (by omega)]
  omega
theorem bdS {α β : Type} (a : α) (w : xSt) (f : α → xSt → Option β) : bd (some (a, w)) f = f a w := of_eq_true (eq_self _)
theorem lt1E {α β : Type} (a : α) (f : α → β) : lt1 a f = f a := of_eq_true (eq_self _)
def b2i (c : Prop) [Decidable c] : Int32 := if c then 1 else 0
theorem b2i_t {c : Prop} [Decidable c] (h : c) : b2i c = 1 := if_pos h
theorem b2i_f {c : Prop} [Decidable c] (h : ¬ c) : b2i c = 0 := if_neg h
theorem b2i_0 {c : Prop} [Decidable c] : b2i c = 0 ↔ ¬ c := by
  by_cases h : c
  · rw [b2i_t h]; exact ⟨fun q => absurd q (by decide), fun q => absurd h q⟩
  · rw [b2i_f h]; exact ⟨fun _ => h, fun _ => rfl⟩
theorem b2i_or {c : Prop} [Decidable c] : b2i c = 0 ∨ b2i c = 1 := by
  by_cases h : c
  · exact Or.inr (b2i_t h)
  · exact Or.inl (b2i_f h)
theorem gd_b {α : Type} {c : Prop} [Decidable c] (e : Option α) : gd (b2i c = 0 ∨ b2i c = 1) e = e := gd_t b2i_or
theorem if_b {α : Type} {c : Prop} [Decidable c] (a b : α) : (if b2i c = 0 then a else b) = if c then b else a := by
  by_cases h : c
  · rw [if_neg (fun q => (b2i_0.mp q) h), if_pos h]
  · rw [if_pos (b2i_0.mpr h), if_neg h]
theorem b2i_cong {c d : Prop} [Decidable c] [Decidable d] (h : c ↔ d) : b2i c = b2i d := by
  by_cases hc : c
  · rw [b2i_t hc, b2i_t (h.mp hc)]
  · rw [b2i_f hc, b2i_f (fun q => hc (h.mpr q))]
theorem in_E (v lo hi : Int32) (w : xSt) : f_X11_in v lo hi w = some (b2i (lo ≤ v ∧ v ≤ hi), w) := by
  unfold f_X11_in
  by_cases h1 : v < lo
  · rw [if_pos h1, b2i_f (fun q => absurd h1 (Int32.not_lt.mpr q.1))]
  · rw [if_neg h1]
    by_cases h2 : hi < v
    · rw [if_pos h2, b2i_f (fun q => absurd h2 (Int32.not_lt.mpr q.2))]
    · rw [if_neg h2, b2i_t ⟨Int32.not_lt.mp h1, Int32.not_lt.mp h2⟩]
theorem within_E (v lo hi : Int32) (w : xSt) : f_X10_within v lo hi w = some (b2i (lo ≤ v ∧ v ≤ hi), w) := in_E v lo hi w
theorem isLand_E (v : Int32) (w : xSt) : f_X10_isLand v w = some (b2i (0 ≤ v ∧ v ≤ 7), w) := by
  unfold f_X10_isLand
  rw [within_E, bdS, gd_b]
theorem isClass_E (v : Int32) (w : xSt) : f_X10_isClass v w = some (b2i (0 ≤ v ∧ v ≤ 9), w) := by
  unfold f_X10_isClass
  rw [within_E, bdS, gd_b]
theorem isDay_E (v : Int32) (w : xSt) : f_X10_isDay v w = some (b2i (0 ≤ v ∧ v ≤ 999), w) := by
  unfold f_X10_isDay
  rw [within_E, bdS, gd_b]
theorem nI_rng {v : Int32} {N : Nat} (hN : N < 2 ^ 31) (h : (0 : Int32) ≤ v ∧ v ≤ nI N) : ∃ k : Nat, k ≤ N ∧ v = nI k := nI_of2 (nI_toInt hN) (Int32.not_lt.mpr h.1) h.2
theorem nI_rng' {N k : Nat} (hN : N < 2 ^ 31) (h : k ≤ N) : (0 : Int32) ≤ nI k ∧ nI k ≤ nI N := ⟨nI_pos' (by omega), nI_le h (by omega)⟩
/-- a cell or stand or juror: a number from 0 on below N -/
theorem nI_ix (v : Int32) {N : Nat} (hN : N < 2 ^ 31) : ((0 : Int32) ≤ v ∧ v ≤ nI N - 1) ↔ ∃ k : Nat, k < N ∧ v = nI k := by
  cases N with
  | zero =>
    constructor
    · intro h
      have h1 := Int32.le_iff_toInt_le.mp h.1
      have h2 := Int32.le_iff_toInt_le.mp h.2
      have e1 : (nI 0 - 1).toInt = -1 := by decide
      have e2 : (0 : Int32).toInt = 0 := by decide
      rw [e1] at h2
      rw [e2] at h1
      omega
    · rintro ⟨k, hk, -⟩
      omega
  | succ m =>
    rw [nI_pred]
    constructor
    · intro h
      obtain ⟨k, hk, e⟩ := nI_rng (by omega) h
      exact ⟨k, by omega, e⟩
    · rintro ⟨k, hk, rfl⟩
      exact nI_rng' (by omega) (by omega)
theorem nI_ix2 (v : Int32) {N : Nat} (hN : N < 2 ^ 31) : (¬ v < 0 ∧ ¬ nI N ≤ v) ↔ ∃ k : Nat, k < N ∧ v = nI k := by
  constructor
  · intro h
    rcases pk_ix v hN with q | q | q
    · exact absurd q h.1
    · exact absurd q h.2
    · exact q
  · rintro ⟨k, hk, rfl⟩
    exact ⟨nI_pos (by omega), nI_ge hk hN⟩
theorem nI_m1 {k : Nat} (h : k < 2 ^ 31) : nI k ≠ -1 := by
  intro e
  have := congrArg Int32.toInt e
  rw [nI_toInt h, show (-1 : Int32).toInt = -1 by decide] at this
  omega
/-! counting loops -/
theorem ct_loop {P : Nat → Bool} {W : Type} (loop : Nat → Int32 → Int32 → W → Option (Int32 × W)) (w : W) (N : Nat) (hx : ∀ m a, loop (m + 1) a (nI N) w = some (a, w)) (hs : ∀ m a s, s < N → loop (m + 1) a (nI s) w = loop m (a + if P s then 1 else 0) (nI (s + 1)) w) : ∀ k s m, s + k = N → k < m → loop m (nI (fb_ct P s)) (nI s) w = some (nI (fb_ct P N), w) := by
  intro k
  induction k with
  | zero =>
    intro s m hsN hm
    obtain ⟨m, rfl⟩ : ∃ q, m = q + 1 := ⟨m - 1, by omega⟩
    have : s = N := by omega
    subst this
    exact hx m _
  | succ k ih =>
    intro s m hsN hm
    obtain ⟨m, rfl⟩ : ∃ q, m = q + 1 := ⟨m - 1, by omega⟩
    rw [hs m _ s (by omega)]
    have e : nI (fb_ct P s) + (if P s then 1 else 0) = nI (fb_ct P (s + 1)) := by
      rw [fb_ct_succ]
      by_cases h : P s = true
      · rw [if_pos h, if_pos h, nI_1]
      · rw [if_neg h, if_neg h]
        exact nI_add _ 0
    rw [e]
    exact ih (s + 1) m (by omega) (by omega)
