section ORDER
/-! sets of stands, orders -/
def dif (a b : Nat) : Nat := a &&& (b ^^^ 511)
theorem b_hi {a t : Nat} (ha : a < 512) (ht : 9 ≤ t) : a.testBit t = false := Nat.testBit_lt_two_pow (Nat.lt_of_lt_of_le ha (Nat.pow_le_pow_right (n := 2) (by decide) ht))
theorem dif_b {a : Nat} (ha : a < 512) (b t : Nat) : (dif a b).testBit t = (a.testBit t && !b.testBit t) := by
  unfold dif
  rw [Nat.testBit_and, Nat.testBit_xor, show (511 : Nat) = 2 ^ 9 - 1 from rfl, Nat.testBit_two_pow_sub_one]
  by_cases q : t < 9
  · rw [decide_eq_true q, Bool.xor_true]
  · rw [b_hi ha (by omega), Bool.false_and, Bool.false_and]
theorem dif_le (a b : Nat) : dif a b ≤ a := Nat.and_le_left
theorem dif_lt {a : Nat} (ha : a < 512) (b : Nat) : dif a b < 512 := Nat.lt_of_le_of_lt (dif_le a b) ha
theorem nI_dif {a b : Nat} (ha : a < 512) : nI a &&& (nI b ^^^ (-1 : Int32)) = nI (dif a b) := by
  apply Int32.toBitVec_inj.1
  show BitVec.ofNat 32 a &&& (BitVec.ofNat 32 b ^^^ (-1 : Int32).toBitVec) = BitVec.ofNat 32 (dif a b)
  rw [show (-1 : Int32).toBitVec = BitVec.allOnes 32 by decide]
  apply BitVec.eq_of_getLsbD_eq
  intro t ht
  rw [BitVec.getLsbD_and, BitVec.getLsbD_xor, BitVec.getLsbD_ofNat, BitVec.getLsbD_ofNat, BitVec.getLsbD_ofNat, BitVec.getLsbD_allOnes, dif_b ha, decide_eq_true ht, Bool.true_and, Bool.true_and, Bool.true_and, Bool.xor_true]
theorem or_lt {M s : Nat} (hM : M < 512) (hs : s < 9) : M ||| 2 ^ s < 512 := Nat.or_lt_two_pow (n := 9) hM (Nat.pow_lt_pow_right (by decide) hs)
theorem dl_b {X : Nat} (hX : X < 512) (s t : Nat) : (dif X (2 ^ s)).testBit t = (X.testBit t && !decide (t = s)) := by
  rw [dif_b hX, Nat.testBit_two_pow]
  by_cases e : t = s
  · subst e; simp
  · simp [e, show ¬ s = t from fun r => e r.symm]
/-- from M to X in k steps, each allowed -/
def ordP (r : Nat → Nat → Bool) (n : Nat) : Nat → Nat → Nat → Prop
  | 0, M, X => M = X
  | k + 1, M, X => ∃ s, s < n ∧ X.testBit s = true ∧ M.testBit s = false ∧ r M s = true ∧ ordP r n k (M ||| 2 ^ s) X
variable {r : Nat → Nat → Bool} {n : Nat}
theorem ordP_snoc : ∀ k M Y s, ordP r n k M Y → s < n → M.testBit s = false → Y.testBit s = false → r Y s = true → ordP r n (k + 1) M (Y ||| 2 ^ s)
  | 0, M, Y, s, h, hs, hm, hy, hr => by
    have h : M = Y := h
    subst h
    exact ⟨s, hs, by rw [fb_bit_set]; simp, hm, hr, rfl⟩
  | k + 1, M, Y, s, ⟨t, t1, t2, t3, t4, t5⟩, hs, hm, hy, hr => by
    refine ⟨t, t1, by rw [fb_bit_set, t2]; rfl, t3, t4, ordP_snoc k _ Y s t5 hs ?_ hy hr⟩
    rw [fb_bit_set, hm]
    have : s ≠ t := fun e => by rw [e, t2] at hy; exact absurd hy (by decide)
    simp [this]
theorem dl_or {M s : Nat} (hX : M ||| 2 ^ s < 512) (hm : M.testBit s = false) : dif (M ||| 2 ^ s) (2 ^ s) = M := bit_ext (fun t => by
  rw [dl_b hX, fb_bit_set]
  by_cases e : t = s
  · subst e; simp [hm]
  · simp [e])
theorem or_dl {X s : Nat} (hX : X < 512) (hx : X.testBit s = true) : dif X (2 ^ s) ||| 2 ^ s = X := bit_ext (fun t => by
  rw [fb_bit_set, dl_b hX]
  by_cases e : t = s
  · subst e; simp [hx]
  · simp [e])
theorem or_sw (M s t : Nat) : M ||| 2 ^ s ||| 2 ^ t = M ||| 2 ^ t ||| 2 ^ s := bit_ext (fun q => by
  rw [fb_bit_set, fb_bit_set, fb_bit_set, fb_bit_set, Bool.or_assoc, Bool.or_assoc, Bool.or_comm (decide (q = s))])
theorem ordP_last : ∀ k M X, X < 512 → ordP r n (k + 1) M X → ∃ s, s < n ∧ X.testBit s = true ∧ M.testBit s = false ∧ r (dif X (2 ^ s)) s = true ∧ ordP r n k M (dif X (2 ^ s))
  | 0, M, X, hX, ⟨s, s1, s2, s3, s4, s5⟩ => by
    have s5 : M ||| 2 ^ s = X := s5
    subst s5
    refine ⟨s, s1, s2, s3, ?_, ?_⟩
    · rw [dl_or hX s3]; exact s4
    · show M = _
      rw [dl_or hX s3]
  | k + 1, M, X, hX, ⟨t, t1, t2, t3, t4, t5⟩ => by
    obtain ⟨s, s1, s2, s3, s4, s5⟩ := ordP_last k _ X hX t5
    rw [fb_bit_set, Bool.or_eq_false_iff] at s3
    have hne : t ≠ s := fun e => by
      have := s3.2
      simp [e] at this
    refine ⟨s, s1, s2, s3.1, s4, t, t1, ?_, t3, t4, s5⟩
    rw [dl_b hX, t2]
    simp [hne]
theorem ordP_skip (ha : ∀ M s t, r (M ||| 2 ^ s) t = true → r M t = true) : ∀ k M X s, X < 512 → M.testBit s = false → ordP r n k (M ||| 2 ^ s) X → ordP r n k M (dif X (2 ^ s))
  | 0, M, X, s, hX, hm, h => by
    have h : M ||| 2 ^ s = X := h
    subst h
    show M = _
    rw [dl_or hX hm]
  | k + 1, M, X, s, hX, hm, ⟨t, t1, t2, t3, t4, t5⟩ => by
    rw [fb_bit_set, Bool.or_eq_false_iff] at t3
    have hne : t ≠ s := fun e => by
      have := t3.2
      simp [e] at this
    rw [or_sw] at t5
    refine ⟨t, t1, by rw [dl_b hX, t2]; simp [hne], t3.1, ha M s t t4, ordP_skip ha k _ X s hX ?_ t5⟩
    rw [fb_bit_set, hm]
    simp [show s ≠ t from fun e => hne e.symm]
theorem ordP_hered (ha : ∀ M s t, r (M ||| 2 ^ s) t = true → r M t = true) : ∀ k M X s, X < 512 → X.testBit s = true → M.testBit s = false → ordP r n k M X → ∃ k2, ordP r n k2 M (dif X (2 ^ s))
  | 0, M, X, s, hX, hx, hm, h => by
    have h : M = X := h
    rw [h, hx] at hm
    exact absurd hm (by decide)
  | k + 1, M, X, s, hX, hx, hm, ⟨t, t1, t2, t3, t4, t5⟩ => by
    by_cases e : t = s
    · subst e
      exact ⟨k, ordP_skip ha k M X t hX t3 t5⟩
    · obtain ⟨k2, h2⟩ := ordP_hered ha k _ X s hX hx (by rw [fb_bit_set, hm]; simp [show s ≠ t from fun q => e q.symm]) t5
      exact ⟨k2 + 1, t, t1, by rw [dl_b hX, t2]; simp [e], t3, t4, h2⟩
/-- all of X can follow behind M -/
def FB (r : Nat → Nat → Bool) (n M X : Nat) : Prop := ∃ k, ordP r n k M X
theorem FB_self (M : Nat) : FB r n M M := ⟨0, rfl⟩
theorem FB_step {M X : Nat} (h : M ≠ X) : FB r n M X ↔ ∃ s, s < n ∧ X.testBit s = true ∧ M.testBit s = false ∧ r M s = true ∧ FB r n (M ||| 2 ^ s) X := by
  constructor
  · rintro ⟨k, hk⟩
    cases k with
    | zero => exact absurd hk h
    | succ k =>
      obtain ⟨s, s1, s2, s3, s4, s5⟩ := hk
      exact ⟨s, s1, s2, s3, s4, k, s5⟩
  · rintro ⟨s, s1, s2, s3, s4, k, s5⟩
    exact ⟨k + 1, s, s1, s2, s3, s4, s5⟩
theorem FB_del (ha : ∀ M s t, r (M ||| 2 ^ s) t = true → r M t = true) {M X s : Nat} (hX : X < 512) (hs : s < n) (hx : X.testBit s = true) (hm : M.testBit s = false) (hr : r (dif X (2 ^ s)) s = true) : FB r n M X ↔ FB r n M (dif X (2 ^ s)) := by
  constructor
  · rintro ⟨k, hk⟩
    exact ordP_hered ha k M X s hX hx hm hk
  · rintro ⟨k, hk⟩
    have := ordP_snoc k M _ s hk hs hm (by rw [dl_b hX]; simp) hr
    rw [or_dl hX hx] at this
    exact ⟨k + 1, this⟩
theorem FB_stuck {M X : Nat} (hX : X < 512) (h : M ≠ X) (hs : ∀ s, s < n → X.testBit s = true → M.testBit s = false → r (dif X (2 ^ s)) s = false) : ¬ FB r n M X := by
  rintro ⟨k, hk⟩
  cases k with
  | zero => exact h hk
  | succ k =>
    obtain ⟨s, s1, s2, s3, s4, -⟩ := ordP_last k M X hX hk
    rw [hs s s1 s2 s3] at s4
    exact absurd s4 (by decide)
noncomputable def fbB (r : Nat → Nat → Bool) (n A M : Nat) : Bool := @decide (FB r n M A) (Classical.propDecidable _)
theorem fbB_iff {A M : Nat} : fbB r n A M = true ↔ FB r n M A := by
  unfold fbB
  exact @decide_eq_true_iff _ (Classical.propDecidable _)
theorem fbB_f {A M : Nat} : fbB r n A M = false ↔ ¬ FB r n M A := by
  rw [← fbB_iff]
  cases fbB r n A M <;> simp
theorem fbB_step {A M : Nat} (h : M ≠ A) (hr : ∀ s, s < n → r M s = true → A.testBit s = true) : fbB r n A M = exB (fun s => (!M.testBit s && r M s) && fbB r n A (M ||| 2 ^ s)) n := by
  apply Bool_iff
  rw [fbB_iff, FB_step h, exB_iff]
  constructor
  · rintro ⟨s, s1, s2, s3, s4, s5⟩
    exact ⟨s, s1, by rw [s3, s4, fbB_iff.mpr s5]; rfl⟩
  · rintro ⟨s, s1, s2⟩
    simp only [Bool.and_eq_true, Bool.not_eq_true'] at s2
    exact ⟨s, s1, hr s s1 s2.1.2, s2.1.1, s2.1.2, fbB_iff.mp s2.2⟩
end ORDER
