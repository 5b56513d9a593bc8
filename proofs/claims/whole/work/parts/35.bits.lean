/-! sets of cells as longs -/
section BITS
theorem b6_and (x y : Int64) (c : Nat) : bt6 (x &&& y) c = (bt6 x c && bt6 y c) := by simp [bt6]
theorem b6_or (x y : Int64) (c : Nat) : bt6 (x ||| y) c = (bt6 x c || bt6 y c) := by simp [bt6]
theorem b6_0 (c : Nat) : bt6 0 c = false := by simp [bt6]
theorem b6_ge (x : Int64) {c : Nat} (h : 64 ≤ c) : bt6 x c = false := BitVec.getLsbD_of_ge _ _ h
theorem b6_m1 {c : Nat} (h : c < 64) : bt6 (-1) c = true := by
  have : (-1 : Int64).toBitVec = BitVec.allOnes 64 := by decide
  unfold bt6
  rw [this, BitVec.getLsbD_allOnes]
  simp [h]
theorem b6_xor (x y : Int64) (c : Nat) : bt6 (x ^^^ y) c = (bt6 x c ^^ bt6 y c) := by simp [bt6]
theorem b6_not (x : Int64) {c : Nat} (h : c < 64) : bt6 (x ^^^ (-1)) c = !bt6 x c := by rw [b6_xor, b6_m1 h]; cases bt6 x c <;> rfl
theorem b6_ext {x y : Int64} (h : ∀ c, c < 64 → bt6 x c = bt6 y c) : x = y := by
  apply Int64.toBitVec_inj.mp
  apply BitVec.eq_of_getLsbD_eq
  intro c hc
  exact h c hc
theorem b6_zero (x : Int64) : x = 0 ↔ ∀ c, bt6 x c = false := by
  constructor
  · rintro rfl c; exact b6_0 c
  · intro h; exact b6_ext (fun c _ => by rw [h c, b6_0])
theorem lg0 (x : Int64) : lg_cmp x 0 = 0 ↔ ∀ c, bt6 x c = false := by rw [lg_cmp_eq, b6_zero]
theorem lg0n (x : Int64) : ¬ lg_cmp x 0 = 0 ↔ ∃ c, c < 64 ∧ bt6 x c = true := by
  rw [lg0]
  constructor
  · intro h
    obtain ⟨c, hc⟩ := Classical.not_forall.mp h
    refine ⟨c, ?_, by simpa using hc⟩
    rcases Nat.lt_or_ge c 64 with q | q
    · exact q
    · exact absurd (b6_ge x q) hc
  · rintro ⟨c, -, hc⟩ q
    rw [q c] at hc
    exact absurd hc (by decide)
theorem sh_am {c : Nat} (h : c < 64) : ((nI c).toInt64 &&& 63).toBitVec = BitVec.ofNat 64 c := by
  have : ∀ c : Fin 64, ((nI c).toInt64 &&& 63).toBitVec = BitVec.ofNat 64 c := by decide
  exact this ⟨c, h⟩
theorem b6_shl (x : Int64) {k : Nat} (hk : k < 64) (c : Nat) : bt6 (x <<< ((nI k).toInt64 &&& 63)) c = (decide (c < 64) && decide (k ≤ c) && bt6 x (c - k)) := by
  unfold bt6
  rw [Int64.toBitVec_shiftLeft, sh_am hk]
  have e : (BitVec.ofNat 64 k).smod 64 = BitVec.ofNat 64 k := by
    have : ∀ c : Fin 64, (BitVec.ofNat 64 c).smod 64 = BitVec.ofNat 64 c := by decide
    exact this ⟨k, hk⟩
  rw [e, BitVec.shiftLeft_eq', BitVec.getLsbD_shiftLeft]
  have : (BitVec.ofNat 64 k).toNat = k := by rw [BitVec.toNat_ofNat]; omega
  rw [this]
  by_cases q : k ≤ c
  · have : ¬ c < k := by omega
    simp [q, this]
  · have : c < k := by omega
    simp [q, this]
theorem b6_ushr (x : Int64) {k : Nat} (hk : k < 64) (c : Nat) : bt6 (lushr x (nI k)) c = bt6 x (c + k) := by
  unfold bt6 lushr
  show ((x.toUInt64 >>> ((nI k).toInt64.toUInt64 &&& Int64.toUInt64 63)).toBitVec).getLsbD c = _
  rw [UInt64.toBitVec_shiftRight]
  have e : ((nI k).toInt64.toUInt64 &&& Int64.toUInt64 63).toBitVec = BitVec.ofNat 64 k := by
    have : ∀ c : Fin 64, ((nI c).toInt64.toUInt64 &&& Int64.toUInt64 63).toBitVec = BitVec.ofNat 64 c := by decide
    exact this ⟨k, hk⟩
  have e2 : (BitVec.ofNat 64 k) % 64 = BitVec.ofNat 64 k := by
    have : ∀ c : Fin 64, (BitVec.ofNat 64 c) % 64 = BitVec.ofNat 64 c := by decide
    exact this ⟨k, hk⟩
  rw [e, e2, BitVec.ushiftRight_eq', BitVec.getLsbD_ushiftRight]
  have : (BitVec.ofNat 64 k).toNat = k := by rw [BitVec.toNat_ofNat]; omega
  rw [this, Nat.add_comm]
  rfl
/-- the set of one cell -/
def b1 (c : Nat) : Int64 := (1 : Int64) <<< ((nI c).toInt64 &&& 63)
theorem only_E (c : Nat) (w : xSt) : f_X0_only (nI c) w = some (b1 c, w) := rfl
theorem b6_1 {c : Nat} (h : c < 64) (k : Nat) : bt6 (b1 c) k = decide (k = c) := by
  unfold b1
  rw [b6_shl _ h]
  have o : ∀ j, bt6 1 j = decide (j = 0) := by
    intro j
    unfold bt6
    have : (1 : Int64).toBitVec = 1#64 := by decide
    rw [this, BitVec.getLsbD_one]
    simp
  rw [o]
  by_cases q : k = c
  · subst q; simp [h]
  · rcases Nat.lt_or_ge c k with r | r
    · have : ¬ k - c = 0 := by omega
      simp [this, q]
    · have : ¬ c ≤ k := by omega
      simp [this, q]
theorem and1 (x : Int64) {c : Nat} (h : c < 64) : lg_cmp (x &&& b1 c) 0 = 0 ↔ bt6 x c = false := by
  rw [lg0]
  constructor
  · intro q
    have := q c
    rw [b6_and, b6_1 h] at this
    simpa using this
  · intro q k
    rw [b6_and, b6_1 h]
    by_cases e : k = c
    · subst e; simp [q]
    · simp [e]
theorem and1_if {α : Type} (x : Int64) {c : Nat} (h : c < 64) (a b : α) : (if lg_cmp (x &&& b1 c) 0 = 0 then a else b) = if bt6 x c = true then b else a := by
  by_cases q : bt6 x c = true
  · rw [if_pos q, if_neg (fun z => by rw [(and1 x h).mp z] at q; exact absurd q (by decide))]
  · rw [if_neg q, if_pos ((and1 x h).mpr (by simpa using q))]
end BITS
