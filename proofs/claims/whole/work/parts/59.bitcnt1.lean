section BITCNT1
variable {C R n z L : Nat} {i : fI} {l : fL}
/-! how many bits: byte by byte -/
theorem and_spl {a b c d : Nat} (hb : b < 256) (hd : d < 256) : (256 * a + b) &&& (256 * c + d) = 256 * (a &&& c) + (b &&& d) := by
  have hbd : b &&& d < 2 ^ 8 := Nat.and_lt_two_pow b hd
  apply Nat.eq_of_testBit_eq
  intro j
  rw [Nat.testBit_and, show (256 : Nat) = 2 ^ 8 from rfl, Nat.testBit_two_pow_mul_add _ hb, Nat.testBit_two_pow_mul_add _ hd, Nat.testBit_two_pow_mul_add _ hbd, Nat.testBit_and, Nat.testBit_and]
  by_cases q : j < 8
  · rw [if_pos q, if_pos q, if_pos q]
  · rw [if_neg q, if_neg q, if_neg q]
def bM (c : Nat) : Nat → Nat
  | 0 => 0
  | k + 1 => 256 * bM c k + c
def bA1 (k N : Nat) : Nat := N - ((N / 2) &&& bM 85 k)
def bA2 (k N : Nat) : Nat := (N &&& bM 51 k) + ((N / 4) &&& bM 51 k)
def bA3 (k N : Nat) : Nat := (N + N / 16) &&& bM 15 k
def bp1 (r : Nat) : Nat := r - ((r / 2) &&& 85)
def bp2 (r : Nat) : Nat := (r &&& 51) + ((r / 4) &&& 51)
def bp3 (r : Nat) : Nat := (r + r / 16) % 16
theorem bA1_s (k q : Nat) {r : Nat} (hr : r < 256) : bA1 (k + 1) (256 * q + r) = 256 * bA1 k q + bp1 r := by
  have t : ∀ e : Fin 2, ∀ t : Fin 128, (128 * e.1 + t.1) &&& 85 = t.1 &&& 85 := by decide +kernel
  have e1 : (256 * q + r) / 2 = 256 * (q / 2) + (128 * (q % 2) + r / 2) := by omega
  have e2 := t ⟨q % 2, by omega⟩ ⟨r / 2, by omega⟩
  unfold bA1 bp1
  show 256 * q + r - ((256 * q + r) / 2 &&& (256 * bM 85 k + 85)) = _
  rw [e1, and_spl (by omega) (by omega), show (128 * (q % 2) + r / 2) &&& 85 = (r / 2) &&& 85 from e2]
  have h1 : (q / 2) &&& bM 85 k ≤ q / 2 := Nat.and_le_left
  have h2 : (r / 2) &&& 85 ≤ r / 2 := Nat.and_le_left
  omega
theorem bA2_s (k q : Nat) {r : Nat} (hr : r < 256) : bA2 (k + 1) (256 * q + r) = 256 * bA2 k q + bp2 r := by
  have t : ∀ e : Fin 4, ∀ t : Fin 64, (64 * e.1 + t.1) &&& 51 = t.1 &&& 51 := by decide +kernel
  have e1 : (256 * q + r) / 4 = 256 * (q / 4) + (64 * (q % 4) + r / 4) := by omega
  have e2 := t ⟨q % 4, by omega⟩ ⟨r / 4, by omega⟩
  unfold bA2 bp2
  show ((256 * q + r) &&& (256 * bM 51 k + 51)) + ((256 * q + r) / 4 &&& (256 * bM 51 k + 51)) = _
  rw [e1, and_spl (by omega) (by omega), and_spl (by omega) (by omega), show (64 * (q % 4) + r / 4) &&& 51 = (r / 4) &&& 51 from e2]
  omega
theorem bA3_s (k q : Nat) {r : Nat} (hr : r ≤ 68) (hq : q % 16 ≤ 4) : bA3 (k + 1) (256 * q + r) = 256 * bA3 k q + bp3 r := by
  have e1 : 256 * q + r + (256 * q + r) / 16 = 256 * (q + q / 16) + (r + r / 16 + 16 * (q % 16)) := by omega
  unfold bA3 bp3
  show (256 * q + r + (256 * q + r) / 16) &&& (256 * bM 15 k + 15) = _
  rw [e1, and_spl (by omega) (by omega), show (15 : Nat) = 2 ^ 4 - 1 from rfl, Nat.and_two_pow_sub_one_eq_mod]
  omega
def bpc (r : Nat) : Nat := bp3 (bp2 (bp1 r))
theorem bpc_all : ∀ r : Fin 256, bp1 r.1 < 256 ∧ bp2 (bp1 r.1) ≤ 68 ∧ bp2 (bp1 r.1) % 16 ≤ 4 ∧ bpc r.1 ≤ 8 ∧ bpc r.1 = fb_ct (fun j => r.1.testBit j) 8 := by decide +kernel
theorem bA12_m : ∀ (k q : Nat), q < 256 ^ k → bA2 k (bA1 k q) % 16 ≤ 4
  | 0, q, h => by
    have : q = 0 := by rw [Nat.pow_zero] at h; omega
    subst this
    decide
  | k + 1, q, h => by
    have hr : q % 256 < 256 := Nat.mod_lt _ (by omega)
    obtain ⟨p1, p2, p3, -, -⟩ := bpc_all ⟨q % 256, hr⟩
    rw [show q = 256 * (q / 256) + q % 256 by omega, bA1_s _ _ hr, bA2_s _ _ p1]
    show (256 * bA2 k (bA1 k (q / 256)) + bp2 (bp1 (q % 256))) % 16 ≤ 4
    have : bp2 (bp1 (q % 256)) % 16 ≤ 4 := p3
    omega
def bT (k N : Nat) : Nat := bA3 k (bA2 k (bA1 k N))
theorem bT_s {k q r : Nat} (hr : r < 256) (hq : q < 256 ^ k) : bT (k + 1) (256 * q + r) = 256 * bT k q + bpc r := by
  obtain ⟨p1, p2, p3, -, -⟩ := bpc_all ⟨r, hr⟩
  unfold bT bpc
  rw [bA1_s _ _ hr, bA2_s _ _ p1, bA3_s _ _ p2 (bA12_m k q hq)]
theorem bct_s (k q : Nat) {r : Nat} (hr : r < 256) : fb_ct (fun j => (256 * q + r).testBit j) (8 + 8 * k) = bpc r + fb_ct (fun j => q.testBit j) (8 * k) := by
  have tb := Nat.testBit_two_pow_mul_add q (show r < 2 ^ 8 from hr)
  have e1 : fb_ct (fun j => (256 * q + r).testBit j) 8 = bpc r := by
    have h := (bpc_all ⟨r, hr⟩).2.2.2.2
    have h' : bpc r = fb_ct (fun j => r.testBit j) 8 := h
    rw [h']
    exact fb_ct_cong (fun j hj => (tb j).trans (if_pos hj))
  have e2 : fb_ct (fun j => (256 * q + r).testBit (8 + j)) (8 * k) = fb_ct (fun j => q.testBit j) (8 * k) := fb_ct_cong (fun j hj => by
    have := (tb (8 + j)).trans (if_neg (by omega))
    rw [show 8 + j - 8 = j by omega] at this
    exact this)
  rw [fb_ct_split, e1, e2]
/-- one byte off -/
theorem b_off {k N : Nat} (h : N < 256 ^ (k + 1)) : N / 256 < 256 ^ k ∧ bpc (N % 256) ≤ 8 ∧ bT (k + 1) N = bpc (N % 256) + 256 * bT k (N / 256) ∧ fb_ct (fun j => N.testBit j) (8 + 8 * k) = bpc (N % 256) + fb_ct (fun j => (N / 256).testBit j) (8 * k) := by
  have hr : N % 256 < 256 := Nat.mod_lt _ (by omega)
  have hq : N / 256 < 256 ^ k := by
    rw [Nat.pow_succ] at h
    exact Nat.div_lt_of_lt_mul (by rw [Nat.mul_comm]; exact h)
  have eN : 256 * (N / 256) + N % 256 = N := Nat.div_add_mod N 256
  have a := bT_s hr hq
  have b := bct_s k (N / 256) hr
  rw [eN] at a b
  exact ⟨hq, (bpc_all ⟨N % 256, hr⟩).2.2.2.1, by rw [a, Nat.add_comm], b⟩
theorem b_dv {p X B : Nat} (h : p < B) : (p + B * X) / B = X := by
  rw [Nat.add_mul_div_left _ _ (by omega), Nat.div_eq_of_lt h, Nat.zero_add]
theorem b_all {N : Nat} (h : N < 256 ^ 8) : ∃ p0 p1 p2 p3 p4 p5 p6 p7 : Nat, (p0 ≤ 8 ∧ p1 ≤ 8 ∧ p2 ≤ 8 ∧ p3 ≤ 8 ∧ p4 ≤ 8 ∧ p5 ≤ 8 ∧ p6 ≤ 8 ∧ p7 ≤ 8) ∧ bT 8 N = p0 + 256 * (p1 + 256 * (p2 + 256 * (p3 + 256 * (p4 + 256 * (p5 + 256 * (p6 + 256 * p7)))))) ∧ fb_ct (fun j => N.testBit j) 64 = p0 + p1 + p2 + p3 + p4 + p5 + p6 + p7 := by
  obtain ⟨h1, q0, t0, c0⟩ := b_off (k := 7) h
  obtain ⟨h2, q1, t1, c1⟩ := b_off (k := 6) h1
  obtain ⟨h3, q2, t2, c2⟩ := b_off (k := 5) h2
  obtain ⟨h4, q3, t3, c3⟩ := b_off (k := 4) h3
  obtain ⟨h5, q4, t4, c4⟩ := b_off (k := 3) h4
  obtain ⟨h6, q5, t5, c5⟩ := b_off (k := 2) h5
  obtain ⟨h7, q6, t6, c6⟩ := b_off (k := 1) h6
  obtain ⟨h8, q7, t7, c7⟩ := b_off (k := 0) h7
  have t8 : ∀ M, bT 0 M = 0 := fun M => Nat.and_zero _
  have c8 : ∀ p : Nat → Bool, fb_ct p (8 * 0) = 0 := fun _ => rfl
  refine ⟨_, _, _, _, _, _, _, _, ⟨q0, q1, q2, q3, q4, q5, q6, q7⟩, ?_, ?_⟩
  · rw [t0, t1, t2, t3, t4, t5, t6, t7, t8]
    rw [Nat.mul_zero, Nat.add_zero]
  · rw [show 64 = 8 + 8 * 7 from rfl, c0, show 8 * 7 = 8 + 8 * 6 from rfl, c1, show 8 * 6 = 8 + 8 * 5 from rfl, c2, show 8 * 5 = 8 + 8 * 4 from rfl, c3, show 8 * 4 = 8 + 8 * 3 from rfl, c4, show 8 * 3 = 8 + 8 * 2 from rfl, c5, show 8 * 2 = 8 + 8 * 1 from rfl, c6, show 8 * 1 = 8 + 8 * 0 from rfl, c7, c8]
    omega
end BITCNT1
