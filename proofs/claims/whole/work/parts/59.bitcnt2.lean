section BITCNT2
def uN (x : Int64) : Nat := x.toUInt64.toNat
theorem uN_lt (x : Int64) : uN x < 18446744073709551616 := x.toUInt64.toNat_lt
theorem uN_add (x y : Int64) : uN (x + y) = (uN x + uN y) % 18446744073709551616 := by
  show (x.toUInt64 + y.toUInt64).toNat = _
  exact UInt64.toNat_add _ _
theorem uN_and (x y : Int64) : uN (x &&& y) = uN x &&& uN y := by
  show (x.toUInt64 &&& y.toUInt64).toNat = _
  exact UInt64.toNat_and _ _
theorem uN_sub {x y : Int64} (h : uN y ≤ uN x) : uN (x - y) = uN x - uN y := by
  show (x.toUInt64 - y.toUInt64).toNat = _
  have h1 : x.toUInt64.toNat < 18446744073709551616 := x.toUInt64.toNat_lt
  have h2 : y.toUInt64.toNat ≤ x.toUInt64.toNat := h
  rw [UInt64.toNat_sub]
  show (18446744073709551616 - y.toUInt64.toNat + x.toUInt64.toNat) % 18446744073709551616 = x.toUInt64.toNat - y.toUInt64.toNat
  omega
theorem uN_shr (x : Int64) (s : UInt64) : uN (x.toUInt64 >>> s).toInt64 = uN x / 2 ^ (s.toNat % 64) := by
  show (x.toUInt64 >>> s).toNat = _
  rw [UInt64.toNat_shiftRight, Nat.shiftRight_eq_div_pow]
  rfl
theorem uN_lu (x : Int64) (y : Int32) (k D : Nat) (h : (y.toInt64.toUInt64 &&& Int64.toUInt64 63).toNat % 64 = k) (hD : 2 ^ k = D) : uN (lushr x y) = uN x / D := by
  unfold lushr
  rw [uN_shr, h, hD]
theorem bs4 {p0 p1 p2 p3 p4 p5 p6 p7 : Nat} : p0 + 256 * (p1 + 256 * (p2 + 256 * (p3 + 256 * (p4 + 256 * (p5 + 256 * (p6 + 256 * p7)))))) + (p1 + 256 * (p2 + 256 * (p3 + 256 * (p4 + 256 * (p5 + 256 * (p6 + 256 * p7)))))) = ((p0 + p1) + 256 * (p1 + p2)) + 65536 * ((p2 + p3) + 256 * (p3 + p4) + 65536 * (p4 + p5) + 16777216 * (p5 + p6) + 4294967296 * (p6 + p7) + 1099511627776 * p7) := by omega
theorem bs5 {p0 p1 p2 p3 p4 p5 p6 p7 : Nat} : ((p0 + p1) + 256 * (p1 + p2)) + 65536 * ((p2 + p3) + 256 * (p3 + p4) + 65536 * (p4 + p5) + 16777216 * (p5 + p6) + 4294967296 * (p6 + p7) + 1099511627776 * p7) + ((p2 + p3) + 256 * (p3 + p4) + 65536 * (p4 + p5) + 16777216 * (p5 + p6) + 4294967296 * (p6 + p7) + 1099511627776 * p7) = ((p0 + p1 + p2 + p3) + 256 * (p1 + p2 + p3 + p4) + 65536 * (p2 + p3 + p4 + p5) + 16777216 * (p3 + p4 + p5 + p6)) + 4294967296 * ((p4 + p5 + p6 + p7) + 256 * (p5 + p6 + p7) + 65536 * (p6 + p7) + 16777216 * p7) := by omega
theorem bs6 {p0 p1 p2 p3 p4 p5 p6 p7 : Nat} : (p0 + p1 + p2 + p3) + 256 * (p1 + p2 + p3 + p4) + 65536 * (p2 + p3 + p4 + p5) + 16777216 * (p3 + p4 + p5 + p6) + 4294967296 * ((p4 + p5 + p6 + p7) + 256 * (p5 + p6 + p7) + 65536 * (p6 + p7) + 16777216 * p7) + ((p4 + p5 + p6 + p7) + 256 * (p5 + p6 + p7) + 65536 * (p6 + p7) + 16777216 * p7) = (p0 + p1 + p2 + p3 + p4 + p5 + p6 + p7) + 256 * ((p1 + p2 + p3 + p4 + p5 + p6 + p7) + 256 * (p2 + p3 + p4 + p5 + p6 + p7) + 65536 * (p3 + p4 + p5 + p6 + p7) + 16777216 * (p4 + p5 + p6 + p7) + 4294967296 * (p5 + p6 + p7) + 1099511627776 * (p6 + p7) + 281474976710656 * p7) := by omega
theorem bb4 {p0 p1 p2 p3 p4 p5 p6 p7 : Nat} (q0 : p0 ≤ 8) (q1 : p1 ≤ 8) (q2 : p2 ≤ 8) (q3 : p3 ≤ 8) (q4 : p4 ≤ 8) (q5 : p5 ≤ 8) (q6 : p6 ≤ 8) (q7 : p7 ≤ 8) : ((p0 + p1) + 256 * (p1 + p2)) + 65536 * ((p2 + p3) + 256 * (p3 + p4) + 65536 * (p4 + p5) + 16777216 * (p5 + p6) + 4294967296 * (p6 + p7) + 1099511627776 * p7) < 18446744073709551616 := by omega
theorem bb5 {p0 p1 p2 p3 p4 p5 p6 p7 : Nat} (q0 : p0 ≤ 8) (q1 : p1 ≤ 8) (q2 : p2 ≤ 8) (q3 : p3 ≤ 8) (q4 : p4 ≤ 8) (q5 : p5 ≤ 8) (q6 : p6 ≤ 8) (q7 : p7 ≤ 8) : ((p0 + p1 + p2 + p3) + 256 * (p1 + p2 + p3 + p4) + 65536 * (p2 + p3 + p4 + p5) + 16777216 * (p3 + p4 + p5 + p6)) + 4294967296 * ((p4 + p5 + p6 + p7) + 256 * (p5 + p6 + p7) + 65536 * (p6 + p7) + 16777216 * p7) < 18446744073709551616 := by omega
theorem bb6 {p0 p1 p2 p3 p4 p5 p6 p7 : Nat} (q0 : p0 ≤ 8) (q1 : p1 ≤ 8) (q2 : p2 ≤ 8) (q3 : p3 ≤ 8) (q4 : p4 ≤ 8) (q5 : p5 ≤ 8) (q6 : p6 ≤ 8) (q7 : p7 ≤ 8) : (p0 + p1 + p2 + p3 + p4 + p5 + p6 + p7) + 256 * ((p1 + p2 + p3 + p4 + p5 + p6 + p7) + 256 * (p2 + p3 + p4 + p5 + p6 + p7) + 65536 * (p3 + p4 + p5 + p6 + p7) + 16777216 * (p4 + p5 + p6 + p7) + 4294967296 * (p5 + p6 + p7) + 1099511627776 * (p6 + p7) + 281474976710656 * p7) < 18446744073709551616 := by omega
theorem bb7 {p0 p1 p2 p3 : Nat} (q0 : p0 ≤ 16) (q1 : p1 ≤ 16) : p0 + 256 * p1 < 65536 := by omega
theorem bb8 {p0 p1 p2 p3 : Nat} (q0 : p0 ≤ 32) (q1 : p1 ≤ 32) (q2 : p2 ≤ 32) (q3 : p3 ≤ 32) : p0 + 256 * p1 + 65536 * p2 + 16777216 * p3 < 4294967296 := by omega
theorem bs7 {s T : Nat} (h : s ≤ 64) : (s + 256 * T) % 128 = s := by omega
def bc1 (x : Int64) : Int64 := x - ((lushr x (1 : Int32)) &&& (6148914691236517205 : Int64))
def bc2 (x : Int64) : Int64 := (x &&& (3689348814741910323 : Int64)) + ((lushr x (2 : Int32)) &&& (3689348814741910323 : Int64))
def bc3 (x : Int64) : Int64 := (x + (lushr x (4 : Int32))) &&& (1085102592571150095 : Int64)
def bc4 (x : Int64) : Int64 := x + (lushr x (8 : Int32))
def bc5 (x : Int64) : Int64 := x + (lushr x (16 : Int32))
def bc6 (x : Int64) : Int64 := x + (lushr x (32 : Int32))
theorem bitCount_r (x : Int64) (w : xSt) : f_J13_bitCount_95d88 x w = some ((bc6 (bc5 (bc4 (bc3 (bc2 (bc1 x)))))).toInt32 &&& (127 : Int32), w) := rfl
theorem bitCountL_E (x : Int64) (w : xSt) : f_J13_bitCount_95d88 x w = some (nI (fb_ct (bt6 x) 64), w) := by
  have m55 : uN (6148914691236517205 : Int64) = bM 85 8 := by decide +kernel
  have m33 : uN (3689348814741910323 : Int64) = bM 51 8 := by decide +kernel
  have m0f : uN (1085102592571150095 : Int64) = bM 15 8 := by decide +kernel
  have b33 : bM 51 8 = 3689348814741910323 := by decide +kernel
  have hx := uN_lt x
  have u1 : uN (bc1 x) = bA1 8 (uN x) := by
    unfold bc1 bA1
    have e : uN (lushr x (1 : Int32) &&& (6148914691236517205 : Int64)) = (uN x / 2) &&& bM 85 8 := by
      rw [uN_and, m55, uN_lu x 1 1 2 (by decide +kernel) (by decide +kernel)]
    have : (uN x / 2) &&& bM 85 8 ≤ uN x / 2 := Nat.and_le_left
    rw [uN_sub (by rw [e]; omega), e]
  have u2' : uN (bc2 (bc1 x)) = bA2 8 (bA1 8 (uN x)) := by
    unfold bc2 bA2
    rw [uN_add, uN_and, uN_and, m33, uN_lu _ 2 2 4 (by decide +kernel) (by decide +kernel), u1]
    have h1 : bA1 8 (uN x) &&& bM 51 8 ≤ bM 51 8 := Nat.and_le_right
    have h2 : bA1 8 (uN x) / 4 &&& bM 51 8 ≤ bM 51 8 := Nat.and_le_right
    show _ = (bA1 8 (uN x) &&& bM 51 8) + (bA1 8 (uN x) / 4 &&& bM 51 8)
    omega
  have h2b : bA2 8 (bA1 8 (uN x)) ≤ 7378697629483820646 := by
    unfold bA2
    have h1 : bA1 8 (uN x) &&& bM 51 8 ≤ bM 51 8 := Nat.and_le_right
    have h2 : bA1 8 (uN x) / 4 &&& bM 51 8 ≤ bM 51 8 := Nat.and_le_right
    omega
  have u3 : uN (bc3 (bc2 (bc1 x))) = bT 8 (uN x) := by
    unfold bc3 bT
    rw [uN_and, uN_add, m0f, uN_lu _ 4 4 16 (by decide +kernel) (by decide +kernel), u2']
    unfold bA3
    rw [Nat.mod_eq_of_lt (by omega)]
  obtain ⟨p0, p1, p2, p3, p4, p5, p6, p7, ⟨q0, q1, q2, q3, q4, q5, q6, q7⟩, e3, e7⟩ := b_all (N := uN x) hx
  rw [← u3] at e3
  have e7' : fb_ct (bt6 x) 64 = p0 + p1 + p2 + p3 + p4 + p5 + p6 + p7 := by
    rw [← e7]
    exact fb_ct_cong (fun j _ => rfl)
  rw [bitCount_r, e7']
  generalize bc3 (bc2 (bc1 x)) = Y at e3 ⊢
  clear u1 u2' h2b u3 e7 e7' hx m55 m33 m0f b33
  have s4 : p0 < 256 := Nat.lt_of_le_of_lt q0 (by decide)
  have s5 : (p0 + p1) + 256 * (p1 + p2) < 65536 := bb7 (p2 := 0) (p3 := 0) (Nat.add_le_add q0 q1) (Nat.add_le_add q1 q2)
  have s6 : (p0 + p1 + p2 + p3) + 256 * (p1 + p2 + p3 + p4) + 65536 * (p2 + p3 + p4 + p5) + 16777216 * (p3 + p4 + p5 + p6) < 4294967296 := bb8 (Nat.add_le_add (Nat.add_le_add (Nat.add_le_add q0 q1) q2) q3) (Nat.add_le_add (Nat.add_le_add (Nat.add_le_add q1 q2) q3) q4) (Nat.add_le_add (Nat.add_le_add (Nat.add_le_add q2 q3) q4) q5) (Nat.add_le_add (Nat.add_le_add (Nat.add_le_add q3 q4) q5) q6)
  have s7 : p0 + p1 + p2 + p3 + p4 + p5 + p6 + p7 ≤ 64 := Nat.add_le_add (Nat.add_le_add (Nat.add_le_add (Nat.add_le_add (Nat.add_le_add (Nat.add_le_add (Nat.add_le_add q0 q1) q2) q3) q4) q5) q6) q7
  have e4 : uN (bc4 Y) = ((p0 + p1) + 256 * (p1 + p2)) + 65536 * ((p2 + p3) + 256 * (p3 + p4) + 65536 * (p4 + p5) + 16777216 * (p5 + p6) + 4294967296 * (p6 + p7) + 1099511627776 * p7) := by
    unfold bc4
    have d : uN Y / 256 = p1 + 256 * (p2 + 256 * (p3 + 256 * (p4 + 256 * (p5 + 256 * (p6 + 256 * p7))))) := by
      rw [e3]
      exact b_dv s4
    rw [uN_add, uN_lu _ 8 8 256 (by decide +kernel) (by decide +kernel), d, e3, bs4]
    exact Nat.mod_eq_of_lt (bb4 q0 q1 q2 q3 q4 q5 q6 q7)
  have e5 : uN (bc5 (bc4 Y)) = ((p0 + p1 + p2 + p3) + 256 * (p1 + p2 + p3 + p4) + 65536 * (p2 + p3 + p4 + p5) + 16777216 * (p3 + p4 + p5 + p6)) + 4294967296 * ((p4 + p5 + p6 + p7) + 256 * (p5 + p6 + p7) + 65536 * (p6 + p7) + 16777216 * p7) := by
    unfold bc5
    have d : uN (bc4 Y) / 65536 = (p2 + p3) + 256 * (p3 + p4) + 65536 * (p4 + p5) + 16777216 * (p5 + p6) + 4294967296 * (p6 + p7) + 1099511627776 * p7 := by
      rw [e4]
      exact b_dv s5
    rw [uN_add, uN_lu _ 16 16 65536 (by decide +kernel) (by decide +kernel), d, e4, bs5]
    exact Nat.mod_eq_of_lt (bb5 q0 q1 q2 q3 q4 q5 q6 q7)
  have e6 : uN (bc6 (bc5 (bc4 Y))) % 128 = p0 + p1 + p2 + p3 + p4 + p5 + p6 + p7 := by
    unfold bc6
    have d : uN (bc5 (bc4 Y)) / 4294967296 = (p4 + p5 + p6 + p7) + 256 * (p5 + p6 + p7) + 65536 * (p6 + p7) + 16777216 * p7 := by
      rw [e5]
      exact b_dv s6
    rw [uN_add, uN_lu _ 32 32 4294967296 (by decide +kernel) (by decide +kernel), d, e5, bs6, Nat.mod_eq_of_lt (bb6 q0 q1 q2 q3 q4 q5 q6 q7)]
    exact bs7 s7
  clear e3 e4 e5 s4 s5 s6 s7 q0 q1 q2 q3 q4 q5 q6 q7
  have t : ∀ y : Int64, y.toInt32.toBitVec.toNat = uN y % 4294967296 := by
    intro y
    rw [Int64.toBitVec_toInt32, BitVec.signExtend_eq_setWidth_of_le _ (by omega), BitVec.toNat_setWidth]
    rfl
  rw [← e6, pk_and _ 7 (by decide +kernel), t]
  have e8 : uN (bc6 (bc5 (bc4 Y))) % 4294967296 % 2 ^ 7 = uN (bc6 (bc5 (bc4 Y))) % 128 := by
    generalize uN (bc6 (bc5 (bc4 Y))) = U
    omega
  rw [e8]
end BITCNT2
