/-! THE SHAPE: tags, lengths and references of the cells behind the two constructors; n stands more, the floor of z cells, a script of L ints -/
def xTB : List Nat := [0, 10, 0, 21, 20, 5, 24, 2, 7, 22, 9, 25, 8, 20, 20, 8, 20, 20, 8, 20, 20, 8, 20, 20, 8, 20, 20, 8, 20, 20, 9, 25, 8, 20, 20, 8, 20, 20, 8, 20, 20, 8, 20, 20, 8, 20, 20, 8, 20, 20, 3, 20, 20, 20, 20, 1, 4, 11, 20, 20, 20, 20, 20, 20, 20, 20, 20, 20, 23, 23, 20, 20, 20, 20, 20, 20, 20, 20, 20, 20, 20, 20, 23, 20, 20, 23, 20, 20]
def xNB (z : Nat) : List Nat := [0, 0, 0, 4, z, 0, 9, 0, 0, 120, 0, 6, 0, 5, 5, 0, 5, 5, 0, 5, 5, 0, 5, 5, 0, 5, 5, 0, 5, 5, 0, 6, 0, 5, 5, 0, 5, 5, 0, 5, 5, 0, 5, 5, 0, 5, 5, 0, 5, 5, 0, 12, 12, 108, 108, 0, 0, 0, 64, 64, 9, 9, 9, 9, 9, 9, 9, 9, 9, 9, 120, 2, 12, 36, 12, 48, 60, 12, 12, 108, 108, 10, 64, 64, 512, 512, 18, 64]
def xRB (n : Nat) : List (List Nat) := [[], [2, 5, 7, 8, 10, 30, 50, 55, 56], [0, 0, 0, 0, 0, 0, 3, 4], [], [], [2, 6], (List.range n).map (fun s => 88 + s), [2, 5], [9], [], [11], [12, 15, 18, 21, 24, 27], [13, 14], [], [], [16, 17], [], [], [19, 20], [], [], [22, 23], [], [], [25, 26], [], [], [28, 29], [], [], [31], [32, 35, 38, 41, 44, 47], [33, 34], [], [], [36, 37], [], [], [39, 40], [], [], [42, 43], [], [], [45, 46], [], [], [48, 49], [], [], [51, 52, 53, 54], [], [], [], [], [], [], [0, 0, 58, 59, 0, 0, 60, 61, 62, 63, 64, 65, 66, 67, 68, 69, 70, 0, 71, 72, 73, 74, 75, 76, 0, 77, 78, 79, 80, 0, 0, 0, 0, 0, 0, 0, 0, 81, 0, 0, 82, 83, 0, 84, 85, 0, 0, 0, 86, 87], [], [], [], [], [], [], [], [], [], [], [], [], [], [], [], [], [], [], [], [], [], [], [], [], [], [], [], [], [], []]
/-- a store by lists -/
def mkL (i : Nat → Nat → Int32) (l : Nat → Nat → Int64) (rt : List (List Nat)) (tt : List Nat) (nt : List Nat) (L : Nat) (Z : Nat) : xSt := (i, l, fun p k => (rt.getD p []).getD k 0, fun p => tt.getD p 0, fun p => if p = 1020 then L else nt.getD p 0, Z)
/-- the store behind the constructors, and n stands -/
def mkS (n z L : Nat) (i : Nat → Nat → Int32) (l : Nat → Nat → Int64) : xSt := mkL i l (xRB n) (xTB ++ List.replicate n 6) (xNB z) L (n + 87)
def u2 {α : Type} (f : Nat → Nat → α) (p k : Nat) (v : α) : Nat → Nat → α := fun q j => if q = p ∧ j = k then v else f q j
theorem u2_s {α : Type} (f : Nat → Nat → α) (p k : Nat) (v : α) : u2 f p k v p k = v := if_pos ⟨rfl, rfl⟩
theorem u2_n {α : Type} (f : Nat → Nat → α) {p k q j : Nat} (v : α) (h : ¬ (q = p ∧ j = k)) : u2 f p k v q j = f q j := if_neg h
theorem u2_p {α : Type} (f : Nat → Nat → α) {p k q j : Nat} (v : α) (h : q ≠ p) : u2 f p k v q j = f q j := if_neg (fun z => h z.1)
theorem u2_k {α : Type} (f : Nat → Nat → α) {p k q j : Nat} (v : α) (h : j ≠ k) : u2 f p k v q j = f q j := if_neg (fun z => h z.2)
section XLAY
variable (n z L : Nat) (i : Nat → Nat → Int32) (l : Nat → Nat → Int64)
theorem mI (p k : Nat) : wI (mkS n z L i l) p k = i p k := of_eq_true (eq_self _)
theorem mL (p k : Nat) : wL (mkS n z L i l) p k = l p k := of_eq_true (eq_self _)
theorem mZ : wZ (mkS n z L i l) = n + 87 := of_eq_true (eq_self _)
theorem msI (p k : Nat) (v : Int32) : sI (mkS n z L i l) p k v = mkS n z L (u2 i p k v) l := of_eq_true (eq_self _)
theorem msL (p k : Nat) (v : Int64) : sL (mkS n z L i l) p k v = mkS n z L i (u2 l p k v) := of_eq_true (eq_self _)
theorem mN1020 : wN (mkS n z L i l) 1020 = L := of_eq_true (eq_self _)
theorem gd_t {α : Type} {c : Prop} [Decidable c] {e : Option α} (h : c) : gd c e = e := if_pos h

theorem gC1 {α : Type} {d : Decidable (isC (mkS n z L i l) 1 10)} (e : Option α) : @gd α (isC (mkS n z L i l) 1 10) d e = e := if_pos ⟨by decide, by rw [mZ]; omega, rfl⟩
theorem mR1_0 : wR (mkS n z L i l) 1 0 = 2 := of_eq_true (eq_self _)
theorem mR1_1 : wR (mkS n z L i l) 1 1 = 5 := of_eq_true (eq_self _)
theorem mR1_2 : wR (mkS n z L i l) 1 2 = 7 := of_eq_true (eq_self _)
theorem mR1_3 : wR (mkS n z L i l) 1 3 = 8 := of_eq_true (eq_self _)
theorem mR1_4 : wR (mkS n z L i l) 1 4 = 10 := of_eq_true (eq_self _)
theorem mR1_5 : wR (mkS n z L i l) 1 5 = 30 := of_eq_true (eq_self _)
theorem mR1_6 : wR (mkS n z L i l) 1 6 = 50 := of_eq_true (eq_self _)
theorem mR1_7 : wR (mkS n z L i l) 1 7 = 55 := of_eq_true (eq_self _)
theorem mR1_8 : wR (mkS n z L i l) 1 8 = 56 := of_eq_true (eq_self _)
theorem gC2 {α : Type} {d : Decidable (isC (mkS n z L i l) 2 0)} (e : Option α) : @gd α (isC (mkS n z L i l) 2 0) d e = e := if_pos ⟨by decide, by rw [mZ]; omega, rfl⟩
theorem mR2_6 : wR (mkS n z L i l) 2 6 = 3 := of_eq_true (eq_self _)
theorem mR2_7 : wR (mkS n z L i l) 2 7 = 4 := of_eq_true (eq_self _)
theorem gC3 {α : Type} {d : Decidable (isC (mkS n z L i l) 3 21)} (e : Option α) : @gd α (isC (mkS n z L i l) 3 21) d e = e := if_pos ⟨by decide, by rw [mZ]; omega, rfl⟩
theorem mN3 : wN (mkS n z L i l) 3 = 4 := of_eq_true (eq_self _)
theorem gC4 {α : Type} {d : Decidable (isC (mkS n z L i l) 4 20)} (e : Option α) : @gd α (isC (mkS n z L i l) 4 20) d e = e := if_pos ⟨by decide, by rw [mZ]; omega, rfl⟩
theorem mN4 : wN (mkS n z L i l) 4 = z := of_eq_true (eq_self _)
theorem gC5 {α : Type} {d : Decidable (isC (mkS n z L i l) 5 5)} (e : Option α) : @gd α (isC (mkS n z L i l) 5 5) d e = e := if_pos ⟨by decide, by rw [mZ]; omega, rfl⟩
theorem mR5_0 : wR (mkS n z L i l) 5 0 = 2 := of_eq_true (eq_self _)
theorem mR5_1 : wR (mkS n z L i l) 5 1 = 6 := of_eq_true (eq_self _)
theorem gC6 {α : Type} {d : Decidable (isC (mkS n z L i l) 6 24)} (e : Option α) : @gd α (isC (mkS n z L i l) 6 24) d e = e := if_pos ⟨by decide, by rw [mZ]; omega, rfl⟩
theorem mN6 : wN (mkS n z L i l) 6 = 9 := of_eq_true (eq_self _)
theorem gC7 {α : Type} {d : Decidable (isC (mkS n z L i l) 7 2)} (e : Option α) : @gd α (isC (mkS n z L i l) 7 2) d e = e := if_pos ⟨by decide, by rw [mZ]; omega, rfl⟩
theorem mR7_0 : wR (mkS n z L i l) 7 0 = 2 := of_eq_true (eq_self _)
theorem mR7_1 : wR (mkS n z L i l) 7 1 = 5 := of_eq_true (eq_self _)
theorem gC8 {α : Type} {d : Decidable (isC (mkS n z L i l) 8 7)} (e : Option α) : @gd α (isC (mkS n z L i l) 8 7) d e = e := if_pos ⟨by decide, by rw [mZ]; omega, rfl⟩
theorem mR8_0 : wR (mkS n z L i l) 8 0 = 9 := of_eq_true (eq_self _)
theorem gC9 {α : Type} {d : Decidable (isC (mkS n z L i l) 9 22)} (e : Option α) : @gd α (isC (mkS n z L i l) 9 22) d e = e := if_pos ⟨by decide, by rw [mZ]; omega, rfl⟩
theorem mN9 : wN (mkS n z L i l) 9 = 120 := of_eq_true (eq_self _)
theorem gC10 {α : Type} {d : Decidable (isC (mkS n z L i l) 10 9)} (e : Option α) : @gd α (isC (mkS n z L i l) 10 9) d e = e := if_pos ⟨by decide, by rw [mZ]; omega, rfl⟩
theorem mR10_0 : wR (mkS n z L i l) 10 0 = 11 := of_eq_true (eq_self _)
theorem gC11 {α : Type} {d : Decidable (isC (mkS n z L i l) 11 25)} (e : Option α) : @gd α (isC (mkS n z L i l) 11 25) d e = e := if_pos ⟨by decide, by rw [mZ]; omega, rfl⟩
theorem mN11 : wN (mkS n z L i l) 11 = 6 := of_eq_true (eq_self _)
theorem mR11_0 : wR (mkS n z L i l) 11 0 = 12 := of_eq_true (eq_self _)
theorem mR11_1 : wR (mkS n z L i l) 11 1 = 15 := of_eq_true (eq_self _)
theorem mR11_2 : wR (mkS n z L i l) 11 2 = 18 := of_eq_true (eq_self _)
theorem mR11_3 : wR (mkS n z L i l) 11 3 = 21 := of_eq_true (eq_self _)
theorem mR11_4 : wR (mkS n z L i l) 11 4 = 24 := of_eq_true (eq_self _)
theorem mR11_5 : wR (mkS n z L i l) 11 5 = 27 := of_eq_true (eq_self _)
theorem gC12 {α : Type} {d : Decidable (isC (mkS n z L i l) 12 8)} (e : Option α) : @gd α (isC (mkS n z L i l) 12 8) d e = e := if_pos ⟨by decide, by rw [mZ]; omega, rfl⟩
theorem mR12_0 : wR (mkS n z L i l) 12 0 = 13 := of_eq_true (eq_self _)
theorem mR12_1 : wR (mkS n z L i l) 12 1 = 14 := of_eq_true (eq_self _)
theorem gC13 {α : Type} {d : Decidable (isC (mkS n z L i l) 13 20)} (e : Option α) : @gd α (isC (mkS n z L i l) 13 20) d e = e := if_pos ⟨by decide, by rw [mZ]; omega, rfl⟩
theorem mN13 : wN (mkS n z L i l) 13 = 5 := of_eq_true (eq_self _)
theorem gC14 {α : Type} {d : Decidable (isC (mkS n z L i l) 14 20)} (e : Option α) : @gd α (isC (mkS n z L i l) 14 20) d e = e := if_pos ⟨by decide, by rw [mZ]; omega, rfl⟩
theorem mN14 : wN (mkS n z L i l) 14 = 5 := of_eq_true (eq_self _)
theorem gC15 {α : Type} {d : Decidable (isC (mkS n z L i l) 15 8)} (e : Option α) : @gd α (isC (mkS n z L i l) 15 8) d e = e := if_pos ⟨by decide, by rw [mZ]; omega, rfl⟩
theorem mR15_0 : wR (mkS n z L i l) 15 0 = 16 := of_eq_true (eq_self _)
theorem mR15_1 : wR (mkS n z L i l) 15 1 = 17 := of_eq_true (eq_self _)
theorem gC16 {α : Type} {d : Decidable (isC (mkS n z L i l) 16 20)} (e : Option α) : @gd α (isC (mkS n z L i l) 16 20) d e = e := if_pos ⟨by decide, by rw [mZ]; omega, rfl⟩
theorem mN16 : wN (mkS n z L i l) 16 = 5 := of_eq_true (eq_self _)
theorem gC17 {α : Type} {d : Decidable (isC (mkS n z L i l) 17 20)} (e : Option α) : @gd α (isC (mkS n z L i l) 17 20) d e = e := if_pos ⟨by decide, by rw [mZ]; omega, rfl⟩
theorem mN17 : wN (mkS n z L i l) 17 = 5 := of_eq_true (eq_self _)
theorem gC18 {α : Type} {d : Decidable (isC (mkS n z L i l) 18 8)} (e : Option α) : @gd α (isC (mkS n z L i l) 18 8) d e = e := if_pos ⟨by decide, by rw [mZ]; omega, rfl⟩
theorem mR18_0 : wR (mkS n z L i l) 18 0 = 19 := of_eq_true (eq_self _)
theorem mR18_1 : wR (mkS n z L i l) 18 1 = 20 := of_eq_true (eq_self _)
theorem gC19 {α : Type} {d : Decidable (isC (mkS n z L i l) 19 20)} (e : Option α) : @gd α (isC (mkS n z L i l) 19 20) d e = e := if_pos ⟨by decide, by rw [mZ]; omega, rfl⟩
theorem mN19 : wN (mkS n z L i l) 19 = 5 := of_eq_true (eq_self _)
theorem gC20 {α : Type} {d : Decidable (isC (mkS n z L i l) 20 20)} (e : Option α) : @gd α (isC (mkS n z L i l) 20 20) d e = e := if_pos ⟨by decide, by rw [mZ]; omega, rfl⟩
theorem mN20 : wN (mkS n z L i l) 20 = 5 := of_eq_true (eq_self _)
theorem gC21 {α : Type} {d : Decidable (isC (mkS n z L i l) 21 8)} (e : Option α) : @gd α (isC (mkS n z L i l) 21 8) d e = e := if_pos ⟨by decide, by rw [mZ]; omega, rfl⟩
theorem mR21_0 : wR (mkS n z L i l) 21 0 = 22 := of_eq_true (eq_self _)
theorem mR21_1 : wR (mkS n z L i l) 21 1 = 23 := of_eq_true (eq_self _)
theorem gC22 {α : Type} {d : Decidable (isC (mkS n z L i l) 22 20)} (e : Option α) : @gd α (isC (mkS n z L i l) 22 20) d e = e := if_pos ⟨by decide, by rw [mZ]; omega, rfl⟩
theorem mN22 : wN (mkS n z L i l) 22 = 5 := of_eq_true (eq_self _)
theorem gC23 {α : Type} {d : Decidable (isC (mkS n z L i l) 23 20)} (e : Option α) : @gd α (isC (mkS n z L i l) 23 20) d e = e := if_pos ⟨by decide, by rw [mZ]; omega, rfl⟩
theorem mN23 : wN (mkS n z L i l) 23 = 5 := of_eq_true (eq_self _)
theorem gC24 {α : Type} {d : Decidable (isC (mkS n z L i l) 24 8)} (e : Option α) : @gd α (isC (mkS n z L i l) 24 8) d e = e := if_pos ⟨by decide, by rw [mZ]; omega, rfl⟩
theorem mR24_0 : wR (mkS n z L i l) 24 0 = 25 := of_eq_true (eq_self _)
theorem mR24_1 : wR (mkS n z L i l) 24 1 = 26 := of_eq_true (eq_self _)
theorem gC25 {α : Type} {d : Decidable (isC (mkS n z L i l) 25 20)} (e : Option α) : @gd α (isC (mkS n z L i l) 25 20) d e = e := if_pos ⟨by decide, by rw [mZ]; omega, rfl⟩
theorem mN25 : wN (mkS n z L i l) 25 = 5 := of_eq_true (eq_self _)
theorem gC26 {α : Type} {d : Decidable (isC (mkS n z L i l) 26 20)} (e : Option α) : @gd α (isC (mkS n z L i l) 26 20) d e = e := if_pos ⟨by decide, by rw [mZ]; omega, rfl⟩
theorem mN26 : wN (mkS n z L i l) 26 = 5 := of_eq_true (eq_self _)
theorem gC27 {α : Type} {d : Decidable (isC (mkS n z L i l) 27 8)} (e : Option α) : @gd α (isC (mkS n z L i l) 27 8) d e = e := if_pos ⟨by decide, by rw [mZ]; omega, rfl⟩
theorem mR27_0 : wR (mkS n z L i l) 27 0 = 28 := of_eq_true (eq_self _)
theorem mR27_1 : wR (mkS n z L i l) 27 1 = 29 := of_eq_true (eq_self _)
theorem gC28 {α : Type} {d : Decidable (isC (mkS n z L i l) 28 20)} (e : Option α) : @gd α (isC (mkS n z L i l) 28 20) d e = e := if_pos ⟨by decide, by rw [mZ]; omega, rfl⟩
theorem mN28 : wN (mkS n z L i l) 28 = 5 := of_eq_true (eq_self _)
theorem gC29 {α : Type} {d : Decidable (isC (mkS n z L i l) 29 20)} (e : Option α) : @gd α (isC (mkS n z L i l) 29 20) d e = e := if_pos ⟨by decide, by rw [mZ]; omega, rfl⟩
theorem mN29 : wN (mkS n z L i l) 29 = 5 := of_eq_true (eq_self _)
theorem gC30 {α : Type} {d : Decidable (isC (mkS n z L i l) 30 9)} (e : Option α) : @gd α (isC (mkS n z L i l) 30 9) d e = e := if_pos ⟨by decide, by rw [mZ]; omega, rfl⟩
theorem mR30_0 : wR (mkS n z L i l) 30 0 = 31 := of_eq_true (eq_self _)
theorem gC31 {α : Type} {d : Decidable (isC (mkS n z L i l) 31 25)} (e : Option α) : @gd α (isC (mkS n z L i l) 31 25) d e = e := if_pos ⟨by decide, by rw [mZ]; omega, rfl⟩
theorem mN31 : wN (mkS n z L i l) 31 = 6 := of_eq_true (eq_self _)
theorem mR31_0 : wR (mkS n z L i l) 31 0 = 32 := of_eq_true (eq_self _)
theorem mR31_1 : wR (mkS n z L i l) 31 1 = 35 := of_eq_true (eq_self _)
theorem mR31_2 : wR (mkS n z L i l) 31 2 = 38 := of_eq_true (eq_self _)
theorem mR31_3 : wR (mkS n z L i l) 31 3 = 41 := of_eq_true (eq_self _)
theorem mR31_4 : wR (mkS n z L i l) 31 4 = 44 := of_eq_true (eq_self _)
theorem mR31_5 : wR (mkS n z L i l) 31 5 = 47 := of_eq_true (eq_self _)
theorem gC32 {α : Type} {d : Decidable (isC (mkS n z L i l) 32 8)} (e : Option α) : @gd α (isC (mkS n z L i l) 32 8) d e = e := if_pos ⟨by decide, by rw [mZ]; omega, rfl⟩
theorem mR32_0 : wR (mkS n z L i l) 32 0 = 33 := of_eq_true (eq_self _)
theorem mR32_1 : wR (mkS n z L i l) 32 1 = 34 := of_eq_true (eq_self _)
theorem gC33 {α : Type} {d : Decidable (isC (mkS n z L i l) 33 20)} (e : Option α) : @gd α (isC (mkS n z L i l) 33 20) d e = e := if_pos ⟨by decide, by rw [mZ]; omega, rfl⟩
theorem mN33 : wN (mkS n z L i l) 33 = 5 := of_eq_true (eq_self _)
theorem gC34 {α : Type} {d : Decidable (isC (mkS n z L i l) 34 20)} (e : Option α) : @gd α (isC (mkS n z L i l) 34 20) d e = e := if_pos ⟨by decide, by rw [mZ]; omega, rfl⟩
theorem mN34 : wN (mkS n z L i l) 34 = 5 := of_eq_true (eq_self _)
theorem gC35 {α : Type} {d : Decidable (isC (mkS n z L i l) 35 8)} (e : Option α) : @gd α (isC (mkS n z L i l) 35 8) d e = e := if_pos ⟨by decide, by rw [mZ]; omega, rfl⟩
theorem mR35_0 : wR (mkS n z L i l) 35 0 = 36 := of_eq_true (eq_self _)
theorem mR35_1 : wR (mkS n z L i l) 35 1 = 37 := of_eq_true (eq_self _)
theorem gC36 {α : Type} {d : Decidable (isC (mkS n z L i l) 36 20)} (e : Option α) : @gd α (isC (mkS n z L i l) 36 20) d e = e := if_pos ⟨by decide, by rw [mZ]; omega, rfl⟩
theorem mN36 : wN (mkS n z L i l) 36 = 5 := of_eq_true (eq_self _)
theorem gC37 {α : Type} {d : Decidable (isC (mkS n z L i l) 37 20)} (e : Option α) : @gd α (isC (mkS n z L i l) 37 20) d e = e := if_pos ⟨by decide, by rw [mZ]; omega, rfl⟩
theorem mN37 : wN (mkS n z L i l) 37 = 5 := of_eq_true (eq_self _)
theorem gC38 {α : Type} {d : Decidable (isC (mkS n z L i l) 38 8)} (e : Option α) : @gd α (isC (mkS n z L i l) 38 8) d e = e := if_pos ⟨by decide, by rw [mZ]; omega, rfl⟩
theorem mR38_0 : wR (mkS n z L i l) 38 0 = 39 := of_eq_true (eq_self _)
theorem mR38_1 : wR (mkS n z L i l) 38 1 = 40 := of_eq_true (eq_self _)
theorem gC39 {α : Type} {d : Decidable (isC (mkS n z L i l) 39 20)} (e : Option α) : @gd α (isC (mkS n z L i l) 39 20) d e = e := if_pos ⟨by decide, by rw [mZ]; omega, rfl⟩
theorem mN39 : wN (mkS n z L i l) 39 = 5 := of_eq_true (eq_self _)
theorem gC40 {α : Type} {d : Decidable (isC (mkS n z L i l) 40 20)} (e : Option α) : @gd α (isC (mkS n z L i l) 40 20) d e = e := if_pos ⟨by decide, by rw [mZ]; omega, rfl⟩
theorem mN40 : wN (mkS n z L i l) 40 = 5 := of_eq_true (eq_self _)
theorem gC41 {α : Type} {d : Decidable (isC (mkS n z L i l) 41 8)} (e : Option α) : @gd α (isC (mkS n z L i l) 41 8) d e = e := if_pos ⟨by decide, by rw [mZ]; omega, rfl⟩
theorem mR41_0 : wR (mkS n z L i l) 41 0 = 42 := of_eq_true (eq_self _)
theorem mR41_1 : wR (mkS n z L i l) 41 1 = 43 := of_eq_true (eq_self _)
theorem gC42 {α : Type} {d : Decidable (isC (mkS n z L i l) 42 20)} (e : Option α) : @gd α (isC (mkS n z L i l) 42 20) d e = e := if_pos ⟨by decide, by rw [mZ]; omega, rfl⟩
theorem mN42 : wN (mkS n z L i l) 42 = 5 := of_eq_true (eq_self _)
theorem gC43 {α : Type} {d : Decidable (isC (mkS n z L i l) 43 20)} (e : Option α) : @gd α (isC (mkS n z L i l) 43 20) d e = e := if_pos ⟨by decide, by rw [mZ]; omega, rfl⟩
theorem mN43 : wN (mkS n z L i l) 43 = 5 := of_eq_true (eq_self _)
theorem gC44 {α : Type} {d : Decidable (isC (mkS n z L i l) 44 8)} (e : Option α) : @gd α (isC (mkS n z L i l) 44 8) d e = e := if_pos ⟨by decide, by rw [mZ]; omega, rfl⟩
theorem mR44_0 : wR (mkS n z L i l) 44 0 = 45 := of_eq_true (eq_self _)
theorem mR44_1 : wR (mkS n z L i l) 44 1 = 46 := of_eq_true (eq_self _)
theorem gC45 {α : Type} {d : Decidable (isC (mkS n z L i l) 45 20)} (e : Option α) : @gd α (isC (mkS n z L i l) 45 20) d e = e := if_pos ⟨by decide, by rw [mZ]; omega, rfl⟩
theorem mN45 : wN (mkS n z L i l) 45 = 5 := of_eq_true (eq_self _)
theorem gC46 {α : Type} {d : Decidable (isC (mkS n z L i l) 46 20)} (e : Option α) : @gd α (isC (mkS n z L i l) 46 20) d e = e := if_pos ⟨by decide, by rw [mZ]; omega, rfl⟩
theorem mN46 : wN (mkS n z L i l) 46 = 5 := of_eq_true (eq_self _)
theorem gC47 {α : Type} {d : Decidable (isC (mkS n z L i l) 47 8)} (e : Option α) : @gd α (isC (mkS n z L i l) 47 8) d e = e := if_pos ⟨by decide, by rw [mZ]; omega, rfl⟩
theorem mR47_0 : wR (mkS n z L i l) 47 0 = 48 := of_eq_true (eq_self _)
theorem mR47_1 : wR (mkS n z L i l) 47 1 = 49 := of_eq_true (eq_self _)
theorem gC48 {α : Type} {d : Decidable (isC (mkS n z L i l) 48 20)} (e : Option α) : @gd α (isC (mkS n z L i l) 48 20) d e = e := if_pos ⟨by decide, by rw [mZ]; omega, rfl⟩
theorem mN48 : wN (mkS n z L i l) 48 = 5 := of_eq_true (eq_self _)
theorem gC49 {α : Type} {d : Decidable (isC (mkS n z L i l) 49 20)} (e : Option α) : @gd α (isC (mkS n z L i l) 49 20) d e = e := if_pos ⟨by decide, by rw [mZ]; omega, rfl⟩
theorem mN49 : wN (mkS n z L i l) 49 = 5 := of_eq_true (eq_self _)
theorem gC50 {α : Type} {d : Decidable (isC (mkS n z L i l) 50 3)} (e : Option α) : @gd α (isC (mkS n z L i l) 50 3) d e = e := if_pos ⟨by decide, by rw [mZ]; omega, rfl⟩
theorem mR50_0 : wR (mkS n z L i l) 50 0 = 51 := of_eq_true (eq_self _)
theorem mR50_1 : wR (mkS n z L i l) 50 1 = 52 := of_eq_true (eq_self _)
theorem mR50_2 : wR (mkS n z L i l) 50 2 = 53 := of_eq_true (eq_self _)
theorem mR50_3 : wR (mkS n z L i l) 50 3 = 54 := of_eq_true (eq_self _)
theorem gC51 {α : Type} {d : Decidable (isC (mkS n z L i l) 51 20)} (e : Option α) : @gd α (isC (mkS n z L i l) 51 20) d e = e := if_pos ⟨by decide, by rw [mZ]; omega, rfl⟩
theorem mN51 : wN (mkS n z L i l) 51 = 12 := of_eq_true (eq_self _)
theorem gC52 {α : Type} {d : Decidable (isC (mkS n z L i l) 52 20)} (e : Option α) : @gd α (isC (mkS n z L i l) 52 20) d e = e := if_pos ⟨by decide, by rw [mZ]; omega, rfl⟩
theorem mN52 : wN (mkS n z L i l) 52 = 12 := of_eq_true (eq_self _)
theorem gC53 {α : Type} {d : Decidable (isC (mkS n z L i l) 53 20)} (e : Option α) : @gd α (isC (mkS n z L i l) 53 20) d e = e := if_pos ⟨by decide, by rw [mZ]; omega, rfl⟩
theorem mN53 : wN (mkS n z L i l) 53 = 108 := of_eq_true (eq_self _)
theorem gC54 {α : Type} {d : Decidable (isC (mkS n z L i l) 54 20)} (e : Option α) : @gd α (isC (mkS n z L i l) 54 20) d e = e := if_pos ⟨by decide, by rw [mZ]; omega, rfl⟩
theorem mN54 : wN (mkS n z L i l) 54 = 108 := of_eq_true (eq_self _)
theorem gC55 {α : Type} {d : Decidable (isC (mkS n z L i l) 55 1)} (e : Option α) : @gd α (isC (mkS n z L i l) 55 1) d e = e := if_pos ⟨by decide, by rw [mZ]; omega, rfl⟩
theorem gC56 {α : Type} {d : Decidable (isC (mkS n z L i l) 56 4)} (e : Option α) : @gd α (isC (mkS n z L i l) 56 4) d e = e := if_pos ⟨by decide, by rw [mZ]; omega, rfl⟩
theorem gC57 {α : Type} {d : Decidable (isC (mkS n z L i l) 57 11)} (e : Option α) : @gd α (isC (mkS n z L i l) 57 11) d e = e := if_pos ⟨by decide, by rw [mZ]; omega, rfl⟩
theorem mR57_2 : wR (mkS n z L i l) 57 2 = 58 := of_eq_true (eq_self _)
theorem mR57_3 : wR (mkS n z L i l) 57 3 = 59 := of_eq_true (eq_self _)
theorem mR57_6 : wR (mkS n z L i l) 57 6 = 60 := of_eq_true (eq_self _)
theorem mR57_7 : wR (mkS n z L i l) 57 7 = 61 := of_eq_true (eq_self _)
theorem mR57_8 : wR (mkS n z L i l) 57 8 = 62 := of_eq_true (eq_self _)
theorem mR57_9 : wR (mkS n z L i l) 57 9 = 63 := of_eq_true (eq_self _)
theorem mR57_10 : wR (mkS n z L i l) 57 10 = 64 := of_eq_true (eq_self _)
theorem mR57_11 : wR (mkS n z L i l) 57 11 = 65 := of_eq_true (eq_self _)
theorem mR57_12 : wR (mkS n z L i l) 57 12 = 66 := of_eq_true (eq_self _)
theorem mR57_13 : wR (mkS n z L i l) 57 13 = 67 := of_eq_true (eq_self _)
theorem mR57_14 : wR (mkS n z L i l) 57 14 = 68 := of_eq_true (eq_self _)
theorem mR57_15 : wR (mkS n z L i l) 57 15 = 69 := of_eq_true (eq_self _)
theorem mR57_16 : wR (mkS n z L i l) 57 16 = 70 := of_eq_true (eq_self _)
theorem mR57_18 : wR (mkS n z L i l) 57 18 = 71 := of_eq_true (eq_self _)
theorem mR57_19 : wR (mkS n z L i l) 57 19 = 72 := of_eq_true (eq_self _)
theorem mR57_20 : wR (mkS n z L i l) 57 20 = 73 := of_eq_true (eq_self _)
theorem mR57_21 : wR (mkS n z L i l) 57 21 = 74 := of_eq_true (eq_self _)
theorem mR57_22 : wR (mkS n z L i l) 57 22 = 75 := of_eq_true (eq_self _)
theorem mR57_23 : wR (mkS n z L i l) 57 23 = 76 := of_eq_true (eq_self _)
theorem mR57_25 : wR (mkS n z L i l) 57 25 = 77 := of_eq_true (eq_self _)
theorem mR57_26 : wR (mkS n z L i l) 57 26 = 78 := of_eq_true (eq_self _)
theorem mR57_27 : wR (mkS n z L i l) 57 27 = 79 := of_eq_true (eq_self _)
theorem mR57_28 : wR (mkS n z L i l) 57 28 = 80 := of_eq_true (eq_self _)
theorem mR57_37 : wR (mkS n z L i l) 57 37 = 81 := of_eq_true (eq_self _)
theorem mR57_40 : wR (mkS n z L i l) 57 40 = 82 := of_eq_true (eq_self _)
theorem mR57_41 : wR (mkS n z L i l) 57 41 = 83 := of_eq_true (eq_self _)
theorem mR57_43 : wR (mkS n z L i l) 57 43 = 84 := of_eq_true (eq_self _)
theorem mR57_44 : wR (mkS n z L i l) 57 44 = 85 := of_eq_true (eq_self _)
theorem mR57_48 : wR (mkS n z L i l) 57 48 = 86 := of_eq_true (eq_self _)
theorem mR57_49 : wR (mkS n z L i l) 57 49 = 87 := of_eq_true (eq_self _)
theorem gC58 {α : Type} {d : Decidable (isC (mkS n z L i l) 58 20)} (e : Option α) : @gd α (isC (mkS n z L i l) 58 20) d e = e := if_pos ⟨by decide, by rw [mZ]; omega, rfl⟩
theorem mN58 : wN (mkS n z L i l) 58 = 64 := of_eq_true (eq_self _)
theorem gC59 {α : Type} {d : Decidable (isC (mkS n z L i l) 59 20)} (e : Option α) : @gd α (isC (mkS n z L i l) 59 20) d e = e := if_pos ⟨by decide, by rw [mZ]; omega, rfl⟩
theorem mN59 : wN (mkS n z L i l) 59 = 64 := of_eq_true (eq_self _)
theorem gC60 {α : Type} {d : Decidable (isC (mkS n z L i l) 60 20)} (e : Option α) : @gd α (isC (mkS n z L i l) 60 20) d e = e := if_pos ⟨by decide, by rw [mZ]; omega, rfl⟩
theorem mN60 : wN (mkS n z L i l) 60 = 9 := of_eq_true (eq_self _)
theorem gC61 {α : Type} {d : Decidable (isC (mkS n z L i l) 61 20)} (e : Option α) : @gd α (isC (mkS n z L i l) 61 20) d e = e := if_pos ⟨by decide, by rw [mZ]; omega, rfl⟩
theorem mN61 : wN (mkS n z L i l) 61 = 9 := of_eq_true (eq_self _)
theorem gC62 {α : Type} {d : Decidable (isC (mkS n z L i l) 62 20)} (e : Option α) : @gd α (isC (mkS n z L i l) 62 20) d e = e := if_pos ⟨by decide, by rw [mZ]; omega, rfl⟩
theorem mN62 : wN (mkS n z L i l) 62 = 9 := of_eq_true (eq_self _)
theorem gC63 {α : Type} {d : Decidable (isC (mkS n z L i l) 63 20)} (e : Option α) : @gd α (isC (mkS n z L i l) 63 20) d e = e := if_pos ⟨by decide, by rw [mZ]; omega, rfl⟩
theorem mN63 : wN (mkS n z L i l) 63 = 9 := of_eq_true (eq_self _)
theorem gC64 {α : Type} {d : Decidable (isC (mkS n z L i l) 64 20)} (e : Option α) : @gd α (isC (mkS n z L i l) 64 20) d e = e := if_pos ⟨by decide, by rw [mZ]; omega, rfl⟩
theorem mN64 : wN (mkS n z L i l) 64 = 9 := of_eq_true (eq_self _)
theorem gC65 {α : Type} {d : Decidable (isC (mkS n z L i l) 65 20)} (e : Option α) : @gd α (isC (mkS n z L i l) 65 20) d e = e := if_pos ⟨by decide, by rw [mZ]; omega, rfl⟩
theorem mN65 : wN (mkS n z L i l) 65 = 9 := of_eq_true (eq_self _)
theorem gC66 {α : Type} {d : Decidable (isC (mkS n z L i l) 66 20)} (e : Option α) : @gd α (isC (mkS n z L i l) 66 20) d e = e := if_pos ⟨by decide, by rw [mZ]; omega, rfl⟩
theorem mN66 : wN (mkS n z L i l) 66 = 9 := of_eq_true (eq_self _)
theorem gC67 {α : Type} {d : Decidable (isC (mkS n z L i l) 67 20)} (e : Option α) : @gd α (isC (mkS n z L i l) 67 20) d e = e := if_pos ⟨by decide, by rw [mZ]; omega, rfl⟩
theorem mN67 : wN (mkS n z L i l) 67 = 9 := of_eq_true (eq_self _)
theorem gC68 {α : Type} {d : Decidable (isC (mkS n z L i l) 68 23)} (e : Option α) : @gd α (isC (mkS n z L i l) 68 23) d e = e := if_pos ⟨by decide, by rw [mZ]; omega, rfl⟩
theorem mN68 : wN (mkS n z L i l) 68 = 9 := of_eq_true (eq_self _)
theorem gC69 {α : Type} {d : Decidable (isC (mkS n z L i l) 69 23)} (e : Option α) : @gd α (isC (mkS n z L i l) 69 23) d e = e := if_pos ⟨by decide, by rw [mZ]; omega, rfl⟩
theorem mN69 : wN (mkS n z L i l) 69 = 9 := of_eq_true (eq_self _)
theorem gC70 {α : Type} {d : Decidable (isC (mkS n z L i l) 70 20)} (e : Option α) : @gd α (isC (mkS n z L i l) 70 20) d e = e := if_pos ⟨by decide, by rw [mZ]; omega, rfl⟩
theorem mN70 : wN (mkS n z L i l) 70 = 120 := of_eq_true (eq_self _)
theorem gC71 {α : Type} {d : Decidable (isC (mkS n z L i l) 71 20)} (e : Option α) : @gd α (isC (mkS n z L i l) 71 20) d e = e := if_pos ⟨by decide, by rw [mZ]; omega, rfl⟩
theorem mN71 : wN (mkS n z L i l) 71 = 2 := of_eq_true (eq_self _)
theorem gC72 {α : Type} {d : Decidable (isC (mkS n z L i l) 72 20)} (e : Option α) : @gd α (isC (mkS n z L i l) 72 20) d e = e := if_pos ⟨by decide, by rw [mZ]; omega, rfl⟩
theorem mN72 : wN (mkS n z L i l) 72 = 12 := of_eq_true (eq_self _)
theorem gC73 {α : Type} {d : Decidable (isC (mkS n z L i l) 73 20)} (e : Option α) : @gd α (isC (mkS n z L i l) 73 20) d e = e := if_pos ⟨by decide, by rw [mZ]; omega, rfl⟩
theorem mN73 : wN (mkS n z L i l) 73 = 36 := of_eq_true (eq_self _)
theorem gC74 {α : Type} {d : Decidable (isC (mkS n z L i l) 74 20)} (e : Option α) : @gd α (isC (mkS n z L i l) 74 20) d e = e := if_pos ⟨by decide, by rw [mZ]; omega, rfl⟩
theorem mN74 : wN (mkS n z L i l) 74 = 12 := of_eq_true (eq_self _)
theorem gC75 {α : Type} {d : Decidable (isC (mkS n z L i l) 75 20)} (e : Option α) : @gd α (isC (mkS n z L i l) 75 20) d e = e := if_pos ⟨by decide, by rw [mZ]; omega, rfl⟩
theorem mN75 : wN (mkS n z L i l) 75 = 48 := of_eq_true (eq_self _)
theorem gC76 {α : Type} {d : Decidable (isC (mkS n z L i l) 76 20)} (e : Option α) : @gd α (isC (mkS n z L i l) 76 20) d e = e := if_pos ⟨by decide, by rw [mZ]; omega, rfl⟩
theorem mN76 : wN (mkS n z L i l) 76 = 60 := of_eq_true (eq_self _)
theorem gC77 {α : Type} {d : Decidable (isC (mkS n z L i l) 77 20)} (e : Option α) : @gd α (isC (mkS n z L i l) 77 20) d e = e := if_pos ⟨by decide, by rw [mZ]; omega, rfl⟩
theorem mN77 : wN (mkS n z L i l) 77 = 12 := of_eq_true (eq_self _)
theorem gC78 {α : Type} {d : Decidable (isC (mkS n z L i l) 78 20)} (e : Option α) : @gd α (isC (mkS n z L i l) 78 20) d e = e := if_pos ⟨by decide, by rw [mZ]; omega, rfl⟩
theorem mN78 : wN (mkS n z L i l) 78 = 12 := of_eq_true (eq_self _)
theorem gC79 {α : Type} {d : Decidable (isC (mkS n z L i l) 79 20)} (e : Option α) : @gd α (isC (mkS n z L i l) 79 20) d e = e := if_pos ⟨by decide, by rw [mZ]; omega, rfl⟩
theorem mN79 : wN (mkS n z L i l) 79 = 108 := of_eq_true (eq_self _)
theorem gC80 {α : Type} {d : Decidable (isC (mkS n z L i l) 80 20)} (e : Option α) : @gd α (isC (mkS n z L i l) 80 20) d e = e := if_pos ⟨by decide, by rw [mZ]; omega, rfl⟩
theorem mN80 : wN (mkS n z L i l) 80 = 108 := of_eq_true (eq_self _)
theorem gC81 {α : Type} {d : Decidable (isC (mkS n z L i l) 81 20)} (e : Option α) : @gd α (isC (mkS n z L i l) 81 20) d e = e := if_pos ⟨by decide, by rw [mZ]; omega, rfl⟩
theorem mN81 : wN (mkS n z L i l) 81 = 10 := of_eq_true (eq_self _)
theorem gC82 {α : Type} {d : Decidable (isC (mkS n z L i l) 82 23)} (e : Option α) : @gd α (isC (mkS n z L i l) 82 23) d e = e := if_pos ⟨by decide, by rw [mZ]; omega, rfl⟩
theorem mN82 : wN (mkS n z L i l) 82 = 64 := of_eq_true (eq_self _)
theorem gC83 {α : Type} {d : Decidable (isC (mkS n z L i l) 83 20)} (e : Option α) : @gd α (isC (mkS n z L i l) 83 20) d e = e := if_pos ⟨by decide, by rw [mZ]; omega, rfl⟩
theorem mN83 : wN (mkS n z L i l) 83 = 64 := of_eq_true (eq_self _)
theorem gC84 {α : Type} {d : Decidable (isC (mkS n z L i l) 84 20)} (e : Option α) : @gd α (isC (mkS n z L i l) 84 20) d e = e := if_pos ⟨by decide, by rw [mZ]; omega, rfl⟩
theorem mN84 : wN (mkS n z L i l) 84 = 512 := of_eq_true (eq_self _)
theorem gC85 {α : Type} {d : Decidable (isC (mkS n z L i l) 85 23)} (e : Option α) : @gd α (isC (mkS n z L i l) 85 23) d e = e := if_pos ⟨by decide, by rw [mZ]; omega, rfl⟩
theorem mN85 : wN (mkS n z L i l) 85 = 512 := of_eq_true (eq_self _)
theorem gC86 {α : Type} {d : Decidable (isC (mkS n z L i l) 86 20)} (e : Option α) : @gd α (isC (mkS n z L i l) 86 20) d e = e := if_pos ⟨by decide, by rw [mZ]; omega, rfl⟩
theorem mN86 : wN (mkS n z L i l) 86 = 18 := of_eq_true (eq_self _)
theorem gC87 {α : Type} {d : Decidable (isC (mkS n z L i l) 87 20)} (e : Option α) : @gd α (isC (mkS n z L i l) 87 20) d e = e := if_pos ⟨by decide, by rw [mZ]; omega, rfl⟩
theorem mN87 : wN (mkS n z L i l) 87 = 64 := of_eq_true (eq_self _)
theorem mC {p t : Nat} (h0 : p ≠ 0) (h1 : p < 88) (ht : xTB.getD p 0 = t) : isC (mkS n z L i l) p t := by
  refine ⟨h0, by rw [mZ]; omega, ?_⟩
  show (xTB ++ List.replicate n 6).getD p 0 = t
  rw [← ht, List.getD_eq_getElem?_getD, List.getD_eq_getElem?_getD, List.getElem?_append_left (by exact h1)]
theorem mCS {s : Nat} (h : s < n) : isC (mkS n z L i l) (88 + s) 6 := by
  refine ⟨by omega, by rw [mZ]; omega, ?_⟩
  show (xTB ++ List.replicate n 6).getD (88 + s) 0 = 6
  rw [List.getD_eq_getElem?_getD, List.getElem?_append_right (by show 88 ≤ 88 + s; omega)]
  rw [show 88 + s - xTB.length = s from by show 88 + s - 88 = s; omega, List.getElem?_replicate, if_pos h]
  rfl
theorem mR6 (s : Nat) : wR (mkS n z L i l) 6 s = if s < n then 88 + s else 0 := by
  show ((List.range n).map (fun s => 88 + s)).getD s 0 = _
  rw [List.getD_eq_getElem?_getD, List.getElem?_map]
  by_cases h : s < n
  · rw [if_pos h, List.getElem?_range h]; rfl
  · rw [if_neg h, List.getElem?_eq_none (by simp; omega)]; rfl
end XLAY
