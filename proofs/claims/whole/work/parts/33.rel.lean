/-! THE RELATION between the class's cells and the reference's: n stands, C columns, R rows, z cells -/
abbrev fI : Type := Nat → Nat → Int32
abbrev fL : Type := Nat → Nat → Int64
def bt6 (x : Int64) (c : Nat) : Bool := x.toBitVec.getLsbD c
/-- c lies in the rectangle of width wd and depth dp with its first cell at a -/
def cov (C wd dp a c : Nat) : Prop := (a % C ≤ c % C ∧ c % C < a % C + wd) ∧ (a / C ≤ c / C ∧ c / C < a / C + dp)
def covB (C wd dp a c : Nat) : Bool := (decide (a % C ≤ c % C) && decide (c % C < a % C + wd)) && (decide (a / C ≤ c / C) && decide (c / C < a / C + dp))
theorem covB_iff {C wd dp a c : Nat} : covB C wd dp a c = true ↔ cov C wd dp a c := by simp [covB, cov]
def RelD (C R z : Nat) (i : fI) : Prop := (3 ≤ C ∧ C ≤ 8 ∧ 3 ≤ R ∧ R ≤ 8 ∧ z = C * R) ∧ i 2 0 = nI C ∧ i 2 1 = nI R ∧ i 2 2 = nI z ∧ i 57 0 = nI C ∧ i 57 1 = nI R
def RelE (C R z : Nat) (l : fL) : Prop := (∀ c, bt6 (l 2 3) c = decide (c < z ∧ c % C = 0)) ∧ (∀ c, bt6 (l 2 4) c = decide (c < z ∧ c % C = C - 1)) ∧ (∀ c, bt6 (l 2 5) c = decide (c < z ∧ (c / C = 0 ∨ c / C = R - 1 ∨ c % C = 0 ∨ c % C = C - 1)))
def RelK (z : Nat) (i : fI) (l : fL) : Prop := (∀ c, c < z → ∃ t, t < 4 ∧ i 58 c = nI t) ∧ ∀ t, t < 4 → ∀ c, bt6 (l 3 t) c = decide (c < z ∧ i 58 c = nI t)
def RelB (z : Nat) (i : fI) : Prop := ∀ c, c < z → i 4 c = i 59 c
def RelG (i : fI) : Prop := i 5 3 = i 57 4 ∧ ∃ g, g ≤ 3 ∧ i 57 4 = nI g
def RelN (n : Nat) (i : fI) : Prop := n ≤ 9 ∧ i 5 2 = nI n ∧ i 57 5 = nI n
def RelF (n : Nat) (i : fI) : Prop := ∀ s, s < n → (i (88 + s) 0 = i 60 s ∧ i (88 + s) 1 = i 61 s ∧ i (88 + s) 2 = i 62 s ∧ i (88 + s) 3 = i 63 s ∧ i (88 + s) 4 = i 64 s ∧ i (88 + s) 5 = i 65 s ∧ i (88 + s) 6 = i 66 s ∧ i (88 + s) 8 = i 68 s ∧ i (88 + s) 9 = i 67 s ∧ i (88 + s) 10 = i 69 s)
def RelV (C R z n : Nat) (i : fI) : Prop := ∀ s, s < n → (∃ k, k ≤ 4 ∧ i 60 s = nI k) ∧ (i 68 s = 0 ∨ i 68 s = 1) ∧ (i 69 s = 0 ∨ i 69 s = 1) ∧ ∃ wd dp, (1 ≤ wd ∧ wd ≤ 4 ∧ i 63 s = nI wd) ∧ (1 ≤ dp ∧ dp ≤ 4 ∧ i 64 s = nI dp) ∧ (i 66 s = -1 ∨ ∃ a, a < z ∧ i 66 s = nI a ∧ a % C + wd ≤ C ∧ a / C + dp ≤ R)
def RelA (C z n : Nat) (i : fI) (l : fL) : Prop := ∀ s, s < n → (i 66 s = -1 → l (88 + s) 7 = 0) ∧ ∀ wd dp a, wd ≤ 4 → dp ≤ 4 → a < z → i 63 s = nI wd → i 64 s = nI dp → i 66 s = nI a → ∀ c, bt6 (l (88 + s) 7) c = (decide (c < z) && covB C wd dp a c)
def RelX (n : Nat) (i : fI) : Prop := ∀ s, n ≤ s → s < 9 → i 68 s = 0 ∧ i 69 s = 0 ∧ ∀ q, q < 12 → i 79 (9 * q + s) = -1
def RelT (i : fI) : Prop := ∃ t, t ≤ 120 ∧ i 8 1 = nI t ∧ i 57 17 = nI t ∧ ∀ j, j < t → ∃ b, b < 256 ∧ i 70 j = nI b ∧ i 9 j = (nI b).toInt8.toInt32
def RelJ (i : fI) : Prop := (∃ q, q ≤ 12 ∧ i 50 4 = nI q ∧ i 57 24 = nI q) ∧ (∀ q, q < 12 → i 51 q = i 77 q ∧ i 52 q = i 78 q) ∧ ∀ k, k < 108 → i 53 k = i 79 k ∧ i 54 k = i 80 k
def RelM (i : fI) : Prop := (∃ m, 1 ≤ m ∧ m ≤ 20000 ∧ i 55 0 = nI m ∧ i 57 29 = nI m) ∧ (∃ d, d ≤ 999 ∧ i 55 1 = nI d ∧ i 57 30 = nI d) ∧ (∃ m a b, m ≤ 600 ∧ a ≤ 20000 ∧ b ≤ 2000 * m ∧ i 55 2 = nI m ∧ i 57 31 = nI m ∧ i 55 3 = nI a ∧ i 57 32 = nI a ∧ i 55 4 = nI b ∧ i 57 33 = nI b) ∧ i 55 5 = i 57 34 ∧ i 55 6 = i 57 35
def RelL (z : Nat) (i : fI) : Prop := ∃ k, k ≤ 10 ∧ i 56 0 = nI k ∧ i 57 36 = nI k ∧ i 56 2 = i 57 38 ∧ (0 < k → (∃ c, c < z ∧ i 56 1 = nI c ∧ i 81 (k - 1) = nI c) ∧ ∃ m, m ≤ 10000 ∧ i 56 2 = nI m)
def RelO (i : fI) : Prop := i 1 9 = i 57 39
/-- laid stands lie on plain cells, and no two share one -/
def RelP (n : Nat) (l : fL) : Prop := ∀ s, s < n → ∀ c, bt6 (l (88 + s) 7) c = true → bt6 (l 3 0) c = true ∧ ∀ t, t < n → t ≠ s → bt6 (l (88 + t) 7) c = false
/-- the letters of the medals' names, as the reference keeps them -/
def RelY (i : fI) : Prop := ∀ j, j < 18 → i 86 j = ([103, 111, 108, 100, 0, 0, 115, 105, 108, 118, 101, 114, 98, 114, 111, 110, 122, 101] : List Int32).getD j 0
