/-- the first j from j0 on, of k of them, with p: its value; else d -/
def fsel (p : Nat → Bool) (v : Nat → Int32) (d : Int32) : Nat → Nat → Int32
  | 0, _ => d
  | k + 1, j => if p j then v j else fsel p v d k (j + 1)
def medC (i : fI) (t e : Nat) (a : Int32) : Int32 := fsel (fun j => !(decide (a < i (14 + 3 * t) j))) (fun j => i (13 + 3 * t) j) 0 e 0
def medM (i : fI) (t : Nat) (a : Int32) : Int32 := fsel (fun k => !(decide (i 73 (3 * t + k) = -1)) && !(decide (a < i 73 (3 * t + k)))) (fun k => nI (3 - k)) 0 3 0
def prcC (i : fI) (t e : Nat) (wd : Nat) : Int32 := fsel (fun j => decide (i (33 + 3 * t) j = nI wd) || decide (i (33 + 3 * t) j = -1)) (fun j => i (34 + 3 * t) j) 0 e 0
def prcM (i : fI) (t k : Nat) (wd : Nat) : Int32 := fsel (fun j => decide (i 75 (4 * (6 + t) + j) = nI wd)) (fun j => i 76 (5 * (6 + t) + j)) (i 76 (5 * (6 + t) + k)) k 0
def RelU (i : fI) : Prop := (∃ m, m ≤ 6 ∧ i 10 1 = nI m ∧ i 71 0 = nI m ∧ ∀ t, t < m → i (12 + 3 * t) 3 = i 72 t ∧ ∃ e, e ≤ 5 ∧ i (12 + 3 * t) 2 = nI e ∧ ∀ a, medC i t e a = medM i t a) ∧ (∃ m, m ≤ 6 ∧ i 30 1 = nI m ∧ i 71 1 = nI m ∧ ∀ t, t < m → i (32 + 3 * t) 3 = i 72 (6 + t) ∧ ∃ e k, e ≤ 5 ∧ k ≤ 4 ∧ i (32 + 3 * t) 2 = nI e ∧ i 74 (6 + t) = nI k ∧ ∀ wd, wd < 7 → prcC i t e wd = prcM i t k wd)
/-! frames: what each part of the relation reads -/
def Fr {α : Type} (S : Nat → Nat → Prop) (i i2 : Nat → Nat → α) : Prop := ∀ p k, S p k → i2 p k = i p k
theorem Fr_rfl {α : Type} {S : Nat → Nat → Prop} {i : Nat → Nat → α} : Fr S i i := fun _ _ _ => rfl
theorem Fr_u2 {α : Type} {S : Nat → Nat → Prop} {i i2 : Nat → Nat → α} {p k : Nat} {v : α} (h : Fr S i i2) (hp : ¬ S p k) : Fr S i (u2 i2 p k v) := by
  intro q j hq
  rw [u2_n]
  · exact h q j hq
  · rintro ⟨rfl, rfl⟩
    exact hp hq
theorem Fr_trans {α : Type} {S : Nat → Nat → Prop} {i i2 i3 : Nat → Nat → α} (h : Fr S i i2) (h2 : Fr S i2 i3) : Fr S i i3 := fun p k hp => (h2 p k hp).trans (h p k hp)
theorem Fr_sub {α : Type} {S S2 : Nat → Nat → Prop} {i i2 : Nat → Nat → α} (h : Fr S i i2) (hs : ∀ p k, S2 p k → S p k) : Fr S2 i i2 := fun p k hp => h p k (hs p k hp)
def sD (p k : Nat) : Prop := p = 2 ∨ (p = 57 ∧ k ≤ 1)
def sE (p _k : Nat) : Prop := p = 2
def sK (p _k : Nat) : Prop := p = 58
def sKl (p _k : Nat) : Prop := p = 3
def sB (p _k : Nat) : Prop := p = 4 ∨ p = 59
def sG (p k : Nat) : Prop := (p = 5 ∧ k = 3) ∨ (p = 57 ∧ k = 4)
def sN (p k : Nat) : Prop := (p = 5 ∧ k = 2) ∨ (p = 57 ∧ k = 5)
def sF (p _k : Nat) : Prop := (88 ≤ p ∧ p < 1000) ∨ (60 ≤ p ∧ p ≤ 69)
def sVv (p _k : Nat) : Prop := 60 ≤ p ∧ p ≤ 69
def sAl (p k : Nat) : Prop := 88 ≤ p ∧ k = 7
def sX (p _k : Nat) : Prop := p = 68 ∨ p = 69 ∨ p = 79
def sT (p k : Nat) : Prop := (p = 8 ∧ k = 1) ∨ (p = 57 ∧ k = 17) ∨ p = 70 ∨ p = 9
def sU (p _k : Nat) : Prop := (10 ≤ p ∧ p ≤ 49) ∨ (71 ≤ p ∧ p ≤ 76)
def sJ (p k : Nat) : Prop := (50 ≤ p ∧ p ≤ 54) ∨ (p = 57 ∧ k = 24) ∨ (77 ≤ p ∧ p ≤ 80)
def sM (p k : Nat) : Prop := p = 55 ∨ (p = 57 ∧ 29 ≤ k ∧ k ≤ 35)
def sLo (p k : Nat) : Prop := p = 56 ∨ (p = 57 ∧ (k = 36 ∨ k = 38)) ∨ p = 81
def sO (p k : Nat) : Prop := (p = 1 ∧ k = 9) ∨ (p = 57 ∧ k = 39)
def sY (p _k : Nat) : Prop := p = 86
def sPl (p k : Nat) : Prop := p = 3 ∨ (88 ≤ p ∧ k = 7)
section FR
variable {i i2 : fI} {l l2 : fL} {C R z n : Nat}
theorem RelD.fr (h : RelD C R z i) (f : Fr sD i i2) : RelD C R z i2 := by
  obtain ⟨a, b1, b2, b3, b4, b5⟩ := h
  exact ⟨a, (f 2 0 (by simp [sD])).trans b1, (f 2 1 (by simp [sD])).trans b2, (f 2 2 (by simp [sD])).trans b3, (f 57 0 (by simp [sD])).trans b4, (f 57 1 (by simp [sD])).trans b5⟩
theorem RelE.fr (h : RelE C R z l) (f : Fr sE l l2) : RelE C R z l2 := by
  unfold RelE at h ⊢
  rw [f 2 3 rfl, f 2 4 rfl, f 2 5 rfl]
  exact h
theorem RelK.fr (h : RelK z i l) (f : Fr sK i i2) (g : Fr sKl l l2) : RelK z i2 l2 := by
  obtain ⟨h1, h2⟩ := h
  refine ⟨fun c hc => ?_, fun t ht c => ?_⟩
  · obtain ⟨t, q1, q2⟩ := h1 c hc
    exact ⟨t, q1, (f 58 c rfl).trans q2⟩
  · rw [g 3 t rfl, f 58 c rfl]
    exact h2 t ht c
theorem RelB.fr (h : RelB z i) (f : Fr sB i i2) : RelB z i2 := fun c hc => by
  rw [f 4 c (Or.inl rfl), f 59 c (Or.inr rfl)]
  exact h c hc
theorem RelG.fr (h : RelG i) (f : Fr sG i i2) : RelG i2 := by
  unfold RelG at h ⊢
  rw [f 5 3 (Or.inl ⟨rfl, rfl⟩), f 57 4 (Or.inr ⟨rfl, rfl⟩)]
  exact h
theorem RelN.fr (h : RelN n i) (f : Fr sN i i2) : RelN n i2 := by
  unfold RelN at h ⊢
  rw [f 5 2 (Or.inl ⟨rfl, rfl⟩), f 57 5 (Or.inr ⟨rfl, rfl⟩)]
  exact h
theorem RelF.fr (h : RelF n i) (hn : n ≤ 9) (f : Fr sF i i2) : RelF n i2 := by
  intro s hs
  have e : ∀ k, i2 (88 + s) k = i (88 + s) k := fun k => f (88 + s) k (Or.inl ⟨by omega, by omega⟩)
  have g : ∀ p, 60 ≤ p → p ≤ 69 → i2 p s = i p s := fun p h1 h2 => f p s (Or.inr ⟨h1, h2⟩)
  simp only [e, g 60 (by omega) (by omega), g 61 (by omega) (by omega), g 62 (by omega) (by omega), g 63 (by omega) (by omega), g 64 (by omega) (by omega), g 65 (by omega) (by omega), g 66 (by omega) (by omega), g 67 (by omega) (by omega), g 68 (by omega) (by omega), g 69 (by omega) (by omega)]
  exact h s hs
theorem RelV.fr (h : RelV C R z n i) (f : Fr sVv i i2) : RelV C R z n i2 := by
  intro s hs
  have g : ∀ p, 60 ≤ p → p ≤ 69 → i2 p s = i p s := fun p h1 h2 => f p s ⟨h1, h2⟩
  simp only [g 60 (by omega) (by omega), g 63 (by omega) (by omega), g 64 (by omega) (by omega), g 66 (by omega) (by omega), g 68 (by omega) (by omega), g 69 (by omega) (by omega)]
  exact h s hs
theorem RelA.fr (h : RelA C z n i l) (f : Fr sVv i i2) (k : Fr sAl l l2) : RelA C z n i2 l2 := by
  intro s hs
  have g : ∀ p, 60 ≤ p → p ≤ 69 → i2 p s = i p s := fun p h1 h2 => f p s ⟨h1, h2⟩
  simp only [g 63 (by omega) (by omega), g 64 (by omega) (by omega), g 66 (by omega) (by omega), k (88 + s) 7 ⟨by omega, rfl⟩]
  exact h s hs
theorem RelX.fr (h : RelX n i) (f : Fr sX i i2) : RelX n i2 := by
  intro s h1 h2
  obtain ⟨a, b, c⟩ := h s h1 h2
  exact ⟨(f 68 s (Or.inl rfl)).trans a, (f 69 s (Or.inr (Or.inl rfl))).trans b, fun q hq => (f 79 _ (Or.inr (Or.inr rfl))).trans (c q hq)⟩
theorem RelT.fr (h : RelT i) (f : Fr sT i i2) : RelT i2 := by
  obtain ⟨t, a, b, c, d⟩ := h
  refine ⟨t, a, (f 8 1 (by simp [sT])).trans b, (f 57 17 (by simp [sT])).trans c, fun j hj => ?_⟩
  obtain ⟨q, q1, q2, q3⟩ := d j hj
  exact ⟨q, q1, (f 70 j (by simp [sT])).trans q2, (f 9 j (by simp [sT])).trans q3⟩
theorem fsel_cong {p p2 : Nat → Bool} {v v2 : Nat → Int32} {d d2 : Int32} : ∀ (k j : Nat), (∀ a, j ≤ a → a < j + k → p a = p2 a ∧ v a = v2 a) → d = d2 → fsel p v d k j = fsel p2 v2 d2 k j
  | 0, _, _, hd => hd
  | k + 1, j, h, hd => by
    unfold fsel
    rw [(h j (by omega) (by omega)).1, (h j (by omega) (by omega)).2, fsel_cong k (j + 1) (fun a h1 h2 => h a (by omega) (by omega)) hd]
theorem RelU.fr (h : RelU i) (f : Fr sU i i2) : RelU i2 := by
  have lo : ∀ p k, 10 ≤ p → p ≤ 49 → i2 p k = i p k := fun p k h1 h2 => f p k (Or.inl ⟨h1, h2⟩)
  have hi : ∀ p k, 71 ≤ p → p ≤ 76 → i2 p k = i p k := fun p k h1 h2 => f p k (Or.inr ⟨h1, h2⟩)
  obtain ⟨⟨m, m1, m2, m3, m4⟩, ⟨d, d1, d2, d3, d4⟩⟩ := h
  refine ⟨⟨m, m1, (lo 10 1 (by omega) (by omega)).trans m2, (hi 71 0 (by omega) (by omega)).trans m3, fun t ht => ?_⟩, ⟨d, d1, (lo 30 1 (by omega) (by omega)).trans d2, (hi 71 1 (by omega) (by omega)).trans d3, fun t ht => ?_⟩⟩
  · obtain ⟨a, e, e1, e2, e3⟩ := m4 t ht
    refine ⟨by rw [lo _ _ (by omega) (by omega), hi 72 t (by omega) (by omega)]; exact a, e, e1, by rw [lo _ _ (by omega) (by omega)]; exact e2, fun q => ?_⟩
    have x1 : medC i2 t e q = medC i t e q := fsel_cong _ _ (fun j _ _ => ⟨by rw [lo _ _ (by omega) (by omega)], by rw [lo _ _ (by omega) (by omega)]⟩) rfl
    have x2 : medM i2 t q = medM i t q := fsel_cong _ _ (fun j _ _ => ⟨by rw [hi 73 _ (by omega) (by omega)], rfl⟩) rfl
    rw [x1, x2]
    exact e3 q
  · obtain ⟨a, e, k, e1, e2, e3, e4, e5⟩ := d4 t ht
    refine ⟨by rw [lo _ _ (by omega) (by omega), hi 72 _ (by omega) (by omega)]; exact a, e, k, e1, e2, by rw [lo _ _ (by omega) (by omega)]; exact e3, by rw [hi 74 _ (by omega) (by omega)]; exact e4, fun q hq => ?_⟩
    have x1 : prcC i2 t e q = prcC i t e q := fsel_cong _ _ (fun j _ _ => ⟨by rw [lo _ _ (by omega) (by omega)], by rw [lo _ _ (by omega) (by omega)]⟩) rfl
    have x2 : prcM i2 t k q = prcM i t k q := fsel_cong _ _ (fun j _ _ => ⟨by rw [hi 75 _ (by omega) (by omega)], by rw [hi 76 _ (by omega) (by omega)]⟩) (hi 76 _ (by omega) (by omega))
    rw [x1, x2]
    exact e5 q hq
theorem RelJ.fr (h : RelJ i) (f : Fr sJ i i2) : RelJ i2 := by
  have lo : ∀ p k, 50 ≤ p → p ≤ 54 → i2 p k = i p k := fun p k h1 h2 => f p k (Or.inl ⟨h1, h2⟩)
  have hi : ∀ p k, 77 ≤ p → p ≤ 80 → i2 p k = i p k := fun p k h1 h2 => f p k (Or.inr (Or.inr ⟨h1, h2⟩))
  obtain ⟨⟨q, q1, q2, q3⟩, h2, h3⟩ := h
  refine ⟨⟨q, q1, (lo 50 4 (by omega) (by omega)).trans q2, (f 57 24 (Or.inr (Or.inl ⟨rfl, rfl⟩))).trans q3⟩, fun a ha => ?_, fun a ha => ?_⟩
  · rw [lo 51 a (by omega) (by omega), lo 52 a (by omega) (by omega), hi 77 a (by omega) (by omega), hi 78 a (by omega) (by omega)]
    exact h2 a ha
  · rw [lo 53 a (by omega) (by omega), lo 54 a (by omega) (by omega), hi 79 a (by omega) (by omega), hi 80 a (by omega) (by omega)]
    exact h3 a ha
theorem RelM.fr (h : RelM i) (f : Fr sM i i2) : RelM i2 := by
  have lo : ∀ k, i2 55 k = i 55 k := fun k => f 55 k (Or.inl rfl)
  have hi : ∀ k, 29 ≤ k → k ≤ 35 → i2 57 k = i 57 k := fun k h1 h2 => f 57 k (Or.inr ⟨rfl, h1, h2⟩)
  unfold RelM at h ⊢
  simp only [lo, hi 29 (by omega) (by omega), hi 30 (by omega) (by omega), hi 31 (by omega) (by omega), hi 32 (by omega) (by omega), hi 33 (by omega) (by omega), hi 34 (by omega) (by omega), hi 35 (by omega) (by omega)]
  exact h
theorem RelL.fr (h : RelL z i) (f : Fr sLo i i2) : RelL z i2 := by
  have lo : ∀ k, i2 56 k = i 56 k := fun k => f 56 k (Or.inl rfl)
  have h8 : ∀ k, i2 81 k = i 81 k := fun k => f 81 k (Or.inr (Or.inr rfl))
  unfold RelL at h ⊢
  simp only [lo, h8, f 57 36 (by simp [sLo]), f 57 38 (by simp [sLo])]
  exact h
theorem RelO.fr (h : RelO i) (f : Fr sO i i2) : RelO i2 := by
  unfold RelO at h ⊢
  rw [f 1 9 (Or.inl ⟨rfl, rfl⟩), f 57 39 (Or.inr ⟨rfl, rfl⟩)]
  exact h
theorem RelY.fr (h : RelY i) (f : Fr sY i i2) : RelY i2 := fun j hj => by rw [f 86 j rfl]; exact h j hj
theorem RelP.fr (h : RelP n l) (f : Fr sPl l l2) : RelP n l2 := by
  intro s hs c hc
  rw [f (88 + s) 7 (Or.inr ⟨by omega, rfl⟩)] at hc
  obtain ⟨a, b⟩ := h s hs c hc
  exact ⟨by rw [f 3 0 (Or.inl rfl)]; exact a, fun t ht e => by rw [f (88 + t) 7 (Or.inr ⟨by omega, rfl⟩)]; exact b t ht e⟩
end FR
/-- THE WHOLE RELATION -/
def Rel (C R n z : Nat) (i : fI) (l : fL) : Prop := RelD C R z i ∧ RelE C R z l ∧ RelK z i l ∧ RelB z i ∧ RelG i ∧ RelN n i ∧ RelF n i ∧ RelV C R z n i ∧ RelA C z n i l ∧ RelX n i ∧ RelT i ∧ RelU i ∧ RelJ i ∧ RelM i ∧ RelL z i ∧ RelO i ∧ RelY i ∧ RelP n l
/-- the script -/
def sQ (p _k : Nat) : Prop := p = 1020
/-- one call of the law: both answer alike, and the relation goes on -/
def OpOK (C R n z L : Nat) (f g : xSt → Option (Int32 × xSt)) (i : fI) (l : fL) : Prop := ∃ (r : Int32) (w1 : xSt) (n2 : Nat) (i2 : fI) (l2 : fL), f (mkS n z L i l) = some (r, w1) ∧ g w1 = some (r, mkS n2 z L i2 l2) ∧ (∃ i1 l1, w1 = mkS n2 z L i1 l1 ∧ Fr sQ i i1) ∧ Rel C R n2 z i2 l2
