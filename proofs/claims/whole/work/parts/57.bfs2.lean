section BFS2
variable {C R n z L : Nat} {i : fI} {l : fL}
theorem QI.up {S P : Nat → Bool} {k d d2 : Nat} {g : bS} (h : QI C z S P k d g) (hd : d ≤ d2) : QI C z S P k d2 g := ⟨h.1, h.2.1, h.2.2.1, h.2.2.2.1, h.2.2.2.2.1, fun b hb => Nat.le_trans (h.qf b hb) hd, h.2.2.2.2.2.2⟩
theorem QI.st_le {S P : Nat → Bool} {k d c : Nat} {g : bS} (h : QI C z S P k d g) (hc : g.1 c = true) : g.2.1 c < g.2.2.2 := by
  obtain ⟨a, a1, a2⟩ := h.qb c hc
  have := h.qi a a1
  rw [a2] at this
  omega
theorem QI.lt {S P : Nat → Bool} {k d c : Nat} {g : bS} (h : QI C z S P k d g) (hc : g.1 c = true) : c < z := by
  obtain ⟨a, a1, a2⟩ := h.qb c hc
  rw [← a2]
  exact (h.qa a a1).1
def pvI (q : Bool) (P : Nat → Bool) (d c : Nat) (g : bS) : bS := if q = true then pv P d c g else g
theorem pvI_E {q : Bool} {S P : Nat → Bool} {k d b c : Nat} {g : bS} (h : QI C z S P k d g) (hq : q = true → c < z ∧ nbB C b c = true) (hb : b < z) (hm : g.1 b = true) (hd : g.2.1 b + 1 = d) (hdQ : d ≤ g.2.2.2) (hkQ : k ≤ g.2.2.2) : QI C z S P k d (pvI q P d c g) ∧ grow g (pvI q P d c g) ∧ (q = true → P c = true → (pvI q P d c g).1 c = true ∧ (pvI q P d c g).2.1 c ≤ d) := by
  unfold pvI
  by_cases e : q = true
  · rw [if_pos e]
    obtain ⟨a1, a2, a3⟩ := pv_E h (hq e).1 hb hm hd (hq e).2 hdQ hkQ
    exact ⟨a1, a2, fun _ => a3⟩
  · rw [if_neg e]
    exact ⟨h, grow_r g, fun e2 => absurd e2 e⟩
def stp (C R : Nat) (P : Nat → Bool) (d b : Nat) (g : bS) : bS := pvI (decide (b < C * (R - 1))) P d (b + C) (pvI (decide (C ≤ b)) P d (b - C) (pvI (decide (b % C < C - 1)) P d (b + 1) (pvI (decide (0 < b % C)) P d (b - 1) g)))
theorem nb4 (hD : RelD C R z i) {b : Nat} (hb : b < z) : (decide (0 < b % C) = true → b - 1 < z ∧ nbB C b (b - 1) = true) ∧ (decide (b % C < C - 1) = true → b + 1 < z ∧ nbB C b (b + 1) = true) ∧ (decide (C ≤ b) = true → b - C < z ∧ nbB C b (b - C) = true) ∧ (decide (b < C * (R - 1)) = true → b + C < z ∧ nbB C b (b + C) = true) := by
  obtain ⟨⟨h1, h2, h3, h4, h5⟩, -⟩ := id hD
  have c1 := CR1 (C := C) (show 1 ≤ R by omega)
  simp only [decide_eq_true_eq]
  refine ⟨fun a => ⟨by omega, ?_⟩, fun a => ⟨?_, ?_⟩, fun a => ⟨by omega, ?_⟩, fun a => ⟨by omega, ?_⟩⟩
  · have : b ≠ 0 := by rintro rfl; simp at a
    unfold nbB
    simp only [Bool.or_eq_true, Bool.and_eq_true, decide_eq_true_eq]
    exact Or.inr ⟨by omega, a⟩
  · have := row_lt (C := C) (R := R) (k := b) (by omega) (by omega) (by rw [← h5]; exact hb) a
    omega
  · unfold nbB
    simp only [Bool.or_eq_true, Bool.and_eq_true, decide_eq_true_eq]
    exact Or.inl (Or.inr ⟨by first | trivial | omega, a⟩)
  · unfold nbB
    simp only [Bool.or_eq_true, Bool.and_eq_true, decide_eq_true_eq]
    exact Or.inl (Or.inl (Or.inl (by omega)))
  · unfold nbB
    simp only [Bool.or_eq_true, Bool.and_eq_true, decide_eq_true_eq]
    exact Or.inl (Or.inl (Or.inr (by first | trivial | omega)))
theorem nb4c (hD : RelD C R z i) {b c : Nat} (hc : c < z) (h : nbB C b c = true) : (decide (0 < b % C) = true ∧ c = b - 1) ∨ (decide (b % C < C - 1) = true ∧ c = b + 1) ∨ (decide (C ≤ b) = true ∧ c = b - C) ∨ (decide (b < C * (R - 1)) = true ∧ c = b + C) := by
  obtain ⟨⟨h1, h2, h3, h4, h5⟩, -⟩ := id hD
  have c1 := CR1 (C := C) (show 1 ≤ R by omega)
  unfold nbB at h
  simp only [Bool.or_eq_true, Bool.and_eq_true, decide_eq_true_eq] at h ⊢
  rcases h with ((r | r) | ⟨r1, r2⟩) | ⟨r1, r2⟩
  · exact Or.inr (Or.inr (Or.inl ⟨by omega, by omega⟩))
  · exact Or.inr (Or.inr (Or.inr ⟨by omega, by omega⟩))
  · exact Or.inr (Or.inl ⟨r2, by omega⟩)
  · exact Or.inl ⟨r2, by omega⟩
theorem QI.next {S P : Nat → Bool} {k d : Nat} {g : bS} (h : QI C z S P k d g) (hn : ∀ c, c < z → nbB C (g.2.2.1 k) c = true → P c = true → g.1 c = true ∧ g.2.1 c ≤ g.2.1 (g.2.2.1 k) + 1) : QI C z S P (k + 1) d g := ⟨h.1, h.2.1, h.2.2.1, h.2.2.2.1, h.2.2.2.2.1, h.2.2.2.2.2.1, fun a ha haQ c hc => by
  by_cases e : a = k
  · subst e; exact hn c hc
  · exact h.qg a (by omega) haQ c hc, h.2.2.2.2.2.2.2⟩
theorem stp_E (hD : RelD C R z i) {S P : Nat → Bool} {k d b e : Nat} {g : bS} (h : QI C z S P k d g) (hk : k < g.2.2.2) (hb : g.2.2.1 k = b) (he : g.2.1 b + 1 = e) (hd : d ≤ e) : QI C z S P (k + 1) e (stp C R P e b g) ∧ grow g (stp C R P e b g) := by
  have hbz : b < z := by rw [← hb]; exact (h.qa k hk).1
  have hbm : g.1 b = true := by rw [← hb]; exact (h.qa k hk).2
  have heQ : e ≤ g.2.2.2 := by
    have := h.qi k hk
    rw [hb] at this
    omega
  obtain ⟨n1, n2, n3, n4⟩ := nb4 hD hbz
  have h0 := h.up hd
  unfold stp
  obtain ⟨a1, a2, a3⟩ := pvI_E (c := b - 1) (q := decide (0 < b % C)) h0 n1 hbz hbm he heQ (by omega)
  generalize pvI (decide (0 < b % C)) P e (b - 1) g = g1 at a1 a2 a3 ⊢
  obtain ⟨b1, b2, b3⟩ := pvI_E (c := b + 1) (q := decide (b % C < C - 1)) a1 n2 hbz (a2.2.2 b hbm).1 (by rw [(a2.2.2 b hbm).2]; exact he) (Nat.le_trans heQ a2.1) (by have := a2.1; omega)
  generalize pvI (decide (b % C < C - 1)) P e (b + 1) g1 = g2 at b1 b2 b3 ⊢
  have t2 := grow_t a2 b2
  obtain ⟨c1, c2, c3⟩ := pvI_E (c := b - C) (q := decide (C ≤ b)) b1 n3 hbz (t2.2.2 b hbm).1 (by rw [(t2.2.2 b hbm).2]; exact he) (Nat.le_trans heQ t2.1) (by have := t2.1; omega)
  generalize pvI (decide (C ≤ b)) P e (b - C) g2 = g3 at c1 c2 c3 ⊢
  have t3 := grow_t t2 c2
  obtain ⟨d1, d2, d3⟩ := pvI_E (c := b + C) (q := decide (b < C * (R - 1))) c1 n4 hbz (t3.2.2 b hbm).1 (by rw [(t3.2.2 b hbm).2]; exact he) (Nat.le_trans heQ t3.1) (by have := t3.1; omega)
  generalize pvI (decide (b < C * (R - 1))) P e (b + C) g3 = g4 at d1 d2 d3 ⊢
  have t4 := grow_t t3 d2
  refine ⟨d1.next (fun c hc hn hp => ?_), t4⟩
  have hq : g4.2.2.1 k = b := by rw [t4.2.1 k hk]; exact hb
  rw [hq] at hn ⊢
  rw [(t4.2.2 b hbm).2, he]
  rcases nb4c hD hc hn with ⟨r1, rfl⟩ | ⟨r1, rfl⟩ | ⟨r1, rfl⟩ | ⟨r1, rfl⟩
  · obtain ⟨x1, x2⟩ := a3 r1 hp
    have t := grow_t (grow_t b2 c2) d2
    exact ⟨(t.2.2 _ x1).1, by rw [(t.2.2 _ x1).2]; exact x2⟩
  · obtain ⟨x1, x2⟩ := b3 r1 hp
    have t := grow_t c2 d2
    exact ⟨(t.2.2 _ x1).1, by rw [(t.2.2 _ x1).2]; exact x2⟩
  · obtain ⟨x1, x2⟩ := c3 r1 hp
    exact ⟨(d2.2.2 _ x1).1, by rw [(d2.2.2 _ x1).2]; exact x2⟩
  · exact d3 r1 hp
/-- the loop over the queue -/
theorem bfs_loop {W : Type} (hD : RelD C R z i) {S P : Nat → Bool} (loop : Nat → Int32 → W → Option (Unit × W)) (RW : bS → W → Prop) (hx : ∀ m g w d, RW g w → QI C z S P g.2.2.2 d g → loop (m + 1) (nI g.2.2.2) w = some ((), w)) (hs : ∀ m k g w d, RW g w → QI C z S P k d g → k < g.2.2.2 → d ≤ g.2.1 (g.2.2.1 k) + 1 → ∃ w2, loop (m + 1) (nI k) w = loop m (nI (k + 1)) w2 ∧ RW (stp C R P (g.2.1 (g.2.2.1 k) + 1) (g.2.2.1 k) g) w2) : ∀ r k d g w m, z - k ≤ r → r < m → QI C z S P k d g → RW g w → k ≤ g.2.2.2 → (k < g.2.2.2 → d ≤ g.2.1 (g.2.2.1 k) + 1) → ∃ gE wE dE, loop m (nI k) w = some ((), wE) ∧ RW gE wE ∧ QI C z S P gE.2.2.2 dE gE := by
  intro r
  induction r with
  | zero =>
    intro k d g w m hr hm h hw hk hd
    obtain ⟨m, rfl⟩ : ∃ m', m = m' + 1 := ⟨m - 1, by omega⟩
    have := h.le
    have e : k = g.2.2.2 := by omega
    subst e
    exact ⟨g, w, d, hx m g w d hw h, hw, h⟩
  | succ r ih =>
    intro k d g w m hr hm h hw hk hd
    obtain ⟨m, rfl⟩ : ∃ m', m = m' + 1 := ⟨m - 1, by omega⟩
    by_cases e : k = g.2.2.2
    · subst e
      exact ⟨g, w, d, hx m g w d hw h, hw, h⟩
    · have hk2 : k < g.2.2.2 := by omega
      obtain ⟨w2, a1, a2⟩ := hs m k g w d hw h hk2 (hd hk2)
      obtain ⟨b1, b2⟩ := stp_E hD h hk2 rfl rfl (hd hk2)
      have hkm := (h.qa k hk2).2
      generalize stp C R P (g.2.1 (g.2.2.1 k) + 1) (g.2.2.1 k) g = g2 at a2 b1 b2
      obtain ⟨gE, wE, dE, c1, c2, c3⟩ := ih (k + 1) _ g2 w2 m (by omega) (by omega) b1 a2 (by have := b2.1; omega) (fun h3 => by
        have := b1.qe k (k + 1) (by omega) h3
        rw [b2.2.1 k hk2, (b2.2.2 _ hkm).2] at this
        omega)
      exact ⟨gE, wE, dE, by rw [a1]; exact c1, c2, c3⟩
/-- what the finished queue tells -/
theorem bfs_fin {S P : Nat → Bool} {d : Nat} {g : bS} (h : QI C z S P g.2.2.2 d g) : ∀ m c, c < z → rch C z S P m c = (g.1 c && decide (g.2.1 c ≤ m)) := by
  intro m c hc
  apply Bool_iff
  rw [Bool.and_eq_true, decide_eq_true_eq]
  constructor
  · induction m generalizing c with
    | zero =>
      intro hr
      obtain ⟨a, b⟩ := h.qh c hc hr
      exact ⟨a, by omega⟩
    | succ m ih =>
      intro hr
      rw [rch_s, Bool.or_eq_true, Bool.and_eq_true] at hr
      rcases hr with hr | ⟨hp, hr⟩
      · obtain ⟨a, b⟩ := ih c hc hr
        exact ⟨a, by omega⟩
      · obtain ⟨b, b1, b2⟩ := exB_iff.mp hr
        rw [Bool.and_eq_true] at b2
        obtain ⟨x1, x2⟩ := ih b b1 b2.1
        obtain ⟨a, a1, a2⟩ := h.qb b x1
        obtain ⟨y1, y2⟩ := h.qg a a1 a1 c hc (by rw [a2]; exact b2.2) hp
        rw [a2] at y2
        exact ⟨y1, by omega⟩
  · rintro ⟨h1, h2⟩
    have := rch_le (h.qd c h1) (m - g.2.1 c)
    rw [show g.2.1 c + (m - g.2.1 c) = m by omega] at this
    exact this
/-- what the searches write -/
def sZ (p k : Nat) : Prop := ¬ (p = 82 ∨ p = 83 ∨ p = 84 ∨ p = 85 ∨ p = 87 ∨ (p = 57 ∧ k = 42))
theorem Rel_fr {i2 : fI} (h : Rel C R n z i l) (f : Fr sZ i i2) : Rel C R n z i2 l := by
  obtain ⟨hD, hE, hK, hB, hG, hN, hF, hV, hA, hX, hT, hU, hJ, hM, hL, hO, hY, hP⟩ := id h
  exact ⟨hD.fr (Fr_sub f (fun p k q => by unfold sD at q; unfold sZ; omega)), hE, hK.fr (Fr_sub f (fun p k q => by unfold sK at q; unfold sZ; omega)) Fr_rfl, hB.fr (Fr_sub f (fun p k q => by unfold sB at q; unfold sZ; omega)), hG.fr (Fr_sub f (fun p k q => by unfold sG at q; unfold sZ; omega)), hN.fr (Fr_sub f (fun p k q => by unfold sN at q; unfold sZ; omega)), hF.fr hN.1 (Fr_sub f (fun p k q => by unfold sF at q; unfold sZ; omega)), hV.fr (Fr_sub f (fun p k q => by unfold sVv at q; unfold sZ; omega)), hA.fr (Fr_sub f (fun p k q => by unfold sVv at q; unfold sZ; omega)) Fr_rfl, hX.fr (Fr_sub f (fun p k q => by unfold sX at q; unfold sZ; omega)), hT.fr (Fr_sub f (fun p k q => by unfold sT at q; unfold sZ; omega)), hU.fr (Fr_sub f (fun p k q => by unfold sU at q; unfold sZ; omega)), hJ.fr (Fr_sub f (fun p k q => by unfold sJ at q; unfold sZ; omega)), hM.fr (Fr_sub f (fun p k q => by unfold sM at q; unfold sZ; omega)), hL.fr (Fr_sub f (fun p k q => by unfold sLo at q; unfold sZ; omega)), hO.fr (Fr_sub f (fun p k q => by unfold sO at q; unfold sZ; omega)), hY.fr (Fr_sub f (fun p k q => by unfold sY at q; unfold sZ; omega)), hP⟩
theorem sZ_Q {i i2 : fI} (f : Fr sZ i i2) : Fr sQ i i2 := Fr_sub f (fun p k q => by unfold sQ at q; unfold sZ; omega)
theorem sOn_fr {i2 : fI} (f : Fr sZ i i2) (c : Nat) : sOn C n i2 c = sOn C n i c := by
  have g : ∀ p s, 60 ≤ p → p ≤ 69 → i2 p s = i p s := fun p s h1 h2 => f p s (by unfold sZ; omega)
  unfold sOn
  refine fsel_cong _ _ (fun a _ _ => ⟨?_, rfl⟩) rfl
  unfold onB laB wdN dpN atN
  rw [g 63 a (by omega) (by omega), g 64 a (by omega) (by omega), g 66 a (by omega) (by omega)]
theorem fsel_or {p : Nat → Bool} {v : Nat → Int32} {b : Int32} : ∀ (k j : Nat), (fsel p v b k j = b ∧ ∀ a, j ≤ a → a < j + k → p a = false) ∨ ∃ a, j ≤ a ∧ a < j + k ∧ p a = true ∧ fsel p v b k j = v a ∧ ∀ a2, j ≤ a2 → a2 < a → p a2 = false
  | 0, j => Or.inl ⟨rfl, fun a h1 h2 => by omega⟩
  | k + 1, j => by
    unfold fsel
    by_cases c : p j = true
    · rw [if_pos c]
      exact Or.inr ⟨j, by omega, by omega, c, rfl, fun a2 h1 h2 => by omega⟩
    · rw [if_neg c]
      have c0 : p j = false := by simpa using c
      rcases fsel_or (p := p) (v := v) (b := b) k (j + 1) with ⟨h1, h2⟩ | ⟨a, h1, h2, h3, h4, h5⟩
      · refine Or.inl ⟨h1, fun a h3 h4 => ?_⟩
        by_cases e : a = j
        · rw [e]; exact c0
        · exact h2 a (by omega) (by omega)
      · refine Or.inr ⟨a, by omega, by omega, h3, h4, fun a2 h6 h7 => ?_⟩
        by_cases e : a2 = j
        · rw [e]; exact c0
        · exact h5 a2 (by omega) h7
theorem sOn_or (c : Nat) : (sOn C n i c = -1 ∧ ∀ s, s < n → onB C i s c = false) ∨ ∃ s, s < n ∧ onB C i s c = true ∧ sOn C n i c = nI s := by
  unfold sOn
  rcases fsel_or (p := fun s => onB C i s c) (v := fun s => nI s) (b := (-1 : Int32)) n 0 with ⟨h1, h2⟩ | ⟨a, h1, h2, h3, h4, -⟩
  · exact Or.inl ⟨h1, fun s hs => h2 s (by omega) (by omega)⟩
  · exact Or.inr ⟨a, by omega, h3, h4⟩
end BFS2
