section CTOR0
/-! the stores that the constructors build -/
def mk6 (i : fI) (l : fL) (R : Nat → Nat → Nat) (T N : Nat → Nat) (Z : Nat) : xSt := (i, l, R, T, N, Z)
def zr0 {α : Type} (o : α) (f : Nat → Nat → α) (p : Nat) : Nat → Nat → α := fun q j => if q = p then o else f q j
theorem zr_z {α : Type} {o : α} {f : Nat → Nat → α} {p q j : Nat} (h : f q j = o) : zr0 o f p q j = o := by
  unfold zr0
  split
  · rfl
  · exact h
theorem zr_n {α : Type} {o : α} {f : Nat → Nat → α} {p q j : Nat} (h : q ≠ p) : zr0 o f p q j = f q j := if_neg h
theorem zr_s {α : Type} {o : α} {f : Nat → Nat → α} {p j : Nat} : zr0 o f p p j = o := if_pos rfl
variable {i : fI} {l : fL} {R : Nat → Nat → Nat} {T N : Nat → Nat} {Z : Nat} {α : Type}
theorem k_Z {e : Option α} (h : Z + 1 < 1000) : gd (wZ (mk6 i l R T N Z) + 1 < 1000) e = e := gd_t h
theorem k_q {Z2 : Nat} {f : Nat → α} (h : Z + 1 = Z2) : lt1 (wZ (mk6 i l R T N Z) + 1) f = f Z2 := by subst h; rfl
theorem k_A {t m Z2 : Nat} {f : xSt → α} (h : Z + 1 = Z2) : lt1 (nA (mk6 i l R T N Z) t m) f = f (mk6 (zr0 0 i Z2) (zr0 0 l Z2) (zr0 0 R Z2) (upF T Z2 t) (upF N Z2 m) Z2) := by subst h; rfl
theorem k_R {p k v : Nat} {f : xSt → α} : lt1 (sR (mk6 i l R T N Z) p k v) f = f (mk6 i l (u2 R p k v) T N Z) := rfl
theorem k_I {p k : Nat} {v : Int32} {f : xSt → α} : lt1 (sI (mk6 i l R T N Z) p k v) f = f (mk6 (u2 i p k v) l R T N Z) := rfl
theorem k_L {p k : Nat} {v : Int64} {f : xSt → α} : lt1 (sL (mk6 i l R T N Z) p k v) f = f (mk6 i (u2 l p k v) R T N Z) := rfl
theorem k_C {p t : Nat} {e : Option α} (h0 : p ≠ 0) (h1 : p ≤ Z) (h2 : T p = t) : gd (isC (mk6 i l R T N Z) p t) e = e := gd_t ⟨h0, h1, h2⟩
theorem k_N {p m : Nat} {v : Int32} {e : Option α} (h : N p = m) (hv : inR v m) : gd (inR v (wN (mk6 i l R T N Z) p)) e = e := gd_t (by
  show inR v (N p)
  rw [h]
  exact hv)
theorem k_r {p k v : Nat} (h : R p k = v) : wR (mk6 i l R T N Z) p k = v := h
theorem k_i (p k : Nat) : wI (mk6 i l R T N Z) p k = i p k := rfl
theorem k_l (p k : Nat) : wL (mk6 i l R T N Z) p k = l p k := rfl
theorem k_n {p v : Nat} (h : N p = v) : wN (mk6 i l R T N Z) p = v := h
theorem k_sI (p k : Nat) (v : Int32) : sI (mk6 i l R T N Z) p k v = mk6 (u2 i p k v) l R T N Z := rfl
theorem k_sL (p k : Nat) (v : Int64) : sL (mk6 i l R T N Z) p k v = mk6 i (u2 l p k v) R T N Z := rfl
theorem k_le {a b : Nat} {e : Option α} (h : Nat.ble a b = true) : gd (a ≤ b) e = e := gd_t (Nat.le_of_ble_eq_true h)
/-! the remainder from 0 on -/
theorem xor6 (x : Int32) : (0 ≤ x ^^^ (6 : Int32)) ↔ 0 ≤ x := by
  have m : ∀ y : Int32, (0 ≤ y) ↔ y.toBitVec.msb = false := by
    intro y
    rw [Int32.le_iff_toInt_le, show (0 : Int32).toInt = 0 by decide, BitVec.msb_eq_toInt]
    show 0 ≤ y.toBitVec.toInt ↔ _
    rw [decide_eq_false_iff_not]
    omega
  rw [m, m, Int32.toBitVec_xor, BitVec.msb_xor, show (6 : Int32).toBitVec.msb = false by decide, Bool.xor_false]
theorem fm_E (x : Int32) : ∃ k, k < 6 ∧ (∀ w, f_J9_floorMod_7cf53 x (6 : Int32) w = some (nI k, w)) ∧ ((x - x / (6 : Int32) * (6 : Int32)) + (6 : Int32)) - ((x - x / (6 : Int32) * (6 : Int32)) + (6 : Int32)) / (6 : Int32) * (6 : Int32) = nI k := by
  have n6 : (6 : Int32) = nI 6 := rfl
  by_cases h : x < 0
  · have hx := Int32.lt_iff_toInt_lt.mp h
    rw [show (0 : Int32).toInt = 0 by decide] at hx
    have hr := fb_rng x
    obtain ⟨a, ha⟩ : ∃ a : Nat, x.toInt = -(a : Int) := ⟨(-x.toInt).toNat, by omega⟩
    have hq : (x / (6 : Int32)).toInt = -((a / 6 : Nat) : Int) := by
      rw [Int32.toInt_div_of_ne_right x 6 (by decide), show (6 : Int32).toInt = 6 by decide, ha, Int.neg_tdiv, Int.tdiv_eq_ediv_of_nonneg (by omega)]
      rfl
    have h6 : (6 : Int32).toInt = 6 := by decide
    have hm : (x / (6 : Int32) * (6 : Int32)).toInt = -((a / 6 : Nat) : Int) * 6 := by
      rw [fb_mulI (by rw [hq, h6]; omega) (by rw [hq, h6]; omega), hq, h6]
    have hs : (x - x / (6 : Int32) * (6 : Int32)).toInt = -((a % 6 : Nat) : Int) := by
      rw [fb_subI (by rw [hm, ha]; omega) (by rw [hm, ha]; omega), hm, ha]
      omega
    have h7 : (x - x / (6 : Int32) * (6 : Int32)) + (6 : Int32) = nI (6 - a % 6) := by
      apply Int32.toInt_inj.mp
      rw [fb_addI (by rw [hs, h6]; omega) (by rw [hs, h6]; omega), hs, h6, nI_toInt (by omega)]
      omega
    refine ⟨(6 - a % 6) % 6, Nat.mod_lt _ (by omega), fun w => ?_, ?_⟩
    · unfold f_J9_floorMod_7cf53
      rw [gd_t (by decide), if_neg (fun q => absurd ((xor6 x).mp q) (Int32.not_le.mpr h))]
      by_cases e : (x - x / (6 : Int32) * (6 : Int32)) = 0
      · rw [if_pos e, e]
        rw [e, show (0 : Int32).toInt = 0 by decide] at hs
        rw [show (6 - a % 6) % 6 = 0 by omega]
        rfl
      · rw [if_neg e, h7]
        have : a % 6 ≠ 0 := fun q => e (Int32.toInt_inj.mp (by rw [hs, q]; rfl))
        rw [show (6 - a % 6) % 6 = 6 - a % 6 by omega]
    · rw [h7, n6, pk_rem (by omega) (by omega) (by omega)]
  · obtain ⟨a, a1, rfl⟩ := nI_of h
    refine ⟨a % 6, Nat.mod_lt _ (by omega), fun w => ?_, ?_⟩
    · unfold f_J9_floorMod_7cf53
      rw [gd_t (by decide), if_pos ((xor6 _).mpr (Int32.not_lt.mp h)), n6, pk_rem a1 (by omega) (by omega)]
    · rw [n6, pk_rem a1 (by omega) (by omega), nI_add, pk_rem (by omega) (by omega) (by omega), show (a % 6 + 6) % 6 = a % 6 by omega]
/-! sets of cells by a test -/
def wsW (P : Nat → Bool) : Nat → Int64
  | 0 => 0
  | c + 1 => wsW P c ||| (if P c = true then b1 c else 0)
theorem wsW_b (P : Nat → Bool) (k : Nat) : ∀ c, c ≤ 64 → bt6 (wsW P c) k = (decide (k < c) && P k)
  | 0, _ => by
    show bt6 0 k = _
    rw [b6_0]; simp
  | c + 1, hc => by
    have ih := wsW_b P k c (by omega)
    show bt6 (wsW P c ||| _) k = _
    rw [b6_or, ih]
    by_cases e : P c = true
    · rw [if_pos e, b6_1 (by omega)]
      by_cases q : k = c
      · subst q; simp [e]
      · by_cases r : k < c
        · simp [r, q, show k < c + 1 by omega]
        · simp [r, q, show ¬ k < c + 1 by omega]
    · rw [if_neg e, b6_0, Bool.or_false]
      by_cases q : k = c
      · subst q; simp [e]
      · by_cases r : k < c
        · simp [r, show k < c + 1 by omega]
        · simp [r, show ¬ k < c + 1 by omega]
def pW (C c : Nat) : Bool := decide (c % C = 0)
def pE2 (C c : Nat) : Bool := decide (c % C = C - 1)
def pM (C H c : Nat) : Bool := decide (c / C = 0) || decide (c / C = H - 1)
theorem floor_l {C H z : Nat} (hC : 3 ≤ C) (hC8 : C ≤ 8) (hH : 3 ≤ H) (hH8 : H ≤ 8) (hz : z = C * H) (hz64 : z ≤ 64) (hT2 : T 2 = 0) (hT3 : T 3 = 21) (hT4 : T 4 = 20) (hR6 : R 2 6 = 3) (hR7 : R 2 7 = 4) (hN3 : N 3 = 4) (hN4 : N 4 = z) (hi : i 2 2 = nI z) (hl : l 3 0 = 0) : f_X0_init_l49 xFu 2 (nI C) (nI H) 0 0 0 0 (mk6 i l R T N 4) = some ((), mk6 (clr i 4 50 z) (u2 (u2 (u2 (u2 l 3 0 (wsW (fun _ => true) z)) 2 3 (wsW (pW C) z)) 2 4 (wsW (pE2 C) z)) 2 5 ((wsW (pM C H) z ||| wsW (pW C) z) ||| wsW (pE2 C) z)) R T N 4) := by
  have key : f_X0_init_l49 xFu 2 (nI C) (nI H) (wsW (pW C) 0) (wsW (pE2 C) 0) (wsW (pM C H) 0) (nI 0) (mk6 (clr i 4 50 0) (u2 l 3 0 (wsW (fun _ => true) 0)) R T N 4) = some ((), mk6 (clr i 4 50 z) (u2 (u2 (u2 (u2 l 3 0 (wsW (fun _ => true) z)) 2 3 (wsW (pW C) z)) 2 4 (wsW (pE2 C) z)) 2 5 ((wsW (pM C H) z ||| wsW (pW C) z) ||| wsW (pE2 C) z)) R T N 4) := by
    refine acc_loopG (fun m (a : Int64 × Int64 × Int64 × Int32) q => f_X0_init_l49 m 2 (nI C) (nI H) a.1 a.2.1 a.2.2.1 a.2.2.2 q) (fun c => (wsW (pW C) c, wsW (pE2 C) c, wsW (pM C H) c, nI c)) (fun c => mk6 (clr i 4 50 c) (u2 l 3 0 (wsW (fun _ => true) c)) R T N 4) z _ ?_ ?_ z 0 xFu (by omega) (by unfold xFu; omega)
    · intro m
      show f_X0_init_l49 (m + 1) 2 (nI C) (nI H) (wsW (pW C) z) (wsW (pE2 C) z) (wsW (pM C H) z) (nI z) _ = _
      rw [f_X0_init_l49_s, k_C (by decide) (by decide) hT2, k_i, clr_o _ _ (by decide), hi, if_pos (Int32.le_refl _), k_L, k_L, k_L]
    · intro m c hc
      show f_X0_init_l49 (m + 1) 2 (nI C) (nI H) (wsW (pW C) c) (wsW (pE2 C) c) (wsW (pM C H) c) (nI c) _ = f_X0_init_l49 m 2 (nI C) (nI H) (wsW (pW C) c ||| if pW C c = true then b1 c else 0) (wsW (pE2 C) c ||| if pE2 C c = true then b1 c else 0) (wsW (pM C H) c ||| if pM C H c = true then b1 c else 0) (nI (c + 1)) (mk6 (clr i 4 50 (c + 1)) (u2 l 3 0 (wsW (fun _ => true) c ||| b1 c)) R T N 4)
      have hC0 : ¬ nI C = 0 := nI_ne0 (by omega) (by omega)
      have m1 : c % C < C := Nat.mod_lt _ (by omega)
      have m2 : c / C ≤ c := Nat.div_le_self _ _
      have m3 := Nat.zero_le (c / C)
      have k0 : (0 : Int32).toNatClampNeg = 0 := by decide
      have b133 : ∀ a b d e, f_X0_init_b133 (f_X0_init_l49 m) 2 (nI C) (nI H) a b (nI c) d e (mk6 (clr i 4 50 c) (u2 l 3 0 (wsW (fun _ => true) c)) R T N 4) = f_X0_init_l49 m 2 (nI C) (nI H) a b (d ||| e) (nI (c + 1)) (mk6 (clr i 4 50 (c + 1)) (u2 l 3 0 (wsW (fun _ => true) c ||| b1 c)) R T N 4) := by
        intro a b d e
        unfold f_X0_init_b133
        rw [k_C (by decide) (by decide) hT2, k_r hR6, k_C (by decide) (by decide) hT3, k_N hN3 (by decide), only_E, bdS, k_C (by decide) (by decide) hT3, k_N hN3 (by decide), k0, k_l, u2_s, k_L, u2_u2, k_C (by decide) (by decide) hT2, k_r hR7, k_C (by decide) (by decide) hT4, k_N hN4 (in_R hc (by omega)), nI_clamp (by omega), k_I, clr_s, nI_1]
      have b106 : ∀ a d e, f_X0_init_b106 (f_X0_init_l49 m) 2 (nI C) (nI H) a (wsW (pM C H) c) (nI c) (nI (c / C)) d e (mk6 (clr i 4 50 c) (u2 l 3 0 (wsW (fun _ => true) c)) R T N 4) = f_X0_init_l49 m 2 (nI C) (nI H) a (d ||| e) (wsW (pM C H) c ||| if pM C H c = true then b1 c else 0) (nI (c + 1)) (mk6 (clr i 4 50 (c + 1)) (u2 l 3 0 (wsW (fun _ => true) c ||| b1 c)) R T N 4) := by
        intro a d e
        unfold f_X0_init_b106
        rw [nI_s1 (show 0 < H by omega)]
        by_cases q : c / C = 0
        · have e : (if pM C H c = true then b1 c else 0) = b1 c := if_pos (by unfold pM; simp [q])
          rw [if_pos (by rw [q]; rfl), only_E, bdS, b133, e]
        · rw [if_neg (nI_ne0 (by omega) (by omega))]
          by_cases q2 : c / C = H - 1
          · have e : (if pM C H c = true then b1 c else 0) = b1 c := if_pos (by unfold pM; simp [q2])
            rw [if_pos (by rw [q2]), only_E, bdS, b133, e]
          · have e : (if pM C H c = true then b1 c else 0) = 0 := if_neg (by
              unfold pM
              rw [decide_eq_false q, decide_eq_false q2]
              decide)
            rw [if_neg (by rw [nI_eq (by omega) (by omega)]; exact q2), b133, e]
      have b85 : ∀ d e, f_X0_init_b85 (f_X0_init_l49 m) 2 (nI C) (nI H) (wsW (pE2 C) c) (wsW (pM C H) c) (nI c) (nI (c % C)) (nI (c / C)) d e (mk6 (clr i 4 50 c) (u2 l 3 0 (wsW (fun _ => true) c)) R T N 4) = f_X0_init_l49 m 2 (nI C) (nI H) (d ||| e) (wsW (pE2 C) c ||| if pE2 C c = true then b1 c else 0) (wsW (pM C H) c ||| if pM C H c = true then b1 c else 0) (nI (c + 1)) (mk6 (clr i 4 50 (c + 1)) (u2 l 3 0 (wsW (fun _ => true) c ||| b1 c)) R T N 4) := by
        intro d e
        unfold f_X0_init_b85
        rw [nI_s1 (show 0 < C by omega)]
        by_cases q : c % C = C - 1
        · have e : (if pE2 C c = true then b1 c else 0) = b1 c := if_pos (decide_eq_true q)
          rw [if_pos (by rw [q]), only_E, bdS, b106, e]
        · have e : (if pE2 C c = true then b1 c else 0) = 0 := if_neg (by
            unfold pE2
            rw [decide_eq_false q]
            decide)
          rw [if_neg (by rw [nI_eq (by omega) (by omega)]; exact q), b106, e]
      rw [f_X0_init_l49_s, k_C (by decide) (by decide) hT2, k_i, clr_o _ _ (by decide), hi, if_neg (nI_ge hc (by omega)), gd_t hC0, gd_t hC0, pk_rem (by omega) (by omega) (by omega), pk_div (by omega) (by omega) (by omega)]
      by_cases q : c % C = 0
      · have e : (if pW C c = true then b1 c else 0) = b1 c := if_pos (decide_eq_true q)
        rw [if_pos (by rw [q]; rfl), only_E, bdS, b85, e]
      · have e : (if pW C c = true then b1 c else 0) = 0 := if_neg (by
          unfold pW
          rw [decide_eq_false q]
          decide)
        rw [if_neg (nI_ne0 (by omega) (by omega)), b85, e]
  rw [clr_0, show wsW (fun _ => true) 0 = 0 from rfl, u2_id hl] at key
  exact key
end CTOR0
