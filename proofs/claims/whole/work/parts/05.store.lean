/-! THE STORE: what the cells of the system hold, by abstract pointers (0 is null, 1 .. wZ are the cells in the order in which they were made, 1000 and on lie outside). -/
abbrev xv : Type := Int32 ⊕ Int64 ⊕ Nat
abbrev xI (x : Int32) : xv := .inl x
abbrev xL (x : Int64) : xv := .inr (.inl x)
abbrev xR (p : Nat) : xv := .inr (.inr p)
abbrev xSt : Type := (Nat → Nat → Int32) × (Nat → Nat → Int64) × (Nat → Nat → Nat) × (Nat → Nat) × (Nat → Nat) × Nat
def wI (w : xSt) (p k : Nat) : Int32 := w.1 p k
def wL (w : xSt) (p k : Nat) : Int64 := w.2.1 p k
def wR (w : xSt) (p k : Nat) : Nat := w.2.2.1 p k
def wT (w : xSt) (p : Nat) : Nat := w.2.2.2.1 p
def wN (w : xSt) (p : Nat) : Nat := w.2.2.2.2.1 p
def wZ (w : xSt) : Nat := w.2.2.2.2.2
def sI (w : xSt) (p k : Nat) (v : Int32) : xSt := (fun q j => if q = p ∧ j = k then v else w.1 q j, w.2)
def sL (w : xSt) (p k : Nat) (v : Int64) : xSt := (w.1, fun q j => if q = p ∧ j = k then v else w.2.1 q j, w.2.2)
def sR (w : xSt) (p k : Nat) (v : Nat) : xSt := (w.1, w.2.1, fun q j => if q = p ∧ j = k then v else w.2.2.1 q j, w.2.2.2)
def nA (w : xSt) (t n : Nat) : xSt := (fun q j => if q = wZ w + 1 then 0 else w.1 q j, fun q j => if q = wZ w + 1 then 0 else w.2.1 q j, fun q j => if q = wZ w + 1 then 0 else w.2.2.1 q j, fun q => if q = wZ w + 1 then t else w.2.2.2.1 q, fun q => if q = wZ w + 1 then n else w.2.2.2.2.1 q, wZ w + 1)
/-- p is a cell of kind t -/
abbrev isC (w : xSt) (p t : Nat) : Prop := p ≠ 0 ∧ p ≤ wZ w ∧ wT w p = t
/-- a place of an array -/
abbrev inR (i : Int32) (n : Nat) : Prop := 0 ≤ i.toInt ∧ i.toInt < (n : Int)
/-- guards, names -/
def gd {α : Type} (c : Prop) [Decidable c] (e : Option α) : Option α := if c then e else none
theorem gd_some {α : Type} {c : Prop} [Decidable c] {e : Option α} {r : α} (h : gd c e = some r) : c ∧ e = some r := by
  unfold gd at h
  by_cases hc : c
  · rw [if_pos hc] at h; exact ⟨hc, h⟩
  · rw [if_neg hc] at h; cases h
theorem gd_pos {α : Type} {c : Prop} [Decidable c] {e : Option α} (h : c) : gd c e = e := if_pos h
def lt1 {α β : Type} (a : α) (f : α → β) : β := f a
theorem lt1_some {α β : Type} {a : α} {f : α → Option β} {r : β} (h : lt1 a f = some r) : ∃ b, b = a ∧ f b = some r := ⟨a, rfl, h⟩
theorem bd_some {α β : Type} {o : Option (α × xSt)} {f : α → xSt → Option β} {r : β} (h : (o.bind fun q => f q.1 q.2) = some r) : ∃ (a : α) (w : xSt), o = some (a, w) ∧ f a w = some r := by
  cases o with
  | none => cases h
  | some q => exact ⟨q.1, q.2, rfl, h⟩
def bd {α β : Type} (o : Option (α × xSt)) (f : α → xSt → Option β) : Option β := o.bind fun q => f q.1 q.2
theorem bd_ok {α β : Type} {o : Option (α × xSt)} {f : α → xSt → Option β} {a : α} {w : xSt} (h : o = some (a, w)) : bd o f = f a w := by rw [h]; rfl
theorem inR_vp {i : Int32} {n : Nat} (h : inR i n) : vp_in i n := vp_in_iff.mpr h
/-! reads of a changed store -/
theorem wI_sI (w : xSt) (p k : Nat) (v : Int32) (q j : Nat) : wI (sI w p k v) q j = if q = p ∧ j = k then v else wI w q j := rfl
theorem wL_sL (w : xSt) (p k : Nat) (v : Int64) (q j : Nat) : wL (sL w p k v) q j = if q = p ∧ j = k then v else wL w q j := rfl
theorem wR_sR (w : xSt) (p k : Nat) (v : Nat) (q j : Nat) : wR (sR w p k v) q j = if q = p ∧ j = k then v else wR w q j := rfl
theorem wL_sI (w : xSt) (p k : Nat) (v : Int32) (q j : Nat) : wL (sI w p k v) q j = wL w q j := rfl
theorem wR_sI (w : xSt) (p k : Nat) (v : Int32) (q j : Nat) : wR (sI w p k v) q j = wR w q j := rfl
theorem wT_sI (w : xSt) (p k : Nat) (v : Int32) (q : Nat) : wT (sI w p k v) q = wT w q := rfl
theorem wN_sI (w : xSt) (p k : Nat) (v : Int32) (q : Nat) : wN (sI w p k v) q = wN w q := rfl
theorem wZ_sI (w : xSt) (p k : Nat) (v : Int32) : wZ (sI w p k v) = wZ w := rfl
theorem wI_sL (w : xSt) (p k : Nat) (v : Int64) (q j : Nat) : wI (sL w p k v) q j = wI w q j := rfl
theorem wR_sL (w : xSt) (p k : Nat) (v : Int64) (q j : Nat) : wR (sL w p k v) q j = wR w q j := rfl
theorem wT_sL (w : xSt) (p k : Nat) (v : Int64) (q : Nat) : wT (sL w p k v) q = wT w q := rfl
theorem wN_sL (w : xSt) (p k : Nat) (v : Int64) (q : Nat) : wN (sL w p k v) q = wN w q := rfl
theorem wZ_sL (w : xSt) (p k : Nat) (v : Int64) : wZ (sL w p k v) = wZ w := rfl
theorem wI_sR (w : xSt) (p k : Nat) (v : Nat) (q j : Nat) : wI (sR w p k v) q j = wI w q j := rfl
theorem wL_sR (w : xSt) (p k : Nat) (v : Nat) (q j : Nat) : wL (sR w p k v) q j = wL w q j := rfl
theorem wT_sR (w : xSt) (p k : Nat) (v : Nat) (q : Nat) : wT (sR w p k v) q = wT w q := rfl
theorem wN_sR (w : xSt) (p k : Nat) (v : Nat) (q : Nat) : wN (sR w p k v) q = wN w q := rfl
theorem wZ_sR (w : xSt) (p k : Nat) (v : Nat) : wZ (sR w p k v) = wZ w := rfl
theorem wI_nA (w : xSt) (t n q j : Nat) : wI (nA w t n) q j = if q = wZ w + 1 then 0 else wI w q j := rfl
theorem wL_nA (w : xSt) (t n q j : Nat) : wL (nA w t n) q j = if q = wZ w + 1 then 0 else wL w q j := rfl
theorem wR_nA (w : xSt) (t n q j : Nat) : wR (nA w t n) q j = if q = wZ w + 1 then 0 else wR w q j := rfl
theorem wT_nA (w : xSt) (t n q : Nat) : wT (nA w t n) q = if q = wZ w + 1 then t else wT w q := rfl
theorem wN_nA (w : xSt) (t n q : Nat) : wN (nA w t n) q = if q = wZ w + 1 then n else wN w q := rfl
theorem wZ_nA (w : xSt) (t n : Nat) : wZ (nA w t n) = wZ w + 1 := rfl
/-! THE GHOST: where the cells lie, and what lies outside: the machine's numbers of classes, of array classes by kind, the first address, the addresses of what lies outside, the script -/
abbrev xG : Type := va_G × (Nat → ClassId) × Nat × (Nat → Nat) × Nat × (Nat → Int32) × Option Nat
def gD (γ : xG) : va_G := γ.1
def gA (γ : xG) : Nat → ClassId := γ.2.1
def gB (γ : xG) : Nat := γ.2.2.1
def gS (γ : xG) : Nat → Nat := γ.2.2.2.1
def gL (γ : xG) : Nat := γ.2.2.2.2.1
def gX (γ : xG) : Nat → Int32 := γ.2.2.2.2.2.1
def gF (γ : xG) : Option Nat := γ.2.2.2.2.2.2
def xE (γ : xG) (p : Nat) : Nat := if p < 1000 then gB γ + (p - 1) else gS γ (p - 1000)
def xO (γ : xG) (p : Nat) : Option Nat := if p = 0 then none else if p = 1021 then gF γ else some (xE γ p)
def xC (γ : xG) : xv → Value
  | .inl x => .int x
  | .inr (.inl x) => .long x
  | .inr (.inr p) => va_rf (xO γ p)
def xcat : xv → Nat
  | .inl _ => 1
  | .inr (.inl _) => 2
  | .inr (.inr _) => 1
theorem xC_cat (γ : xG) (v : xv) : (xC γ v).category = xcat v := by
  rcases v with x | x | p
  · rfl
  · rfl
  · show (va_rf (xO γ p)).category = 1
    cases xO γ p <;> rfl
theorem xC_ref {γ : xG} {p : Nat} (h : p ≠ 0) (h2 : p ≠ 1021) : xC γ (xR p) = .ref (xE γ p) := by
  show va_rf (xO γ p) = _
  unfold xO
  rw [if_neg h, if_neg h2]
  rfl
theorem xE_in {γ : xG} {p : Nat} (h : p < 1000) : xE γ p = gB γ + (p - 1) := if_pos h
/-- the types of the fields, class by class -/
def xTy (t : Nat) : Nat → FieldType := match t with
  | 0 => tyX0 | 1 => tyX1 | 2 => tyX2 | 3 => tyX3 | 4 => tyX4 | 5 => tyX5 | 6 => tyX6 | 7 => tyX7 | 8 => tyX8 | 9 => tyX9 | 10 => tyX10 | _ => tyX11
def xNf (t : Nat) : Nat := match t with
  | 0 => 8 | 1 => 7 | 2 => 2 | 3 => 5 | 4 => 3 | 5 => 4 | 6 => 11 | 7 => 3 | 8 => 4 | 9 => 2 | 10 => 10 | 11 => 50 | _ => 0
/-- 0 an int (byte, boolean ..), 1 a long, 2 a reference -/
def xsort : FieldType → Nat
  | .long => 1
  | .object _ => 2
  | .array _ => 2
  | _ => 0
def xF (γ : xG) (w : xSt) (p : Nat) (ty : FieldType) (k : Nat) : Value := match xsort ty with
  | 0 => .int (wI w p k)
  | 1 => .long (wL w p k)
  | _ => va_rf (xO γ (wR w p k))
def xFs (γ : xG) (w : xSt) (p t : Nat) : List Value := (List.range (xNf t)).map (fun k => xF γ w p (xTy t k) k)
/-- what an array of a kind holds: 20 int, 21 long, 22 byte, 23 boolean, 24 Stand, 25 Text -/
def xAr (γ : xG) (w : xSt) (p t : Nat) : (Nat → Int32) ⊕ (Nat → Int64) ⊕ (Nat → UInt32) ⊕ (Nat → UInt64) ⊕ (Nat → Option Nat) :=
  if t = 21 then .inr (.inl (wL w p)) else if t = 24 ∨ t = 25 then .inr (.inr (.inr (.inr (fun j => xO γ (wR w p j))))) else .inl (wI w p)
def xK (γ : xG) (w : xSt) (p : Nat) : va_E := if wT w p < 20 then .inr (wT w p, xFs γ w p (wT w p)) else .inl (gA γ (wT w p), wN w p, xAr γ w p (wT w p))
def xW (γ : xG) (w : xSt) : va_W := (List.range (wZ w)).map (fun i => (gB γ + i, xK γ w (i + 1)))
def xH (γ : xG) (w : xSt) (H : Heap) : Prop := va_P (gD γ) vwCl (xW γ w) H ∧ H.size = gB γ + wZ w ∧ wZ w < 1000 ∧ wN w 1020 = gL γ ∧ ∀ j : Nat, wI w 1020 j = gX γ j
theorem xW_get (γ : xG) (w : xSt) {p : Nat} (h0 : p ≠ 0) (h1 : p ≤ wZ w) : (xW γ w)[p - 1]? = some (gB γ + (p - 1), xK γ w p) := by
  unfold xW
  rw [List.getElem?_map, List.getElem?_range (by omega)]
  show some (gB γ + (p - 1), xK γ w (p - 1 + 1)) = _
  rw [show p - 1 + 1 = p by omega]
theorem xW_len (γ : xG) (w : xSt) : (xW γ w).length = wZ w := by simp [xW]
theorem xW_at {γ : xG} {w : xSt} {k : Nat} {q : Nat × va_E} (h : (xW γ w)[k]? = some q) : k < wZ w ∧ q = (gB γ + k, xK γ w (k + 1)) := by
  have hk : k < wZ w := by
    have := (List.getElem?_eq_some_iff.mp h).1
    rw [xW_len] at this
    exact this
  have := xW_get γ w (p := k + 1) (by omega) (by omega)
  rw [show k + 1 - 1 = k by omega] at this
  exact ⟨hk, Option.some.inj (h.symm.trans this)⟩
theorem xW_D (γ : xG) (w : xSt) : va_D (fun q => gB γ ≤ q) (xW γ w) := by
  refine ⟨fun i j p q hi hj hpq => ?_, fun k q hk => ?_⟩
  · have h1 := (xW_at hi).2
    have h2 := (xW_at hj).2
    rw [h1, h2] at hpq
    dsimp only at hpq
    omega
  · rw [(xW_at hk).2]
    dsimp only
    omega
theorem xW_set (γ : xG) (w w' : xSt) {p : Nat} (h0 : p ≠ 0) (h1 : p ≤ wZ w) (hz : wZ w' = wZ w) (ho : ∀ q, q ≠ p → xK γ w' q = xK γ w q) {e : va_E} (he : xK γ w' p = e) : (xW γ w).set (p - 1) (gB γ + (p - 1), e) = xW γ w' := by
  apply List.ext_getElem?
  intro k
  by_cases hk : k = p - 1
  · subst hk
    rw [List.getElem?_set_self (by rw [xW_len]; omega), xW_get γ w' h0 (by omega), he]
  · rw [List.getElem?_set_ne (fun h => hk h.symm)]
    by_cases hl : k < wZ w
    · have a1 := xW_get γ w (p := k + 1) (by omega) (by omega)
      have a2 := xW_get γ w' (p := k + 1) (by omega) (by omega)
      rw [show k + 1 - 1 = k by omega] at a1 a2
      rw [a1, a2, ho (k + 1) (by omega)]
    · rw [List.getElem?_eq_none (by rw [xW_len]; omega), List.getElem?_eq_none (by rw [xW_len]; omega)]
theorem xW_app (γ : xG) (w w' : xSt) (hz : wZ w' = wZ w + 1) (ho : ∀ q, q ≠ wZ w + 1 → xK γ w' q = xK γ w q) : xW γ w' = xW γ w ++ [(gB γ + wZ w, xK γ w' (wZ w + 1))] := by
  unfold xW
  rw [hz, List.range_succ, List.map_append]
  congr 1
  apply List.map_congr_left
  intro i hi
  have := List.mem_range.mp hi
  rw [ho (i + 1) (by omega)]
