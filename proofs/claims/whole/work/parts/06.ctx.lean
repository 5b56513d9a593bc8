/-! writes of a cell, as its picture has them -/
theorem xK_ne {γ : xG} {w w' : xSt} {q : Nat} (hT : wT w' q = wT w q) (hN : wN w' q = wN w q) (hI : ∀ j, wI w' q j = wI w q j) (hL : ∀ j, wL w' q j = wL w q j) (hR : ∀ j, wR w' q j = wR w q j) : xK γ w' q = xK γ w q := by
  have e1 : wI w' q = wI w q := funext hI
  have e2 : wL w' q = wL w q := funext hL
  have e3 : wR w' q = wR w q := funext hR
  unfold xK xFs xF xAr
  rw [hT, hN, e1, e2, e3]
theorem xFs_len (γ : xG) (w : xSt) (p t : Nat) : (xFs γ w p t).length = xNf t := by simp [xFs]
theorem xFs_get (γ : xG) (w : xSt) (p t : Nat) {k : Nat} (hk : k < xNf t) : (xFs γ w p t)[k]? = some (xF γ w p (xTy t k) k) := by
  unfold xFs
  rw [List.getElem?_map, List.getElem?_range hk]
  rfl
theorem xFs_set (γ : xG) (w w' : xSt) (p t : Nat) {k : Nat} (hk : k < xNf t) {v : Value} (hv : xF γ w' p (xTy t k) k = v) (ho : ∀ j, j ≠ k → xF γ w' p (xTy t j) j = xF γ w p (xTy t j) j) : (xFs γ w p t).set k v = xFs γ w' p t := by
  apply List.ext_getElem?
  intro j
  by_cases hj : j = k
  · subst hj
    rw [List.getElem?_set_self (by rw [xFs_len]; exact hk), xFs_get _ _ _ _ hk, hv]
  · rw [List.getElem?_set_ne (fun h => hj h.symm)]
    by_cases hl : j < xNf t
    · rw [xFs_get _ _ _ _ hl, xFs_get _ _ _ _ hl, ho j hj]
    · rw [List.getElem?_eq_none (by rw [xFs_len]; omega), List.getElem?_eq_none (by rw [xFs_len]; omega)]
theorem xK_obj {γ : xG} {w : xSt} {p t : Nat} (h : wT w p = t) (ht : t < 20) : xK γ w p = .inr (t, xFs γ w p t) := by
  unfold xK
  rw [h, if_pos ht]
theorem xK_arr {γ : xG} {w : xSt} {p t : Nat} (h : wT w p = t) (ht : ¬ t < 20) : xK γ w p = .inl (gA γ t, wN w p, xAr γ w p t) := by
  unfold xK
  rw [h, if_neg ht]
theorem xF_i {γ : xG} {w : xSt} {p k : Nat} {ty : FieldType} (h : xsort ty = 0) : xF γ w p ty k = .int (wI w p k) := by simp [xF, h]
theorem xF_l {γ : xG} {w : xSt} {p k : Nat} {ty : FieldType} (h : xsort ty = 1) : xF γ w p ty k = .long (wL w p k) := by simp [xF, h]
theorem xF_r {γ : xG} {w : xSt} {p k : Nat} {ty : FieldType} (h : xsort ty = 2) : xF γ w p ty k = va_rf (xO γ (wR w p k)) := by simp [xF, h]
/-- the store with one slot changed -/
def sV (w : xSt) (p k : Nat) : xv → xSt
  | .inl x => sI w p k x
  | .inr (.inl x) => sL w p k x
  | .inr (.inr x) => sR w p k x
def vsort : xv → Nat
  | .inl _ => 0
  | .inr (.inl _) => 1
  | .inr (.inr _) => 2
theorem sV_Z (w : xSt) (p k : Nat) (v : xv) : wZ (sV w p k v) = wZ w := by rcases v with x | x | x <;> rfl
theorem sV_T (w : xSt) (p k : Nat) (v : xv) (q : Nat) : wT (sV w p k v) q = wT w q := by rcases v with x | x | x <;> rfl
theorem sV_N (w : xSt) (p k : Nat) (v : xv) (q : Nat) : wN (sV w p k v) q = wN w q := by rcases v with x | x | x <;> rfl
theorem sV_ne {γ : xG} (w : xSt) (p k : Nat) (v : xv) {q : Nat} (h : q ≠ p) : xK γ (sV w p k v) q = xK γ w q := by
  refine xK_ne (sV_T w p k v q) (sV_N w p k v q) ?_ ?_ ?_
  · intro j; rcases v with x | x | x <;> simp [sV, wI_sI, wI_sL, wI_sR, h]
  · intro j; rcases v with x | x | x <;> simp [sV, wL_sI, wL_sL, wL_sR, h]
  · intro j; rcases v with x | x | x <;> simp [sV, wR_sI, wR_sL, wR_sR, h]
theorem sV_fld {γ : xG} (w : xSt) (p t : Nat) {k : Nat} (hk : k < xNf t) (v : xv) (hv : xsort (xTy t k) = vsort v) : (xFs γ w p t).set k (xC γ v) = xFs γ (sV w p k v) p t := by
  refine xFs_set γ w _ p t hk ?_ ?_
  · rcases v with x | x | x
    · rw [xF_i hv]; simp [sV, wI_sI, xC]
    · rw [xF_l hv]; simp [sV, wL_sL, xC]
    · rw [xF_r hv]; simp [sV, wR_sR, xC]
  · intro j hj
    unfold xF
    rcases v with x | x | x <;> simp [sV, wI_sI, wI_sL, wI_sR, wL_sI, wL_sL, wL_sR, wR_sI, wR_sL, wR_sR, hj]
/-! WORDS: the tables' words that hold at every state of a run -/
def xGW : List Cond := lw_tbl.filter goodWord
def xisN : Cond → Bool
  | .fieldLinkNest .. => true
  | .methodLinkNest .. => true
  | _ => false
def xNW : List Cond := lw_tbl.filter xisN
theorem xGW_at {w : Cond} (i : Nat) (h : lw_tbl[i]? = some w) (hg : goodWord w = true) : w ∈ xGW := List.mem_filter.mpr ⟨List.mem_of_getElem? h, hg⟩
theorem xNW_at {w : Cond} (i : Nat) (h : lw_tbl[i]? = some w) (hg : xisN w = true) : w ∈ xNW := List.mem_filter.mpr ⟨List.mem_of_getElem? h, hg⟩
theorem xGW_warm {w : Cond} (hw : w ∈ xGW) {A A' : Array Value} {s U : State} (hW : s.WarmedH U.vm) (h : w.before A s = true) : w.before A' U = true := word_at hW (good_of_word (List.mem_filter.mp hw).2) h
theorem xNW_warm {w : Cond} (hw : w ∈ xNW) {s U : State} (hW : s.WarmedH U.vm) (h : va_Nw w s) : va_Nw w U := by
  have hn := (List.mem_filter.mp hw).2
  cases w <;> first | exact va_Nw.warmF hW h | exact va_Nw.warmM hW h | cases hn
/-! the String constants: their places in the pool, their texts -/
def xtx : List (Nat × String × List Int32) := [(59, "gold", [103, 111, 108, 100]), (61, "silver", [115, 105, 108, 118, 101, 114]), (63, "bronze", [98, 114, 111, 110, 122, 101]), (34, " at ", [32, 97, 116, 32]), (50, ",", [44]), (52, "pay ", [112, 97, 121, 32]), (54, " on ", [32, 111, 110, 32])]
def xlen : List Nat := [4, 6, 6, 4, 1, 4, 4]
def xbyt : List (List Int32) := [[103, 111, 108, 100], [115, 105, 108, 118, 101, 114], [98, 114, 111, 110, 122, 101], [32, 97, 116, 32], [44], [112, 97, 121, 32], [32, 111, 110, 32]]
def xpool : List Nat := [59, 61, 63, 34, 50, 52, 54]
def xtext : List String := ["gold", "silver", "bronze", " at ", ",", "pay ", " on "]
abbrev xA (γ : xG) : Nat → Prop := fun q => gB γ ≤ q
def xtys (γ : xG) : List (ClassId × FieldType) := [(gA γ 20, .int), (gA γ 21, .long), (gA γ 22, .byte), (gA γ 23, .boolean), (gA γ 24, .object "WorldHall$Stand"), (gA γ 25, .object "WorldHall$Text")]
/-- what holds of every state of the run, its cells apart: the classes, the words, and what lies outside (the Strings at 1000 + i, their bytes at 1010 + i, the script at 1020) -/
def xStat (γ : xG) (U : State) : Prop :=
  va_K (gD γ) vwCl (xtys γ) U ∧ (∀ w ∈ xNW, va_Nw w U) ∧ (∀ w ∈ xGW, va_Nw w U) ∧ (va_AO "WorldHall$Stand" U ∧ va_AO "WorldHall$Text" U) ∧
  vk_S 7 xlen xbyt (fun i => gS γ i) (fun i => gS γ (10 + i)) (xA γ) U U.heap ∧ va_Z "java/lang/String" "COMPACT_STRINGS" "Z" (.int 1) (xA γ) U U.heap ∧
  va_Z "jdk/internal/util/Preconditions" "SIOOBE_FORMATTER" "Ljava/util/function/BiFunction;" (va_rf (gF γ)) (xA γ) U U.heap ∧
  (∀ i : Nat, i < 7 → vk_R "WorldHall$Tape" (xpool.getD i 0) (xtext.getD i "") (gS γ i) U) ∧
  (va_X (gS γ 20) (gL γ) (gX γ) U U.heap ∧ gS γ 20 < gB γ ∧ gL γ < 2 ^ 31)
/-- the facts go on to a state that a call begins in -/
theorem xStat.go {γ : xG} {s U : State} (h : xStat γ s) (hW : s.WarmedH U.vm) (hB : gB γ ≤ s.heap.size) (hk : ∀ q : Nat, q < s.heap.size → ¬ xA γ q → U.heap[q]? = s.heap[q]?) : xStat γ U := by
  obtain ⟨h1, h2, h3, h4, h5, h6, h6f, h7, h8, h9, h10⟩ := h
  refine ⟨va_K.moved hW.alike h1, fun w hw => xNW_warm hw hW (h2 w hw), fun w hw => xGW_warm hw hW (h3 w hw), ⟨va_AO.moved hW.alike h4.1, va_AO.moved hW.alike h4.2⟩, (h5.kept hk).moved hW.alike, (h6.kept hk).moved hW.alike, (h6f.kept hk).moved hW.alike, fun i hi => (h7 i hi).warm hW, (h8.kept (hk _ (by omega) (by show ¬ gB γ ≤ gS γ 20; omega))).moved hW.alike, h9, h10⟩
/-- the frame of a method: the machine, its code, its class, the facts at its start -/
def xCtx (cc : ByteArray) (nL : Nat) (ret : Option FieldType) (own : String) (ini : Bool) (p : Program) (s : State) (m : MethodId) (args : Array Value) (meth : Method) (c : Code) (γ : xG) : Prop :=
  p.tables.exec = Jvm.exec ∧ c.code = cc ∧ c.maxLocals = nL ∧ meth.sig.returnType = ret ∧ meth.locks = false ∧ s.vm.findClass own = some m.cls ∧ (ini = true → meth.name = "<init>") ∧ xStat γ s ∧ (∀ w ∈ xGW, w.before args s = true)
/-- the machine, at pc with locals lv and stack st over the store w, comes to its end; cu cells of su slots may still be made -/
def xX (cc : ByteArray) (nL : Nat) (ret : Option FieldType) (own : String) (ini : Bool) (R : Room) (Z : xG → List Frame → Array Value → State → State → Prop) (pc : Nat) (lv : List (Nat × xv)) (st : List xv) (w : xSt) (cu su : Nat) : Prop :=
  ∀ (p : Program) (l : Launch) (e : Env) (s : State) (m : MethodId) (args : Array Value) (below : List Frame) (meth : Method) (c : Code) (γ : xG) (H : Heap) (locs : List Loc) (cells slots : Nat) (ls : Array Slot),
    xCtx cc nL ret own ini p s m args meth c γ → xH γ w H → va_S (xA γ) s.heap H locs → gB γ ≤ s.heap.size → cells + cu ≤ R.cells → slots + su ≤ R.slots → lv_has ls nL (lv.map (fun q => (q.1, xC γ q.2))) →
    W p l e R s m args below meth c H locs cells slots (Z γ below args s) (F0 m pc ls (st.map (xC γ)))
/-- a method's contract at one start: from the arguments av and the store w it returns rw.1, and leaves the store rw.2 -/
def xPc (γ : xG) (av : List xv) (w : xSt) : Array Value → State → Prop := fun a U => a = (av.map (xC γ)).toArray ∧ xH γ w U.heap ∧ xStat γ U
def xQc (γ : xG) (rw : Option xv × xSt) : Array Value → State → Outcome → State → Prop := fun _ st oc t => oc = .returned (rw.1.map (xC γ)) ∧ xH γ rw.2 t.heap ∧ st.heap.size ≤ t.heap.size ∧ ∀ q : Nat, q < gB γ → t.heap[q]? = st.heap[q]?
abbrev xRm (d mc ms : Nat) : Room := { frames := d, cells := mc, slots := ms, locals := 40 * d }
def xCall (y : MethodName) (cc : ByteArray) (maxL : Nat) (ret : Option FieldType) (d mc ms : Nat) (av : List xv) (w : xSt) (rw : Option xv × xSt) : Prop :=
  ∀ (l : Launch) (γ : xG), Met l y [Cond.code y cc maxL ret] (xRm d mc ms) (xPc γ av w) (xQc γ rw) mc ms (xA γ)
abbrev xZf (rw : Option xv × xSt) (mc ms : Nat) : xG → List Frame → Array Value → State → State → Prop := fun γ below args s => MQ below (xQc γ rw) args s mc ms (xA γ)
/-- the arguments' places -/
def xargs : Nat → List xv → List (Nat × xv)
  | _, [] => []
  | i, v :: l => (i, v) :: xargs (i + xcat v) l
theorem xargs_map (γ : xG) : ∀ (l : List xv) (i : Nat), (xargs i l).map (fun q => (q.1, xC γ q.2)) = lv_args i (l.map (xC γ)) := by
  intro l
  induction l with
  | nil => intro i; rfl
  | cons v l ih =>
    intro i
    show (i, xC γ v) :: _ = _
    rw [ih]
    show _ = (i, xC γ v) :: lv_args (if (xC γ v).category = 2 then i + 2 else i + 1) (l.map (xC γ))
    rw [xC_cat]
    rcases v with x | x | x <;> rfl
theorem xargs_sl (γ : xG) (l : List xv) : (lg_sl (l.map (xC γ))).length = (l.map xcat).sum := by
  induction l with
  | nil => rfl
  | cons v l ih =>
    have hc : xcat v = 1 ∨ xcat v = 2 := by rcases v with x | x | x <;> simp [xcat]
    simp only [lg_sl, List.map_cons, List.flatMap_cons, List.length_append, List.sum_cons, xC_cat] at ih ⊢
    rw [ih]
    rcases hc with h | h <;> rw [h] <;> simp
set_option maxRecDepth 20000 in
/-- a contract out of the walk of the body from its entry -/
theorem xCall_of {y : MethodName} {cc : ByteArray} {maxL : Nat} {ret : Option FieldType} {d mc ms : Nat} {av : List xv} {w : xSt} {rw : Option xv × xSt} (ini : Bool) (hy : plainName y.cls = true) (hini : ini = true → y.name = "<init>") (hn : (av.map xcat).sum ≤ maxL)
    (k : xX cc maxL ret y.cls ini (xRm d mc ms) (xZf rw mc ms) 0 (xargs 0 av) [] w mc ms) : xCall y cc maxL ret d mc ms av w rw := by
  intro l γ
  refine Met.ofW (cc := cc) (maxL := maxL) (ret := ret) hy rfl ?_
  intro p e s m args below meth c s₁ B hml hv
  obtain ⟨rfl, hH, hst⟩ := hv
  have hown : s.vm.findClass y.cls = some m.cls := findClass_of_methodNamed B.named
  have hname : meth.name = y.name := (name_of_methodNamed B.named B.method).1
  have hl := lv_entry (av.map (xC γ)) (n := maxL) (by rw [xargs_sl]; exact hn)
  rw [lg_entry_eq]
  generalize (lg_sl (av.map (xC γ)) ++ List.replicate (maxL - (lg_sl (av.map (xC γ))).length) Slot.unset).toArray = ls at hl ⊢
  rw [← xargs_map] at hl
  have hB : gB γ ≤ s.heap.size := by rw [hH.2.1]; omega
  exact k p l e s m _ below meth c γ s.heap [] 0 0 ls ⟨B.exec, B.bytes, hml, B.returns, B.notSynchronized, hown, fun h => by rw [hname]; exact hini h, hst, fun w hw => xGW_warm hw (State.WarmedH.refl s) (hst.2.2.1 w hw)⟩ hH va_S.rf hB (by show 0 + mc ≤ mc; omega) (by show 0 + ms ≤ ms; omega) hl
