def R_law : String := "WorldHallLaw"
def lw_P (b : Addr) (xs : List Int32) (args : Array Value) (s : State) : Prop := args = #[.ref b] ∧ s.IntsAt b xs ∧ xs.length ≤ 3586 ∧ (Jvm.Cond.and given_1 narrow_1).before args s = true
def lw_Q (_ : Array Value) (s : State) (o : Outcome) (t : State) : Prop := o = .returned (some (.int 1)) ∧ Framed s o t [] 600000 7302250
def lw_Z (below : List Frame) (a : Array Value) (s : State) : State → Prop := fun t => ∃ o, t.status = .running ∧ Ended t below o ∧ lw_Q a s o t
/-- the law's own end, with 1 on the stack, nothing written that was there before, its room as the claim has it -/
theorem lw_ret {p : Program} {l : Launch} {e : Env} {s : State} {m : MethodId} {below : List Frame} {meth : Method} {c : Code} {b : Nat} (hx : p.tables.exec = Jvm.exec) (hb : c.code = code) (hr : meth.sig.returnType = ret) (hlocks : meth.locks = false) {pc : Nat} {H : Heap} {ls : Array Slot} (hdg : decode code pc = .ok (.ireturn, 1)) : W p l e room_1 s m #[Value.ref b] below meth c H [] 600000 7302250 (lw_Z below #[Value.ref b] s) (F0 m pc ls [.int 1]) := by
  intro T hT X
  obtain ⟨fs, hret, hrun, hended, hW, hframe⟩ := X.leave (v := some (.int 1)) (hlocks := hlocks) (fun h => by rw [hr] at h; cases h)
  have hmeth' : T.vm.method? m = some meth := X.method'
  refine ⟨T.setFrames fs, ?_, .returned (some (.int 1)), hrun, hended, rfl, ⟨_, rfl⟩, hW, hframe⟩
  jvm_step X.here [X.here.top, hx, hb, hdg, hmeth', hr, ret, narrow_b1]
  (try refine ⟨rfl, ?_⟩); (try refine ⟨rfl, ?_⟩)
  first | (intro acts; rw [hret _ acts rfl rfl rfl]) | rw [hret _ _ rfl rfl rfl]
  exact Steps.refl _
/-- what holds at the law's entry: the machine, the code, the tables' words (any of lw_tbl by 'hts w (by decide +kernel)'), the script of L ints xs at the cell b, what the Statement gives of the start (any of its parts by flat_of_before) -/
def lw_At (p : Program) (s : State) (m : MethodId) (meth : Method) (c : Code) (b L : Nat) (xs : Nat → Int32) : Prop :=
  p.tables.exec = Jvm.exec ∧ c.code = code ∧ meth.sig.returnType = ret ∧ c.maxLocals = 4 ∧ s.vm.findClass R_law = some m.cls ∧ (∀ w ∈ lw_tbl, w.before #[Value.ref b] s = true) ∧ va_X b L xs s s.heap ∧ b < s.heap.size ∧ meth.locks = false ∧ (Jvm.Cond.and given_1 narrow_1).before #[Value.ref b] s = true

/-- the law's own end -/
def xZL : xG → List Frame → Array Value → State → State → Prop := fun γ below args s t => ((∃ b : Nat, args = #[Value.ref b]) ∧ gB γ = s.heap.size) → lw_Z below args s t
theorem x_lawret {pc : Nat} {lv : List (Nat × xv)} {w : xSt} {cu su : Nat} (hd : decode cL_law pc = .ok (.ireturn, 1)) : xX cL_law 4 (some .boolean) RL false room_1 xZL pc lv [xI 1] w cu su := by
  intro p l e s m args below meth c γ H locs cells slots ls C hH hS hB hc hs hl
  by_cases hq : (∃ b : Nat, args = #[Value.ref b]) ∧ gB γ = s.heap.size
  · obtain ⟨⟨b, rfl⟩, hg⟩ := id hq
    have hc' : cells + cu ≤ 600000 := hc
    have hs' : slots + su ≤ 7302250 := hs
    have k : W p l e room_1 s m #[Value.ref b] below meth c H locs cells slots (lw_Z below #[Value.ref b] s) (F0 m pc ls [.int 1]) := by
      refine va_forget (fun q hq => by have h1 : gB γ ≤ q.base := hS.2.2 q hq; omega) ?_
      refine W.widen (k := 600000) (n := 7302250) (by omega) (by omega) ?_
      exact lw_ret C.1 C.2.1 C.2.2.2.1 C.2.2.2.2.1 hd
    intro T hT X
    obtain ⟨t, a1, b1⟩ := k T hT X
    exact ⟨t, a1, fun _ => b1⟩
  · intro T hT X
    exact ⟨_, Steps.refl _, fun z => absurd z hq⟩
set_option maxRecDepth 20000 in
theorem k_L_law_l38 (rE : Int32) (wE : xSt) : ∀ (n : Nat) (x1 : Nat) (x2 : Nat) (x3 : Int32) (bc bs : Nat) (w : xSt), f_L_law_l38 n x1 x2 x3 bc bs w = some (rE, wE) → xX cL_law 4 (some .boolean) RL false room_1 xZL 38 [(0, xR 1020), (1, xR x1), (2, xR x2), (3, xI x3)] [] w bc bs := by
  intro n
  induction n with
  | zero => intro x1 x2 x3 bc bs w h; exact nomatch (show (none : Option (Int32 × xSt)) = some (rE, wE) from h)
  | succ n ih =>
    intro x1 x2 x3 bc bs w h
    rw [f_L_law_l38_s] at h
    refine x_iload_n (j := 3) (i := 3) dL_law_38 rfl rfl ?_
    refine x_aload_n (j := 0) (i := 0) dL_law_39 rfl rfl ?_
    refine x_xlen dL_law_40 ?_
    refine x_bipush (v := 7) dL_law_41 (by decide) ?_
    refine x_isub dL_law_43 ?_
    refine x_icmp_gt (tgt := 1167) dL_law_44 (by decide) (fun hc39 => ?_) (fun hc39 => ?_)
    · rw [if_pos hc39] at h
      refine x_iconst (v := 1) dL_law_1167 (by decide) ?_
      exact x_lawret dL_law_1168
    · rw [if_neg hc39] at h
      refine x_aload_n (j := 0) (i := 0) dL_law_47 rfl rfl ?_
      refine x_iload_n (j := 3) (i := 3) dL_law_48 rfl rfl ?_
      obtain ⟨g40, h⟩ := gd_some h
      refine x_xald g40 dL_law_49 ?_
      refine x_bipush (v := 63) dL_law_50 (by decide) ?_
      refine x_iand dL_law_52 ?_
      by_cases hc41 : ((wI w 1020 x3.toNatClampNeg) &&& (63 : Int32)) = (0 : Int32)
      · rw [if_pos hc41] at h
        refine x_tsw (off := 147) (tgt := 200) dL_law_53 (by rw [hc41]; decide) (by rw [hc41]; decide) (by rw [hc41]; decide) (by decide) ?_
        refine x_aload_n (j := 1) (i := 1) dL_law_200 rfl rfl ?_
        refine x_aload_n (j := 0) (i := 0) dL_law_201 rfl rfl ?_
        refine x_iload_n (j := 3) (i := 3) dL_law_202 rfl rfl ?_
        refine x_iconst (v := 1) dL_law_203 (by decide) ?_
        refine x_iadd dL_law_204 ?_
        obtain ⟨g42, h⟩ := gd_some h
        refine x_xald g42 dL_law_205 ?_
        refine x_aload_n (j := 0) (i := 0) dL_law_206 rfl rfl ?_
        refine x_iload_n (j := 3) (i := 3) dL_law_207 rfl rfl ?_
        refine x_iconst (v := 2) dL_law_208 (by decide) ?_
        refine x_iadd dL_law_209 ?_
        obtain ⟨g43, h⟩ := gd_some h
        refine x_xald g43 dL_law_210 ?_
        obtain ⟨g47, h⟩ := gd_some h
        obtain ⟨v44, w45, hc46, h⟩ := bd_s h
        refine x_callVI (ci := 10) dL_law_211 ml_RL_21 mb_X10_cell (c_X10_cell x1 (wI w 1020 (x3 + (1 : Int32)).toNatClampNeg) (wI w 1020 (x3 + (2 : Int32)).toNatClampNeg) w v44 w45 hc46) ⟨_, rfl, rfl⟩ g47 [] rfl rfl (Nat.le_of_ble_eq_true rfl) (by decide) (by decide) ?_
        refine x_aload_n (j := 2) (i := 2) dL_law_214 rfl rfl ?_
        refine x_aload_n (j := 0) (i := 0) dL_law_215 rfl rfl ?_
        refine x_iload_n (j := 3) (i := 3) dL_law_216 rfl rfl ?_
        refine x_iconst (v := 1) dL_law_217 (by decide) ?_
        refine x_iadd dL_law_218 ?_
        obtain ⟨g48, h⟩ := gd_some h
        refine x_xald g48 dL_law_219 ?_
        refine x_aload_n (j := 0) (i := 0) dL_law_220 rfl rfl ?_
        refine x_iload_n (j := 3) (i := 3) dL_law_221 rfl rfl ?_
        refine x_iconst (v := 2) dL_law_222 (by decide) ?_
        refine x_iadd dL_law_223 ?_
        obtain ⟨g49, h⟩ := gd_some h
        refine x_xald g49 dL_law_224 ?_
        obtain ⟨g53, h⟩ := gd_some h
        obtain ⟨v50, w51, hc52, h⟩ := bd_s h
        refine x_callVI (ci := 11) dL_law_225 ml_RL_24 mb_X11_cell (c_X11_cell x2 (wI w45 1020 (x3 + (1 : Int32)).toNatClampNeg) (wI w45 1020 (x3 + (2 : Int32)).toNatClampNeg) w45 v50 w51 hc52) ⟨_, rfl, rfl⟩ g53 [xI v44] rfl rfl (Nat.le_of_ble_eq_true rfl) (by decide) (by decide) ?_
        refine x_icmp_eq (tgt := 1161) dL_law_228 (by decide) (fun hc54 => ?_) (fun hc54 => ?_)
        · rw [if_pos hc54] at h
          refine x_iinc (j := 3) (i := 3) (v := x3 + (7 : Int32)) (lv2 := [(3, xI (x3 + (7 : Int32))), (0, xR 1020), (1, xR x1), (2, xR x2)]) dL_law_1161 rfl rfl (by decide) rfl ?_
          refine x_goto (tgt := 38) dL_law_1164 (by decide) ?_
          refine x_lv (lv2 := [(0, xR 1020), (1, xR x1), (2, xR x2), (3, xI (x3 + (7 : Int32)))]) [1, 2, 3, 0] rfl ?_
          exact ih x1 x2 (x3 + (7 : Int32)) bc bs w51 h
        · rw [if_neg hc54] at h
          refine x_iconst (v := 0) dL_law_231 (by decide) ?_
          exact nomatch h
      rw [if_neg hc41] at h
      by_cases hc55 : ((wI w 1020 x3.toNatClampNeg) &&& (63 : Int32)) = (1 : Int32)
      · rw [if_pos hc55] at h
        refine x_tsw (off := 180) (tgt := 233) dL_law_53 (by rw [hc55]; decide) (by rw [hc55]; decide) (by rw [hc55]; decide) (by decide) ?_
        refine x_aload_n (j := 1) (i := 1) dL_law_233 rfl rfl ?_
        refine x_aload_n (j := 0) (i := 0) dL_law_234 rfl rfl ?_
        refine x_iload_n (j := 3) (i := 3) dL_law_235 rfl rfl ?_
        refine x_iconst (v := 1) dL_law_236 (by decide) ?_
        refine x_iadd dL_law_237 ?_
        obtain ⟨g56, h⟩ := gd_some h
        refine x_xald g56 dL_law_238 ?_
        refine x_aload_n (j := 0) (i := 0) dL_law_239 rfl rfl ?_
        refine x_iload_n (j := 3) (i := 3) dL_law_240 rfl rfl ?_
        refine x_iconst (v := 2) dL_law_241 (by decide) ?_
        refine x_iadd dL_law_242 ?_
        obtain ⟨g57, h⟩ := gd_some h
        refine x_xald g57 dL_law_243 ?_
        obtain ⟨g61, h⟩ := gd_some h
        obtain ⟨v58, w59, hc60, h⟩ := bd_s h
        refine x_callVI (ci := 10) dL_law_244 ml_RL_25 mb_X10_bears (c_X10_bears x1 (wI w 1020 (x3 + (1 : Int32)).toNatClampNeg) (wI w 1020 (x3 + (2 : Int32)).toNatClampNeg) w v58 w59 hc60) ⟨_, rfl, rfl⟩ g61 [] rfl rfl (Nat.le_of_ble_eq_true rfl) (by decide) (by decide) ?_
        refine x_aload_n (j := 2) (i := 2) dL_law_247 rfl rfl ?_
        refine x_aload_n (j := 0) (i := 0) dL_law_248 rfl rfl ?_
        refine x_iload_n (j := 3) (i := 3) dL_law_249 rfl rfl ?_
        refine x_iconst (v := 1) dL_law_250 (by decide) ?_
        refine x_iadd dL_law_251 ?_
        obtain ⟨g62, h⟩ := gd_some h
        refine x_xald g62 dL_law_252 ?_
        refine x_aload_n (j := 0) (i := 0) dL_law_253 rfl rfl ?_
        refine x_iload_n (j := 3) (i := 3) dL_law_254 rfl rfl ?_
        refine x_iconst (v := 2) dL_law_255 (by decide) ?_
        refine x_iadd dL_law_256 ?_
        obtain ⟨g63, h⟩ := gd_some h
        refine x_xald g63 dL_law_257 ?_
        obtain ⟨g67, h⟩ := gd_some h
        obtain ⟨v64, w65, hc66, h⟩ := bd_s h
        refine x_callVI (ci := 11) dL_law_258 ml_RL_28 mb_X11_bears (c_X11_bears x2 (wI w59 1020 (x3 + (1 : Int32)).toNatClampNeg) (wI w59 1020 (x3 + (2 : Int32)).toNatClampNeg) w59 v64 w65 hc66) ⟨_, rfl, rfl⟩ g67 [xI v58] rfl rfl (Nat.le_of_ble_eq_true rfl) (by decide) (by decide) ?_
        refine x_icmp_eq (tgt := 1161) dL_law_261 (by decide) (fun hc68 => ?_) (fun hc68 => ?_)
        · rw [if_pos hc68] at h
          refine x_iinc (j := 3) (i := 3) (v := x3 + (7 : Int32)) (lv2 := [(3, xI (x3 + (7 : Int32))), (0, xR 1020), (1, xR x1), (2, xR x2)]) dL_law_1161 rfl rfl (by decide) rfl ?_
          refine x_goto (tgt := 38) dL_law_1164 (by decide) ?_
          refine x_lv (lv2 := [(0, xR 1020), (1, xR x1), (2, xR x2), (3, xI (x3 + (7 : Int32)))]) [1, 2, 3, 0] rfl ?_
          exact ih x1 x2 (x3 + (7 : Int32)) bc bs w65 h
        · rw [if_neg hc68] at h
          refine x_iconst (v := 0) dL_law_264 (by decide) ?_
          exact nomatch h
      rw [if_neg hc55] at h
      by_cases hc69 : ((wI w 1020 x3.toNatClampNeg) &&& (63 : Int32)) = (2 : Int32)
      · rw [if_pos hc69] at h
        refine x_tsw (off := 213) (tgt := 266) dL_law_53 (by rw [hc69]; decide) (by rw [hc69]; decide) (by rw [hc69]; decide) (by decide) ?_
        refine x_aload_n (j := 1) (i := 1) dL_law_266 rfl rfl ?_
        refine x_aload_n (j := 0) (i := 0) dL_law_267 rfl rfl ?_
        refine x_iload_n (j := 3) (i := 3) dL_law_268 rfl rfl ?_
        refine x_iconst (v := 1) dL_law_269 (by decide) ?_
        refine x_iadd dL_law_270 ?_
        obtain ⟨g70, h⟩ := gd_some h
        refine x_xald g70 dL_law_271 ?_
        obtain ⟨g74, h⟩ := gd_some h
        obtain ⟨v71, w72, hc73, h⟩ := bd_s h
        refine x_callVI (ci := 10) dL_law_272 ml_RL_29 mb_X10_aisle (c_X10_aisle x1 (wI w 1020 (x3 + (1 : Int32)).toNatClampNeg) w v71 w72 hc73) ⟨_, rfl, rfl⟩ g74 [] rfl rfl (Nat.le_of_ble_eq_true rfl) (by decide) (by decide) ?_
        refine x_aload_n (j := 2) (i := 2) dL_law_275 rfl rfl ?_
        refine x_aload_n (j := 0) (i := 0) dL_law_276 rfl rfl ?_
        refine x_iload_n (j := 3) (i := 3) dL_law_277 rfl rfl ?_
        refine x_iconst (v := 1) dL_law_278 (by decide) ?_
        refine x_iadd dL_law_279 ?_
        obtain ⟨g75, h⟩ := gd_some h
        refine x_xald g75 dL_law_280 ?_
        obtain ⟨g79, h⟩ := gd_some h
        obtain ⟨v76, w77, hc78, h⟩ := bd_s h
        refine x_callVI (ci := 11) dL_law_281 ml_RL_33 mb_X11_aisle (c_X11_aisle x2 (wI w72 1020 (x3 + (1 : Int32)).toNatClampNeg) w72 v76 w77 hc78) ⟨_, rfl, rfl⟩ g79 [xI v71] rfl rfl (Nat.le_of_ble_eq_true rfl) (by decide) (by decide) ?_
        refine x_icmp_eq (tgt := 1161) dL_law_284 (by decide) (fun hc80 => ?_) (fun hc80 => ?_)
        · rw [if_pos hc80] at h
          refine x_iinc (j := 3) (i := 3) (v := x3 + (7 : Int32)) (lv2 := [(3, xI (x3 + (7 : Int32))), (0, xR 1020), (1, xR x1), (2, xR x2)]) dL_law_1161 rfl rfl (by decide) rfl ?_
          refine x_goto (tgt := 38) dL_law_1164 (by decide) ?_
          refine x_lv (lv2 := [(0, xR 1020), (1, xR x1), (2, xR x2), (3, xI (x3 + (7 : Int32)))]) [1, 2, 3, 0] rfl ?_
          exact ih x1 x2 (x3 + (7 : Int32)) bc bs w77 h
        · rw [if_neg hc80] at h
          refine x_iconst (v := 0) dL_law_287 (by decide) ?_
          exact nomatch h
      rw [if_neg hc69] at h
      by_cases hc81 : ((wI w 1020 x3.toNatClampNeg) &&& (63 : Int32)) = (3 : Int32)
      · rw [if_pos hc81] at h
        refine x_tsw (off := 236) (tgt := 289) dL_law_53 (by rw [hc81]; decide) (by rw [hc81]; decide) (by rw [hc81]; decide) (by decide) ?_
        refine x_aload_n (j := 1) (i := 1) dL_law_289 rfl rfl ?_
        refine x_aload_n (j := 0) (i := 0) dL_law_290 rfl rfl ?_
        refine x_iload_n (j := 3) (i := 3) dL_law_291 rfl rfl ?_
        refine x_iconst (v := 1) dL_law_292 (by decide) ?_
        refine x_iadd dL_law_293 ?_
        obtain ⟨g82, h⟩ := gd_some h
        refine x_xald g82 dL_law_294 ?_
        refine x_aload_n (j := 0) (i := 0) dL_law_295 rfl rfl ?_
        refine x_iload_n (j := 3) (i := 3) dL_law_296 rfl rfl ?_
        refine x_iconst (v := 2) dL_law_297 (by decide) ?_
        refine x_iadd dL_law_298 ?_
        obtain ⟨g83, h⟩ := gd_some h
        refine x_xald g83 dL_law_299 ?_
        refine x_aload_n (j := 0) (i := 0) dL_law_300 rfl rfl ?_
        refine x_iload_n (j := 3) (i := 3) dL_law_301 rfl rfl ?_
        refine x_iconst (v := 3) dL_law_302 (by decide) ?_
        refine x_iadd dL_law_303 ?_
        obtain ⟨g84, h⟩ := gd_some h
        refine x_xald g84 dL_law_304 ?_
        refine x_aload_n (j := 0) (i := 0) dL_law_305 rfl rfl ?_
        refine x_iload_n (j := 3) (i := 3) dL_law_306 rfl rfl ?_
        refine x_iconst (v := 4) dL_law_307 (by decide) ?_
        refine x_iadd dL_law_308 ?_
        obtain ⟨g85, h⟩ := gd_some h
        refine x_xald g85 dL_law_309 ?_
        refine x_aload_n (j := 0) (i := 0) dL_law_310 rfl rfl ?_
        refine x_iload_n (j := 3) (i := 3) dL_law_311 rfl rfl ?_
        refine x_iconst (v := 5) dL_law_312 (by decide) ?_
        refine x_iadd dL_law_313 ?_
        obtain ⟨g86, h⟩ := gd_some h
        refine x_xald g86 dL_law_314 ?_
        refine x_aload_n (j := 0) (i := 0) dL_law_315 rfl rfl ?_
        refine x_iload_n (j := 3) (i := 3) dL_law_316 rfl rfl ?_
        refine x_bipush (v := 6) dL_law_317 (by decide) ?_
        refine x_iadd dL_law_319 ?_
        obtain ⟨g87, h⟩ := gd_some h
        refine x_xald g87 dL_law_320 ?_
        obtain ⟨g91, h⟩ := gd_some h
        obtain ⟨g92, h⟩ := gd_some h
        obtain ⟨g93, h⟩ := gd_some h
        obtain ⟨v88, w89, hc90, h⟩ := bd_s h
        refine x_callVIa (ci := 10) dL_law_321 ml_RL_34 mb_X10_stand (c_X10_stand x1 (wI w 1020 (x3 + (1 : Int32)).toNatClampNeg) (wI w 1020 (x3 + (2 : Int32)).toNatClampNeg) (wI w 1020 (x3 + (3 : Int32)).toNatClampNeg) (wI w 1020 (x3 + (4 : Int32)).toNatClampNeg) (wI w 1020 (x3 + (5 : Int32)).toNatClampNeg) (wI w 1020 (x3 + (6 : Int32)).toNatClampNeg) w v88 w89 hc90) ⟨_, rfl, rfl⟩ g91 [] rfl rfl (Nat.le_of_ble_eq_true rfl) (by decide) (by decide) g92 g93 ?_
        refine x_aload_n (j := 2) (i := 2) dL_law_324 rfl rfl ?_
        refine x_aload_n (j := 0) (i := 0) dL_law_325 rfl rfl ?_
        refine x_iload_n (j := 3) (i := 3) dL_law_326 rfl rfl ?_
        refine x_iconst (v := 1) dL_law_327 (by decide) ?_
        refine x_iadd dL_law_328 ?_
        obtain ⟨g94, h⟩ := gd_some h
        refine x_xald g94 dL_law_329 ?_
        refine x_aload_n (j := 0) (i := 0) dL_law_330 rfl rfl ?_
        refine x_iload_n (j := 3) (i := 3) dL_law_331 rfl rfl ?_
        refine x_iconst (v := 2) dL_law_332 (by decide) ?_
        refine x_iadd dL_law_333 ?_
        obtain ⟨g95, h⟩ := gd_some h
        refine x_xald g95 dL_law_334 ?_
        refine x_aload_n (j := 0) (i := 0) dL_law_335 rfl rfl ?_
        refine x_iload_n (j := 3) (i := 3) dL_law_336 rfl rfl ?_
        refine x_iconst (v := 3) dL_law_337 (by decide) ?_
        refine x_iadd dL_law_338 ?_
        obtain ⟨g96, h⟩ := gd_some h
        refine x_xald g96 dL_law_339 ?_
        refine x_aload_n (j := 0) (i := 0) dL_law_340 rfl rfl ?_
        refine x_iload_n (j := 3) (i := 3) dL_law_341 rfl rfl ?_
        refine x_iconst (v := 4) dL_law_342 (by decide) ?_
        refine x_iadd dL_law_343 ?_
        obtain ⟨g97, h⟩ := gd_some h
        refine x_xald g97 dL_law_344 ?_
        refine x_aload_n (j := 0) (i := 0) dL_law_345 rfl rfl ?_
        refine x_iload_n (j := 3) (i := 3) dL_law_346 rfl rfl ?_
        refine x_iconst (v := 5) dL_law_347 (by decide) ?_
        refine x_iadd dL_law_348 ?_
        obtain ⟨g98, h⟩ := gd_some h
        refine x_xald g98 dL_law_349 ?_
        refine x_aload_n (j := 0) (i := 0) dL_law_350 rfl rfl ?_
        refine x_iload_n (j := 3) (i := 3) dL_law_351 rfl rfl ?_
        refine x_bipush (v := 6) dL_law_352 (by decide) ?_
        refine x_iadd dL_law_354 ?_
        obtain ⟨g99, h⟩ := gd_some h
        refine x_xald g99 dL_law_355 ?_
        obtain ⟨g103, h⟩ := gd_some h
        obtain ⟨v100, w101, hc102, h⟩ := bd_s h
        refine x_callVI (ci := 11) dL_law_356 ml_RL_38 mb_X11_stand (c_X11_stand x2 (wI w89 1020 (x3 + (1 : Int32)).toNatClampNeg) (wI w89 1020 (x3 + (2 : Int32)).toNatClampNeg) (wI w89 1020 (x3 + (3 : Int32)).toNatClampNeg) (wI w89 1020 (x3 + (4 : Int32)).toNatClampNeg) (wI w89 1020 (x3 + (5 : Int32)).toNatClampNeg) (wI w89 1020 (x3 + (6 : Int32)).toNatClampNeg) w89 v100 w101 hc102) ⟨_, rfl, rfl⟩ g103 [xI v88] rfl rfl (Nat.le_of_ble_eq_true rfl) (by decide) (by decide) ?_
        refine x_icmp_eq (tgt := 1161) dL_law_359 (by decide) (fun hc104 => ?_) (fun hc104 => ?_)
        · rw [if_pos hc104] at h
          refine x_iinc (j := 3) (i := 3) (v := x3 + (7 : Int32)) (lv2 := [(3, xI (x3 + (7 : Int32))), (0, xR 1020), (1, xR x1), (2, xR x2)]) dL_law_1161 rfl rfl (by decide) rfl ?_
          refine x_goto (tgt := 38) dL_law_1164 (by decide) ?_
          refine x_lv (lv2 := [(0, xR 1020), (1, xR x1), (2, xR x2), (3, xI (x3 + (7 : Int32)))]) [1, 2, 3, 0] rfl ?_
          exact ih x1 x2 (x3 + (7 : Int32)) (bc - 1) (bs - 11) w101 h
        · rw [if_neg hc104] at h
          refine x_iconst (v := 0) dL_law_362 (by decide) ?_
          exact nomatch h
      rw [if_neg hc81] at h
      by_cases hc105 : ((wI w 1020 x3.toNatClampNeg) &&& (63 : Int32)) = (4 : Int32)
      · rw [if_pos hc105] at h
        refine x_tsw (off := 311) (tgt := 364) dL_law_53 (by rw [hc105]; decide) (by rw [hc105]; decide) (by rw [hc105]; decide) (by decide) ?_
        refine x_aload_n (j := 1) (i := 1) dL_law_364 rfl rfl ?_
        refine x_aload_n (j := 0) (i := 0) dL_law_365 rfl rfl ?_
        refine x_iload_n (j := 3) (i := 3) dL_law_366 rfl rfl ?_
        refine x_iconst (v := 1) dL_law_367 (by decide) ?_
        refine x_iadd dL_law_368 ?_
        obtain ⟨g106, h⟩ := gd_some h
        refine x_xald g106 dL_law_369 ?_
        refine x_aload_n (j := 0) (i := 0) dL_law_370 rfl rfl ?_
        refine x_iload_n (j := 3) (i := 3) dL_law_371 rfl rfl ?_
        refine x_iconst (v := 2) dL_law_372 (by decide) ?_
        refine x_iadd dL_law_373 ?_
        obtain ⟨g107, h⟩ := gd_some h
        refine x_xald g107 dL_law_374 ?_
        obtain ⟨g111, h⟩ := gd_some h
        obtain ⟨v108, w109, hc110, h⟩ := bd_s h
        refine x_callVI (ci := 10) dL_law_375 ml_RL_39 mb_X10_hinders (c_X10_hinders x1 (wI w 1020 (x3 + (1 : Int32)).toNatClampNeg) (wI w 1020 (x3 + (2 : Int32)).toNatClampNeg) w v108 w109 hc110) ⟨_, rfl, rfl⟩ g111 [] rfl rfl (Nat.le_of_ble_eq_true rfl) (by decide) (by decide) ?_
        refine x_aload_n (j := 2) (i := 2) dL_law_378 rfl rfl ?_
        refine x_aload_n (j := 0) (i := 0) dL_law_379 rfl rfl ?_
        refine x_iload_n (j := 3) (i := 3) dL_law_380 rfl rfl ?_
        refine x_iconst (v := 1) dL_law_381 (by decide) ?_
        refine x_iadd dL_law_382 ?_
        obtain ⟨g112, h⟩ := gd_some h
        refine x_xald g112 dL_law_383 ?_
        refine x_aload_n (j := 0) (i := 0) dL_law_384 rfl rfl ?_
        refine x_iload_n (j := 3) (i := 3) dL_law_385 rfl rfl ?_
        refine x_iconst (v := 2) dL_law_386 (by decide) ?_
        refine x_iadd dL_law_387 ?_
        obtain ⟨g113, h⟩ := gd_some h
        refine x_xald g113 dL_law_388 ?_
        obtain ⟨g117, h⟩ := gd_some h
        obtain ⟨v114, w115, hc116, h⟩ := bd_s h
        refine x_callVI (ci := 11) dL_law_389 ml_RL_42 mb_X11_hinders (c_X11_hinders x2 (wI w109 1020 (x3 + (1 : Int32)).toNatClampNeg) (wI w109 1020 (x3 + (2 : Int32)).toNatClampNeg) w109 v114 w115 hc116) ⟨_, rfl, rfl⟩ g117 [xI v108] rfl rfl (Nat.le_of_ble_eq_true rfl) (by decide) (by decide) ?_
        refine x_icmp_eq (tgt := 1161) dL_law_392 (by decide) (fun hc118 => ?_) (fun hc118 => ?_)
        · rw [if_pos hc118] at h
          refine x_iinc (j := 3) (i := 3) (v := x3 + (7 : Int32)) (lv2 := [(3, xI (x3 + (7 : Int32))), (0, xR 1020), (1, xR x1), (2, xR x2)]) dL_law_1161 rfl rfl (by decide) rfl ?_
          refine x_goto (tgt := 38) dL_law_1164 (by decide) ?_
          refine x_lv (lv2 := [(0, xR 1020), (1, xR x1), (2, xR x2), (3, xI (x3 + (7 : Int32)))]) [1, 2, 3, 0] rfl ?_
          exact ih x1 x2 (x3 + (7 : Int32)) bc bs w115 h
        · rw [if_neg hc118] at h
          refine x_iconst (v := 0) dL_law_395 (by decide) ?_
          exact nomatch h
      rw [if_neg hc105] at h
      by_cases hc119 : ((wI w 1020 x3.toNatClampNeg) &&& (63 : Int32)) = (5 : Int32)
      · rw [if_pos hc119] at h
        refine x_tsw (off := 344) (tgt := 397) dL_law_53 (by rw [hc119]; decide) (by rw [hc119]; decide) (by rw [hc119]; decide) (by decide) ?_
        refine x_aload_n (j := 1) (i := 1) dL_law_397 rfl rfl ?_
        refine x_aload_n (j := 0) (i := 0) dL_law_398 rfl rfl ?_
        refine x_iload_n (j := 3) (i := 3) dL_law_399 rfl rfl ?_
        refine x_iconst (v := 1) dL_law_400 (by decide) ?_
        refine x_iadd dL_law_401 ?_
        obtain ⟨g120, h⟩ := gd_some h
        refine x_xald g120 dL_law_402 ?_
        refine x_aload_n (j := 0) (i := 0) dL_law_403 rfl rfl ?_
        refine x_iload_n (j := 3) (i := 3) dL_law_404 rfl rfl ?_
        refine x_iconst (v := 2) dL_law_405 (by decide) ?_
        refine x_iadd dL_law_406 ?_
        obtain ⟨g121, h⟩ := gd_some h
        refine x_xald g121 dL_law_407 ?_
        obtain ⟨g125, h⟩ := gd_some h
        obtain ⟨v122, w123, hc124, h⟩ := bd_s h
        refine x_callVI (ci := 10) dL_law_408 ml_RL_43 mb_X10_lay (c_X10_lay x1 (wI w 1020 (x3 + (1 : Int32)).toNatClampNeg) (wI w 1020 (x3 + (2 : Int32)).toNatClampNeg) w v122 w123 hc124) ⟨_, rfl, rfl⟩ g125 [] rfl rfl (Nat.le_of_ble_eq_true rfl) (by decide) (by decide) ?_
        refine x_aload_n (j := 2) (i := 2) dL_law_411 rfl rfl ?_
        refine x_aload_n (j := 0) (i := 0) dL_law_412 rfl rfl ?_
        refine x_iload_n (j := 3) (i := 3) dL_law_413 rfl rfl ?_
        refine x_iconst (v := 1) dL_law_414 (by decide) ?_
        refine x_iadd dL_law_415 ?_
        obtain ⟨g126, h⟩ := gd_some h
        refine x_xald g126 dL_law_416 ?_
        refine x_aload_n (j := 0) (i := 0) dL_law_417 rfl rfl ?_
        refine x_iload_n (j := 3) (i := 3) dL_law_418 rfl rfl ?_
        refine x_iconst (v := 2) dL_law_419 (by decide) ?_
        refine x_iadd dL_law_420 ?_
        obtain ⟨g127, h⟩ := gd_some h
        refine x_xald g127 dL_law_421 ?_
        obtain ⟨g131, h⟩ := gd_some h
        obtain ⟨v128, w129, hc130, h⟩ := bd_s h
        refine x_callVI (ci := 11) dL_law_422 ml_RL_46 mb_X11_lay (c_X11_lay x2 (wI w123 1020 (x3 + (1 : Int32)).toNatClampNeg) (wI w123 1020 (x3 + (2 : Int32)).toNatClampNeg) w123 v128 w129 hc130) ⟨_, rfl, rfl⟩ g131 [xI v122] rfl rfl (Nat.le_of_ble_eq_true rfl) (by decide) (by decide) ?_
        refine x_icmp_eq (tgt := 1161) dL_law_425 (by decide) (fun hc132 => ?_) (fun hc132 => ?_)
        · rw [if_pos hc132] at h
          refine x_iinc (j := 3) (i := 3) (v := x3 + (7 : Int32)) (lv2 := [(3, xI (x3 + (7 : Int32))), (0, xR 1020), (1, xR x1), (2, xR x2)]) dL_law_1161 rfl rfl (by decide) rfl ?_
          refine x_goto (tgt := 38) dL_law_1164 (by decide) ?_
          refine x_lv (lv2 := [(0, xR 1020), (1, xR x1), (2, xR x2), (3, xI (x3 + (7 : Int32)))]) [1, 2, 3, 0] rfl ?_
          exact ih x1 x2 (x3 + (7 : Int32)) bc bs w129 h
        · rw [if_neg hc132] at h
          refine x_iconst (v := 0) dL_law_428 (by decide) ?_
          exact nomatch h
      rw [if_neg hc119] at h
      by_cases hc133 : ((wI w 1020 x3.toNatClampNeg) &&& (63 : Int32)) = (6 : Int32)
      · rw [if_pos hc133] at h
        refine x_tsw (off := 377) (tgt := 430) dL_law_53 (by rw [hc133]; decide) (by rw [hc133]; decide) (by rw [hc133]; decide) (by decide) ?_
        refine x_aload_n (j := 1) (i := 1) dL_law_430 rfl rfl ?_
        refine x_aload_n (j := 0) (i := 0) dL_law_431 rfl rfl ?_
        refine x_iload_n (j := 3) (i := 3) dL_law_432 rfl rfl ?_
        refine x_iconst (v := 1) dL_law_433 (by decide) ?_
        refine x_iadd dL_law_434 ?_
        obtain ⟨g134, h⟩ := gd_some h
        refine x_xald g134 dL_law_435 ?_
        obtain ⟨g138, h⟩ := gd_some h
        obtain ⟨v135, w136, hc137, h⟩ := bd_s h
        refine x_callVI (ci := 10) dL_law_436 ml_RL_47 mb_X10_take (c_X10_take x1 (wI w 1020 (x3 + (1 : Int32)).toNatClampNeg) w v135 w136 hc137) ⟨_, rfl, rfl⟩ g138 [] rfl rfl (Nat.le_of_ble_eq_true rfl) (by decide) (by decide) ?_
        refine x_aload_n (j := 2) (i := 2) dL_law_439 rfl rfl ?_
        refine x_aload_n (j := 0) (i := 0) dL_law_440 rfl rfl ?_
        refine x_iload_n (j := 3) (i := 3) dL_law_441 rfl rfl ?_
        refine x_iconst (v := 1) dL_law_442 (by decide) ?_
        refine x_iadd dL_law_443 ?_
        obtain ⟨g139, h⟩ := gd_some h
        refine x_xald g139 dL_law_444 ?_
        obtain ⟨g143, h⟩ := gd_some h
        obtain ⟨v140, w141, hc142, h⟩ := bd_s h
        refine x_callVI (ci := 11) dL_law_445 ml_RL_50 mb_X11_take (c_X11_take x2 (wI w136 1020 (x3 + (1 : Int32)).toNatClampNeg) w136 v140 w141 hc142) ⟨_, rfl, rfl⟩ g143 [xI v135] rfl rfl (Nat.le_of_ble_eq_true rfl) (by decide) (by decide) ?_
        refine x_icmp_eq (tgt := 1161) dL_law_448 (by decide) (fun hc144 => ?_) (fun hc144 => ?_)
        · rw [if_pos hc144] at h
          refine x_iinc (j := 3) (i := 3) (v := x3 + (7 : Int32)) (lv2 := [(3, xI (x3 + (7 : Int32))), (0, xR 1020), (1, xR x1), (2, xR x2)]) dL_law_1161 rfl rfl (by decide) rfl ?_
          refine x_goto (tgt := 38) dL_law_1164 (by decide) ?_
          refine x_lv (lv2 := [(0, xR 1020), (1, xR x1), (2, xR x2), (3, xI (x3 + (7 : Int32)))]) [1, 2, 3, 0] rfl ?_
          exact ih x1 x2 (x3 + (7 : Int32)) bc bs w141 h
        · rw [if_neg hc144] at h
          refine x_iconst (v := 0) dL_law_451 (by decide) ?_
          exact nomatch h
      rw [if_neg hc133] at h
      by_cases hc145 : ((wI w 1020 x3.toNatClampNeg) &&& (63 : Int32)) = (7 : Int32)
      · rw [if_pos hc145] at h
        refine x_tsw (off := 400) (tgt := 453) dL_law_53 (by rw [hc145]; decide) (by rw [hc145]; decide) (by rw [hc145]; decide) (by decide) ?_
        refine x_aload_n (j := 1) (i := 1) dL_law_453 rfl rfl ?_
        refine x_aload_n (j := 0) (i := 0) dL_law_454 rfl rfl ?_
        refine x_iload_n (j := 3) (i := 3) dL_law_455 rfl rfl ?_
        refine x_iconst (v := 1) dL_law_456 (by decide) ?_
        refine x_iadd dL_law_457 ?_
        obtain ⟨g146, h⟩ := gd_some h
        refine x_xald g146 dL_law_458 ?_
        refine x_aload_n (j := 0) (i := 0) dL_law_459 rfl rfl ?_
        refine x_iload_n (j := 3) (i := 3) dL_law_460 rfl rfl ?_
        refine x_iconst (v := 2) dL_law_461 (by decide) ?_
        refine x_iadd dL_law_462 ?_
        obtain ⟨g147, h⟩ := gd_some h
        refine x_xald g147 dL_law_463 ?_
        obtain ⟨g151, h⟩ := gd_some h
        obtain ⟨v148, w149, hc150, h⟩ := bd_s h
        refine x_callVI (ci := 10) dL_law_464 ml_RL_51 mb_X10_about (c_X10_about x1 (wI w 1020 (x3 + (1 : Int32)).toNatClampNeg) (wI w 1020 (x3 + (2 : Int32)).toNatClampNeg) w v148 w149 hc150) ⟨_, rfl, rfl⟩ g151 [] rfl rfl (Nat.le_of_ble_eq_true rfl) (by decide) (by decide) ?_
        refine x_aload_n (j := 2) (i := 2) dL_law_467 rfl rfl ?_
        refine x_aload_n (j := 0) (i := 0) dL_law_468 rfl rfl ?_
        refine x_iload_n (j := 3) (i := 3) dL_law_469 rfl rfl ?_
        refine x_iconst (v := 1) dL_law_470 (by decide) ?_
        refine x_iadd dL_law_471 ?_
        obtain ⟨g152, h⟩ := gd_some h
        refine x_xald g152 dL_law_472 ?_
        refine x_aload_n (j := 0) (i := 0) dL_law_473 rfl rfl ?_
        refine x_iload_n (j := 3) (i := 3) dL_law_474 rfl rfl ?_
        refine x_iconst (v := 2) dL_law_475 (by decide) ?_
        refine x_iadd dL_law_476 ?_
        obtain ⟨g153, h⟩ := gd_some h
        refine x_xald g153 dL_law_477 ?_
        obtain ⟨g157, h⟩ := gd_some h
        obtain ⟨v154, w155, hc156, h⟩ := bd_s h
        refine x_callVI (ci := 11) dL_law_478 ml_RL_54 mb_X11_about (c_X11_about x2 (wI w149 1020 (x3 + (1 : Int32)).toNatClampNeg) (wI w149 1020 (x3 + (2 : Int32)).toNatClampNeg) w149 v154 w155 hc156) ⟨_, rfl, rfl⟩ g157 [xI v148] rfl rfl (Nat.le_of_ble_eq_true rfl) (by decide) (by decide) ?_
        refine x_icmp_eq (tgt := 1161) dL_law_481 (by decide) (fun hc158 => ?_) (fun hc158 => ?_)
        · rw [if_pos hc158] at h
          refine x_iinc (j := 3) (i := 3) (v := x3 + (7 : Int32)) (lv2 := [(3, xI (x3 + (7 : Int32))), (0, xR 1020), (1, xR x1), (2, xR x2)]) dL_law_1161 rfl rfl (by decide) rfl ?_
          refine x_goto (tgt := 38) dL_law_1164 (by decide) ?_
          refine x_lv (lv2 := [(0, xR 1020), (1, xR x1), (2, xR x2), (3, xI (x3 + (7 : Int32)))]) [1, 2, 3, 0] rfl ?_
          exact ih x1 x2 (x3 + (7 : Int32)) bc bs w155 h
        · rw [if_neg hc158] at h
          refine x_iconst (v := 0) dL_law_484 (by decide) ?_
          exact nomatch h
      rw [if_neg hc145] at h
      by_cases hc159 : ((wI w 1020 x3.toNatClampNeg) &&& (63 : Int32)) = (8 : Int32)
      · rw [if_pos hc159] at h
        refine x_tsw (off := 433) (tgt := 486) dL_law_53 (by rw [hc159]; decide) (by rw [hc159]; decide) (by rw [hc159]; decide) (by decide) ?_
        refine x_aload_n (j := 1) (i := 1) dL_law_486 rfl rfl ?_
        refine x_aload_n (j := 0) (i := 0) dL_law_487 rfl rfl ?_
        refine x_iload_n (j := 3) (i := 3) dL_law_488 rfl rfl ?_
        refine x_iconst (v := 1) dL_law_489 (by decide) ?_
        refine x_iadd dL_law_490 ?_
        obtain ⟨g160, h⟩ := gd_some h
        refine x_xald g160 dL_law_491 ?_
        obtain ⟨g164, h⟩ := gd_some h
        obtain ⟨v161, w162, hc163, h⟩ := bd_s h
        refine x_callVI (ci := 10) dL_law_492 ml_RL_55 mb_X10_at (c_X10_at x1 (wI w 1020 (x3 + (1 : Int32)).toNatClampNeg) w v161 w162 hc163) ⟨_, rfl, rfl⟩ g164 [] rfl rfl (Nat.le_of_ble_eq_true rfl) (by decide) (by decide) ?_
        refine x_aload_n (j := 2) (i := 2) dL_law_495 rfl rfl ?_
        refine x_aload_n (j := 0) (i := 0) dL_law_496 rfl rfl ?_
        refine x_iload_n (j := 3) (i := 3) dL_law_497 rfl rfl ?_
        refine x_iconst (v := 1) dL_law_498 (by decide) ?_
        refine x_iadd dL_law_499 ?_
        obtain ⟨g165, h⟩ := gd_some h
        refine x_xald g165 dL_law_500 ?_
        obtain ⟨g169, h⟩ := gd_some h
        obtain ⟨v166, w167, hc168, h⟩ := bd_s h
        refine x_callVI (ci := 11) dL_law_501 ml_RL_58 mb_X11_at (c_X11_at x2 (wI w162 1020 (x3 + (1 : Int32)).toNatClampNeg) w162 v166 w167 hc168) ⟨_, rfl, rfl⟩ g169 [xI v161] rfl rfl (Nat.le_of_ble_eq_true rfl) (by decide) (by decide) ?_
        refine x_icmp_eq (tgt := 1161) dL_law_504 (by decide) (fun hc170 => ?_) (fun hc170 => ?_)
        · rw [if_pos hc170] at h
          refine x_iinc (j := 3) (i := 3) (v := x3 + (7 : Int32)) (lv2 := [(3, xI (x3 + (7 : Int32))), (0, xR 1020), (1, xR x1), (2, xR x2)]) dL_law_1161 rfl rfl (by decide) rfl ?_
          refine x_goto (tgt := 38) dL_law_1164 (by decide) ?_
          refine x_lv (lv2 := [(0, xR 1020), (1, xR x1), (2, xR x2), (3, xI (x3 + (7 : Int32)))]) [1, 2, 3, 0] rfl ?_
          exact ih x1 x2 (x3 + (7 : Int32)) bc bs w167 h
        · rw [if_neg hc170] at h
          refine x_iconst (v := 0) dL_law_507 (by decide) ?_
          exact nomatch h
      rw [if_neg hc159] at h
      by_cases hc171 : ((wI w 1020 x3.toNatClampNeg) &&& (63 : Int32)) = (9 : Int32)
      · rw [if_pos hc171] at h
        refine x_tsw (off := 456) (tgt := 509) dL_law_53 (by rw [hc171]; decide) (by rw [hc171]; decide) (by rw [hc171]; decide) (by decide) ?_
        refine x_aload_n (j := 1) (i := 1) dL_law_509 rfl rfl ?_
        obtain ⟨g175, h⟩ := gd_some h
        obtain ⟨v172, w173, hc174, h⟩ := bd_s h
        refine x_callVI (ci := 10) dL_law_510 ml_RL_59 mb_X10_price (c_X10_price x1 w v172 w173 hc174) ⟨_, rfl, rfl⟩ g175 [] rfl rfl (Nat.le_of_ble_eq_true rfl) (by decide) (by decide) ?_
        refine x_aload_n (j := 2) (i := 2) dL_law_513 rfl rfl ?_
        obtain ⟨g179, h⟩ := gd_some h
        obtain ⟨v176, w177, hc178, h⟩ := bd_s h
        refine x_callVI (ci := 11) dL_law_514 ml_RL_63 mb_X11_price (c_X11_price x2 w173 v176 w177 hc178) ⟨_, rfl, rfl⟩ g179 [xI v172] rfl rfl (Nat.le_of_ble_eq_true rfl) (by decide) (by decide) ?_
        refine x_icmp_eq (tgt := 1161) dL_law_517 (by decide) (fun hc180 => ?_) (fun hc180 => ?_)
        · rw [if_pos hc180] at h
          refine x_iinc (j := 3) (i := 3) (v := x3 + (7 : Int32)) (lv2 := [(3, xI (x3 + (7 : Int32))), (0, xR 1020), (1, xR x1), (2, xR x2)]) dL_law_1161 rfl rfl (by decide) rfl ?_
          refine x_goto (tgt := 38) dL_law_1164 (by decide) ?_
          refine x_lv (lv2 := [(0, xR 1020), (1, xR x1), (2, xR x2), (3, xI (x3 + (7 : Int32)))]) [1, 2, 3, 0] rfl ?_
          exact ih x1 x2 (x3 + (7 : Int32)) bc bs w177 h
        · rw [if_neg hc180] at h
          refine x_iconst (v := 0) dL_law_520 (by decide) ?_
          exact nomatch h
      rw [if_neg hc171] at h
      by_cases hc181 : ((wI w 1020 x3.toNatClampNeg) &&& (63 : Int32)) = (10 : Int32)
      · rw [if_pos hc181] at h
        refine x_tsw (off := 469) (tgt := 522) dL_law_53 (by rw [hc181]; decide) (by rw [hc181]; decide) (by rw [hc181]; decide) (by decide) ?_
        refine x_aload_n (j := 1) (i := 1) dL_law_522 rfl rfl ?_
        obtain ⟨g185, h⟩ := gd_some h
        obtain ⟨v182, w183, hc184, h⟩ := bd_s h
        refine x_callVI (ci := 10) dL_law_523 ml_RL_64 mb_X10_better (c_X10_better x1 w v182 w183 hc184) ⟨_, rfl, rfl⟩ g185 [] rfl rfl (Nat.le_of_ble_eq_true rfl) (by decide) (by decide) ?_
        refine x_aload_n (j := 2) (i := 2) dL_law_526 rfl rfl ?_
        obtain ⟨g189, h⟩ := gd_some h
        obtain ⟨v186, w187, hc188, h⟩ := bd_s h
        refine x_callVI (ci := 11) dL_law_527 ml_RL_67 mb_X11_better (c_X11_better x2 w183 v186 w187 hc188) ⟨_, rfl, rfl⟩ g189 [xI v182] rfl rfl (Nat.le_of_ble_eq_true rfl) (by decide) (by decide) ?_
        refine x_icmp_eq (tgt := 1161) dL_law_530 (by decide) (fun hc190 => ?_) (fun hc190 => ?_)
        · rw [if_pos hc190] at h
          refine x_iinc (j := 3) (i := 3) (v := x3 + (7 : Int32)) (lv2 := [(3, xI (x3 + (7 : Int32))), (0, xR 1020), (1, xR x1), (2, xR x2)]) dL_law_1161 rfl rfl (by decide) rfl ?_
          refine x_goto (tgt := 38) dL_law_1164 (by decide) ?_
          refine x_lv (lv2 := [(0, xR 1020), (1, xR x1), (2, xR x2), (3, xI (x3 + (7 : Int32)))]) [1, 2, 3, 0] rfl ?_
          exact ih x1 x2 (x3 + (7 : Int32)) bc bs w187 h
        · rw [if_neg hc190] at h
          refine x_iconst (v := 0) dL_law_533 (by decide) ?_
          exact nomatch h
      rw [if_neg hc181] at h
      by_cases hc191 : ((wI w 1020 x3.toNatClampNeg) &&& (63 : Int32)) = (11 : Int32)
      · rw [if_pos hc191] at h
        refine x_tsw (off := 482) (tgt := 535) dL_law_53 (by rw [hc191]; decide) (by rw [hc191]; decide) (by rw [hc191]; decide) (by decide) ?_
        refine x_aload_n (j := 1) (i := 1) dL_law_535 rfl rfl ?_
        refine x_aload_n (j := 0) (i := 0) dL_law_536 rfl rfl ?_
        refine x_iload_n (j := 3) (i := 3) dL_law_537 rfl rfl ?_
        refine x_iconst (v := 1) dL_law_538 (by decide) ?_
        refine x_iadd dL_law_539 ?_
        obtain ⟨g192, h⟩ := gd_some h
        refine x_xald g192 dL_law_540 ?_
        obtain ⟨g196, h⟩ := gd_some h
        obtain ⟨v193, w194, hc195, h⟩ := bd_s h
        refine x_callVI (ci := 10) dL_law_541 ml_RL_68 mb_X10_can (c_X10_can x1 (wI w 1020 (x3 + (1 : Int32)).toNatClampNeg) w v193 w194 hc195) ⟨_, rfl, rfl⟩ g196 [] rfl rfl (Nat.le_of_ble_eq_true rfl) (by decide) (by decide) ?_
        refine x_aload_n (j := 2) (i := 2) dL_law_544 rfl rfl ?_
        refine x_aload_n (j := 0) (i := 0) dL_law_545 rfl rfl ?_
        refine x_iload_n (j := 3) (i := 3) dL_law_546 rfl rfl ?_
        refine x_iconst (v := 1) dL_law_547 (by decide) ?_
        refine x_iadd dL_law_548 ?_
        obtain ⟨g197, h⟩ := gd_some h
        refine x_xald g197 dL_law_549 ?_
        obtain ⟨g201, h⟩ := gd_some h
        obtain ⟨v198, w199, hc200, h⟩ := bd_s h
        refine x_callVI (ci := 11) dL_law_550 ml_RL_71 mb_X11_can (c_X11_can x2 (wI w194 1020 (x3 + (1 : Int32)).toNatClampNeg) w194 v198 w199 hc200) ⟨_, rfl, rfl⟩ g201 [xI v193] rfl rfl (Nat.le_of_ble_eq_true rfl) (by decide) (by decide) ?_
        refine x_icmp_eq (tgt := 1161) dL_law_553 (by decide) (fun hc202 => ?_) (fun hc202 => ?_)
        · rw [if_pos hc202] at h
          refine x_iinc (j := 3) (i := 3) (v := x3 + (7 : Int32)) (lv2 := [(3, xI (x3 + (7 : Int32))), (0, xR 1020), (1, xR x1), (2, xR x2)]) dL_law_1161 rfl rfl (by decide) rfl ?_
          refine x_goto (tgt := 38) dL_law_1164 (by decide) ?_
          refine x_lv (lv2 := [(0, xR 1020), (1, xR x1), (2, xR x2), (3, xI (x3 + (7 : Int32)))]) [1, 2, 3, 0] rfl ?_
          exact ih x1 x2 (x3 + (7 : Int32)) bc bs w199 h
        · rw [if_neg hc202] at h
          refine x_iconst (v := 0) dL_law_556 (by decide) ?_
          exact nomatch h
      rw [if_neg hc191] at h
      by_cases hc203 : ((wI w 1020 x3.toNatClampNeg) &&& (63 : Int32)) = (12 : Int32)
      · rw [if_pos hc203] at h
        refine x_tsw (off := 505) (tgt := 558) dL_law_53 (by rw [hc203]; decide) (by rw [hc203]; decide) (by rw [hc203]; decide) (by decide) ?_
        refine x_aload_n (j := 1) (i := 1) dL_law_558 rfl rfl ?_
        refine x_aload_n (j := 0) (i := 0) dL_law_559 rfl rfl ?_
        refine x_iload_n (j := 3) (i := 3) dL_law_560 rfl rfl ?_
        refine x_iconst (v := 1) dL_law_561 (by decide) ?_
        refine x_iadd dL_law_562 ?_
        obtain ⟨g204, h⟩ := gd_some h
        refine x_xald g204 dL_law_563 ?_
        obtain ⟨g208, h⟩ := gd_some h
        obtain ⟨v205, w206, hc207, h⟩ := bd_s h
        refine x_callVI (ci := 10) dL_law_564 ml_RL_72 mb_X10_bring (c_X10_bring x1 (wI w 1020 (x3 + (1 : Int32)).toNatClampNeg) w v205 w206 hc207) ⟨_, rfl, rfl⟩ g208 [] rfl rfl (Nat.le_of_ble_eq_true rfl) (by decide) (by decide) ?_
        refine x_aload_n (j := 2) (i := 2) dL_law_567 rfl rfl ?_
        refine x_aload_n (j := 0) (i := 0) dL_law_568 rfl rfl ?_
        refine x_iload_n (j := 3) (i := 3) dL_law_569 rfl rfl ?_
        refine x_iconst (v := 1) dL_law_570 (by decide) ?_
        refine x_iadd dL_law_571 ?_
        obtain ⟨g209, h⟩ := gd_some h
        refine x_xald g209 dL_law_572 ?_
        obtain ⟨g213, h⟩ := gd_some h
        obtain ⟨v210, w211, hc212, h⟩ := bd_s h
        refine x_callVI (ci := 11) dL_law_573 ml_RL_75 mb_X11_bring (c_X11_bring x2 (wI w206 1020 (x3 + (1 : Int32)).toNatClampNeg) w206 v210 w211 hc212) ⟨_, rfl, rfl⟩ g213 [xI v205] rfl rfl (Nat.le_of_ble_eq_true rfl) (by decide) (by decide) ?_
        refine x_icmp_eq (tgt := 1161) dL_law_576 (by decide) (fun hc214 => ?_) (fun hc214 => ?_)
        · rw [if_pos hc214] at h
          refine x_iinc (j := 3) (i := 3) (v := x3 + (7 : Int32)) (lv2 := [(3, xI (x3 + (7 : Int32))), (0, xR 1020), (1, xR x1), (2, xR x2)]) dL_law_1161 rfl rfl (by decide) rfl ?_
          refine x_goto (tgt := 38) dL_law_1164 (by decide) ?_
          refine x_lv (lv2 := [(0, xR 1020), (1, xR x1), (2, xR x2), (3, xI (x3 + (7 : Int32)))]) [1, 2, 3, 0] rfl ?_
          exact ih x1 x2 (x3 + (7 : Int32)) bc bs w211 h
        · rw [if_neg hc214] at h
          refine x_iconst (v := 0) dL_law_579 (by decide) ?_
          exact nomatch h
      rw [if_neg hc203] at h
      by_cases hc215 : ((wI w 1020 x3.toNatClampNeg) &&& (63 : Int32)) = (13 : Int32)
      · rw [if_pos hc215] at h
        refine x_tsw (off := 528) (tgt := 581) dL_law_53 (by rw [hc215]; decide) (by rw [hc215]; decide) (by rw [hc215]; decide) (by decide) ?_
        refine x_aload_n (j := 1) (i := 1) dL_law_581 rfl rfl ?_
        obtain ⟨g219, h⟩ := gd_some h
        obtain ⟨v216, w217, hc218, h⟩ := bd_s h
        refine x_callVI (ci := 10) dL_law_582 ml_RL_76 mb_X10_clear (c_X10_clear x1 w v216 w217 hc218) ⟨_, rfl, rfl⟩ g219 [] rfl rfl (Nat.le_of_ble_eq_true rfl) (by decide) (by decide) ?_
        refine x_aload_n (j := 2) (i := 2) dL_law_585 rfl rfl ?_
        obtain ⟨g223, h⟩ := gd_some h
        obtain ⟨v220, w221, hc222, h⟩ := bd_s h
        refine x_callVI (ci := 11) dL_law_586 ml_RL_79 mb_X11_clear (c_X11_clear x2 w217 v220 w221 hc222) ⟨_, rfl, rfl⟩ g223 [xI v216] rfl rfl (Nat.le_of_ble_eq_true rfl) (by decide) (by decide) ?_
        refine x_icmp_eq (tgt := 1161) dL_law_589 (by decide) (fun hc224 => ?_) (fun hc224 => ?_)
        · rw [if_pos hc224] at h
          refine x_iinc (j := 3) (i := 3) (v := x3 + (7 : Int32)) (lv2 := [(3, xI (x3 + (7 : Int32))), (0, xR 1020), (1, xR x1), (2, xR x2)]) dL_law_1161 rfl rfl (by decide) rfl ?_
          refine x_goto (tgt := 38) dL_law_1164 (by decide) ?_
          refine x_lv (lv2 := [(0, xR 1020), (1, xR x1), (2, xR x2), (3, xI (x3 + (7 : Int32)))]) [1, 2, 3, 0] rfl ?_
          exact ih x1 x2 (x3 + (7 : Int32)) bc bs w221 h
        · rw [if_neg hc224] at h
          refine x_iconst (v := 0) dL_law_592 (by decide) ?_
          exact nomatch h
      rw [if_neg hc215] at h
      by_cases hc225 : ((wI w 1020 x3.toNatClampNeg) &&& (63 : Int32)) = (14 : Int32)
      · rw [if_pos hc225] at h
        refine x_tsw (off := 541) (tgt := 594) dL_law_53 (by rw [hc225]; decide) (by rw [hc225]; decide) (by rw [hc225]; decide) (by decide) ?_
        refine x_aload_n (j := 1) (i := 1) dL_law_594 rfl rfl ?_
        refine x_aload_n (j := 0) (i := 0) dL_law_595 rfl rfl ?_
        refine x_iload_n (j := 3) (i := 3) dL_law_596 rfl rfl ?_
        refine x_iconst (v := 1) dL_law_597 (by decide) ?_
        refine x_iadd dL_law_598 ?_
        obtain ⟨g226, h⟩ := gd_some h
        refine x_xald g226 dL_law_599 ?_
        obtain ⟨g230, h⟩ := gd_some h
        obtain ⟨v227, w228, hc229, h⟩ := bd_s h
        refine x_callVI (ci := 10) dL_law_600 ml_RL_80 mb_X10_row (c_X10_row x1 (wI w 1020 (x3 + (1 : Int32)).toNatClampNeg) w v227 w228 hc229) ⟨_, rfl, rfl⟩ g230 [] rfl rfl (Nat.le_of_ble_eq_true rfl) (by decide) (by decide) ?_
        refine x_aload_n (j := 2) (i := 2) dL_law_603 rfl rfl ?_
        refine x_aload_n (j := 0) (i := 0) dL_law_604 rfl rfl ?_
        refine x_iload_n (j := 3) (i := 3) dL_law_605 rfl rfl ?_
        refine x_iconst (v := 1) dL_law_606 (by decide) ?_
        refine x_iadd dL_law_607 ?_
        obtain ⟨g231, h⟩ := gd_some h
        refine x_xald g231 dL_law_608 ?_
        obtain ⟨g235, h⟩ := gd_some h
        obtain ⟨v232, w233, hc234, h⟩ := bd_s h
        refine x_callVI (ci := 11) dL_law_609 ml_RL_83 mb_X11_row (c_X11_row x2 (wI w228 1020 (x3 + (1 : Int32)).toNatClampNeg) w228 v232 w233 hc234) ⟨_, rfl, rfl⟩ g235 [xI v227] rfl rfl (Nat.le_of_ble_eq_true rfl) (by decide) (by decide) ?_
        refine x_icmp_eq (tgt := 1161) dL_law_612 (by decide) (fun hc236 => ?_) (fun hc236 => ?_)
        · rw [if_pos hc236] at h
          refine x_iinc (j := 3) (i := 3) (v := x3 + (7 : Int32)) (lv2 := [(3, xI (x3 + (7 : Int32))), (0, xR 1020), (1, xR x1), (2, xR x2)]) dL_law_1161 rfl rfl (by decide) rfl ?_
          refine x_goto (tgt := 38) dL_law_1164 (by decide) ?_
          refine x_lv (lv2 := [(0, xR 1020), (1, xR x1), (2, xR x2), (3, xI (x3 + (7 : Int32)))]) [1, 2, 3, 0] rfl ?_
          exact ih x1 x2 (x3 + (7 : Int32)) bc bs w233 h
        · rw [if_neg hc236] at h
          refine x_iconst (v := 0) dL_law_615 (by decide) ?_
          exact nomatch h
      rw [if_neg hc225] at h
      by_cases hc237 : ((wI w 1020 x3.toNatClampNeg) &&& (63 : Int32)) = (15 : Int32)
      · rw [if_pos hc237] at h
        refine x_tsw (off := 564) (tgt := 617) dL_law_53 (by rw [hc237]; decide) (by rw [hc237]; decide) (by rw [hc237]; decide) (by decide) ?_
        refine x_aload_n (j := 1) (i := 1) dL_law_617 rfl rfl ?_
        refine x_aload_n (j := 0) (i := 0) dL_law_618 rfl rfl ?_
        refine x_iload_n (j := 3) (i := 3) dL_law_619 rfl rfl ?_
        refine x_iconst (v := 1) dL_law_620 (by decide) ?_
        refine x_iadd dL_law_621 ?_
        obtain ⟨g238, h⟩ := gd_some h
        refine x_xald g238 dL_law_622 ?_
        refine x_i2l dL_law_623 ?_
        refine x_bipush (v := 32) dL_law_624 (by decide) ?_
        refine x_lshl dL_law_626 ?_
        refine x_aload_n (j := 0) (i := 0) dL_law_627 rfl rfl ?_
        refine x_iload_n (j := 3) (i := 3) dL_law_628 rfl rfl ?_
        refine x_iconst (v := 2) dL_law_629 (by decide) ?_
        refine x_iadd dL_law_630 ?_
        obtain ⟨g239, h⟩ := gd_some h
        refine x_xald g239 dL_law_631 ?_
        refine x_i2l dL_law_632 ?_
        refine x_ldc2 dL_law_633 lc_RL_84 ?_
        refine x_land dL_law_636 ?_
        refine x_lor dL_law_637 ?_
        refine x_aload_n (j := 0) (i := 0) dL_law_638 rfl rfl ?_
        refine x_iload_n (j := 3) (i := 3) dL_law_639 rfl rfl ?_
        refine x_iconst (v := 3) dL_law_640 (by decide) ?_
        refine x_iadd dL_law_641 ?_
        obtain ⟨g240, h⟩ := gd_some h
        refine x_xald g240 dL_law_642 ?_
        obtain ⟨g244, h⟩ := gd_some h
        obtain ⟨v241, w242, hc243, h⟩ := bd_s h
        refine x_callVI (ci := 10) dL_law_643 ml_RL_86 mb_X10_feed (c_X10_feed x1 ((((wI w 1020 (x3 + (1 : Int32)).toNatClampNeg).toInt64) <<< ((32 : Int32).toInt64 &&& 63)) ||| (((wI w 1020 (x3 + (2 : Int32)).toNatClampNeg).toInt64) &&& (4294967295 : Int64))) (wI w 1020 (x3 + (3 : Int32)).toNatClampNeg) w v241 w242 hc243) ⟨_, rfl, rfl⟩ g244 [] rfl rfl (Nat.le_of_ble_eq_true rfl) (by decide) (by decide) ?_
        refine x_aload_n (j := 2) (i := 2) dL_law_646 rfl rfl ?_
        refine x_aload_n (j := 0) (i := 0) dL_law_647 rfl rfl ?_
        refine x_iload_n (j := 3) (i := 3) dL_law_648 rfl rfl ?_
        refine x_iconst (v := 1) dL_law_649 (by decide) ?_
        refine x_iadd dL_law_650 ?_
        obtain ⟨g245, h⟩ := gd_some h
        refine x_xald g245 dL_law_651 ?_
        refine x_i2l dL_law_652 ?_
        refine x_bipush (v := 32) dL_law_653 (by decide) ?_
        refine x_lshl dL_law_655 ?_
        refine x_aload_n (j := 0) (i := 0) dL_law_656 rfl rfl ?_
        refine x_iload_n (j := 3) (i := 3) dL_law_657 rfl rfl ?_
        refine x_iconst (v := 2) dL_law_658 (by decide) ?_
        refine x_iadd dL_law_659 ?_
        obtain ⟨g246, h⟩ := gd_some h
        refine x_xald g246 dL_law_660 ?_
        refine x_i2l dL_law_661 ?_
        refine x_ldc2 dL_law_662 lc_RL_84 ?_
        refine x_land dL_law_665 ?_
        refine x_lor dL_law_666 ?_
        refine x_aload_n (j := 0) (i := 0) dL_law_667 rfl rfl ?_
        refine x_iload_n (j := 3) (i := 3) dL_law_668 rfl rfl ?_
        refine x_iconst (v := 3) dL_law_669 (by decide) ?_
        refine x_iadd dL_law_670 ?_
        obtain ⟨g247, h⟩ := gd_some h
        refine x_xald g247 dL_law_671 ?_
        obtain ⟨g251, h⟩ := gd_some h
        obtain ⟨v248, w249, hc250, h⟩ := bd_s h
        refine x_callVI (ci := 11) dL_law_672 ml_RL_90 mb_X11_feed (c_X11_feed x2 ((((wI w242 1020 (x3 + (1 : Int32)).toNatClampNeg).toInt64) <<< ((32 : Int32).toInt64 &&& 63)) ||| (((wI w242 1020 (x3 + (2 : Int32)).toNatClampNeg).toInt64) &&& (4294967295 : Int64))) (wI w242 1020 (x3 + (3 : Int32)).toNatClampNeg) w242 v248 w249 hc250) ⟨_, rfl, rfl⟩ g251 [xI v241] rfl rfl (Nat.le_of_ble_eq_true rfl) (by decide) (by decide) ?_
        refine x_icmp_eq (tgt := 1161) dL_law_675 (by decide) (fun hc252 => ?_) (fun hc252 => ?_)
        · rw [if_pos hc252] at h
          refine x_iinc (j := 3) (i := 3) (v := x3 + (7 : Int32)) (lv2 := [(3, xI (x3 + (7 : Int32))), (0, xR 1020), (1, xR x1), (2, xR x2)]) dL_law_1161 rfl rfl (by decide) rfl ?_
          refine x_goto (tgt := 38) dL_law_1164 (by decide) ?_
          refine x_lv (lv2 := [(0, xR 1020), (1, xR x1), (2, xR x2), (3, xI (x3 + (7 : Int32)))]) [1, 2, 3, 0] rfl ?_
          exact ih x1 x2 (x3 + (7 : Int32)) bc bs w249 h
        · rw [if_neg hc252] at h
          refine x_iconst (v := 0) dL_law_678 (by decide) ?_
          exact nomatch h
      rw [if_neg hc237] at h
      by_cases hc253 : ((wI w 1020 x3.toNatClampNeg) &&& (63 : Int32)) = (16 : Int32)
      · rw [if_pos hc253] at h
        refine x_tsw (off := 627) (tgt := 680) dL_law_53 (by rw [hc253]; decide) (by rw [hc253]; decide) (by rw [hc253]; decide) (by decide) ?_
        refine x_aload_n (j := 1) (i := 1) dL_law_680 rfl rfl ?_
        refine x_aload_n (j := 0) (i := 0) dL_law_681 rfl rfl ?_
        refine x_iload_n (j := 3) (i := 3) dL_law_682 rfl rfl ?_
        refine x_iconst (v := 1) dL_law_683 (by decide) ?_
        refine x_iadd dL_law_684 ?_
        obtain ⟨g254, h⟩ := gd_some h
        refine x_xald g254 dL_law_685 ?_
        refine x_aload_n (j := 0) (i := 0) dL_law_686 rfl rfl ?_
        refine x_iload_n (j := 3) (i := 3) dL_law_687 rfl rfl ?_
        refine x_iconst (v := 2) dL_law_688 (by decide) ?_
        refine x_iadd dL_law_689 ?_
        obtain ⟨g255, h⟩ := gd_some h
        refine x_xald g255 dL_law_690 ?_
        obtain ⟨g259, h⟩ := gd_some h
        obtain ⟨v256, w257, hc258, h⟩ := bd_s h
        refine x_callVI (ci := 10) dL_law_691 ml_RL_91 mb_X10_text (c_X10_text x1 (wI w 1020 (x3 + (1 : Int32)).toNatClampNeg) (wI w 1020 (x3 + (2 : Int32)).toNatClampNeg) w v256 w257 hc258) ⟨_, rfl, rfl⟩ g259 [] rfl rfl (Nat.le_of_ble_eq_true rfl) (by decide) (by decide) ?_
        refine x_aload_n (j := 2) (i := 2) dL_law_694 rfl rfl ?_
        refine x_aload_n (j := 0) (i := 0) dL_law_695 rfl rfl ?_
        refine x_iload_n (j := 3) (i := 3) dL_law_696 rfl rfl ?_
        refine x_iconst (v := 1) dL_law_697 (by decide) ?_
        refine x_iadd dL_law_698 ?_
        obtain ⟨g260, h⟩ := gd_some h
        refine x_xald g260 dL_law_699 ?_
        refine x_aload_n (j := 0) (i := 0) dL_law_700 rfl rfl ?_
        refine x_iload_n (j := 3) (i := 3) dL_law_701 rfl rfl ?_
        refine x_iconst (v := 2) dL_law_702 (by decide) ?_
        refine x_iadd dL_law_703 ?_
        obtain ⟨g261, h⟩ := gd_some h
        refine x_xald g261 dL_law_704 ?_
        obtain ⟨g265, h⟩ := gd_some h
        obtain ⟨v262, w263, hc264, h⟩ := bd_s h
        refine x_callVI (ci := 11) dL_law_705 ml_RL_94 mb_X11_text (c_X11_text x2 (wI w257 1020 (x3 + (1 : Int32)).toNatClampNeg) (wI w257 1020 (x3 + (2 : Int32)).toNatClampNeg) w257 v262 w263 hc264) ⟨_, rfl, rfl⟩ g265 [xI v256] rfl rfl (Nat.le_of_ble_eq_true rfl) (by decide) (by decide) ?_
        refine x_icmp_eq (tgt := 1161) dL_law_708 (by decide) (fun hc266 => ?_) (fun hc266 => ?_)
        · rw [if_pos hc266] at h
          refine x_iinc (j := 3) (i := 3) (v := x3 + (7 : Int32)) (lv2 := [(3, xI (x3 + (7 : Int32))), (0, xR 1020), (1, xR x1), (2, xR x2)]) dL_law_1161 rfl rfl (by decide) rfl ?_
          refine x_goto (tgt := 38) dL_law_1164 (by decide) ?_
          refine x_lv (lv2 := [(0, xR 1020), (1, xR x1), (2, xR x2), (3, xI (x3 + (7 : Int32)))]) [1, 2, 3, 0] rfl ?_
          exact ih x1 x2 (x3 + (7 : Int32)) bc bs w263 h
        · rw [if_neg hc266] at h
          refine x_iconst (v := 0) dL_law_711 (by decide) ?_
          exact nomatch h
      rw [if_neg hc253] at h
      by_cases hc267 : ((wI w 1020 x3.toNatClampNeg) &&& (63 : Int32)) = (17 : Int32)
      · rw [if_pos hc267] at h
        refine x_tsw (off := 660) (tgt := 713) dL_law_53 (by rw [hc267]; decide) (by rw [hc267]; decide) (by rw [hc267]; decide) (by decide) ?_
        refine x_aload_n (j := 1) (i := 1) dL_law_713 rfl rfl ?_
        refine x_aload_n (j := 0) (i := 0) dL_law_714 rfl rfl ?_
        refine x_iload_n (j := 3) (i := 3) dL_law_715 rfl rfl ?_
        refine x_iconst (v := 1) dL_law_716 (by decide) ?_
        refine x_iadd dL_law_717 ?_
        obtain ⟨g268, h⟩ := gd_some h
        refine x_xald g268 dL_law_718 ?_
        refine x_aload_n (j := 0) (i := 0) dL_law_719 rfl rfl ?_
        refine x_iload_n (j := 3) (i := 3) dL_law_720 rfl rfl ?_
        refine x_iconst (v := 2) dL_law_721 (by decide) ?_
        refine x_iadd dL_law_722 ?_
        obtain ⟨g269, h⟩ := gd_some h
        refine x_xald g269 dL_law_723 ?_
        obtain ⟨g273, h⟩ := gd_some h
        obtain ⟨v270, w271, hc272, h⟩ := bd_s h
        refine x_callVI (ci := 10) dL_law_724 ml_RL_95 mb_X10_juror (c_X10_juror x1 (wI w 1020 (x3 + (1 : Int32)).toNatClampNeg) (wI w 1020 (x3 + (2 : Int32)).toNatClampNeg) w v270 w271 hc272) ⟨_, rfl, rfl⟩ g273 [] rfl rfl (Nat.le_of_ble_eq_true rfl) (by decide) (by decide) ?_
        refine x_aload_n (j := 2) (i := 2) dL_law_727 rfl rfl ?_
        refine x_aload_n (j := 0) (i := 0) dL_law_728 rfl rfl ?_
        refine x_iload_n (j := 3) (i := 3) dL_law_729 rfl rfl ?_
        refine x_iconst (v := 1) dL_law_730 (by decide) ?_
        refine x_iadd dL_law_731 ?_
        obtain ⟨g274, h⟩ := gd_some h
        refine x_xald g274 dL_law_732 ?_
        refine x_aload_n (j := 0) (i := 0) dL_law_733 rfl rfl ?_
        refine x_iload_n (j := 3) (i := 3) dL_law_734 rfl rfl ?_
        refine x_iconst (v := 2) dL_law_735 (by decide) ?_
        refine x_iadd dL_law_736 ?_
        obtain ⟨g275, h⟩ := gd_some h
        refine x_xald g275 dL_law_737 ?_
        obtain ⟨g279, h⟩ := gd_some h
        obtain ⟨v276, w277, hc278, h⟩ := bd_s h
        refine x_callVI (ci := 11) dL_law_738 ml_RL_98 mb_X11_juror (c_X11_juror x2 (wI w271 1020 (x3 + (1 : Int32)).toNatClampNeg) (wI w271 1020 (x3 + (2 : Int32)).toNatClampNeg) w271 v276 w277 hc278) ⟨_, rfl, rfl⟩ g279 [xI v270] rfl rfl (Nat.le_of_ble_eq_true rfl) (by decide) (by decide) ?_
        refine x_icmp_eq (tgt := 1161) dL_law_741 (by decide) (fun hc280 => ?_) (fun hc280 => ?_)
        · rw [if_pos hc280] at h
          refine x_iinc (j := 3) (i := 3) (v := x3 + (7 : Int32)) (lv2 := [(3, xI (x3 + (7 : Int32))), (0, xR 1020), (1, xR x1), (2, xR x2)]) dL_law_1161 rfl rfl (by decide) rfl ?_
          refine x_goto (tgt := 38) dL_law_1164 (by decide) ?_
          refine x_lv (lv2 := [(0, xR 1020), (1, xR x1), (2, xR x2), (3, xI (x3 + (7 : Int32)))]) [1, 2, 3, 0] rfl ?_
          exact ih x1 x2 (x3 + (7 : Int32)) bc bs w277 h
        · rw [if_neg hc280] at h
          refine x_iconst (v := 0) dL_law_744 (by decide) ?_
          exact nomatch h
      rw [if_neg hc267] at h
      by_cases hc281 : ((wI w 1020 x3.toNatClampNeg) &&& (63 : Int32)) = (18 : Int32)
      · rw [if_pos hc281] at h
        refine x_tsw (off := 693) (tgt := 746) dL_law_53 (by rw [hc281]; decide) (by rw [hc281]; decide) (by rw [hc281]; decide) (by decide) ?_
        refine x_aload_n (j := 1) (i := 1) dL_law_746 rfl rfl ?_
        refine x_aload_n (j := 0) (i := 0) dL_law_747 rfl rfl ?_
        refine x_iload_n (j := 3) (i := 3) dL_law_748 rfl rfl ?_
        refine x_iconst (v := 1) dL_law_749 (by decide) ?_
        refine x_iadd dL_law_750 ?_
        obtain ⟨g282, h⟩ := gd_some h
        refine x_xald g282 dL_law_751 ?_
        refine x_aload_n (j := 0) (i := 0) dL_law_752 rfl rfl ?_
        refine x_iload_n (j := 3) (i := 3) dL_law_753 rfl rfl ?_
        refine x_iconst (v := 2) dL_law_754 (by decide) ?_
        refine x_iadd dL_law_755 ?_
        obtain ⟨g283, h⟩ := gd_some h
        refine x_xald g283 dL_law_756 ?_
        refine x_aload_n (j := 0) (i := 0) dL_law_757 rfl rfl ?_
        refine x_iload_n (j := 3) (i := 3) dL_law_758 rfl rfl ?_
        refine x_iconst (v := 3) dL_law_759 (by decide) ?_
        refine x_iadd dL_law_760 ?_
        obtain ⟨g284, h⟩ := gd_some h
        refine x_xald g284 dL_law_761 ?_
        refine x_aload_n (j := 0) (i := 0) dL_law_762 rfl rfl ?_
        refine x_iload_n (j := 3) (i := 3) dL_law_763 rfl rfl ?_
        refine x_iconst (v := 4) dL_law_764 (by decide) ?_
        refine x_iadd dL_law_765 ?_
        obtain ⟨g285, h⟩ := gd_some h
        refine x_xald g285 dL_law_766 ?_
        obtain ⟨g289, h⟩ := gd_some h
        obtain ⟨v286, w287, hc288, h⟩ := bd_s h
        refine x_callVI (ci := 10) dL_law_767 ml_RL_99 mb_X10_mark (c_X10_mark x1 (wI w 1020 (x3 + (1 : Int32)).toNatClampNeg) (wI w 1020 (x3 + (2 : Int32)).toNatClampNeg) (wI w 1020 (x3 + (3 : Int32)).toNatClampNeg) (wI w 1020 (x3 + (4 : Int32)).toNatClampNeg) w v286 w287 hc288) ⟨_, rfl, rfl⟩ g289 [] rfl rfl (Nat.le_of_ble_eq_true rfl) (by decide) (by decide) ?_
        refine x_aload_n (j := 2) (i := 2) dL_law_770 rfl rfl ?_
        refine x_aload_n (j := 0) (i := 0) dL_law_771 rfl rfl ?_
        refine x_iload_n (j := 3) (i := 3) dL_law_772 rfl rfl ?_
        refine x_iconst (v := 1) dL_law_773 (by decide) ?_
        refine x_iadd dL_law_774 ?_
        obtain ⟨g290, h⟩ := gd_some h
        refine x_xald g290 dL_law_775 ?_
        refine x_aload_n (j := 0) (i := 0) dL_law_776 rfl rfl ?_
        refine x_iload_n (j := 3) (i := 3) dL_law_777 rfl rfl ?_
        refine x_iconst (v := 2) dL_law_778 (by decide) ?_
        refine x_iadd dL_law_779 ?_
        obtain ⟨g291, h⟩ := gd_some h
        refine x_xald g291 dL_law_780 ?_
        refine x_aload_n (j := 0) (i := 0) dL_law_781 rfl rfl ?_
        refine x_iload_n (j := 3) (i := 3) dL_law_782 rfl rfl ?_
        refine x_iconst (v := 3) dL_law_783 (by decide) ?_
        refine x_iadd dL_law_784 ?_
        obtain ⟨g292, h⟩ := gd_some h
        refine x_xald g292 dL_law_785 ?_
        refine x_aload_n (j := 0) (i := 0) dL_law_786 rfl rfl ?_
        refine x_iload_n (j := 3) (i := 3) dL_law_787 rfl rfl ?_
        refine x_iconst (v := 4) dL_law_788 (by decide) ?_
        refine x_iadd dL_law_789 ?_
        obtain ⟨g293, h⟩ := gd_some h
        refine x_xald g293 dL_law_790 ?_
        obtain ⟨g297, h⟩ := gd_some h
        obtain ⟨v294, w295, hc296, h⟩ := bd_s h
        refine x_callVI (ci := 11) dL_law_791 ml_RL_103 mb_X11_mark (c_X11_mark x2 (wI w287 1020 (x3 + (1 : Int32)).toNatClampNeg) (wI w287 1020 (x3 + (2 : Int32)).toNatClampNeg) (wI w287 1020 (x3 + (3 : Int32)).toNatClampNeg) (wI w287 1020 (x3 + (4 : Int32)).toNatClampNeg) w287 v294 w295 hc296) ⟨_, rfl, rfl⟩ g297 [xI v286] rfl rfl (Nat.le_of_ble_eq_true rfl) (by decide) (by decide) ?_
        refine x_icmp_eq (tgt := 1161) dL_law_794 (by decide) (fun hc298 => ?_) (fun hc298 => ?_)
        · rw [if_pos hc298] at h
          refine x_iinc (j := 3) (i := 3) (v := x3 + (7 : Int32)) (lv2 := [(3, xI (x3 + (7 : Int32))), (0, xR 1020), (1, xR x1), (2, xR x2)]) dL_law_1161 rfl rfl (by decide) rfl ?_
          refine x_goto (tgt := 38) dL_law_1164 (by decide) ?_
          refine x_lv (lv2 := [(0, xR 1020), (1, xR x1), (2, xR x2), (3, xI (x3 + (7 : Int32)))]) [1, 2, 3, 0] rfl ?_
          exact ih x1 x2 (x3 + (7 : Int32)) bc bs w295 h
        · rw [if_neg hc298] at h
          refine x_iconst (v := 0) dL_law_797 (by decide) ?_
          exact nomatch h
      rw [if_neg hc281] at h
      by_cases hc299 : ((wI w 1020 x3.toNatClampNeg) &&& (63 : Int32)) = (19 : Int32)
      · rw [if_pos hc299] at h
        refine x_tsw (off := 746) (tgt := 799) dL_law_53 (by rw [hc299]; decide) (by rw [hc299]; decide) (by rw [hc299]; decide) (by decide) ?_
        refine x_aload_n (j := 1) (i := 1) dL_law_799 rfl rfl ?_
        refine x_aload_n (j := 0) (i := 0) dL_law_800 rfl rfl ?_
        refine x_iload_n (j := 3) (i := 3) dL_law_801 rfl rfl ?_
        refine x_iconst (v := 1) dL_law_802 (by decide) ?_
        refine x_iadd dL_law_803 ?_
        obtain ⟨g300, h⟩ := gd_some h
        refine x_xald g300 dL_law_804 ?_
        refine x_aload_n (j := 0) (i := 0) dL_law_805 rfl rfl ?_
        refine x_iload_n (j := 3) (i := 3) dL_law_806 rfl rfl ?_
        refine x_iconst (v := 2) dL_law_807 (by decide) ?_
        refine x_iadd dL_law_808 ?_
        obtain ⟨g301, h⟩ := gd_some h
        refine x_xald g301 dL_law_809 ?_
        obtain ⟨g305, h⟩ := gd_some h
        obtain ⟨v302, w303, hc304, h⟩ := bd_s h
        refine x_callVI (ci := 10) dL_law_810 ml_RL_104 mb_X10_mean (c_X10_mean x1 (wI w 1020 (x3 + (1 : Int32)).toNatClampNeg) (wI w 1020 (x3 + (2 : Int32)).toNatClampNeg) w v302 w303 hc304) ⟨_, rfl, rfl⟩ g305 [] rfl rfl (Nat.le_of_ble_eq_true rfl) (by decide) (by decide) ?_
        refine x_aload_n (j := 2) (i := 2) dL_law_813 rfl rfl ?_
        refine x_aload_n (j := 0) (i := 0) dL_law_814 rfl rfl ?_
        refine x_iload_n (j := 3) (i := 3) dL_law_815 rfl rfl ?_
        refine x_iconst (v := 1) dL_law_816 (by decide) ?_
        refine x_iadd dL_law_817 ?_
        obtain ⟨g306, h⟩ := gd_some h
        refine x_xald g306 dL_law_818 ?_
        refine x_aload_n (j := 0) (i := 0) dL_law_819 rfl rfl ?_
        refine x_iload_n (j := 3) (i := 3) dL_law_820 rfl rfl ?_
        refine x_iconst (v := 2) dL_law_821 (by decide) ?_
        refine x_iadd dL_law_822 ?_
        obtain ⟨g307, h⟩ := gd_some h
        refine x_xald g307 dL_law_823 ?_
        obtain ⟨g311, h⟩ := gd_some h
        obtain ⟨v308, w309, hc310, h⟩ := bd_s h
        refine x_callVI (ci := 11) dL_law_824 ml_RL_107 mb_X11_mean (c_X11_mean x2 (wI w303 1020 (x3 + (1 : Int32)).toNatClampNeg) (wI w303 1020 (x3 + (2 : Int32)).toNatClampNeg) w303 v308 w309 hc310) ⟨_, rfl, rfl⟩ g311 [xI v302] rfl rfl (Nat.le_of_ble_eq_true rfl) (by decide) (by decide) ?_
        refine x_icmp_eq (tgt := 1161) dL_law_827 (by decide) (fun hc312 => ?_) (fun hc312 => ?_)
        · rw [if_pos hc312] at h
          refine x_iinc (j := 3) (i := 3) (v := x3 + (7 : Int32)) (lv2 := [(3, xI (x3 + (7 : Int32))), (0, xR 1020), (1, xR x1), (2, xR x2)]) dL_law_1161 rfl rfl (by decide) rfl ?_
          refine x_goto (tgt := 38) dL_law_1164 (by decide) ?_
          refine x_lv (lv2 := [(0, xR 1020), (1, xR x1), (2, xR x2), (3, xI (x3 + (7 : Int32)))]) [1, 2, 3, 0] rfl ?_
          exact ih x1 x2 (x3 + (7 : Int32)) bc bs w309 h
        · rw [if_neg hc312] at h
          refine x_iconst (v := 0) dL_law_830 (by decide) ?_
          exact nomatch h
      rw [if_neg hc299] at h
      by_cases hc313 : ((wI w 1020 x3.toNatClampNeg) &&& (63 : Int32)) = (20 : Int32)
      · rw [if_pos hc313] at h
        refine x_tsw (off := 779) (tgt := 832) dL_law_53 (by rw [hc313]; decide) (by rw [hc313]; decide) (by rw [hc313]; decide) (by decide) ?_
        refine x_aload_n (j := 1) (i := 1) dL_law_832 rfl rfl ?_
        refine x_aload_n (j := 0) (i := 0) dL_law_833 rfl rfl ?_
        refine x_iload_n (j := 3) (i := 3) dL_law_834 rfl rfl ?_
        refine x_iconst (v := 1) dL_law_835 (by decide) ?_
        refine x_iadd dL_law_836 ?_
        obtain ⟨g314, h⟩ := gd_some h
        refine x_xald g314 dL_law_837 ?_
        refine x_aload_n (j := 0) (i := 0) dL_law_838 rfl rfl ?_
        refine x_iload_n (j := 3) (i := 3) dL_law_839 rfl rfl ?_
        refine x_iconst (v := 2) dL_law_840 (by decide) ?_
        refine x_iadd dL_law_841 ?_
        obtain ⟨g315, h⟩ := gd_some h
        refine x_xald g315 dL_law_842 ?_
        obtain ⟨g319, h⟩ := gd_some h
        obtain ⟨v316, w317, hc318, h⟩ := bd_s h
        refine x_callVI (ci := 10) dL_law_843 ml_RL_108 mb_X10_medal (c_X10_medal x1 (wI w 1020 (x3 + (1 : Int32)).toNatClampNeg) (wI w 1020 (x3 + (2 : Int32)).toNatClampNeg) w v316 w317 hc318) ⟨_, rfl, rfl⟩ g319 [] rfl rfl (Nat.le_of_ble_eq_true rfl) (by decide) (by decide) ?_
        refine x_aload_n (j := 2) (i := 2) dL_law_846 rfl rfl ?_
        refine x_aload_n (j := 0) (i := 0) dL_law_847 rfl rfl ?_
        refine x_iload_n (j := 3) (i := 3) dL_law_848 rfl rfl ?_
        refine x_iconst (v := 1) dL_law_849 (by decide) ?_
        refine x_iadd dL_law_850 ?_
        obtain ⟨g320, h⟩ := gd_some h
        refine x_xald g320 dL_law_851 ?_
        refine x_aload_n (j := 0) (i := 0) dL_law_852 rfl rfl ?_
        refine x_iload_n (j := 3) (i := 3) dL_law_853 rfl rfl ?_
        refine x_iconst (v := 2) dL_law_854 (by decide) ?_
        refine x_iadd dL_law_855 ?_
        obtain ⟨g321, h⟩ := gd_some h
        refine x_xald g321 dL_law_856 ?_
        obtain ⟨g325, h⟩ := gd_some h
        obtain ⟨v322, w323, hc324, h⟩ := bd_s h
        refine x_callVI (ci := 11) dL_law_857 ml_RL_111 mb_X11_medal (c_X11_medal x2 (wI w317 1020 (x3 + (1 : Int32)).toNatClampNeg) (wI w317 1020 (x3 + (2 : Int32)).toNatClampNeg) w317 v322 w323 hc324) ⟨_, rfl, rfl⟩ g325 [xI v316] rfl rfl (Nat.le_of_ble_eq_true rfl) (by decide) (by decide) ?_
        refine x_icmp_eq (tgt := 1161) dL_law_860 (by decide) (fun hc326 => ?_) (fun hc326 => ?_)
        · rw [if_pos hc326] at h
          refine x_iinc (j := 3) (i := 3) (v := x3 + (7 : Int32)) (lv2 := [(3, xI (x3 + (7 : Int32))), (0, xR 1020), (1, xR x1), (2, xR x2)]) dL_law_1161 rfl rfl (by decide) rfl ?_
          refine x_goto (tgt := 38) dL_law_1164 (by decide) ?_
          refine x_lv (lv2 := [(0, xR 1020), (1, xR x1), (2, xR x2), (3, xI (x3 + (7 : Int32)))]) [1, 2, 3, 0] rfl ?_
          exact ih x1 x2 (x3 + (7 : Int32)) bc bs w323 h
        · rw [if_neg hc326] at h
          refine x_iconst (v := 0) dL_law_863 (by decide) ?_
          exact nomatch h
      rw [if_neg hc313] at h
      by_cases hc327 : ((wI w 1020 x3.toNatClampNeg) &&& (63 : Int32)) = (21 : Int32)
      · rw [if_pos hc327] at h
        refine x_tsw (off := 812) (tgt := 865) dL_law_53 (by rw [hc327]; decide) (by rw [hc327]; decide) (by rw [hc327]; decide) (by decide) ?_
        refine x_aload_n (j := 1) (i := 1) dL_law_865 rfl rfl ?_
        refine x_aload_n (j := 0) (i := 0) dL_law_866 rfl rfl ?_
        refine x_iload_n (j := 3) (i := 3) dL_law_867 rfl rfl ?_
        refine x_iconst (v := 1) dL_law_868 (by decide) ?_
        refine x_iadd dL_law_869 ?_
        obtain ⟨g328, h⟩ := gd_some h
        refine x_xald g328 dL_law_870 ?_
        obtain ⟨g332, h⟩ := gd_some h
        obtain ⟨v329, w330, hc331, h⟩ := bd_s h
        refine x_callVI (ci := 10) dL_law_871 ml_RL_112 mb_X10_cost (c_X10_cost x1 (wI w 1020 (x3 + (1 : Int32)).toNatClampNeg) w v329 w330 hc331) ⟨_, rfl, rfl⟩ g332 [] rfl rfl (Nat.le_of_ble_eq_true rfl) (by decide) (by decide) ?_
        refine x_aload_n (j := 2) (i := 2) dL_law_874 rfl rfl ?_
        refine x_aload_n (j := 0) (i := 0) dL_law_875 rfl rfl ?_
        refine x_iload_n (j := 3) (i := 3) dL_law_876 rfl rfl ?_
        refine x_iconst (v := 1) dL_law_877 (by decide) ?_
        refine x_iadd dL_law_878 ?_
        obtain ⟨g333, h⟩ := gd_some h
        refine x_xald g333 dL_law_879 ?_
        obtain ⟨g337, h⟩ := gd_some h
        obtain ⟨v334, w335, hc336, h⟩ := bd_s h
        refine x_callVI (ci := 11) dL_law_880 ml_RL_115 mb_X11_cost (c_X11_cost x2 (wI w330 1020 (x3 + (1 : Int32)).toNatClampNeg) w330 v334 w335 hc336) ⟨_, rfl, rfl⟩ g337 [xI v329] rfl rfl (Nat.le_of_ble_eq_true rfl) (by decide) (by decide) ?_
        refine x_icmp_eq (tgt := 1161) dL_law_883 (by decide) (fun hc338 => ?_) (fun hc338 => ?_)
        · rw [if_pos hc338] at h
          refine x_iinc (j := 3) (i := 3) (v := x3 + (7 : Int32)) (lv2 := [(3, xI (x3 + (7 : Int32))), (0, xR 1020), (1, xR x1), (2, xR x2)]) dL_law_1161 rfl rfl (by decide) rfl ?_
          refine x_goto (tgt := 38) dL_law_1164 (by decide) ?_
          refine x_lv (lv2 := [(0, xR 1020), (1, xR x1), (2, xR x2), (3, xI (x3 + (7 : Int32)))]) [1, 2, 3, 0] rfl ?_
          exact ih x1 x2 (x3 + (7 : Int32)) bc bs w335 h
        · rw [if_neg hc338] at h
          refine x_iconst (v := 0) dL_law_886 (by decide) ?_
          exact nomatch h
      rw [if_neg hc327] at h
      by_cases hc339 : ((wI w 1020 x3.toNatClampNeg) &&& (63 : Int32)) = (22 : Int32)
      · rw [if_pos hc339] at h
        refine x_tsw (off := 835) (tgt := 888) dL_law_53 (by rw [hc339]; decide) (by rw [hc339]; decide) (by rw [hc339]; decide) (by decide) ?_
        refine x_aload_n (j := 1) (i := 1) dL_law_888 rfl rfl ?_
        refine x_aload_n (j := 0) (i := 0) dL_law_889 rfl rfl ?_
        refine x_iload_n (j := 3) (i := 3) dL_law_890 rfl rfl ?_
        refine x_iconst (v := 1) dL_law_891 (by decide) ?_
        refine x_iadd dL_law_892 ?_
        obtain ⟨g340, h⟩ := gd_some h
        refine x_xald g340 dL_law_893 ?_
        obtain ⟨g344, h⟩ := gd_some h
        obtain ⟨v341, w342, hc343, h⟩ := bd_s h
        refine x_callVI (ci := 10) dL_law_894 ml_RL_116 mb_X10_most (c_X10_most x1 (wI w 1020 (x3 + (1 : Int32)).toNatClampNeg) w v341 w342 hc343) ⟨_, rfl, rfl⟩ g344 [] rfl rfl (Nat.le_of_ble_eq_true rfl) (by decide) (by decide) ?_
        refine x_aload_n (j := 2) (i := 2) dL_law_897 rfl rfl ?_
        refine x_aload_n (j := 0) (i := 0) dL_law_898 rfl rfl ?_
        refine x_iload_n (j := 3) (i := 3) dL_law_899 rfl rfl ?_
        refine x_iconst (v := 1) dL_law_900 (by decide) ?_
        refine x_iadd dL_law_901 ?_
        obtain ⟨g345, h⟩ := gd_some h
        refine x_xald g345 dL_law_902 ?_
        obtain ⟨g349, h⟩ := gd_some h
        obtain ⟨v346, w347, hc348, h⟩ := bd_s h
        refine x_callVI (ci := 11) dL_law_903 ml_RL_119 mb_X11_most (c_X11_most x2 (wI w342 1020 (x3 + (1 : Int32)).toNatClampNeg) w342 v346 w347 hc348) ⟨_, rfl, rfl⟩ g349 [xI v341] rfl rfl (Nat.le_of_ble_eq_true rfl) (by decide) (by decide) ?_
        refine x_icmp_eq (tgt := 1161) dL_law_906 (by decide) (fun hc350 => ?_) (fun hc350 => ?_)
        · rw [if_pos hc350] at h
          refine x_iinc (j := 3) (i := 3) (v := x3 + (7 : Int32)) (lv2 := [(3, xI (x3 + (7 : Int32))), (0, xR 1020), (1, xR x1), (2, xR x2)]) dL_law_1161 rfl rfl (by decide) rfl ?_
          refine x_goto (tgt := 38) dL_law_1164 (by decide) ?_
          refine x_lv (lv2 := [(0, xR 1020), (1, xR x1), (2, xR x2), (3, xI (x3 + (7 : Int32)))]) [1, 2, 3, 0] rfl ?_
          exact ih x1 x2 (x3 + (7 : Int32)) bc bs w347 h
        · rw [if_neg hc350] at h
          refine x_iconst (v := 0) dL_law_909 (by decide) ?_
          exact nomatch h
      rw [if_neg hc339] at h
      by_cases hc351 : ((wI w 1020 x3.toNatClampNeg) &&& (63 : Int32)) = (23 : Int32)
      · rw [if_pos hc351] at h
        refine x_tsw (off := 858) (tgt := 911) dL_law_53 (by rw [hc351]; decide) (by rw [hc351]; decide) (by rw [hc351]; decide) (by decide) ?_
        refine x_aload_n (j := 1) (i := 1) dL_law_911 rfl rfl ?_
        refine x_aload_n (j := 0) (i := 0) dL_law_912 rfl rfl ?_
        refine x_iload_n (j := 3) (i := 3) dL_law_913 rfl rfl ?_
        refine x_iconst (v := 1) dL_law_914 (by decide) ?_
        refine x_iadd dL_law_915 ?_
        obtain ⟨g352, h⟩ := gd_some h
        refine x_xald g352 dL_law_916 ?_
        refine x_aload_n (j := 0) (i := 0) dL_law_917 rfl rfl ?_
        refine x_iload_n (j := 3) (i := 3) dL_law_918 rfl rfl ?_
        refine x_iconst (v := 2) dL_law_919 (by decide) ?_
        refine x_iadd dL_law_920 ?_
        obtain ⟨g353, h⟩ := gd_some h
        refine x_xald g353 dL_law_921 ?_
        obtain ⟨g357, h⟩ := gd_some h
        obtain ⟨v354, w355, hc356, h⟩ := bd_s h
        refine x_callVI (ci := 10) dL_law_922 ml_RL_120 mb_X10_minute (c_X10_minute x1 (wI w 1020 (x3 + (1 : Int32)).toNatClampNeg) (wI w 1020 (x3 + (2 : Int32)).toNatClampNeg) w v354 w355 hc356) ⟨_, rfl, rfl⟩ g357 [] rfl rfl (Nat.le_of_ble_eq_true rfl) (by decide) (by decide) ?_
        refine x_aload_n (j := 2) (i := 2) dL_law_925 rfl rfl ?_
        refine x_aload_n (j := 0) (i := 0) dL_law_926 rfl rfl ?_
        refine x_iload_n (j := 3) (i := 3) dL_law_927 rfl rfl ?_
        refine x_iconst (v := 1) dL_law_928 (by decide) ?_
        refine x_iadd dL_law_929 ?_
        obtain ⟨g358, h⟩ := gd_some h
        refine x_xald g358 dL_law_930 ?_
        refine x_aload_n (j := 0) (i := 0) dL_law_931 rfl rfl ?_
        refine x_iload_n (j := 3) (i := 3) dL_law_932 rfl rfl ?_
        refine x_iconst (v := 2) dL_law_933 (by decide) ?_
        refine x_iadd dL_law_934 ?_
        obtain ⟨g359, h⟩ := gd_some h
        refine x_xald g359 dL_law_935 ?_
        obtain ⟨g363, h⟩ := gd_some h
        obtain ⟨v360, w361, hc362, h⟩ := bd_s h
        refine x_callVI (ci := 11) dL_law_936 ml_RL_123 mb_X11_minute (c_X11_minute x2 (wI w355 1020 (x3 + (1 : Int32)).toNatClampNeg) (wI w355 1020 (x3 + (2 : Int32)).toNatClampNeg) w355 v360 w361 hc362) ⟨_, rfl, rfl⟩ g363 [xI v354] rfl rfl (Nat.le_of_ble_eq_true rfl) (by decide) (by decide) ?_
        refine x_icmp_eq (tgt := 1161) dL_law_939 (by decide) (fun hc364 => ?_) (fun hc364 => ?_)
        · rw [if_pos hc364] at h
          refine x_iinc (j := 3) (i := 3) (v := x3 + (7 : Int32)) (lv2 := [(3, xI (x3 + (7 : Int32))), (0, xR 1020), (1, xR x1), (2, xR x2)]) dL_law_1161 rfl rfl (by decide) rfl ?_
          refine x_goto (tgt := 38) dL_law_1164 (by decide) ?_
          refine x_lv (lv2 := [(0, xR 1020), (1, xR x1), (2, xR x2), (3, xI (x3 + (7 : Int32)))]) [1, 2, 3, 0] rfl ?_
          exact ih x1 x2 (x3 + (7 : Int32)) bc bs w361 h
        · rw [if_neg hc364] at h
          refine x_iconst (v := 0) dL_law_942 (by decide) ?_
          exact nomatch h
      rw [if_neg hc351] at h
      by_cases hc365 : ((wI w 1020 x3.toNatClampNeg) &&& (63 : Int32)) = (24 : Int32)
      · rw [if_pos hc365] at h
        refine x_tsw (off := 891) (tgt := 944) dL_law_53 (by rw [hc365]; decide) (by rw [hc365]; decide) (by rw [hc365]; decide) (by decide) ?_
        refine x_aload_n (j := 1) (i := 1) dL_law_944 rfl rfl ?_
        obtain ⟨g369, h⟩ := gd_some h
        obtain ⟨v366, w367, hc368, h⟩ := bd_s h
        refine x_callVI (ci := 10) dL_law_945 ml_RL_124 mb_X10_bell (c_X10_bell x1 w v366 w367 hc368) ⟨_, rfl, rfl⟩ g369 [] rfl rfl (Nat.le_of_ble_eq_true rfl) (by decide) (by decide) ?_
        refine x_aload_n (j := 2) (i := 2) dL_law_948 rfl rfl ?_
        obtain ⟨g373, h⟩ := gd_some h
        obtain ⟨v370, w371, hc372, h⟩ := bd_s h
        refine x_callVI (ci := 11) dL_law_949 ml_RL_127 mb_X11_bell (c_X11_bell x2 w367 v370 w371 hc372) ⟨_, rfl, rfl⟩ g373 [xI v366] rfl rfl (Nat.le_of_ble_eq_true rfl) (by decide) (by decide) ?_
        refine x_icmp_eq (tgt := 1161) dL_law_952 (by decide) (fun hc374 => ?_) (fun hc374 => ?_)
        · rw [if_pos hc374] at h
          refine x_iinc (j := 3) (i := 3) (v := x3 + (7 : Int32)) (lv2 := [(3, xI (x3 + (7 : Int32))), (0, xR 1020), (1, xR x1), (2, xR x2)]) dL_law_1161 rfl rfl (by decide) rfl ?_
          refine x_goto (tgt := 38) dL_law_1164 (by decide) ?_
          refine x_lv (lv2 := [(0, xR 1020), (1, xR x1), (2, xR x2), (3, xI (x3 + (7 : Int32)))]) [1, 2, 3, 0] rfl ?_
          exact ih x1 x2 (x3 + (7 : Int32)) bc bs w371 h
        · rw [if_neg hc374] at h
          refine x_iconst (v := 0) dL_law_955 (by decide) ?_
          exact nomatch h
      rw [if_neg hc365] at h
      by_cases hc375 : ((wI w 1020 x3.toNatClampNeg) &&& (63 : Int32)) = (25 : Int32)
      · rw [if_pos hc375] at h
        refine x_tsw (off := 904) (tgt := 957) dL_law_53 (by rw [hc375]; decide) (by rw [hc375]; decide) (by rw [hc375]; decide) (by decide) ?_
        refine x_aload_n (j := 1) (i := 1) dL_law_957 rfl rfl ?_
        refine x_aload_n (j := 0) (i := 0) dL_law_958 rfl rfl ?_
        refine x_iload_n (j := 3) (i := 3) dL_law_959 rfl rfl ?_
        refine x_iconst (v := 1) dL_law_960 (by decide) ?_
        refine x_iadd dL_law_961 ?_
        obtain ⟨g376, h⟩ := gd_some h
        refine x_xald g376 dL_law_962 ?_
        refine x_aload_n (j := 0) (i := 0) dL_law_963 rfl rfl ?_
        refine x_iload_n (j := 3) (i := 3) dL_law_964 rfl rfl ?_
        refine x_iconst (v := 2) dL_law_965 (by decide) ?_
        refine x_iadd dL_law_966 ?_
        obtain ⟨g377, h⟩ := gd_some h
        refine x_xald g377 dL_law_967 ?_
        obtain ⟨g381, h⟩ := gd_some h
        obtain ⟨v378, w379, hc380, h⟩ := bd_s h
        refine x_callVI (ci := 10) dL_law_968 ml_RL_128 mb_X10_sight (c_X10_sight x1 (wI w 1020 (x3 + (1 : Int32)).toNatClampNeg) (wI w 1020 (x3 + (2 : Int32)).toNatClampNeg) w v378 w379 hc380) ⟨_, rfl, rfl⟩ g381 [] rfl rfl (Nat.le_of_ble_eq_true rfl) (by decide) (by decide) ?_
        refine x_aload_n (j := 2) (i := 2) dL_law_971 rfl rfl ?_
        refine x_aload_n (j := 0) (i := 0) dL_law_972 rfl rfl ?_
        refine x_iload_n (j := 3) (i := 3) dL_law_973 rfl rfl ?_
        refine x_iconst (v := 1) dL_law_974 (by decide) ?_
        refine x_iadd dL_law_975 ?_
        obtain ⟨g382, h⟩ := gd_some h
        refine x_xald g382 dL_law_976 ?_
        refine x_aload_n (j := 0) (i := 0) dL_law_977 rfl rfl ?_
        refine x_iload_n (j := 3) (i := 3) dL_law_978 rfl rfl ?_
        refine x_iconst (v := 2) dL_law_979 (by decide) ?_
        refine x_iadd dL_law_980 ?_
        obtain ⟨g383, h⟩ := gd_some h
        refine x_xald g383 dL_law_981 ?_
        obtain ⟨g387, h⟩ := gd_some h
        obtain ⟨v384, w385, hc386, h⟩ := bd_s h
        refine x_callVI (ci := 11) dL_law_982 ml_RL_131 mb_X11_sight (c_X11_sight x2 (wI w379 1020 (x3 + (1 : Int32)).toNatClampNeg) (wI w379 1020 (x3 + (2 : Int32)).toNatClampNeg) w379 v384 w385 hc386) ⟨_, rfl, rfl⟩ g387 [xI v378] rfl rfl (Nat.le_of_ble_eq_true rfl) (by decide) (by decide) ?_
        refine x_icmp_eq (tgt := 1161) dL_law_985 (by decide) (fun hc388 => ?_) (fun hc388 => ?_)
        · rw [if_pos hc388] at h
          refine x_iinc (j := 3) (i := 3) (v := x3 + (7 : Int32)) (lv2 := [(3, xI (x3 + (7 : Int32))), (0, xR 1020), (1, xR x1), (2, xR x2)]) dL_law_1161 rfl rfl (by decide) rfl ?_
          refine x_goto (tgt := 38) dL_law_1164 (by decide) ?_
          refine x_lv (lv2 := [(0, xR 1020), (1, xR x1), (2, xR x2), (3, xI (x3 + (7 : Int32)))]) [1, 2, 3, 0] rfl ?_
          exact ih x1 x2 (x3 + (7 : Int32)) bc bs w385 h
        · rw [if_neg hc388] at h
          refine x_iconst (v := 0) dL_law_988 (by decide) ?_
          exact nomatch h
      rw [if_neg hc375] at h
      by_cases hc389 : ((wI w 1020 x3.toNatClampNeg) &&& (63 : Int32)) = (26 : Int32)
      · rw [if_pos hc389] at h
        refine x_tsw (off := 937) (tgt := 990) dL_law_53 (by rw [hc389]; decide) (by rw [hc389]; decide) (by rw [hc389]; decide) (by decide) ?_
        refine x_aload_n (j := 1) (i := 1) dL_law_990 rfl rfl ?_
        refine x_aload_n (j := 0) (i := 0) dL_law_991 rfl rfl ?_
        refine x_iload_n (j := 3) (i := 3) dL_law_992 rfl rfl ?_
        refine x_iconst (v := 1) dL_law_993 (by decide) ?_
        refine x_iadd dL_law_994 ?_
        obtain ⟨g390, h⟩ := gd_some h
        refine x_xald g390 dL_law_995 ?_
        refine x_aload_n (j := 0) (i := 0) dL_law_996 rfl rfl ?_
        refine x_iload_n (j := 3) (i := 3) dL_law_997 rfl rfl ?_
        refine x_iconst (v := 2) dL_law_998 (by decide) ?_
        refine x_iadd dL_law_999 ?_
        obtain ⟨g391, h⟩ := gd_some h
        refine x_xald g391 dL_law_1000 ?_
        obtain ⟨g395, h⟩ := gd_some h
        obtain ⟨v392, w393, hc394, h⟩ := bd_s h
        refine x_callVI (ci := 10) dL_law_1001 ml_RL_132 mb_X10_canBe (c_X10_canBe x1 (wI w 1020 (x3 + (1 : Int32)).toNatClampNeg) (wI w 1020 (x3 + (2 : Int32)).toNatClampNeg) w v392 w393 hc394) ⟨_, rfl, rfl⟩ g395 [] rfl rfl (Nat.le_of_ble_eq_true rfl) (by decide) (by decide) ?_
        refine x_aload_n (j := 2) (i := 2) dL_law_1004 rfl rfl ?_
        refine x_aload_n (j := 0) (i := 0) dL_law_1005 rfl rfl ?_
        refine x_iload_n (j := 3) (i := 3) dL_law_1006 rfl rfl ?_
        refine x_iconst (v := 1) dL_law_1007 (by decide) ?_
        refine x_iadd dL_law_1008 ?_
        obtain ⟨g396, h⟩ := gd_some h
        refine x_xald g396 dL_law_1009 ?_
        refine x_aload_n (j := 0) (i := 0) dL_law_1010 rfl rfl ?_
        refine x_iload_n (j := 3) (i := 3) dL_law_1011 rfl rfl ?_
        refine x_iconst (v := 2) dL_law_1012 (by decide) ?_
        refine x_iadd dL_law_1013 ?_
        obtain ⟨g397, h⟩ := gd_some h
        refine x_xald g397 dL_law_1014 ?_
        obtain ⟨g401, h⟩ := gd_some h
        obtain ⟨v398, w399, hc400, h⟩ := bd_s h
        refine x_callVI (ci := 11) dL_law_1015 ml_RL_135 mb_X11_canBe (c_X11_canBe x2 (wI w393 1020 (x3 + (1 : Int32)).toNatClampNeg) (wI w393 1020 (x3 + (2 : Int32)).toNatClampNeg) w393 v398 w399 hc400) ⟨_, rfl, rfl⟩ g401 [xI v392] rfl rfl (Nat.le_of_ble_eq_true rfl) (by decide) (by decide) ?_
        refine x_icmp_eq (tgt := 1161) dL_law_1018 (by decide) (fun hc402 => ?_) (fun hc402 => ?_)
        · rw [if_pos hc402] at h
          refine x_iinc (j := 3) (i := 3) (v := x3 + (7 : Int32)) (lv2 := [(3, xI (x3 + (7 : Int32))), (0, xR 1020), (1, xR x1), (2, xR x2)]) dL_law_1161 rfl rfl (by decide) rfl ?_
          refine x_goto (tgt := 38) dL_law_1164 (by decide) ?_
          refine x_lv (lv2 := [(0, xR 1020), (1, xR x1), (2, xR x2), (3, xI (x3 + (7 : Int32)))]) [1, 2, 3, 0] rfl ?_
          exact ih x1 x2 (x3 + (7 : Int32)) bc bs w399 h
        · rw [if_neg hc402] at h
          refine x_iconst (v := 0) dL_law_1021 (by decide) ?_
          exact nomatch h
      rw [if_neg hc389] at h
      by_cases hc403 : ((wI w 1020 x3.toNatClampNeg) &&& (63 : Int32)) = (27 : Int32)
      · rw [if_pos hc403] at h
        refine x_tsw (off := 970) (tgt := 1023) dL_law_53 (by rw [hc403]; decide) (by rw [hc403]; decide) (by rw [hc403]; decide) (by decide) ?_
        refine x_aload_n (j := 1) (i := 1) dL_law_1023 rfl rfl ?_
        refine x_aload_n (j := 0) (i := 0) dL_law_1024 rfl rfl ?_
        refine x_iload_n (j := 3) (i := 3) dL_law_1025 rfl rfl ?_
        refine x_iconst (v := 1) dL_law_1026 (by decide) ?_
        refine x_iadd dL_law_1027 ?_
        obtain ⟨g404, h⟩ := gd_some h
        refine x_xald g404 dL_law_1028 ?_
        obtain ⟨g408, h⟩ := gd_some h
        obtain ⟨v405, w406, hc407, h⟩ := bd_s h
        refine x_callVI (ci := 10) dL_law_1029 ml_RL_136 mb_X10_places (c_X10_places x1 (wI w 1020 (x3 + (1 : Int32)).toNatClampNeg) w v405 w406 hc407) ⟨_, rfl, rfl⟩ g408 [] rfl rfl (Nat.le_of_ble_eq_true rfl) (by decide) (by decide) ?_
        refine x_aload_n (j := 2) (i := 2) dL_law_1032 rfl rfl ?_
        refine x_aload_n (j := 0) (i := 0) dL_law_1033 rfl rfl ?_
        refine x_iload_n (j := 3) (i := 3) dL_law_1034 rfl rfl ?_
        refine x_iconst (v := 1) dL_law_1035 (by decide) ?_
        refine x_iadd dL_law_1036 ?_
        obtain ⟨g409, h⟩ := gd_some h
        refine x_xald g409 dL_law_1037 ?_
        obtain ⟨g413, h⟩ := gd_some h
        obtain ⟨v410, w411, hc412, h⟩ := bd_s h
        refine x_callVI (ci := 11) dL_law_1038 ml_RL_139 mb_X11_places (c_X11_places x2 (wI w406 1020 (x3 + (1 : Int32)).toNatClampNeg) w406 v410 w411 hc412) ⟨_, rfl, rfl⟩ g413 [xI v405] rfl rfl (Nat.le_of_ble_eq_true rfl) (by decide) (by decide) ?_
        refine x_icmp_eq (tgt := 1161) dL_law_1041 (by decide) (fun hc414 => ?_) (fun hc414 => ?_)
        · rw [if_pos hc414] at h
          refine x_iinc (j := 3) (i := 3) (v := x3 + (7 : Int32)) (lv2 := [(3, xI (x3 + (7 : Int32))), (0, xR 1020), (1, xR x1), (2, xR x2)]) dL_law_1161 rfl rfl (by decide) rfl ?_
          refine x_goto (tgt := 38) dL_law_1164 (by decide) ?_
          refine x_lv (lv2 := [(0, xR 1020), (1, xR x1), (2, xR x2), (3, xI (x3 + (7 : Int32)))]) [1, 2, 3, 0] rfl ?_
          exact ih x1 x2 (x3 + (7 : Int32)) bc bs w411 h
        · rw [if_neg hc414] at h
          refine x_iconst (v := 0) dL_law_1044 (by decide) ?_
          exact nomatch h
      rw [if_neg hc403] at h
      by_cases hc415 : ((wI w 1020 x3.toNatClampNeg) &&& (63 : Int32)) = (28 : Int32)
      · rw [if_pos hc415] at h
        refine x_tsw (off := 993) (tgt := 1046) dL_law_53 (by rw [hc415]; decide) (by rw [hc415]; decide) (by rw [hc415]; decide) (by decide) ?_
        refine x_aload_n (j := 1) (i := 1) dL_law_1046 rfl rfl ?_
        obtain ⟨g419, h⟩ := gd_some h
        obtain ⟨v416, w417, hc418, h⟩ := bd_s h
        refine x_callVI (ci := 10) dL_law_1047 ml_RL_140 mb_X10_found (c_X10_found x1 w v416 w417 hc418) ⟨_, rfl, rfl⟩ g419 [] rfl rfl (Nat.le_of_ble_eq_true rfl) (by decide) (by decide) ?_
        refine x_aload_n (j := 2) (i := 2) dL_law_1050 rfl rfl ?_
        obtain ⟨g423, h⟩ := gd_some h
        obtain ⟨v420, w421, hc422, h⟩ := bd_s h
        refine x_callVI (ci := 11) dL_law_1051 ml_RL_143 mb_X11_found (c_X11_found x2 w417 v420 w421 hc422) ⟨_, rfl, rfl⟩ g423 [xI v416] rfl rfl (Nat.le_of_ble_eq_true rfl) (by decide) (by decide) ?_
        refine x_icmp_eq (tgt := 1161) dL_law_1054 (by decide) (fun hc424 => ?_) (fun hc424 => ?_)
        · rw [if_pos hc424] at h
          refine x_iinc (j := 3) (i := 3) (v := x3 + (7 : Int32)) (lv2 := [(3, xI (x3 + (7 : Int32))), (0, xR 1020), (1, xR x1), (2, xR x2)]) dL_law_1161 rfl rfl (by decide) rfl ?_
          refine x_goto (tgt := 38) dL_law_1164 (by decide) ?_
          refine x_lv (lv2 := [(0, xR 1020), (1, xR x1), (2, xR x2), (3, xI (x3 + (7 : Int32)))]) [1, 2, 3, 0] rfl ?_
          exact ih x1 x2 (x3 + (7 : Int32)) bc bs w421 h
        · rw [if_neg hc424] at h
          refine x_iconst (v := 0) dL_law_1057 (by decide) ?_
          exact nomatch h
      rw [if_neg hc415] at h
      by_cases hc425 : ((wI w 1020 x3.toNatClampNeg) &&& (63 : Int32)) = (29 : Int32)
      · rw [if_pos hc425] at h
        refine x_tsw (off := 1006) (tgt := 1059) dL_law_53 (by rw [hc425]; decide) (by rw [hc425]; decide) (by rw [hc425]; decide) (by decide) ?_
        refine x_aload_n (j := 1) (i := 1) dL_law_1059 rfl rfl ?_
        refine x_aload_n (j := 0) (i := 0) dL_law_1060 rfl rfl ?_
        refine x_iload_n (j := 3) (i := 3) dL_law_1061 rfl rfl ?_
        refine x_iconst (v := 1) dL_law_1062 (by decide) ?_
        refine x_iadd dL_law_1063 ?_
        obtain ⟨g426, h⟩ := gd_some h
        refine x_xald g426 dL_law_1064 ?_
        refine x_aload_n (j := 0) (i := 0) dL_law_1065 rfl rfl ?_
        refine x_iload_n (j := 3) (i := 3) dL_law_1066 rfl rfl ?_
        refine x_iconst (v := 2) dL_law_1067 (by decide) ?_
        refine x_iadd dL_law_1068 ?_
        obtain ⟨g427, h⟩ := gd_some h
        refine x_xald g427 dL_law_1069 ?_
        obtain ⟨g431, h⟩ := gd_some h
        obtain ⟨v428, w429, hc430, h⟩ := bd_s h
        refine x_callVI (ci := 10) dL_law_1070 ml_RL_144 mb_X10_sell (c_X10_sell x1 (wI w 1020 (x3 + (1 : Int32)).toNatClampNeg) (wI w 1020 (x3 + (2 : Int32)).toNatClampNeg) w v428 w429 hc430) ⟨_, rfl, rfl⟩ g431 [] rfl rfl (Nat.le_of_ble_eq_true rfl) (by decide) (by decide) ?_
        refine x_aload_n (j := 2) (i := 2) dL_law_1073 rfl rfl ?_
        refine x_aload_n (j := 0) (i := 0) dL_law_1074 rfl rfl ?_
        refine x_iload_n (j := 3) (i := 3) dL_law_1075 rfl rfl ?_
        refine x_iconst (v := 1) dL_law_1076 (by decide) ?_
        refine x_iadd dL_law_1077 ?_
        obtain ⟨g432, h⟩ := gd_some h
        refine x_xald g432 dL_law_1078 ?_
        refine x_aload_n (j := 0) (i := 0) dL_law_1079 rfl rfl ?_
        refine x_iload_n (j := 3) (i := 3) dL_law_1080 rfl rfl ?_
        refine x_iconst (v := 2) dL_law_1081 (by decide) ?_
        refine x_iadd dL_law_1082 ?_
        obtain ⟨g433, h⟩ := gd_some h
        refine x_xald g433 dL_law_1083 ?_
        obtain ⟨g437, h⟩ := gd_some h
        obtain ⟨v434, w435, hc436, h⟩ := bd_s h
        refine x_callVI (ci := 11) dL_law_1084 ml_RL_147 mb_X11_sell (c_X11_sell x2 (wI w429 1020 (x3 + (1 : Int32)).toNatClampNeg) (wI w429 1020 (x3 + (2 : Int32)).toNatClampNeg) w429 v434 w435 hc436) ⟨_, rfl, rfl⟩ g437 [xI v428] rfl rfl (Nat.le_of_ble_eq_true rfl) (by decide) (by decide) ?_
        refine x_icmp_eq (tgt := 1161) dL_law_1087 (by decide) (fun hc438 => ?_) (fun hc438 => ?_)
        · rw [if_pos hc438] at h
          refine x_iinc (j := 3) (i := 3) (v := x3 + (7 : Int32)) (lv2 := [(3, xI (x3 + (7 : Int32))), (0, xR 1020), (1, xR x1), (2, xR x2)]) dL_law_1161 rfl rfl (by decide) rfl ?_
          refine x_goto (tgt := 38) dL_law_1164 (by decide) ?_
          refine x_lv (lv2 := [(0, xR 1020), (1, xR x1), (2, xR x2), (3, xI (x3 + (7 : Int32)))]) [1, 2, 3, 0] rfl ?_
          exact ih x1 x2 (x3 + (7 : Int32)) bc bs w435 h
        · rw [if_neg hc438] at h
          refine x_iconst (v := 0) dL_law_1090 (by decide) ?_
          exact nomatch h
      rw [if_neg hc425] at h
      by_cases hc439 : ((wI w 1020 x3.toNatClampNeg) &&& (63 : Int32)) = (30 : Int32)
      · rw [if_pos hc439] at h
        refine x_tsw (off := 1039) (tgt := 1092) dL_law_53 (by rw [hc439]; decide) (by rw [hc439]; decide) (by rw [hc439]; decide) (by decide) ?_
        refine x_aload_n (j := 1) (i := 1) dL_law_1092 rfl rfl ?_
        refine x_aload_n (j := 0) (i := 0) dL_law_1093 rfl rfl ?_
        refine x_iload_n (j := 3) (i := 3) dL_law_1094 rfl rfl ?_
        refine x_iconst (v := 1) dL_law_1095 (by decide) ?_
        refine x_iadd dL_law_1096 ?_
        obtain ⟨g440, h⟩ := gd_some h
        refine x_xald g440 dL_law_1097 ?_
        obtain ⟨g444, h⟩ := gd_some h
        obtain ⟨v441, w442, hc443, h⟩ := bd_s h
        refine x_callVI (ci := 10) dL_law_1098 ml_RL_148 mb_X10_hand (c_X10_hand x1 (wI w 1020 (x3 + (1 : Int32)).toNatClampNeg) w v441 w442 hc443) ⟨_, rfl, rfl⟩ g444 [] rfl rfl (Nat.le_of_ble_eq_true rfl) (by decide) (by decide) ?_
        refine x_aload_n (j := 2) (i := 2) dL_law_1101 rfl rfl ?_
        refine x_aload_n (j := 0) (i := 0) dL_law_1102 rfl rfl ?_
        refine x_iload_n (j := 3) (i := 3) dL_law_1103 rfl rfl ?_
        refine x_iconst (v := 1) dL_law_1104 (by decide) ?_
        refine x_iadd dL_law_1105 ?_
        obtain ⟨g445, h⟩ := gd_some h
        refine x_xald g445 dL_law_1106 ?_
        obtain ⟨g449, h⟩ := gd_some h
        obtain ⟨v446, w447, hc448, h⟩ := bd_s h
        refine x_callVI (ci := 11) dL_law_1107 ml_RL_151 mb_X11_hand (c_X11_hand x2 (wI w442 1020 (x3 + (1 : Int32)).toNatClampNeg) w442 v446 w447 hc448) ⟨_, rfl, rfl⟩ g449 [xI v441] rfl rfl (Nat.le_of_ble_eq_true rfl) (by decide) (by decide) ?_
        refine x_icmp_eq (tgt := 1161) dL_law_1110 (by decide) (fun hc450 => ?_) (fun hc450 => ?_)
        · rw [if_pos hc450] at h
          refine x_iinc (j := 3) (i := 3) (v := x3 + (7 : Int32)) (lv2 := [(3, xI (x3 + (7 : Int32))), (0, xR 1020), (1, xR x1), (2, xR x2)]) dL_law_1161 rfl rfl (by decide) rfl ?_
          refine x_goto (tgt := 38) dL_law_1164 (by decide) ?_
          refine x_lv (lv2 := [(0, xR 1020), (1, xR x1), (2, xR x2), (3, xI (x3 + (7 : Int32)))]) [1, 2, 3, 0] rfl ?_
          exact ih x1 x2 (x3 + (7 : Int32)) bc bs w447 h
        · rw [if_neg hc450] at h
          refine x_iconst (v := 0) dL_law_1113 (by decide) ?_
          exact nomatch h
      rw [if_neg hc439] at h
      by_cases hc451 : ((wI w 1020 x3.toNatClampNeg) &&& (63 : Int32)) = (31 : Int32)
      · rw [if_pos hc451] at h
        refine x_tsw (off := 1062) (tgt := 1115) dL_law_53 (by rw [hc451]; decide) (by rw [hc451]; decide) (by rw [hc451]; decide) (by decide) ?_
        refine x_aload_n (j := 1) (i := 1) dL_law_1115 rfl rfl ?_
        refine x_aload_n (j := 0) (i := 0) dL_law_1116 rfl rfl ?_
        refine x_iload_n (j := 3) (i := 3) dL_law_1117 rfl rfl ?_
        refine x_iconst (v := 1) dL_law_1118 (by decide) ?_
        refine x_iadd dL_law_1119 ?_
        obtain ⟨g452, h⟩ := gd_some h
        refine x_xald g452 dL_law_1120 ?_
        obtain ⟨g456, h⟩ := gd_some h
        obtain ⟨v453, w454, hc455, h⟩ := bd_s h
        refine x_callVI (ci := 10) dL_law_1121 ml_RL_152 mb_X10_end (c_X10_end x1 (wI w 1020 (x3 + (1 : Int32)).toNatClampNeg) w v453 w454 hc455) ⟨_, rfl, rfl⟩ g456 [] rfl rfl (Nat.le_of_ble_eq_true rfl) (by decide) (by decide) ?_
        refine x_aload_n (j := 2) (i := 2) dL_law_1124 rfl rfl ?_
        refine x_aload_n (j := 0) (i := 0) dL_law_1125 rfl rfl ?_
        refine x_iload_n (j := 3) (i := 3) dL_law_1126 rfl rfl ?_
        refine x_iconst (v := 1) dL_law_1127 (by decide) ?_
        refine x_iadd dL_law_1128 ?_
        obtain ⟨g457, h⟩ := gd_some h
        refine x_xald g457 dL_law_1129 ?_
        obtain ⟨g461, h⟩ := gd_some h
        obtain ⟨v458, w459, hc460, h⟩ := bd_s h
        refine x_callVI (ci := 11) dL_law_1130 ml_RL_155 mb_X11_end (c_X11_end x2 (wI w454 1020 (x3 + (1 : Int32)).toNatClampNeg) w454 v458 w459 hc460) ⟨_, rfl, rfl⟩ g461 [xI v453] rfl rfl (Nat.le_of_ble_eq_true rfl) (by decide) (by decide) ?_
        refine x_icmp_eq (tgt := 1161) dL_law_1133 (by decide) (fun hc462 => ?_) (fun hc462 => ?_)
        · rw [if_pos hc462] at h
          refine x_iinc (j := 3) (i := 3) (v := x3 + (7 : Int32)) (lv2 := [(3, xI (x3 + (7 : Int32))), (0, xR 1020), (1, xR x1), (2, xR x2)]) dL_law_1161 rfl rfl (by decide) rfl ?_
          refine x_goto (tgt := 38) dL_law_1164 (by decide) ?_
          refine x_lv (lv2 := [(0, xR 1020), (1, xR x1), (2, xR x2), (3, xI (x3 + (7 : Int32)))]) [1, 2, 3, 0] rfl ?_
          exact ih x1 x2 (x3 + (7 : Int32)) bc bs w459 h
        · rw [if_neg hc462] at h
          refine x_iconst (v := 0) dL_law_1136 (by decide) ?_
          exact nomatch h
      rw [if_neg hc451] at h
      by_cases hc463 : ((wI w 1020 x3.toNatClampNeg) &&& (63 : Int32)) = (32 : Int32)
      · rw [if_pos hc463] at h
        refine x_tsw (off := 1085) (tgt := 1138) dL_law_53 (by rw [hc463]; decide) (by rw [hc463]; decide) (by rw [hc463]; decide) (by decide) ?_
        refine x_aload_n (j := 1) (i := 1) dL_law_1138 rfl rfl ?_
        refine x_aload_n (j := 0) (i := 0) dL_law_1139 rfl rfl ?_
        refine x_iload_n (j := 3) (i := 3) dL_law_1140 rfl rfl ?_
        refine x_iconst (v := 1) dL_law_1141 (by decide) ?_
        refine x_iadd dL_law_1142 ?_
        obtain ⟨g464, h⟩ := gd_some h
        refine x_xald g464 dL_law_1143 ?_
        obtain ⟨g468, h⟩ := gd_some h
        obtain ⟨v465, w466, hc467, h⟩ := bd_s h
        refine x_callVI (ci := 10) dL_law_1144 ml_RL_156 mb_X10_count (c_X10_count x1 (wI w 1020 (x3 + (1 : Int32)).toNatClampNeg) w v465 w466 hc467) ⟨_, rfl, rfl⟩ g468 [] rfl rfl (Nat.le_of_ble_eq_true rfl) (by decide) (by decide) ?_
        refine x_aload_n (j := 2) (i := 2) dL_law_1147 rfl rfl ?_
        refine x_aload_n (j := 0) (i := 0) dL_law_1148 rfl rfl ?_
        refine x_iload_n (j := 3) (i := 3) dL_law_1149 rfl rfl ?_
        refine x_iconst (v := 1) dL_law_1150 (by decide) ?_
        refine x_iadd dL_law_1151 ?_
        obtain ⟨g469, h⟩ := gd_some h
        refine x_xald g469 dL_law_1152 ?_
        obtain ⟨g473, h⟩ := gd_some h
        obtain ⟨v470, w471, hc472, h⟩ := bd_s h
        refine x_callVI (ci := 11) dL_law_1153 ml_RL_159 mb_X11_count (c_X11_count x2 (wI w466 1020 (x3 + (1 : Int32)).toNatClampNeg) w466 v470 w471 hc472) ⟨_, rfl, rfl⟩ g473 [xI v465] rfl rfl (Nat.le_of_ble_eq_true rfl) (by decide) (by decide) ?_
        refine x_icmp_eq (tgt := 1161) dL_law_1156 (by decide) (fun hc474 => ?_) (fun hc474 => ?_)
        · rw [if_pos hc474] at h
          refine x_iinc (j := 3) (i := 3) (v := x3 + (7 : Int32)) (lv2 := [(3, xI (x3 + (7 : Int32))), (0, xR 1020), (1, xR x1), (2, xR x2)]) dL_law_1161 rfl rfl (by decide) rfl ?_
          refine x_goto (tgt := 38) dL_law_1164 (by decide) ?_
          refine x_lv (lv2 := [(0, xR 1020), (1, xR x1), (2, xR x2), (3, xI (x3 + (7 : Int32)))]) [1, 2, 3, 0] rfl ?_
          exact ih x1 x2 (x3 + (7 : Int32)) bc bs w471 h
        · rw [if_neg hc474] at h
          refine x_iconst (v := 0) dL_law_1159 (by decide) ?_
          exact nomatch h
      rw [if_neg hc463] at h
      refine x_tswD (tgt := 1161) dL_law_53 (by have t0 := lv_neT hc41 (by decide : (0 : Int32).toInt = 0); have t1 := lv_neT hc55 (by decide : (1 : Int32).toInt = 1); have t2 := lv_neT hc69 (by decide : (2 : Int32).toInt = 2); have t3 := lv_neT hc81 (by decide : (3 : Int32).toInt = 3); have t4 := lv_neT hc105 (by decide : (4 : Int32).toInt = 4); have t5 := lv_neT hc119 (by decide : (5 : Int32).toInt = 5); have t6 := lv_neT hc133 (by decide : (6 : Int32).toInt = 6); have t7 := lv_neT hc145 (by decide : (7 : Int32).toInt = 7); have t8 := lv_neT hc159 (by decide : (8 : Int32).toInt = 8); have t9 := lv_neT hc171 (by decide : (9 : Int32).toInt = 9); have t10 := lv_neT hc181 (by decide : (10 : Int32).toInt = 10); have t11 := lv_neT hc191 (by decide : (11 : Int32).toInt = 11); have t12 := lv_neT hc203 (by decide : (12 : Int32).toInt = 12); have t13 := lv_neT hc215 (by decide : (13 : Int32).toInt = 13); have t14 := lv_neT hc225 (by decide : (14 : Int32).toInt = 14); have t15 := lv_neT hc237 (by decide : (15 : Int32).toInt = 15); have t16 := lv_neT hc253 (by decide : (16 : Int32).toInt = 16); have t17 := lv_neT hc267 (by decide : (17 : Int32).toInt = 17); have t18 := lv_neT hc281 (by decide : (18 : Int32).toInt = 18); have t19 := lv_neT hc299 (by decide : (19 : Int32).toInt = 19); have t20 := lv_neT hc313 (by decide : (20 : Int32).toInt = 20); have t21 := lv_neT hc327 (by decide : (21 : Int32).toInt = 21); have t22 := lv_neT hc339 (by decide : (22 : Int32).toInt = 22); have t23 := lv_neT hc351 (by decide : (23 : Int32).toInt = 23); have t24 := lv_neT hc365 (by decide : (24 : Int32).toInt = 24); have t25 := lv_neT hc375 (by decide : (25 : Int32).toInt = 25); have t26 := lv_neT hc389 (by decide : (26 : Int32).toInt = 26); have t27 := lv_neT hc403 (by decide : (27 : Int32).toInt = 27); have t28 := lv_neT hc415 (by decide : (28 : Int32).toInt = 28); have t29 := lv_neT hc425 (by decide : (29 : Int32).toInt = 29); have t30 := lv_neT hc439 (by decide : (30 : Int32).toInt = 30); have t31 := lv_neT hc451 (by decide : (31 : Int32).toInt = 31); have t32 := lv_neT hc463 (by decide : (32 : Int32).toInt = 32); omega) (by decide) ?_
      refine x_iinc (j := 3) (i := 3) (v := x3 + (7 : Int32)) (lv2 := [(3, xI (x3 + (7 : Int32))), (0, xR 1020), (1, xR x1), (2, xR x2)]) dL_law_1161 rfl rfl (by decide) rfl ?_
      refine x_goto (tgt := 38) dL_law_1164 (by decide) ?_
      refine x_lv (lv2 := [(0, xR 1020), (1, xR x1), (2, xR x2), (3, xI (x3 + (7 : Int32)))]) [1, 2, 3, 0] rfl ?_
      exact ih x1 x2 (x3 + (7 : Int32)) bc bs w h
set_option maxRecDepth 20000 in
theorem c_L_law (w : xSt) (rE : Int32) (wE : xSt) (h : f_L_law w = some (rE, wE)) : xX cL_law 4 (some .boolean) RL false room_1 xZL 0 [(0, xR 1020)] [] w 600000 7302250 := by
  unfold f_L_law at h
  obtain ⟨g1, h⟩ := gd_some h
  obtain ⟨g2, h⟩ := gd_some h
  obtain ⟨g3, h⟩ := gd_some h
  obtain ⟨q4, hq5, h⟩ := lt1_some h
  obtain ⟨w6, hw7, h⟩ := lt1_some h
  refine x_new (ci := 10) dL_law_0 rfl lk_RL_7 li_RX10 lz_RX10 g1 g2 g3 ?_
  rw [← hq5, ← hw7]
  have g8 : isC w6 q4 10 := by rw [hw7, hq5]; exact isC_new _ _ _
  refine x_dup dL_law_3 rfl ?_
  refine x_aload_n (j := 0) (i := 0) dL_law_4 rfl rfl ?_
  refine x_iconst (v := 0) dL_law_5 (by decide) ?_
  obtain ⟨v9, w10, hc11, h⟩ := bd_s h
  refine x_callSI dL_law_6 ml_RL_9 mb_L_cell (c_L_cell (0 : Int32) w6 v9 w10 hc11) [xR q4, xR q4] rfl rfl (Nat.le_of_ble_eq_true rfl) (by decide) (by decide) ?_
  refine x_aload_n (j := 0) (i := 0) dL_law_9 rfl rfl ?_
  refine x_iconst (v := 1) dL_law_10 (by decide) ?_
  obtain ⟨v12, w13, hc14, h⟩ := bd_s h
  refine x_callSI dL_law_11 ml_RL_9 mb_L_cell (c_L_cell (1 : Int32) w10 v12 w13 hc14) [xI v9, xR q4, xR q4] rfl rfl (Nat.le_of_ble_eq_true rfl) (by decide) (by decide) ?_
  obtain ⟨g17, h⟩ := gd_some h
  obtain ⟨g18, h⟩ := gd_some h
  obtain ⟨g19, h⟩ := gd_some h
  obtain ⟨_u, w15, hc16, h⟩ := bd_s h
  refine x_callIVa (ci := 10) dL_law_14 ml_RL_15 mb_X10_init (c_X10_init q4 v9 v12 w13 _u w15 hc16) g17 [xR q4] rfl rfl (Nat.le_of_ble_eq_true rfl) (by decide) (by decide) g18 g19 ?_
  refine x_astore_n (i := 1) (lv2 := [(1, xR q4), (0, xR 1020)]) dL_law_17 rfl (by decide) rfl ?_
  obtain ⟨g20, h⟩ := gd_some h
  obtain ⟨g21, h⟩ := gd_some h
  obtain ⟨g22, h⟩ := gd_some h
  obtain ⟨q23, hq24, h⟩ := lt1_some h
  obtain ⟨w25, hw26, h⟩ := lt1_some h
  refine x_new (ci := 11) dL_law_18 rfl lk_RL_18 li_RX11 lz_RX11 g20 g21 g22 ?_
  rw [← hq24, ← hw26]
  have g27 : isC w25 q23 11 := by rw [hw26, hq24]; exact isC_new _ _ _
  refine x_dup dL_law_21 rfl ?_
  refine x_aload_n (j := 1) (i := 0) dL_law_22 rfl rfl ?_
  refine x_iconst (v := 0) dL_law_23 (by decide) ?_
  obtain ⟨v28, w29, hc30, h⟩ := bd_s h
  refine x_callSI dL_law_24 ml_RL_9 mb_L_cell (c_L_cell (0 : Int32) w25 v28 w29 hc30) [xR q23, xR q23] rfl rfl (Nat.le_of_ble_eq_true rfl) (by decide) (by decide) ?_
  refine x_aload_n (j := 1) (i := 0) dL_law_27 rfl rfl ?_
  refine x_iconst (v := 1) dL_law_28 (by decide) ?_
  obtain ⟨v31, w32, hc33, h⟩ := bd_s h
  refine x_callSI dL_law_29 ml_RL_9 mb_L_cell (c_L_cell (1 : Int32) w29 v31 w32 hc33) [xI v28, xR q23, xR q23] rfl rfl (Nat.le_of_ble_eq_true rfl) (by decide) (by decide) ?_
  obtain ⟨g36, h⟩ := gd_some h
  obtain ⟨g37, h⟩ := gd_some h
  obtain ⟨g38, h⟩ := gd_some h
  obtain ⟨_u, w34, hc35, h⟩ := bd_s h
  refine x_callIVa (ci := 11) dL_law_32 ml_RL_20 mb_X11_init (c_X11_init q23 v28 v31 w32 _u w34 hc35) g36 [xR q23] rfl rfl (Nat.le_of_ble_eq_true rfl) (by decide) (by decide) g37 g38 ?_
  refine x_astore_n (i := 2) (lv2 := [(2, xR q23), (1, xR q4), (0, xR 1020)]) dL_law_35 rfl (by decide) rfl ?_
  refine x_iconst (v := 2) dL_law_36 (by decide) ?_
  refine x_istore_n (i := 3) (lv2 := [(3, xI (2 : Int32)), (2, xR q23), (1, xR q4), (0, xR 1020)]) dL_law_37 rfl (by decide) rfl ?_
  refine x_lv (lv2 := [(0, xR 1020), (1, xR q4), (2, xR q23), (3, xI (2 : Int32))]) [3, 2, 1, 0] rfl ?_
  exact k_L_law_l38 rE wE xFu q4 q23 (2 : Int32) ((((600000 - 1) - 55) - 1) - 30) ((((7302250 - 10) - 653) - 50) - 1992) w34 h

set_option maxRecDepth 20000 in
theorem law_stat {s : State} {b L : Nat} {xs : Nat → Int32} (hts : ∀ w ∈ lw_tbl, w.before #[Value.ref b] s = true) (hgv : (Jvm.Cond.and given_1 narrow_1).before #[Value.ref b] s = true) (hX : va_X b L xs s s.heap) (hbl : b < s.heap.size) (hL : L ≤ 3586) : ∃ γ : xG, gB γ = s.heap.size ∧ gL γ = L ∧ gX γ = xs ∧ gS γ 20 = b ∧ xStat γ s := by
  have hfl := flat_of_before _ hgv
  have hA : ∀ a : Nat, a < s.heap.size → ¬ (fun q => s.heap.size ≤ q) a := fun a h => Nat.not_le.mpr h
  have hG : ∀ w ∈ xGW, w.before #[Value.ref b] s = true := fun w hw => hts w (List.mem_filter.mp hw).1
  obtain ⟨c0, iS0, hKn0⟩ := u_known (C := RX0) (T := TX0) (N := 8) (n := 8) hG (xcls_in 0 _ rfl) (hG _ li_RX0)
  obtain ⟨c1, iS1, hKn1⟩ := u_known (C := RX1) (T := TX1) (N := 7) (n := 7) hG (xcls_in 1 _ rfl) (hG _ li_RX1)
  obtain ⟨c2, iS2, hKn2⟩ := u_known (C := RX2) (T := TX2) (N := 2) (n := 2) hG (xcls_in 2 _ rfl) (hG _ li_RX2)
  obtain ⟨c3, iS3, hKn3⟩ := u_known (C := RX3) (T := TX3) (N := 5) (n := 5) hG (xcls_in 3 _ rfl) (hG _ li_RX3)
  obtain ⟨c4, iS4, hKn4⟩ := u_known (C := RX4) (T := TX4) (N := 3) (n := 3) hG (xcls_in 4 _ rfl) (hG _ li_RX4)
  obtain ⟨c5, iS5, hKn5⟩ := u_known (C := RX5) (T := TX5) (N := 4) (n := 4) hG (xcls_in 5 _ rfl) (hG _ li_RX5)
  obtain ⟨c6, iS6, hKn6⟩ := u_known (C := RX6) (T := TX6) (N := 11) (n := 11) hG (xcls_in 6 _ rfl) (hG _ li_RX6)
  obtain ⟨c7, iS7, hKn7⟩ := u_known (C := RX7) (T := TX7) (N := 3) (n := 3) hG (xcls_in 7 _ rfl) (hG _ li_RX7)
  obtain ⟨c8, iS8, hKn8⟩ := u_known (C := RX8) (T := TX8) (N := 4) (n := 4) hG (xcls_in 8 _ rfl) (hG _ li_RX8)
  obtain ⟨c9, iS9, hKn9⟩ := u_known (C := RX9) (T := TX9) (N := 2) (n := 2) hG (xcls_in 9 _ rfl) (hG _ li_RX9)
  obtain ⟨c10, iS10, hKn10⟩ := u_known (C := RX10) (T := TX10) (N := 10) (n := 10) hG (xcls_in 10 _ rfl) (hG _ li_RX10)
  obtain ⟨c11, iS11, hKn11⟩ := u_known (C := RX11) (T := TX11) (N := 50) (n := 50) hG (xcls_in 11 _ rfl) (hG _ li_RX11)
  have hex : ∀ i : Nat, i < 7 → Cond.exactly (Term.string "WorldHall$Tape" (xpool.getD i 0)) "java/lang/String" ∈ flatC (Jvm.Cond.and given_1 narrow_1) := by decide +kernel
  have hco : ∀ i : Nat, i < 7 → Cond.eq (.field (Term.string "WorldHall$Tape" (xpool.getD i 0)) "java/lang/String" "coder" "B") (.int 0) ∈ flatC (Jvm.Cond.and given_1 narrow_1) := by decide +kernel
  have har : ∀ i : Nat, i < 7 → Cond.arrayOf (.field (Term.string "WorldHall$Tape" (xpool.getD i 0)) "java/lang/String" "value" "[B") .byte ∈ flatC (Jvm.Cond.and given_1 narrow_1) := by decide +kernel
  have hle : ∀ i : Nat, i < 7 → Cond.eq (.length (.field (Term.string "WorldHall$Tape" (xpool.getD i 0)) "java/lang/String" "value" "[B")) (.int (Int32.ofNat (xlen.getD i 0))) ∈ flatC (Jvm.Cond.and given_1 narrow_1) := by decide +kernel
  have hel : ∀ i : Nat, i < 7 → ∀ j : Nat, j < xlen.getD i 0 → Cond.eq (.elem (.field (Term.string "WorldHall$Tape" (xpool.getD i 0)) "java/lang/String" "value" "[B") (.int (Int32.ofNat j))) (.int ((xbyt.getD i []).getD j 0)) ∈ flatC (Jvm.Cond.and given_1 narrow_1) := by decide +kernel
  have hne : ∀ i : Nat, i < 7 → ∀ j : Nat, j < 7 → i ≠ j → (Cond.not (Cond.eq (Term.string "WorldHall$Tape" (xpool.getD i 0)) (Term.string "WorldHall$Tape" (xpool.getD j 0))) ∈ flatC (Jvm.Cond.and given_1 narrow_1) ∨ Cond.not (Cond.eq (Term.string "WorldHall$Tape" (xpool.getD j 0)) (Term.string "WorldHall$Tape" (xpool.getD i 0))) ∈ flatC (Jvm.Cond.and given_1 narrow_1)) := by decide +kernel
  have hsr : ∀ i : Nat, i < 7 → Cond.stringRef "WorldHall$Tape" (xpool.getD i 0) (xtext.getD i "") ∈ lw_tbl := by decide +kernel
  obtain ⟨adK, adV, hSS, hev⟩ := vk_Sof (args := #[Value.ref b]) (s := s) (N := 7) (tm := fun i => Term.string "WorldHall$Tape" (xpool.getD i 0)) (len := xlen) (byt := xbyt) (A := fun q => s.heap.size ≤ q) (by decide +kernel) (fun i hi => hfl _ (hex i hi)) (fun i hi => hfl _ (hco i hi)) (fun i hi => hfl _ (har i hi)) (fun i hi => hfl _ (hle i hi)) (fun i hi j hj => hfl _ (hel i hi j hj)) (fun i j hi hj hij => (hne i hi j hj hij).elim (fun h => Or.inl (hfl _ h)) (fun h => Or.inr (hfl _ h))) hA
  have hZ := va_Zof (A := fun q => s.heap.size ≤ q) (hts (.laysStatic "java/lang/String" "COMPACT_STRINGS" "Z") (by decide +kernel)) (hts (.initialized "java/lang/String") (by decide +kernel)) (va_eqi (hfl (Cond.eq (.static "java/lang/String" "COMPACT_STRINGS" "Z") (.int 1)) (by decide +kernel))) hA
  have hZq := va_Zqof (A := fun q => s.heap.size ≤ q) (hts (.laysStatic "jdk/internal/util/Preconditions" "SIOOBE_FORMATTER" "Ljava/util/function/BiFunction;") (by decide +kernel)) (hts (.initialized "jdk/internal/util/Preconditions") (by decide +kernel)) (hfl (Cond.isRef (.static "jdk/internal/util/Preconditions" "SIOOBE_FORMATTER" "Ljava/util/function/BiFunction;")) (by decide +kernel)) hA
  obtain ⟨fo, hF⟩ : ∃ fo : Option Nat, va_Z "jdk/internal/util/Preconditions" "SIOOBE_FORMATTER" "Ljava/util/function/BiFunction;" (va_rf fo) (fun q => s.heap.size ≤ q) s s.heap := by
    rcases hZq with h | ⟨t, h⟩
    · exact ⟨none, h⟩
    · exact ⟨some t, h⟩
  obtain ⟨a20, k20, p20, f20, g20, e20⟩ := Cond.arrayClass_spec (hG _ la_int)
  obtain ⟨a21, k21, p21, f21, g21, e21⟩ := Cond.arrayClass_spec (hG _ la_long)
  obtain ⟨a22, k22, p22, f22, g22, e22⟩ := Cond.arrayClass_spec (hG _ la_byte)
  obtain ⟨a23, k23, p23, f23, g23, e23⟩ := Cond.arrayClass_spec (hG _ la_boolean)
  have o24 := hts (.arrayOver (.object "WorldHall$Stand")) (by decide +kernel)
  have o25 := hts (.arrayOver (.object "WorldHall$Text")) (by decide +kernel)
  obtain ⟨p24, a24, k24, u24, v24, g24, e24, f24⟩ := Cond.arrayOver_spec o24
  obtain ⟨p25, a25, k25, u25, v25, g25, e25, f25⟩ := Cond.arrayOver_spec o25
  refine ⟨((fun k => if k = 0 then c0 else if k = 1 then c1 else if k = 2 then c2 else if k = 3 then c3 else if k = 4 then c4 else if k = 5 then c5 else if k = 6 then c6 else if k = 7 then c7 else if k = 8 then c8 else if k = 9 then c9 else if k = 10 then c10 else c11, fun k => if k = 0 then iS0 else if k = 1 then iS1 else if k = 2 then iS2 else if k = 3 then iS3 else if k = 4 then iS4 else if k = 5 then iS5 else if k = 6 then iS6 else if k = 7 then iS7 else if k = 8 then iS8 else if k = 9 then iS9 else if k = 10 then iS10 else iS11), (fun k => if k = 20 then a20 else if k = 21 then a21 else if k = 22 then a22 else if k = 23 then a23 else if k = 24 then a24 else a25), s.heap.size, (fun i => if i < 10 then adK i else if i < 20 then adV (i - 10) else b), L, xs, fo), rfl, rfl, rfl, rfl, ?_⟩
  refine ⟨⟨?_, ?_⟩, fun w hw => ?_, fun w hw => xGW_warm hw (State.WarmedH.refl s) (hG w hw), ⟨va_AO.of o24, va_AO.of o25⟩, ?_, hZ, hF, fun i hi => ?_, hX, hbl, ?_⟩
  · intro k q hq
    have hlt := xcls_lt hq
    match k, hlt, hq with
    | 0, _, hq => cases hq; exact hKn0
    | 1, _, hq => cases hq; exact hKn1
    | 2, _, hq => cases hq; exact hKn2
    | 3, _, hq => cases hq; exact hKn3
    | 4, _, hq => cases hq; exact hKn4
    | 5, _, hq => cases hq; exact hKn5
    | 6, _, hq => cases hq; exact hKn6
    | 7, _, hq => cases hq; exact hKn7
    | 8, _, hq => cases hq; exact hKn8
    | 9, _, hq => cases hq; exact hKn9
    | 10, _, hq => cases hq; exact hKn10
    | 11, _, hq => cases hq; exact hKn11
    | (n + 12), hn, _ => exact absurd hn (by omega)
  · intro k q hq
    have hlt : k < 6 := (List.getElem?_eq_some_iff.mp hq).1
    match k, hlt, hq with
    | 0, _, hq => cases hq; exact ⟨fun n z => ⟨fun k h => (by cases h), k20, g20, p20, e20⟩, f20⟩
    | 1, _, hq => cases hq; exact ⟨fun n z => ⟨fun k h => (by cases h), k21, g21, p21, e21⟩, f21⟩
    | 2, _, hq => cases hq; exact ⟨fun n z => ⟨fun k h => (by cases h), k22, g22, p22, e22⟩, f22⟩
    | 3, _, hq => cases hq; exact ⟨fun n z => ⟨fun k h => (by cases h), k23, g23, p23, e23⟩, f23⟩
    | 4, _, hq => cases hq; exact ⟨fun n z => ⟨fun k h => (by cases h), k24, g24, p24, e24⟩, k24, p24, g24, e24, u24, f24⟩
    | 5, _, hq => cases hq; exact ⟨fun n z => ⟨fun k h => (by cases h), k25, g25, p25, e25⟩, k25, p25, g25, e25, u25, f25⟩
    | (n + 6), hn, _ => exact absurd hn (by omega)
  · have h1 := hts w (List.mem_filter.mp hw).1
    have hn := (List.mem_filter.mp hw).2
    cases w <;> first | exact va_Nw.of rfl h1 | cases hn
  · obtain ⟨q1, q2⟩ := hSS
    refine ⟨fun i hi => ?_, fun i j hi hj h => q2 i j hi hj ?_⟩
    · have h3 := q1 i hi
      have e1 : (if i < 10 then adK i else if i < 20 then adV (i - 10) else b) = adK i := if_pos (by omega)
      have e2 : (if 10 + i < 10 then adK (10 + i) else if 10 + i < 20 then adV (10 + i - 10) else b) = adV i := by rw [if_neg (by omega), if_pos (by omega), show 10 + i - 10 = i by omega]
      show va_O "java/lang/String" (if i < 10 then adK i else if i < 20 then adV (i - 10) else b) _ s s.heap ∧ va_OF "java/lang/String" "coder" "B" (.int 0) (if i < 10 then adK i else if i < 20 then adV (i - 10) else b) _ s s.heap ∧ va_OF "java/lang/String" "value" "[B" (.ref (if 10 + i < 10 then adK (10 + i) else if 10 + i < 20 then adV (10 + i - 10) else b)) (if i < 10 then adK i else if i < 20 then adV (i - 10) else b) _ s s.heap ∧ va_T .byte (if 10 + i < 10 then adK (10 + i) else if 10 + i < 20 then adV (10 + i - 10) else b) _ _ _ s s.heap
      rw [e1, e2]
      exact h3
    · have e1 : (if i < 10 then adK i else if i < 20 then adV (i - 10) else b) = adK i := if_pos (by omega)
      have e2 : (if j < 10 then adK j else if j < 20 then adV (j - 10) else b) = adK j := if_pos (by omega)
      rw [← e1, ← e2]
      exact h
  · have e1 : (if i < 10 then adK i else if i < 20 then adV (i - 10) else b) = adK i := if_pos (by omega)
    show vk_R _ _ _ (if i < 10 then adK i else if i < 20 then adV (i - 10) else b) s
    rw [e1]
    exact vk_R.of (hts _ (hsr i hi)) (hev i hi)
  · show L < 2 ^ 31
    omega
/-- the store at the law's start: nothing but the script -/
def w0 (L : Nat) (xs : Nat → Int32) : xSt := (fun q j => if q = 1020 then xs j else 0, fun _ _ => 0, fun _ _ => 0, fun _ => 0, fun q => if q = 1020 then L else 0, 0)
/-- THE CLAIM, IF THE LAW'S PURE FUNCTION ANSWERS ON EVERY SCRIPT -/
theorem law_of_pure {p : Program} {e : Env} {s : State} {m : MethodId} {below : List Frame} {meth : Method} {c : Code} (l : Launch) {b L : Nat} {xs : Nat → Int32} (hL : L ≤ 3586) (C0 : lw_At p s m meth c b L xs) (hp : ∃ (rE : Int32) (wE : xSt), f_L_law (w0 L xs) = some (rE, wE)) : W p l e room_1 s m #[Value.ref b] below meth c s.heap [] 0 0 (lw_Z below #[Value.ref b] s) (entryFrame m ([Value.ref b] : List Value).toArray 4) := by
  obtain ⟨hx, hb, hr, hml, hown, hts, hX, hbl, hlocks, hgv⟩ := id C0
  obtain ⟨rE, wE, hf⟩ := hp
  obtain ⟨γ, g1, g2, g3, g4, hst⟩ := law_stat hts hgv hX hbl hL
  have hl := lv_entry ([.ref b]) (n := 4) (Nat.le_of_ble_eq_true rfl)
  rw [lg_entry_eq]
  generalize (lg_sl ([.ref b]) ++ List.replicate (4 - (lg_sl ([.ref b])).length) Slot.unset).toArray = ls at hl ⊢
  have hl : lv_has ls 4 (([(0, xR 1020)] : List (Nat × xv)).map (fun q => (q.1, xC γ q.2))) := by
    show lv_has ls 4 [(0, xC γ (xR 1020))]
    rw [show xC γ (xR 1020) = .ref (gS γ 20) from xrefO γ (i := 20) (by omega), g4]
    exact hl
  have hH : xH γ (w0 L xs) s.heap := by
    refine ⟨fun k q h => ?_, by rw [g1]; rfl, by show 0 < 1000; omega, by rw [g2]; rfl, fun j => by rw [g3]; rfl⟩
    simp [xW, w0, wZ] at h
  have k := c_L_law (w0 L xs) rE wE hf p l e s m #[Value.ref b] below meth c γ s.heap [] 0 0 ls ⟨hx, hb, hml, hr, hlocks, hown, (fun h => by cases h), hst, fun w hw => hts w (List.mem_filter.mp hw).1⟩ hH va_S.rf (by rw [g1]; omega) (by decide) (by decide) hl
  intro T hT X
  obtain ⟨t, a1, b1⟩ := k T hT X
  exact ⟨t, a1, b1 ⟨⟨b, rfl⟩, g1⟩⟩
