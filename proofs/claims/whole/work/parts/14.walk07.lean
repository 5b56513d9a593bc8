set_option maxRecDepth 20000 in
theorem c_X8_begin (x0 : Nat) (x1 : Int32) (w : xSt) (rE : Unit) (wE : xSt) (h : f_X8_begin x0 x1 w = some (rE, wE)) : xCall yX8_begin cX8_begin 2 none 0 0 0 [xR x0, xI x1] w (none, wE) := by
  refine xCall_of false (by decide) (fun q => nomatch q) (Nat.le_of_ble_eq_true rfl) ?_
  show xX cX8_begin 2 none RX8 false (xRm 0 0 0) (xZf (none, wE) 0 0) 0 [(0, xR x0), (1, xI x1)] [] w 0 0
  unfold f_X8_begin at h
  refine x_aload_n (j := 0) (i := 0) dX8_begin_0 rfl rfl ?_
  refine x_iload_n (j := 1) (i := 1) dX8_begin_1 rfl rfl ?_
  obtain ⟨g1, h⟩ := gd_some h
  obtain ⟨w2, hw3, h⟩ := lt1_some h
  refine x_putI (ci := 8) (k := 3) dX8_begin_2 (lw_RX8_16_w _) rfl g1 ?_
  rw [← hw3]
  refine x_aload_n (j := 0) (i := 0) dX8_begin_5 rfl rfl ?_
  refine x_iconst (v := 0) dX8_begin_6 (by decide) ?_
  have g4 : isC w2 x0 8 := by rw [hw3]; exact g1
  obtain ⟨w5, hw6, h⟩ := lt1_some h
  refine x_putI (ci := 8) (k := 2) dX8_begin_7 (lw_RX8_20_w _) rfl g4 ?_
  rw [← hw6]
  obtain ⟨hr9, hw9⟩ := Prod.mk.inj (Option.some.inj h)
  subst hw9
  exact x_vret dX8_begin_10 rfl rfl
set_option maxRecDepth 20000 in
theorem k_X8_medalFor_l2 (rE : Int32) (wE : xSt) : ∀ (n : Nat) (x0 : Nat) (x1 : Int32) (x2 : Int32) (w : xSt), f_X8_medalFor_l2 n x0 x1 x2 w = some (rE, wE) → xX cX8_medalFor 3 (some .int) RX8 false (xRm 0 0 0) (xZf (some (xI rE), wE) 0 0) 2 [(0, xR x0), (1, xI x1), (2, xI x2)] [] w 0 0 := by
  intro n
  induction n with
  | zero => intro x0 x1 x2 w h; exact nomatch (show (none : Option (Int32 × xSt)) = some (rE, wE) from h)
  | succ n ih =>
    intro x0 x1 x2 w h
    rw [f_X8_medalFor_l2_s] at h
    refine x_iload_n (j := 2) (i := 2) dX8_medalFor_2 rfl rfl ?_
    refine x_aload_n (j := 0) (i := 0) dX8_medalFor_3 rfl rfl ?_
    obtain ⟨g1, h⟩ := gd_some h
    refine x_getI (ci := 8) (k := 2) dX8_medalFor_4 lf_RX8_20 rfl g1 ?_
    refine x_icmp_ge (tgt := 33) dX8_medalFor_7 (by decide) (fun hc2 => ?_) (fun hc2 => ?_)
    · rw [if_pos hc2] at h
      refine x_iconst (v := 0) dX8_medalFor_33 (by decide) ?_
      obtain ⟨hr9, hw9⟩ := Prod.mk.inj (Option.some.inj h)
      subst hw9
      subst hr9
      exact x_iret dX8_medalFor_34 rfl rfl
    · rw [if_neg hc2] at h
      refine x_iload_n (j := 1) (i := 1) dX8_medalFor_10 rfl rfl ?_
      refine x_aload_n (j := 0) (i := 0) dX8_medalFor_11 rfl rfl ?_
      refine x_getR (ci := 8) (k := 1) dX8_medalFor_12 lf_RX8_13 rfl g1 ?_
      refine x_iload_n (j := 2) (i := 2) dX8_medalFor_15 rfl rfl ?_
      obtain ⟨g3, h⟩ := gd_some h
      obtain ⟨g4, h⟩ := gd_some h
      refine x_iald dX8_medalFor_16 g3 g4 ?_
      refine x_icmp_lt (tgt := 27) dX8_medalFor_17 (by decide) (fun hc5 => ?_) (fun hc5 => ?_)
      · rw [if_pos hc5] at h
        refine x_iinc (j := 2) (i := 2) (v := x2 + (1 : Int32)) (lv2 := [(2, xI (x2 + (1 : Int32))), (0, xR x0), (1, xI x1)]) dX8_medalFor_27 rfl rfl (by decide) rfl ?_
        refine x_goto (tgt := 2) dX8_medalFor_30 (by decide) ?_
        refine x_lv (lv2 := [(0, xR x0), (1, xI x1), (2, xI (x2 + (1 : Int32)))]) [1, 2, 0] rfl ?_
        exact ih x0 x1 (x2 + (1 : Int32)) w h
      · rw [if_neg hc5] at h
        refine x_aload_n (j := 0) (i := 0) dX8_medalFor_20 rfl rfl ?_
        refine x_getR (ci := 8) (k := 0) dX8_medalFor_21 lf_RX8_9 rfl g1 ?_
        refine x_iload_n (j := 2) (i := 2) dX8_medalFor_24 rfl rfl ?_
        obtain ⟨g6, h⟩ := gd_some h
        obtain ⟨g7, h⟩ := gd_some h
        refine x_iald dX8_medalFor_25 g6 g7 ?_
        obtain ⟨hr9, hw9⟩ := Prod.mk.inj (Option.some.inj h)
        subst hw9
        subst hr9
        exact x_iret dX8_medalFor_26 rfl rfl
set_option maxRecDepth 20000 in
theorem c_X8_medalFor (x0 : Nat) (x1 : Int32) (w : xSt) (rE : Int32) (wE : xSt) (h : f_X8_medalFor x0 x1 w = some (rE, wE)) : xCall yX8_medalFor cX8_medalFor 3 (some .int) 0 0 0 [xR x0, xI x1] w (some (xI rE), wE) := by
  refine xCall_of false (by decide) (fun q => nomatch q) (Nat.le_of_ble_eq_true rfl) ?_
  show xX cX8_medalFor 3 (some .int) RX8 false (xRm 0 0 0) (xZf (some (xI rE), wE) 0 0) 0 [(0, xR x0), (1, xI x1)] [] w 0 0
  unfold f_X8_medalFor at h
  refine x_iconst (v := 0) dX8_medalFor_0 (by decide) ?_
  refine x_istore_n (i := 2) (lv2 := [(2, xI (0 : Int32)), (0, xR x0), (1, xI x1)]) dX8_medalFor_1 rfl (by decide) rfl ?_
  refine x_lv (lv2 := [(0, xR x0), (1, xI x1), (2, xI (0 : Int32))]) [1, 2, 0] rfl ?_
  exact k_X8_medalFor_l2 rE wE xFu x0 x1 (0 : Int32) w h
set_option maxRecDepth 20000 in
theorem c_J9_floorMod_7cf53 (x0 : Int32) (x1 : Int32) (w : xSt) (rE : Int32) (wE : xSt) (h : f_J9_floorMod_7cf53 x0 x1 w = some (rE, wE)) : xCall yJ9_floorMod_7cf53 cJ9_floorMod_7cf53 3 (some .int) 0 0 0 [xI x0, xI x1] w (some (xI rE), wE) := by
  refine xCall_ofF false (by decide +kernel) (fun q => nomatch q) (Nat.le_of_ble_eq_true rfl) ?_
  show xX cJ9_floorMod_7cf53 3 (some .int) RJ9 false (xRm 0 0 0) (xZf (some (xI rE), wE) 0 0) 0 [(0, xI x0), (1, xI x1)] [] w 0 0
  unfold f_J9_floorMod_7cf53 at h
  refine x_iload_n (j := 0) (i := 0) dJ9_floorMod_7cf53_0 rfl rfl ?_
  refine x_iload_n (j := 1) (i := 1) dJ9_floorMod_7cf53_1 rfl rfl ?_
  obtain ⟨g1, h⟩ := gd_some h
  refine x_irem dJ9_floorMod_7cf53_2 g1 ?_
  refine x_istore_n (i := 2) (lv2 := [(2, xI (x0 - x0 / x1 * x1)), (0, xI x0), (1, xI x1)]) dJ9_floorMod_7cf53_3 rfl (by decide) rfl ?_
  refine x_iload_n (j := 1) (i := 0) dJ9_floorMod_7cf53_4 rfl rfl ?_
  refine x_iload_n (j := 2) (i := 1) dJ9_floorMod_7cf53_5 rfl rfl ?_
  refine x_ixor dJ9_floorMod_7cf53_6 ?_
  refine x_if_ge (tgt := 18) dJ9_floorMod_7cf53_7 (by decide) (fun hc2 => ?_) (fun hc2 => ?_)
  · rw [if_pos hc2] at h
    refine x_iload_n (j := 0) (i := 2) dJ9_floorMod_7cf53_18 rfl rfl ?_
    obtain ⟨hr9, hw9⟩ := Prod.mk.inj (Option.some.inj h)
    subst hw9
    subst hr9
    exact x_iret dJ9_floorMod_7cf53_19 rfl rfl
  · rw [if_neg hc2] at h
    refine x_iload_n (j := 0) (i := 2) dJ9_floorMod_7cf53_10 rfl rfl ?_
    refine x_if_eq (tgt := 18) dJ9_floorMod_7cf53_11 (by decide) (fun hc3 => ?_) (fun hc3 => ?_)
    · rw [if_pos hc3] at h
      refine x_iload_n (j := 0) (i := 2) dJ9_floorMod_7cf53_18 rfl rfl ?_
      obtain ⟨hr9, hw9⟩ := Prod.mk.inj (Option.some.inj h)
      subst hw9
      subst hr9
      exact x_iret dJ9_floorMod_7cf53_19 rfl rfl
    · rw [if_neg hc3] at h
      refine x_iload_n (j := 0) (i := 2) dJ9_floorMod_7cf53_14 rfl rfl ?_
      refine x_iload_n (j := 2) (i := 1) dJ9_floorMod_7cf53_15 rfl rfl ?_
      refine x_iadd dJ9_floorMod_7cf53_16 ?_
      obtain ⟨hr9, hw9⟩ := Prod.mk.inj (Option.some.inj h)
      subst hw9
      subst hr9
      exact x_iret dJ9_floorMod_7cf53_17 rfl rfl
set_option maxRecDepth 20000 in
theorem k_X8_priceOf_l9 (rE : Int32) (wE : xSt) : ∀ (n : Nat) (x0 : Nat) (x2 : Int32) (x3 : Int32) (w : xSt), f_X8_priceOf_l9 n x0 x2 x3 w = some (rE, wE) → xX cX8_priceOf 4 (some .int) RX8 false (xRm 1 0 0) (xZf (some (xI rE), wE) 0 0) 9 [(0, xR x0), (2, xI x2), (3, xI x3)] [] w 0 0 := by
  intro n
  induction n with
  | zero => intro x0 x2 x3 w h; exact nomatch (show (none : Option (Int32 × xSt)) = some (rE, wE) from h)
  | succ n ih =>
    intro x0 x2 x3 w h
    rw [f_X8_priceOf_l9_s] at h
    refine x_iload_n (j := 2) (i := 3) dX8_priceOf_9 rfl rfl ?_
    refine x_aload_n (j := 0) (i := 0) dX8_priceOf_10 rfl rfl ?_
    obtain ⟨g4, h⟩ := gd_some h
    refine x_getI (ci := 8) (k := 2) dX8_priceOf_11 lf_RX8_20 rfl g4 ?_
    refine x_icmp_ge (tgt := 50) dX8_priceOf_14 (by decide) (fun hc5 => ?_) (fun hc5 => ?_)
    · rw [if_pos hc5] at h
      refine x_iconst (v := 0) dX8_priceOf_50 (by decide) ?_
      obtain ⟨hr9, hw9⟩ := Prod.mk.inj (Option.some.inj h)
      subst hw9
      subst hr9
      exact x_iret dX8_priceOf_51 rfl rfl
    · rw [if_neg hc5] at h
      refine x_aload_n (j := 0) (i := 0) dX8_priceOf_17 rfl rfl ?_
      refine x_getR (ci := 8) (k := 0) dX8_priceOf_18 lf_RX8_9 rfl g4 ?_
      refine x_iload_n (j := 2) (i := 3) dX8_priceOf_21 rfl rfl ?_
      obtain ⟨g6, h⟩ := gd_some h
      obtain ⟨g7, h⟩ := gd_some h
      refine x_iald dX8_priceOf_22 g6 g7 ?_
      refine x_iload_n (j := 1) (i := 2) dX8_priceOf_23 rfl rfl ?_
      refine x_icmp_eq (tgt := 37) dX8_priceOf_24 (by decide) (fun hc8 => ?_) (fun hc8 => ?_)
      · rw [if_pos hc8] at h
        refine x_aload_n (j := 0) (i := 0) dX8_priceOf_37 rfl rfl ?_
        refine x_getR (ci := 8) (k := 1) dX8_priceOf_38 lf_RX8_13 rfl g4 ?_
        refine x_iload_n (j := 2) (i := 3) dX8_priceOf_41 rfl rfl ?_
        obtain ⟨g9, h⟩ := gd_some h
        obtain ⟨g10, h⟩ := gd_some h
        refine x_iald dX8_priceOf_42 g9 g10 ?_
        obtain ⟨hr9, hw9⟩ := Prod.mk.inj (Option.some.inj h)
        subst hw9
        subst hr9
        exact x_iret dX8_priceOf_43 rfl rfl
      · rw [if_neg hc8] at h
        refine x_aload_n (j := 0) (i := 0) dX8_priceOf_27 rfl rfl ?_
        refine x_getR (ci := 8) (k := 0) dX8_priceOf_28 lf_RX8_9 rfl g4 ?_
        refine x_iload_n (j := 2) (i := 3) dX8_priceOf_31 rfl rfl ?_
        refine x_iald dX8_priceOf_32 g6 g7 ?_
        refine x_iconst (v := -1) dX8_priceOf_33 (by decide) ?_
        refine x_icmp_ne (tgt := 44) dX8_priceOf_34 (by decide) (fun hc11 => ?_) (fun hc11 => ?_)
        · rw [if_neg hc11] at h
          refine x_iinc (j := 2) (i := 3) (v := x3 + (1 : Int32)) (lv2 := [(3, xI (x3 + (1 : Int32))), (0, xR x0), (2, xI x2)]) dX8_priceOf_44 rfl rfl (by decide) rfl ?_
          refine x_goto (tgt := 9) dX8_priceOf_47 (by decide) ?_
          refine x_lv (lv2 := [(0, xR x0), (2, xI x2), (3, xI (x3 + (1 : Int32)))]) [1, 2, 0] rfl ?_
          exact ih x0 x2 (x3 + (1 : Int32)) w h
        · rw [if_pos hc11] at h
          refine x_aload_n (j := 0) (i := 0) dX8_priceOf_37 rfl rfl ?_
          refine x_getR (ci := 8) (k := 1) dX8_priceOf_38 lf_RX8_13 rfl g4 ?_
          refine x_iload_n (j := 2) (i := 3) dX8_priceOf_41 rfl rfl ?_
          obtain ⟨g12, h⟩ := gd_some h
          obtain ⟨g13, h⟩ := gd_some h
          refine x_iald dX8_priceOf_42 g12 g13 ?_
          obtain ⟨hr9, hw9⟩ := Prod.mk.inj (Option.some.inj h)
          subst hw9
          subst hr9
          exact x_iret dX8_priceOf_43 rfl rfl
set_option maxRecDepth 20000 in
theorem c_X8_priceOf (x0 : Nat) (x1 : Int32) (w : xSt) (rE : Int32) (wE : xSt) (h : f_X8_priceOf x0 x1 w = some (rE, wE)) : xCall yX8_priceOf cX8_priceOf 4 (some .int) 1 0 0 [xR x0, xI x1] w (some (xI rE), wE) := by
  refine xCall_of false (by decide) (fun q => nomatch q) (Nat.le_of_ble_eq_true rfl) ?_
  show xX cX8_priceOf 4 (some .int) RX8 false (xRm 1 0 0) (xZf (some (xI rE), wE) 0 0) 0 [(0, xR x0), (1, xI x1)] [] w 0 0
  unfold f_X8_priceOf at h
  refine x_iload_n (j := 1) (i := 1) dX8_priceOf_0 rfl rfl ?_
  refine x_bipush (v := 7) dX8_priceOf_1 (by decide) ?_
  obtain ⟨v1, w2, hc3, h⟩ := bd_s h
  refine x_callSI dX8_priceOf_3 ml_RX8_23 mb_J9_floorMod_7cf53 (c_J9_floorMod_7cf53 x1 (7 : Int32) w v1 w2 hc3) [] rfl rfl (Nat.le_of_ble_eq_true rfl) (by decide) (by decide) ?_
  refine x_istore_n (i := 2) (lv2 := [(2, xI v1), (0, xR x0), (1, xI x1)]) dX8_priceOf_6 rfl (by decide) rfl ?_
  refine x_iconst (v := 0) dX8_priceOf_7 (by decide) ?_
  refine x_istore_n (i := 3) (lv2 := [(3, xI (0 : Int32)), (2, xI v1), (0, xR x0), (1, xI x1)]) dX8_priceOf_8 rfl (by decide) rfl ?_
  refine x_lv (lv2 := [(0, xR x0), (2, xI v1), (3, xI (0 : Int32))]) [2, 1, 0] rfl ?_
  exact k_X8_priceOf_l9 rE wE xFu x0 v1 (0 : Int32) w2 h
set_option maxRecDepth 20000 in
theorem k_X9_init_l15 (rE : Unit) (wE : xSt) : ∀ (n : Nat) (x0 : Nat) (x1 : Int32) (bc bs : Nat) (w : xSt), f_X9_init_l15 n x0 x1 bc bs w = some (rE, wE) → xX cX9_init 2 none RX9 true (xRm 2 19 90) (xZf (none, wE) 19 90) 15 [(0, xR x0), (1, xI x1)] [] w bc bs := by
  intro n
  induction n with
  | zero => intro x0 x1 bc bs w h; exact nomatch (show (none : Option (Unit × xSt)) = some (rE, wE) from h)
  | succ n ih =>
    intro x0 x1 bc bs w h
    rw [f_X9_init_l15_s] at h
    refine x_iload_n (j := 1) (i := 1) dX9_init_15 rfl rfl ?_
    refine x_bipush (v := 6) dX9_init_16 (by decide) ?_
    refine x_icmp_ge (tgt := 40) dX9_init_18 (by decide) (fun hc13 => ?_) (fun hc13 => ?_)
    · rw [if_pos hc13] at h
      obtain ⟨hr9, hw9⟩ := Prod.mk.inj (Option.some.inj h)
      subst hw9
      exact x_vret dX9_init_40 rfl rfl
    · rw [if_neg hc13] at h
      refine x_aload_n (j := 0) (i := 0) dX9_init_21 rfl rfl ?_
      obtain ⟨g14, h⟩ := gd_some h
      refine x_getR (ci := 9) (k := 0) dX9_init_22 lf_RX9_11 rfl g14 ?_
      refine x_iload_n (j := 1) (i := 1) dX9_init_25 rfl rfl ?_
      obtain ⟨g15, h⟩ := gd_some h
      obtain ⟨g16, h⟩ := gd_some h
      obtain ⟨g17, h⟩ := gd_some h
      obtain ⟨q18, hq19, h⟩ := lt1_some h
      obtain ⟨w20, hw21, h⟩ := lt1_some h
      refine x_new (ci := 8) dX9_init_26 rfl lk_RX9_9 li_RX8 lz_RX8 g15 g16 g17 ?_
      rw [← hq19, ← hw21]
      have g22 : isC w20 q18 8 := by rw [hw21, hq19]; exact isC_new _ _ _
      refine x_dup dX9_init_29 rfl ?_
      obtain ⟨g25, h⟩ := gd_some h
      obtain ⟨g26, h⟩ := gd_some h
      obtain ⟨_u, w23, hc24, h⟩ := bd_s h
      refine x_callIVa (ci := 8) dX9_init_30 ml_RX9_15 mb_X8_init (c_X8_init q18 w20 _u w23 hc24) g22 [xR q18, xI x1, xR (wR w x0 0)] rfl rfl (Nat.le_of_ble_eq_true rfl) (by decide) (by decide) g25 g26 ?_
      obtain ⟨g27, h⟩ := gd_some h
      obtain ⟨g28, h⟩ := gd_some h
      obtain ⟨g29, h⟩ := gd_some h
      obtain ⟨w30, hw31, h⟩ := lt1_some h
      refine x_qast25 dX9_init_33 g27 g29 g28 ?_
      rw [← hw31]
      refine x_iinc (j := 1) (i := 1) (v := x1 + (1 : Int32)) (lv2 := [(1, xI (x1 + (1 : Int32))), (0, xR x0)]) dX9_init_34 rfl rfl (by decide) rfl ?_
      refine x_goto (tgt := 15) dX9_init_37 (by decide) ?_
      refine x_lv (lv2 := [(0, xR x0), (1, xI (x1 + (1 : Int32)))]) [1, 0] rfl ?_
      exact ih x0 (x1 + (1 : Int32)) ((bc - 1) - 2) ((bs - 4) - 10) w30 h
set_option maxRecDepth 20000 in
theorem c_X9_init (x0 : Nat) (w : xSt) (rE : Unit) (wE : xSt) (h : f_X9_init x0 w = some (rE, wE)) : xCall yX9_init cX9_init 2 none 2 19 90 [xR x0] w (none, wE) := by
  refine xCall_of true (by decide) (fun _ => rfl) (Nat.le_of_ble_eq_true rfl) ?_
  show xX cX9_init 2 none RX9 true (xRm 2 19 90) (xZf (none, wE) 19 90) 0 [(0, xR x0)] [] w 19 90
  unfold f_X9_init at h
  refine x_aload_n (j := 0) (i := 0) dX9_init_0 rfl rfl ?_
  obtain ⟨g1, h⟩ := gd_some h
  refine x_objInit dX9_init_1 lo_RX9_1 lo_inst lo_code g1 (Nat.le_of_ble_eq_true rfl) (by decide) (by decide) ?_
  refine x_aload_n (j := 0) (i := 0) dX9_init_4 rfl rfl ?_
  refine x_bipush (v := 6) dX9_init_5 (by decide) ?_
  obtain ⟨g2, h⟩ := gd_some h
  obtain ⟨g3, h⟩ := gd_some h
  obtain ⟨g4, h⟩ := gd_some h
  obtain ⟨q5, hq6, h⟩ := lt1_some h
  obtain ⟨w7, hw8, h⟩ := lt1_some h
  refine x_anew25 6 dX9_init_7 lk_RX9_9 (by decide) (by decide) g2 g3 g4 ?_
  rw [← hq6, ← hw8]
  have g9 : isC w7 q5 25 := by rw [hw8, hq6]; exact isC_new _ _ _
  have g10 : isC w7 x0 9 := by rw [hw8]; exact isC_nA _ _ g1
  obtain ⟨w11, hw12, h⟩ := lt1_some h
  refine x_putR (ci := 9) (k := 0) dX9_init_10 lw_RX9_11_w rfl g10 ?_
  rw [← hw12]
  refine x_iconst (v := 0) dX9_init_13 (by decide) ?_
  refine x_istore_n (i := 1) (lv2 := [(1, xI (0 : Int32)), (0, xR x0)]) dX9_init_14 rfl (by decide) rfl ?_
  refine x_lv (lv2 := [(0, xR x0), (1, xI (0 : Int32))]) [1, 0] rfl ?_
  exact k_X9_init_l15 rE wE xFu x0 (0 : Int32) (19 - 1) (90 - 6) w11 h
set_option maxRecDepth 20000 in
theorem c_X9_next (x0 : Nat) (w : xSt) (rE : Nat) (wE : xSt) (h : f_X9_next x0 w = some (rE, wE)) : xCall yX9_next cX9_next 1 (some (.object "WorldHall$Text")) 0 0 0 [xR x0] w (some (xR rE), wE) := by
  refine xCall_of false (by decide) (fun q => nomatch q) (Nat.le_of_ble_eq_true rfl) ?_
  show xX cX9_next 1 (some (.object "WorldHall$Text")) RX9 false (xRm 0 0 0) (xZf (some (xR rE), wE) 0 0) 0 [(0, xR x0)] [] w 0 0
  unfold f_X9_next at h
  refine x_aload_n (j := 0) (i := 0) dX9_next_0 rfl rfl ?_
  obtain ⟨g1, h⟩ := gd_some h
  refine x_getI (ci := 9) (k := 1) dX9_next_1 lf_RX9_16 rfl g1 ?_
  refine x_bipush (v := 6) dX9_next_4 (by decide) ?_
  refine x_icmp_ge (tgt := 21) dX9_next_6 (by decide) (fun hc2 => ?_) (fun hc2 => ?_)
  · rw [if_pos hc2] at h
    refine x_null dX9_next_21 ?_
    obtain ⟨hr9, hw9⟩ := Prod.mk.inj (Option.some.inj h)
    subst hw9
    subst hr9
    exact x_aret dX9_next_22 rfl (Or.inl ⟨_, rfl⟩) rfl
  · rw [if_neg hc2] at h
    refine x_aload_n (j := 0) (i := 0) dX9_next_9 rfl rfl ?_
    refine x_getR (ci := 9) (k := 0) dX9_next_10 lf_RX9_11 rfl g1 ?_
    refine x_aload_n (j := 0) (i := 0) dX9_next_13 rfl rfl ?_
    refine x_getI (ci := 9) (k := 1) dX9_next_14 lf_RX9_16 rfl g1 ?_
    obtain ⟨g3, h⟩ := gd_some h
    obtain ⟨g4, h⟩ := gd_some h
    refine x_qald25 dX9_next_17 g3 g4 ?_
    refine x_goto (tgt := 22) dX9_next_18 (by decide) ?_
    obtain ⟨hr9, hw9⟩ := Prod.mk.inj (Option.some.inj h)
    subst hw9
    subst hr9
    exact x_aret dX9_next_22 rfl (Or.inl ⟨_, rfl⟩) rfl
set_option maxRecDepth 20000 in
theorem c_X9_keepNext (x0 : Nat) (w : xSt) (rE : Int32) (wE : xSt) (h : f_X9_keepNext x0 w = some (rE, wE)) : xCall yX9_keepNext cX9_keepNext 1 (some .int) 0 0 0 [xR x0] w (some (xI rE), wE) := by
  refine xCall_of false (by decide) (fun q => nomatch q) (Nat.le_of_ble_eq_true rfl) ?_
  show xX cX9_keepNext 1 (some .int) RX9 false (xRm 0 0 0) (xZf (some (xI rE), wE) 0 0) 0 [(0, xR x0)] [] w 0 0
  unfold f_X9_keepNext at h
  refine x_aload_n (j := 0) (i := 0) dX9_keepNext_0 rfl rfl ?_
  refine x_dup dX9_keepNext_1 rfl ?_
  obtain ⟨g1, h⟩ := gd_some h
  refine x_getI (ci := 9) (k := 1) dX9_keepNext_2 lf_RX9_16 rfl g1 ?_
  refine x_iconst (v := 1) dX9_keepNext_5 (by decide) ?_
  refine x_iadd dX9_keepNext_6 ?_
  obtain ⟨w2, hw3, h⟩ := lt1_some h
  refine x_putI (ci := 9) (k := 1) dX9_keepNext_7 (lw_RX9_16_w _) rfl g1 ?_
  rw [← hw3]
  refine x_aload_n (j := 0) (i := 0) dX9_keepNext_10 rfl rfl ?_
  have g4 : isC w2 x0 9 := by rw [hw3]; exact g1
  refine x_getI (ci := 9) (k := 1) dX9_keepNext_11 lf_RX9_16 rfl g4 ?_
  obtain ⟨hr9, hw9⟩ := Prod.mk.inj (Option.some.inj h)
  subst hw9
  subst hr9
  exact x_iret dX9_keepNext_14 rfl rfl
set_option maxRecDepth 20000 in
theorem k_X9_inForce_l4 (rE : Nat) (wE : xSt) : ∀ (n : Nat) (x0 : Nat) (x1 : Int32) (x2 : Nat) (x3 : Int32) (w : xSt), f_X9_inForce_l4 n x0 x1 x2 x3 w = some (rE, wE) → xX cX9_inForce 4 (some (.object "WorldHall$Text")) RX9 false (xRm 0 0 0) (xZf (some (xR rE), wE) 0 0) 4 [(0, xR x0), (1, xI x1), (2, xR x2), (3, xI x3)] [] w 0 0 := by
  intro n
  induction n with
  | zero => intro x0 x1 x2 x3 w h; exact nomatch (show (none : Option (Nat × xSt)) = some (rE, wE) from h)
  | succ n ih =>
    intro x0 x1 x2 x3 w h
    rw [f_X9_inForce_l4_s] at h
    refine x_iload_n (j := 3) (i := 3) dX9_inForce_4 rfl rfl ?_
    refine x_aload_n (j := 0) (i := 0) dX9_inForce_5 rfl rfl ?_
    obtain ⟨g1, h⟩ := gd_some h
    refine x_getI (ci := 9) (k := 1) dX9_inForce_6 lf_RX9_16 rfl g1 ?_
    refine x_icmp_ge (tgt := 58) dX9_inForce_9 (by decide) (fun hc2 => ?_) (fun hc2 => ?_)
    · rw [if_pos hc2] at h
      refine x_aload_n (j := 2) (i := 2) dX9_inForce_58 rfl rfl ?_
      obtain ⟨hr9, hw9⟩ := Prod.mk.inj (Option.some.inj h)
      subst hw9
      subst hr9
      exact x_aret dX9_inForce_59 rfl (Or.inl ⟨_, rfl⟩) rfl
    · rw [if_neg hc2] at h
      refine x_aload_n (j := 0) (i := 0) dX9_inForce_12 rfl rfl ?_
      refine x_getR (ci := 9) (k := 0) dX9_inForce_13 lf_RX9_11 rfl g1 ?_
      refine x_iload_n (j := 3) (i := 3) dX9_inForce_16 rfl rfl ?_
      obtain ⟨g3, h⟩ := gd_some h
      obtain ⟨g4, h⟩ := gd_some h
      refine x_qald25 dX9_inForce_17 g3 g4 ?_
      obtain ⟨g5, h⟩ := gd_some h
      refine x_getI (ci := 8) (k := 3) dX9_inForce_18 lf_RX9_20 rfl g5 ?_
      refine x_iload_n (j := 1) (i := 1) dX9_inForce_21 rfl rfl ?_
      refine x_icmp_gt (tgt := 52) dX9_inForce_22 (by decide) (fun hc6 => ?_) (fun hc6 => ?_)
      · rw [if_pos hc6] at h
        refine x_iinc (j := 3) (i := 3) (v := x3 + (1 : Int32)) (lv2 := [(3, xI (x3 + (1 : Int32))), (0, xR x0), (1, xI x1), (2, xR x2)]) dX9_inForce_52 rfl rfl (by decide) rfl ?_
        refine x_goto (tgt := 4) dX9_inForce_55 (by decide) ?_
        refine x_lv (lv2 := [(0, xR x0), (1, xI x1), (2, xR x2), (3, xI (x3 + (1 : Int32)))]) [1, 2, 3, 0] rfl ?_
        exact ih x0 x1 x2 (x3 + (1 : Int32)) w h
      · rw [if_neg hc6] at h
        refine x_aload_n (j := 2) (i := 2) dX9_inForce_25 rfl rfl ?_
        obtain ⟨g7, h⟩ := gd_some h
        refine x_ifnull (tgt := 45) dX9_inForce_26 (by decide) g7 (fun hc8 => ?_) (fun hc8 => ?_)
        · rw [if_pos hc8] at h
          refine x_aload_n (j := 0) (i := 0) dX9_inForce_45 rfl rfl ?_
          refine x_getR (ci := 9) (k := 0) dX9_inForce_46 lf_RX9_11 rfl g1 ?_
          refine x_iload_n (j := 3) (i := 3) dX9_inForce_49 rfl rfl ?_
          refine x_qald25 dX9_inForce_50 g3 g4 ?_
          refine x_astore_n (i := 2) (lv2 := [(2, xR (wR w (wR w x0 0) x3.toNatClampNeg)), (0, xR x0), (1, xI x1), (3, xI x3)]) dX9_inForce_51 rfl (by decide) rfl ?_
          refine x_iinc (j := 3) (i := 3) (v := x3 + (1 : Int32)) (lv2 := [(3, xI (x3 + (1 : Int32))), (2, xR (wR w (wR w x0 0) x3.toNatClampNeg)), (0, xR x0), (1, xI x1)]) dX9_inForce_52 rfl rfl (by decide) rfl ?_
          refine x_goto (tgt := 4) dX9_inForce_55 (by decide) ?_
          refine x_lv (lv2 := [(0, xR x0), (1, xI x1), (2, xR (wR w (wR w x0 0) x3.toNatClampNeg)), (3, xI (x3 + (1 : Int32)))]) [2, 3, 1, 0] rfl ?_
          exact ih x0 x1 (wR w (wR w x0 0) x3.toNatClampNeg) (x3 + (1 : Int32)) w h
        · rw [if_neg hc8] at h
          refine x_aload_n (j := 0) (i := 0) dX9_inForce_29 rfl rfl ?_
          refine x_getR (ci := 9) (k := 0) dX9_inForce_30 lf_RX9_11 rfl g1 ?_
          refine x_iload_n (j := 3) (i := 3) dX9_inForce_33 rfl rfl ?_
          refine x_qald25 dX9_inForce_34 g3 g4 ?_
          refine x_getI (ci := 8) (k := 3) dX9_inForce_35 lf_RX9_20 rfl g5 ?_
          refine x_aload_n (j := 2) (i := 2) dX9_inForce_38 rfl rfl ?_
          obtain ⟨g9, h⟩ := gd_some h
          refine x_getI (ci := 8) (k := 3) dX9_inForce_39 lf_RX9_20 rfl g9 ?_
          refine x_icmp_lt (tgt := 52) dX9_inForce_42 (by decide) (fun hc10 => ?_) (fun hc10 => ?_)
          · rw [if_pos hc10] at h
            refine x_iinc (j := 3) (i := 3) (v := x3 + (1 : Int32)) (lv2 := [(3, xI (x3 + (1 : Int32))), (0, xR x0), (1, xI x1), (2, xR x2)]) dX9_inForce_52 rfl rfl (by decide) rfl ?_
            refine x_goto (tgt := 4) dX9_inForce_55 (by decide) ?_
            refine x_lv (lv2 := [(0, xR x0), (1, xI x1), (2, xR x2), (3, xI (x3 + (1 : Int32)))]) [1, 2, 3, 0] rfl ?_
            exact ih x0 x1 x2 (x3 + (1 : Int32)) w h
          · rw [if_neg hc10] at h
            refine x_aload_n (j := 0) (i := 0) dX9_inForce_45 rfl rfl ?_
            refine x_getR (ci := 9) (k := 0) dX9_inForce_46 lf_RX9_11 rfl g1 ?_
            refine x_iload_n (j := 3) (i := 3) dX9_inForce_49 rfl rfl ?_
            refine x_qald25 dX9_inForce_50 g3 g4 ?_
            refine x_astore_n (i := 2) (lv2 := [(2, xR (wR w (wR w x0 0) x3.toNatClampNeg)), (0, xR x0), (1, xI x1), (3, xI x3)]) dX9_inForce_51 rfl (by decide) rfl ?_
            refine x_iinc (j := 3) (i := 3) (v := x3 + (1 : Int32)) (lv2 := [(3, xI (x3 + (1 : Int32))), (2, xR (wR w (wR w x0 0) x3.toNatClampNeg)), (0, xR x0), (1, xI x1)]) dX9_inForce_52 rfl rfl (by decide) rfl ?_
            refine x_goto (tgt := 4) dX9_inForce_55 (by decide) ?_
            refine x_lv (lv2 := [(0, xR x0), (1, xI x1), (2, xR (wR w (wR w x0 0) x3.toNatClampNeg)), (3, xI (x3 + (1 : Int32)))]) [2, 3, 1, 0] rfl ?_
            exact ih x0 x1 (wR w (wR w x0 0) x3.toNatClampNeg) (x3 + (1 : Int32)) w h
set_option maxRecDepth 20000 in
theorem c_X9_inForce (x0 : Nat) (x1 : Int32) (w : xSt) (rE : Nat) (wE : xSt) (h : f_X9_inForce x0 x1 w = some (rE, wE)) : xCall yX9_inForce cX9_inForce 4 (some (.object "WorldHall$Text")) 0 0 0 [xR x0, xI x1] w (some (xR rE), wE) := by
  refine xCall_of false (by decide) (fun q => nomatch q) (Nat.le_of_ble_eq_true rfl) ?_
  show xX cX9_inForce 4 (some (.object "WorldHall$Text")) RX9 false (xRm 0 0 0) (xZf (some (xR rE), wE) 0 0) 0 [(0, xR x0), (1, xI x1)] [] w 0 0
  unfold f_X9_inForce at h
  refine x_null dX9_inForce_0 ?_
  refine x_astore_n (i := 2) (lv2 := [(2, xR 0), (0, xR x0), (1, xI x1)]) dX9_inForce_1 rfl (by decide) rfl ?_
  refine x_iconst (v := 0) dX9_inForce_2 (by decide) ?_
  refine x_istore_n (i := 3) (lv2 := [(3, xI (0 : Int32)), (2, xR 0), (0, xR x0), (1, xI x1)]) dX9_inForce_3 rfl (by decide) rfl ?_
  refine x_lv (lv2 := [(0, xR x0), (1, xI x1), (2, xR 0), (3, xI (0 : Int32))]) [2, 3, 1, 0] rfl ?_
  exact k_X9_inForce_l4 rE wE xFu x0 x1 0 (0 : Int32) w h
set_option maxRecDepth 20000 in
theorem c_X10_init (x0 : Nat) (x1 : Int32) (x2 : Int32) (w : xSt) (rE : Unit) (wE : xSt) (h : f_X10_init x0 x1 x2 w = some (rE, wE)) : xCall yX10_init cX10_init 3 none 3 55 653 [xR x0, xI x1, xI x2] w (none, wE) := by
  refine xCall_of true (by decide) (fun _ => rfl) (Nat.le_of_ble_eq_true rfl) ?_
  show xX cX10_init 3 none RX10 true (xRm 3 55 653) (xZf (none, wE) 55 653) 0 [(0, xR x0), (1, xI x1), (2, xI x2)] [] w 55 653
  unfold f_X10_init at h
  refine x_aload_n (j := 0) (i := 0) dX10_init_0 rfl rfl ?_
  obtain ⟨g1, h⟩ := gd_some h
  refine x_objInit dX10_init_1 lo_RX10_1 lo_inst lo_code g1 (Nat.le_of_ble_eq_true rfl) (by decide) (by decide) ?_
  refine x_aload_n (j := 0) (i := 0) dX10_init_4 rfl rfl ?_
  obtain ⟨g2, h⟩ := gd_some h
  obtain ⟨q3, hq4, h⟩ := lt1_some h
  obtain ⟨w5, hw6, h⟩ := lt1_some h
  refine x_new (ci := 0) dX10_init_5 rfl lk_RX10_7 li_RX0 lz_RX0 g2 (by decide) (by decide) ?_
  rw [← hq4, ← hw6]
  have g7 : isC w5 q3 0 := by rw [hw6, hq4]; exact isC_new _ _ _
  refine x_dup dX10_init_8 rfl ?_
  refine x_iconst (v := 3) dX10_init_9 (by decide) ?_
  refine x_iload_n (j := 1) (i := 1) dX10_init_10 rfl rfl ?_
  refine x_bipush (v := 6) dX10_init_11 (by decide) ?_
  obtain ⟨v8, w9, hc10, h⟩ := bd_s h
  refine x_callSI dX10_init_13 ml_RX10_9 mb_J9_floorMod_7cf53 (c_J9_floorMod_7cf53 x1 (6 : Int32) w5 v8 w9 hc10) [xI (3 : Int32), xR q3, xR q3, xR x0] rfl rfl (Nat.le_of_ble_eq_true rfl) (by decide) (by decide) ?_
  refine x_iadd dX10_init_16 ?_
  refine x_iconst (v := 3) dX10_init_17 (by decide) ?_
  refine x_iload_n (j := 2) (i := 2) dX10_init_18 rfl rfl ?_
  refine x_bipush (v := 6) dX10_init_19 (by decide) ?_
  obtain ⟨v11, w12, hc13, h⟩ := bd_s h
  refine x_callSI dX10_init_21 ml_RX10_9 mb_J9_floorMod_7cf53 (c_J9_floorMod_7cf53 x2 (6 : Int32) w9 v11 w12 hc13) [xI (3 : Int32), xI ((3 : Int32) + v8), xR q3, xR q3, xR x0] rfl rfl (Nat.le_of_ble_eq_true rfl) (by decide) (by decide) ?_
  refine x_iadd dX10_init_24 ?_
  obtain ⟨g16, h⟩ := gd_some h
  obtain ⟨_u, w14, hc15, h⟩ := bd_s h
  refine x_callIVa (ci := 0) dX10_init_25 ml_RX10_15 mb_X0_init (c_X0_init q3 ((3 : Int32) + v8) ((3 : Int32) + v11) w12 _u w14 hc15) g16 [xR q3, xR x0] rfl rfl (Nat.le_of_ble_eq_true rfl) (by decide) (by decide) (by decide) (by decide) ?_
  obtain ⟨g17, h⟩ := gd_some h
  obtain ⟨w18, hw19, h⟩ := lt1_some h
  refine x_putR (ci := 10) (k := 0) dX10_init_28 lw_RX10_18_w rfl g17 ?_
  rw [← hw19]
  refine x_aload_n (j := 0) (i := 0) dX10_init_31 rfl rfl ?_
  obtain ⟨g20, h⟩ := gd_some h
  obtain ⟨q21, hq22, h⟩ := lt1_some h
  obtain ⟨w23, hw24, h⟩ := lt1_some h
  refine x_new (ci := 5) dX10_init_32 rfl lk_RX10_24 li_RX5 lz_RX5 g20 (by decide) (by decide) ?_
  rw [← hq22, ← hw24]
  have g25 : isC w23 q21 5 := by rw [hw24, hq22]; exact isC_new _ _ _
  refine x_dup dX10_init_35 rfl ?_
  refine x_aload_n (j := 0) (i := 0) dX10_init_36 rfl rfl ?_
  have g26 : isC w18 x0 10 := by rw [hw19]; exact g17
  have g27 : isC w23 x0 10 := by rw [hw24]; exact isC_nA _ _ g26
  refine x_getR (ci := 10) (k := 0) dX10_init_37 lf_RX10_18 rfl g27 ?_
  obtain ⟨_u, w28, hc29, h⟩ := bd_s h
  refine x_callIVa (ci := 5) dX10_init_40 ml_RX10_26 mb_X5_init (c_X5_init q21 (wR w23 x0 0) w23 _u w28 hc29) g25 [xR q21, xR x0] rfl rfl (Nat.le_of_ble_eq_true rfl) (by decide) (by decide) (by decide) (by decide) ?_
  obtain ⟨g30, h⟩ := gd_some h
  obtain ⟨w31, hw32, h⟩ := lt1_some h
  refine x_putR (ci := 10) (k := 1) dX10_init_43 lw_RX10_29_w rfl g30 ?_
  rw [← hw32]
  refine x_aload_n (j := 0) (i := 0) dX10_init_46 rfl rfl ?_
  obtain ⟨g33, h⟩ := gd_some h
  obtain ⟨q34, hq35, h⟩ := lt1_some h
  obtain ⟨w36, hw37, h⟩ := lt1_some h
  refine x_new (ci := 2) dX10_init_47 rfl lk_RX10_33 li_RX2 lz_RX2 g33 (by decide) (by decide) ?_
  rw [← hq35, ← hw37]
  have g38 : isC w36 q34 2 := by rw [hw37, hq35]; exact isC_new _ _ _
  refine x_dup dX10_init_50 rfl ?_
  refine x_aload_n (j := 0) (i := 0) dX10_init_51 rfl rfl ?_
  have g39 : isC w31 x0 10 := by rw [hw32]; exact g30
  have g40 : isC w36 x0 10 := by rw [hw37]; exact isC_nA _ _ g39
  refine x_getR (ci := 10) (k := 0) dX10_init_52 lf_RX10_18 rfl g40 ?_
  refine x_aload_n (j := 0) (i := 0) dX10_init_55 rfl rfl ?_
  refine x_getR (ci := 10) (k := 1) dX10_init_56 lf_RX10_29 rfl g40 ?_
  obtain ⟨_u, w41, hc42, h⟩ := bd_s h
  refine x_callIV (ci := 2) dX10_init_59 ml_RX10_35 mb_X2_init (c_X2_init q34 (wR w36 x0 0) (wR w36 x0 1) w36 _u w41 hc42) g38 [xR q34, xR x0] rfl rfl (Nat.le_of_ble_eq_true rfl) (by decide) (by decide) ?_
  obtain ⟨g43, h⟩ := gd_some h
  obtain ⟨w44, hw45, h⟩ := lt1_some h
  refine x_putR (ci := 10) (k := 2) dX10_init_62 lw_RX10_38_w rfl g43 ?_
  rw [← hw45]
  refine x_aload_n (j := 0) (i := 0) dX10_init_65 rfl rfl ?_
  obtain ⟨g46, h⟩ := gd_some h
  obtain ⟨q47, hq48, h⟩ := lt1_some h
  obtain ⟨w49, hw50, h⟩ := lt1_some h
  refine x_new (ci := 7) dX10_init_66 rfl lk_RX10_42 li_RX7 lz_RX7 g46 (by decide) (by decide) ?_
  rw [← hq48, ← hw50]
  have g51 : isC w49 q47 7 := by rw [hw50, hq48]; exact isC_new _ _ _
  refine x_dup dX10_init_69 rfl ?_
  obtain ⟨_u, w52, hc53, h⟩ := bd_s h
  refine x_callIVa (ci := 7) dX10_init_70 ml_RX10_44 mb_X7_init (c_X7_init q47 w49 _u w52 hc53) g51 [xR q47, xR x0] rfl rfl (Nat.le_of_ble_eq_true rfl) (by decide) (by decide) (by decide) (by decide) ?_
  obtain ⟨g54, h⟩ := gd_some h
  obtain ⟨w55, hw56, h⟩ := lt1_some h
  refine x_putR (ci := 10) (k := 3) dX10_init_73 lw_RX10_45_w rfl g54 ?_
  rw [← hw56]
  refine x_aload_n (j := 0) (i := 0) dX10_init_76 rfl rfl ?_
  obtain ⟨g57, h⟩ := gd_some h
  obtain ⟨q58, hq59, h⟩ := lt1_some h
  obtain ⟨w60, hw61, h⟩ := lt1_some h
  refine x_new (ci := 9) dX10_init_77 rfl lk_RX10_49 li_RX9 lz_RX9 g57 (by decide) (by decide) ?_
  rw [← hq59, ← hw61]
  have g62 : isC w60 q58 9 := by rw [hw61, hq59]; exact isC_new _ _ _
  refine x_dup dX10_init_80 rfl ?_
  obtain ⟨_u, w63, hc64, h⟩ := bd_s h
  refine x_callIVa (ci := 9) dX10_init_81 ml_RX10_51 mb_X9_init (c_X9_init q58 w60 _u w63 hc64) g62 [xR q58, xR x0] rfl rfl (Nat.le_of_ble_eq_true rfl) (by decide) (by decide) (by decide) (by decide) ?_
  obtain ⟨g65, h⟩ := gd_some h
  obtain ⟨w66, hw67, h⟩ := lt1_some h
  refine x_putR (ci := 10) (k := 4) dX10_init_84 lw_RX10_52_w rfl g65 ?_
  rw [← hw67]
  refine x_aload_n (j := 0) (i := 0) dX10_init_87 rfl rfl ?_
  obtain ⟨g68, h⟩ := gd_some h
  obtain ⟨q69, hq70, h⟩ := lt1_some h
  obtain ⟨w71, hw72, h⟩ := lt1_some h
  refine x_new (ci := 9) dX10_init_88 rfl lk_RX10_49 li_RX9 lz_RX9 g68 (by decide) (by decide) ?_
  rw [← hq70, ← hw72]
  have g73 : isC w71 q69 9 := by rw [hw72, hq70]; exact isC_new _ _ _
  refine x_dup dX10_init_91 rfl ?_
  obtain ⟨_u, w74, hc75, h⟩ := bd_s h
  refine x_callIVa (ci := 9) dX10_init_92 ml_RX10_51 mb_X9_init (c_X9_init q69 w71 _u w74 hc75) g73 [xR q69, xR x0] rfl rfl (Nat.le_of_ble_eq_true rfl) (by decide) (by decide) (by decide) (by decide) ?_
  obtain ⟨g76, h⟩ := gd_some h
  obtain ⟨w77, hw78, h⟩ := lt1_some h
  refine x_putR (ci := 10) (k := 5) dX10_init_95 lw_RX10_56_w rfl g76 ?_
  rw [← hw78]
  refine x_aload_n (j := 0) (i := 0) dX10_init_98 rfl rfl ?_
  obtain ⟨g79, h⟩ := gd_some h
  obtain ⟨q80, hq81, h⟩ := lt1_some h
  obtain ⟨w82, hw83, h⟩ := lt1_some h
  refine x_new (ci := 3) dX10_init_99 rfl lk_RX10_59 li_RX3 lz_RX3 g79 (by decide) (by decide) ?_
  rw [← hq81, ← hw83]
  have g84 : isC w82 q80 3 := by rw [hw83, hq81]; exact isC_new _ _ _
  refine x_dup dX10_init_102 rfl ?_
  obtain ⟨_u, w85, hc86, h⟩ := bd_s h
  refine x_callIVa (ci := 3) dX10_init_103 ml_RX10_61 mb_X3_init (c_X3_init q80 w82 _u w85 hc86) g84 [xR q80, xR x0] rfl rfl (Nat.le_of_ble_eq_true rfl) (by decide) (by decide) (by decide) (by decide) ?_
  obtain ⟨g87, h⟩ := gd_some h
  obtain ⟨w88, hw89, h⟩ := lt1_some h
  refine x_putR (ci := 10) (k := 6) dX10_init_106 lw_RX10_62_w rfl g87 ?_
  rw [← hw89]
  refine x_aload_n (j := 0) (i := 0) dX10_init_109 rfl rfl ?_
  obtain ⟨g90, h⟩ := gd_some h
  obtain ⟨q91, hq92, h⟩ := lt1_some h
  obtain ⟨w93, hw94, h⟩ := lt1_some h
  refine x_new (ci := 1) dX10_init_110 rfl lk_RX10_66 li_RX1 lz_RX1 g90 (by decide) (by decide) ?_
  rw [← hq92, ← hw94]
  have g95 : isC w93 q91 1 := by rw [hw94, hq92]; exact isC_new _ _ _
  refine x_dup dX10_init_113 rfl ?_
  obtain ⟨_u, w96, hc97, h⟩ := bd_s h
  refine x_callIV (ci := 1) dX10_init_114 ml_RX10_68 mb_X1_init (c_X1_init q91 w93 _u w96 hc97) g95 [xR q91, xR x0] rfl rfl (Nat.le_of_ble_eq_true rfl) (by decide) (by decide) ?_
  obtain ⟨g98, h⟩ := gd_some h
  obtain ⟨w99, hw100, h⟩ := lt1_some h
  refine x_putR (ci := 10) (k := 7) dX10_init_117 lw_RX10_69_w rfl g98 ?_
  rw [← hw100]
  refine x_aload_n (j := 0) (i := 0) dX10_init_120 rfl rfl ?_
  obtain ⟨g101, h⟩ := gd_some h
  obtain ⟨q102, hq103, h⟩ := lt1_some h
  obtain ⟨w104, hw105, h⟩ := lt1_some h
  refine x_new (ci := 4) dX10_init_121 rfl lk_RX10_73 li_RX4 lz_RX4 g101 (by decide) (by decide) ?_
  rw [← hq103, ← hw105]
  have g106 : isC w104 q102 4 := by rw [hw105, hq103]; exact isC_new _ _ _
  refine x_dup dX10_init_124 rfl ?_
  obtain ⟨_u, w107, hc108, h⟩ := bd_s h
  refine x_callIV (ci := 4) dX10_init_125 ml_RX10_75 mb_X4_init (c_X4_init q102 w104 _u w107 hc108) g106 [xR q102, xR x0] rfl rfl (Nat.le_of_ble_eq_true rfl) (by decide) (by decide) ?_
  obtain ⟨g109, h⟩ := gd_some h
  obtain ⟨w110, hw111, h⟩ := lt1_some h
  refine x_putR (ci := 10) (k := 8) dX10_init_128 lw_RX10_76_w rfl g109 ?_
  rw [← hw111]
  refine x_aload_n (j := 0) (i := 0) dX10_init_131 rfl rfl ?_
  refine x_sipush (v := 180) dX10_init_132 (by decide) ?_
  have g112 : isC w110 x0 10 := by rw [hw111]; exact g109
  obtain ⟨w113, hw114, h⟩ := lt1_some h
  refine x_putI (ci := 10) (k := 9) dX10_init_135 (lw_RX10_80_w _) rfl g112 ?_
  rw [← hw114]
  obtain ⟨hr9, hw9⟩ := Prod.mk.inj (Option.some.inj h)
  subst hw9
  exact x_vret dX10_init_138 rfl rfl
set_option maxRecDepth 20000 in
theorem c_X10_within (x0 : Int32) (x1 : Int32) (x2 : Int32) (w : xSt) (rE : Int32) (wE : xSt) (h : f_X10_within x0 x1 x2 w = some (rE, wE)) : xCall yX10_within cX10_within 3 (some .boolean) 0 0 0 [xI x0, xI x1, xI x2] w (some (xI rE), wE) := by
  refine xCall_of false (by decide) (fun q => nomatch q) (Nat.le_of_ble_eq_true rfl) ?_
  show xX cX10_within 3 (some .boolean) RX10 false (xRm 0 0 0) (xZf (some (xI rE), wE) 0 0) 0 [(0, xI x0), (1, xI x1), (2, xI x2)] [] w 0 0
  unfold f_X10_within at h
  refine x_iload_n (j := 0) (i := 0) dX10_within_0 rfl rfl ?_
  refine x_iload_n (j := 1) (i := 1) dX10_within_1 rfl rfl ?_
  refine x_icmp_lt (tgt := 14) dX10_within_2 (by decide) (fun hc1 => ?_) (fun hc1 => ?_)
  · rw [if_pos hc1] at h
    refine x_iconst (v := 0) dX10_within_14 (by decide) ?_
    obtain ⟨hr9, hw9⟩ := Prod.mk.inj (Option.some.inj h)
    subst hw9
    subst hr9
    exact x_zret dX10_within_15 rfl (by decide) rfl
  · rw [if_neg hc1] at h
    refine x_iload_n (j := 0) (i := 0) dX10_within_5 rfl rfl ?_
    refine x_iload_n (j := 2) (i := 2) dX10_within_6 rfl rfl ?_
    refine x_icmp_gt (tgt := 14) dX10_within_7 (by decide) (fun hc2 => ?_) (fun hc2 => ?_)
    · rw [if_pos hc2] at h
      refine x_iconst (v := 0) dX10_within_14 (by decide) ?_
      obtain ⟨hr9, hw9⟩ := Prod.mk.inj (Option.some.inj h)
      subst hw9
      subst hr9
      exact x_zret dX10_within_15 rfl (by decide) rfl
    · rw [if_neg hc2] at h
      refine x_iconst (v := 1) dX10_within_10 (by decide) ?_
      refine x_goto (tgt := 15) dX10_within_11 (by decide) ?_
      obtain ⟨hr9, hw9⟩ := Prod.mk.inj (Option.some.inj h)
      subst hw9
      subst hr9
      exact x_zret dX10_within_15 rfl (by decide) rfl
set_option maxRecDepth 20000 in
theorem k_X10_cell_b41 (rE : Int32) (wE : xSt) (x0 : Nat) (x1 : Int32) (x2 : Int32) (w : xSt) (h : f_X10_cell_b41 x0 x1 x2 w = some (rE, wE)) : xX cX10_cell 4 (some .int) RX10 false (xRm 2 0 0) (xZf (some (xI rE), wE) 0 0) 41 [(0, xR x0), (1, xI x1), (2, xI x2)] [] w 0 0 := by
  unfold f_X10_cell_b41 at h
  refine x_aload_n (j := 0) (i := 0) dX10_cell_41 rfl rfl ?_
  obtain ⟨g18, h⟩ := gd_some h
  refine x_getR (ci := 10) (k := 1) dX10_cell_42 lf_RX10_29 rfl g18 ?_
  obtain ⟨g22, h⟩ := gd_some h
  obtain ⟨v19, w20, hc21, h⟩ := bd_s h
  refine x_callVI (ci := 5) dX10_cell_45 ml_RX10_95 mb_X5_laidOnes (c_X5_laidOnes (wR w x0 1) w v19 w20 hc21) ⟨_, rfl, rfl⟩ g22 [] rfl rfl (Nat.le_of_ble_eq_true rfl) (by decide) (by decide) ?_
  refine x_if_le (tgt := 54) dX10_cell_48 (by decide) (fun hc23 => ?_) (fun hc23 => ?_)
  · rw [if_pos hc23] at h
    refine x_aload_n (j := 0) (i := 0) dX10_cell_54 rfl rfl ?_
    obtain ⟨g24, h⟩ := gd_some h
    refine x_getR (ci := 10) (k := 0) dX10_cell_55 lf_RX10_18 rfl g24 ?_
    refine x_iload_n (j := 1) (i := 1) dX10_cell_58 rfl rfl ?_
    obtain ⟨g28, h⟩ := gd_some h
    obtain ⟨v25, w26, hc27, h⟩ := bd_s h
    refine x_callVI (ci := 0) dX10_cell_59 ml_RX10_99 mb_X0_kindOf (c_X0_kindOf (wR w20 x0 0) x1 w20 v25 w26 hc27) ⟨_, rfl, rfl⟩ g28 [] rfl rfl (Nat.le_of_ble_eq_true rfl) (by decide) (by decide) ?_
    refine x_istore_n (i := 3) (lv2 := [(3, xI v25), (0, xR x0), (1, xI x1), (2, xI x2)]) dX10_cell_62 rfl (by decide) rfl ?_
    refine x_aload_n (j := 1) (i := 0) dX10_cell_63 rfl rfl ?_
    obtain ⟨g29, h⟩ := gd_some h
    refine x_getR (ci := 10) (k := 0) dX10_cell_64 lf_RX10_18 rfl g29 ?_
    refine x_iload_n (j := 2) (i := 1) dX10_cell_67 rfl rfl ?_
    refine x_iload_n (j := 3) (i := 2) dX10_cell_68 rfl rfl ?_
    obtain ⟨g32, h⟩ := gd_some h
    obtain ⟨_u, w30, hc31, h⟩ := bd_s h
    refine x_callVV (ci := 0) dX10_cell_69 ml_RX10_103 mb_X0_setKind (c_X0_setKind (wR w26 x0 0) x1 x2 w26 _u w30 hc31) ⟨_, rfl, rfl⟩ g32 [] rfl rfl (Nat.le_of_ble_eq_true rfl) (by decide) (by decide) ?_
    refine x_iload_n (j := 0) (i := 3) dX10_cell_72 rfl rfl ?_
    obtain ⟨hr9, hw9⟩ := Prod.mk.inj (Option.some.inj h)
    subst hw9
    subst hr9
    exact x_iret dX10_cell_73 rfl rfl
  · rw [if_neg hc23] at h
    refine x_bipush (v := -3) dX10_cell_51 (by decide) ?_
    obtain ⟨hr9, hw9⟩ := Prod.mk.inj (Option.some.inj h)
    subst hw9
    subst hr9
    exact x_iret dX10_cell_53 rfl rfl
set_option maxRecDepth 20000 in
theorem c_X10_cell (x0 : Nat) (x1 : Int32) (x2 : Int32) (w : xSt) (rE : Int32) (wE : xSt) (h : f_X10_cell x0 x1 x2 w = some (rE, wE)) : xCall yX10_cell cX10_cell 4 (some .int) 2 0 0 [xR x0, xI x1, xI x2] w (some (xI rE), wE) := by
  refine xCall_of false (by decide) (fun q => nomatch q) (Nat.le_of_ble_eq_true rfl) ?_
  show xX cX10_cell 4 (some .int) RX10 false (xRm 2 0 0) (xZf (some (xI rE), wE) 0 0) 0 [(0, xR x0), (1, xI x1), (2, xI x2)] [] w 0 0
  unfold f_X10_cell at h
  refine x_aload_n (j := 0) (i := 0) dX10_cell_0 rfl rfl ?_
  obtain ⟨g1, h⟩ := gd_some h
  refine x_getR (ci := 10) (k := 0) dX10_cell_1 lf_RX10_18 rfl g1 ?_
  refine x_iload_n (j := 1) (i := 1) dX10_cell_4 rfl rfl ?_
  obtain ⟨g5, h⟩ := gd_some h
  obtain ⟨v2, w3, hc4, h⟩ := bd_s h
  refine x_callVI (ci := 0) dX10_cell_5 ml_RX10_84 mb_X0_has (c_X0_has (wR w x0 0) x1 w v2 w3 hc4) ⟨_, rfl, rfl⟩ g5 [] rfl rfl (Nat.le_of_ble_eq_true rfl) (by decide) (by decide) ?_
  refine x_if_ne (tgt := 13) dX10_cell_8 (by decide) (fun hc6 => ?_) (fun hc6 => ?_)
  · rw [if_neg hc6] at h
    refine x_iload_n (j := 2) (i := 2) dX10_cell_13 rfl rfl ?_
    refine x_iconst (v := 0) dX10_cell_14 (by decide) ?_
    refine x_iconst (v := 3) dX10_cell_15 (by decide) ?_
    obtain ⟨v7, w8, hc9, h⟩ := bd_s h
    refine x_callSI dX10_cell_16 ml_RX10_88 mb_X10_within (c_X10_within x2 (0 : Int32) (3 : Int32) w3 v7 w8 hc9) [] rfl rfl (Nat.le_of_ble_eq_true rfl) (by decide) (by decide) ?_
    refine x_if_eq (tgt := 38) dX10_cell_19 (by decide) (fun hc10 => ?_) (fun hc10 => ?_)
    · rw [if_pos hc10] at h
      refine x_bipush (v := -2) dX10_cell_38 (by decide) ?_
      obtain ⟨hr9, hw9⟩ := Prod.mk.inj (Option.some.inj h)
      subst hw9
      subst hr9
      exact x_iret dX10_cell_40 rfl rfl
    · rw [if_neg hc10] at h
      refine x_iload_n (j := 2) (i := 2) dX10_cell_22 rfl rfl ?_
      refine x_iconst (v := 1) dX10_cell_23 (by decide) ?_
      refine x_icmp_ne (tgt := 41) dX10_cell_24 (by decide) (fun hc11 => ?_) (fun hc11 => ?_)
      · rw [if_neg hc11] at h
        refine x_lv (lv2 := [(0, xR x0), (1, xI x1), (2, xI x2)]) [0, 1, 2] rfl ?_
        exact k_X10_cell_b41 rE wE x0 x1 x2 w8 h
      · rw [if_pos hc11] at h
        refine x_aload_n (j := 0) (i := 0) dX10_cell_27 rfl rfl ?_
        obtain ⟨g12, h⟩ := gd_some h
        refine x_getR (ci := 10) (k := 0) dX10_cell_28 lf_RX10_18 rfl g12 ?_
        refine x_iload_n (j := 1) (i := 1) dX10_cell_31 rfl rfl ?_
        obtain ⟨g16, h⟩ := gd_some h
        obtain ⟨v13, w14, hc15, h⟩ := bd_s h
        refine x_callVI (ci := 0) dX10_cell_32 ml_RX10_92 mb_X0_onEdge (c_X0_onEdge (wR w8 x0 0) x1 w8 v13 w14 hc15) ⟨_, rfl, rfl⟩ g16 [] rfl rfl (Nat.le_of_ble_eq_true rfl) (by decide) (by decide) ?_
        refine x_if_ne (tgt := 41) dX10_cell_35 (by decide) (fun hc17 => ?_) (fun hc17 => ?_)
        · rw [if_neg hc17] at h
          refine x_lv (lv2 := [(0, xR x0), (1, xI x1), (2, xI x2)]) [0, 1, 2] rfl ?_
          exact k_X10_cell_b41 rE wE x0 x1 x2 w14 h
        · rw [if_pos hc17] at h
          refine x_bipush (v := -2) dX10_cell_38 (by decide) ?_
          obtain ⟨hr9, hw9⟩ := Prod.mk.inj (Option.some.inj h)
          subst hw9
          subst hr9
          exact x_iret dX10_cell_40 rfl rfl
  · rw [if_pos hc6] at h
    refine x_iconst (v := -1) dX10_cell_11 (by decide) ?_
    obtain ⟨hr9, hw9⟩ := Prod.mk.inj (Option.some.inj h)
    subst hw9
    subst hr9
    exact x_iret dX10_cell_12 rfl rfl
set_option maxRecDepth 20000 in
theorem c_X10_bears (x0 : Nat) (x1 : Int32) (x2 : Int32) (w : xSt) (rE : Int32) (wE : xSt) (h : f_X10_bears x0 x1 x2 w = some (rE, wE)) : xCall yX10_bears cX10_bears 4 (some .int) 2 0 0 [xR x0, xI x1, xI x2] w (some (xI rE), wE) := by
  refine xCall_of false (by decide) (fun q => nomatch q) (Nat.le_of_ble_eq_true rfl) ?_
  show xX cX10_bears 4 (some .int) RX10 false (xRm 2 0 0) (xZf (some (xI rE), wE) 0 0) 0 [(0, xR x0), (1, xI x1), (2, xI x2)] [] w 0 0
  unfold f_X10_bears at h
  refine x_aload_n (j := 0) (i := 0) dX10_bears_0 rfl rfl ?_
  obtain ⟨g1, h⟩ := gd_some h
  refine x_getR (ci := 10) (k := 0) dX10_bears_1 lf_RX10_18 rfl g1 ?_
  refine x_iload_n (j := 1) (i := 1) dX10_bears_4 rfl rfl ?_
  obtain ⟨g5, h⟩ := gd_some h
  obtain ⟨v2, w3, hc4, h⟩ := bd_s h
  refine x_callVI (ci := 0) dX10_bears_5 ml_RX10_84 mb_X0_has (c_X0_has (wR w x0 0) x1 w v2 w3 hc4) ⟨_, rfl, rfl⟩ g5 [] rfl rfl (Nat.le_of_ble_eq_true rfl) (by decide) (by decide) ?_
  refine x_if_ne (tgt := 13) dX10_bears_8 (by decide) (fun hc6 => ?_) (fun hc6 => ?_)
  · rw [if_neg hc6] at h
    refine x_iload_n (j := 2) (i := 2) dX10_bears_13 rfl rfl ?_
    refine x_iconst (v := 0) dX10_bears_14 (by decide) ?_
    refine x_bipush (v := 99) dX10_bears_15 (by decide) ?_
    obtain ⟨v7, w8, hc9, h⟩ := bd_s h
    refine x_callSI dX10_bears_17 ml_RX10_88 mb_X10_within (c_X10_within x2 (0 : Int32) (99 : Int32) w3 v7 w8 hc9) [] rfl rfl (Nat.le_of_ble_eq_true rfl) (by decide) (by decide) ?_
    refine x_if_ne (tgt := 26) dX10_bears_20 (by decide) (fun hc10 => ?_) (fun hc10 => ?_)
    · rw [if_neg hc10] at h
      refine x_aload_n (j := 0) (i := 0) dX10_bears_26 rfl rfl ?_
      obtain ⟨g11, h⟩ := gd_some h
      refine x_getR (ci := 10) (k := 1) dX10_bears_27 lf_RX10_29 rfl g11 ?_
      obtain ⟨g15, h⟩ := gd_some h
      obtain ⟨v12, w13, hc14, h⟩ := bd_s h
      refine x_callVI (ci := 5) dX10_bears_30 ml_RX10_95 mb_X5_laidOnes (c_X5_laidOnes (wR w8 x0 1) w8 v12 w13 hc14) ⟨_, rfl, rfl⟩ g15 [] rfl rfl (Nat.le_of_ble_eq_true rfl) (by decide) (by decide) ?_
      refine x_if_le (tgt := 39) dX10_bears_33 (by decide) (fun hc16 => ?_) (fun hc16 => ?_)
      · rw [if_pos hc16] at h
        refine x_aload_n (j := 0) (i := 0) dX10_bears_39 rfl rfl ?_
        obtain ⟨g17, h⟩ := gd_some h
        refine x_getR (ci := 10) (k := 0) dX10_bears_40 lf_RX10_18 rfl g17 ?_
        obtain ⟨g18, h⟩ := gd_some h
        refine x_getR (ci := 0) (k := 7) dX10_bears_43 lf_RX10_106 rfl g18 ?_
        refine x_iload_n (j := 1) (i := 1) dX10_bears_46 rfl rfl ?_
        obtain ⟨g19, h⟩ := gd_some h
        obtain ⟨g20, h⟩ := gd_some h
        refine x_iald dX10_bears_47 g19 g20 ?_
        refine x_istore_n (i := 3) (lv2 := [(3, xI (wI w13 (wR w13 (wR w13 x0 0) 7) x1.toNatClampNeg)), (0, xR x0), (1, xI x1), (2, xI x2)]) dX10_bears_48 rfl (by decide) rfl ?_
        refine x_aload_n (j := 1) (i := 0) dX10_bears_49 rfl rfl ?_
        refine x_getR (ci := 10) (k := 0) dX10_bears_50 lf_RX10_18 rfl g17 ?_
        refine x_getR (ci := 0) (k := 7) dX10_bears_53 lf_RX10_106 rfl g18 ?_
        refine x_iload_n (j := 2) (i := 1) dX10_bears_56 rfl rfl ?_
        refine x_iload_n (j := 3) (i := 2) dX10_bears_57 rfl rfl ?_
        obtain ⟨w21, hw22, h⟩ := lt1_some h
        refine x_iast dX10_bears_58 g19 g20 ?_
        rw [← hw22]
        refine x_iload_n (j := 0) (i := 3) dX10_bears_59 rfl rfl ?_
        obtain ⟨hr9, hw9⟩ := Prod.mk.inj (Option.some.inj h)
        subst hw9
        subst hr9
        exact x_iret dX10_bears_60 rfl rfl
      · rw [if_neg hc16] at h
        refine x_bipush (v := -3) dX10_bears_36 (by decide) ?_
        obtain ⟨hr9, hw9⟩ := Prod.mk.inj (Option.some.inj h)
        subst hw9
        subst hr9
        exact x_iret dX10_bears_38 rfl rfl
    · rw [if_pos hc10] at h
      refine x_bipush (v := -2) dX10_bears_23 (by decide) ?_
      obtain ⟨hr9, hw9⟩ := Prod.mk.inj (Option.some.inj h)
      subst hw9
      subst hr9
      exact x_iret dX10_bears_25 rfl rfl
  · rw [if_pos hc6] at h
    refine x_iconst (v := -1) dX10_bears_11 (by decide) ?_
    obtain ⟨hr9, hw9⟩ := Prod.mk.inj (Option.some.inj h)
    subst hw9
    subst hr9
    exact x_iret dX10_bears_12 rfl rfl
set_option maxRecDepth 20000 in
theorem c_X10_aisle (x0 : Nat) (x1 : Int32) (w : xSt) (rE : Int32) (wE : xSt) (h : f_X10_aisle x0 x1 w = some (rE, wE)) : xCall yX10_aisle cX10_aisle 3 (some .int) 2 0 0 [xR x0, xI x1] w (some (xI rE), wE) := by
  refine xCall_of false (by decide) (fun q => nomatch q) (Nat.le_of_ble_eq_true rfl) ?_
  show xX cX10_aisle 3 (some .int) RX10 false (xRm 2 0 0) (xZf (some (xI rE), wE) 0 0) 0 [(0, xR x0), (1, xI x1)] [] w 0 0
  unfold f_X10_aisle at h
  refine x_iload_n (j := 1) (i := 1) dX10_aisle_0 rfl rfl ?_
  refine x_iconst (v := 0) dX10_aisle_1 (by decide) ?_
  refine x_iconst (v := 3) dX10_aisle_2 (by decide) ?_
  obtain ⟨v1, w2, hc3, h⟩ := bd_s h
  refine x_callSI dX10_aisle_3 ml_RX10_88 mb_X10_within (c_X10_within x1 (0 : Int32) (3 : Int32) w v1 w2 hc3) [] rfl rfl (Nat.le_of_ble_eq_true rfl) (by decide) (by decide) ?_
  refine x_if_ne (tgt := 12) dX10_aisle_6 (by decide) (fun hc4 => ?_) (fun hc4 => ?_)
  · rw [if_neg hc4] at h
    refine x_aload_n (j := 0) (i := 0) dX10_aisle_12 rfl rfl ?_
    obtain ⟨g5, h⟩ := gd_some h
    refine x_getR (ci := 10) (k := 1) dX10_aisle_13 lf_RX10_29 rfl g5 ?_
    obtain ⟨g9, h⟩ := gd_some h
    obtain ⟨v6, w7, hc8, h⟩ := bd_s h
    refine x_callVI (ci := 5) dX10_aisle_16 ml_RX10_95 mb_X5_laidOnes (c_X5_laidOnes (wR w2 x0 1) w2 v6 w7 hc8) ⟨_, rfl, rfl⟩ g9 [] rfl rfl (Nat.le_of_ble_eq_true rfl) (by decide) (by decide) ?_
    refine x_if_le (tgt := 25) dX10_aisle_19 (by decide) (fun hc10 => ?_) (fun hc10 => ?_)
    · rw [if_pos hc10] at h
      refine x_aload_n (j := 0) (i := 0) dX10_aisle_25 rfl rfl ?_
      obtain ⟨g11, h⟩ := gd_some h
      refine x_getR (ci := 10) (k := 1) dX10_aisle_26 lf_RX10_29 rfl g11 ?_
      obtain ⟨g12, h⟩ := gd_some h
      refine x_getI (ci := 5) (k := 3) dX10_aisle_29 lf_RX10_110 rfl g12 ?_
      refine x_istore_n (i := 2) (lv2 := [(2, xI (wI w7 (wR w7 x0 1) 3)), (0, xR x0), (1, xI x1)]) dX10_aisle_32 rfl (by decide) rfl ?_
      refine x_aload_n (j := 1) (i := 0) dX10_aisle_33 rfl rfl ?_
      refine x_getR (ci := 10) (k := 1) dX10_aisle_34 lf_RX10_29 rfl g11 ?_
      refine x_iload_n (j := 2) (i := 1) dX10_aisle_37 rfl rfl ?_
      obtain ⟨w13, hw14, h⟩ := lt1_some h
      refine x_putI (ci := 5) (k := 3) dX10_aisle_38 (lw_RX10_110_w _) rfl g12 ?_
      rw [← hw14]
      refine x_iload_n (j := 0) (i := 2) dX10_aisle_41 rfl rfl ?_
      obtain ⟨hr9, hw9⟩ := Prod.mk.inj (Option.some.inj h)
      subst hw9
      subst hr9
      exact x_iret dX10_aisle_42 rfl rfl
    · rw [if_neg hc10] at h
      refine x_bipush (v := -3) dX10_aisle_22 (by decide) ?_
      obtain ⟨hr9, hw9⟩ := Prod.mk.inj (Option.some.inj h)
      subst hw9
      subst hr9
      exact x_iret dX10_aisle_24 rfl rfl
  · rw [if_pos hc4] at h
    refine x_bipush (v := -2) dX10_aisle_9 (by decide) ?_
    obtain ⟨hr9, hw9⟩ := Prod.mk.inj (Option.some.inj h)
    subst hw9
    subst hr9
    exact x_iret dX10_aisle_11 rfl rfl
