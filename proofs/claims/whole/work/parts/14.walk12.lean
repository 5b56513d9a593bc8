set_option maxRecDepth 20000 in
theorem k_X11_ins_l4 (rE : Int32) (wE : xSt) : ∀ (n : Nat) (x0 : Nat) (x1 : Int32) (x2 : Int32) (w : xSt), f_X11_ins_l4 n x0 x1 x2 w = some (rE, wE) → xX cX11_ins 3 (some .int) RX11 false (xRm 0 0 0) (xZf (some (xI rE), wE) 0 0) 4 [(0, xR x0), (1, xI x1), (2, xI x2)] [] w 0 0 := by
  intro n
  induction n with
  | zero => intro x0 x1 x2 w h; exact nomatch (show (none : Option (Int32 × xSt)) = some (rE, wE) from h)
  | succ n ih =>
    intro x0 x1 x2 w h
    rw [f_X11_ins_l4_s] at h
    refine x_iload_n (j := 2) (i := 2) dX11_ins_4 rfl rfl ?_
    refine x_aload_n (j := 0) (i := 0) dX11_ins_5 rfl rfl ?_
    obtain ⟨g1, h⟩ := gd_some h
    refine x_getI (ci := 11) (k := 5) dX11_ins_6 lf_RX11_121 rfl g1 ?_
    refine x_icmp_ge (tgt := 35) dX11_ins_9 (by decide) (fun hc2 => ?_) (fun hc2 => ?_)
    · rw [if_pos hc2] at h
      refine x_iload_n (j := 1) (i := 1) dX11_ins_35 rfl rfl ?_
      obtain ⟨hr9, hw9⟩ := Prod.mk.inj (Option.some.inj h)
      subst hw9
      subst hr9
      exact x_iret dX11_ins_36 rfl rfl
    · rw [if_neg hc2] at h
      refine x_iload_n (j := 1) (i := 1) dX11_ins_12 rfl rfl ?_
      refine x_aload_n (j := 0) (i := 0) dX11_ins_13 rfl rfl ?_
      refine x_getR (ci := 11) (k := 14) dX11_ins_14 lf_RX11_44 rfl g1 ?_
      refine x_iload_n (j := 2) (i := 2) dX11_ins_17 rfl rfl ?_
      obtain ⟨g3, h⟩ := gd_some h
      obtain ⟨g4, h⟩ := gd_some h
      refine x_zald dX11_ins_18 g3 g4 ?_
      refine x_if_eq (tgt := 26) dX11_ins_19 (by decide) (fun hc5 => ?_) (fun hc5 => ?_)
      · rw [if_pos hc5] at h
        refine x_iconst (v := 0) dX11_ins_26 (by decide) ?_
        refine x_iadd dX11_ins_27 ?_
        refine x_istore_n (i := 1) (lv2 := [(1, xI (x1 + (0 : Int32))), (0, xR x0), (2, xI x2)]) dX11_ins_28 rfl (by decide) rfl ?_
        refine x_iinc (j := 2) (i := 2) (v := x2 + (1 : Int32)) (lv2 := [(2, xI (x2 + (1 : Int32))), (1, xI (x1 + (0 : Int32))), (0, xR x0)]) dX11_ins_29 rfl rfl (by decide) rfl ?_
        refine x_goto (tgt := 4) dX11_ins_32 (by decide) ?_
        refine x_lv (lv2 := [(0, xR x0), (1, xI (x1 + (0 : Int32))), (2, xI (x2 + (1 : Int32)))]) [2, 1, 0] rfl ?_
        exact ih x0 (x1 + (0 : Int32)) (x2 + (1 : Int32)) w h
      · rw [if_neg hc5] at h
        refine x_iconst (v := 1) dX11_ins_22 (by decide) ?_
        refine x_goto (tgt := 27) dX11_ins_23 (by decide) ?_
        refine x_iadd dX11_ins_27 ?_
        refine x_istore_n (i := 1) (lv2 := [(1, xI (x1 + (1 : Int32))), (0, xR x0), (2, xI x2)]) dX11_ins_28 rfl (by decide) rfl ?_
        refine x_iinc (j := 2) (i := 2) (v := x2 + (1 : Int32)) (lv2 := [(2, xI (x2 + (1 : Int32))), (1, xI (x1 + (1 : Int32))), (0, xR x0)]) dX11_ins_29 rfl rfl (by decide) rfl ?_
        refine x_goto (tgt := 4) dX11_ins_32 (by decide) ?_
        refine x_lv (lv2 := [(0, xR x0), (1, xI (x1 + (1 : Int32))), (2, xI (x2 + (1 : Int32)))]) [2, 1, 0] rfl ?_
        exact ih x0 (x1 + (1 : Int32)) (x2 + (1 : Int32)) w h
set_option maxRecDepth 20000 in
theorem c_X11_ins (x0 : Nat) (w : xSt) (rE : Int32) (wE : xSt) (h : f_X11_ins x0 w = some (rE, wE)) : xCall yX11_ins cX11_ins 3 (some .int) 0 0 0 [xR x0] w (some (xI rE), wE) := by
  refine xCall_of false (by decide) (fun q => nomatch q) (Nat.le_of_ble_eq_true rfl) ?_
  show xX cX11_ins 3 (some .int) RX11 false (xRm 0 0 0) (xZf (some (xI rE), wE) 0 0) 0 [(0, xR x0)] [] w 0 0
  unfold f_X11_ins at h
  refine x_iconst (v := 0) dX11_ins_0 (by decide) ?_
  refine x_istore_n (i := 1) (lv2 := [(1, xI (0 : Int32)), (0, xR x0)]) dX11_ins_1 rfl (by decide) rfl ?_
  refine x_iconst (v := 0) dX11_ins_2 (by decide) ?_
  refine x_istore_n (i := 2) (lv2 := [(2, xI (0 : Int32)), (1, xI (0 : Int32)), (0, xR x0)]) dX11_ins_3 rfl (by decide) rfl ?_
  refine x_lv (lv2 := [(0, xR x0), (1, xI (0 : Int32)), (2, xI (0 : Int32))]) [2, 1, 0] rfl ?_
  exact k_X11_ins_l4 rE wE xFu x0 (0 : Int32) (0 : Int32) w h
set_option maxRecDepth 20000 in
theorem k_X11_cell_b35 (rE : Int32) (wE : xSt) (x0 : Nat) (x1 : Int32) (x2 : Int32) (w : xSt) (h : f_X11_cell_b35 x0 x1 x2 w = some (rE, wE)) : xX cX11_cell 4 (some .int) RX11 false (xRm 2 0 0) (xZf (some (xI rE), wE) 0 0) 35 [(0, xR x0), (1, xI x1), (2, xI x2)] [] w 0 0 := by
  unfold f_X11_cell_b35 at h
  refine x_aload_n (j := 0) (i := 0) dX11_cell_35 rfl rfl ?_
  obtain ⟨g19, h⟩ := gd_some h
  obtain ⟨v16, w17, hc18, h⟩ := bd_s h
  refine x_callVI (ci := 11) dX11_cell_36 ml_RX11_134 mb_X11_laid (c_X11_laid x0 w v16 w17 hc18) ⟨_, rfl, rfl⟩ g19 [] rfl rfl (Nat.le_of_ble_eq_true rfl) (by decide) (by decide) ?_
  refine x_if_le (tgt := 45) dX11_cell_39 (by decide) (fun hc20 => ?_) (fun hc20 => ?_)
  · rw [if_pos hc20] at h
    refine x_aload_n (j := 0) (i := 0) dX11_cell_45 rfl rfl ?_
    obtain ⟨g21, h⟩ := gd_some h
    refine x_getR (ci := 11) (k := 2) dX11_cell_46 lf_RX11_7 rfl g21 ?_
    refine x_iload_n (j := 1) (i := 1) dX11_cell_49 rfl rfl ?_
    obtain ⟨g22, h⟩ := gd_some h
    obtain ⟨g23, h⟩ := gd_some h
    refine x_iald dX11_cell_50 g22 g23 ?_
    refine x_istore_n (i := 3) (lv2 := [(3, xI (wI w17 (wR w17 x0 2) x1.toNatClampNeg)), (0, xR x0), (1, xI x1), (2, xI x2)]) dX11_cell_51 rfl (by decide) rfl ?_
    refine x_aload_n (j := 1) (i := 0) dX11_cell_52 rfl rfl ?_
    refine x_getR (ci := 11) (k := 2) dX11_cell_53 lf_RX11_7 rfl g21 ?_
    refine x_iload_n (j := 2) (i := 1) dX11_cell_56 rfl rfl ?_
    refine x_iload_n (j := 3) (i := 2) dX11_cell_57 rfl rfl ?_
    obtain ⟨w24, hw25, h⟩ := lt1_some h
    refine x_iast dX11_cell_58 g22 g23 ?_
    rw [← hw25]
    refine x_iload_n (j := 0) (i := 3) dX11_cell_59 rfl rfl ?_
    obtain ⟨hr9, hw9⟩ := Prod.mk.inj (Option.some.inj h)
    subst hw9
    subst hr9
    exact x_iret dX11_cell_60 rfl rfl
  · rw [if_neg hc20] at h
    refine x_bipush (v := -3) dX11_cell_42 (by decide) ?_
    obtain ⟨hr9, hw9⟩ := Prod.mk.inj (Option.some.inj h)
    subst hw9
    subst hr9
    exact x_iret dX11_cell_44 rfl rfl
set_option maxRecDepth 20000 in
theorem c_X11_cell (x0 : Nat) (x1 : Int32) (x2 : Int32) (w : xSt) (rE : Int32) (wE : xSt) (h : f_X11_cell x0 x1 x2 w = some (rE, wE)) : xCall yX11_cell cX11_cell 4 (some .int) 2 0 0 [xR x0, xI x1, xI x2] w (some (xI rE), wE) := by
  refine xCall_of false (by decide) (fun q => nomatch q) (Nat.le_of_ble_eq_true rfl) ?_
  show xX cX11_cell 4 (some .int) RX11 false (xRm 2 0 0) (xZf (some (xI rE), wE) 0 0) 0 [(0, xR x0), (1, xI x1), (2, xI x2)] [] w 0 0
  unfold f_X11_cell at h
  refine x_aload_n (j := 0) (i := 0) dX11_cell_0 rfl rfl ?_
  refine x_iload_n (j := 1) (i := 1) dX11_cell_1 rfl rfl ?_
  obtain ⟨g4, h⟩ := gd_some h
  obtain ⟨v1, w2, hc3, h⟩ := bd_s h
  refine x_callVI (ci := 11) dX11_cell_2 ml_RX11_128 mb_X11_isCell (c_X11_isCell x0 x1 w v1 w2 hc3) ⟨_, rfl, rfl⟩ g4 [] rfl rfl (Nat.le_of_ble_eq_true rfl) (by decide) (by decide) ?_
  refine x_if_ne (tgt := 10) dX11_cell_5 (by decide) (fun hc5 => ?_) (fun hc5 => ?_)
  · rw [if_neg hc5] at h
    refine x_iload_n (j := 2) (i := 2) dX11_cell_10 rfl rfl ?_
    refine x_iconst (v := 0) dX11_cell_11 (by decide) ?_
    refine x_iconst (v := 3) dX11_cell_12 (by decide) ?_
    obtain ⟨v6, w7, hc8, h⟩ := bd_s h
    refine x_callSI dX11_cell_13 ml_RX11_117 mb_X11_in (c_X11_in x2 (0 : Int32) (3 : Int32) w2 v6 w7 hc8) [] rfl rfl (Nat.le_of_ble_eq_true rfl) (by decide) (by decide) ?_
    refine x_if_eq (tgt := 32) dX11_cell_16 (by decide) (fun hc9 => ?_) (fun hc9 => ?_)
    · rw [if_pos hc9] at h
      refine x_bipush (v := -2) dX11_cell_32 (by decide) ?_
      obtain ⟨hr9, hw9⟩ := Prod.mk.inj (Option.some.inj h)
      subst hw9
      subst hr9
      exact x_iret dX11_cell_34 rfl rfl
    · rw [if_neg hc9] at h
      refine x_iload_n (j := 2) (i := 2) dX11_cell_19 rfl rfl ?_
      refine x_iconst (v := 1) dX11_cell_20 (by decide) ?_
      refine x_icmp_ne (tgt := 35) dX11_cell_21 (by decide) (fun hc10 => ?_) (fun hc10 => ?_)
      · rw [if_neg hc10] at h
        refine x_lv (lv2 := [(0, xR x0), (1, xI x1), (2, xI x2)]) [0, 1, 2] rfl ?_
        exact k_X11_cell_b35 rE wE x0 x1 x2 w7 h
      · rw [if_pos hc10] at h
        refine x_aload_n (j := 0) (i := 0) dX11_cell_24 rfl rfl ?_
        refine x_iload_n (j := 1) (i := 1) dX11_cell_25 rfl rfl ?_
        obtain ⟨g14, h⟩ := gd_some h
        obtain ⟨v11, w12, hc13, h⟩ := bd_s h
        refine x_callVI (ci := 11) dX11_cell_26 ml_RX11_131 mb_X11_isEdge (c_X11_isEdge x0 x1 w7 v11 w12 hc13) ⟨_, rfl, rfl⟩ g14 [] rfl rfl (Nat.le_of_ble_eq_true rfl) (by decide) (by decide) ?_
        refine x_if_ne (tgt := 35) dX11_cell_29 (by decide) (fun hc15 => ?_) (fun hc15 => ?_)
        · rw [if_neg hc15] at h
          refine x_lv (lv2 := [(0, xR x0), (1, xI x1), (2, xI x2)]) [0, 1, 2] rfl ?_
          exact k_X11_cell_b35 rE wE x0 x1 x2 w12 h
        · rw [if_pos hc15] at h
          refine x_bipush (v := -2) dX11_cell_32 (by decide) ?_
          obtain ⟨hr9, hw9⟩ := Prod.mk.inj (Option.some.inj h)
          subst hw9
          subst hr9
          exact x_iret dX11_cell_34 rfl rfl
  · rw [if_pos hc5] at h
    refine x_iconst (v := -1) dX11_cell_8 (by decide) ?_
    obtain ⟨hr9, hw9⟩ := Prod.mk.inj (Option.some.inj h)
    subst hw9
    subst hr9
    exact x_iret dX11_cell_9 rfl rfl
set_option maxRecDepth 20000 in
theorem c_X11_bears (x0 : Nat) (x1 : Int32) (x2 : Int32) (w : xSt) (rE : Int32) (wE : xSt) (h : f_X11_bears x0 x1 x2 w = some (rE, wE)) : xCall yX11_bears cX11_bears 4 (some .int) 2 0 0 [xR x0, xI x1, xI x2] w (some (xI rE), wE) := by
  refine xCall_of false (by decide) (fun q => nomatch q) (Nat.le_of_ble_eq_true rfl) ?_
  show xX cX11_bears 4 (some .int) RX11 false (xRm 2 0 0) (xZf (some (xI rE), wE) 0 0) 0 [(0, xR x0), (1, xI x1), (2, xI x2)] [] w 0 0
  unfold f_X11_bears at h
  refine x_aload_n (j := 0) (i := 0) dX11_bears_0 rfl rfl ?_
  refine x_iload_n (j := 1) (i := 1) dX11_bears_1 rfl rfl ?_
  obtain ⟨g4, h⟩ := gd_some h
  obtain ⟨v1, w2, hc3, h⟩ := bd_s h
  refine x_callVI (ci := 11) dX11_bears_2 ml_RX11_128 mb_X11_isCell (c_X11_isCell x0 x1 w v1 w2 hc3) ⟨_, rfl, rfl⟩ g4 [] rfl rfl (Nat.le_of_ble_eq_true rfl) (by decide) (by decide) ?_
  refine x_if_ne (tgt := 10) dX11_bears_5 (by decide) (fun hc5 => ?_) (fun hc5 => ?_)
  · rw [if_neg hc5] at h
    refine x_iload_n (j := 2) (i := 2) dX11_bears_10 rfl rfl ?_
    refine x_iconst (v := 0) dX11_bears_11 (by decide) ?_
    refine x_bipush (v := 99) dX11_bears_12 (by decide) ?_
    obtain ⟨v6, w7, hc8, h⟩ := bd_s h
    refine x_callSI dX11_bears_14 ml_RX11_117 mb_X11_in (c_X11_in x2 (0 : Int32) (99 : Int32) w2 v6 w7 hc8) [] rfl rfl (Nat.le_of_ble_eq_true rfl) (by decide) (by decide) ?_
    refine x_if_ne (tgt := 23) dX11_bears_17 (by decide) (fun hc9 => ?_) (fun hc9 => ?_)
    · rw [if_neg hc9] at h
      refine x_aload_n (j := 0) (i := 0) dX11_bears_23 rfl rfl ?_
      obtain ⟨g13, h⟩ := gd_some h
      obtain ⟨v10, w11, hc12, h⟩ := bd_s h
      refine x_callVI (ci := 11) dX11_bears_24 ml_RX11_134 mb_X11_laid (c_X11_laid x0 w7 v10 w11 hc12) ⟨_, rfl, rfl⟩ g13 [] rfl rfl (Nat.le_of_ble_eq_true rfl) (by decide) (by decide) ?_
      refine x_if_le (tgt := 33) dX11_bears_27 (by decide) (fun hc14 => ?_) (fun hc14 => ?_)
      · rw [if_pos hc14] at h
        refine x_aload_n (j := 0) (i := 0) dX11_bears_33 rfl rfl ?_
        obtain ⟨g15, h⟩ := gd_some h
        refine x_getR (ci := 11) (k := 3) dX11_bears_34 lf_RX11_13 rfl g15 ?_
        refine x_iload_n (j := 1) (i := 1) dX11_bears_37 rfl rfl ?_
        obtain ⟨g16, h⟩ := gd_some h
        obtain ⟨g17, h⟩ := gd_some h
        refine x_iald dX11_bears_38 g16 g17 ?_
        refine x_istore_n (i := 3) (lv2 := [(3, xI (wI w11 (wR w11 x0 3) x1.toNatClampNeg)), (0, xR x0), (1, xI x1), (2, xI x2)]) dX11_bears_39 rfl (by decide) rfl ?_
        refine x_aload_n (j := 1) (i := 0) dX11_bears_40 rfl rfl ?_
        refine x_getR (ci := 11) (k := 3) dX11_bears_41 lf_RX11_13 rfl g15 ?_
        refine x_iload_n (j := 2) (i := 1) dX11_bears_44 rfl rfl ?_
        refine x_iload_n (j := 3) (i := 2) dX11_bears_45 rfl rfl ?_
        obtain ⟨w18, hw19, h⟩ := lt1_some h
        refine x_iast dX11_bears_46 g16 g17 ?_
        rw [← hw19]
        refine x_iload_n (j := 0) (i := 3) dX11_bears_47 rfl rfl ?_
        obtain ⟨hr9, hw9⟩ := Prod.mk.inj (Option.some.inj h)
        subst hw9
        subst hr9
        exact x_iret dX11_bears_48 rfl rfl
      · rw [if_neg hc14] at h
        refine x_bipush (v := -3) dX11_bears_30 (by decide) ?_
        obtain ⟨hr9, hw9⟩ := Prod.mk.inj (Option.some.inj h)
        subst hw9
        subst hr9
        exact x_iret dX11_bears_32 rfl rfl
    · rw [if_pos hc9] at h
      refine x_bipush (v := -2) dX11_bears_20 (by decide) ?_
      obtain ⟨hr9, hw9⟩ := Prod.mk.inj (Option.some.inj h)
      subst hw9
      subst hr9
      exact x_iret dX11_bears_22 rfl rfl
  · rw [if_pos hc5] at h
    refine x_iconst (v := -1) dX11_bears_8 (by decide) ?_
    obtain ⟨hr9, hw9⟩ := Prod.mk.inj (Option.some.inj h)
    subst hw9
    subst hr9
    exact x_iret dX11_bears_9 rfl rfl
set_option maxRecDepth 20000 in
theorem c_X11_aisle (x0 : Nat) (x1 : Int32) (w : xSt) (rE : Int32) (wE : xSt) (h : f_X11_aisle x0 x1 w = some (rE, wE)) : xCall yX11_aisle cX11_aisle 3 (some .int) 1 0 0 [xR x0, xI x1] w (some (xI rE), wE) := by
  refine xCall_of false (by decide) (fun q => nomatch q) (Nat.le_of_ble_eq_true rfl) ?_
  show xX cX11_aisle 3 (some .int) RX11 false (xRm 1 0 0) (xZf (some (xI rE), wE) 0 0) 0 [(0, xR x0), (1, xI x1)] [] w 0 0
  unfold f_X11_aisle at h
  refine x_iload_n (j := 1) (i := 1) dX11_aisle_0 rfl rfl ?_
  refine x_iconst (v := 0) dX11_aisle_1 (by decide) ?_
  refine x_iconst (v := 3) dX11_aisle_2 (by decide) ?_
  obtain ⟨v1, w2, hc3, h⟩ := bd_s h
  refine x_callSI dX11_aisle_3 ml_RX11_117 mb_X11_in (c_X11_in x1 (0 : Int32) (3 : Int32) w v1 w2 hc3) [] rfl rfl (Nat.le_of_ble_eq_true rfl) (by decide) (by decide) ?_
  refine x_if_ne (tgt := 12) dX11_aisle_6 (by decide) (fun hc4 => ?_) (fun hc4 => ?_)
  · rw [if_neg hc4] at h
    refine x_aload_n (j := 0) (i := 0) dX11_aisle_12 rfl rfl ?_
    obtain ⟨g8, h⟩ := gd_some h
    obtain ⟨v5, w6, hc7, h⟩ := bd_s h
    refine x_callVI (ci := 11) dX11_aisle_13 ml_RX11_134 mb_X11_laid (c_X11_laid x0 w2 v5 w6 hc7) ⟨_, rfl, rfl⟩ g8 [] rfl rfl (Nat.le_of_ble_eq_true rfl) (by decide) (by decide) ?_
    refine x_if_le (tgt := 22) dX11_aisle_16 (by decide) (fun hc9 => ?_) (fun hc9 => ?_)
    · rw [if_pos hc9] at h
      refine x_aload_n (j := 0) (i := 0) dX11_aisle_22 rfl rfl ?_
      obtain ⟨g10, h⟩ := gd_some h
      refine x_getI (ci := 11) (k := 4) dX11_aisle_23 lf_RX11_16 rfl g10 ?_
      refine x_istore_n (i := 2) (lv2 := [(2, xI (wI w6 x0 4)), (0, xR x0), (1, xI x1)]) dX11_aisle_26 rfl (by decide) rfl ?_
      refine x_aload_n (j := 1) (i := 0) dX11_aisle_27 rfl rfl ?_
      refine x_iload_n (j := 2) (i := 1) dX11_aisle_28 rfl rfl ?_
      obtain ⟨w11, hw12, h⟩ := lt1_some h
      refine x_putI (ci := 11) (k := 4) dX11_aisle_29 (lw_RX11_16_w _) rfl g10 ?_
      rw [← hw12]
      refine x_iload_n (j := 0) (i := 2) dX11_aisle_32 rfl rfl ?_
      obtain ⟨hr9, hw9⟩ := Prod.mk.inj (Option.some.inj h)
      subst hw9
      subst hr9
      exact x_iret dX11_aisle_33 rfl rfl
    · rw [if_neg hc9] at h
      refine x_bipush (v := -3) dX11_aisle_19 (by decide) ?_
      obtain ⟨hr9, hw9⟩ := Prod.mk.inj (Option.some.inj h)
      subst hw9
      subst hr9
      exact x_iret dX11_aisle_21 rfl rfl
  · rw [if_pos hc4] at h
    refine x_bipush (v := -2) dX11_aisle_9 (by decide) ?_
    obtain ⟨hr9, hw9⟩ := Prod.mk.inj (Option.some.inj h)
    subst hw9
    subst hr9
    exact x_iret dX11_aisle_11 rfl rfl
set_option maxRecDepth 20000 in
theorem c_X11_stand (x0 : Nat) (x1 : Int32) (x2 : Int32) (x3 : Int32) (x4 : Int32) (x5 : Int32) (x6 : Int32) (w : xSt) (rE : Int32) (wE : xSt) (h : f_X11_stand x0 x1 x2 x3 x4 x5 x6 w = some (rE, wE)) : xCall yX11_stand cX11_stand 7 (some .int) 1 0 0 [xR x0, xI x1, xI x2, xI x3, xI x4, xI x5, xI x6] w (some (xI rE), wE) := by
  refine xCall_of false (by decide) (fun q => nomatch q) (Nat.le_of_ble_eq_true rfl) ?_
  show xX cX11_stand 7 (some .int) RX11 false (xRm 1 0 0) (xZf (some (xI rE), wE) 0 0) 0 [(0, xR x0), (1, xI x1), (2, xI x2), (3, xI x3), (4, xI x4), (5, xI x5), (6, xI x6)] [] w 0 0
  unfold f_X11_stand at h
  refine x_iload_n (j := 1) (i := 1) dX11_stand_0 rfl rfl ?_
  refine x_iconst (v := 0) dX11_stand_1 (by decide) ?_
  refine x_iconst (v := 4) dX11_stand_2 (by decide) ?_
  obtain ⟨v1, w2, hc3, h⟩ := bd_s h
  refine x_callSI dX11_stand_3 ml_RX11_117 mb_X11_in (c_X11_in x1 (0 : Int32) (4 : Int32) w v1 w2 hc3) [] rfl rfl (Nat.le_of_ble_eq_true rfl) (by decide) (by decide) ?_
  refine x_if_eq (tgt := 60) dX11_stand_6 (by decide) (fun hc4 => ?_) (fun hc4 => ?_)
  · rw [if_pos hc4] at h
    refine x_bipush (v := -2) dX11_stand_60 (by decide) ?_
    obtain ⟨hr9, hw9⟩ := Prod.mk.inj (Option.some.inj h)
    subst hw9
    subst hr9
    exact x_iret dX11_stand_62 rfl rfl
  · rw [if_neg hc4] at h
    refine x_iload_n (j := 2) (i := 2) dX11_stand_9 rfl rfl ?_
    refine x_iconst (v := 0) dX11_stand_10 (by decide) ?_
    refine x_bipush (v := 7) dX11_stand_11 (by decide) ?_
    obtain ⟨v5, w6, hc7, h⟩ := bd_s h
    refine x_callSI dX11_stand_13 ml_RX11_117 mb_X11_in (c_X11_in x2 (0 : Int32) (7 : Int32) w2 v5 w6 hc7) [] rfl rfl (Nat.le_of_ble_eq_true rfl) (by decide) (by decide) ?_
    refine x_if_eq (tgt := 60) dX11_stand_16 (by decide) (fun hc8 => ?_) (fun hc8 => ?_)
    · rw [if_pos hc8] at h
      refine x_bipush (v := -2) dX11_stand_60 (by decide) ?_
      obtain ⟨hr9, hw9⟩ := Prod.mk.inj (Option.some.inj h)
      subst hw9
      subst hr9
      exact x_iret dX11_stand_62 rfl rfl
    · rw [if_neg hc8] at h
      refine x_iload_n (j := 3) (i := 3) dX11_stand_19 rfl rfl ?_
      refine x_iconst (v := 0) dX11_stand_20 (by decide) ?_
      refine x_bipush (v := 9) dX11_stand_21 (by decide) ?_
      obtain ⟨v9, w10, hc11, h⟩ := bd_s h
      refine x_callSI dX11_stand_23 ml_RX11_117 mb_X11_in (c_X11_in x3 (0 : Int32) (9 : Int32) w6 v9 w10 hc11) [] rfl rfl (Nat.le_of_ble_eq_true rfl) (by decide) (by decide) ?_
      refine x_if_eq (tgt := 60) dX11_stand_26 (by decide) (fun hc12 => ?_) (fun hc12 => ?_)
      · rw [if_pos hc12] at h
        refine x_bipush (v := -2) dX11_stand_60 (by decide) ?_
        obtain ⟨hr9, hw9⟩ := Prod.mk.inj (Option.some.inj h)
        subst hw9
        subst hr9
        exact x_iret dX11_stand_62 rfl rfl
      · rw [if_neg hc12] at h
        refine x_iload (j := 4) (i := 4) dX11_stand_29 rfl ?_
        refine x_iconst (v := 1) dX11_stand_31 (by decide) ?_
        refine x_iconst (v := 4) dX11_stand_32 (by decide) ?_
        obtain ⟨v13, w14, hc15, h⟩ := bd_s h
        refine x_callSI dX11_stand_33 ml_RX11_117 mb_X11_in (c_X11_in x4 (1 : Int32) (4 : Int32) w10 v13 w14 hc15) [] rfl rfl (Nat.le_of_ble_eq_true rfl) (by decide) (by decide) ?_
        refine x_if_eq (tgt := 60) dX11_stand_36 (by decide) (fun hc16 => ?_) (fun hc16 => ?_)
        · rw [if_pos hc16] at h
          refine x_bipush (v := -2) dX11_stand_60 (by decide) ?_
          obtain ⟨hr9, hw9⟩ := Prod.mk.inj (Option.some.inj h)
          subst hw9
          subst hr9
          exact x_iret dX11_stand_62 rfl rfl
        · rw [if_neg hc16] at h
          refine x_iload (j := 5) (i := 5) dX11_stand_39 rfl ?_
          refine x_iconst (v := 1) dX11_stand_41 (by decide) ?_
          refine x_iconst (v := 4) dX11_stand_42 (by decide) ?_
          obtain ⟨v17, w18, hc19, h⟩ := bd_s h
          refine x_callSI dX11_stand_43 ml_RX11_117 mb_X11_in (c_X11_in x5 (1 : Int32) (4 : Int32) w14 v17 w18 hc19) [] rfl rfl (Nat.le_of_ble_eq_true rfl) (by decide) (by decide) ?_
          refine x_if_eq (tgt := 60) dX11_stand_46 (by decide) (fun hc20 => ?_) (fun hc20 => ?_)
          · rw [if_pos hc20] at h
            refine x_bipush (v := -2) dX11_stand_60 (by decide) ?_
            obtain ⟨hr9, hw9⟩ := Prod.mk.inj (Option.some.inj h)
            subst hw9
            subst hr9
            exact x_iret dX11_stand_62 rfl rfl
          · rw [if_neg hc20] at h
            refine x_iload (j := 6) (i := 6) dX11_stand_49 rfl ?_
            refine x_iconst (v := 0) dX11_stand_51 (by decide) ?_
            refine x_bipush (v := 99) dX11_stand_52 (by decide) ?_
            obtain ⟨v21, w22, hc23, h⟩ := bd_s h
            refine x_callSI dX11_stand_54 ml_RX11_117 mb_X11_in (c_X11_in x6 (0 : Int32) (99 : Int32) w18 v21 w22 hc23) [] rfl rfl (Nat.le_of_ble_eq_true rfl) (by decide) (by decide) ?_
            refine x_if_ne (tgt := 63) dX11_stand_57 (by decide) (fun hc24 => ?_) (fun hc24 => ?_)
            · rw [if_neg hc24] at h
              refine x_aload_n (j := 0) (i := 0) dX11_stand_63 rfl rfl ?_
              obtain ⟨g25, h⟩ := gd_some h
              refine x_getI (ci := 11) (k := 5) dX11_stand_64 lf_RX11_121 rfl g25 ?_
              refine x_bipush (v := 9) dX11_stand_67 (by decide) ?_
              refine x_icmp_ne (tgt := 75) dX11_stand_69 (by decide) (fun hc26 => ?_) (fun hc26 => ?_)
              · rw [if_neg hc26] at h
                refine x_aload_n (j := 0) (i := 0) dX11_stand_75 rfl rfl ?_
                refine x_getR (ci := 11) (k := 6) dX11_stand_76 lf_RX11_20 rfl g25 ?_
                refine x_aload_n (j := 0) (i := 0) dX11_stand_79 rfl rfl ?_
                refine x_getI (ci := 11) (k := 5) dX11_stand_80 lf_RX11_121 rfl g25 ?_
                refine x_iload_n (j := 1) (i := 1) dX11_stand_83 rfl rfl ?_
                obtain ⟨g27, h⟩ := gd_some h
                obtain ⟨g28, h⟩ := gd_some h
                obtain ⟨w29, hw30, h⟩ := lt1_some h
                refine x_iast dX11_stand_84 g27 g28 ?_
                rw [← hw30]
                refine x_aload_n (j := 0) (i := 0) dX11_stand_85 rfl rfl ?_
                have g31 : isC w29 x0 11 := by rw [hw30]; exact g25
                refine x_getR (ci := 11) (k := 7) dX11_stand_86 lf_RX11_23 rfl g31 ?_
                refine x_aload_n (j := 0) (i := 0) dX11_stand_89 rfl rfl ?_
                refine x_getI (ci := 11) (k := 5) dX11_stand_90 lf_RX11_121 rfl g31 ?_
                refine x_iload_n (j := 2) (i := 2) dX11_stand_93 rfl rfl ?_
                obtain ⟨g32, h⟩ := gd_some h
                obtain ⟨g33, h⟩ := gd_some h
                obtain ⟨w34, hw35, h⟩ := lt1_some h
                refine x_iast dX11_stand_94 g32 g33 ?_
                rw [← hw35]
                refine x_aload_n (j := 0) (i := 0) dX11_stand_95 rfl rfl ?_
                have g36 : isC w34 x0 11 := by rw [hw35]; exact g31
                refine x_getR (ci := 11) (k := 8) dX11_stand_96 lf_RX11_26 rfl g36 ?_
                refine x_aload_n (j := 0) (i := 0) dX11_stand_99 rfl rfl ?_
                refine x_getI (ci := 11) (k := 5) dX11_stand_100 lf_RX11_121 rfl g36 ?_
                refine x_iload_n (j := 3) (i := 3) dX11_stand_103 rfl rfl ?_
                obtain ⟨g37, h⟩ := gd_some h
                obtain ⟨g38, h⟩ := gd_some h
                obtain ⟨w39, hw40, h⟩ := lt1_some h
                refine x_iast dX11_stand_104 g37 g38 ?_
                rw [← hw40]
                refine x_aload_n (j := 0) (i := 0) dX11_stand_105 rfl rfl ?_
                have g41 : isC w39 x0 11 := by rw [hw40]; exact g36
                refine x_getR (ci := 11) (k := 9) dX11_stand_106 lf_RX11_29 rfl g41 ?_
                refine x_aload_n (j := 0) (i := 0) dX11_stand_109 rfl rfl ?_
                refine x_getI (ci := 11) (k := 5) dX11_stand_110 lf_RX11_121 rfl g41 ?_
                refine x_iload (j := 4) (i := 4) dX11_stand_113 rfl ?_
                obtain ⟨g42, h⟩ := gd_some h
                obtain ⟨g43, h⟩ := gd_some h
                obtain ⟨w44, hw45, h⟩ := lt1_some h
                refine x_iast dX11_stand_115 g42 g43 ?_
                rw [← hw45]
                refine x_aload_n (j := 0) (i := 0) dX11_stand_116 rfl rfl ?_
                have g46 : isC w44 x0 11 := by rw [hw45]; exact g41
                refine x_getR (ci := 11) (k := 10) dX11_stand_117 lf_RX11_32 rfl g46 ?_
                refine x_aload_n (j := 0) (i := 0) dX11_stand_120 rfl rfl ?_
                refine x_getI (ci := 11) (k := 5) dX11_stand_121 lf_RX11_121 rfl g46 ?_
                refine x_iload (j := 5) (i := 5) dX11_stand_124 rfl ?_
                obtain ⟨g47, h⟩ := gd_some h
                obtain ⟨g48, h⟩ := gd_some h
                obtain ⟨w49, hw50, h⟩ := lt1_some h
                refine x_iast dX11_stand_126 g47 g48 ?_
                rw [← hw50]
                refine x_aload_n (j := 0) (i := 0) dX11_stand_127 rfl rfl ?_
                have g51 : isC w49 x0 11 := by rw [hw50]; exact g46
                refine x_getR (ci := 11) (k := 11) dX11_stand_128 lf_RX11_35 rfl g51 ?_
                refine x_aload_n (j := 0) (i := 0) dX11_stand_131 rfl rfl ?_
                refine x_getI (ci := 11) (k := 5) dX11_stand_132 lf_RX11_121 rfl g51 ?_
                refine x_iload (j := 6) (i := 6) dX11_stand_135 rfl ?_
                obtain ⟨g52, h⟩ := gd_some h
                obtain ⟨g53, h⟩ := gd_some h
                obtain ⟨w54, hw55, h⟩ := lt1_some h
                refine x_iast dX11_stand_137 g52 g53 ?_
                rw [← hw55]
                refine x_aload_n (j := 0) (i := 0) dX11_stand_138 rfl rfl ?_
                have g56 : isC w54 x0 11 := by rw [hw55]; exact g51
                refine x_getR (ci := 11) (k := 12) dX11_stand_139 lf_RX11_38 rfl g56 ?_
                refine x_aload_n (j := 0) (i := 0) dX11_stand_142 rfl rfl ?_
                refine x_getI (ci := 11) (k := 5) dX11_stand_143 lf_RX11_121 rfl g56 ?_
                refine x_iconst (v := -1) dX11_stand_146 (by decide) ?_
                obtain ⟨g57, h⟩ := gd_some h
                obtain ⟨g58, h⟩ := gd_some h
                obtain ⟨w59, hw60, h⟩ := lt1_some h
                refine x_iast dX11_stand_147 g57 g58 ?_
                rw [← hw60]
                refine x_aload_n (j := 0) (i := 0) dX11_stand_148 rfl rfl ?_
                have g61 : isC w59 x0 11 := by rw [hw60]; exact g56
                refine x_getR (ci := 11) (k := 13) dX11_stand_149 lf_RX11_41 rfl g61 ?_
                refine x_aload_n (j := 0) (i := 0) dX11_stand_152 rfl rfl ?_
                refine x_getI (ci := 11) (k := 5) dX11_stand_153 lf_RX11_121 rfl g61 ?_
                refine x_iconst (v := -1) dX11_stand_156 (by decide) ?_
                obtain ⟨g62, h⟩ := gd_some h
                obtain ⟨g63, h⟩ := gd_some h
                obtain ⟨w64, hw65, h⟩ := lt1_some h
                refine x_iast dX11_stand_157 g62 g63 ?_
                rw [← hw65]
                refine x_aload_n (j := 0) (i := 0) dX11_stand_158 rfl rfl ?_
                refine x_dup dX11_stand_159 rfl ?_
                have g66 : isC w64 x0 11 := by rw [hw65]; exact g61
                refine x_getI (ci := 11) (k := 5) dX11_stand_160 lf_RX11_121 rfl g66 ?_
                refine x_iconst (v := 1) dX11_stand_163 (by decide) ?_
                refine x_iadd dX11_stand_164 ?_
                obtain ⟨w67, hw68, h⟩ := lt1_some h
                refine x_putI (ci := 11) (k := 5) dX11_stand_165 (lw_RX11_121_w _) rfl g66 ?_
                rw [← hw68]
                refine x_aload_n (j := 0) (i := 0) dX11_stand_168 rfl rfl ?_
                have g69 : isC w67 x0 11 := by rw [hw68]; exact g66
                refine x_getI (ci := 11) (k := 5) dX11_stand_169 lf_RX11_121 rfl g69 ?_
                refine x_iconst (v := 1) dX11_stand_172 (by decide) ?_
                refine x_isub dX11_stand_173 ?_
                obtain ⟨hr9, hw9⟩ := Prod.mk.inj (Option.some.inj h)
                subst hw9
                subst hr9
                exact x_iret dX11_stand_174 rfl rfl
              · rw [if_pos hc26] at h
                refine x_bipush (v := -4) dX11_stand_72 (by decide) ?_
                obtain ⟨hr9, hw9⟩ := Prod.mk.inj (Option.some.inj h)
                subst hw9
                subst hr9
                exact x_iret dX11_stand_74 rfl rfl
            · rw [if_pos hc24] at h
              refine x_bipush (v := -2) dX11_stand_60 (by decide) ?_
              obtain ⟨hr9, hw9⟩ := Prod.mk.inj (Option.some.inj h)
              subst hw9
              subst hr9
              exact x_iret dX11_stand_62 rfl rfl
set_option maxRecDepth 20000 in
theorem c_X11_covers (x0 : Nat) (x1 : Int32) (x2 : Int32) (x3 : Int32) (w : xSt) (rE : Int32) (wE : xSt) (h : f_X11_covers x0 x1 x2 x3 w = some (rE, wE)) : xCall yX11_covers cX11_covers 4 (some .boolean) 1 0 0 [xR x0, xI x1, xI x2, xI x3] w (some (xI rE), wE) := by
  refine xCall_of false (by decide) (fun q => nomatch q) (Nat.le_of_ble_eq_true rfl) ?_
  show xX cX11_covers 4 (some .boolean) RX11 false (xRm 1 0 0) (xZf (some (xI rE), wE) 0 0) 0 [(0, xR x0), (1, xI x1), (2, xI x2), (3, xI x3)] [] w 0 0
  unfold f_X11_covers at h
  refine x_iload_n (j := 3) (i := 3) dX11_covers_0 rfl rfl ?_
  refine x_aload_n (j := 0) (i := 0) dX11_covers_1 rfl rfl ?_
  obtain ⟨g1, h⟩ := gd_some h
  refine x_getI (ci := 11) (k := 0) dX11_covers_2 lf_RX11_111 rfl g1 ?_
  obtain ⟨g2, h⟩ := gd_some h
  refine x_irem dX11_covers_5 g2 ?_
  refine x_iload_n (j := 2) (i := 2) dX11_covers_6 rfl rfl ?_
  refine x_aload_n (j := 0) (i := 0) dX11_covers_7 rfl rfl ?_
  refine x_getI (ci := 11) (k := 0) dX11_covers_8 lf_RX11_111 rfl g1 ?_
  obtain ⟨g3, h⟩ := gd_some h
  refine x_irem dX11_covers_11 g3 ?_
  refine x_iload_n (j := 2) (i := 2) dX11_covers_12 rfl rfl ?_
  refine x_aload_n (j := 0) (i := 0) dX11_covers_13 rfl rfl ?_
  refine x_getI (ci := 11) (k := 0) dX11_covers_14 lf_RX11_111 rfl g1 ?_
  obtain ⟨g4, h⟩ := gd_some h
  refine x_irem dX11_covers_17 g4 ?_
  refine x_aload_n (j := 0) (i := 0) dX11_covers_18 rfl rfl ?_
  refine x_getR (ci := 11) (k := 9) dX11_covers_19 lf_RX11_29 rfl g1 ?_
  refine x_iload_n (j := 1) (i := 1) dX11_covers_22 rfl rfl ?_
  obtain ⟨g5, h⟩ := gd_some h
  obtain ⟨g6, h⟩ := gd_some h
  refine x_iald dX11_covers_23 g5 g6 ?_
  refine x_iadd dX11_covers_24 ?_
  refine x_iconst (v := 1) dX11_covers_25 (by decide) ?_
  refine x_isub dX11_covers_26 ?_
  obtain ⟨v7, w8, hc9, h⟩ := bd_s h
  refine x_callSI dX11_covers_27 ml_RX11_117 mb_X11_in (c_X11_in (x3 - x3 / (wI w x0 0) * (wI w x0 0)) (x2 - x2 / (wI w x0 0) * (wI w x0 0)) (((x2 - x2 / (wI w x0 0) * (wI w x0 0)) + (wI w (wR w x0 9) x1.toNatClampNeg)) - (1 : Int32)) w v7 w8 hc9) [] rfl rfl (Nat.le_of_ble_eq_true rfl) (by decide) (by decide) ?_
  refine x_if_eq (tgt := 70) dX11_covers_30 (by decide) (fun hc10 => ?_) (fun hc10 => ?_)
  · rw [if_pos hc10] at h
    refine x_iconst (v := 0) dX11_covers_70 (by decide) ?_
    obtain ⟨hr9, hw9⟩ := Prod.mk.inj (Option.some.inj h)
    subst hw9
    subst hr9
    exact x_zret dX11_covers_71 rfl (by decide) rfl
  · rw [if_neg hc10] at h
    refine x_iload_n (j := 3) (i := 3) dX11_covers_33 rfl rfl ?_
    refine x_aload_n (j := 0) (i := 0) dX11_covers_34 rfl rfl ?_
    obtain ⟨g11, h⟩ := gd_some h
    refine x_getI (ci := 11) (k := 0) dX11_covers_35 lf_RX11_111 rfl g11 ?_
    obtain ⟨g12, h⟩ := gd_some h
    refine x_idiv dX11_covers_38 g12 ?_
    refine x_iload_n (j := 2) (i := 2) dX11_covers_39 rfl rfl ?_
    refine x_aload_n (j := 0) (i := 0) dX11_covers_40 rfl rfl ?_
    refine x_getI (ci := 11) (k := 0) dX11_covers_41 lf_RX11_111 rfl g11 ?_
    obtain ⟨g13, h⟩ := gd_some h
    refine x_idiv dX11_covers_44 g13 ?_
    refine x_iload_n (j := 2) (i := 2) dX11_covers_45 rfl rfl ?_
    refine x_aload_n (j := 0) (i := 0) dX11_covers_46 rfl rfl ?_
    refine x_getI (ci := 11) (k := 0) dX11_covers_47 lf_RX11_111 rfl g11 ?_
    obtain ⟨g14, h⟩ := gd_some h
    refine x_idiv dX11_covers_50 g14 ?_
    refine x_aload_n (j := 0) (i := 0) dX11_covers_51 rfl rfl ?_
    refine x_getR (ci := 11) (k := 10) dX11_covers_52 lf_RX11_32 rfl g11 ?_
    refine x_iload_n (j := 1) (i := 1) dX11_covers_55 rfl rfl ?_
    obtain ⟨g15, h⟩ := gd_some h
    obtain ⟨g16, h⟩ := gd_some h
    refine x_iald dX11_covers_56 g15 g16 ?_
    refine x_iadd dX11_covers_57 ?_
    refine x_iconst (v := 1) dX11_covers_58 (by decide) ?_
    refine x_isub dX11_covers_59 ?_
    obtain ⟨v17, w18, hc19, h⟩ := bd_s h
    refine x_callSI dX11_covers_60 ml_RX11_117 mb_X11_in (c_X11_in (x3 / (wI w8 x0 0)) (x2 / (wI w8 x0 0)) (((x2 / (wI w8 x0 0)) + (wI w8 (wR w8 x0 10) x1.toNatClampNeg)) - (1 : Int32)) w8 v17 w18 hc19) [] rfl rfl (Nat.le_of_ble_eq_true rfl) (by decide) (by decide) ?_
    refine x_if_eq (tgt := 70) dX11_covers_63 (by decide) (fun hc20 => ?_) (fun hc20 => ?_)
    · rw [if_pos hc20] at h
      refine x_iconst (v := 0) dX11_covers_70 (by decide) ?_
      obtain ⟨hr9, hw9⟩ := Prod.mk.inj (Option.some.inj h)
      subst hw9
      subst hr9
      exact x_zret dX11_covers_71 rfl (by decide) rfl
    · rw [if_neg hc20] at h
      refine x_iconst (v := 1) dX11_covers_66 (by decide) ?_
      refine x_goto (tgt := 71) dX11_covers_67 (by decide) ?_
      obtain ⟨hr9, hw9⟩ := Prod.mk.inj (Option.some.inj h)
      subst hw9
      subst hr9
      exact x_zret dX11_covers_71 rfl (by decide) rfl
set_option maxRecDepth 20000 in
theorem k_X11_standOn_l2 (rE : Int32) (wE : xSt) : ∀ (n : Nat) (x0 : Nat) (x1 : Int32) (x2 : Int32) (w : xSt), f_X11_standOn_l2 n x0 x1 x2 w = some (rE, wE) → xX cX11_standOn 3 (some .int) RX11 false (xRm 2 0 0) (xZf (some (xI rE), wE) 0 0) 2 [(0, xR x0), (1, xI x1), (2, xI x2)] [] w 0 0 := by
  intro n
  induction n with
  | zero => intro x0 x1 x2 w h; exact nomatch (show (none : Option (Int32 × xSt)) = some (rE, wE) from h)
  | succ n ih =>
    intro x0 x1 x2 w h
    rw [f_X11_standOn_l2_s] at h
    refine x_iload_n (j := 2) (i := 2) dX11_standOn_2 rfl rfl ?_
    refine x_aload_n (j := 0) (i := 0) dX11_standOn_3 rfl rfl ?_
    obtain ⟨g1, h⟩ := gd_some h
    refine x_getI (ci := 11) (k := 5) dX11_standOn_4 lf_RX11_121 rfl g1 ?_
    refine x_icmp_ge (tgt := 43) dX11_standOn_7 (by decide) (fun hc2 => ?_) (fun hc2 => ?_)
    · rw [if_pos hc2] at h
      refine x_iconst (v := -1) dX11_standOn_43 (by decide) ?_
      obtain ⟨hr9, hw9⟩ := Prod.mk.inj (Option.some.inj h)
      subst hw9
      subst hr9
      exact x_iret dX11_standOn_44 rfl rfl
    · rw [if_neg hc2] at h
      refine x_aload_n (j := 0) (i := 0) dX11_standOn_10 rfl rfl ?_
      refine x_getR (ci := 11) (k := 12) dX11_standOn_11 lf_RX11_38 rfl g1 ?_
      refine x_iload_n (j := 2) (i := 2) dX11_standOn_14 rfl rfl ?_
      obtain ⟨g3, h⟩ := gd_some h
      obtain ⟨g4, h⟩ := gd_some h
      refine x_iald dX11_standOn_15 g3 g4 ?_
      refine x_iconst (v := -1) dX11_standOn_16 (by decide) ?_
      refine x_icmp_eq (tgt := 37) dX11_standOn_17 (by decide) (fun hc5 => ?_) (fun hc5 => ?_)
      · rw [if_pos hc5] at h
        refine x_iinc (j := 2) (i := 2) (v := x2 + (1 : Int32)) (lv2 := [(2, xI (x2 + (1 : Int32))), (0, xR x0), (1, xI x1)]) dX11_standOn_37 rfl rfl (by decide) rfl ?_
        refine x_goto (tgt := 2) dX11_standOn_40 (by decide) ?_
        refine x_lv (lv2 := [(0, xR x0), (1, xI x1), (2, xI (x2 + (1 : Int32)))]) [1, 2, 0] rfl ?_
        exact ih x0 x1 (x2 + (1 : Int32)) w h
      · rw [if_neg hc5] at h
        refine x_aload_n (j := 0) (i := 0) dX11_standOn_20 rfl rfl ?_
        refine x_iload_n (j := 2) (i := 2) dX11_standOn_21 rfl rfl ?_
        refine x_aload_n (j := 0) (i := 0) dX11_standOn_22 rfl rfl ?_
        refine x_getR (ci := 11) (k := 12) dX11_standOn_23 lf_RX11_38 rfl g1 ?_
        refine x_iload_n (j := 2) (i := 2) dX11_standOn_26 rfl rfl ?_
        refine x_iald dX11_standOn_27 g3 g4 ?_
        refine x_iload_n (j := 1) (i := 1) dX11_standOn_28 rfl rfl ?_
        obtain ⟨v6, w7, hc8, h⟩ := bd_s h
        refine x_callVI (ci := 11) dX11_standOn_29 ml_RX11_138 mb_X11_covers (c_X11_covers x0 x2 (wI w (wR w x0 12) x2.toNatClampNeg) x1 w v6 w7 hc8) ⟨_, rfl, rfl⟩ g1 [] rfl rfl (Nat.le_of_ble_eq_true rfl) (by decide) (by decide) ?_
        refine x_if_eq (tgt := 37) dX11_standOn_32 (by decide) (fun hc9 => ?_) (fun hc9 => ?_)
        · rw [if_pos hc9] at h
          refine x_iinc (j := 2) (i := 2) (v := x2 + (1 : Int32)) (lv2 := [(2, xI (x2 + (1 : Int32))), (0, xR x0), (1, xI x1)]) dX11_standOn_37 rfl rfl (by decide) rfl ?_
          refine x_goto (tgt := 2) dX11_standOn_40 (by decide) ?_
          refine x_lv (lv2 := [(0, xR x0), (1, xI x1), (2, xI (x2 + (1 : Int32)))]) [1, 2, 0] rfl ?_
          exact ih x0 x1 (x2 + (1 : Int32)) w7 h
        · rw [if_neg hc9] at h
          refine x_iload_n (j := 2) (i := 2) dX11_standOn_35 rfl rfl ?_
          obtain ⟨hr9, hw9⟩ := Prod.mk.inj (Option.some.inj h)
          subst hw9
          subst hr9
          exact x_iret dX11_standOn_36 rfl rfl
set_option maxRecDepth 20000 in
theorem c_X11_standOn (x0 : Nat) (x1 : Int32) (w : xSt) (rE : Int32) (wE : xSt) (h : f_X11_standOn x0 x1 w = some (rE, wE)) : xCall yX11_standOn cX11_standOn 3 (some .int) 2 0 0 [xR x0, xI x1] w (some (xI rE), wE) := by
  refine xCall_of false (by decide) (fun q => nomatch q) (Nat.le_of_ble_eq_true rfl) ?_
  show xX cX11_standOn 3 (some .int) RX11 false (xRm 2 0 0) (xZf (some (xI rE), wE) 0 0) 0 [(0, xR x0), (1, xI x1)] [] w 0 0
  unfold f_X11_standOn at h
  refine x_iconst (v := 0) dX11_standOn_0 (by decide) ?_
  refine x_istore_n (i := 2) (lv2 := [(2, xI (0 : Int32)), (0, xR x0), (1, xI x1)]) dX11_standOn_1 rfl (by decide) rfl ?_
  refine x_lv (lv2 := [(0, xR x0), (1, xI x1), (2, xI (0 : Int32))]) [1, 2, 0] rfl ?_
  exact k_X11_standOn_l2 rE wE xFu x0 x1 (0 : Int32) w h
set_option maxRecDepth 20000 in
theorem k_X11_isBeside_b96 (rE : Int32) (wE : xSt) (x0 : Nat) (x1 : Int32) (x2 : Int32) (s0 : Int32) (w : xSt) (h : f_X11_isBeside_b96 x0 x1 x2 s0 w = some (rE, wE)) : xX cX11_isBeside 4 (some .boolean) RX11 false (xRm 0 0 0) (xZf (some (xI rE), wE) 0 0) 96 [(0, xR x0), (1, xI x1), (2, xI x2)] [xI s0] w 0 0 := by
  unfold f_X11_isBeside_b96 at h
  refine x_istore_n (i := 3) (lv2 := [(3, xI s0), (0, xR x0), (1, xI x1), (2, xI x2)]) dX11_isBeside_96 rfl (by decide) rfl ?_
  refine x_iload_n (j := 0) (i := 3) dX11_isBeside_97 rfl rfl ?_
  refine x_if_ne (tgt := 131) dX11_isBeside_98 (by decide) (fun hc20 => ?_) (fun hc20 => ?_)
  · rw [if_neg hc20] at h
    refine x_iconst (v := 1) dX11_isBeside_131 (by decide) ?_
    refine x_goto (tgt := 136) dX11_isBeside_132 (by decide) ?_
    obtain ⟨hr9, hw9⟩ := Prod.mk.inj (Option.some.inj h)
    subst hw9
    subst hr9
    exact x_zret dX11_isBeside_136 rfl (by decide) rfl
  · rw [if_pos hc20] at h
    refine x_iload_n (j := 2) (i := 1) dX11_isBeside_101 rfl rfl ?_
    refine x_aload_n (j := 1) (i := 0) dX11_isBeside_102 rfl rfl ?_
    obtain ⟨g21, h⟩ := gd_some h
    refine x_getI (ci := 11) (k := 0) dX11_isBeside_103 lf_RX11_111 rfl g21 ?_
    refine x_aload_n (j := 1) (i := 0) dX11_isBeside_106 rfl rfl ?_
    refine x_getI (ci := 11) (k := 1) dX11_isBeside_107 lf_RX11_114 rfl g21 ?_
    refine x_iconst (v := 1) dX11_isBeside_110 (by decide) ?_
    refine x_isub dX11_isBeside_111 ?_
    refine x_imul dX11_isBeside_112 ?_
    refine x_icmp_ge (tgt := 135) dX11_isBeside_113 (by decide) (fun hc22 => ?_) (fun hc22 => ?_)
    · rw [if_pos hc22] at h
      refine x_iconst (v := 0) dX11_isBeside_135 (by decide) ?_
      obtain ⟨hr9, hw9⟩ := Prod.mk.inj (Option.some.inj h)
      subst hw9
      subst hr9
      exact x_zret dX11_isBeside_136 rfl (by decide) rfl
    · rw [if_neg hc22] at h
      refine x_aload_n (j := 1) (i := 0) dX11_isBeside_116 rfl rfl ?_
      refine x_getR (ci := 11) (k := 2) dX11_isBeside_117 lf_RX11_7 rfl g21 ?_
      refine x_iload_n (j := 2) (i := 1) dX11_isBeside_120 rfl rfl ?_
      refine x_aload_n (j := 1) (i := 0) dX11_isBeside_121 rfl rfl ?_
      refine x_getI (ci := 11) (k := 0) dX11_isBeside_122 lf_RX11_111 rfl g21 ?_
      refine x_iadd dX11_isBeside_125 ?_
      obtain ⟨g23, h⟩ := gd_some h
      obtain ⟨g24, h⟩ := gd_some h
      refine x_iald dX11_isBeside_126 g23 g24 ?_
      refine x_iload_n (j := 3) (i := 2) dX11_isBeside_127 rfl rfl ?_
      refine x_icmp_ne (tgt := 135) dX11_isBeside_128 (by decide) (fun hc25 => ?_) (fun hc25 => ?_)
      · rw [if_neg hc25] at h
        refine x_iconst (v := 0) dX11_isBeside_135 (by decide) ?_
        obtain ⟨hr9, hw9⟩ := Prod.mk.inj (Option.some.inj h)
        subst hw9
        subst hr9
        exact x_zret dX11_isBeside_136 rfl (by decide) rfl
      · rw [if_pos hc25] at h
        refine x_iconst (v := 1) dX11_isBeside_131 (by decide) ?_
        refine x_goto (tgt := 136) dX11_isBeside_132 (by decide) ?_
        obtain ⟨hr9, hw9⟩ := Prod.mk.inj (Option.some.inj h)
        subst hw9
        subst hr9
        exact x_zret dX11_isBeside_136 rfl (by decide) rfl
set_option maxRecDepth 20000 in
theorem k_X11_isBeside_b63 (rE : Int32) (wE : xSt) (x0 : Nat) (x1 : Int32) (x2 : Int32) (s0 : Int32) (w : xSt) (h : f_X11_isBeside_b63 x0 x1 x2 s0 w = some (rE, wE)) : xX cX11_isBeside 4 (some .boolean) RX11 false (xRm 0 0 0) (xZf (some (xI rE), wE) 0 0) 63 [(0, xR x0), (1, xI x1), (2, xI x2)] [xI s0] w 0 0 := by
  unfold f_X11_isBeside_b63 at h
  refine x_istore_n (i := 3) (lv2 := [(3, xI s0), (0, xR x0), (1, xI x1), (2, xI x2)]) dX11_isBeside_63 rfl (by decide) rfl ?_
  refine x_iload_n (j := 0) (i := 3) dX11_isBeside_64 rfl rfl ?_
  refine x_if_ne (tgt := 91) dX11_isBeside_65 (by decide) (fun hc14 => ?_) (fun hc14 => ?_)
  · rw [if_neg hc14] at h
    refine x_iconst (v := 1) dX11_isBeside_91 (by decide) ?_
    refine x_goto (tgt := 96) dX11_isBeside_92 (by decide) ?_
    refine x_lv (lv2 := [(0, xR x0), (1, xI x1), (2, xI x2)]) [1, 2, 3] rfl ?_
    exact k_X11_isBeside_b96 rE wE x0 x1 x2 (1 : Int32) w h
  · rw [if_pos hc14] at h
    refine x_iload_n (j := 2) (i := 1) dX11_isBeside_68 rfl rfl ?_
    refine x_aload_n (j := 1) (i := 0) dX11_isBeside_69 rfl rfl ?_
    obtain ⟨g15, h⟩ := gd_some h
    refine x_getI (ci := 11) (k := 0) dX11_isBeside_70 lf_RX11_111 rfl g15 ?_
    refine x_icmp_lt (tgt := 95) dX11_isBeside_73 (by decide) (fun hc16 => ?_) (fun hc16 => ?_)
    · rw [if_pos hc16] at h
      refine x_iconst (v := 0) dX11_isBeside_95 (by decide) ?_
      refine x_lv (lv2 := [(0, xR x0), (1, xI x1), (2, xI x2)]) [1, 2, 3] rfl ?_
      exact k_X11_isBeside_b96 rE wE x0 x1 x2 (0 : Int32) w h
    · rw [if_neg hc16] at h
      refine x_aload_n (j := 1) (i := 0) dX11_isBeside_76 rfl rfl ?_
      refine x_getR (ci := 11) (k := 2) dX11_isBeside_77 lf_RX11_7 rfl g15 ?_
      refine x_iload_n (j := 2) (i := 1) dX11_isBeside_80 rfl rfl ?_
      refine x_aload_n (j := 1) (i := 0) dX11_isBeside_81 rfl rfl ?_
      refine x_getI (ci := 11) (k := 0) dX11_isBeside_82 lf_RX11_111 rfl g15 ?_
      refine x_isub dX11_isBeside_85 ?_
      obtain ⟨g17, h⟩ := gd_some h
      obtain ⟨g18, h⟩ := gd_some h
      refine x_iald dX11_isBeside_86 g17 g18 ?_
      refine x_iload_n (j := 3) (i := 2) dX11_isBeside_87 rfl rfl ?_
      refine x_icmp_ne (tgt := 95) dX11_isBeside_88 (by decide) (fun hc19 => ?_) (fun hc19 => ?_)
      · rw [if_neg hc19] at h
        refine x_iconst (v := 0) dX11_isBeside_95 (by decide) ?_
        refine x_lv (lv2 := [(0, xR x0), (1, xI x1), (2, xI x2)]) [1, 2, 3] rfl ?_
        exact k_X11_isBeside_b96 rE wE x0 x1 x2 (0 : Int32) w h
      · rw [if_pos hc19] at h
        refine x_iconst (v := 1) dX11_isBeside_91 (by decide) ?_
        refine x_goto (tgt := 96) dX11_isBeside_92 (by decide) ?_
        refine x_lv (lv2 := [(0, xR x0), (1, xI x1), (2, xI x2)]) [1, 2, 3] rfl ?_
        exact k_X11_isBeside_b96 rE wE x0 x1 x2 (1 : Int32) w h
set_option maxRecDepth 20000 in
theorem k_X11_isBeside_b26 (rE : Int32) (wE : xSt) (x0 : Nat) (x1 : Int32) (x2 : Int32) (s0 : Int32) (w : xSt) (h : f_X11_isBeside_b26 x0 x1 x2 s0 w = some (rE, wE)) : xX cX11_isBeside 4 (some .boolean) RX11 false (xRm 0 0 0) (xZf (some (xI rE), wE) 0 0) 26 [(0, xR x0), (1, xI x1), (2, xI x2)] [xI s0] w 0 0 := by
  unfold f_X11_isBeside_b26 at h
  refine x_istore_n (i := 3) (lv2 := [(3, xI s0), (0, xR x0), (1, xI x1), (2, xI x2)]) dX11_isBeside_26 rfl (by decide) rfl ?_
  refine x_iload_n (j := 0) (i := 3) dX11_isBeside_27 rfl rfl ?_
  refine x_if_ne (tgt := 58) dX11_isBeside_28 (by decide) (fun hc7 => ?_) (fun hc7 => ?_)
  · rw [if_neg hc7] at h
    refine x_iconst (v := 1) dX11_isBeside_58 (by decide) ?_
    refine x_goto (tgt := 63) dX11_isBeside_59 (by decide) ?_
    refine x_lv (lv2 := [(0, xR x0), (1, xI x1), (2, xI x2)]) [1, 2, 3] rfl ?_
    exact k_X11_isBeside_b63 rE wE x0 x1 x2 (1 : Int32) w h
  · rw [if_pos hc7] at h
    refine x_iload_n (j := 2) (i := 1) dX11_isBeside_31 rfl rfl ?_
    refine x_aload_n (j := 1) (i := 0) dX11_isBeside_32 rfl rfl ?_
    obtain ⟨g8, h⟩ := gd_some h
    refine x_getI (ci := 11) (k := 0) dX11_isBeside_33 lf_RX11_111 rfl g8 ?_
    obtain ⟨g9, h⟩ := gd_some h
    refine x_irem dX11_isBeside_36 g9 ?_
    refine x_aload_n (j := 1) (i := 0) dX11_isBeside_37 rfl rfl ?_
    refine x_getI (ci := 11) (k := 0) dX11_isBeside_38 lf_RX11_111 rfl g8 ?_
    refine x_iconst (v := 1) dX11_isBeside_41 (by decide) ?_
    refine x_isub dX11_isBeside_42 ?_
    refine x_icmp_ge (tgt := 62) dX11_isBeside_43 (by decide) (fun hc10 => ?_) (fun hc10 => ?_)
    · rw [if_pos hc10] at h
      refine x_iconst (v := 0) dX11_isBeside_62 (by decide) ?_
      refine x_lv (lv2 := [(0, xR x0), (1, xI x1), (2, xI x2)]) [1, 2, 3] rfl ?_
      exact k_X11_isBeside_b63 rE wE x0 x1 x2 (0 : Int32) w h
    · rw [if_neg hc10] at h
      refine x_aload_n (j := 1) (i := 0) dX11_isBeside_46 rfl rfl ?_
      refine x_getR (ci := 11) (k := 2) dX11_isBeside_47 lf_RX11_7 rfl g8 ?_
      refine x_iload_n (j := 2) (i := 1) dX11_isBeside_50 rfl rfl ?_
      refine x_iconst (v := 1) dX11_isBeside_51 (by decide) ?_
      refine x_iadd dX11_isBeside_52 ?_
      obtain ⟨g11, h⟩ := gd_some h
      obtain ⟨g12, h⟩ := gd_some h
      refine x_iald dX11_isBeside_53 g11 g12 ?_
      refine x_iload_n (j := 3) (i := 2) dX11_isBeside_54 rfl rfl ?_
      refine x_icmp_ne (tgt := 62) dX11_isBeside_55 (by decide) (fun hc13 => ?_) (fun hc13 => ?_)
      · rw [if_neg hc13] at h
        refine x_iconst (v := 0) dX11_isBeside_62 (by decide) ?_
        refine x_lv (lv2 := [(0, xR x0), (1, xI x1), (2, xI x2)]) [1, 2, 3] rfl ?_
        exact k_X11_isBeside_b63 rE wE x0 x1 x2 (0 : Int32) w h
      · rw [if_pos hc13] at h
        refine x_iconst (v := 1) dX11_isBeside_58 (by decide) ?_
        refine x_goto (tgt := 63) dX11_isBeside_59 (by decide) ?_
        refine x_lv (lv2 := [(0, xR x0), (1, xI x1), (2, xI x2)]) [1, 2, 3] rfl ?_
        exact k_X11_isBeside_b63 rE wE x0 x1 x2 (1 : Int32) w h
set_option maxRecDepth 20000 in
theorem c_X11_isBeside (x0 : Nat) (x1 : Int32) (x2 : Int32) (w : xSt) (rE : Int32) (wE : xSt) (h : f_X11_isBeside x0 x1 x2 w = some (rE, wE)) : xCall yX11_isBeside cX11_isBeside 4 (some .boolean) 0 0 0 [xR x0, xI x1, xI x2] w (some (xI rE), wE) := by
  refine xCall_of false (by decide) (fun q => nomatch q) (Nat.le_of_ble_eq_true rfl) ?_
  show xX cX11_isBeside 4 (some .boolean) RX11 false (xRm 0 0 0) (xZf (some (xI rE), wE) 0 0) 0 [(0, xR x0), (1, xI x1), (2, xI x2)] [] w 0 0
  unfold f_X11_isBeside at h
  refine x_iload_n (j := 1) (i := 1) dX11_isBeside_0 rfl rfl ?_
  refine x_aload_n (j := 0) (i := 0) dX11_isBeside_1 rfl rfl ?_
  obtain ⟨g1, h⟩ := gd_some h
  refine x_getI (ci := 11) (k := 0) dX11_isBeside_2 lf_RX11_111 rfl g1 ?_
  obtain ⟨g2, h⟩ := gd_some h
  refine x_irem dX11_isBeside_5 g2 ?_
  refine x_if_le (tgt := 25) dX11_isBeside_6 (by decide) (fun hc3 => ?_) (fun hc3 => ?_)
  · rw [if_pos hc3] at h
    refine x_iconst (v := 0) dX11_isBeside_25 (by decide) ?_
    refine x_lv (lv2 := [(0, xR x0), (1, xI x1), (2, xI x2)]) [0, 1, 2] rfl ?_
    exact k_X11_isBeside_b26 rE wE x0 x1 x2 (0 : Int32) w h
  · rw [if_neg hc3] at h
    refine x_aload_n (j := 0) (i := 0) dX11_isBeside_9 rfl rfl ?_
    refine x_getR (ci := 11) (k := 2) dX11_isBeside_10 lf_RX11_7 rfl g1 ?_
    refine x_iload_n (j := 1) (i := 1) dX11_isBeside_13 rfl rfl ?_
    refine x_iconst (v := 1) dX11_isBeside_14 (by decide) ?_
    refine x_isub dX11_isBeside_15 ?_
    obtain ⟨g4, h⟩ := gd_some h
    obtain ⟨g5, h⟩ := gd_some h
    refine x_iald dX11_isBeside_16 g4 g5 ?_
    refine x_iload_n (j := 2) (i := 2) dX11_isBeside_17 rfl rfl ?_
    refine x_icmp_ne (tgt := 25) dX11_isBeside_18 (by decide) (fun hc6 => ?_) (fun hc6 => ?_)
    · rw [if_neg hc6] at h
      refine x_iconst (v := 0) dX11_isBeside_25 (by decide) ?_
      refine x_lv (lv2 := [(0, xR x0), (1, xI x1), (2, xI x2)]) [0, 1, 2] rfl ?_
      exact k_X11_isBeside_b26 rE wE x0 x1 x2 (0 : Int32) w h
    · rw [if_pos hc6] at h
      refine x_iconst (v := 1) dX11_isBeside_21 (by decide) ?_
      refine x_goto (tgt := 26) dX11_isBeside_22 (by decide) ?_
      refine x_lv (lv2 := [(0, xR x0), (1, xI x1), (2, xI x2)]) [0, 1, 2] rfl ?_
      exact k_X11_isBeside_b26 rE wE x0 x1 x2 (1 : Int32) w h
