set_option maxRecDepth 20000 in
theorem k_X3_average_l8 (rE : Int32) (wE : xSt) : ∀ (n : Nat) (x0 : Nat) (x1 : Int32) (x2 : Int32) (x3 : Int32) (x4 : Int32) (x5 : Int32) (w : xSt), f_X3_average_l8 n x0 x1 x2 x3 x4 x5 w = some (rE, wE) → xX cX3_average 7 (some .int) RX3 false (xRm 1 0 0) (xZf (some (xI rE), wE) 0 0) 8 [(0, xR x0), (1, xI x1), (2, xI x2), (3, xI x3), (4, xI x4), (5, xI x5)] [] w 0 0 := by
  intro n
  induction n with
  | zero => intro x0 x1 x2 x3 x4 x5 w h; exact nomatch (show (none : Option (Int32 × xSt)) = some (rE, wE) from h)
  | succ n ih =>
    intro x0 x1 x2 x3 x4 x5 w h
    rw [f_X3_average_l8_s] at h
    refine x_iload (j := 5) (i := 5) dX3_average_8 rfl ?_
    refine x_aload_n (j := 0) (i := 0) dX3_average_10 rfl rfl ?_
    obtain ⟨g1, h⟩ := gd_some h
    refine x_getI (ci := 3) (k := 4) dX3_average_11 lf_RX3_26 rfl g1 ?_
    refine x_icmp_ge (tgt := 66) dX3_average_14 (by decide) (fun hc2 => ?_) (fun hc2 => ?_)
    · rw [if_pos hc2] at h
      refine x_iload (j := 4) (i := 4) dX3_average_66 rfl ?_
      refine x_iconst (v := 2) dX3_average_68 (by decide) ?_
      refine x_icmp_ge (tgt := 76) dX3_average_69 (by decide) (fun hc3 => ?_) (fun hc3 => ?_)
      · rw [if_pos hc3] at h
        refine x_iload_n (j := 3) (i := 3) dX3_average_76 rfl rfl ?_
        refine x_iload (j := 4) (i := 4) dX3_average_77 rfl ?_
        obtain ⟨g4, h⟩ := gd_some h
        refine x_idiv dX3_average_79 g4 ?_
        obtain ⟨hr9, hw9⟩ := Prod.mk.inj (Option.some.inj h)
        subst hw9
        subst hr9
        exact x_iret dX3_average_80 rfl rfl
      · rw [if_neg hc3] at h
        refine x_iconst (v := -1) dX3_average_72 (by decide) ?_
        refine x_goto (tgt := 80) dX3_average_73 (by decide) ?_
        obtain ⟨hr9, hw9⟩ := Prod.mk.inj (Option.some.inj h)
        subst hw9
        subst hr9
        exact x_iret dX3_average_80 rfl rfl
    · rw [if_neg hc2] at h
      refine x_iload (j := 5) (i := 5) dX3_average_17 rfl ?_
      refine x_iload_n (j := 1) (i := 1) dX3_average_19 rfl rfl ?_
      obtain ⟨v5, w6, hc7, h⟩ := bd_s h
      refine x_callSI dX3_average_20 ml_RX3_38 mb_X3_slot (c_X3_slot x5 x1 w v5 w6 hc7) [] rfl rfl (Nat.le_of_ble_eq_true rfl) (by decide) (by decide) ?_
      refine x_istore (i := 6) (lv2 := [(6, xI v5), (0, xR x0), (1, xI x1), (2, xI x2), (3, xI x3), (4, xI x4), (5, xI x5)]) dX3_average_23 (by decide) rfl ?_
      refine x_aload_n (j := 1) (i := 0) dX3_average_25 rfl rfl ?_
      obtain ⟨g8, h⟩ := gd_some h
      refine x_getR (ci := 3) (k := 2) dX3_average_26 lf_RX3_20 rfl g8 ?_
      refine x_iload (j := 0) (i := 6) dX3_average_29 rfl ?_
      obtain ⟨g9, h⟩ := gd_some h
      obtain ⟨g10, h⟩ := gd_some h
      refine x_iald dX3_average_31 g9 g10 ?_
      refine x_iconst (v := -1) dX3_average_32 (by decide) ?_
      refine x_icmp_eq (tgt := 60) dX3_average_33 (by decide) (fun hc11 => ?_) (fun hc11 => ?_)
      · rw [if_pos hc11] at h
        refine x_iinc (j := 6) (i := 5) (v := x5 + (1 : Int32)) (lv2 := [(5, xI (x5 + (1 : Int32))), (6, xI v5), (0, xR x0), (1, xI x1), (2, xI x2), (3, xI x3), (4, xI x4)]) dX3_average_60 rfl rfl (by decide) rfl ?_
        refine x_goto (tgt := 8) dX3_average_63 (by decide) ?_
        refine x_lv (lv2 := [(0, xR x0), (1, xI x1), (2, xI x2), (3, xI x3), (4, xI x4), (5, xI (x5 + (1 : Int32)))]) [2, 3, 4, 5, 6, 0] rfl ?_
        exact ih x0 x1 x2 x3 x4 (x5 + (1 : Int32)) w6 h
      · rw [if_neg hc11] at h
        refine x_aload_n (j := 1) (i := 0) dX3_average_36 rfl rfl ?_
        refine x_getR (ci := 3) (k := 3) dX3_average_37 lf_RX3_23 rfl g8 ?_
        refine x_iload (j := 0) (i := 6) dX3_average_40 rfl ?_
        obtain ⟨g12, h⟩ := gd_some h
        obtain ⟨g13, h⟩ := gd_some h
        refine x_iald dX3_average_42 g12 g13 ?_
        refine x_iload_n (j := 3) (i := 2) dX3_average_43 rfl rfl ?_
        refine x_icmp_gt (tgt := 60) dX3_average_44 (by decide) (fun hc14 => ?_) (fun hc14 => ?_)
        · rw [if_pos hc14] at h
          refine x_iinc (j := 6) (i := 5) (v := x5 + (1 : Int32)) (lv2 := [(5, xI (x5 + (1 : Int32))), (6, xI v5), (0, xR x0), (1, xI x1), (2, xI x2), (3, xI x3), (4, xI x4)]) dX3_average_60 rfl rfl (by decide) rfl ?_
          refine x_goto (tgt := 8) dX3_average_63 (by decide) ?_
          refine x_lv (lv2 := [(0, xR x0), (1, xI x1), (2, xI x2), (3, xI x3), (4, xI x4), (5, xI (x5 + (1 : Int32)))]) [2, 3, 4, 5, 6, 0] rfl ?_
          exact ih x0 x1 x2 x3 x4 (x5 + (1 : Int32)) w6 h
        · rw [if_neg hc14] at h
          refine x_iload_n (j := 4) (i := 3) dX3_average_47 rfl rfl ?_
          refine x_aload_n (j := 1) (i := 0) dX3_average_48 rfl rfl ?_
          refine x_getR (ci := 3) (k := 2) dX3_average_49 lf_RX3_20 rfl g8 ?_
          refine x_iload (j := 0) (i := 6) dX3_average_52 rfl ?_
          refine x_iald dX3_average_54 g9 g10 ?_
          refine x_iadd dX3_average_55 ?_
          refine x_istore_n (i := 3) (lv2 := [(3, xI (x3 + (wI w6 (wR w6 x0 2) v5.toNatClampNeg))), (6, xI v5), (0, xR x0), (1, xI x1), (2, xI x2), (4, xI x4), (5, xI x5)]) dX3_average_56 rfl (by decide) rfl ?_
          refine x_iinc (j := 5) (i := 4) (v := x4 + (1 : Int32)) (lv2 := [(4, xI (x4 + (1 : Int32))), (3, xI (x3 + (wI w6 (wR w6 x0 2) v5.toNatClampNeg))), (6, xI v5), (0, xR x0), (1, xI x1), (2, xI x2), (5, xI x5)]) dX3_average_57 rfl rfl (by decide) rfl ?_
          refine x_iinc (j := 6) (i := 5) (v := x5 + (1 : Int32)) (lv2 := [(5, xI (x5 + (1 : Int32))), (4, xI (x4 + (1 : Int32))), (3, xI (x3 + (wI w6 (wR w6 x0 2) v5.toNatClampNeg))), (6, xI v5), (0, xR x0), (1, xI x1), (2, xI x2)]) dX3_average_60 rfl rfl (by decide) rfl ?_
          refine x_goto (tgt := 8) dX3_average_63 (by decide) ?_
          refine x_lv (lv2 := [(0, xR x0), (1, xI x1), (2, xI x2), (3, xI (x3 + (wI w6 (wR w6 x0 2) v5.toNatClampNeg))), (4, xI (x4 + (1 : Int32))), (5, xI (x5 + (1 : Int32)))]) [4, 5, 6, 2, 1, 0] rfl ?_
          exact ih x0 x1 x2 (x3 + (wI w6 (wR w6 x0 2) v5.toNatClampNeg)) (x4 + (1 : Int32)) (x5 + (1 : Int32)) w6 h
set_option maxRecDepth 20000 in
theorem c_X3_average (x0 : Nat) (x1 : Int32) (x2 : Int32) (w : xSt) (rE : Int32) (wE : xSt) (h : f_X3_average x0 x1 x2 w = some (rE, wE)) : xCall yX3_average cX3_average 7 (some .int) 1 0 0 [xR x0, xI x1, xI x2] w (some (xI rE), wE) := by
  refine xCall_of false (by decide) (fun q => nomatch q) (Nat.le_of_ble_eq_true rfl) ?_
  show xX cX3_average 7 (some .int) RX3 false (xRm 1 0 0) (xZf (some (xI rE), wE) 0 0) 0 [(0, xR x0), (1, xI x1), (2, xI x2)] [] w 0 0
  unfold f_X3_average at h
  refine x_iconst (v := 0) dX3_average_0 (by decide) ?_
  refine x_istore_n (i := 3) (lv2 := [(3, xI (0 : Int32)), (0, xR x0), (1, xI x1), (2, xI x2)]) dX3_average_1 rfl (by decide) rfl ?_
  refine x_iconst (v := 0) dX3_average_2 (by decide) ?_
  refine x_istore (i := 4) (lv2 := [(4, xI (0 : Int32)), (3, xI (0 : Int32)), (0, xR x0), (1, xI x1), (2, xI x2)]) dX3_average_3 (by decide) rfl ?_
  refine x_iconst (v := 0) dX3_average_5 (by decide) ?_
  refine x_istore (i := 5) (lv2 := [(5, xI (0 : Int32)), (4, xI (0 : Int32)), (3, xI (0 : Int32)), (0, xR x0), (1, xI x1), (2, xI x2)]) dX3_average_6 (by decide) rfl ?_
  refine x_lv (lv2 := [(0, xR x0), (1, xI x1), (2, xI x2), (3, xI (0 : Int32)), (4, xI (0 : Int32)), (5, xI (0 : Int32))]) [3, 4, 5, 2, 1, 0] rfl ?_
  exact k_X3_average_l8 rE wE xFu x0 x1 x2 (0 : Int32) (0 : Int32) (0 : Int32) w h
set_option maxRecDepth 20000 in
theorem c_X4_init (x0 : Nat) (w : xSt) (rE : Unit) (wE : xSt) (h : f_X4_init x0 w = some (rE, wE)) : xCall yX4_init cX4_init 1 none 1 0 0 [xR x0] w (none, wE) := by
  refine xCall_of true (by decide) (fun _ => rfl) (Nat.le_of_ble_eq_true rfl) ?_
  show xX cX4_init 1 none RX4 true (xRm 1 0 0) (xZf (none, wE) 0 0) 0 [(0, xR x0)] [] w 0 0
  unfold f_X4_init at h
  refine x_aload_n (j := 0) (i := 0) dX4_init_0 rfl rfl ?_
  obtain ⟨g1, h⟩ := gd_some h
  refine x_objInit dX4_init_1 lo_RX4_1 lo_inst lo_code g1 (Nat.le_of_ble_eq_true rfl) (by decide) (by decide) ?_
  obtain ⟨hr9, hw9⟩ := Prod.mk.inj (Option.some.inj h)
  subst hw9
  exact x_vret dX4_init_4 rfl rfl
set_option maxRecDepth 20000 in
theorem c_X4_isBehindLatest (x0 : Nat) (x1 : Int32) (w : xSt) (rE : Int32) (wE : xSt) (h : f_X4_isBehindLatest x0 x1 w = some (rE, wE)) : xCall yX4_isBehindLatest cX4_isBehindLatest 2 (some .boolean) 0 0 0 [xR x0, xI x1] w (some (xI rE), wE) := by
  refine xCall_of false (by decide) (fun q => nomatch q) (Nat.le_of_ble_eq_true rfl) ?_
  show xX cX4_isBehindLatest 2 (some .boolean) RX4 false (xRm 0 0 0) (xZf (some (xI rE), wE) 0 0) 0 [(0, xR x0), (1, xI x1)] [] w 0 0
  unfold f_X4_isBehindLatest at h
  refine x_aload_n (j := 0) (i := 0) dX4_isBehindLatest_0 rfl rfl ?_
  obtain ⟨g1, h⟩ := gd_some h
  refine x_getI (ci := 4) (k := 0) dX4_isBehindLatest_1 lf_RX4_7 rfl g1 ?_
  refine x_if_eq (tgt := 15) dX4_isBehindLatest_4 (by decide) (fun hc2 => ?_) (fun hc2 => ?_)
  · rw [if_pos hc2] at h
    refine x_iconst (v := 1) dX4_isBehindLatest_15 (by decide) ?_
    refine x_goto (tgt := 20) dX4_isBehindLatest_16 (by decide) ?_
    obtain ⟨hr9, hw9⟩ := Prod.mk.inj (Option.some.inj h)
    subst hw9
    subst hr9
    exact x_zret dX4_isBehindLatest_20 rfl (by decide) rfl
  · rw [if_neg hc2] at h
    refine x_iload_n (j := 1) (i := 1) dX4_isBehindLatest_7 rfl rfl ?_
    refine x_aload_n (j := 0) (i := 0) dX4_isBehindLatest_8 rfl rfl ?_
    refine x_getI (ci := 4) (k := 2) dX4_isBehindLatest_9 lf_RX4_13 rfl g1 ?_
    refine x_icmp_le (tgt := 19) dX4_isBehindLatest_12 (by decide) (fun hc3 => ?_) (fun hc3 => ?_)
    · rw [if_pos hc3] at h
      refine x_iconst (v := 0) dX4_isBehindLatest_19 (by decide) ?_
      obtain ⟨hr9, hw9⟩ := Prod.mk.inj (Option.some.inj h)
      subst hw9
      subst hr9
      exact x_zret dX4_isBehindLatest_20 rfl (by decide) rfl
    · rw [if_neg hc3] at h
      refine x_iconst (v := 1) dX4_isBehindLatest_15 (by decide) ?_
      refine x_goto (tgt := 20) dX4_isBehindLatest_16 (by decide) ?_
      obtain ⟨hr9, hw9⟩ := Prod.mk.inj (Option.some.inj h)
      subst hw9
      subst hr9
      exact x_zret dX4_isBehindLatest_20 rfl (by decide) rfl
set_option maxRecDepth 20000 in
theorem c_X4_add (x0 : Nat) (x1 : Int32) (x2 : Int32) (w : xSt) (rE : Int32) (wE : xSt) (h : f_X4_add x0 x1 x2 w = some (rE, wE)) : xCall yX4_add cX4_add 3 (some .int) 0 0 0 [xR x0, xI x1, xI x2] w (some (xI rE), wE) := by
  refine xCall_of false (by decide) (fun q => nomatch q) (Nat.le_of_ble_eq_true rfl) ?_
  show xX cX4_add 3 (some .int) RX4 false (xRm 0 0 0) (xZf (some (xI rE), wE) 0 0) 0 [(0, xR x0), (1, xI x1), (2, xI x2)] [] w 0 0
  unfold f_X4_add at h
  refine x_aload_n (j := 0) (i := 0) dX4_add_0 rfl rfl ?_
  refine x_iload_n (j := 1) (i := 1) dX4_add_1 rfl rfl ?_
  obtain ⟨g1, h⟩ := gd_some h
  obtain ⟨w2, hw3, h⟩ := lt1_some h
  refine x_putI (ci := 4) (k := 1) dX4_add_2 (lw_RX4_16_w _) rfl g1 ?_
  rw [← hw3]
  refine x_aload_n (j := 0) (i := 0) dX4_add_5 rfl rfl ?_
  refine x_iload_n (j := 2) (i := 2) dX4_add_6 rfl rfl ?_
  have g4 : isC w2 x0 4 := by rw [hw3]; exact g1
  obtain ⟨w5, hw6, h⟩ := lt1_some h
  refine x_putI (ci := 4) (k := 2) dX4_add_7 (lw_RX4_13_w _) rfl g4 ?_
  rw [← hw6]
  refine x_aload_n (j := 0) (i := 0) dX4_add_10 rfl rfl ?_
  refine x_dup dX4_add_11 rfl ?_
  have g7 : isC w5 x0 4 := by rw [hw6]; exact g4
  refine x_getI (ci := 4) (k := 0) dX4_add_12 lf_RX4_7 rfl g7 ?_
  refine x_iconst (v := 1) dX4_add_15 (by decide) ?_
  refine x_iadd dX4_add_16 ?_
  obtain ⟨w8, hw9, h⟩ := lt1_some h
  refine x_putI (ci := 4) (k := 0) dX4_add_17 (lw_RX4_7_w _) rfl g7 ?_
  rw [← hw9]
  refine x_aload_n (j := 0) (i := 0) dX4_add_20 rfl rfl ?_
  have g10 : isC w8 x0 4 := by rw [hw9]; exact g7
  refine x_getI (ci := 4) (k := 0) dX4_add_21 lf_RX4_7 rfl g10 ?_
  obtain ⟨hr9, hw9⟩ := Prod.mk.inj (Option.some.inj h)
  subst hw9
  subst hr9
  exact x_iret dX4_add_24 rfl rfl
set_option maxRecDepth 20000 in
theorem c_X4_forget (x0 : Nat) (w : xSt) (rE : Int32) (wE : xSt) (h : f_X4_forget x0 w = some (rE, wE)) : xCall yX4_forget cX4_forget 2 (some .int) 0 0 0 [xR x0] w (some (xI rE), wE) := by
  refine xCall_of false (by decide) (fun q => nomatch q) (Nat.le_of_ble_eq_true rfl) ?_
  show xX cX4_forget 2 (some .int) RX4 false (xRm 0 0 0) (xZf (some (xI rE), wE) 0 0) 0 [(0, xR x0)] [] w 0 0
  unfold f_X4_forget at h
  refine x_aload_n (j := 0) (i := 0) dX4_forget_0 rfl rfl ?_
  obtain ⟨g1, h⟩ := gd_some h
  refine x_getI (ci := 4) (k := 0) dX4_forget_1 lf_RX4_7 rfl g1 ?_
  refine x_istore_n (i := 1) (lv2 := [(1, xI (wI w x0 0)), (0, xR x0)]) dX4_forget_4 rfl (by decide) rfl ?_
  refine x_aload_n (j := 1) (i := 0) dX4_forget_5 rfl rfl ?_
  refine x_iconst (v := 0) dX4_forget_6 (by decide) ?_
  obtain ⟨w2, hw3, h⟩ := lt1_some h
  refine x_putI (ci := 4) (k := 0) dX4_forget_7 (lw_RX4_7_w _) rfl g1 ?_
  rw [← hw3]
  refine x_iload_n (j := 0) (i := 1) dX4_forget_10 rfl rfl ?_
  obtain ⟨hr9, hw9⟩ := Prod.mk.inj (Option.some.inj h)
  subst hw9
  subst hr9
  exact x_iret dX4_forget_11 rfl rfl
set_option maxRecDepth 20000 in
theorem c_X5_init (x0 : Nat) (x1 : Nat) (w : xSt) (rE : Unit) (wE : xSt) (h : f_X5_init x0 x1 w = some (rE, wE)) : xCall yX5_init cX5_init 2 none 1 1 9 [xR x0, xR x1] w (none, wE) := by
  refine xCall_of true (by decide) (fun _ => rfl) (Nat.le_of_ble_eq_true rfl) ?_
  show xX cX5_init 2 none RX5 true (xRm 1 1 9) (xZf (none, wE) 1 9) 0 [(0, xR x0), (1, xR x1)] [] w 1 9
  unfold f_X5_init at h
  refine x_aload_n (j := 0) (i := 0) dX5_init_0 rfl rfl ?_
  obtain ⟨g1, h⟩ := gd_some h
  refine x_objInit dX5_init_1 lo_RX5_3 lo_inst lo_code g1 (Nat.le_of_ble_eq_true rfl) (by decide) (by decide) ?_
  refine x_aload_n (j := 0) (i := 0) dX5_init_4 rfl rfl ?_
  refine x_aload_n (j := 1) (i := 1) dX5_init_5 rfl rfl ?_
  obtain ⟨w2, hw3, h⟩ := lt1_some h
  refine x_putR (ci := 5) (k := 0) dX5_init_6 lw_RX5_9_w rfl g1 ?_
  rw [← hw3]
  refine x_aload_n (j := 0) (i := 0) dX5_init_9 rfl rfl ?_
  refine x_bipush (v := 9) dX5_init_10 (by decide) ?_
  obtain ⟨g4, h⟩ := gd_some h
  obtain ⟨q5, hq6, h⟩ := lt1_some h
  obtain ⟨w7, hw8, h⟩ := lt1_some h
  refine x_anew24 9 dX5_init_12 lk_RX5_15 (by decide) (by decide) g4 (by decide) (by decide) ?_
  rw [← hq6, ← hw8]
  have g9 : isC w7 q5 24 := by rw [hw8, hq6]; exact isC_new _ _ _
  have g10 : isC w2 x0 5 := by rw [hw3]; exact g1
  have g11 : isC w7 x0 5 := by rw [hw8]; exact isC_nA _ _ g10
  obtain ⟨w12, hw13, h⟩ := lt1_some h
  refine x_putR (ci := 5) (k := 1) dX5_init_15 lw_RX5_17_w rfl g11 ?_
  rw [← hw13]
  refine x_aload_n (j := 0) (i := 0) dX5_init_18 rfl rfl ?_
  refine x_iconst (v := 1) dX5_init_19 (by decide) ?_
  have g14 : isC w12 x0 5 := by rw [hw13]; exact g11
  obtain ⟨w15, hw16, h⟩ := lt1_some h
  refine x_putI (ci := 5) (k := 3) dX5_init_20 (lw_RX5_21_w _) rfl g14 ?_
  rw [← hw16]
  obtain ⟨hr9, hw9⟩ := Prod.mk.inj (Option.some.inj h)
  subst hw9
  exact x_vret dX5_init_23 rfl rfl
set_option maxRecDepth 20000 in
theorem c_X5_find (x0 : Nat) (x1 : Int32) (w : xSt) (rE : Nat) (wE : xSt) (h : f_X5_find x0 x1 w = some (rE, wE)) : xCall yX5_find cX5_find 2 (some (.object "WorldHall$Stand")) 0 0 0 [xR x0, xI x1] w (some (xR rE), wE) := by
  refine xCall_of false (by decide) (fun q => nomatch q) (Nat.le_of_ble_eq_true rfl) ?_
  show xX cX5_find 2 (some (.object "WorldHall$Stand")) RX5 false (xRm 0 0 0) (xZf (some (xR rE), wE) 0 0) 0 [(0, xR x0), (1, xI x1)] [] w 0 0
  unfold f_X5_find at h
  refine x_iload_n (j := 1) (i := 1) dX5_find_0 rfl rfl ?_
  refine x_if_lt (tgt := 21) dX5_find_1 (by decide) (fun hc1 => ?_) (fun hc1 => ?_)
  · rw [if_pos hc1] at h
    refine x_null dX5_find_21 ?_
    obtain ⟨hr9, hw9⟩ := Prod.mk.inj (Option.some.inj h)
    subst hw9
    subst hr9
    exact x_aret dX5_find_22 rfl (Or.inl ⟨_, rfl⟩) rfl
  · rw [if_neg hc1] at h
    refine x_iload_n (j := 1) (i := 1) dX5_find_4 rfl rfl ?_
    refine x_aload_n (j := 0) (i := 0) dX5_find_5 rfl rfl ?_
    obtain ⟨g2, h⟩ := gd_some h
    refine x_getI (ci := 5) (k := 2) dX5_find_6 lf_RX5_25 rfl g2 ?_
    refine x_icmp_ge (tgt := 21) dX5_find_9 (by decide) (fun hc3 => ?_) (fun hc3 => ?_)
    · rw [if_pos hc3] at h
      refine x_null dX5_find_21 ?_
      obtain ⟨hr9, hw9⟩ := Prod.mk.inj (Option.some.inj h)
      subst hw9
      subst hr9
      exact x_aret dX5_find_22 rfl (Or.inl ⟨_, rfl⟩) rfl
    · rw [if_neg hc3] at h
      refine x_aload_n (j := 0) (i := 0) dX5_find_12 rfl rfl ?_
      refine x_getR (ci := 5) (k := 1) dX5_find_13 lf_RX5_17 rfl g2 ?_
      refine x_iload_n (j := 1) (i := 1) dX5_find_16 rfl rfl ?_
      obtain ⟨g4, h⟩ := gd_some h
      obtain ⟨g5, h⟩ := gd_some h
      refine x_qald24 dX5_find_17 g4 g5 ?_
      refine x_goto (tgt := 22) dX5_find_18 (by decide) ?_
      obtain ⟨hr9, hw9⟩ := Prod.mk.inj (Option.some.inj h)
      subst hw9
      subst hr9
      exact x_aret dX5_find_22 rfl (Or.inl ⟨_, rfl⟩) rfl
set_option maxRecDepth 20000 in
theorem c_X5_add (x0 : Nat) (x1 : Nat) (w : xSt) (rE : Int32) (wE : xSt) (h : f_X5_add x0 x1 w = some (rE, wE)) : xCall yX5_add cX5_add 2 (some .int) 0 0 0 [xR x0, xR x1] w (some (xI rE), wE) := by
  refine xCall_of false (by decide) (fun q => nomatch q) (Nat.le_of_ble_eq_true rfl) ?_
  show xX cX5_add 2 (some .int) RX5 false (xRm 0 0 0) (xZf (some (xI rE), wE) 0 0) 0 [(0, xR x0), (1, xR x1)] [] w 0 0
  unfold f_X5_add at h
  refine x_aload_n (j := 0) (i := 0) dX5_add_0 rfl rfl ?_
  obtain ⟨g1, h⟩ := gd_some h
  refine x_getR (ci := 5) (k := 1) dX5_add_1 lf_RX5_17 rfl g1 ?_
  refine x_aload_n (j := 0) (i := 0) dX5_add_4 rfl rfl ?_
  refine x_getI (ci := 5) (k := 2) dX5_add_5 lf_RX5_25 rfl g1 ?_
  refine x_aload_n (j := 1) (i := 1) dX5_add_8 rfl rfl ?_
  obtain ⟨g2, h⟩ := gd_some h
  obtain ⟨g3, h⟩ := gd_some h
  obtain ⟨g4, h⟩ := gd_some h
  obtain ⟨w5, hw6, h⟩ := lt1_some h
  refine x_qast24 dX5_add_9 g2 g4 g3 ?_
  rw [← hw6]
  refine x_aload_n (j := 0) (i := 0) dX5_add_10 rfl rfl ?_
  refine x_dup dX5_add_11 rfl ?_
  have g7 : isC w5 x0 5 := by rw [hw6]; exact g1
  refine x_getI (ci := 5) (k := 2) dX5_add_12 lf_RX5_25 rfl g7 ?_
  refine x_iconst (v := 1) dX5_add_15 (by decide) ?_
  refine x_iadd dX5_add_16 ?_
  obtain ⟨w8, hw9, h⟩ := lt1_some h
  refine x_putI (ci := 5) (k := 2) dX5_add_17 (lw_RX5_25_w _) rfl g7 ?_
  rw [← hw9]
  refine x_aload_n (j := 0) (i := 0) dX5_add_20 rfl rfl ?_
  have g10 : isC w8 x0 5 := by rw [hw9]; exact g7
  refine x_getI (ci := 5) (k := 2) dX5_add_21 lf_RX5_25 rfl g10 ?_
  refine x_iconst (v := 1) dX5_add_24 (by decide) ?_
  refine x_isub dX5_add_25 ?_
  obtain ⟨hr9, hw9⟩ := Prod.mk.inj (Option.some.inj h)
  subst hw9
  subst hr9
  exact x_iret dX5_add_26 rfl rfl
set_option maxRecDepth 20000 in
theorem c_X5_put (x0 : Nat) (x1 : Nat) (x2 : Int32) (w : xSt) (rE : Unit) (wE : xSt) (h : f_X5_put x0 x1 x2 w = some (rE, wE)) : xCall yX5_put cX5_put 3 none 2 0 0 [xR x0, xR x1, xI x2] w (none, wE) := by
  refine xCall_of false (by decide) (fun q => nomatch q) (Nat.le_of_ble_eq_true rfl) ?_
  show xX cX5_put 3 none RX5 false (xRm 2 0 0) (xZf (none, wE) 0 0) 0 [(0, xR x0), (1, xR x1), (2, xI x2)] [] w 0 0
  unfold f_X5_put at h
  refine x_aload_n (j := 1) (i := 1) dX5_put_0 rfl rfl ?_
  refine x_iload_n (j := 2) (i := 2) dX5_put_1 rfl rfl ?_
  obtain ⟨g1, h⟩ := gd_some h
  obtain ⟨w2, hw3, h⟩ := lt1_some h
  refine x_putI (ci := 6) (k := 6) dX5_put_2 (lw_RX5_28_w _) rfl g1 ?_
  rw [← hw3]
  refine x_aload_n (j := 1) (i := 1) dX5_put_5 rfl rfl ?_
  refine x_aload_n (j := 0) (i := 0) dX5_put_6 rfl rfl ?_
  obtain ⟨g4, h⟩ := gd_some h
  refine x_getR (ci := 5) (k := 0) dX5_put_7 lf_RX5_9 rfl g4 ?_
  refine x_iload_n (j := 2) (i := 2) dX5_put_10 rfl rfl ?_
  refine x_aload_n (j := 1) (i := 1) dX5_put_11 rfl rfl ?_
  have g5 : isC w2 x1 6 := by rw [hw3]; exact g1
  refine x_getI (ci := 6) (k := 3) dX5_put_12 lf_RX5_31 rfl g5 ?_
  refine x_aload_n (j := 1) (i := 1) dX5_put_15 rfl rfl ?_
  refine x_getI (ci := 6) (k := 4) dX5_put_16 lf_RX5_34 rfl g5 ?_
  obtain ⟨g9, h⟩ := gd_some h
  obtain ⟨v6, w7, hc8, h⟩ := bd_s h
  refine x_callVL (ci := 0) dX5_put_19 ml_RX5_37 mb_X0_area (c_X0_area (wR w2 x0 0) x2 (wI w2 x1 3) (wI w2 x1 4) w2 v6 w7 hc8) ⟨_, rfl, rfl⟩ g9 [xR x1] rfl rfl (Nat.le_of_ble_eq_true rfl) (by decide) (by decide) ?_
  obtain ⟨g10, h⟩ := gd_some h
  obtain ⟨w11, hw12, h⟩ := lt1_some h
  refine x_putL (ci := 6) (k := 7) dX5_put_22 (lw_RX5_43_w _) rfl g10 ?_
  rw [← hw12]
  obtain ⟨hr9, hw9⟩ := Prod.mk.inj (Option.some.inj h)
  subst hw9
  exact x_vret dX5_put_25 rfl rfl
set_option maxRecDepth 20000 in
theorem k_X5_laidOnes_l4 (rE : Int32) (wE : xSt) : ∀ (n : Nat) (x0 : Nat) (x1 : Int32) (x2 : Int32) (w : xSt), f_X5_laidOnes_l4 n x0 x1 x2 w = some (rE, wE) → xX cX5_laidOnes 3 (some .int) RX5 false (xRm 1 0 0) (xZf (some (xI rE), wE) 0 0) 4 [(0, xR x0), (1, xI x1), (2, xI x2)] [] w 0 0 := by
  intro n
  induction n with
  | zero => intro x0 x1 x2 w h; exact nomatch (show (none : Option (Int32 × xSt)) = some (rE, wE) from h)
  | succ n ih =>
    intro x0 x1 x2 w h
    rw [f_X5_laidOnes_l4_s] at h
    refine x_iload_n (j := 2) (i := 2) dX5_laidOnes_4 rfl rfl ?_
    refine x_aload_n (j := 0) (i := 0) dX5_laidOnes_5 rfl rfl ?_
    obtain ⟨g1, h⟩ := gd_some h
    refine x_getI (ci := 5) (k := 2) dX5_laidOnes_6 lf_RX5_25 rfl g1 ?_
    refine x_icmp_ge (tgt := 38) dX5_laidOnes_9 (by decide) (fun hc2 => ?_) (fun hc2 => ?_)
    · rw [if_pos hc2] at h
      refine x_iload_n (j := 1) (i := 1) dX5_laidOnes_38 rfl rfl ?_
      obtain ⟨hr9, hw9⟩ := Prod.mk.inj (Option.some.inj h)
      subst hw9
      subst hr9
      exact x_iret dX5_laidOnes_39 rfl rfl
    · rw [if_neg hc2] at h
      refine x_iload_n (j := 1) (i := 1) dX5_laidOnes_12 rfl rfl ?_
      refine x_aload_n (j := 0) (i := 0) dX5_laidOnes_13 rfl rfl ?_
      refine x_getR (ci := 5) (k := 1) dX5_laidOnes_14 lf_RX5_17 rfl g1 ?_
      refine x_iload_n (j := 2) (i := 2) dX5_laidOnes_17 rfl rfl ?_
      obtain ⟨g3, h⟩ := gd_some h
      obtain ⟨g4, h⟩ := gd_some h
      refine x_qald24 dX5_laidOnes_18 g3 g4 ?_
      obtain ⟨g8, h⟩ := gd_some h
      obtain ⟨v5, w6, hc7, h⟩ := bd_s h
      refine x_callVI (ci := 6) dX5_laidOnes_19 ml_RX5_47 mb_X6_isLaid (c_X6_isLaid (wR w (wR w x0 1) x2.toNatClampNeg) w v5 w6 hc7) ⟨_, rfl, rfl⟩ g8 [xI x1] rfl rfl (Nat.le_of_ble_eq_true rfl) (by decide) (by decide) ?_
      refine x_if_eq (tgt := 29) dX5_laidOnes_22 (by decide) (fun hc9 => ?_) (fun hc9 => ?_)
      · rw [if_pos hc9] at h
        refine x_iconst (v := 0) dX5_laidOnes_29 (by decide) ?_
        refine x_iadd dX5_laidOnes_30 ?_
        refine x_istore_n (i := 1) (lv2 := [(1, xI (x1 + (0 : Int32))), (0, xR x0), (2, xI x2)]) dX5_laidOnes_31 rfl (by decide) rfl ?_
        refine x_iinc (j := 2) (i := 2) (v := x2 + (1 : Int32)) (lv2 := [(2, xI (x2 + (1 : Int32))), (1, xI (x1 + (0 : Int32))), (0, xR x0)]) dX5_laidOnes_32 rfl rfl (by decide) rfl ?_
        refine x_goto (tgt := 4) dX5_laidOnes_35 (by decide) ?_
        refine x_lv (lv2 := [(0, xR x0), (1, xI (x1 + (0 : Int32))), (2, xI (x2 + (1 : Int32)))]) [2, 1, 0] rfl ?_
        exact ih x0 (x1 + (0 : Int32)) (x2 + (1 : Int32)) w6 h
      · rw [if_neg hc9] at h
        refine x_iconst (v := 1) dX5_laidOnes_25 (by decide) ?_
        refine x_goto (tgt := 30) dX5_laidOnes_26 (by decide) ?_
        refine x_iadd dX5_laidOnes_30 ?_
        refine x_istore_n (i := 1) (lv2 := [(1, xI (x1 + (1 : Int32))), (0, xR x0), (2, xI x2)]) dX5_laidOnes_31 rfl (by decide) rfl ?_
        refine x_iinc (j := 2) (i := 2) (v := x2 + (1 : Int32)) (lv2 := [(2, xI (x2 + (1 : Int32))), (1, xI (x1 + (1 : Int32))), (0, xR x0)]) dX5_laidOnes_32 rfl rfl (by decide) rfl ?_
        refine x_goto (tgt := 4) dX5_laidOnes_35 (by decide) ?_
        refine x_lv (lv2 := [(0, xR x0), (1, xI (x1 + (1 : Int32))), (2, xI (x2 + (1 : Int32)))]) [2, 1, 0] rfl ?_
        exact ih x0 (x1 + (1 : Int32)) (x2 + (1 : Int32)) w6 h
set_option maxRecDepth 20000 in
theorem c_X5_laidOnes (x0 : Nat) (w : xSt) (rE : Int32) (wE : xSt) (h : f_X5_laidOnes x0 w = some (rE, wE)) : xCall yX5_laidOnes cX5_laidOnes 3 (some .int) 1 0 0 [xR x0] w (some (xI rE), wE) := by
  refine xCall_of false (by decide) (fun q => nomatch q) (Nat.le_of_ble_eq_true rfl) ?_
  show xX cX5_laidOnes 3 (some .int) RX5 false (xRm 1 0 0) (xZf (some (xI rE), wE) 0 0) 0 [(0, xR x0)] [] w 0 0
  unfold f_X5_laidOnes at h
  refine x_iconst (v := 0) dX5_laidOnes_0 (by decide) ?_
  refine x_istore_n (i := 1) (lv2 := [(1, xI (0 : Int32)), (0, xR x0)]) dX5_laidOnes_1 rfl (by decide) rfl ?_
  refine x_iconst (v := 0) dX5_laidOnes_2 (by decide) ?_
  refine x_istore_n (i := 2) (lv2 := [(2, xI (0 : Int32)), (1, xI (0 : Int32)), (0, xR x0)]) dX5_laidOnes_3 rfl (by decide) rfl ?_
  refine x_lv (lv2 := [(0, xR x0), (1, xI (0 : Int32)), (2, xI (0 : Int32))]) [2, 1, 0] rfl ?_
  exact k_X5_laidOnes_l4 rE wE xFu x0 (0 : Int32) (0 : Int32) w h
set_option maxRecDepth 20000 in
theorem k_X5_withGoods_l4 (rE : Int32) (wE : xSt) : ∀ (n : Nat) (x0 : Nat) (x1 : Int32) (x2 : Int32) (w : xSt), f_X5_withGoods_l4 n x0 x1 x2 w = some (rE, wE) → xX cX5_withGoods 3 (some .int) RX5 false (xRm 0 0 0) (xZf (some (xI rE), wE) 0 0) 4 [(0, xR x0), (1, xI x1), (2, xI x2)] [] w 0 0 := by
  intro n
  induction n with
  | zero => intro x0 x1 x2 w h; exact nomatch (show (none : Option (Int32 × xSt)) = some (rE, wE) from h)
  | succ n ih =>
    intro x0 x1 x2 w h
    rw [f_X5_withGoods_l4_s] at h
    refine x_iload_n (j := 2) (i := 2) dX5_withGoods_4 rfl rfl ?_
    refine x_aload_n (j := 0) (i := 0) dX5_withGoods_5 rfl rfl ?_
    obtain ⟨g1, h⟩ := gd_some h
    refine x_getI (ci := 5) (k := 2) dX5_withGoods_6 lf_RX5_25 rfl g1 ?_
    refine x_icmp_ge (tgt := 38) dX5_withGoods_9 (by decide) (fun hc2 => ?_) (fun hc2 => ?_)
    · rw [if_pos hc2] at h
      refine x_iload_n (j := 1) (i := 1) dX5_withGoods_38 rfl rfl ?_
      obtain ⟨hr9, hw9⟩ := Prod.mk.inj (Option.some.inj h)
      subst hw9
      subst hr9
      exact x_iret dX5_withGoods_39 rfl rfl
    · rw [if_neg hc2] at h
      refine x_iload_n (j := 1) (i := 1) dX5_withGoods_12 rfl rfl ?_
      refine x_aload_n (j := 0) (i := 0) dX5_withGoods_13 rfl rfl ?_
      refine x_getR (ci := 5) (k := 1) dX5_withGoods_14 lf_RX5_17 rfl g1 ?_
      refine x_iload_n (j := 2) (i := 2) dX5_withGoods_17 rfl rfl ?_
      obtain ⟨g3, h⟩ := gd_some h
      obtain ⟨g4, h⟩ := gd_some h
      refine x_qald24 dX5_withGoods_18 g3 g4 ?_
      obtain ⟨g5, h⟩ := gd_some h
      refine x_getI (ci := 6) (k := 8) dX5_withGoods_19 lf_RX5_51 rfl g5 ?_
      refine x_if_eq (tgt := 29) dX5_withGoods_22 (by decide) (fun hc6 => ?_) (fun hc6 => ?_)
      · rw [if_pos hc6] at h
        refine x_iconst (v := 0) dX5_withGoods_29 (by decide) ?_
        refine x_iadd dX5_withGoods_30 ?_
        refine x_istore_n (i := 1) (lv2 := [(1, xI (x1 + (0 : Int32))), (0, xR x0), (2, xI x2)]) dX5_withGoods_31 rfl (by decide) rfl ?_
        refine x_iinc (j := 2) (i := 2) (v := x2 + (1 : Int32)) (lv2 := [(2, xI (x2 + (1 : Int32))), (1, xI (x1 + (0 : Int32))), (0, xR x0)]) dX5_withGoods_32 rfl rfl (by decide) rfl ?_
        refine x_goto (tgt := 4) dX5_withGoods_35 (by decide) ?_
        refine x_lv (lv2 := [(0, xR x0), (1, xI (x1 + (0 : Int32))), (2, xI (x2 + (1 : Int32)))]) [2, 1, 0] rfl ?_
        exact ih x0 (x1 + (0 : Int32)) (x2 + (1 : Int32)) w h
      · rw [if_neg hc6] at h
        refine x_iconst (v := 1) dX5_withGoods_25 (by decide) ?_
        refine x_goto (tgt := 30) dX5_withGoods_26 (by decide) ?_
        refine x_iadd dX5_withGoods_30 ?_
        refine x_istore_n (i := 1) (lv2 := [(1, xI (x1 + (1 : Int32))), (0, xR x0), (2, xI x2)]) dX5_withGoods_31 rfl (by decide) rfl ?_
        refine x_iinc (j := 2) (i := 2) (v := x2 + (1 : Int32)) (lv2 := [(2, xI (x2 + (1 : Int32))), (1, xI (x1 + (1 : Int32))), (0, xR x0)]) dX5_withGoods_32 rfl rfl (by decide) rfl ?_
        refine x_goto (tgt := 4) dX5_withGoods_35 (by decide) ?_
        refine x_lv (lv2 := [(0, xR x0), (1, xI (x1 + (1 : Int32))), (2, xI (x2 + (1 : Int32)))]) [2, 1, 0] rfl ?_
        exact ih x0 (x1 + (1 : Int32)) (x2 + (1 : Int32)) w h
set_option maxRecDepth 20000 in
theorem c_X5_withGoods (x0 : Nat) (w : xSt) (rE : Int32) (wE : xSt) (h : f_X5_withGoods x0 w = some (rE, wE)) : xCall yX5_withGoods cX5_withGoods 3 (some .int) 0 0 0 [xR x0] w (some (xI rE), wE) := by
  refine xCall_of false (by decide) (fun q => nomatch q) (Nat.le_of_ble_eq_true rfl) ?_
  show xX cX5_withGoods 3 (some .int) RX5 false (xRm 0 0 0) (xZf (some (xI rE), wE) 0 0) 0 [(0, xR x0)] [] w 0 0
  unfold f_X5_withGoods at h
  refine x_iconst (v := 0) dX5_withGoods_0 (by decide) ?_
  refine x_istore_n (i := 1) (lv2 := [(1, xI (0 : Int32)), (0, xR x0)]) dX5_withGoods_1 rfl (by decide) rfl ?_
  refine x_iconst (v := 0) dX5_withGoods_2 (by decide) ?_
  refine x_istore_n (i := 2) (lv2 := [(2, xI (0 : Int32)), (1, xI (0 : Int32)), (0, xR x0)]) dX5_withGoods_3 rfl (by decide) rfl ?_
  refine x_lv (lv2 := [(0, xR x0), (1, xI (0 : Int32)), (2, xI (0 : Int32))]) [2, 1, 0] rfl ?_
  exact k_X5_withGoods_l4 rE wE xFu x0 (0 : Int32) (0 : Int32) w h
set_option maxRecDepth 20000 in
theorem k_X5_handedOver_l4 (rE : Int32) (wE : xSt) : ∀ (n : Nat) (x0 : Nat) (x1 : Int32) (x2 : Int32) (w : xSt), f_X5_handedOver_l4 n x0 x1 x2 w = some (rE, wE) → xX cX5_handedOver 3 (some .int) RX5 false (xRm 0 0 0) (xZf (some (xI rE), wE) 0 0) 4 [(0, xR x0), (1, xI x1), (2, xI x2)] [] w 0 0 := by
  intro n
  induction n with
  | zero => intro x0 x1 x2 w h; exact nomatch (show (none : Option (Int32 × xSt)) = some (rE, wE) from h)
  | succ n ih =>
    intro x0 x1 x2 w h
    rw [f_X5_handedOver_l4_s] at h
    refine x_iload_n (j := 2) (i := 2) dX5_handedOver_4 rfl rfl ?_
    refine x_aload_n (j := 0) (i := 0) dX5_handedOver_5 rfl rfl ?_
    obtain ⟨g1, h⟩ := gd_some h
    refine x_getI (ci := 5) (k := 2) dX5_handedOver_6 lf_RX5_25 rfl g1 ?_
    refine x_icmp_ge (tgt := 38) dX5_handedOver_9 (by decide) (fun hc2 => ?_) (fun hc2 => ?_)
    · rw [if_pos hc2] at h
      refine x_iload_n (j := 1) (i := 1) dX5_handedOver_38 rfl rfl ?_
      obtain ⟨hr9, hw9⟩ := Prod.mk.inj (Option.some.inj h)
      subst hw9
      subst hr9
      exact x_iret dX5_handedOver_39 rfl rfl
    · rw [if_neg hc2] at h
      refine x_iload_n (j := 1) (i := 1) dX5_handedOver_12 rfl rfl ?_
      refine x_aload_n (j := 0) (i := 0) dX5_handedOver_13 rfl rfl ?_
      refine x_getR (ci := 5) (k := 1) dX5_handedOver_14 lf_RX5_17 rfl g1 ?_
      refine x_iload_n (j := 2) (i := 2) dX5_handedOver_17 rfl rfl ?_
      obtain ⟨g3, h⟩ := gd_some h
      obtain ⟨g4, h⟩ := gd_some h
      refine x_qald24 dX5_handedOver_18 g3 g4 ?_
      obtain ⟨g5, h⟩ := gd_some h
      refine x_getI (ci := 6) (k := 10) dX5_handedOver_19 lf_RX5_55 rfl g5 ?_
      refine x_if_eq (tgt := 29) dX5_handedOver_22 (by decide) (fun hc6 => ?_) (fun hc6 => ?_)
      · rw [if_pos hc6] at h
        refine x_iconst (v := 0) dX5_handedOver_29 (by decide) ?_
        refine x_iadd dX5_handedOver_30 ?_
        refine x_istore_n (i := 1) (lv2 := [(1, xI (x1 + (0 : Int32))), (0, xR x0), (2, xI x2)]) dX5_handedOver_31 rfl (by decide) rfl ?_
        refine x_iinc (j := 2) (i := 2) (v := x2 + (1 : Int32)) (lv2 := [(2, xI (x2 + (1 : Int32))), (1, xI (x1 + (0 : Int32))), (0, xR x0)]) dX5_handedOver_32 rfl rfl (by decide) rfl ?_
        refine x_goto (tgt := 4) dX5_handedOver_35 (by decide) ?_
        refine x_lv (lv2 := [(0, xR x0), (1, xI (x1 + (0 : Int32))), (2, xI (x2 + (1 : Int32)))]) [2, 1, 0] rfl ?_
        exact ih x0 (x1 + (0 : Int32)) (x2 + (1 : Int32)) w h
      · rw [if_neg hc6] at h
        refine x_iconst (v := 1) dX5_handedOver_25 (by decide) ?_
        refine x_goto (tgt := 30) dX5_handedOver_26 (by decide) ?_
        refine x_iadd dX5_handedOver_30 ?_
        refine x_istore_n (i := 1) (lv2 := [(1, xI (x1 + (1 : Int32))), (0, xR x0), (2, xI x2)]) dX5_handedOver_31 rfl (by decide) rfl ?_
        refine x_iinc (j := 2) (i := 2) (v := x2 + (1 : Int32)) (lv2 := [(2, xI (x2 + (1 : Int32))), (1, xI (x1 + (1 : Int32))), (0, xR x0)]) dX5_handedOver_32 rfl rfl (by decide) rfl ?_
        refine x_goto (tgt := 4) dX5_handedOver_35 (by decide) ?_
        refine x_lv (lv2 := [(0, xR x0), (1, xI (x1 + (1 : Int32))), (2, xI (x2 + (1 : Int32)))]) [2, 1, 0] rfl ?_
        exact ih x0 (x1 + (1 : Int32)) (x2 + (1 : Int32)) w h
set_option maxRecDepth 20000 in
theorem c_X5_handedOver (x0 : Nat) (w : xSt) (rE : Int32) (wE : xSt) (h : f_X5_handedOver x0 w = some (rE, wE)) : xCall yX5_handedOver cX5_handedOver 3 (some .int) 0 0 0 [xR x0] w (some (xI rE), wE) := by
  refine xCall_of false (by decide) (fun q => nomatch q) (Nat.le_of_ble_eq_true rfl) ?_
  show xX cX5_handedOver 3 (some .int) RX5 false (xRm 0 0 0) (xZf (some (xI rE), wE) 0 0) 0 [(0, xR x0)] [] w 0 0
  unfold f_X5_handedOver at h
  refine x_iconst (v := 0) dX5_handedOver_0 (by decide) ?_
  refine x_istore_n (i := 1) (lv2 := [(1, xI (0 : Int32)), (0, xR x0)]) dX5_handedOver_1 rfl (by decide) rfl ?_
  refine x_iconst (v := 0) dX5_handedOver_2 (by decide) ?_
  refine x_istore_n (i := 2) (lv2 := [(2, xI (0 : Int32)), (1, xI (0 : Int32)), (0, xR x0)]) dX5_handedOver_3 rfl (by decide) rfl ?_
  refine x_lv (lv2 := [(0, xR x0), (1, xI (0 : Int32)), (2, xI (0 : Int32))]) [2, 1, 0] rfl ?_
  exact k_X5_handedOver_l4 rE wE xFu x0 (0 : Int32) (0 : Int32) w h
set_option maxRecDepth 20000 in
theorem k_X5_emptyAll_l7 (rE : Int32) (wE : xSt) : ∀ (n : Nat) (x0 : Nat) (x1 : Int32) (x2 : Int32) (w : xSt), f_X5_emptyAll_l7 n x0 x1 x2 w = some (rE, wE) → xX cX5_emptyAll 3 (some .int) RX5 false (xRm 1 0 0) (xZf (some (xI rE), wE) 0 0) 7 [(0, xR x0), (1, xI x1), (2, xI x2)] [] w 0 0 := by
  intro n
  induction n with
  | zero => intro x0 x1 x2 w h; exact nomatch (show (none : Option (Int32 × xSt)) = some (rE, wE) from h)
  | succ n ih =>
    intro x0 x1 x2 w h
    rw [f_X5_emptyAll_l7_s] at h
    refine x_iload_n (j := 2) (i := 2) dX5_emptyAll_7 rfl rfl ?_
    refine x_aload_n (j := 0) (i := 0) dX5_emptyAll_8 rfl rfl ?_
    obtain ⟨g5, h⟩ := gd_some h
    refine x_getI (ci := 5) (k := 2) dX5_emptyAll_9 lf_RX5_25 rfl g5 ?_
    refine x_icmp_ge (tgt := 31) dX5_emptyAll_12 (by decide) (fun hc6 => ?_) (fun hc6 => ?_)
    · rw [if_pos hc6] at h
      refine x_iload_n (j := 1) (i := 1) dX5_emptyAll_31 rfl rfl ?_
      obtain ⟨hr9, hw9⟩ := Prod.mk.inj (Option.some.inj h)
      subst hw9
      subst hr9
      exact x_iret dX5_emptyAll_32 rfl rfl
    · rw [if_neg hc6] at h
      refine x_aload_n (j := 0) (i := 0) dX5_emptyAll_15 rfl rfl ?_
      refine x_getR (ci := 5) (k := 1) dX5_emptyAll_16 lf_RX5_17 rfl g5 ?_
      refine x_iload_n (j := 2) (i := 2) dX5_emptyAll_19 rfl rfl ?_
      obtain ⟨g7, h⟩ := gd_some h
      obtain ⟨g8, h⟩ := gd_some h
      refine x_qald24 dX5_emptyAll_20 g7 g8 ?_
      refine x_iconst (v := 0) dX5_emptyAll_21 (by decide) ?_
      obtain ⟨g9, h⟩ := gd_some h
      obtain ⟨w10, hw11, h⟩ := lt1_some h
      refine x_putZ (ci := 6) (k := 8) dX5_emptyAll_22 (lw_RX5_51_w _) rfl g9 (by decide) ?_
      rw [← hw11]
      refine x_iinc (j := 2) (i := 2) (v := x2 + (1 : Int32)) (lv2 := [(2, xI (x2 + (1 : Int32))), (0, xR x0), (1, xI x1)]) dX5_emptyAll_25 rfl rfl (by decide) rfl ?_
      refine x_goto (tgt := 7) dX5_emptyAll_28 (by decide) ?_
      refine x_lv (lv2 := [(0, xR x0), (1, xI x1), (2, xI (x2 + (1 : Int32)))]) [1, 2, 0] rfl ?_
      exact ih x0 x1 (x2 + (1 : Int32)) w10 h
set_option maxRecDepth 20000 in
theorem c_X5_emptyAll (x0 : Nat) (w : xSt) (rE : Int32) (wE : xSt) (h : f_X5_emptyAll x0 w = some (rE, wE)) : xCall yX5_emptyAll cX5_emptyAll 3 (some .int) 1 0 0 [xR x0] w (some (xI rE), wE) := by
  refine xCall_of false (by decide) (fun q => nomatch q) (Nat.le_of_ble_eq_true rfl) ?_
  show xX cX5_emptyAll 3 (some .int) RX5 false (xRm 1 0 0) (xZf (some (xI rE), wE) 0 0) 0 [(0, xR x0)] [] w 0 0
  unfold f_X5_emptyAll at h
  refine x_aload_n (j := 0) (i := 0) dX5_emptyAll_0 rfl rfl ?_
  obtain ⟨g4, h⟩ := gd_some h
  obtain ⟨v1, w2, hc3, h⟩ := bd_s h
  refine x_callVI (ci := 5) dX5_emptyAll_1 ml_RX5_58 mb_X5_withGoods (c_X5_withGoods x0 w v1 w2 hc3) ⟨_, rfl, rfl⟩ g4 [] rfl rfl (Nat.le_of_ble_eq_true rfl) (by decide) (by decide) ?_
  refine x_istore_n (i := 1) (lv2 := [(1, xI v1), (0, xR x0)]) dX5_emptyAll_4 rfl (by decide) rfl ?_
  refine x_iconst (v := 0) dX5_emptyAll_5 (by decide) ?_
  refine x_istore_n (i := 2) (lv2 := [(2, xI (0 : Int32)), (1, xI v1), (0, xR x0)]) dX5_emptyAll_6 rfl (by decide) rfl ?_
  refine x_lv (lv2 := [(0, xR x0), (1, xI v1), (2, xI (0 : Int32))]) [2, 1, 0] rfl ?_
  exact k_X5_emptyAll_l7 rE wE xFu x0 v1 (0 : Int32) w2 h
set_option maxRecDepth 20000 in
theorem k_X5_standOn_l2 (rE : Int32) (wE : xSt) : ∀ (n : Nat) (x0 : Nat) (x1 : Int32) (x2 : Int32) (w : xSt), f_X5_standOn_l2 n x0 x1 x2 w = some (rE, wE) → xX cX5_standOn 3 (some .int) RX5 false (xRm 1 0 0) (xZf (some (xI rE), wE) 0 0) 2 [(0, xR x0), (1, xI x1), (2, xI x2)] [] w 0 0 := by
  intro n
  induction n with
  | zero => intro x0 x1 x2 w h; exact nomatch (show (none : Option (Int32 × xSt)) = some (rE, wE) from h)
  | succ n ih =>
    intro x0 x1 x2 w h
    rw [f_X5_standOn_l2_s] at h
    refine x_iload_n (j := 2) (i := 2) dX5_standOn_2 rfl rfl ?_
    refine x_aload_n (j := 0) (i := 0) dX5_standOn_3 rfl rfl ?_
    obtain ⟨g1, h⟩ := gd_some h
    refine x_getI (ci := 5) (k := 2) dX5_standOn_4 lf_RX5_25 rfl g1 ?_
    refine x_icmp_ge (tgt := 37) dX5_standOn_7 (by decide) (fun hc2 => ?_) (fun hc2 => ?_)
    · rw [if_pos hc2] at h
      refine x_iconst (v := -1) dX5_standOn_37 (by decide) ?_
      obtain ⟨hr9, hw9⟩ := Prod.mk.inj (Option.some.inj h)
      subst hw9
      subst hr9
      exact x_iret dX5_standOn_38 rfl rfl
    · rw [if_neg hc2] at h
      refine x_aload_n (j := 0) (i := 0) dX5_standOn_10 rfl rfl ?_
      refine x_getR (ci := 5) (k := 1) dX5_standOn_11 lf_RX5_17 rfl g1 ?_
      refine x_iload_n (j := 2) (i := 2) dX5_standOn_14 rfl rfl ?_
      obtain ⟨g3, h⟩ := gd_some h
      obtain ⟨g4, h⟩ := gd_some h
      refine x_qald24 dX5_standOn_15 g3 g4 ?_
      obtain ⟨g5, h⟩ := gd_some h
      refine x_getL (ci := 6) (k := 7) dX5_standOn_16 lf_RX5_43 rfl g5 ?_
      refine x_iload_n (j := 1) (i := 1) dX5_standOn_19 rfl rfl ?_
      obtain ⟨v6, w7, hc8, h⟩ := bd_s h
      refine x_callSL dX5_standOn_20 ml_RX5_62 mb_X0_only (c_X0_only x1 w v6 w7 hc8) [xL (wL w (wR w (wR w x0 1) x2.toNatClampNeg) 7)] rfl rfl (Nat.le_of_ble_eq_true rfl) (by decide) (by decide) ?_
      refine x_land dX5_standOn_23 ?_
      refine x_lconst (v := 0) dX5_standOn_24 (by decide) ?_
      refine x_lcmp dX5_standOn_25 ?_
      refine x_if_eq (tgt := 31) dX5_standOn_26 (by decide) (fun hc9 => ?_) (fun hc9 => ?_)
      · rw [if_pos hc9] at h
        refine x_iinc (j := 2) (i := 2) (v := x2 + (1 : Int32)) (lv2 := [(2, xI (x2 + (1 : Int32))), (0, xR x0), (1, xI x1)]) dX5_standOn_31 rfl rfl (by decide) rfl ?_
        refine x_goto (tgt := 2) dX5_standOn_34 (by decide) ?_
        refine x_lv (lv2 := [(0, xR x0), (1, xI x1), (2, xI (x2 + (1 : Int32)))]) [1, 2, 0] rfl ?_
        exact ih x0 x1 (x2 + (1 : Int32)) w7 h
      · rw [if_neg hc9] at h
        refine x_iload_n (j := 2) (i := 2) dX5_standOn_29 rfl rfl ?_
        obtain ⟨hr9, hw9⟩ := Prod.mk.inj (Option.some.inj h)
        subst hw9
        subst hr9
        exact x_iret dX5_standOn_30 rfl rfl
set_option maxRecDepth 20000 in
theorem c_X5_standOn (x0 : Nat) (x1 : Int32) (w : xSt) (rE : Int32) (wE : xSt) (h : f_X5_standOn x0 x1 w = some (rE, wE)) : xCall yX5_standOn cX5_standOn 3 (some .int) 1 0 0 [xR x0, xI x1] w (some (xI rE), wE) := by
  refine xCall_of false (by decide) (fun q => nomatch q) (Nat.le_of_ble_eq_true rfl) ?_
  show xX cX5_standOn 3 (some .int) RX5 false (xRm 1 0 0) (xZf (some (xI rE), wE) 0 0) 0 [(0, xR x0), (1, xI x1)] [] w 0 0
  unfold f_X5_standOn at h
  refine x_iconst (v := 0) dX5_standOn_0 (by decide) ?_
  refine x_istore_n (i := 2) (lv2 := [(2, xI (0 : Int32)), (0, xR x0), (1, xI x1)]) dX5_standOn_1 rfl (by decide) rfl ?_
  refine x_lv (lv2 := [(0, xR x0), (1, xI x1), (2, xI (0 : Int32))]) [1, 2, 0] rfl ?_
  exact k_X5_standOn_l2 rE wE xFu x0 x1 (0 : Int32) w h
set_option maxRecDepth 20000 in
theorem k_X5_covered_l5 (rE : Int64) (wE : xSt) : ∀ (n : Nat) (x0 : Nat) (x1 : Nat) (x2 : Int64) (x4 : Int32) (w : xSt), f_X5_covered_l5 n x0 x1 x2 x4 w = some (rE, wE) → xX cX5_covered 5 (some .long) RX5 false (xRm 0 0 0) (xZf (some (xL rE), wE) 0 0) 5 [(0, xR x0), (1, xR x1), (2, xL x2), (4, xI x4)] [] w 0 0 := by
  intro n
  induction n with
  | zero => intro x0 x1 x2 x4 w h; exact nomatch (show (none : Option (Int64 × xSt)) = some (rE, wE) from h)
  | succ n ih =>
    intro x0 x1 x2 x4 w h
    rw [f_X5_covered_l5_s] at h
    refine x_iload (j := 3) (i := 4) dX5_covered_5 rfl ?_
    refine x_aload_n (j := 0) (i := 0) dX5_covered_7 rfl rfl ?_
    obtain ⟨g1, h⟩ := gd_some h
    refine x_getI (ci := 5) (k := 2) dX5_covered_8 lf_RX5_25 rfl g1 ?_
    refine x_icmp_ge (tgt := 48) dX5_covered_11 (by decide) (fun hc2 => ?_) (fun hc2 => ?_)
    · rw [if_pos hc2] at h
      refine x_lload_n (j := 2) (i := 2) dX5_covered_48 rfl rfl ?_
      obtain ⟨hr9, hw9⟩ := Prod.mk.inj (Option.some.inj h)
      subst hw9
      subst hr9
      exact x_lret dX5_covered_49 rfl rfl
    · rw [if_neg hc2] at h
      refine x_lload_n (j := 2) (i := 2) dX5_covered_14 rfl rfl ?_
      refine x_aload_n (j := 0) (i := 0) dX5_covered_15 rfl rfl ?_
      refine x_getR (ci := 5) (k := 1) dX5_covered_16 lf_RX5_17 rfl g1 ?_
      refine x_iload (j := 3) (i := 4) dX5_covered_19 rfl ?_
      obtain ⟨g3, h⟩ := gd_some h
      obtain ⟨g4, h⟩ := gd_some h
      refine x_qald24 dX5_covered_21 g3 g4 ?_
      refine x_aload_n (j := 1) (i := 1) dX5_covered_22 rfl rfl ?_
      obtain ⟨g5, h⟩ := gd_some h
      obtain ⟨g6, h⟩ := gd_some h
      refine x_acmp_eq (tgt := 39) dX5_covered_23 (by decide) g5 g6 (fun hc7 => ?_) (fun hc7 => ?_)
      · rw [if_pos hc7] at h
        refine x_lconst (v := 0) dX5_covered_39 (by decide) ?_
        refine x_lor dX5_covered_40 ?_
        refine x_lstore_n (i := 2) (lv2 := [(2, xL (x2 ||| (0 : Int64))), (0, xR x0), (1, xR x1), (4, xI x4)]) dX5_covered_41 rfl (by decide) rfl ?_
        refine x_iinc (j := 3) (i := 4) (v := x4 + (1 : Int32)) (lv2 := [(4, xI (x4 + (1 : Int32))), (2, xL (x2 ||| (0 : Int64))), (0, xR x0), (1, xR x1)]) dX5_covered_42 rfl rfl (by decide) rfl ?_
        refine x_goto (tgt := 5) dX5_covered_45 (by decide) ?_
        refine x_lv (lv2 := [(0, xR x0), (1, xR x1), (2, xL (x2 ||| (0 : Int64))), (4, xI (x4 + (1 : Int32)))]) [2, 3, 1, 0] rfl ?_
        exact ih x0 x1 (x2 ||| (0 : Int64)) (x4 + (1 : Int32)) w h
      · rw [if_neg hc7] at h
        refine x_aload_n (j := 0) (i := 0) dX5_covered_26 rfl rfl ?_
        refine x_getR (ci := 5) (k := 1) dX5_covered_27 lf_RX5_17 rfl g1 ?_
        refine x_iload (j := 3) (i := 4) dX5_covered_30 rfl ?_
        refine x_qald24 dX5_covered_32 g3 g4 ?_
        obtain ⟨g8, h⟩ := gd_some h
        refine x_getL (ci := 6) (k := 7) dX5_covered_33 lf_RX5_43 rfl g8 ?_
        refine x_goto (tgt := 40) dX5_covered_36 (by decide) ?_
        refine x_lor dX5_covered_40 ?_
        refine x_lstore_n (i := 2) (lv2 := [(2, xL (x2 ||| (wL w (wR w (wR w x0 1) x4.toNatClampNeg) 7))), (0, xR x0), (1, xR x1), (4, xI x4)]) dX5_covered_41 rfl (by decide) rfl ?_
        refine x_iinc (j := 3) (i := 4) (v := x4 + (1 : Int32)) (lv2 := [(4, xI (x4 + (1 : Int32))), (2, xL (x2 ||| (wL w (wR w (wR w x0 1) x4.toNatClampNeg) 7))), (0, xR x0), (1, xR x1)]) dX5_covered_42 rfl rfl (by decide) rfl ?_
        refine x_goto (tgt := 5) dX5_covered_45 (by decide) ?_
        refine x_lv (lv2 := [(0, xR x0), (1, xR x1), (2, xL (x2 ||| (wL w (wR w (wR w x0 1) x4.toNatClampNeg) 7))), (4, xI (x4 + (1 : Int32)))]) [2, 3, 1, 0] rfl ?_
        exact ih x0 x1 (x2 ||| (wL w (wR w (wR w x0 1) x4.toNatClampNeg) 7)) (x4 + (1 : Int32)) w h
set_option maxRecDepth 20000 in
theorem c_X5_covered (x0 : Nat) (x1 : Nat) (w : xSt) (rE : Int64) (wE : xSt) (h : f_X5_covered x0 x1 w = some (rE, wE)) : xCall yX5_covered cX5_covered 5 (some .long) 0 0 0 [xR x0, xR x1] w (some (xL rE), wE) := by
  refine xCall_of false (by decide) (fun q => nomatch q) (Nat.le_of_ble_eq_true rfl) ?_
  show xX cX5_covered 5 (some .long) RX5 false (xRm 0 0 0) (xZf (some (xL rE), wE) 0 0) 0 [(0, xR x0), (1, xR x1)] [] w 0 0
  unfold f_X5_covered at h
  refine x_lconst (v := 0) dX5_covered_0 (by decide) ?_
  refine x_lstore_n (i := 2) (lv2 := [(2, xL (0 : Int64)), (0, xR x0), (1, xR x1)]) dX5_covered_1 rfl (by decide) rfl ?_
  refine x_iconst (v := 0) dX5_covered_2 (by decide) ?_
  refine x_istore (i := 4) (lv2 := [(4, xI (0 : Int32)), (2, xL (0 : Int64)), (0, xR x0), (1, xR x1)]) dX5_covered_3 (by decide) rfl ?_
  refine x_lv (lv2 := [(0, xR x0), (1, xR x1), (2, xL (0 : Int64)), (4, xI (0 : Int32))]) [2, 3, 1, 0] rfl ?_
  exact k_X5_covered_l5 rE wE xFu x0 x1 (0 : Int64) (0 : Int32) w h
set_option maxRecDepth 20000 in
theorem c_X5_between (x0 : Int32) (x1 : Int32) (x2 : Int32) (x3 : Int32) (w : xSt) (rE : Int32) (wE : xSt) (h : f_X5_between x0 x1 x2 x3 w = some (rE, wE)) : xCall yX5_between cX5_between 4 (some .int) 1 0 0 [xI x0, xI x1, xI x2, xI x3] w (some (xI rE), wE) := by
  refine xCall_of false (by decide) (fun q => nomatch q) (Nat.le_of_ble_eq_true rfl) ?_
  show xX cX5_between 4 (some .int) RX5 false (xRm 1 0 0) (xZf (some (xI rE), wE) 0 0) 0 [(0, xI x0), (1, xI x1), (2, xI x2), (3, xI x3)] [] w 0 0
  unfold f_X5_between at h
  refine x_iload_n (j := 2) (i := 2) dX5_between_0 rfl rfl ?_
  refine x_iload_n (j := 0) (i := 0) dX5_between_1 rfl rfl ?_
  refine x_isub dX5_between_2 ?_
  refine x_iload_n (j := 1) (i := 1) dX5_between_3 rfl rfl ?_
  refine x_isub dX5_between_4 ?_
  refine x_iload_n (j := 0) (i := 0) dX5_between_5 rfl rfl ?_
  refine x_iload_n (j := 2) (i := 2) dX5_between_6 rfl rfl ?_
  refine x_isub dX5_between_7 ?_
  refine x_iload_n (j := 3) (i := 3) dX5_between_8 rfl rfl ?_
  refine x_isub dX5_between_9 ?_
  obtain ⟨v1, w2, hc3, h⟩ := bd_s h
  refine x_callSI dX5_between_10 ml_RX5_109 mb_J9_max_7cf53 (c_J9_max_7cf53 ((x2 - x0) - x1) ((x0 - x2) - x3) w v1 w2 hc3) [] rfl rfl (Nat.le_of_ble_eq_true rfl) (by decide) (by decide) ?_
  obtain ⟨hr9, hw9⟩ := Prod.mk.inj (Option.some.inj h)
  subst hw9
  subst hr9
  exact x_iret dX5_between_13 rfl rfl
