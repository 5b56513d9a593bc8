set_option maxRecDepth 20000 in
theorem k_X0_carries_l3 (rE : Int32) (wE : xSt) : ∀ (n : Nat) (x0 : Nat) (x1 : Int64) (x3 : Int32) (x4 : Int32) (w : xSt), f_X0_carries_l3 n x0 x1 x3 x4 w = some (rE, wE) → xX cX0_carries 5 (some .boolean) RX0 false (xRm 1 0 0) (xZf (some (xI rE), wE) 0 0) 3 [(0, xR x0), (1, xL x1), (3, xI x3), (4, xI x4)] [] w 0 0 := by
  intro n
  induction n with
  | zero => intro x0 x1 x3 x4 w h; exact nomatch (show (none : Option (Int32 × xSt)) = some (rE, wE) from h)
  | succ n ih =>
    intro x0 x1 x3 x4 w h
    rw [f_X0_carries_l3_s] at h
    refine x_iload (j := 3) (i := 4) dX0_carries_3 rfl ?_
    refine x_aload_n (j := 0) (i := 0) dX0_carries_5 rfl rfl ?_
    obtain ⟨g1, h⟩ := gd_some h
    refine x_getI (ci := 0) (k := 2) dX0_carries_6 lf_RX0_16 rfl g1 ?_
    refine x_icmp_ge (tgt := 43) dX0_carries_9 (by decide) (fun hc2 => ?_) (fun hc2 => ?_)
    · rw [if_pos hc2] at h
      refine x_iconst (v := 1) dX0_carries_43 (by decide) ?_
      obtain ⟨hr9, hw9⟩ := Prod.mk.inj (Option.some.inj h)
      subst hw9
      subst hr9
      exact x_zret dX0_carries_44 rfl (by decide) rfl
    · rw [if_neg hc2] at h
      refine x_lload_n (j := 1) (i := 1) dX0_carries_12 rfl rfl ?_
      refine x_iload (j := 3) (i := 4) dX0_carries_13 rfl ?_
      obtain ⟨v3, w4, hc5, h⟩ := bd_s h
      refine x_callSL dX0_carries_15 ml_RX0_27 mb_X0_only (c_X0_only x4 w v3 w4 hc5) [xL x1] rfl rfl (Nat.le_of_ble_eq_true rfl) (by decide) (by decide) ?_
      refine x_land dX0_carries_18 ?_
      refine x_lconst (v := 0) dX0_carries_19 (by decide) ?_
      refine x_lcmp dX0_carries_20 ?_
      refine x_if_eq (tgt := 37) dX0_carries_21 (by decide) (fun hc6 => ?_) (fun hc6 => ?_)
      · rw [if_pos hc6] at h
        refine x_iinc (j := 3) (i := 4) (v := x4 + (1 : Int32)) (lv2 := [(4, xI (x4 + (1 : Int32))), (0, xR x0), (1, xL x1), (3, xI x3)]) dX0_carries_37 rfl rfl (by decide) rfl ?_
        refine x_goto (tgt := 3) dX0_carries_40 (by decide) ?_
        refine x_lv (lv2 := [(0, xR x0), (1, xL x1), (3, xI x3), (4, xI (x4 + (1 : Int32)))]) [1, 2, 3, 0] rfl ?_
        exact ih x0 x1 x3 (x4 + (1 : Int32)) w4 h
      · rw [if_neg hc6] at h
        refine x_aload_n (j := 0) (i := 0) dX0_carries_24 rfl rfl ?_
        obtain ⟨g7, h⟩ := gd_some h
        refine x_getR (ci := 0) (k := 7) dX0_carries_25 lf_RX0_23 rfl g7 ?_
        refine x_iload (j := 3) (i := 4) dX0_carries_28 rfl ?_
        obtain ⟨g8, h⟩ := gd_some h
        obtain ⟨g9, h⟩ := gd_some h
        refine x_iald dX0_carries_30 g8 g9 ?_
        refine x_iload_n (j := 2) (i := 3) dX0_carries_31 rfl rfl ?_
        refine x_icmp_ge (tgt := 37) dX0_carries_32 (by decide) (fun hc10 => ?_) (fun hc10 => ?_)
        · rw [if_pos hc10] at h
          refine x_iinc (j := 3) (i := 4) (v := x4 + (1 : Int32)) (lv2 := [(4, xI (x4 + (1 : Int32))), (0, xR x0), (1, xL x1), (3, xI x3)]) dX0_carries_37 rfl rfl (by decide) rfl ?_
          refine x_goto (tgt := 3) dX0_carries_40 (by decide) ?_
          refine x_lv (lv2 := [(0, xR x0), (1, xL x1), (3, xI x3), (4, xI (x4 + (1 : Int32)))]) [1, 2, 3, 0] rfl ?_
          exact ih x0 x1 x3 (x4 + (1 : Int32)) w4 h
        · rw [if_neg hc10] at h
          refine x_iconst (v := 0) dX0_carries_35 (by decide) ?_
          obtain ⟨hr9, hw9⟩ := Prod.mk.inj (Option.some.inj h)
          subst hw9
          subst hr9
          exact x_zret dX0_carries_36 rfl (by decide) rfl
set_option maxRecDepth 20000 in
theorem c_X0_carries (x0 : Nat) (x1 : Int64) (x3 : Int32) (w : xSt) (rE : Int32) (wE : xSt) (h : f_X0_carries x0 x1 x3 w = some (rE, wE)) : xCall yX0_carries cX0_carries 5 (some .boolean) 1 0 0 [xR x0, xL x1, xI x3] w (some (xI rE), wE) := by
  refine xCall_of false (by decide) (fun q => nomatch q) (Nat.le_of_ble_eq_true rfl) ?_
  show xX cX0_carries 5 (some .boolean) RX0 false (xRm 1 0 0) (xZf (some (xI rE), wE) 0 0) 0 [(0, xR x0), (1, xL x1), (3, xI x3)] [] w 0 0
  unfold f_X0_carries at h
  refine x_iconst (v := 0) dX0_carries_0 (by decide) ?_
  refine x_istore (i := 4) (lv2 := [(4, xI (0 : Int32)), (0, xR x0), (1, xL x1), (3, xI x3)]) dX0_carries_1 (by decide) rfl ?_
  refine x_lv (lv2 := [(0, xR x0), (1, xL x1), (3, xI x3), (4, xI (0 : Int32))]) [1, 2, 3, 0] rfl ?_
  exact k_X0_carries_l3 rE wE xFu x0 x1 x3 (0 : Int32) w h
set_option maxRecDepth 20000 in
theorem c_X1_init (x0 : Nat) (w : xSt) (rE : Unit) (wE : xSt) (h : f_X1_init x0 w = some (rE, wE)) : xCall yX1_init cX1_init 1 none 1 0 0 [xR x0] w (none, wE) := by
  refine xCall_of true (by decide) (fun _ => rfl) (Nat.le_of_ble_eq_true rfl) ?_
  show xX cX1_init 1 none RX1 true (xRm 1 0 0) (xZf (none, wE) 0 0) 0 [(0, xR x0)] [] w 0 0
  unfold f_X1_init at h
  refine x_aload_n (j := 0) (i := 0) dX1_init_0 rfl rfl ?_
  obtain ⟨g1, h⟩ := gd_some h
  refine x_objInit dX1_init_1 lo_RX1_1 lo_inst lo_code g1 (Nat.le_of_ble_eq_true rfl) (by decide) (by decide) ?_
  refine x_aload_n (j := 0) (i := 0) dX1_init_4 rfl rfl ?_
  refine x_sipush (v := 1000) dX1_init_5 (by decide) ?_
  obtain ⟨w2, hw3, h⟩ := lt1_some h
  refine x_putI (ci := 1) (k := 0) dX1_init_8 (lw_RX1_7_w _) rfl g1 ?_
  rw [← hw3]
  obtain ⟨hr9, hw9⟩ := Prod.mk.inj (Option.some.inj h)
  subst hw9
  exact x_vret dX1_init_11 rfl rfl
set_option maxRecDepth 20000 in
theorem c_J9_max_7cf53 (x0 : Int32) (x1 : Int32) (w : xSt) (rE : Int32) (wE : xSt) (h : f_J9_max_7cf53 x0 x1 w = some (rE, wE)) : xCall yJ9_max_7cf53 cJ9_max_7cf53 2 (some .int) 0 0 0 [xI x0, xI x1] w (some (xI rE), wE) := by
  refine xCall_ofF false (by decide +kernel) (fun q => nomatch q) (Nat.le_of_ble_eq_true rfl) ?_
  show xX cJ9_max_7cf53 2 (some .int) RJ9 false (xRm 0 0 0) (xZf (some (xI rE), wE) 0 0) 0 [(0, xI x0), (1, xI x1)] [] w 0 0
  unfold f_J9_max_7cf53 at h
  refine x_iload_n (j := 0) (i := 0) dJ9_max_7cf53_0 rfl rfl ?_
  refine x_iload_n (j := 1) (i := 1) dJ9_max_7cf53_1 rfl rfl ?_
  refine x_icmp_lt (tgt := 9) dJ9_max_7cf53_2 (by decide) (fun hc1 => ?_) (fun hc1 => ?_)
  · rw [if_pos hc1] at h
    refine x_iload_n (j := 1) (i := 1) dJ9_max_7cf53_9 rfl rfl ?_
    obtain ⟨hr9, hw9⟩ := Prod.mk.inj (Option.some.inj h)
    subst hw9
    subst hr9
    exact x_iret dJ9_max_7cf53_10 rfl rfl
  · rw [if_neg hc1] at h
    refine x_iload_n (j := 0) (i := 0) dJ9_max_7cf53_5 rfl rfl ?_
    refine x_goto (tgt := 10) dJ9_max_7cf53_6 (by decide) ?_
    obtain ⟨hr9, hw9⟩ := Prod.mk.inj (Option.some.inj h)
    subst hw9
    subst hr9
    exact x_iret dJ9_max_7cf53_10 rfl rfl
set_option maxRecDepth 20000 in
theorem c_X1_pass (x0 : Nat) (x1 : Int32) (x2 : Int32) (x3 : Int32) (w : xSt) (rE : Unit) (wE : xSt) (h : f_X1_pass x0 x1 x2 x3 w = some (rE, wE)) : xCall yX1_pass cX1_pass 5 none 1 0 0 [xR x0, xI x1, xI x2, xI x3] w (none, wE) := by
  refine xCall_of false (by decide) (fun q => nomatch q) (Nat.le_of_ble_eq_true rfl) ?_
  show xX cX1_pass 5 none RX1 false (xRm 1 0 0) (xZf (none, wE) 0 0) 0 [(0, xR x0), (1, xI x1), (2, xI x2), (3, xI x3)] [] w 0 0
  unfold f_X1_pass at h
  refine x_aload_n (j := 0) (i := 0) dX1_pass_0 rfl rfl ?_
  refine x_dup dX1_pass_1 rfl ?_
  obtain ⟨g1, h⟩ := gd_some h
  refine x_getI (ci := 1) (k := 2) dX1_pass_2 lf_RX1_13 rfl g1 ?_
  refine x_iconst (v := 1) dX1_pass_5 (by decide) ?_
  refine x_iadd dX1_pass_6 ?_
  obtain ⟨w2, hw3, h⟩ := lt1_some h
  refine x_putI (ci := 1) (k := 2) dX1_pass_7 (lw_RX1_13_w _) rfl g1 ?_
  rw [← hw3]
  refine x_aload_n (j := 0) (i := 0) dX1_pass_10 rfl rfl ?_
  refine x_dup dX1_pass_11 rfl ?_
  have g4 : isC w2 x0 1 := by rw [hw3]; exact g1
  refine x_getI (ci := 1) (k := 3) dX1_pass_12 lf_RX1_16 rfl g4 ?_
  refine x_iload_n (j := 2) (i := 2) dX1_pass_15 rfl rfl ?_
  refine x_aload_n (j := 0) (i := 0) dX1_pass_16 rfl rfl ?_
  refine x_getI (ci := 1) (k := 3) dX1_pass_17 lf_RX1_16 rfl g4 ?_
  obtain ⟨v5, w6, hc7, h⟩ := bd_s h
  refine x_callSI dX1_pass_20 ml_RX1_19 mb_J9_min_7cf53 (c_J9_min_7cf53 x2 (wI w2 x0 3) w2 v5 w6 hc7) [xI (wI w2 x0 3), xR x0] rfl rfl (Nat.le_of_ble_eq_true rfl) (by decide) (by decide) ?_
  refine x_isub dX1_pass_23 ?_
  obtain ⟨g8, h⟩ := gd_some h
  obtain ⟨w9, hw10, h⟩ := lt1_some h
  refine x_putI (ci := 1) (k := 3) dX1_pass_24 (lw_RX1_16_w _) rfl g8 ?_
  rw [← hw10]
  refine x_aload_n (j := 0) (i := 0) dX1_pass_27 rfl rfl ?_
  refine x_dup dX1_pass_28 rfl ?_
  have g11 : isC w9 x0 1 := by rw [hw10]; exact g8
  refine x_getI (ci := 1) (k := 4) dX1_pass_29 lf_RX1_25 rfl g11 ?_
  refine x_iload_n (j := 1) (i := 1) dX1_pass_32 rfl rfl ?_
  refine x_iadd dX1_pass_33 ?_
  obtain ⟨w12, hw13, h⟩ := lt1_some h
  refine x_putI (ci := 1) (k := 4) dX1_pass_34 (lw_RX1_25_w _) rfl g11 ?_
  rw [← hw13]
  refine x_aload_n (j := 0) (i := 0) dX1_pass_37 rfl rfl ?_
  have g14 : isC w12 x0 1 := by rw [hw13]; exact g11
  refine x_getI (ci := 1) (k := 4) dX1_pass_38 lf_RX1_25 rfl g14 ?_
  refine x_iconst (v := 0) dX1_pass_41 (by decide) ?_
  refine x_aload_n (j := 0) (i := 0) dX1_pass_42 rfl rfl ?_
  refine x_getI (ci := 1) (k := 0) dX1_pass_43 lf_RX1_7 rfl g14 ?_
  refine x_aload_n (j := 0) (i := 0) dX1_pass_46 rfl rfl ?_
  refine x_getI (ci := 1) (k := 3) dX1_pass_47 lf_RX1_16 rfl g14 ?_
  refine x_isub dX1_pass_50 ?_
  obtain ⟨v15, w16, hc17, h⟩ := bd_s h
  refine x_callSI dX1_pass_51 ml_RX1_28 mb_J9_max_7cf53 (c_J9_max_7cf53 (0 : Int32) ((wI w12 x0 0) - (wI w12 x0 3)) w12 v15 w16 hc17) [xI (wI w12 x0 4)] rfl rfl (Nat.le_of_ble_eq_true rfl) (by decide) (by decide) ?_
  obtain ⟨v18, w19, hc20, h⟩ := bd_s h
  refine x_callSI dX1_pass_54 ml_RX1_19 mb_J9_min_7cf53 (c_J9_min_7cf53 (wI w12 x0 4) v15 w16 v18 w19 hc20) [] rfl rfl (Nat.le_of_ble_eq_true rfl) (by decide) (by decide) ?_
  refine x_istore (i := 4) (lv2 := [(4, xI v18), (0, xR x0), (1, xI x1), (2, xI x2), (3, xI x3)]) dX1_pass_57 (by decide) rfl ?_
  refine x_aload_n (j := 1) (i := 0) dX1_pass_59 rfl rfl ?_
  refine x_dup dX1_pass_60 rfl ?_
  obtain ⟨g21, h⟩ := gd_some h
  refine x_getI (ci := 1) (k := 4) dX1_pass_61 lf_RX1_25 rfl g21 ?_
  refine x_iload (j := 0) (i := 4) dX1_pass_64 rfl ?_
  refine x_isub dX1_pass_66 ?_
  obtain ⟨w22, hw23, h⟩ := lt1_some h
  refine x_putI (ci := 1) (k := 4) dX1_pass_67 (lw_RX1_25_w _) rfl g21 ?_
  rw [← hw23]
  refine x_aload_n (j := 1) (i := 0) dX1_pass_70 rfl rfl ?_
  refine x_dup dX1_pass_71 rfl ?_
  have g24 : isC w22 x0 1 := by rw [hw23]; exact g21
  refine x_getI (ci := 1) (k := 3) dX1_pass_72 lf_RX1_16 rfl g24 ?_
  refine x_iload (j := 0) (i := 4) dX1_pass_75 rfl ?_
  refine x_iadd dX1_pass_77 ?_
  obtain ⟨w25, hw26, h⟩ := lt1_some h
  refine x_putI (ci := 1) (k := 3) dX1_pass_78 (lw_RX1_16_w _) rfl g24 ?_
  rw [← hw26]
  refine x_aload_n (j := 1) (i := 0) dX1_pass_81 rfl rfl ?_
  refine x_dup dX1_pass_82 rfl ?_
  have g27 : isC w25 x0 1 := by rw [hw26]; exact g24
  refine x_getI (ci := 1) (k := 5) dX1_pass_83 lf_RX1_31 rfl g27 ?_
  refine x_iload (j := 0) (i := 4) dX1_pass_86 rfl ?_
  refine x_iload_n (j := 4) (i := 3) dX1_pass_88 rfl rfl ?_
  refine x_imul dX1_pass_89 ?_
  refine x_iadd dX1_pass_90 ?_
  obtain ⟨w28, hw29, h⟩ := lt1_some h
  refine x_putI (ci := 1) (k := 5) dX1_pass_91 (lw_RX1_31_w _) rfl g27 ?_
  rw [← hw29]
  refine x_aload_n (j := 1) (i := 0) dX1_pass_94 rfl rfl ?_
  refine x_dup dX1_pass_95 rfl ?_
  have g30 : isC w28 x0 1 := by rw [hw29]; exact g27
  refine x_getI (ci := 1) (k := 6) dX1_pass_96 lf_RX1_34 rfl g30 ?_
  refine x_iload (j := 0) (i := 4) dX1_pass_99 rfl ?_
  refine x_iload_n (j := 4) (i := 3) dX1_pass_101 rfl rfl ?_
  refine x_imul dX1_pass_102 ?_
  refine x_iadd dX1_pass_103 ?_
  obtain ⟨w31, hw32, h⟩ := lt1_some h
  refine x_putI (ci := 1) (k := 6) dX1_pass_104 (lw_RX1_34_w _) rfl g30 ?_
  rw [← hw32]
  obtain ⟨hr9, hw9⟩ := Prod.mk.inj (Option.some.inj h)
  subst hw9
  exact x_vret dX1_pass_107 rfl rfl
set_option maxRecDepth 20000 in
theorem c_X1_beginNextDay (x0 : Nat) (w : xSt) (rE : Unit) (wE : xSt) (h : f_X1_beginNextDay x0 w = some (rE, wE)) : xCall yX1_beginNextDay cX1_beginNextDay 1 none 0 0 0 [xR x0] w (none, wE) := by
  refine xCall_of false (by decide) (fun q => nomatch q) (Nat.le_of_ble_eq_true rfl) ?_
  show xX cX1_beginNextDay 1 none RX1 false (xRm 0 0 0) (xZf (none, wE) 0 0) 0 [(0, xR x0)] [] w 0 0
  unfold f_X1_beginNextDay at h
  refine x_aload_n (j := 0) (i := 0) dX1_beginNextDay_0 rfl rfl ?_
  refine x_dup dX1_beginNextDay_1 rfl ?_
  obtain ⟨g1, h⟩ := gd_some h
  refine x_getI (ci := 1) (k := 1) dX1_beginNextDay_2 lf_RX1_37 rfl g1 ?_
  refine x_iconst (v := 1) dX1_beginNextDay_5 (by decide) ?_
  refine x_iadd dX1_beginNextDay_6 ?_
  obtain ⟨w2, hw3, h⟩ := lt1_some h
  refine x_putI (ci := 1) (k := 1) dX1_beginNextDay_7 (lw_RX1_37_w _) rfl g1 ?_
  rw [← hw3]
  refine x_aload_n (j := 0) (i := 0) dX1_beginNextDay_10 rfl rfl ?_
  refine x_iconst (v := 0) dX1_beginNextDay_11 (by decide) ?_
  have g4 : isC w2 x0 1 := by rw [hw3]; exact g1
  obtain ⟨w5, hw6, h⟩ := lt1_some h
  refine x_putI (ci := 1) (k := 2) dX1_beginNextDay_12 (lw_RX1_13_w _) rfl g4 ?_
  rw [← hw6]
  refine x_aload_n (j := 0) (i := 0) dX1_beginNextDay_15 rfl rfl ?_
  refine x_iconst (v := 0) dX1_beginNextDay_16 (by decide) ?_
  have g7 : isC w5 x0 1 := by rw [hw6]; exact g4
  obtain ⟨w8, hw9, h⟩ := lt1_some h
  refine x_putI (ci := 1) (k := 3) dX1_beginNextDay_17 (lw_RX1_16_w _) rfl g7 ?_
  rw [← hw9]
  refine x_aload_n (j := 0) (i := 0) dX1_beginNextDay_20 rfl rfl ?_
  refine x_iconst (v := 0) dX1_beginNextDay_21 (by decide) ?_
  have g10 : isC w8 x0 1 := by rw [hw9]; exact g7
  obtain ⟨w11, hw12, h⟩ := lt1_some h
  refine x_putI (ci := 1) (k := 4) dX1_beginNextDay_22 (lw_RX1_25_w _) rfl g10 ?_
  rw [← hw12]
  refine x_aload_n (j := 0) (i := 0) dX1_beginNextDay_25 rfl rfl ?_
  refine x_iconst (v := 0) dX1_beginNextDay_26 (by decide) ?_
  have g13 : isC w11 x0 1 := by rw [hw12]; exact g10
  obtain ⟨w14, hw15, h⟩ := lt1_some h
  refine x_putI (ci := 1) (k := 5) dX1_beginNextDay_27 (lw_RX1_31_w _) rfl g13 ?_
  rw [← hw15]
  obtain ⟨hr9, hw9⟩ := Prod.mk.inj (Option.some.inj h)
  subst hw9
  exact x_vret dX1_beginNextDay_30 rfl rfl
set_option maxRecDepth 20000 in
theorem c_X2_init (x0 : Nat) (x1 : Nat) (x2 : Nat) (w : xSt) (rE : Unit) (wE : xSt) (h : f_X2_init x0 x1 x2 w = some (rE, wE)) : xCall yX2_init cX2_init 3 none 1 0 0 [xR x0, xR x1, xR x2] w (none, wE) := by
  refine xCall_of true (by decide) (fun _ => rfl) (Nat.le_of_ble_eq_true rfl) ?_
  show xX cX2_init 3 none RX2 true (xRm 1 0 0) (xZf (none, wE) 0 0) 0 [(0, xR x0), (1, xR x1), (2, xR x2)] [] w 0 0
  unfold f_X2_init at h
  refine x_aload_n (j := 0) (i := 0) dX2_init_0 rfl rfl ?_
  obtain ⟨g1, h⟩ := gd_some h
  refine x_objInit dX2_init_1 lo_RX2_3 lo_inst lo_code g1 (Nat.le_of_ble_eq_true rfl) (by decide) (by decide) ?_
  refine x_aload_n (j := 0) (i := 0) dX2_init_4 rfl rfl ?_
  refine x_aload_n (j := 1) (i := 1) dX2_init_5 rfl rfl ?_
  obtain ⟨w2, hw3, h⟩ := lt1_some h
  refine x_putR (ci := 2) (k := 0) dX2_init_6 lw_RX2_9_w rfl g1 ?_
  rw [← hw3]
  refine x_aload_n (j := 0) (i := 0) dX2_init_9 rfl rfl ?_
  refine x_aload_n (j := 2) (i := 2) dX2_init_10 rfl rfl ?_
  have g4 : isC w2 x0 2 := by rw [hw3]; exact g1
  obtain ⟨w5, hw6, h⟩ := lt1_some h
  refine x_putR (ci := 2) (k := 1) dX2_init_11 lw_RX2_15_w rfl g4 ?_
  rw [← hw6]
  obtain ⟨hr9, hw9⟩ := Prod.mk.inj (Option.some.inj h)
  subst hw9
  exact x_vret dX2_init_14 rfl rfl
set_option maxRecDepth 20000 in
theorem k_X2_stocked_l4 (rE : Int32) (wE : xSt) : ∀ (n : Nat) (x0 : Nat) (x1 : Int32) (x2 : Int32) (w : xSt), f_X2_stocked_l4 n x0 x1 x2 w = some (rE, wE) → xX cX2_stocked 3 (some .int) RX2 false (xRm 0 0 0) (xZf (some (xI rE), wE) 0 0) 4 [(0, xR x0), (1, xI x1), (2, xI x2)] [] w 0 0 := by
  intro n
  induction n with
  | zero => intro x0 x1 x2 w h; exact nomatch (show (none : Option (Int32 × xSt)) = some (rE, wE) from h)
  | succ n ih =>
    intro x0 x1 x2 w h
    rw [f_X2_stocked_l4_s] at h
    refine x_iload_n (j := 2) (i := 2) dX2_stocked_4 rfl rfl ?_
    refine x_aload_n (j := 0) (i := 0) dX2_stocked_5 rfl rfl ?_
    obtain ⟨g1, h⟩ := gd_some h
    refine x_getR (ci := 2) (k := 1) dX2_stocked_6 lf_RX2_15 rfl g1 ?_
    obtain ⟨g2, h⟩ := gd_some h
    refine x_getI (ci := 5) (k := 2) dX2_stocked_9 lf_RX2_33 rfl g2 ?_
    refine x_icmp_ge (tgt := 46) dX2_stocked_12 (by decide) (fun hc3 => ?_) (fun hc3 => ?_)
    · rw [if_pos hc3] at h
      refine x_iload_n (j := 1) (i := 1) dX2_stocked_46 rfl rfl ?_
      obtain ⟨hr9, hw9⟩ := Prod.mk.inj (Option.some.inj h)
      subst hw9
      subst hr9
      exact x_iret dX2_stocked_47 rfl rfl
    · rw [if_neg hc3] at h
      refine x_iload_n (j := 1) (i := 1) dX2_stocked_15 rfl rfl ?_
      refine x_aload_n (j := 0) (i := 0) dX2_stocked_16 rfl rfl ?_
      refine x_getR (ci := 2) (k := 1) dX2_stocked_17 lf_RX2_15 rfl g1 ?_
      refine x_getR (ci := 5) (k := 1) dX2_stocked_20 lf_RX2_39 rfl g2 ?_
      refine x_iload_n (j := 2) (i := 2) dX2_stocked_23 rfl rfl ?_
      obtain ⟨g4, h⟩ := gd_some h
      obtain ⟨g5, h⟩ := gd_some h
      refine x_qald24 dX2_stocked_24 g4 g5 ?_
      obtain ⟨g6, h⟩ := gd_some h
      refine x_getI (ci := 6) (k := 8) dX2_stocked_25 lf_RX2_19 rfl g6 ?_
      refine x_if_eq (tgt := 37) dX2_stocked_28 (by decide) (fun hc7 => ?_) (fun hc7 => ?_)
      · rw [if_pos hc7] at h
        refine x_iconst (v := 0) dX2_stocked_37 (by decide) ?_
        refine x_ior dX2_stocked_38 ?_
        refine x_istore_n (i := 1) (lv2 := [(1, xI (x1 ||| (0 : Int32))), (0, xR x0), (2, xI x2)]) dX2_stocked_39 rfl (by decide) rfl ?_
        refine x_iinc (j := 2) (i := 2) (v := x2 + (1 : Int32)) (lv2 := [(2, xI (x2 + (1 : Int32))), (1, xI (x1 ||| (0 : Int32))), (0, xR x0)]) dX2_stocked_40 rfl rfl (by decide) rfl ?_
        refine x_goto (tgt := 4) dX2_stocked_43 (by decide) ?_
        refine x_lv (lv2 := [(0, xR x0), (1, xI (x1 ||| (0 : Int32))), (2, xI (x2 + (1 : Int32)))]) [2, 1, 0] rfl ?_
        exact ih x0 (x1 ||| (0 : Int32)) (x2 + (1 : Int32)) w h
      · rw [if_neg hc7] at h
        refine x_iconst (v := 1) dX2_stocked_31 (by decide) ?_
        refine x_iload_n (j := 2) (i := 2) dX2_stocked_32 rfl rfl ?_
        refine x_ishl dX2_stocked_33 ?_
        refine x_goto (tgt := 38) dX2_stocked_34 (by decide) ?_
        refine x_ior dX2_stocked_38 ?_
        refine x_istore_n (i := 1) (lv2 := [(1, xI (x1 ||| ((1 : Int32) <<< (x2 &&& 31)))), (0, xR x0), (2, xI x2)]) dX2_stocked_39 rfl (by decide) rfl ?_
        refine x_iinc (j := 2) (i := 2) (v := x2 + (1 : Int32)) (lv2 := [(2, xI (x2 + (1 : Int32))), (1, xI (x1 ||| ((1 : Int32) <<< (x2 &&& 31)))), (0, xR x0)]) dX2_stocked_40 rfl rfl (by decide) rfl ?_
        refine x_goto (tgt := 4) dX2_stocked_43 (by decide) ?_
        refine x_lv (lv2 := [(0, xR x0), (1, xI (x1 ||| ((1 : Int32) <<< (x2 &&& 31)))), (2, xI (x2 + (1 : Int32)))]) [2, 1, 0] rfl ?_
        exact ih x0 (x1 ||| ((1 : Int32) <<< (x2 &&& 31))) (x2 + (1 : Int32)) w h
set_option maxRecDepth 20000 in
theorem c_X2_stocked (x0 : Nat) (w : xSt) (rE : Int32) (wE : xSt) (h : f_X2_stocked x0 w = some (rE, wE)) : xCall yX2_stocked cX2_stocked 3 (some .int) 0 0 0 [xR x0] w (some (xI rE), wE) := by
  refine xCall_of false (by decide) (fun q => nomatch q) (Nat.le_of_ble_eq_true rfl) ?_
  show xX cX2_stocked 3 (some .int) RX2 false (xRm 0 0 0) (xZf (some (xI rE), wE) 0 0) 0 [(0, xR x0)] [] w 0 0
  unfold f_X2_stocked at h
  refine x_iconst (v := 0) dX2_stocked_0 (by decide) ?_
  refine x_istore_n (i := 1) (lv2 := [(1, xI (0 : Int32)), (0, xR x0)]) dX2_stocked_1 rfl (by decide) rfl ?_
  refine x_iconst (v := 0) dX2_stocked_2 (by decide) ?_
  refine x_istore_n (i := 2) (lv2 := [(2, xI (0 : Int32)), (1, xI (0 : Int32)), (0, xR x0)]) dX2_stocked_3 rfl (by decide) rfl ?_
  refine x_lv (lv2 := [(0, xR x0), (1, xI (0 : Int32)), (2, xI (0 : Int32))]) [2, 1, 0] rfl ?_
  exact k_X2_stocked_l4 rE wE xFu x0 (0 : Int32) (0 : Int32) w h
set_option maxRecDepth 20000 in
theorem c_X2_holds (x0 : Int32) (x1 : Int32) (w : xSt) (rE : Int32) (wE : xSt) (h : f_X2_holds x0 x1 w = some (rE, wE)) : xCall yX2_holds cX2_holds 2 (some .boolean) 0 0 0 [xI x0, xI x1] w (some (xI rE), wE) := by
  refine xCall_of false (by decide) (fun q => nomatch q) (Nat.le_of_ble_eq_true rfl) ?_
  show xX cX2_holds 2 (some .boolean) RX2 false (xRm 0 0 0) (xZf (some (xI rE), wE) 0 0) 0 [(0, xI x0), (1, xI x1)] [] w 0 0
  unfold f_X2_holds at h
  refine x_iload_n (j := 0) (i := 0) dX2_holds_0 rfl rfl ?_
  refine x_iconst (v := 1) dX2_holds_1 (by decide) ?_
  refine x_iload_n (j := 1) (i := 1) dX2_holds_2 rfl rfl ?_
  refine x_ishl dX2_holds_3 ?_
  refine x_iand dX2_holds_4 ?_
  refine x_if_eq (tgt := 12) dX2_holds_5 (by decide) (fun hc1 => ?_) (fun hc1 => ?_)
  · rw [if_pos hc1] at h
    refine x_iconst (v := 0) dX2_holds_12 (by decide) ?_
    obtain ⟨hr9, hw9⟩ := Prod.mk.inj (Option.some.inj h)
    subst hw9
    subst hr9
    exact x_zret dX2_holds_13 rfl (by decide) rfl
  · rw [if_neg hc1] at h
    refine x_iconst (v := 1) dX2_holds_8 (by decide) ?_
    refine x_goto (tgt := 13) dX2_holds_9 (by decide) ?_
    obtain ⟨hr9, hw9⟩ := Prod.mk.inj (Option.some.inj h)
    subst hw9
    subst hr9
    exact x_zret dX2_holds_13 rfl (by decide) rfl
set_option maxRecDepth 20000 in
theorem k_X2_isReached_l11 (rE : Int32) (wE : xSt) : ∀ (n : Nat) (x0 : Nat) (x1 : Nat) (x2 : Int32) (x3 : Int64) (x5 : Int32) (w : xSt), f_X2_isReached_l11 n x0 x1 x2 x3 x5 w = some (rE, wE) → xX cX2_isReached 6 (some .boolean) RX2 false (xRm 2 0 0) (xZf (some (xI rE), wE) 0 0) 11 [(0, xR x0), (1, xR x1), (2, xI x2), (3, xL x3), (5, xI x5)] [] w 0 0 := by
  intro n
  induction n with
  | zero => intro x0 x1 x2 x3 x5 w h; exact nomatch (show (none : Option (Int32 × xSt)) = some (rE, wE) from h)
  | succ n ih =>
    intro x0 x1 x2 x3 x5 w h
    rw [f_X2_isReached_l11_s] at h
    refine x_iload (j := 4) (i := 5) dX2_isReached_11 rfl ?_
    refine x_aload_n (j := 0) (i := 0) dX2_isReached_13 rfl rfl ?_
    obtain ⟨g6, h⟩ := gd_some h
    refine x_getR (ci := 2) (k := 1) dX2_isReached_14 lf_RX2_15 rfl g6 ?_
    obtain ⟨g7, h⟩ := gd_some h
    refine x_getI (ci := 5) (k := 2) dX2_isReached_17 lf_RX2_33 rfl g7 ?_
    refine x_icmp_ge (tgt := 64) dX2_isReached_20 (by decide) (fun hc8 => ?_) (fun hc8 => ?_)
    · rw [if_pos hc8] at h
      refine x_aload_n (j := 0) (i := 0) dX2_isReached_64 rfl rfl ?_
      refine x_getR (ci := 2) (k := 0) dX2_isReached_65 lf_RX2_9 rfl g6 ?_
      refine x_aload_n (j := 0) (i := 0) dX2_isReached_68 rfl rfl ?_
      refine x_getR (ci := 2) (k := 0) dX2_isReached_69 lf_RX2_9 rfl g6 ?_
      obtain ⟨g9, h⟩ := gd_some h
      refine x_getR (ci := 0) (k := 6) dX2_isReached_72 lf_RX2_63 rfl g9 ?_
      refine x_iconst (v := 1) dX2_isReached_75 (by decide) ?_
      obtain ⟨g10, h⟩ := gd_some h
      obtain ⟨g11, h⟩ := gd_some h
      refine x_lald dX2_isReached_76 g10 g11 ?_
      refine x_lload_n (j := 3) (i := 3) dX2_isReached_77 rfl rfl ?_
      refine x_aload_n (j := 0) (i := 0) dX2_isReached_78 rfl rfl ?_
      refine x_getR (ci := 2) (k := 0) dX2_isReached_79 lf_RX2_9 rfl g6 ?_
      refine x_getI (ci := 0) (k := 2) dX2_isReached_82 lf_RX2_67 rfl g9 ?_
      obtain ⟨v12, w13, hc14, h⟩ := bd_s h
      refine x_callVL (ci := 0) dX2_isReached_85 ml_RX2_70 mb_X0_spread (c_X0_spread (wR w x0 0) (wL w (wR w (wR w x0 0) 6) (1 : Int32).toNatClampNeg) x3 (wI w (wR w x0 0) 2) w v12 w13 hc14) ⟨_, rfl, rfl⟩ g9 [] rfl rfl (Nat.le_of_ble_eq_true rfl) (by decide) (by decide) ?_
      refine x_aload_n (j := 1) (i := 1) dX2_isReached_88 rfl rfl ?_
      obtain ⟨g15, h⟩ := gd_some h
      refine x_getL (ci := 6) (k := 7) dX2_isReached_89 lf_RX2_57 rfl g15 ?_
      refine x_land dX2_isReached_92 ?_
      refine x_lconst (v := 0) dX2_isReached_93 (by decide) ?_
      refine x_lcmp dX2_isReached_94 ?_
      refine x_if_eq (tgt := 102) dX2_isReached_95 (by decide) (fun hc16 => ?_) (fun hc16 => ?_)
      · rw [if_pos hc16] at h
        refine x_iconst (v := 0) dX2_isReached_102 (by decide) ?_
        obtain ⟨hr9, hw9⟩ := Prod.mk.inj (Option.some.inj h)
        subst hw9
        subst hr9
        exact x_zret dX2_isReached_103 rfl (by decide) rfl
      · rw [if_neg hc16] at h
        refine x_iconst (v := 1) dX2_isReached_98 (by decide) ?_
        refine x_goto (tgt := 103) dX2_isReached_99 (by decide) ?_
        obtain ⟨hr9, hw9⟩ := Prod.mk.inj (Option.some.inj h)
        subst hw9
        subst hr9
        exact x_zret dX2_isReached_103 rfl (by decide) rfl
    · rw [if_neg hc8] at h
      refine x_lload_n (j := 3) (i := 3) dX2_isReached_23 rfl rfl ?_
      refine x_iload_n (j := 2) (i := 2) dX2_isReached_24 rfl rfl ?_
      refine x_iload (j := 4) (i := 5) dX2_isReached_25 rfl ?_
      obtain ⟨v17, w18, hc19, h⟩ := bd_s h
      refine x_callSI dX2_isReached_27 ml_RX2_53 mb_X2_holds (c_X2_holds x2 x5 w v17 w18 hc19) [xL x3] rfl rfl (Nat.le_of_ble_eq_true rfl) (by decide) (by decide) ?_
      refine x_if_eq (tgt := 53) dX2_isReached_30 (by decide) (fun hc20 => ?_) (fun hc20 => ?_)
      · rw [if_pos hc20] at h
        refine x_ldc2 dX2_isReached_53 lc_RX2_61 ?_
        refine x_land dX2_isReached_56 ?_
        refine x_lstore_n (i := 3) (lv2 := [(3, xL (x3 &&& (-1 : Int64))), (0, xR x0), (1, xR x1), (2, xI x2), (5, xI x5)]) dX2_isReached_57 rfl (by decide) rfl ?_
        refine x_iinc (j := 4) (i := 5) (v := x5 + (1 : Int32)) (lv2 := [(5, xI (x5 + (1 : Int32))), (3, xL (x3 &&& (-1 : Int64))), (0, xR x0), (1, xR x1), (2, xI x2)]) dX2_isReached_58 rfl rfl (by decide) rfl ?_
        refine x_goto (tgt := 11) dX2_isReached_61 (by decide) ?_
        refine x_lv (lv2 := [(0, xR x0), (1, xR x1), (2, xI x2), (3, xL (x3 &&& (-1 : Int64))), (5, xI (x5 + (1 : Int32)))]) [2, 3, 4, 1, 0] rfl ?_
        exact ih x0 x1 x2 (x3 &&& (-1 : Int64)) (x5 + (1 : Int32)) w18 h
      · rw [if_neg hc20] at h
        refine x_aload_n (j := 0) (i := 0) dX2_isReached_33 rfl rfl ?_
        obtain ⟨g21, h⟩ := gd_some h
        refine x_getR (ci := 2) (k := 1) dX2_isReached_34 lf_RX2_15 rfl g21 ?_
        obtain ⟨g22, h⟩ := gd_some h
        refine x_getR (ci := 5) (k := 1) dX2_isReached_37 lf_RX2_39 rfl g22 ?_
        refine x_iload (j := 4) (i := 5) dX2_isReached_40 rfl ?_
        obtain ⟨g23, h⟩ := gd_some h
        obtain ⟨g24, h⟩ := gd_some h
        refine x_qald24 dX2_isReached_42 g23 g24 ?_
        obtain ⟨g25, h⟩ := gd_some h
        refine x_getL (ci := 6) (k := 7) dX2_isReached_43 lf_RX2_57 rfl g25 ?_
        refine x_ldc2 dX2_isReached_46 lc_RX2_61 ?_
        refine x_lxor dX2_isReached_49 ?_
        refine x_goto (tgt := 56) dX2_isReached_50 (by decide) ?_
        refine x_land dX2_isReached_56 ?_
        refine x_lstore_n (i := 3) (lv2 := [(3, xL (x3 &&& ((wL w18 (wR w18 (wR w18 (wR w18 x0 1) 1) x5.toNatClampNeg) 7) ^^^ (-1 : Int64)))), (0, xR x0), (1, xR x1), (2, xI x2), (5, xI x5)]) dX2_isReached_57 rfl (by decide) rfl ?_
        refine x_iinc (j := 4) (i := 5) (v := x5 + (1 : Int32)) (lv2 := [(5, xI (x5 + (1 : Int32))), (3, xL (x3 &&& ((wL w18 (wR w18 (wR w18 (wR w18 x0 1) 1) x5.toNatClampNeg) 7) ^^^ (-1 : Int64)))), (0, xR x0), (1, xR x1), (2, xI x2)]) dX2_isReached_58 rfl rfl (by decide) rfl ?_
        refine x_goto (tgt := 11) dX2_isReached_61 (by decide) ?_
        refine x_lv (lv2 := [(0, xR x0), (1, xR x1), (2, xI x2), (3, xL (x3 &&& ((wL w18 (wR w18 (wR w18 (wR w18 x0 1) 1) x5.toNatClampNeg) 7) ^^^ (-1 : Int64)))), (5, xI (x5 + (1 : Int32)))]) [2, 3, 4, 1, 0] rfl ?_
        exact ih x0 x1 x2 (x3 &&& ((wL w18 (wR w18 (wR w18 (wR w18 x0 1) 1) x5.toNatClampNeg) 7) ^^^ (-1 : Int64))) (x5 + (1 : Int32)) w18 h
set_option maxRecDepth 20000 in
theorem c_X2_isReached (x0 : Nat) (x1 : Nat) (x2 : Int32) (w : xSt) (rE : Int32) (wE : xSt) (h : f_X2_isReached x0 x1 x2 w = some (rE, wE)) : xCall yX2_isReached cX2_isReached 6 (some .boolean) 2 0 0 [xR x0, xR x1, xI x2] w (some (xI rE), wE) := by
  refine xCall_of false (by decide) (fun q => nomatch q) (Nat.le_of_ble_eq_true rfl) ?_
  show xX cX2_isReached 6 (some .boolean) RX2 false (xRm 2 0 0) (xZf (some (xI rE), wE) 0 0) 0 [(0, xR x0), (1, xR x1), (2, xI x2)] [] w 0 0
  unfold f_X2_isReached at h
  refine x_aload_n (j := 0) (i := 0) dX2_isReached_0 rfl rfl ?_
  obtain ⟨g1, h⟩ := gd_some h
  refine x_getR (ci := 2) (k := 0) dX2_isReached_1 lf_RX2_9 rfl g1 ?_
  obtain ⟨g5, h⟩ := gd_some h
  obtain ⟨v2, w3, hc4, h⟩ := bd_s h
  refine x_callVL (ci := 0) dX2_isReached_4 ml_RX2_47 mb_X0_open (c_X0_open (wR w x0 0) w v2 w3 hc4) ⟨_, rfl, rfl⟩ g5 [] rfl rfl (Nat.le_of_ble_eq_true rfl) (by decide) (by decide) ?_
  refine x_lstore_n (i := 3) (lv2 := [(3, xL v2), (0, xR x0), (1, xR x1), (2, xI x2)]) dX2_isReached_7 rfl (by decide) rfl ?_
  refine x_iconst (v := 0) dX2_isReached_8 (by decide) ?_
  refine x_istore (i := 5) (lv2 := [(5, xI (0 : Int32)), (3, xL v2), (0, xR x0), (1, xR x1), (2, xI x2)]) dX2_isReached_9 (by decide) rfl ?_
  refine x_lv (lv2 := [(0, xR x0), (1, xR x1), (2, xI x2), (3, xL v2), (5, xI (0 : Int32))]) [2, 3, 4, 1, 0] rfl ?_
  exact k_X2_isReached_l11 rE wE xFu x0 x1 x2 v2 (0 : Int32) w3 h
set_option maxRecDepth 20000 in
theorem c_X2_mayComeIn (x0 : Nat) (x1 : Nat) (w : xSt) (rE : Int32) (wE : xSt) (h : f_X2_mayComeIn x0 x1 w = some (rE, wE)) : xCall yX2_mayComeIn cX2_mayComeIn 2 (some .boolean) 3 0 0 [xR x0, xR x1] w (some (xI rE), wE) := by
  refine xCall_of false (by decide) (fun q => nomatch q) (Nat.le_of_ble_eq_true rfl) ?_
  show xX cX2_mayComeIn 2 (some .boolean) RX2 false (xRm 3 0 0) (xZf (some (xI rE), wE) 0 0) 0 [(0, xR x0), (1, xR x1)] [] w 0 0
  unfold f_X2_mayComeIn at h
  refine x_aload_n (j := 1) (i := 1) dX2_mayComeIn_0 rfl rfl ?_
  obtain ⟨g1, h⟩ := gd_some h
  refine x_getI (ci := 6) (k := 8) dX2_mayComeIn_1 lf_RX2_19 rfl g1 ?_
  refine x_if_ne (tgt := 23) dX2_mayComeIn_4 (by decide) (fun hc2 => ?_) (fun hc2 => ?_)
  · rw [if_neg hc2] at h
    refine x_iconst (v := 0) dX2_mayComeIn_23 (by decide) ?_
    obtain ⟨hr9, hw9⟩ := Prod.mk.inj (Option.some.inj h)
    subst hw9
    subst hr9
    exact x_zret dX2_mayComeIn_24 rfl (by decide) rfl
  · rw [if_pos hc2] at h
    refine x_aload_n (j := 0) (i := 0) dX2_mayComeIn_7 rfl rfl ?_
    refine x_aload_n (j := 1) (i := 1) dX2_mayComeIn_8 rfl rfl ?_
    refine x_aload_n (j := 0) (i := 0) dX2_mayComeIn_9 rfl rfl ?_
    obtain ⟨g6, h⟩ := gd_some h
    obtain ⟨v3, w4, hc5, h⟩ := bd_s h
    refine x_callVI (ci := 2) dX2_mayComeIn_10 ml_RX2_25 mb_X2_stocked (c_X2_stocked x0 w v3 w4 hc5) ⟨_, rfl, rfl⟩ g6 [xR x1, xR x0] rfl rfl (Nat.le_of_ble_eq_true rfl) (by decide) (by decide) ?_
    obtain ⟨g10, h⟩ := gd_some h
    obtain ⟨v7, w8, hc9, h⟩ := bd_s h
    refine x_callVI (ci := 2) dX2_mayComeIn_13 ml_RX2_29 mb_X2_isReached (c_X2_isReached x0 x1 v3 w4 v7 w8 hc9) ⟨_, rfl, rfl⟩ g10 [] rfl rfl (Nat.le_of_ble_eq_true rfl) (by decide) (by decide) ?_
    refine x_if_eq (tgt := 23) dX2_mayComeIn_16 (by decide) (fun hc11 => ?_) (fun hc11 => ?_)
    · rw [if_pos hc11] at h
      refine x_iconst (v := 0) dX2_mayComeIn_23 (by decide) ?_
      obtain ⟨hr9, hw9⟩ := Prod.mk.inj (Option.some.inj h)
      subst hw9
      subst hr9
      exact x_zret dX2_mayComeIn_24 rfl (by decide) rfl
    · rw [if_neg hc11] at h
      refine x_iconst (v := 1) dX2_mayComeIn_19 (by decide) ?_
      refine x_goto (tgt := 24) dX2_mayComeIn_20 (by decide) ?_
      obtain ⟨hr9, hw9⟩ := Prod.mk.inj (Option.some.inj h)
      subst hw9
      subst hr9
      exact x_zret dX2_mayComeIn_24 rfl (by decide) rfl
set_option maxRecDepth 20000 in
theorem c_X6_isLaid (x0 : Nat) (w : xSt) (rE : Int32) (wE : xSt) (h : f_X6_isLaid x0 w = some (rE, wE)) : xCall yX6_isLaid cX6_isLaid 1 (some .boolean) 0 0 0 [xR x0] w (some (xI rE), wE) := by
  refine xCall_of false (by decide) (fun q => nomatch q) (Nat.le_of_ble_eq_true rfl) ?_
  show xX cX6_isLaid 1 (some .boolean) RX6 false (xRm 0 0 0) (xZf (some (xI rE), wE) 0 0) 0 [(0, xR x0)] [] w 0 0
  unfold f_X6_isLaid at h
  refine x_aload_n (j := 0) (i := 0) dX6_isLaid_0 rfl rfl ?_
  obtain ⟨g1, h⟩ := gd_some h
  refine x_getI (ci := 6) (k := 6) dX6_isLaid_1 lf_RX6_30 rfl g1 ?_
  refine x_iconst (v := -1) dX6_isLaid_4 (by decide) ?_
  refine x_icmp_eq (tgt := 12) dX6_isLaid_5 (by decide) (fun hc2 => ?_) (fun hc2 => ?_)
  · rw [if_pos hc2] at h
    refine x_iconst (v := 0) dX6_isLaid_12 (by decide) ?_
    obtain ⟨hr9, hw9⟩ := Prod.mk.inj (Option.some.inj h)
    subst hw9
    subst hr9
    exact x_zret dX6_isLaid_13 rfl (by decide) rfl
  · rw [if_neg hc2] at h
    refine x_iconst (v := 1) dX6_isLaid_8 (by decide) ?_
    refine x_goto (tgt := 13) dX6_isLaid_9 (by decide) ?_
    obtain ⟨hr9, hw9⟩ := Prod.mk.inj (Option.some.inj h)
    subst hw9
    subst hr9
    exact x_zret dX6_isLaid_13 rfl (by decide) rfl
set_option maxRecDepth 20000 in
theorem k_X2_laid_l4 (rE : Int32) (wE : xSt) : ∀ (n : Nat) (x0 : Nat) (x1 : Int32) (x2 : Int32) (w : xSt), f_X2_laid_l4 n x0 x1 x2 w = some (rE, wE) → xX cX2_laid 3 (some .int) RX2 false (xRm 1 0 0) (xZf (some (xI rE), wE) 0 0) 4 [(0, xR x0), (1, xI x1), (2, xI x2)] [] w 0 0 := by
  intro n
  induction n with
  | zero => intro x0 x1 x2 w h; exact nomatch (show (none : Option (Int32 × xSt)) = some (rE, wE) from h)
  | succ n ih =>
    intro x0 x1 x2 w h
    rw [f_X2_laid_l4_s] at h
    refine x_iload_n (j := 2) (i := 2) dX2_laid_4 rfl rfl ?_
    refine x_aload_n (j := 0) (i := 0) dX2_laid_5 rfl rfl ?_
    obtain ⟨g1, h⟩ := gd_some h
    refine x_getR (ci := 2) (k := 1) dX2_laid_6 lf_RX2_15 rfl g1 ?_
    obtain ⟨g2, h⟩ := gd_some h
    refine x_getI (ci := 5) (k := 2) dX2_laid_9 lf_RX2_33 rfl g2 ?_
    refine x_icmp_ge (tgt := 46) dX2_laid_12 (by decide) (fun hc3 => ?_) (fun hc3 => ?_)
    · rw [if_pos hc3] at h
      refine x_iload_n (j := 1) (i := 1) dX2_laid_46 rfl rfl ?_
      obtain ⟨hr9, hw9⟩ := Prod.mk.inj (Option.some.inj h)
      subst hw9
      subst hr9
      exact x_iret dX2_laid_47 rfl rfl
    · rw [if_neg hc3] at h
      refine x_iload_n (j := 1) (i := 1) dX2_laid_15 rfl rfl ?_
      refine x_aload_n (j := 0) (i := 0) dX2_laid_16 rfl rfl ?_
      refine x_getR (ci := 2) (k := 1) dX2_laid_17 lf_RX2_15 rfl g1 ?_
      refine x_getR (ci := 5) (k := 1) dX2_laid_20 lf_RX2_39 rfl g2 ?_
      refine x_iload_n (j := 2) (i := 2) dX2_laid_23 rfl rfl ?_
      obtain ⟨g4, h⟩ := gd_some h
      obtain ⟨g5, h⟩ := gd_some h
      refine x_qald24 dX2_laid_24 g4 g5 ?_
      obtain ⟨g9, h⟩ := gd_some h
      obtain ⟨v6, w7, hc8, h⟩ := bd_s h
      refine x_callVI (ci := 6) dX2_laid_25 ml_RX2_43 mb_X6_isLaid (c_X6_isLaid (wR w (wR w (wR w x0 1) 1) x2.toNatClampNeg) w v6 w7 hc8) ⟨_, rfl, rfl⟩ g9 [xI x1] rfl rfl (Nat.le_of_ble_eq_true rfl) (by decide) (by decide) ?_
      refine x_if_eq (tgt := 37) dX2_laid_28 (by decide) (fun hc10 => ?_) (fun hc10 => ?_)
      · rw [if_pos hc10] at h
        refine x_iconst (v := 0) dX2_laid_37 (by decide) ?_
        refine x_ior dX2_laid_38 ?_
        refine x_istore_n (i := 1) (lv2 := [(1, xI (x1 ||| (0 : Int32))), (0, xR x0), (2, xI x2)]) dX2_laid_39 rfl (by decide) rfl ?_
        refine x_iinc (j := 2) (i := 2) (v := x2 + (1 : Int32)) (lv2 := [(2, xI (x2 + (1 : Int32))), (1, xI (x1 ||| (0 : Int32))), (0, xR x0)]) dX2_laid_40 rfl rfl (by decide) rfl ?_
        refine x_goto (tgt := 4) dX2_laid_43 (by decide) ?_
        refine x_lv (lv2 := [(0, xR x0), (1, xI (x1 ||| (0 : Int32))), (2, xI (x2 + (1 : Int32)))]) [2, 1, 0] rfl ?_
        exact ih x0 (x1 ||| (0 : Int32)) (x2 + (1 : Int32)) w7 h
      · rw [if_neg hc10] at h
        refine x_iconst (v := 1) dX2_laid_31 (by decide) ?_
        refine x_iload_n (j := 2) (i := 2) dX2_laid_32 rfl rfl ?_
        refine x_ishl dX2_laid_33 ?_
        refine x_goto (tgt := 38) dX2_laid_34 (by decide) ?_
        refine x_ior dX2_laid_38 ?_
        refine x_istore_n (i := 1) (lv2 := [(1, xI (x1 ||| ((1 : Int32) <<< (x2 &&& 31)))), (0, xR x0), (2, xI x2)]) dX2_laid_39 rfl (by decide) rfl ?_
        refine x_iinc (j := 2) (i := 2) (v := x2 + (1 : Int32)) (lv2 := [(2, xI (x2 + (1 : Int32))), (1, xI (x1 ||| ((1 : Int32) <<< (x2 &&& 31)))), (0, xR x0)]) dX2_laid_40 rfl rfl (by decide) rfl ?_
        refine x_goto (tgt := 4) dX2_laid_43 (by decide) ?_
        refine x_lv (lv2 := [(0, xR x0), (1, xI (x1 ||| ((1 : Int32) <<< (x2 &&& 31)))), (2, xI (x2 + (1 : Int32)))]) [2, 1, 0] rfl ?_
        exact ih x0 (x1 ||| ((1 : Int32) <<< (x2 &&& 31))) (x2 + (1 : Int32)) w7 h
set_option maxRecDepth 20000 in
theorem c_X2_laid (x0 : Nat) (w : xSt) (rE : Int32) (wE : xSt) (h : f_X2_laid x0 w = some (rE, wE)) : xCall yX2_laid cX2_laid 3 (some .int) 1 0 0 [xR x0] w (some (xI rE), wE) := by
  refine xCall_of false (by decide) (fun q => nomatch q) (Nat.le_of_ble_eq_true rfl) ?_
  show xX cX2_laid 3 (some .int) RX2 false (xRm 1 0 0) (xZf (some (xI rE), wE) 0 0) 0 [(0, xR x0)] [] w 0 0
  unfold f_X2_laid at h
  refine x_iconst (v := 0) dX2_laid_0 (by decide) ?_
  refine x_istore_n (i := 1) (lv2 := [(1, xI (0 : Int32)), (0, xR x0)]) dX2_laid_1 rfl (by decide) rfl ?_
  refine x_iconst (v := 0) dX2_laid_2 (by decide) ?_
  refine x_istore_n (i := 2) (lv2 := [(2, xI (0 : Int32)), (1, xI (0 : Int32)), (0, xR x0)]) dX2_laid_3 rfl (by decide) rfl ?_
  refine x_lv (lv2 := [(0, xR x0), (1, xI (0 : Int32)), (2, xI (0 : Int32))]) [2, 1, 0] rfl ?_
  exact k_X2_laid_l4 rE wE xFu x0 (0 : Int32) (0 : Int32) w h
set_option maxRecDepth 20000 in
theorem c_J6_bitCount_0f7a4 (x0 : Int32) (w : xSt) (rE : Int32) (wE : xSt) (h : f_J6_bitCount_0f7a4 x0 w = some (rE, wE)) : xCall yJ6_bitCount_0f7a4 cJ6_bitCount_0f7a4 1 (some .int) 0 0 0 [xI x0] w (some (xI rE), wE) := by
  refine xCall_ofF false (by decide +kernel) (fun q => nomatch q) (Nat.le_of_ble_eq_true rfl) ?_
  show xX cJ6_bitCount_0f7a4 1 (some .int) RJ6 false (xRm 0 0 0) (xZf (some (xI rE), wE) 0 0) 0 [(0, xI x0)] [] w 0 0
  unfold f_J6_bitCount_0f7a4 at h
  refine x_iload_n (j := 0) (i := 0) dJ6_bitCount_0f7a4_0 rfl rfl ?_
  refine x_iload_n (j := 0) (i := 0) dJ6_bitCount_0f7a4_1 rfl rfl ?_
  refine x_iconst (v := 1) dJ6_bitCount_0f7a4_2 (by decide) ?_
  refine x_iushr dJ6_bitCount_0f7a4_3 ?_
  refine x_ldcw dJ6_bitCount_0f7a4_4 lc_RJ6_265 ?_
  refine x_iand dJ6_bitCount_0f7a4_7 ?_
  refine x_isub dJ6_bitCount_0f7a4_8 ?_
  refine x_istore_n (i := 0) (lv2 := [(0, xI (x0 - ((iushr x0 (1 : Int32)) &&& (1431655765 : Int32))))]) dJ6_bitCount_0f7a4_9 rfl (by decide) rfl ?_
  refine x_iload_n (j := 0) (i := 0) dJ6_bitCount_0f7a4_10 rfl rfl ?_
  refine x_ldcw dJ6_bitCount_0f7a4_11 lc_RJ6_266 ?_
  refine x_iand dJ6_bitCount_0f7a4_14 ?_
  refine x_iload_n (j := 0) (i := 0) dJ6_bitCount_0f7a4_15 rfl rfl ?_
  refine x_iconst (v := 2) dJ6_bitCount_0f7a4_16 (by decide) ?_
  refine x_iushr dJ6_bitCount_0f7a4_17 ?_
  refine x_ldcw dJ6_bitCount_0f7a4_18 lc_RJ6_266 ?_
  refine x_iand dJ6_bitCount_0f7a4_21 ?_
  refine x_iadd dJ6_bitCount_0f7a4_22 ?_
  refine x_istore_n (i := 0) (lv2 := [(0, xI (((x0 - ((iushr x0 (1 : Int32)) &&& (1431655765 : Int32))) &&& (858993459 : Int32)) + ((iushr (x0 - ((iushr x0 (1 : Int32)) &&& (1431655765 : Int32))) (2 : Int32)) &&& (858993459 : Int32))))]) dJ6_bitCount_0f7a4_23 rfl (by decide) rfl ?_
  refine x_iload_n (j := 0) (i := 0) dJ6_bitCount_0f7a4_24 rfl rfl ?_
  refine x_iload_n (j := 0) (i := 0) dJ6_bitCount_0f7a4_25 rfl rfl ?_
  refine x_iconst (v := 4) dJ6_bitCount_0f7a4_26 (by decide) ?_
  refine x_iushr dJ6_bitCount_0f7a4_27 ?_
  refine x_iadd dJ6_bitCount_0f7a4_28 ?_
  refine x_ldcw dJ6_bitCount_0f7a4_29 lc_RJ6_267 ?_
  refine x_iand dJ6_bitCount_0f7a4_32 ?_
  refine x_istore_n (i := 0) (lv2 := [(0, xI (((((x0 - ((iushr x0 (1 : Int32)) &&& (1431655765 : Int32))) &&& (858993459 : Int32)) + ((iushr (x0 - ((iushr x0 (1 : Int32)) &&& (1431655765 : Int32))) (2 : Int32)) &&& (858993459 : Int32))) + (iushr (((x0 - ((iushr x0 (1 : Int32)) &&& (1431655765 : Int32))) &&& (858993459 : Int32)) + ((iushr (x0 - ((iushr x0 (1 : Int32)) &&& (1431655765 : Int32))) (2 : Int32)) &&& (858993459 : Int32))) (4 : Int32))) &&& (252645135 : Int32)))]) dJ6_bitCount_0f7a4_33 rfl (by decide) rfl ?_
  refine x_iload_n (j := 0) (i := 0) dJ6_bitCount_0f7a4_34 rfl rfl ?_
  refine x_iload_n (j := 0) (i := 0) dJ6_bitCount_0f7a4_35 rfl rfl ?_
  refine x_bipush (v := 8) dJ6_bitCount_0f7a4_36 (by decide) ?_
  refine x_iushr dJ6_bitCount_0f7a4_38 ?_
  refine x_iadd dJ6_bitCount_0f7a4_39 ?_
  refine x_istore_n (i := 0) (lv2 := [(0, xI ((((((x0 - ((iushr x0 (1 : Int32)) &&& (1431655765 : Int32))) &&& (858993459 : Int32)) + ((iushr (x0 - ((iushr x0 (1 : Int32)) &&& (1431655765 : Int32))) (2 : Int32)) &&& (858993459 : Int32))) + (iushr (((x0 - ((iushr x0 (1 : Int32)) &&& (1431655765 : Int32))) &&& (858993459 : Int32)) + ((iushr (x0 - ((iushr x0 (1 : Int32)) &&& (1431655765 : Int32))) (2 : Int32)) &&& (858993459 : Int32))) (4 : Int32))) &&& (252645135 : Int32)) + (iushr (((((x0 - ((iushr x0 (1 : Int32)) &&& (1431655765 : Int32))) &&& (858993459 : Int32)) + ((iushr (x0 - ((iushr x0 (1 : Int32)) &&& (1431655765 : Int32))) (2 : Int32)) &&& (858993459 : Int32))) + (iushr (((x0 - ((iushr x0 (1 : Int32)) &&& (1431655765 : Int32))) &&& (858993459 : Int32)) + ((iushr (x0 - ((iushr x0 (1 : Int32)) &&& (1431655765 : Int32))) (2 : Int32)) &&& (858993459 : Int32))) (4 : Int32))) &&& (252645135 : Int32)) (8 : Int32))))]) dJ6_bitCount_0f7a4_40 rfl (by decide) rfl ?_
  refine x_iload_n (j := 0) (i := 0) dJ6_bitCount_0f7a4_41 rfl rfl ?_
  refine x_iload_n (j := 0) (i := 0) dJ6_bitCount_0f7a4_42 rfl rfl ?_
  refine x_bipush (v := 16) dJ6_bitCount_0f7a4_43 (by decide) ?_
  refine x_iushr dJ6_bitCount_0f7a4_45 ?_
  refine x_iadd dJ6_bitCount_0f7a4_46 ?_
  refine x_istore_n (i := 0) (lv2 := [(0, xI (((((((x0 - ((iushr x0 (1 : Int32)) &&& (1431655765 : Int32))) &&& (858993459 : Int32)) + ((iushr (x0 - ((iushr x0 (1 : Int32)) &&& (1431655765 : Int32))) (2 : Int32)) &&& (858993459 : Int32))) + (iushr (((x0 - ((iushr x0 (1 : Int32)) &&& (1431655765 : Int32))) &&& (858993459 : Int32)) + ((iushr (x0 - ((iushr x0 (1 : Int32)) &&& (1431655765 : Int32))) (2 : Int32)) &&& (858993459 : Int32))) (4 : Int32))) &&& (252645135 : Int32)) + (iushr (((((x0 - ((iushr x0 (1 : Int32)) &&& (1431655765 : Int32))) &&& (858993459 : Int32)) + ((iushr (x0 - ((iushr x0 (1 : Int32)) &&& (1431655765 : Int32))) (2 : Int32)) &&& (858993459 : Int32))) + (iushr (((x0 - ((iushr x0 (1 : Int32)) &&& (1431655765 : Int32))) &&& (858993459 : Int32)) + ((iushr (x0 - ((iushr x0 (1 : Int32)) &&& (1431655765 : Int32))) (2 : Int32)) &&& (858993459 : Int32))) (4 : Int32))) &&& (252645135 : Int32)) (8 : Int32))) + (iushr ((((((x0 - ((iushr x0 (1 : Int32)) &&& (1431655765 : Int32))) &&& (858993459 : Int32)) + ((iushr (x0 - ((iushr x0 (1 : Int32)) &&& (1431655765 : Int32))) (2 : Int32)) &&& (858993459 : Int32))) + (iushr (((x0 - ((iushr x0 (1 : Int32)) &&& (1431655765 : Int32))) &&& (858993459 : Int32)) + ((iushr (x0 - ((iushr x0 (1 : Int32)) &&& (1431655765 : Int32))) (2 : Int32)) &&& (858993459 : Int32))) (4 : Int32))) &&& (252645135 : Int32)) + (iushr (((((x0 - ((iushr x0 (1 : Int32)) &&& (1431655765 : Int32))) &&& (858993459 : Int32)) + ((iushr (x0 - ((iushr x0 (1 : Int32)) &&& (1431655765 : Int32))) (2 : Int32)) &&& (858993459 : Int32))) + (iushr (((x0 - ((iushr x0 (1 : Int32)) &&& (1431655765 : Int32))) &&& (858993459 : Int32)) + ((iushr (x0 - ((iushr x0 (1 : Int32)) &&& (1431655765 : Int32))) (2 : Int32)) &&& (858993459 : Int32))) (4 : Int32))) &&& (252645135 : Int32)) (8 : Int32))) (16 : Int32))))]) dJ6_bitCount_0f7a4_47 rfl (by decide) rfl ?_
  refine x_iload_n (j := 0) (i := 0) dJ6_bitCount_0f7a4_48 rfl rfl ?_
  refine x_bipush (v := 63) dJ6_bitCount_0f7a4_49 (by decide) ?_
  refine x_iand dJ6_bitCount_0f7a4_51 ?_
  obtain ⟨hr9, hw9⟩ := Prod.mk.inj (Option.some.inj h)
  subst hw9
  subst hr9
  exact x_iret dJ6_bitCount_0f7a4_52 rfl rfl
