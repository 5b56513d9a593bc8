set_option maxRecDepth 20000 in
theorem c_J13_bitCount_95d88 (x0 : Int64) (w : xSt) (rE : Int32) (wE : xSt) (h : f_J13_bitCount_95d88 x0 w = some (rE, wE)) : xCall yJ13_bitCount_95d88 cJ13_bitCount_95d88 2 (some .int) 0 0 0 [xL x0] w (some (xI rE), wE) := by
  refine xCall_ofF false (by decide +kernel) (fun q => nomatch q) (Nat.le_of_ble_eq_true rfl) ?_
  show xX cJ13_bitCount_95d88 2 (some .int) RJ13 false (xRm 0 0 0) (xZf (some (xI rE), wE) 0 0) 0 [(0, xL x0)] [] w 0 0
  unfold f_J13_bitCount_95d88 at h
  refine x_lload_n (j := 0) (i := 0) dJ13_bitCount_95d88_0 rfl rfl ?_
  refine x_lload_n (j := 0) (i := 0) dJ13_bitCount_95d88_1 rfl rfl ?_
  refine x_iconst (v := 1) dJ13_bitCount_95d88_2 (by decide) ?_
  refine x_lushr dJ13_bitCount_95d88_3 ?_
  refine x_ldc2 dJ13_bitCount_95d88_4 lc_RJ13_314 ?_
  refine x_land dJ13_bitCount_95d88_7 ?_
  refine x_lsub dJ13_bitCount_95d88_8 ?_
  refine x_lstore_n (i := 0) (lv2 := [(0, xL (x0 - ((lushr x0 (1 : Int32)) &&& (6148914691236517205 : Int64))))]) dJ13_bitCount_95d88_9 rfl (by decide) rfl ?_
  refine x_lload_n (j := 0) (i := 0) dJ13_bitCount_95d88_10 rfl rfl ?_
  refine x_ldc2 dJ13_bitCount_95d88_11 lc_RJ13_316 ?_
  refine x_land dJ13_bitCount_95d88_14 ?_
  refine x_lload_n (j := 0) (i := 0) dJ13_bitCount_95d88_15 rfl rfl ?_
  refine x_iconst (v := 2) dJ13_bitCount_95d88_16 (by decide) ?_
  refine x_lushr dJ13_bitCount_95d88_17 ?_
  refine x_ldc2 dJ13_bitCount_95d88_18 lc_RJ13_316 ?_
  refine x_land dJ13_bitCount_95d88_21 ?_
  refine x_ladd dJ13_bitCount_95d88_22 ?_
  refine x_lstore_n (i := 0) (lv2 := [(0, xL (((x0 - ((lushr x0 (1 : Int32)) &&& (6148914691236517205 : Int64))) &&& (3689348814741910323 : Int64)) + ((lushr (x0 - ((lushr x0 (1 : Int32)) &&& (6148914691236517205 : Int64))) (2 : Int32)) &&& (3689348814741910323 : Int64))))]) dJ13_bitCount_95d88_23 rfl (by decide) rfl ?_
  refine x_lload_n (j := 0) (i := 0) dJ13_bitCount_95d88_24 rfl rfl ?_
  refine x_lload_n (j := 0) (i := 0) dJ13_bitCount_95d88_25 rfl rfl ?_
  refine x_iconst (v := 4) dJ13_bitCount_95d88_26 (by decide) ?_
  refine x_lushr dJ13_bitCount_95d88_27 ?_
  refine x_ladd dJ13_bitCount_95d88_28 ?_
  refine x_ldc2 dJ13_bitCount_95d88_29 lc_RJ13_318 ?_
  refine x_land dJ13_bitCount_95d88_32 ?_
  refine x_lstore_n (i := 0) (lv2 := [(0, xL (((((x0 - ((lushr x0 (1 : Int32)) &&& (6148914691236517205 : Int64))) &&& (3689348814741910323 : Int64)) + ((lushr (x0 - ((lushr x0 (1 : Int32)) &&& (6148914691236517205 : Int64))) (2 : Int32)) &&& (3689348814741910323 : Int64))) + (lushr (((x0 - ((lushr x0 (1 : Int32)) &&& (6148914691236517205 : Int64))) &&& (3689348814741910323 : Int64)) + ((lushr (x0 - ((lushr x0 (1 : Int32)) &&& (6148914691236517205 : Int64))) (2 : Int32)) &&& (3689348814741910323 : Int64))) (4 : Int32))) &&& (1085102592571150095 : Int64)))]) dJ13_bitCount_95d88_33 rfl (by decide) rfl ?_
  refine x_lload_n (j := 0) (i := 0) dJ13_bitCount_95d88_34 rfl rfl ?_
  refine x_lload_n (j := 0) (i := 0) dJ13_bitCount_95d88_35 rfl rfl ?_
  refine x_bipush (v := 8) dJ13_bitCount_95d88_36 (by decide) ?_
  refine x_lushr dJ13_bitCount_95d88_38 ?_
  refine x_ladd dJ13_bitCount_95d88_39 ?_
  refine x_lstore_n (i := 0) (lv2 := [(0, xL ((((((x0 - ((lushr x0 (1 : Int32)) &&& (6148914691236517205 : Int64))) &&& (3689348814741910323 : Int64)) + ((lushr (x0 - ((lushr x0 (1 : Int32)) &&& (6148914691236517205 : Int64))) (2 : Int32)) &&& (3689348814741910323 : Int64))) + (lushr (((x0 - ((lushr x0 (1 : Int32)) &&& (6148914691236517205 : Int64))) &&& (3689348814741910323 : Int64)) + ((lushr (x0 - ((lushr x0 (1 : Int32)) &&& (6148914691236517205 : Int64))) (2 : Int32)) &&& (3689348814741910323 : Int64))) (4 : Int32))) &&& (1085102592571150095 : Int64)) + (lushr (((((x0 - ((lushr x0 (1 : Int32)) &&& (6148914691236517205 : Int64))) &&& (3689348814741910323 : Int64)) + ((lushr (x0 - ((lushr x0 (1 : Int32)) &&& (6148914691236517205 : Int64))) (2 : Int32)) &&& (3689348814741910323 : Int64))) + (lushr (((x0 - ((lushr x0 (1 : Int32)) &&& (6148914691236517205 : Int64))) &&& (3689348814741910323 : Int64)) + ((lushr (x0 - ((lushr x0 (1 : Int32)) &&& (6148914691236517205 : Int64))) (2 : Int32)) &&& (3689348814741910323 : Int64))) (4 : Int32))) &&& (1085102592571150095 : Int64)) (8 : Int32))))]) dJ13_bitCount_95d88_40 rfl (by decide) rfl ?_
  refine x_lload_n (j := 0) (i := 0) dJ13_bitCount_95d88_41 rfl rfl ?_
  refine x_lload_n (j := 0) (i := 0) dJ13_bitCount_95d88_42 rfl rfl ?_
  refine x_bipush (v := 16) dJ13_bitCount_95d88_43 (by decide) ?_
  refine x_lushr dJ13_bitCount_95d88_45 ?_
  refine x_ladd dJ13_bitCount_95d88_46 ?_
  refine x_lstore_n (i := 0) (lv2 := [(0, xL (((((((x0 - ((lushr x0 (1 : Int32)) &&& (6148914691236517205 : Int64))) &&& (3689348814741910323 : Int64)) + ((lushr (x0 - ((lushr x0 (1 : Int32)) &&& (6148914691236517205 : Int64))) (2 : Int32)) &&& (3689348814741910323 : Int64))) + (lushr (((x0 - ((lushr x0 (1 : Int32)) &&& (6148914691236517205 : Int64))) &&& (3689348814741910323 : Int64)) + ((lushr (x0 - ((lushr x0 (1 : Int32)) &&& (6148914691236517205 : Int64))) (2 : Int32)) &&& (3689348814741910323 : Int64))) (4 : Int32))) &&& (1085102592571150095 : Int64)) + (lushr (((((x0 - ((lushr x0 (1 : Int32)) &&& (6148914691236517205 : Int64))) &&& (3689348814741910323 : Int64)) + ((lushr (x0 - ((lushr x0 (1 : Int32)) &&& (6148914691236517205 : Int64))) (2 : Int32)) &&& (3689348814741910323 : Int64))) + (lushr (((x0 - ((lushr x0 (1 : Int32)) &&& (6148914691236517205 : Int64))) &&& (3689348814741910323 : Int64)) + ((lushr (x0 - ((lushr x0 (1 : Int32)) &&& (6148914691236517205 : Int64))) (2 : Int32)) &&& (3689348814741910323 : Int64))) (4 : Int32))) &&& (1085102592571150095 : Int64)) (8 : Int32))) + (lushr ((((((x0 - ((lushr x0 (1 : Int32)) &&& (6148914691236517205 : Int64))) &&& (3689348814741910323 : Int64)) + ((lushr (x0 - ((lushr x0 (1 : Int32)) &&& (6148914691236517205 : Int64))) (2 : Int32)) &&& (3689348814741910323 : Int64))) + (lushr (((x0 - ((lushr x0 (1 : Int32)) &&& (6148914691236517205 : Int64))) &&& (3689348814741910323 : Int64)) + ((lushr (x0 - ((lushr x0 (1 : Int32)) &&& (6148914691236517205 : Int64))) (2 : Int32)) &&& (3689348814741910323 : Int64))) (4 : Int32))) &&& (1085102592571150095 : Int64)) + (lushr (((((x0 - ((lushr x0 (1 : Int32)) &&& (6148914691236517205 : Int64))) &&& (3689348814741910323 : Int64)) + ((lushr (x0 - ((lushr x0 (1 : Int32)) &&& (6148914691236517205 : Int64))) (2 : Int32)) &&& (3689348814741910323 : Int64))) + (lushr (((x0 - ((lushr x0 (1 : Int32)) &&& (6148914691236517205 : Int64))) &&& (3689348814741910323 : Int64)) + ((lushr (x0 - ((lushr x0 (1 : Int32)) &&& (6148914691236517205 : Int64))) (2 : Int32)) &&& (3689348814741910323 : Int64))) (4 : Int32))) &&& (1085102592571150095 : Int64)) (8 : Int32))) (16 : Int32))))]) dJ13_bitCount_95d88_47 rfl (by decide) rfl ?_
  refine x_lload_n (j := 0) (i := 0) dJ13_bitCount_95d88_48 rfl rfl ?_
  refine x_lload_n (j := 0) (i := 0) dJ13_bitCount_95d88_49 rfl rfl ?_
  refine x_bipush (v := 32) dJ13_bitCount_95d88_50 (by decide) ?_
  refine x_lushr dJ13_bitCount_95d88_52 ?_
  refine x_ladd dJ13_bitCount_95d88_53 ?_
  refine x_lstore_n (i := 0) (lv2 := [(0, xL ((((((((x0 - ((lushr x0 (1 : Int32)) &&& (6148914691236517205 : Int64))) &&& (3689348814741910323 : Int64)) + ((lushr (x0 - ((lushr x0 (1 : Int32)) &&& (6148914691236517205 : Int64))) (2 : Int32)) &&& (3689348814741910323 : Int64))) + (lushr (((x0 - ((lushr x0 (1 : Int32)) &&& (6148914691236517205 : Int64))) &&& (3689348814741910323 : Int64)) + ((lushr (x0 - ((lushr x0 (1 : Int32)) &&& (6148914691236517205 : Int64))) (2 : Int32)) &&& (3689348814741910323 : Int64))) (4 : Int32))) &&& (1085102592571150095 : Int64)) + (lushr (((((x0 - ((lushr x0 (1 : Int32)) &&& (6148914691236517205 : Int64))) &&& (3689348814741910323 : Int64)) + ((lushr (x0 - ((lushr x0 (1 : Int32)) &&& (6148914691236517205 : Int64))) (2 : Int32)) &&& (3689348814741910323 : Int64))) + (lushr (((x0 - ((lushr x0 (1 : Int32)) &&& (6148914691236517205 : Int64))) &&& (3689348814741910323 : Int64)) + ((lushr (x0 - ((lushr x0 (1 : Int32)) &&& (6148914691236517205 : Int64))) (2 : Int32)) &&& (3689348814741910323 : Int64))) (4 : Int32))) &&& (1085102592571150095 : Int64)) (8 : Int32))) + (lushr ((((((x0 - ((lushr x0 (1 : Int32)) &&& (6148914691236517205 : Int64))) &&& (3689348814741910323 : Int64)) + ((lushr (x0 - ((lushr x0 (1 : Int32)) &&& (6148914691236517205 : Int64))) (2 : Int32)) &&& (3689348814741910323 : Int64))) + (lushr (((x0 - ((lushr x0 (1 : Int32)) &&& (6148914691236517205 : Int64))) &&& (3689348814741910323 : Int64)) + ((lushr (x0 - ((lushr x0 (1 : Int32)) &&& (6148914691236517205 : Int64))) (2 : Int32)) &&& (3689348814741910323 : Int64))) (4 : Int32))) &&& (1085102592571150095 : Int64)) + (lushr (((((x0 - ((lushr x0 (1 : Int32)) &&& (6148914691236517205 : Int64))) &&& (3689348814741910323 : Int64)) + ((lushr (x0 - ((lushr x0 (1 : Int32)) &&& (6148914691236517205 : Int64))) (2 : Int32)) &&& (3689348814741910323 : Int64))) + (lushr (((x0 - ((lushr x0 (1 : Int32)) &&& (6148914691236517205 : Int64))) &&& (3689348814741910323 : Int64)) + ((lushr (x0 - ((lushr x0 (1 : Int32)) &&& (6148914691236517205 : Int64))) (2 : Int32)) &&& (3689348814741910323 : Int64))) (4 : Int32))) &&& (1085102592571150095 : Int64)) (8 : Int32))) (16 : Int32))) + (lushr (((((((x0 - ((lushr x0 (1 : Int32)) &&& (6148914691236517205 : Int64))) &&& (3689348814741910323 : Int64)) + ((lushr (x0 - ((lushr x0 (1 : Int32)) &&& (6148914691236517205 : Int64))) (2 : Int32)) &&& (3689348814741910323 : Int64))) + (lushr (((x0 - ((lushr x0 (1 : Int32)) &&& (6148914691236517205 : Int64))) &&& (3689348814741910323 : Int64)) + ((lushr (x0 - ((lushr x0 (1 : Int32)) &&& (6148914691236517205 : Int64))) (2 : Int32)) &&& (3689348814741910323 : Int64))) (4 : Int32))) &&& (1085102592571150095 : Int64)) + (lushr (((((x0 - ((lushr x0 (1 : Int32)) &&& (6148914691236517205 : Int64))) &&& (3689348814741910323 : Int64)) + ((lushr (x0 - ((lushr x0 (1 : Int32)) &&& (6148914691236517205 : Int64))) (2 : Int32)) &&& (3689348814741910323 : Int64))) + (lushr (((x0 - ((lushr x0 (1 : Int32)) &&& (6148914691236517205 : Int64))) &&& (3689348814741910323 : Int64)) + ((lushr (x0 - ((lushr x0 (1 : Int32)) &&& (6148914691236517205 : Int64))) (2 : Int32)) &&& (3689348814741910323 : Int64))) (4 : Int32))) &&& (1085102592571150095 : Int64)) (8 : Int32))) + (lushr ((((((x0 - ((lushr x0 (1 : Int32)) &&& (6148914691236517205 : Int64))) &&& (3689348814741910323 : Int64)) + ((lushr (x0 - ((lushr x0 (1 : Int32)) &&& (6148914691236517205 : Int64))) (2 : Int32)) &&& (3689348814741910323 : Int64))) + (lushr (((x0 - ((lushr x0 (1 : Int32)) &&& (6148914691236517205 : Int64))) &&& (3689348814741910323 : Int64)) + ((lushr (x0 - ((lushr x0 (1 : Int32)) &&& (6148914691236517205 : Int64))) (2 : Int32)) &&& (3689348814741910323 : Int64))) (4 : Int32))) &&& (1085102592571150095 : Int64)) + (lushr (((((x0 - ((lushr x0 (1 : Int32)) &&& (6148914691236517205 : Int64))) &&& (3689348814741910323 : Int64)) + ((lushr (x0 - ((lushr x0 (1 : Int32)) &&& (6148914691236517205 : Int64))) (2 : Int32)) &&& (3689348814741910323 : Int64))) + (lushr (((x0 - ((lushr x0 (1 : Int32)) &&& (6148914691236517205 : Int64))) &&& (3689348814741910323 : Int64)) + ((lushr (x0 - ((lushr x0 (1 : Int32)) &&& (6148914691236517205 : Int64))) (2 : Int32)) &&& (3689348814741910323 : Int64))) (4 : Int32))) &&& (1085102592571150095 : Int64)) (8 : Int32))) (16 : Int32))) (32 : Int32))))]) dJ13_bitCount_95d88_54 rfl (by decide) rfl ?_
  refine x_lload_n (j := 0) (i := 0) dJ13_bitCount_95d88_55 rfl rfl ?_
  refine x_l2i dJ13_bitCount_95d88_56 ?_
  refine x_bipush (v := 127) dJ13_bitCount_95d88_57 (by decide) ?_
  refine x_iand dJ13_bitCount_95d88_59 ?_
  obtain ⟨hr9, hw9⟩ := Prod.mk.inj (Option.some.inj h)
  subst hw9
  subst hr9
  exact x_iret dJ13_bitCount_95d88_60 rfl rfl
set_option maxRecDepth 20000 in
theorem c_X10_places (x0 : Nat) (x1 : Int32) (w : xSt) (rE : Int32) (wE : xSt) (h : f_X10_places x0 x1 w = some (rE, wE)) : xCall yX10_places cX10_places 3 (some .int) 3 0 0 [xR x0, xI x1] w (some (xI rE), wE) := by
  refine xCall_of false (by decide) (fun q => nomatch q) (Nat.le_of_ble_eq_true rfl) ?_
  show xX cX10_places 3 (some .int) RX10 false (xRm 3 0 0) (xZf (some (xI rE), wE) 0 0) 0 [(0, xR x0), (1, xI x1)] [] w 0 0
  unfold f_X10_places at h
  refine x_aload_n (j := 0) (i := 0) dX10_places_0 rfl rfl ?_
  refine x_iload_n (j := 1) (i := 1) dX10_places_1 rfl rfl ?_
  obtain ⟨g4, h⟩ := gd_some h
  obtain ⟨v1, w2, hc3, h⟩ := bd_s h
  refine x_callVI (ci := 10) dX10_places_2 ml_RX10_288 mb_X10_refusalOfSearch (c_X10_refusalOfSearch x0 x1 w v1 w2 hc3) ⟨_, rfl, rfl⟩ g4 [] rfl rfl (Nat.le_of_ble_eq_true rfl) (by decide) (by decide) ?_
  refine x_istore_n (i := 2) (lv2 := [(2, xI v1), (0, xR x0), (1, xI x1)]) dX10_places_5 rfl (by decide) rfl ?_
  refine x_iload_n (j := 0) (i := 2) dX10_places_6 rfl rfl ?_
  refine x_if_eq (tgt := 14) dX10_places_7 (by decide) (fun hc5 => ?_) (fun hc5 => ?_)
  · rw [if_pos hc5] at h
    refine x_aload_n (j := 1) (i := 0) dX10_places_14 rfl rfl ?_
    refine x_iload_n (j := 2) (i := 1) dX10_places_15 rfl rfl ?_
    obtain ⟨g9, h⟩ := gd_some h
    obtain ⟨v6, w7, hc8, h⟩ := bd_s h
    refine x_callVL (ci := 10) dX10_places_16 ml_RX10_291 mb_X10_whereabouts (c_X10_whereabouts x0 x1 w2 v6 w7 hc8) ⟨_, rfl, rfl⟩ g9 [] rfl rfl (Nat.le_of_ble_eq_true rfl) (by decide) (by decide) ?_
    obtain ⟨v10, w11, hc12, h⟩ := bd_s h
    refine x_callSI dX10_places_19 ml_RX10_298 mb_J13_bitCount_95d88 (c_J13_bitCount_95d88 v6 w7 v10 w11 hc12) [] rfl rfl (Nat.le_of_ble_eq_true rfl) (by decide) (by decide) ?_
    obtain ⟨hr9, hw9⟩ := Prod.mk.inj (Option.some.inj h)
    subst hw9
    subst hr9
    exact x_iret dX10_places_22 rfl rfl
  · rw [if_neg hc5] at h
    refine x_iload_n (j := 0) (i := 2) dX10_places_10 rfl rfl ?_
    refine x_goto (tgt := 22) dX10_places_11 (by decide) ?_
    obtain ⟨hr9, hw9⟩ := Prod.mk.inj (Option.some.inj h)
    subst hw9
    subst hr9
    exact x_iret dX10_places_22 rfl rfl
set_option maxRecDepth 20000 in
theorem c_X10_found (x0 : Nat) (w : xSt) (rE : Int32) (wE : xSt) (h : f_X10_found x0 w = some (rE, wE)) : xCall yX10_found cX10_found 1 (some .int) 1 0 0 [xR x0] w (some (xI rE), wE) := by
  refine xCall_of false (by decide) (fun q => nomatch q) (Nat.le_of_ble_eq_true rfl) ?_
  show xX cX10_found 1 (some .int) RX10 false (xRm 1 0 0) (xZf (some (xI rE), wE) 0 0) 0 [(0, xR x0)] [] w 0 0
  unfold f_X10_found at h
  refine x_aload_n (j := 0) (i := 0) dX10_found_0 rfl rfl ?_
  obtain ⟨g1, h⟩ := gd_some h
  refine x_getR (ci := 10) (k := 8) dX10_found_1 lf_RX10_76 rfl g1 ?_
  obtain ⟨g5, h⟩ := gd_some h
  obtain ⟨v2, w3, hc4, h⟩ := bd_s h
  refine x_callVI (ci := 4) dX10_found_4 ml_RX10_304 mb_X4_forget (c_X4_forget (wR w x0 8) w v2 w3 hc4) ⟨_, rfl, rfl⟩ g5 [] rfl rfl (Nat.le_of_ble_eq_true rfl) (by decide) (by decide) ?_
  obtain ⟨hr9, hw9⟩ := Prod.mk.inj (Option.some.inj h)
  subst hw9
  subst hr9
  exact x_iret dX10_found_7 rfl rfl
set_option maxRecDepth 20000 in
theorem c_X10_sell (x0 : Nat) (x1 : Int32) (x2 : Int32) (w : xSt) (rE : Int32) (wE : xSt) (h : f_X10_sell x0 x1 x2 w = some (rE, wE)) : xCall yX10_sell cX10_sell 4 (some .int) 1 0 0 [xR x0, xI x1, xI x2] w (some (xI rE), wE) := by
  refine xCall_of false (by decide) (fun q => nomatch q) (Nat.le_of_ble_eq_true rfl) ?_
  show xX cX10_sell 4 (some .int) RX10 false (xRm 1 0 0) (xZf (some (xI rE), wE) 0 0) 0 [(0, xR x0), (1, xI x1), (2, xI x2)] [] w 0 0
  unfold f_X10_sell at h
  refine x_aload_n (j := 0) (i := 0) dX10_sell_0 rfl rfl ?_
  obtain ⟨g1, h⟩ := gd_some h
  refine x_getR (ci := 10) (k := 1) dX10_sell_1 lf_RX10_29 rfl g1 ?_
  refine x_iload_n (j := 1) (i := 1) dX10_sell_4 rfl rfl ?_
  obtain ⟨g5, h⟩ := gd_some h
  obtain ⟨v2, w3, hc4, h⟩ := bd_s h
  refine x_callVR (ci := 5) dX10_sell_5 ml_RX10_131 mb_X5_find (c_X5_find (wR w x0 1) x1 w v2 w3 hc4) ⟨_, rfl, rfl⟩ g5 [] rfl rfl (Nat.le_of_ble_eq_true rfl) (by decide) (by decide) ?_
  refine x_astore_n (i := 3) (lv2 := [(3, xR v2), (0, xR x0), (1, xI x1), (2, xI x2)]) dX10_sell_8 rfl (by decide) rfl ?_
  refine x_aload_n (j := 0) (i := 3) dX10_sell_9 rfl rfl ?_
  obtain ⟨g6, h⟩ := gd_some h
  refine x_ifnonnull (tgt := 15) dX10_sell_10 (by decide) g6 (fun hc7 => ?_) (fun hc7 => ?_)
  · rw [if_neg hc7] at h
    refine x_iload_n (j := 3) (i := 2) dX10_sell_15 rfl rfl ?_
    refine x_iconst (v := 0) dX10_sell_16 (by decide) ?_
    refine x_sipush (v := 999) dX10_sell_17 (by decide) ?_
    obtain ⟨v8, w9, hc10, h⟩ := bd_s h
    refine x_callSI dX10_sell_20 ml_RX10_88 mb_X10_within (c_X10_within x2 (0 : Int32) (999 : Int32) w3 v8 w9 hc10) [] rfl rfl (Nat.le_of_ble_eq_true rfl) (by decide) (by decide) ?_
    refine x_if_ne (tgt := 29) dX10_sell_23 (by decide) (fun hc11 => ?_) (fun hc11 => ?_)
    · rw [if_neg hc11] at h
      refine x_aload_n (j := 0) (i := 3) dX10_sell_29 rfl rfl ?_
      obtain ⟨g15, h⟩ := gd_some h
      obtain ⟨v12, w13, hc14, h⟩ := bd_s h
      refine x_callVI (ci := 6) dX10_sell_30 ml_RX10_307 mb_X6_isSold (c_X6_isSold v2 w9 v12 w13 hc14) ⟨_, rfl, rfl⟩ g15 [] rfl rfl (Nat.le_of_ble_eq_true rfl) (by decide) (by decide) ?_
      refine x_if_ne (tgt := 43) dX10_sell_33 (by decide) (fun hc16 => ?_) (fun hc16 => ?_)
      · rw [if_neg hc16] at h
        refine x_bipush (v := -3) dX10_sell_43 (by decide) ?_
        obtain ⟨hr9, hw9⟩ := Prod.mk.inj (Option.some.inj h)
        subst hw9
        subst hr9
        exact x_iret dX10_sell_45 rfl rfl
      · rw [if_pos hc16] at h
        refine x_aload_n (j := 0) (i := 3) dX10_sell_36 rfl rfl ?_
        obtain ⟨g17, h⟩ := gd_some h
        refine x_getI (ci := 6) (k := 8) dX10_sell_37 lf_RX10_139 rfl g17 ?_
        refine x_if_ne (tgt := 46) dX10_sell_40 (by decide) (fun hc18 => ?_) (fun hc18 => ?_)
        · rw [if_neg hc18] at h
          refine x_aload_n (j := 0) (i := 3) dX10_sell_46 rfl rfl ?_
          refine x_iload_n (j := 3) (i := 2) dX10_sell_47 rfl rfl ?_
          obtain ⟨w19, hw20, h⟩ := lt1_some h
          refine x_putI (ci := 6) (k := 9) dX10_sell_48 (lw_RX10_166_w _) rfl g17 ?_
          rw [← hw20]
          refine x_iconst (v := 0) dX10_sell_51 (by decide) ?_
          obtain ⟨hr9, hw9⟩ := Prod.mk.inj (Option.some.inj h)
          subst hw9
          subst hr9
          exact x_iret dX10_sell_52 rfl rfl
        · rw [if_pos hc18] at h
          refine x_bipush (v := -3) dX10_sell_43 (by decide) ?_
          obtain ⟨hr9, hw9⟩ := Prod.mk.inj (Option.some.inj h)
          subst hw9
          subst hr9
          exact x_iret dX10_sell_45 rfl rfl
    · rw [if_pos hc11] at h
      refine x_bipush (v := -2) dX10_sell_26 (by decide) ?_
      obtain ⟨hr9, hw9⟩ := Prod.mk.inj (Option.some.inj h)
      subst hw9
      subst hr9
      exact x_iret dX10_sell_28 rfl rfl
  · rw [if_pos hc7] at h
    refine x_iconst (v := -1) dX10_sell_13 (by decide) ?_
    obtain ⟨hr9, hw9⟩ := Prod.mk.inj (Option.some.inj h)
    subst hw9
    subst hr9
    exact x_iret dX10_sell_14 rfl rfl
set_option maxRecDepth 20000 in
theorem c_X10_hand (x0 : Nat) (x1 : Int32) (w : xSt) (rE : Int32) (wE : xSt) (h : f_X10_hand x0 x1 w = some (rE, wE)) : xCall yX10_hand cX10_hand 3 (some .int) 1 0 0 [xR x0, xI x1] w (some (xI rE), wE) := by
  refine xCall_of false (by decide) (fun q => nomatch q) (Nat.le_of_ble_eq_true rfl) ?_
  show xX cX10_hand 3 (some .int) RX10 false (xRm 1 0 0) (xZf (some (xI rE), wE) 0 0) 0 [(0, xR x0), (1, xI x1)] [] w 0 0
  unfold f_X10_hand at h
  refine x_aload_n (j := 0) (i := 0) dX10_hand_0 rfl rfl ?_
  obtain ⟨g1, h⟩ := gd_some h
  refine x_getR (ci := 10) (k := 1) dX10_hand_1 lf_RX10_29 rfl g1 ?_
  refine x_iload_n (j := 1) (i := 1) dX10_hand_4 rfl rfl ?_
  obtain ⟨g5, h⟩ := gd_some h
  obtain ⟨v2, w3, hc4, h⟩ := bd_s h
  refine x_callVR (ci := 5) dX10_hand_5 ml_RX10_131 mb_X5_find (c_X5_find (wR w x0 1) x1 w v2 w3 hc4) ⟨_, rfl, rfl⟩ g5 [] rfl rfl (Nat.le_of_ble_eq_true rfl) (by decide) (by decide) ?_
  refine x_astore_n (i := 2) (lv2 := [(2, xR v2), (0, xR x0), (1, xI x1)]) dX10_hand_8 rfl (by decide) rfl ?_
  refine x_aload_n (j := 0) (i := 2) dX10_hand_9 rfl rfl ?_
  obtain ⟨g6, h⟩ := gd_some h
  refine x_ifnonnull (tgt := 15) dX10_hand_10 (by decide) g6 (fun hc7 => ?_) (fun hc7 => ?_)
  · rw [if_neg hc7] at h
    refine x_aload_n (j := 0) (i := 2) dX10_hand_15 rfl rfl ?_
    obtain ⟨g11, h⟩ := gd_some h
    obtain ⟨v8, w9, hc10, h⟩ := bd_s h
    refine x_callVI (ci := 6) dX10_hand_16 ml_RX10_307 mb_X6_isSold (c_X6_isSold v2 w3 v8 w9 hc10) ⟨_, rfl, rfl⟩ g11 [] rfl rfl (Nat.le_of_ble_eq_true rfl) (by decide) (by decide) ?_
    refine x_if_eq (tgt := 43) dX10_hand_19 (by decide) (fun hc12 => ?_) (fun hc12 => ?_)
    · rw [if_pos hc12] at h
      refine x_bipush (v := -3) dX10_hand_43 (by decide) ?_
      obtain ⟨hr9, hw9⟩ := Prod.mk.inj (Option.some.inj h)
      subst hw9
      subst hr9
      exact x_iret dX10_hand_45 rfl rfl
    · rw [if_neg hc12] at h
      refine x_aload_n (j := 0) (i := 2) dX10_hand_22 rfl rfl ?_
      obtain ⟨g13, h⟩ := gd_some h
      refine x_getI (ci := 6) (k := 10) dX10_hand_23 lf_RX10_310 rfl g13 ?_
      refine x_if_ne (tgt := 43) dX10_hand_26 (by decide) (fun hc14 => ?_) (fun hc14 => ?_)
      · rw [if_neg hc14] at h
        refine x_bipush (v := -3) dX10_hand_43 (by decide) ?_
        obtain ⟨hr9, hw9⟩ := Prod.mk.inj (Option.some.inj h)
        subst hw9
        subst hr9
        exact x_iret dX10_hand_45 rfl rfl
      · rw [if_pos hc14] at h
        refine x_aload_n (j := 1) (i := 0) dX10_hand_29 rfl rfl ?_
        obtain ⟨g15, h⟩ := gd_some h
        refine x_getR (ci := 10) (k := 7) dX10_hand_30 lf_RX10_69 rfl g15 ?_
        obtain ⟨g16, h⟩ := gd_some h
        refine x_getI (ci := 1) (k := 1) dX10_hand_33 lf_RX10_265 rfl g16 ?_
        refine x_aload_n (j := 1) (i := 0) dX10_hand_36 rfl rfl ?_
        refine x_getI (ci := 10) (k := 9) dX10_hand_37 lf_RX10_80 rfl g15 ?_
        refine x_icmp_ge (tgt := 46) dX10_hand_40 (by decide) (fun hc17 => ?_) (fun hc17 => ?_)
        · rw [if_pos hc17] at h
          refine x_aload_n (j := 0) (i := 2) dX10_hand_46 rfl rfl ?_
          refine x_iconst (v := 1) dX10_hand_47 (by decide) ?_
          obtain ⟨w18, hw19, h⟩ := lt1_some h
          refine x_putZ (ci := 6) (k := 10) dX10_hand_48 (lw_RX10_310_w _) rfl g13 (by decide) ?_
          rw [← hw19]
          refine x_aload_n (j := 0) (i := 2) dX10_hand_51 rfl rfl ?_
          refine x_iconst (v := 0) dX10_hand_52 (by decide) ?_
          have g20 : isC w18 v2 6 := by rw [hw19]; exact g13
          obtain ⟨w21, hw22, h⟩ := lt1_some h
          refine x_putZ (ci := 6) (k := 8) dX10_hand_53 (lw_RX10_139_w _) rfl g20 (by decide) ?_
          rw [← hw22]
          refine x_aload_n (j := 0) (i := 2) dX10_hand_56 rfl rfl ?_
          have g25 : isC w21 v2 6 := by rw [hw22]; exact g20
          obtain ⟨_u, w23, hc24, h⟩ := bd_s h
          refine x_callVV (ci := 6) dX10_hand_57 ml_RX10_154 mb_X6_lift (c_X6_lift v2 w21 _u w23 hc24) ⟨_, rfl, rfl⟩ g25 [] rfl rfl (Nat.le_of_ble_eq_true rfl) (by decide) (by decide) ?_
          refine x_aload_n (j := 0) (i := 2) dX10_hand_60 rfl rfl ?_
          obtain ⟨g26, h⟩ := gd_some h
          refine x_getI (ci := 6) (k := 9) dX10_hand_61 lf_RX10_166 rfl g26 ?_
          obtain ⟨hr9, hw9⟩ := Prod.mk.inj (Option.some.inj h)
          subst hw9
          subst hr9
          exact x_iret dX10_hand_64 rfl rfl
        · rw [if_neg hc17] at h
          refine x_bipush (v := -3) dX10_hand_43 (by decide) ?_
          obtain ⟨hr9, hw9⟩ := Prod.mk.inj (Option.some.inj h)
          subst hw9
          subst hr9
          exact x_iret dX10_hand_45 rfl rfl
  · rw [if_pos hc7] at h
    refine x_iconst (v := -1) dX10_hand_13 (by decide) ?_
    obtain ⟨hr9, hw9⟩ := Prod.mk.inj (Option.some.inj h)
    subst hw9
    subst hr9
    exact x_iret dX10_hand_14 rfl rfl
set_option maxRecDepth 20000 in
theorem c_X10_end (x0 : Nat) (x1 : Int32) (w : xSt) (rE : Int32) (wE : xSt) (h : f_X10_end x0 x1 w = some (rE, wE)) : xCall yX10_end cX10_end 3 (some .int) 2 0 0 [xR x0, xI x1] w (some (xI rE), wE) := by
  refine xCall_of false (by decide) (fun q => nomatch q) (Nat.le_of_ble_eq_true rfl) ?_
  show xX cX10_end 3 (some .int) RX10 false (xRm 2 0 0) (xZf (some (xI rE), wE) 0 0) 0 [(0, xR x0), (1, xI x1)] [] w 0 0
  unfold f_X10_end at h
  refine x_iload_n (j := 1) (i := 1) dX10_end_0 rfl rfl ?_
  obtain ⟨v1, w2, hc3, h⟩ := bd_s h
  refine x_callSI dX10_end_1 ml_RX10_203 mb_X10_isDay (c_X10_isDay x1 w v1 w2 hc3) [] rfl rfl (Nat.le_of_ble_eq_true rfl) (by decide) (by decide) ?_
  refine x_if_ne (tgt := 10) dX10_end_4 (by decide) (fun hc4 => ?_) (fun hc4 => ?_)
  · rw [if_neg hc4] at h
    refine x_aload_n (j := 0) (i := 0) dX10_end_10 rfl rfl ?_
    obtain ⟨g5, h⟩ := gd_some h
    refine x_getI (ci := 10) (k := 9) dX10_end_11 lf_RX10_80 rfl g5 ?_
    refine x_istore_n (i := 2) (lv2 := [(2, xI (wI w2 x0 9)), (0, xR x0), (1, xI x1)]) dX10_end_14 rfl (by decide) rfl ?_
    refine x_aload_n (j := 1) (i := 0) dX10_end_15 rfl rfl ?_
    refine x_iload_n (j := 2) (i := 1) dX10_end_16 rfl rfl ?_
    obtain ⟨w6, hw7, h⟩ := lt1_some h
    refine x_putI (ci := 10) (k := 9) dX10_end_17 (lw_RX10_80_w _) rfl g5 ?_
    rw [← hw7]
    refine x_iload_n (j := 0) (i := 2) dX10_end_20 rfl rfl ?_
    obtain ⟨hr9, hw9⟩ := Prod.mk.inj (Option.some.inj h)
    subst hw9
    subst hr9
    exact x_iret dX10_end_21 rfl rfl
  · rw [if_pos hc4] at h
    refine x_bipush (v := -2) dX10_end_7 (by decide) ?_
    obtain ⟨hr9, hw9⟩ := Prod.mk.inj (Option.some.inj h)
    subst hw9
    subst hr9
    exact x_iret dX10_end_9 rfl rfl
set_option maxRecDepth 20000 in
theorem c_X10_count (x0 : Nat) (x1 : Int32) (w : xSt) (rE : Int32) (wE : xSt) (h : f_X10_count x0 x1 w = some (rE, wE)) : xCall yX10_count cX10_count 2 (some .int) 3 0 0 [xR x0, xI x1] w (some (xI rE), wE) := by
  refine xCall_of false (by decide) (fun q => nomatch q) (Nat.le_of_ble_eq_true rfl) ?_
  show xX cX10_count 2 (some .int) RX10 false (xRm 3 0 0) (xZf (some (xI rE), wE) 0 0) 0 [(0, xR x0), (1, xI x1)] [] w 0 0
  unfold f_X10_count at h
  refine x_iload_n (j := 1) (i := 1) dX10_count_0 rfl rfl ?_
  by_cases hc1 : x1 = (0 : Int32)
  · rw [if_pos hc1] at h
    refine x_tsw (off := 71) (tgt := 72) dX10_count_1 (by rw [hc1]; decide) (by rw [hc1]; decide) (by rw [hc1]; decide) (by decide) ?_
    refine x_aload_n (j := 0) (i := 0) dX10_count_72 rfl rfl ?_
    obtain ⟨g2, h⟩ := gd_some h
    refine x_getR (ci := 10) (k := 0) dX10_count_73 lf_RX10_18 rfl g2 ?_
    obtain ⟨g3, h⟩ := gd_some h
    refine x_getI (ci := 0) (k := 2) dX10_count_76 lf_RX10_313 rfl g3 ?_
    obtain ⟨hr9, hw9⟩ := Prod.mk.inj (Option.some.inj h)
    subst hw9
    subst hr9
    exact x_iret dX10_count_79 rfl rfl
  rw [if_neg hc1] at h
  by_cases hc4 : x1 = (1 : Int32)
  · rw [if_pos hc4] at h
    refine x_tsw (off := 79) (tgt := 80) dX10_count_1 (by rw [hc4]; decide) (by rw [hc4]; decide) (by rw [hc4]; decide) (by decide) ?_
    refine x_aload_n (j := 0) (i := 0) dX10_count_80 rfl rfl ?_
    obtain ⟨g5, h⟩ := gd_some h
    refine x_getR (ci := 10) (k := 1) dX10_count_81 lf_RX10_29 rfl g5 ?_
    obtain ⟨g6, h⟩ := gd_some h
    refine x_getI (ci := 5) (k := 2) dX10_count_84 lf_RX10_121 rfl g6 ?_
    obtain ⟨hr9, hw9⟩ := Prod.mk.inj (Option.some.inj h)
    subst hw9
    subst hr9
    exact x_iret dX10_count_87 rfl rfl
  rw [if_neg hc4] at h
  by_cases hc7 : x1 = (2 : Int32)
  · rw [if_pos hc7] at h
    refine x_tsw (off := 87) (tgt := 88) dX10_count_1 (by rw [hc7]; decide) (by rw [hc7]; decide) (by rw [hc7]; decide) (by decide) ?_
    refine x_aload_n (j := 0) (i := 0) dX10_count_88 rfl rfl ?_
    obtain ⟨g8, h⟩ := gd_some h
    refine x_getR (ci := 10) (k := 1) dX10_count_89 lf_RX10_29 rfl g8 ?_
    obtain ⟨g12, h⟩ := gd_some h
    obtain ⟨v9, w10, hc11, h⟩ := bd_s h
    refine x_callVI (ci := 5) dX10_count_92 ml_RX10_95 mb_X5_laidOnes (c_X5_laidOnes (wR w x0 1) w v9 w10 hc11) ⟨_, rfl, rfl⟩ g12 [] rfl rfl (Nat.le_of_ble_eq_true rfl) (by decide) (by decide) ?_
    obtain ⟨hr9, hw9⟩ := Prod.mk.inj (Option.some.inj h)
    subst hw9
    subst hr9
    exact x_iret dX10_count_95 rfl rfl
  rw [if_neg hc7] at h
  by_cases hc13 : x1 = (3 : Int32)
  · rw [if_pos hc13] at h
    refine x_tsw (off := 95) (tgt := 96) dX10_count_1 (by rw [hc13]; decide) (by rw [hc13]; decide) (by rw [hc13]; decide) (by decide) ?_
    refine x_aload_n (j := 0) (i := 0) dX10_count_96 rfl rfl ?_
    obtain ⟨g14, h⟩ := gd_some h
    refine x_getR (ci := 10) (k := 1) dX10_count_97 lf_RX10_29 rfl g14 ?_
    obtain ⟨g18, h⟩ := gd_some h
    obtain ⟨v15, w16, hc17, h⟩ := bd_s h
    refine x_callVI (ci := 5) dX10_count_100 ml_RX10_178 mb_X5_withGoods (c_X5_withGoods (wR w x0 1) w v15 w16 hc17) ⟨_, rfl, rfl⟩ g18 [] rfl rfl (Nat.le_of_ble_eq_true rfl) (by decide) (by decide) ?_
    obtain ⟨hr9, hw9⟩ := Prod.mk.inj (Option.some.inj h)
    subst hw9
    subst hr9
    exact x_iret dX10_count_103 rfl rfl
  rw [if_neg hc13] at h
  by_cases hc19 : x1 = (4 : Int32)
  · rw [if_pos hc19] at h
    refine x_tsw (off := 103) (tgt := 104) dX10_count_1 (by rw [hc19]; decide) (by rw [hc19]; decide) (by rw [hc19]; decide) (by decide) ?_
    refine x_aload_n (j := 0) (i := 0) dX10_count_104 rfl rfl ?_
    obtain ⟨g20, h⟩ := gd_some h
    refine x_getR (ci := 10) (k := 6) dX10_count_105 lf_RX10_62 rfl g20 ?_
    obtain ⟨g21, h⟩ := gd_some h
    refine x_getI (ci := 3) (k := 4) dX10_count_108 lf_RX10_232 rfl g21 ?_
    obtain ⟨hr9, hw9⟩ := Prod.mk.inj (Option.some.inj h)
    subst hw9
    subst hr9
    exact x_iret dX10_count_111 rfl rfl
  rw [if_neg hc19] at h
  by_cases hc22 : x1 = (5 : Int32)
  · rw [if_pos hc22] at h
    refine x_tsw (off := 111) (tgt := 112) dX10_count_1 (by rw [hc22]; decide) (by rw [hc22]; decide) (by rw [hc22]; decide) (by decide) ?_
    refine x_aload_n (j := 0) (i := 0) dX10_count_112 rfl rfl ?_
    obtain ⟨g23, h⟩ := gd_some h
    refine x_getR (ci := 10) (k := 6) dX10_count_113 lf_RX10_62 rfl g23 ?_
    obtain ⟨g27, h⟩ := gd_some h
    obtain ⟨v24, w25, hc26, h⟩ := bd_s h
    refine x_callVI (ci := 3) dX10_count_116 ml_RX10_314 mb_X3_allMarks (c_X3_allMarks (wR w x0 6) w v24 w25 hc26) ⟨_, rfl, rfl⟩ g27 [] rfl rfl (Nat.le_of_ble_eq_true rfl) (by decide) (by decide) ?_
    obtain ⟨hr9, hw9⟩ := Prod.mk.inj (Option.some.inj h)
    subst hw9
    subst hr9
    exact x_iret dX10_count_119 rfl rfl
  rw [if_neg hc22] at h
  by_cases hc28 : x1 = (6 : Int32)
  · rw [if_pos hc28] at h
    refine x_tsw (off := 119) (tgt := 120) dX10_count_1 (by rw [hc28]; decide) (by rw [hc28]; decide) (by rw [hc28]; decide) (by decide) ?_
    refine x_aload_n (j := 0) (i := 0) dX10_count_120 rfl rfl ?_
    obtain ⟨g29, h⟩ := gd_some h
    refine x_getR (ci := 10) (k := 7) dX10_count_121 lf_RX10_69 rfl g29 ?_
    obtain ⟨g30, h⟩ := gd_some h
    refine x_getI (ci := 1) (k := 1) dX10_count_124 lf_RX10_265 rfl g30 ?_
    obtain ⟨hr9, hw9⟩ := Prod.mk.inj (Option.some.inj h)
    subst hw9
    subst hr9
    exact x_iret dX10_count_127 rfl rfl
  rw [if_neg hc28] at h
  by_cases hc31 : x1 = (7 : Int32)
  · rw [if_pos hc31] at h
    refine x_tsw (off := 127) (tgt := 128) dX10_count_1 (by rw [hc31]; decide) (by rw [hc31]; decide) (by rw [hc31]; decide) (by decide) ?_
    refine x_aload_n (j := 0) (i := 0) dX10_count_128 rfl rfl ?_
    obtain ⟨g32, h⟩ := gd_some h
    refine x_getR (ci := 10) (k := 7) dX10_count_129 lf_RX10_69 rfl g32 ?_
    obtain ⟨g33, h⟩ := gd_some h
    refine x_getI (ci := 1) (k := 2) dX10_count_132 lf_RX10_262 rfl g33 ?_
    obtain ⟨hr9, hw9⟩ := Prod.mk.inj (Option.some.inj h)
    subst hw9
    subst hr9
    exact x_iret dX10_count_135 rfl rfl
  rw [if_neg hc31] at h
  by_cases hc34 : x1 = (8 : Int32)
  · rw [if_pos hc34] at h
    refine x_tsw (off := 135) (tgt := 136) dX10_count_1 (by rw [hc34]; decide) (by rw [hc34]; decide) (by rw [hc34]; decide) (by decide) ?_
    refine x_aload_n (j := 0) (i := 0) dX10_count_136 rfl rfl ?_
    obtain ⟨g35, h⟩ := gd_some h
    refine x_getR (ci := 10) (k := 7) dX10_count_137 lf_RX10_69 rfl g35 ?_
    obtain ⟨g36, h⟩ := gd_some h
    refine x_getI (ci := 1) (k := 3) dX10_count_140 lf_RX10_272 rfl g36 ?_
    obtain ⟨hr9, hw9⟩ := Prod.mk.inj (Option.some.inj h)
    subst hw9
    subst hr9
    exact x_iret dX10_count_143 rfl rfl
  rw [if_neg hc34] at h
  by_cases hc37 : x1 = (9 : Int32)
  · rw [if_pos hc37] at h
    refine x_tsw (off := 143) (tgt := 144) dX10_count_1 (by rw [hc37]; decide) (by rw [hc37]; decide) (by rw [hc37]; decide) (by decide) ?_
    refine x_aload_n (j := 0) (i := 0) dX10_count_144 rfl rfl ?_
    obtain ⟨g38, h⟩ := gd_some h
    refine x_getR (ci := 10) (k := 7) dX10_count_145 lf_RX10_69 rfl g38 ?_
    obtain ⟨g39, h⟩ := gd_some h
    refine x_getI (ci := 1) (k := 4) dX10_count_148 lf_RX10_317 rfl g39 ?_
    obtain ⟨hr9, hw9⟩ := Prod.mk.inj (Option.some.inj h)
    subst hw9
    subst hr9
    exact x_iret dX10_count_151 rfl rfl
  rw [if_neg hc37] at h
  by_cases hc40 : x1 = (10 : Int32)
  · rw [if_pos hc40] at h
    refine x_tsw (off := 151) (tgt := 152) dX10_count_1 (by rw [hc40]; decide) (by rw [hc40]; decide) (by rw [hc40]; decide) (by decide) ?_
    refine x_aload_n (j := 0) (i := 0) dX10_count_152 rfl rfl ?_
    obtain ⟨g41, h⟩ := gd_some h
    refine x_getR (ci := 10) (k := 7) dX10_count_153 lf_RX10_69 rfl g41 ?_
    obtain ⟨g42, h⟩ := gd_some h
    refine x_getI (ci := 1) (k := 5) dX10_count_156 lf_RX10_320 rfl g42 ?_
    obtain ⟨hr9, hw9⟩ := Prod.mk.inj (Option.some.inj h)
    subst hw9
    subst hr9
    exact x_iret dX10_count_159 rfl rfl
  rw [if_neg hc40] at h
  by_cases hc43 : x1 = (11 : Int32)
  · rw [if_pos hc43] at h
    refine x_tsw (off := 159) (tgt := 160) dX10_count_1 (by rw [hc43]; decide) (by rw [hc43]; decide) (by rw [hc43]; decide) (by decide) ?_
    refine x_aload_n (j := 0) (i := 0) dX10_count_160 rfl rfl ?_
    obtain ⟨g44, h⟩ := gd_some h
    refine x_getR (ci := 10) (k := 7) dX10_count_161 lf_RX10_69 rfl g44 ?_
    obtain ⟨g45, h⟩ := gd_some h
    refine x_getI (ci := 1) (k := 6) dX10_count_164 lf_RX10_323 rfl g45 ?_
    obtain ⟨hr9, hw9⟩ := Prod.mk.inj (Option.some.inj h)
    subst hw9
    subst hr9
    exact x_iret dX10_count_167 rfl rfl
  rw [if_neg hc43] at h
  by_cases hc46 : x1 = (12 : Int32)
  · rw [if_pos hc46] at h
    refine x_tsw (off := 167) (tgt := 168) dX10_count_1 (by rw [hc46]; decide) (by rw [hc46]; decide) (by rw [hc46]; decide) (by decide) ?_
    refine x_aload_n (j := 0) (i := 0) dX10_count_168 rfl rfl ?_
    obtain ⟨g47, h⟩ := gd_some h
    refine x_getR (ci := 10) (k := 3) dX10_count_169 lf_RX10_45 rfl g47 ?_
    obtain ⟨g48, h⟩ := gd_some h
    refine x_getI (ci := 7) (k := 1) dX10_count_172 lf_RX10_200 rfl g48 ?_
    obtain ⟨hr9, hw9⟩ := Prod.mk.inj (Option.some.inj h)
    subst hw9
    subst hr9
    exact x_iret dX10_count_175 rfl rfl
  rw [if_neg hc46] at h
  by_cases hc49 : x1 = (13 : Int32)
  · rw [if_pos hc49] at h
    refine x_tsw (off := 175) (tgt := 176) dX10_count_1 (by rw [hc49]; decide) (by rw [hc49]; decide) (by rw [hc49]; decide) (by decide) ?_
    refine x_aload_n (j := 0) (i := 0) dX10_count_176 rfl rfl ?_
    obtain ⟨g50, h⟩ := gd_some h
    refine x_getR (ci := 10) (k := 1) dX10_count_177 lf_RX10_29 rfl g50 ?_
    obtain ⟨g54, h⟩ := gd_some h
    obtain ⟨v51, w52, hc53, h⟩ := bd_s h
    refine x_callVI (ci := 5) dX10_count_180 ml_RX10_326 mb_X5_handedOver (c_X5_handedOver (wR w x0 1) w v51 w52 hc53) ⟨_, rfl, rfl⟩ g54 [] rfl rfl (Nat.le_of_ble_eq_true rfl) (by decide) (by decide) ?_
    obtain ⟨hr9, hw9⟩ := Prod.mk.inj (Option.some.inj h)
    subst hw9
    subst hr9
    exact x_iret dX10_count_183 rfl rfl
  rw [if_neg hc49] at h
  refine x_tswD (tgt := 184) dX10_count_1 (by have t0 := lv_neT hc1 (by decide : (0 : Int32).toInt = 0); have t1 := lv_neT hc4 (by decide : (1 : Int32).toInt = 1); have t2 := lv_neT hc7 (by decide : (2 : Int32).toInt = 2); have t3 := lv_neT hc13 (by decide : (3 : Int32).toInt = 3); have t4 := lv_neT hc19 (by decide : (4 : Int32).toInt = 4); have t5 := lv_neT hc22 (by decide : (5 : Int32).toInt = 5); have t6 := lv_neT hc28 (by decide : (6 : Int32).toInt = 6); have t7 := lv_neT hc31 (by decide : (7 : Int32).toInt = 7); have t8 := lv_neT hc34 (by decide : (8 : Int32).toInt = 8); have t9 := lv_neT hc37 (by decide : (9 : Int32).toInt = 9); have t10 := lv_neT hc40 (by decide : (10 : Int32).toInt = 10); have t11 := lv_neT hc43 (by decide : (11 : Int32).toInt = 11); have t12 := lv_neT hc46 (by decide : (12 : Int32).toInt = 12); have t13 := lv_neT hc49 (by decide : (13 : Int32).toInt = 13); omega) (by decide) ?_
  refine x_iconst (v := -1) dX10_count_184 (by decide) ?_
  obtain ⟨hr9, hw9⟩ := Prod.mk.inj (Option.some.inj h)
  subst hw9
  subst hr9
  exact x_iret dX10_count_185 rfl rfl
