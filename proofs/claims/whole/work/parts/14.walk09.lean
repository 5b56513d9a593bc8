set_option maxRecDepth 20000 in
theorem k_X10_text_b80 (rE : Int32) (wE : xSt) (x0 : Nat) (x3 : Nat) (s0 : Int32) (w : xSt) (h : f_X10_text_b80 x0 x3 s0 w = some (rE, wE)) : xX cX10_text 7 (some .int) RX10 false (xRm 6 0 0) (xZf (some (xI rE), wE) 0 0) 80 [(0, xR x0), (3, xR x3)] [xI s0] w 0 0 := by
  unfold f_X10_text_b80 at h
  refine x_istore (i := 5) (lv2 := [(5, xI s0), (0, xR x0), (3, xR x3)]) dX10_text_80 (by decide) rfl ?_
  refine x_aload_n (j := 1) (i := 0) dX10_text_82 rfl rfl ?_
  obtain ⟨g32, h⟩ := gd_some h
  refine x_getR (ci := 10) (k := 3) dX10_text_83 lf_RX10_45 rfl g32 ?_
  obtain ⟨g33, h⟩ := gd_some h
  refine x_getI (ci := 7) (k := 2) dX10_text_86 lf_RX10_223 rfl g33 ?_
  refine x_istore (i := 6) (lv2 := [(6, xI (wI w (wR w x0 3) 2)), (5, xI s0), (0, xR x0), (3, xR x3)]) dX10_text_89 (by decide) rfl ?_
  refine x_aload_n (j := 2) (i := 0) dX10_text_91 rfl rfl ?_
  refine x_getR (ci := 10) (k := 3) dX10_text_92 lf_RX10_45 rfl g32 ?_
  obtain ⟨_u, w34, hc35, h⟩ := bd_s h
  refine x_callVV (ci := 7) dX10_text_95 ml_RX10_226 mb_X7_empty (c_X7_empty (wR w x0 3) w _u w34 hc35) ⟨_, rfl, rfl⟩ g33 [] rfl rfl (Nat.le_of_ble_eq_true rfl) (by decide) (by decide) ?_
  refine x_iload (j := 1) (i := 5) dX10_text_98 rfl ?_
  refine x_if_eq (tgt := 110) dX10_text_100 (by decide) (fun hc36 => ?_) (fun hc36 => ?_)
  · rw [if_pos hc36] at h
    refine x_bipush (v := -10) dX10_text_110 (by decide) ?_
    refine x_iload (j := 0) (i := 6) dX10_text_112 rfl ?_
    refine x_isub dX10_text_114 ?_
    obtain ⟨hr9, hw9⟩ := Prod.mk.inj (Option.some.inj h)
    subst hw9
    subst hr9
    exact x_iret dX10_text_115 rfl rfl
  · rw [if_neg hc36] at h
    refine x_aload_n (j := 3) (i := 3) dX10_text_103 rfl rfl ?_
    obtain ⟨g40, h⟩ := gd_some h
    obtain ⟨v37, w38, hc39, h⟩ := bd_s h
    refine x_callVI (ci := 9) dX10_text_104 ml_RX10_229 mb_X9_keepNext (c_X9_keepNext x3 w34 v37 w38 hc39) ⟨_, rfl, rfl⟩ g40 [] rfl rfl (Nat.le_of_ble_eq_true rfl) (by decide) (by decide) ?_
    refine x_goto (tgt := 115) dX10_text_107 (by decide) ?_
    obtain ⟨hr9, hw9⟩ := Prod.mk.inj (Option.some.inj h)
    subst hw9
    subst hr9
    exact x_iret dX10_text_115 rfl rfl
set_option maxRecDepth 20000 in
theorem k_X10_text_b34 (rE : Int32) (wE : xSt) (x0 : Nat) (x1 : Int32) (x2 : Int32) (s0 : Nat) (w : xSt) (h : f_X10_text_b34 x0 x1 x2 s0 w = some (rE, wE)) : xX cX10_text 7 (some .int) RX10 false (xRm 6 0 0) (xZf (some (xI rE), wE) 0 0) 34 [(0, xR x0), (1, xI x1), (2, xI x2)] [xR s0] w 0 0 := by
  unfold f_X10_text_b34 at h
  refine x_astore_n (i := 3) (lv2 := [(3, xR s0), (0, xR x0), (1, xI x1), (2, xI x2)]) dX10_text_34 rfl (by decide) rfl ?_
  refine x_aload_n (j := 0) (i := 3) dX10_text_35 rfl rfl ?_
  obtain ⟨g15, h⟩ := gd_some h
  obtain ⟨v12, w13, hc14, h⟩ := bd_s h
  refine x_callVR (ci := 9) dX10_text_36 ml_RX10_206 mb_X9_next (c_X9_next s0 w v12 w13 hc14) ⟨_, rfl, rfl⟩ g15 [] rfl rfl (Nat.le_of_ble_eq_true rfl) (by decide) (by decide) ?_
  refine x_astore (i := 4) (lv2 := [(4, xR v12), (3, xR s0), (0, xR x0), (1, xI x1), (2, xI x2)]) dX10_text_39 (by decide) rfl ?_
  refine x_aload (j := 0) (i := 4) dX10_text_41 rfl ?_
  obtain ⟨g16, h⟩ := gd_some h
  refine x_ifnonnull (tgt := 49) dX10_text_43 (by decide) g16 (fun hc17 => ?_) (fun hc17 => ?_)
  · rw [if_neg hc17] at h
    refine x_aload (j := 0) (i := 4) dX10_text_49 rfl ?_
    refine x_iload_n (j := 4) (i := 2) dX10_text_51 rfl rfl ?_
    obtain ⟨g20, h⟩ := gd_some h
    obtain ⟨_u, w18, hc19, h⟩ := bd_s h
    refine x_callVV (ci := 8) dX10_text_52 ml_RX10_210 mb_X8_begin (c_X8_begin v12 x2 w13 _u w18 hc19) ⟨_, rfl, rfl⟩ g20 [] rfl rfl (Nat.le_of_ble_eq_true rfl) (by decide) (by decide) ?_
    refine x_iload_n (j := 3) (i := 1) dX10_text_55 rfl rfl ?_
    refine x_if_ne (tgt := 71) dX10_text_56 (by decide) (fun hc21 => ?_) (fun hc21 => ?_)
    · rw [if_neg hc21] at h
      refine x_aload_n (j := 2) (i := 0) dX10_text_71 rfl rfl ?_
      obtain ⟨g22, h⟩ := gd_some h
      refine x_getR (ci := 10) (k := 3) dX10_text_72 lf_RX10_45 rfl g22 ?_
      refine x_aload (j := 0) (i := 4) dX10_text_75 rfl ?_
      obtain ⟨g26, h⟩ := gd_some h
      obtain ⟨v23, w24, hc25, h⟩ := bd_s h
      refine x_callVI (ci := 7) dX10_text_77 ml_RX10_220 mb_X7_readDays (c_X7_readDays (wR w18 x0 3) v12 w18 v23 w24 hc25) ⟨_, rfl, rfl⟩ g26 [] rfl rfl (Nat.le_of_ble_eq_true rfl) (by decide) (by decide) ?_
      refine x_lv (lv2 := [(0, xR x0), (3, xR s0)]) [2, 1] rfl ?_
      exact k_X10_text_b80 rE wE x0 s0 v23 w24 h
    · rw [if_pos hc21] at h
      refine x_aload_n (j := 2) (i := 0) dX10_text_59 rfl rfl ?_
      obtain ⟨g27, h⟩ := gd_some h
      refine x_getR (ci := 10) (k := 3) dX10_text_60 lf_RX10_45 rfl g27 ?_
      refine x_aload (j := 0) (i := 4) dX10_text_63 rfl ?_
      obtain ⟨g31, h⟩ := gd_some h
      obtain ⟨v28, w29, hc30, h⟩ := bd_s h
      refine x_callVI (ci := 7) dX10_text_65 ml_RX10_216 mb_X7_readMedals (c_X7_readMedals (wR w18 x0 3) v12 w18 v28 w29 hc30) ⟨_, rfl, rfl⟩ g31 [] rfl rfl (Nat.le_of_ble_eq_true rfl) (by decide) (by decide) ?_
      refine x_goto (tgt := 80) dX10_text_68 (by decide) ?_
      refine x_lv (lv2 := [(0, xR x0), (3, xR s0)]) [2, 1] rfl ?_
      exact k_X10_text_b80 rE wE x0 s0 v28 w29 h
  · rw [if_pos hc17] at h
    refine x_bipush (v := -4) dX10_text_46 (by decide) ?_
    obtain ⟨hr9, hw9⟩ := Prod.mk.inj (Option.some.inj h)
    subst hw9
    subst hr9
    exact x_iret dX10_text_48 rfl rfl
set_option maxRecDepth 20000 in
theorem c_X10_text (x0 : Nat) (x1 : Int32) (x2 : Int32) (w : xSt) (rE : Int32) (wE : xSt) (h : f_X10_text x0 x1 x2 w = some (rE, wE)) : xCall yX10_text cX10_text 7 (some .int) 6 0 0 [xR x0, xI x1, xI x2] w (some (xI rE), wE) := by
  refine xCall_of false (by decide) (fun q => nomatch q) (Nat.le_of_ble_eq_true rfl) ?_
  show xX cX10_text 7 (some .int) RX10 false (xRm 6 0 0) (xZf (some (xI rE), wE) 0 0) 0 [(0, xR x0), (1, xI x1), (2, xI x2)] [] w 0 0
  unfold f_X10_text at h
  refine x_iload_n (j := 1) (i := 1) dX10_text_0 rfl rfl ?_
  refine x_iconst (v := 0) dX10_text_1 (by decide) ?_
  refine x_iconst (v := 1) dX10_text_2 (by decide) ?_
  obtain ⟨v1, w2, hc3, h⟩ := bd_s h
  refine x_callSI dX10_text_3 ml_RX10_88 mb_X10_within (c_X10_within x1 (0 : Int32) (1 : Int32) w v1 w2 hc3) [] rfl rfl (Nat.le_of_ble_eq_true rfl) (by decide) (by decide) ?_
  refine x_if_eq (tgt := 16) dX10_text_6 (by decide) (fun hc4 => ?_) (fun hc4 => ?_)
  · rw [if_pos hc4] at h
    refine x_bipush (v := -2) dX10_text_16 (by decide) ?_
    obtain ⟨hr9, hw9⟩ := Prod.mk.inj (Option.some.inj h)
    subst hw9
    subst hr9
    exact x_iret dX10_text_18 rfl rfl
  · rw [if_neg hc4] at h
    refine x_iload_n (j := 2) (i := 2) dX10_text_9 rfl rfl ?_
    obtain ⟨v5, w6, hc7, h⟩ := bd_s h
    refine x_callSI dX10_text_10 ml_RX10_203 mb_X10_isDay (c_X10_isDay x2 w2 v5 w6 hc7) [] rfl rfl (Nat.le_of_ble_eq_true rfl) (by decide) (by decide) ?_
    refine x_if_ne (tgt := 19) dX10_text_13 (by decide) (fun hc8 => ?_) (fun hc8 => ?_)
    · rw [if_neg hc8] at h
      refine x_iload_n (j := 1) (i := 1) dX10_text_19 rfl rfl ?_
      refine x_if_ne (tgt := 30) dX10_text_20 (by decide) (fun hc9 => ?_) (fun hc9 => ?_)
      · rw [if_neg hc9] at h
        refine x_aload_n (j := 0) (i := 0) dX10_text_30 rfl rfl ?_
        obtain ⟨g10, h⟩ := gd_some h
        refine x_getR (ci := 10) (k := 5) dX10_text_31 lf_RX10_56 rfl g10 ?_
        refine x_lv (lv2 := [(0, xR x0), (1, xI x1), (2, xI x2)]) [0, 1, 2] rfl ?_
        exact k_X10_text_b34 rE wE x0 x1 x2 (wR w6 x0 5) w6 h
      · rw [if_pos hc9] at h
        refine x_aload_n (j := 0) (i := 0) dX10_text_23 rfl rfl ?_
        obtain ⟨g11, h⟩ := gd_some h
        refine x_getR (ci := 10) (k := 4) dX10_text_24 lf_RX10_52 rfl g11 ?_
        refine x_goto (tgt := 34) dX10_text_27 (by decide) ?_
        refine x_lv (lv2 := [(0, xR x0), (1, xI x1), (2, xI x2)]) [0, 1, 2] rfl ?_
        exact k_X10_text_b34 rE wE x0 x1 x2 (wR w6 x0 4) w6 h
    · rw [if_pos hc8] at h
      refine x_bipush (v := -2) dX10_text_16 (by decide) ?_
      obtain ⟨hr9, hw9⟩ := Prod.mk.inj (Option.some.inj h)
      subst hw9
      subst hr9
      exact x_iret dX10_text_18 rfl rfl
set_option maxRecDepth 20000 in
theorem c_X10_juror (x0 : Nat) (x1 : Int32) (x2 : Int32) (w : xSt) (rE : Int32) (wE : xSt) (h : f_X10_juror x0 x1 x2 w = some (rE, wE)) : xCall yX10_juror cX10_juror 3 (some .int) 2 0 0 [xR x0, xI x1, xI x2] w (some (xI rE), wE) := by
  refine xCall_of false (by decide) (fun q => nomatch q) (Nat.le_of_ble_eq_true rfl) ?_
  show xX cX10_juror 3 (some .int) RX10 false (xRm 2 0 0) (xZf (some (xI rE), wE) 0 0) 0 [(0, xR x0), (1, xI x1), (2, xI x2)] [] w 0 0
  unfold f_X10_juror at h
  refine x_iload_n (j := 1) (i := 1) dX10_juror_0 rfl rfl ?_
  obtain ⟨v1, w2, hc3, h⟩ := bd_s h
  refine x_callSI dX10_juror_1 ml_RX10_115 mb_X10_isLand (c_X10_isLand x1 w v1 w2 hc3) [] rfl rfl (Nat.le_of_ble_eq_true rfl) (by decide) (by decide) ?_
  refine x_if_eq (tgt := 14) dX10_juror_4 (by decide) (fun hc4 => ?_) (fun hc4 => ?_)
  · rw [if_pos hc4] at h
    refine x_bipush (v := -2) dX10_juror_14 (by decide) ?_
    obtain ⟨hr9, hw9⟩ := Prod.mk.inj (Option.some.inj h)
    subst hw9
    subst hr9
    exact x_iret dX10_juror_16 rfl rfl
  · rw [if_neg hc4] at h
    refine x_iload_n (j := 2) (i := 2) dX10_juror_7 rfl rfl ?_
    obtain ⟨v5, w6, hc7, h⟩ := bd_s h
    refine x_callSI dX10_juror_8 ml_RX10_118 mb_X10_isClass (c_X10_isClass x2 w2 v5 w6 hc7) [] rfl rfl (Nat.le_of_ble_eq_true rfl) (by decide) (by decide) ?_
    refine x_if_ne (tgt := 17) dX10_juror_11 (by decide) (fun hc8 => ?_) (fun hc8 => ?_)
    · rw [if_neg hc8] at h
      refine x_aload_n (j := 0) (i := 0) dX10_juror_17 rfl rfl ?_
      obtain ⟨g9, h⟩ := gd_some h
      refine x_getR (ci := 10) (k := 6) dX10_juror_18 lf_RX10_62 rfl g9 ?_
      obtain ⟨g10, h⟩ := gd_some h
      refine x_getI (ci := 3) (k := 4) dX10_juror_21 lf_RX10_232 rfl g10 ?_
      refine x_bipush (v := 12) dX10_juror_24 (by decide) ?_
      refine x_icmp_lt (tgt := 34) dX10_juror_26 (by decide) (fun hc11 => ?_) (fun hc11 => ?_)
      · rw [if_pos hc11] at h
        refine x_aload_n (j := 0) (i := 0) dX10_juror_34 rfl rfl ?_
        refine x_getR (ci := 10) (k := 6) dX10_juror_35 lf_RX10_62 rfl g9 ?_
        refine x_iload_n (j := 1) (i := 1) dX10_juror_38 rfl rfl ?_
        refine x_iload_n (j := 2) (i := 2) dX10_juror_39 rfl rfl ?_
        obtain ⟨v12, w13, hc14, h⟩ := bd_s h
        refine x_callVI (ci := 3) dX10_juror_40 ml_RX10_235 mb_X3_add (c_X3_add (wR w6 x0 6) x1 x2 w6 v12 w13 hc14) ⟨_, rfl, rfl⟩ g10 [] rfl rfl (Nat.le_of_ble_eq_true rfl) (by decide) (by decide) ?_
        obtain ⟨hr9, hw9⟩ := Prod.mk.inj (Option.some.inj h)
        subst hw9
        subst hr9
        exact x_iret dX10_juror_43 rfl rfl
      · rw [if_neg hc11] at h
        refine x_bipush (v := -4) dX10_juror_29 (by decide) ?_
        refine x_goto (tgt := 43) dX10_juror_31 (by decide) ?_
        obtain ⟨hr9, hw9⟩ := Prod.mk.inj (Option.some.inj h)
        subst hw9
        subst hr9
        exact x_iret dX10_juror_43 rfl rfl
    · rw [if_pos hc8] at h
      refine x_bipush (v := -2) dX10_juror_14 (by decide) ?_
      obtain ⟨hr9, hw9⟩ := Prod.mk.inj (Option.some.inj h)
      subst hw9
      subst hr9
      exact x_iret dX10_juror_16 rfl rfl
set_option maxRecDepth 20000 in
theorem c_X10_mark (x0 : Nat) (x1 : Int32) (x2 : Int32) (x3 : Int32) (x4 : Int32) (w : xSt) (rE : Int32) (wE : xSt) (h : f_X10_mark x0 x1 x2 x3 x4 w = some (rE, wE)) : xCall yX10_mark cX10_mark 6 (some .int) 2 0 0 [xR x0, xI x1, xI x2, xI x3, xI x4] w (some (xI rE), wE) := by
  refine xCall_of false (by decide) (fun q => nomatch q) (Nat.le_of_ble_eq_true rfl) ?_
  show xX cX10_mark 6 (some .int) RX10 false (xRm 2 0 0) (xZf (some (xI rE), wE) 0 0) 0 [(0, xR x0), (1, xI x1), (2, xI x2), (3, xI x3), (4, xI x4)] [] w 0 0
  unfold f_X10_mark at h
  refine x_aload_n (j := 0) (i := 0) dX10_mark_0 rfl rfl ?_
  obtain ⟨g1, h⟩ := gd_some h
  refine x_getR (ci := 10) (k := 1) dX10_mark_1 lf_RX10_29 rfl g1 ?_
  refine x_iload_n (j := 2) (i := 2) dX10_mark_4 rfl rfl ?_
  obtain ⟨g5, h⟩ := gd_some h
  obtain ⟨v2, w3, hc4, h⟩ := bd_s h
  refine x_callVR (ci := 5) dX10_mark_5 ml_RX10_131 mb_X5_find (c_X5_find (wR w x0 1) x2 w v2 w3 hc4) ⟨_, rfl, rfl⟩ g5 [] rfl rfl (Nat.le_of_ble_eq_true rfl) (by decide) (by decide) ?_
  refine x_astore (i := 5) (lv2 := [(5, xR v2), (0, xR x0), (1, xI x1), (2, xI x2), (3, xI x3), (4, xI x4)]) dX10_mark_8 (by decide) rfl ?_
  refine x_aload (j := 0) (i := 5) dX10_mark_10 rfl ?_
  obtain ⟨g6, h⟩ := gd_some h
  refine x_ifnull (tgt := 26) dX10_mark_12 (by decide) g6 (fun hc7 => ?_) (fun hc7 => ?_)
  · rw [if_pos hc7] at h
    refine x_bipush (v := -5) dX10_mark_26 (by decide) ?_
    obtain ⟨hr9, hw9⟩ := Prod.mk.inj (Option.some.inj h)
    subst hw9
    subst hr9
    exact x_iret dX10_mark_28 rfl rfl
  · rw [if_neg hc7] at h
    refine x_aload_n (j := 1) (i := 0) dX10_mark_15 rfl rfl ?_
    obtain ⟨g8, h⟩ := gd_some h
    refine x_getR (ci := 10) (k := 6) dX10_mark_16 lf_RX10_62 rfl g8 ?_
    refine x_iload_n (j := 2) (i := 1) dX10_mark_19 rfl rfl ?_
    obtain ⟨g12, h⟩ := gd_some h
    obtain ⟨v9, w10, hc11, h⟩ := bd_s h
    refine x_callVI (ci := 3) dX10_mark_20 ml_RX10_237 mb_X3_has (c_X3_has (wR w3 x0 6) x1 w3 v9 w10 hc11) ⟨_, rfl, rfl⟩ g12 [] rfl rfl (Nat.le_of_ble_eq_true rfl) (by decide) (by decide) ?_
    refine x_if_ne (tgt := 29) dX10_mark_23 (by decide) (fun hc13 => ?_) (fun hc13 => ?_)
    · rw [if_neg hc13] at h
      refine x_iload_n (j := 4) (i := 3) dX10_mark_29 rfl rfl ?_
      refine x_iconst (v := 0) dX10_mark_30 (by decide) ?_
      refine x_bipush (v := 100) dX10_mark_31 (by decide) ?_
      obtain ⟨v14, w15, hc16, h⟩ := bd_s h
      refine x_callSI dX10_mark_33 ml_RX10_88 mb_X10_within (c_X10_within x3 (0 : Int32) (100 : Int32) w10 v14 w15 hc16) [] rfl rfl (Nat.le_of_ble_eq_true rfl) (by decide) (by decide) ?_
      refine x_if_eq (tgt := 47) dX10_mark_36 (by decide) (fun hc17 => ?_) (fun hc17 => ?_)
      · rw [if_pos hc17] at h
        refine x_bipush (v := -2) dX10_mark_47 (by decide) ?_
        obtain ⟨hr9, hw9⟩ := Prod.mk.inj (Option.some.inj h)
        subst hw9
        subst hr9
        exact x_iret dX10_mark_49 rfl rfl
      · rw [if_neg hc17] at h
        refine x_iload (j := 5) (i := 4) dX10_mark_39 rfl ?_
        obtain ⟨v18, w19, hc20, h⟩ := bd_s h
        refine x_callSI dX10_mark_41 ml_RX10_203 mb_X10_isDay (c_X10_isDay x4 w15 v18 w19 hc20) [] rfl rfl (Nat.le_of_ble_eq_true rfl) (by decide) (by decide) ?_
        refine x_if_ne (tgt := 50) dX10_mark_44 (by decide) (fun hc21 => ?_) (fun hc21 => ?_)
        · rw [if_neg hc21] at h
          refine x_aload_n (j := 1) (i := 0) dX10_mark_50 rfl rfl ?_
          obtain ⟨g22, h⟩ := gd_some h
          refine x_getR (ci := 10) (k := 6) dX10_mark_51 lf_RX10_62 rfl g22 ?_
          refine x_iload_n (j := 2) (i := 1) dX10_mark_54 rfl rfl ?_
          refine x_aload (j := 0) (i := 5) dX10_mark_55 rfl ?_
          obtain ⟨g26, h⟩ := gd_some h
          obtain ⟨v23, w24, hc25, h⟩ := bd_s h
          refine x_callVI (ci := 3) dX10_mark_57 ml_RX10_238 mb_X3_mayJudge (c_X3_mayJudge (wR w19 x0 6) x1 v2 w19 v23 w24 hc25) ⟨_, rfl, rfl⟩ g26 [] rfl rfl (Nat.le_of_ble_eq_true rfl) (by decide) (by decide) ?_
          refine x_if_ne (tgt := 66) dX10_mark_60 (by decide) (fun hc27 => ?_) (fun hc27 => ?_)
          · rw [if_neg hc27] at h
            refine x_aload_n (j := 1) (i := 0) dX10_mark_66 rfl rfl ?_
            obtain ⟨g28, h⟩ := gd_some h
            refine x_getR (ci := 10) (k := 6) dX10_mark_67 lf_RX10_62 rfl g28 ?_
            refine x_iload_n (j := 2) (i := 1) dX10_mark_70 rfl rfl ?_
            refine x_iload_n (j := 3) (i := 2) dX10_mark_71 rfl rfl ?_
            refine x_iload_n (j := 4) (i := 3) dX10_mark_72 rfl rfl ?_
            refine x_iload (j := 5) (i := 4) dX10_mark_73 rfl ?_
            obtain ⟨g32, h⟩ := gd_some h
            obtain ⟨v29, w30, hc31, h⟩ := bd_s h
            refine x_callVI (ci := 3) dX10_mark_75 ml_RX10_242 mb_X3_give (c_X3_give (wR w24 x0 6) x1 x2 x3 x4 w24 v29 w30 hc31) ⟨_, rfl, rfl⟩ g32 [] rfl rfl (Nat.le_of_ble_eq_true rfl) (by decide) (by decide) ?_
            obtain ⟨hr9, hw9⟩ := Prod.mk.inj (Option.some.inj h)
            subst hw9
            subst hr9
            exact x_iret dX10_mark_78 rfl rfl
          · rw [if_pos hc27] at h
            refine x_bipush (v := -3) dX10_mark_63 (by decide) ?_
            obtain ⟨hr9, hw9⟩ := Prod.mk.inj (Option.some.inj h)
            subst hw9
            subst hr9
            exact x_iret dX10_mark_65 rfl rfl
        · rw [if_pos hc21] at h
          refine x_bipush (v := -2) dX10_mark_47 (by decide) ?_
          obtain ⟨hr9, hw9⟩ := Prod.mk.inj (Option.some.inj h)
          subst hw9
          subst hr9
          exact x_iret dX10_mark_49 rfl rfl
    · rw [if_pos hc13] at h
      refine x_bipush (v := -5) dX10_mark_26 (by decide) ?_
      obtain ⟨hr9, hw9⟩ := Prod.mk.inj (Option.some.inj h)
      subst hw9
      subst hr9
      exact x_iret dX10_mark_28 rfl rfl
set_option maxRecDepth 20000 in
theorem c_X10_mean (x0 : Nat) (x1 : Int32) (x2 : Int32) (w : xSt) (rE : Int32) (wE : xSt) (h : f_X10_mean x0 x1 x2 w = some (rE, wE)) : xCall yX10_mean cX10_mean 3 (some .int) 2 0 0 [xR x0, xI x1, xI x2] w (some (xI rE), wE) := by
  refine xCall_of false (by decide) (fun q => nomatch q) (Nat.le_of_ble_eq_true rfl) ?_
  show xX cX10_mean 3 (some .int) RX10 false (xRm 2 0 0) (xZf (some (xI rE), wE) 0 0) 0 [(0, xR x0), (1, xI x1), (2, xI x2)] [] w 0 0
  unfold f_X10_mean at h
  refine x_aload_n (j := 0) (i := 0) dX10_mean_0 rfl rfl ?_
  obtain ⟨g1, h⟩ := gd_some h
  refine x_getR (ci := 10) (k := 1) dX10_mean_1 lf_RX10_29 rfl g1 ?_
  refine x_iload_n (j := 1) (i := 1) dX10_mean_4 rfl rfl ?_
  obtain ⟨g5, h⟩ := gd_some h
  obtain ⟨v2, w3, hc4, h⟩ := bd_s h
  refine x_callVR (ci := 5) dX10_mean_5 ml_RX10_131 mb_X5_find (c_X5_find (wR w x0 1) x1 w v2 w3 hc4) ⟨_, rfl, rfl⟩ g5 [] rfl rfl (Nat.le_of_ble_eq_true rfl) (by decide) (by decide) ?_
  obtain ⟨g6, h⟩ := gd_some h
  refine x_ifnonnull (tgt := 15) dX10_mean_8 (by decide) g6 (fun hc7 => ?_) (fun hc7 => ?_)
  · rw [if_neg hc7] at h
    refine x_aload_n (j := 0) (i := 0) dX10_mean_15 rfl rfl ?_
    obtain ⟨g8, h⟩ := gd_some h
    refine x_getR (ci := 10) (k := 6) dX10_mean_16 lf_RX10_62 rfl g8 ?_
    refine x_iload_n (j := 1) (i := 1) dX10_mean_19 rfl rfl ?_
    refine x_iload_n (j := 2) (i := 2) dX10_mean_20 rfl rfl ?_
    obtain ⟨g12, h⟩ := gd_some h
    obtain ⟨v9, w10, hc11, h⟩ := bd_s h
    refine x_callVI (ci := 3) dX10_mean_21 ml_RX10_246 mb_X3_average (c_X3_average (wR w3 x0 6) x1 x2 w3 v9 w10 hc11) ⟨_, rfl, rfl⟩ g12 [] rfl rfl (Nat.le_of_ble_eq_true rfl) (by decide) (by decide) ?_
    obtain ⟨hr9, hw9⟩ := Prod.mk.inj (Option.some.inj h)
    subst hw9
    subst hr9
    exact x_iret dX10_mean_24 rfl rfl
  · rw [if_pos hc7] at h
    refine x_iconst (v := -1) dX10_mean_11 (by decide) ?_
    refine x_goto (tgt := 24) dX10_mean_12 (by decide) ?_
    obtain ⟨hr9, hw9⟩ := Prod.mk.inj (Option.some.inj h)
    subst hw9
    subst hr9
    exact x_iret dX10_mean_24 rfl rfl
set_option maxRecDepth 20000 in
theorem c_X10_medal (x0 : Nat) (x1 : Int32) (x2 : Int32) (w : xSt) (rE : Int32) (wE : xSt) (h : f_X10_medal x0 x1 x2 w = some (rE, wE)) : xCall yX10_medal cX10_medal 5 (some .int) 2 0 0 [xR x0, xI x1, xI x2] w (some (xI rE), wE) := by
  refine xCall_of false (by decide) (fun q => nomatch q) (Nat.le_of_ble_eq_true rfl) ?_
  show xX cX10_medal 5 (some .int) RX10 false (xRm 2 0 0) (xZf (some (xI rE), wE) 0 0) 0 [(0, xR x0), (1, xI x1), (2, xI x2)] [] w 0 0
  unfold f_X10_medal at h
  refine x_aload_n (j := 0) (i := 0) dX10_medal_0 rfl rfl ?_
  obtain ⟨g1, h⟩ := gd_some h
  refine x_getR (ci := 10) (k := 1) dX10_medal_1 lf_RX10_29 rfl g1 ?_
  refine x_iload_n (j := 1) (i := 1) dX10_medal_4 rfl rfl ?_
  obtain ⟨g5, h⟩ := gd_some h
  obtain ⟨v2, w3, hc4, h⟩ := bd_s h
  refine x_callVR (ci := 5) dX10_medal_5 ml_RX10_131 mb_X5_find (c_X5_find (wR w x0 1) x1 w v2 w3 hc4) ⟨_, rfl, rfl⟩ g5 [] rfl rfl (Nat.le_of_ble_eq_true rfl) (by decide) (by decide) ?_
  obtain ⟨g6, h⟩ := gd_some h
  refine x_ifnonnull (tgt := 13) dX10_medal_8 (by decide) g6 (fun hc7 => ?_) (fun hc7 => ?_)
  · rw [if_neg hc7] at h
    refine x_aload_n (j := 0) (i := 0) dX10_medal_13 rfl rfl ?_
    obtain ⟨g8, h⟩ := gd_some h
    refine x_getR (ci := 10) (k := 6) dX10_medal_14 lf_RX10_62 rfl g8 ?_
    refine x_iload_n (j := 1) (i := 1) dX10_medal_17 rfl rfl ?_
    refine x_iload_n (j := 2) (i := 2) dX10_medal_18 rfl rfl ?_
    obtain ⟨g12, h⟩ := gd_some h
    obtain ⟨v9, w10, hc11, h⟩ := bd_s h
    refine x_callVI (ci := 3) dX10_medal_19 ml_RX10_246 mb_X3_average (c_X3_average (wR w3 x0 6) x1 x2 w3 v9 w10 hc11) ⟨_, rfl, rfl⟩ g12 [] rfl rfl (Nat.le_of_ble_eq_true rfl) (by decide) (by decide) ?_
    refine x_istore_n (i := 3) (lv2 := [(3, xI v9), (0, xR x0), (1, xI x1), (2, xI x2)]) dX10_medal_22 rfl (by decide) rfl ?_
    refine x_aload_n (j := 1) (i := 0) dX10_medal_23 rfl rfl ?_
    obtain ⟨g13, h⟩ := gd_some h
    refine x_getR (ci := 10) (k := 4) dX10_medal_24 lf_RX10_52 rfl g13 ?_
    refine x_iload_n (j := 3) (i := 2) dX10_medal_27 rfl rfl ?_
    obtain ⟨g17, h⟩ := gd_some h
    obtain ⟨v14, w15, hc16, h⟩ := bd_s h
    refine x_callVR (ci := 9) dX10_medal_28 ml_RX10_249 mb_X9_inForce (c_X9_inForce (wR w10 x0 4) x2 w10 v14 w15 hc16) ⟨_, rfl, rfl⟩ g17 [] rfl rfl (Nat.le_of_ble_eq_true rfl) (by decide) (by decide) ?_
    refine x_astore (i := 4) (lv2 := [(4, xR v14), (3, xI v9), (0, xR x0), (1, xI x1), (2, xI x2)]) dX10_medal_31 (by decide) rfl ?_
    refine x_iload_n (j := 1) (i := 3) dX10_medal_33 rfl rfl ?_
    refine x_iconst (v := -1) dX10_medal_34 (by decide) ?_
    refine x_icmp_eq (tgt := 43) dX10_medal_35 (by decide) (fun hc18 => ?_) (fun hc18 => ?_)
    · rw [if_pos hc18] at h
      refine x_iconst (v := 0) dX10_medal_43 (by decide) ?_
      refine x_goto (tgt := 53) dX10_medal_44 (by decide) ?_
      obtain ⟨hr9, hw9⟩ := Prod.mk.inj (Option.some.inj h)
      subst hw9
      subst hr9
      exact x_iret dX10_medal_53 rfl rfl
    · rw [if_neg hc18] at h
      refine x_aload (j := 0) (i := 4) dX10_medal_38 rfl ?_
      obtain ⟨g19, h⟩ := gd_some h
      refine x_ifnonnull (tgt := 47) dX10_medal_40 (by decide) g19 (fun hc20 => ?_) (fun hc20 => ?_)
      · rw [if_neg hc20] at h
        refine x_aload (j := 0) (i := 4) dX10_medal_47 rfl ?_
        refine x_iload_n (j := 1) (i := 3) dX10_medal_49 rfl rfl ?_
        obtain ⟨g24, h⟩ := gd_some h
        obtain ⟨v21, w22, hc23, h⟩ := bd_s h
        refine x_callVI (ci := 8) dX10_medal_50 ml_RX10_253 mb_X8_medalFor (c_X8_medalFor v14 v9 w15 v21 w22 hc23) ⟨_, rfl, rfl⟩ g24 [] rfl rfl (Nat.le_of_ble_eq_true rfl) (by decide) (by decide) ?_
        obtain ⟨hr9, hw9⟩ := Prod.mk.inj (Option.some.inj h)
        subst hw9
        subst hr9
        exact x_iret dX10_medal_53 rfl rfl
      · rw [if_pos hc20] at h
        refine x_iconst (v := 0) dX10_medal_43 (by decide) ?_
        refine x_goto (tgt := 53) dX10_medal_44 (by decide) ?_
        obtain ⟨hr9, hw9⟩ := Prod.mk.inj (Option.some.inj h)
        subst hw9
        subst hr9
        exact x_iret dX10_medal_53 rfl rfl
  · rw [if_pos hc7] at h
    refine x_iconst (v := -1) dX10_medal_11 (by decide) ?_
    obtain ⟨hr9, hw9⟩ := Prod.mk.inj (Option.some.inj h)
    subst hw9
    subst hr9
    exact x_iret dX10_medal_12 rfl rfl
set_option maxRecDepth 20000 in
theorem c_X10_entryPrice (x0 : Nat) (x1 : Int32) (w : xSt) (rE : Int32) (wE : xSt) (h : f_X10_entryPrice x0 x1 w = some (rE, wE)) : xCall yX10_entryPrice cX10_entryPrice 3 (some .int) 2 0 0 [xR x0, xI x1] w (some (xI rE), wE) := by
  refine xCall_of false (by decide) (fun q => nomatch q) (Nat.le_of_ble_eq_true rfl) ?_
  show xX cX10_entryPrice 3 (some .int) RX10 false (xRm 2 0 0) (xZf (some (xI rE), wE) 0 0) 0 [(0, xR x0), (1, xI x1)] [] w 0 0
  unfold f_X10_entryPrice at h
  refine x_aload_n (j := 0) (i := 0) dX10_entryPrice_0 rfl rfl ?_
  obtain ⟨g1, h⟩ := gd_some h
  refine x_getR (ci := 10) (k := 5) dX10_entryPrice_1 lf_RX10_56 rfl g1 ?_
  refine x_iload_n (j := 1) (i := 1) dX10_entryPrice_4 rfl rfl ?_
  obtain ⟨g5, h⟩ := gd_some h
  obtain ⟨v2, w3, hc4, h⟩ := bd_s h
  refine x_callVR (ci := 9) dX10_entryPrice_5 ml_RX10_249 mb_X9_inForce (c_X9_inForce (wR w x0 5) x1 w v2 w3 hc4) ⟨_, rfl, rfl⟩ g5 [] rfl rfl (Nat.le_of_ble_eq_true rfl) (by decide) (by decide) ?_
  refine x_astore_n (i := 2) (lv2 := [(2, xR v2), (0, xR x0), (1, xI x1)]) dX10_entryPrice_8 rfl (by decide) rfl ?_
  refine x_aload_n (j := 0) (i := 2) dX10_entryPrice_9 rfl rfl ?_
  obtain ⟨g6, h⟩ := gd_some h
  refine x_ifnonnull (tgt := 17) dX10_entryPrice_10 (by decide) g6 (fun hc7 => ?_) (fun hc7 => ?_)
  · rw [if_neg hc7] at h
    refine x_aload_n (j := 0) (i := 2) dX10_entryPrice_17 rfl rfl ?_
    refine x_iload_n (j := 2) (i := 1) dX10_entryPrice_18 rfl rfl ?_
    obtain ⟨g11, h⟩ := gd_some h
    obtain ⟨v8, w9, hc10, h⟩ := bd_s h
    refine x_callVI (ci := 8) dX10_entryPrice_19 ml_RX10_328 mb_X8_priceOf (c_X8_priceOf v2 x1 w3 v8 w9 hc10) ⟨_, rfl, rfl⟩ g11 [] rfl rfl (Nat.le_of_ble_eq_true rfl) (by decide) (by decide) ?_
    obtain ⟨hr9, hw9⟩ := Prod.mk.inj (Option.some.inj h)
    subst hw9
    subst hr9
    exact x_iret dX10_entryPrice_22 rfl rfl
  · rw [if_pos hc7] at h
    refine x_iconst (v := 0) dX10_entryPrice_13 (by decide) ?_
    refine x_goto (tgt := 22) dX10_entryPrice_14 (by decide) ?_
    obtain ⟨hr9, hw9⟩ := Prod.mk.inj (Option.some.inj h)
    subst hw9
    subst hr9
    exact x_iret dX10_entryPrice_22 rfl rfl
set_option maxRecDepth 20000 in
theorem c_X10_cost (x0 : Nat) (x1 : Int32) (w : xSt) (rE : Int32) (wE : xSt) (h : f_X10_cost x0 x1 w = some (rE, wE)) : xCall yX10_cost cX10_cost 2 (some .int) 3 0 0 [xR x0, xI x1] w (some (xI rE), wE) := by
  refine xCall_of false (by decide) (fun q => nomatch q) (Nat.le_of_ble_eq_true rfl) ?_
  show xX cX10_cost 2 (some .int) RX10 false (xRm 3 0 0) (xZf (some (xI rE), wE) 0 0) 0 [(0, xR x0), (1, xI x1)] [] w 0 0
  unfold f_X10_cost at h
  refine x_iload_n (j := 1) (i := 1) dX10_cost_0 rfl rfl ?_
  refine x_if_ge (tgt := 8) dX10_cost_1 (by decide) (fun hc1 => ?_) (fun hc1 => ?_)
  · rw [if_pos hc1] at h
    refine x_aload_n (j := 0) (i := 0) dX10_cost_8 rfl rfl ?_
    refine x_iload_n (j := 1) (i := 1) dX10_cost_9 rfl rfl ?_
    obtain ⟨g5, h⟩ := gd_some h
    obtain ⟨v2, w3, hc4, h⟩ := bd_s h
    refine x_callVI (ci := 10) dX10_cost_10 ml_RX10_256 mb_X10_entryPrice (c_X10_entryPrice x0 x1 w v2 w3 hc4) ⟨_, rfl, rfl⟩ g5 [] rfl rfl (Nat.le_of_ble_eq_true rfl) (by decide) (by decide) ?_
    obtain ⟨hr9, hw9⟩ := Prod.mk.inj (Option.some.inj h)
    subst hw9
    subst hr9
    exact x_iret dX10_cost_13 rfl rfl
  · rw [if_neg hc1] at h
    refine x_iconst (v := -1) dX10_cost_4 (by decide) ?_
    refine x_goto (tgt := 13) dX10_cost_5 (by decide) ?_
    obtain ⟨hr9, hw9⟩ := Prod.mk.inj (Option.some.inj h)
    subst hw9
    subst hr9
    exact x_iret dX10_cost_13 rfl rfl
set_option maxRecDepth 20000 in
theorem c_X10_most (x0 : Nat) (x1 : Int32) (w : xSt) (rE : Int32) (wE : xSt) (h : f_X10_most x0 x1 w = some (rE, wE)) : xCall yX10_most cX10_most 3 (some .int) 1 0 0 [xR x0, xI x1] w (some (xI rE), wE) := by
  refine xCall_of false (by decide) (fun q => nomatch q) (Nat.le_of_ble_eq_true rfl) ?_
  show xX cX10_most 3 (some .int) RX10 false (xRm 1 0 0) (xZf (some (xI rE), wE) 0 0) 0 [(0, xR x0), (1, xI x1)] [] w 0 0
  unfold f_X10_most at h
  refine x_iload_n (j := 1) (i := 1) dX10_most_0 rfl rfl ?_
  refine x_iconst (v := 1) dX10_most_1 (by decide) ?_
  refine x_sipush (v := 20000) dX10_most_2 (by decide) ?_
  obtain ⟨v1, w2, hc3, h⟩ := bd_s h
  refine x_callSI dX10_most_5 ml_RX10_88 mb_X10_within (c_X10_within x1 (1 : Int32) (20000 : Int32) w v1 w2 hc3) [] rfl rfl (Nat.le_of_ble_eq_true rfl) (by decide) (by decide) ?_
  refine x_if_ne (tgt := 14) dX10_most_8 (by decide) (fun hc4 => ?_) (fun hc4 => ?_)
  · rw [if_neg hc4] at h
    refine x_aload_n (j := 0) (i := 0) dX10_most_14 rfl rfl ?_
    obtain ⟨g5, h⟩ := gd_some h
    refine x_getR (ci := 10) (k := 7) dX10_most_15 lf_RX10_69 rfl g5 ?_
    obtain ⟨g6, h⟩ := gd_some h
    refine x_getI (ci := 1) (k := 0) dX10_most_18 lf_RX10_259 rfl g6 ?_
    refine x_istore_n (i := 2) (lv2 := [(2, xI (wI w2 (wR w2 x0 7) 0)), (0, xR x0), (1, xI x1)]) dX10_most_21 rfl (by decide) rfl ?_
    refine x_aload_n (j := 1) (i := 0) dX10_most_22 rfl rfl ?_
    refine x_getR (ci := 10) (k := 7) dX10_most_23 lf_RX10_69 rfl g5 ?_
    refine x_iload_n (j := 2) (i := 1) dX10_most_26 rfl rfl ?_
    obtain ⟨w7, hw8, h⟩ := lt1_some h
    refine x_putI (ci := 1) (k := 0) dX10_most_27 (lw_RX10_259_w _) rfl g6 ?_
    rw [← hw8]
    refine x_iload_n (j := 0) (i := 2) dX10_most_30 rfl rfl ?_
    obtain ⟨hr9, hw9⟩ := Prod.mk.inj (Option.some.inj h)
    subst hw9
    subst hr9
    exact x_iret dX10_most_31 rfl rfl
  · rw [if_pos hc4] at h
    refine x_bipush (v := -2) dX10_most_11 (by decide) ?_
    obtain ⟨hr9, hw9⟩ := Prod.mk.inj (Option.some.inj h)
    subst hw9
    subst hr9
    exact x_iret dX10_most_13 rfl rfl
set_option maxRecDepth 20000 in
theorem c_X10_minute (x0 : Nat) (x1 : Int32) (x2 : Int32) (w : xSt) (rE : Int32) (wE : xSt) (h : f_X10_minute x0 x1 x2 w = some (rE, wE)) : xCall yX10_minute cX10_minute 3 (some .int) 3 0 0 [xR x0, xI x1, xI x2] w (some (xI rE), wE) := by
  refine xCall_of false (by decide) (fun q => nomatch q) (Nat.le_of_ble_eq_true rfl) ?_
  show xX cX10_minute 3 (some .int) RX10 false (xRm 3 0 0) (xZf (some (xI rE), wE) 0 0) 0 [(0, xR x0), (1, xI x1), (2, xI x2)] [] w 0 0
  unfold f_X10_minute at h
  refine x_iload_n (j := 1) (i := 1) dX10_minute_0 rfl rfl ?_
  refine x_iconst (v := 0) dX10_minute_1 (by decide) ?_
  refine x_sipush (v := 2000) dX10_minute_2 (by decide) ?_
  obtain ⟨v1, w2, hc3, h⟩ := bd_s h
  refine x_callSI dX10_minute_5 ml_RX10_88 mb_X10_within (c_X10_within x1 (0 : Int32) (2000 : Int32) w v1 w2 hc3) [] rfl rfl (Nat.le_of_ble_eq_true rfl) (by decide) (by decide) ?_
  refine x_if_eq (tgt := 22) dX10_minute_8 (by decide) (fun hc4 => ?_) (fun hc4 => ?_)
  · rw [if_pos hc4] at h
    refine x_bipush (v := -2) dX10_minute_22 (by decide) ?_
    obtain ⟨hr9, hw9⟩ := Prod.mk.inj (Option.some.inj h)
    subst hw9
    subst hr9
    exact x_iret dX10_minute_24 rfl rfl
  · rw [if_neg hc4] at h
    refine x_iload_n (j := 2) (i := 2) dX10_minute_11 rfl rfl ?_
    refine x_iconst (v := 0) dX10_minute_12 (by decide) ?_
    refine x_sipush (v := 2000) dX10_minute_13 (by decide) ?_
    obtain ⟨v5, w6, hc7, h⟩ := bd_s h
    refine x_callSI dX10_minute_16 ml_RX10_88 mb_X10_within (c_X10_within x2 (0 : Int32) (2000 : Int32) w2 v5 w6 hc7) [] rfl rfl (Nat.le_of_ble_eq_true rfl) (by decide) (by decide) ?_
    refine x_if_ne (tgt := 25) dX10_minute_19 (by decide) (fun hc8 => ?_) (fun hc8 => ?_)
    · rw [if_neg hc8] at h
      refine x_aload_n (j := 0) (i := 0) dX10_minute_25 rfl rfl ?_
      obtain ⟨g9, h⟩ := gd_some h
      refine x_getR (ci := 10) (k := 7) dX10_minute_26 lf_RX10_69 rfl g9 ?_
      obtain ⟨g10, h⟩ := gd_some h
      refine x_getI (ci := 1) (k := 2) dX10_minute_29 lf_RX10_262 rfl g10 ?_
      refine x_sipush (v := 600) dX10_minute_32 (by decide) ?_
      refine x_icmp_lt (tgt := 41) dX10_minute_35 (by decide) (fun hc11 => ?_) (fun hc11 => ?_)
      · rw [if_pos hc11] at h
        refine x_aload_n (j := 0) (i := 0) dX10_minute_41 rfl rfl ?_
        refine x_getR (ci := 10) (k := 7) dX10_minute_42 lf_RX10_69 rfl g9 ?_
        refine x_iload_n (j := 1) (i := 1) dX10_minute_45 rfl rfl ?_
        refine x_iload_n (j := 2) (i := 2) dX10_minute_46 rfl rfl ?_
        refine x_aload_n (j := 0) (i := 0) dX10_minute_47 rfl rfl ?_
        refine x_aload_n (j := 0) (i := 0) dX10_minute_48 rfl rfl ?_
        refine x_getR (ci := 10) (k := 7) dX10_minute_49 lf_RX10_69 rfl g9 ?_
        refine x_getI (ci := 1) (k := 1) dX10_minute_52 lf_RX10_265 rfl g10 ?_
        obtain ⟨v12, w13, hc14, h⟩ := bd_s h
        refine x_callVI (ci := 10) dX10_minute_55 ml_RX10_256 mb_X10_entryPrice (c_X10_entryPrice x0 (wI w6 (wR w6 x0 7) 1) w6 v12 w13 hc14) ⟨_, rfl, rfl⟩ g9 [xI x2, xI x1, xR (wR w6 x0 7)] rfl rfl (Nat.le_of_ble_eq_true rfl) (by decide) (by decide) ?_
        obtain ⟨g17, h⟩ := gd_some h
        obtain ⟨_u, w15, hc16, h⟩ := bd_s h
        refine x_callVV (ci := 1) dX10_minute_58 ml_RX10_268 mb_X1_pass (c_X1_pass (wR w6 x0 7) x1 x2 v12 w13 _u w15 hc16) ⟨_, rfl, rfl⟩ g17 [] rfl rfl (Nat.le_of_ble_eq_true rfl) (by decide) (by decide) ?_
        refine x_aload_n (j := 0) (i := 0) dX10_minute_61 rfl rfl ?_
        obtain ⟨g18, h⟩ := gd_some h
        refine x_getR (ci := 10) (k := 7) dX10_minute_62 lf_RX10_69 rfl g18 ?_
        obtain ⟨g19, h⟩ := gd_some h
        refine x_getI (ci := 1) (k := 3) dX10_minute_65 lf_RX10_272 rfl g19 ?_
        obtain ⟨hr9, hw9⟩ := Prod.mk.inj (Option.some.inj h)
        subst hw9
        subst hr9
        exact x_iret dX10_minute_68 rfl rfl
      · rw [if_neg hc11] at h
        refine x_bipush (v := -4) dX10_minute_38 (by decide) ?_
        obtain ⟨hr9, hw9⟩ := Prod.mk.inj (Option.some.inj h)
        subst hw9
        subst hr9
        exact x_iret dX10_minute_40 rfl rfl
    · rw [if_pos hc8] at h
      refine x_bipush (v := -2) dX10_minute_22 (by decide) ?_
      obtain ⟨hr9, hw9⟩ := Prod.mk.inj (Option.some.inj h)
      subst hw9
      subst hr9
      exact x_iret dX10_minute_24 rfl rfl
set_option maxRecDepth 20000 in
theorem c_X10_bell (x0 : Nat) (w : xSt) (rE : Int32) (wE : xSt) (h : f_X10_bell x0 w = some (rE, wE)) : xCall yX10_bell cX10_bell 1 (some .int) 1 0 0 [xR x0] w (some (xI rE), wE) := by
  refine xCall_of false (by decide) (fun q => nomatch q) (Nat.le_of_ble_eq_true rfl) ?_
  show xX cX10_bell 1 (some .int) RX10 false (xRm 1 0 0) (xZf (some (xI rE), wE) 0 0) 0 [(0, xR x0)] [] w 0 0
  unfold f_X10_bell at h
  refine x_aload_n (j := 0) (i := 0) dX10_bell_0 rfl rfl ?_
  obtain ⟨g1, h⟩ := gd_some h
  refine x_getR (ci := 10) (k := 7) dX10_bell_1 lf_RX10_69 rfl g1 ?_
  obtain ⟨g2, h⟩ := gd_some h
  refine x_getI (ci := 1) (k := 1) dX10_bell_4 lf_RX10_265 rfl g2 ?_
  refine x_sipush (v := 999) dX10_bell_7 (by decide) ?_
  refine x_icmp_lt (tgt := 16) dX10_bell_10 (by decide) (fun hc3 => ?_) (fun hc3 => ?_)
  · rw [if_pos hc3] at h
    refine x_aload_n (j := 0) (i := 0) dX10_bell_16 rfl rfl ?_
    refine x_getR (ci := 10) (k := 7) dX10_bell_17 lf_RX10_69 rfl g1 ?_
    obtain ⟨_u, w4, hc5, h⟩ := bd_s h
    refine x_callVV (ci := 1) dX10_bell_20 ml_RX10_275 mb_X1_beginNextDay (c_X1_beginNextDay (wR w x0 7) w _u w4 hc5) ⟨_, rfl, rfl⟩ g2 [] rfl rfl (Nat.le_of_ble_eq_true rfl) (by decide) (by decide) ?_
    refine x_aload_n (j := 0) (i := 0) dX10_bell_23 rfl rfl ?_
    obtain ⟨g6, h⟩ := gd_some h
    refine x_getR (ci := 10) (k := 7) dX10_bell_24 lf_RX10_69 rfl g6 ?_
    obtain ⟨g7, h⟩ := gd_some h
    refine x_getI (ci := 1) (k := 1) dX10_bell_27 lf_RX10_265 rfl g7 ?_
    obtain ⟨hr9, hw9⟩ := Prod.mk.inj (Option.some.inj h)
    subst hw9
    subst hr9
    exact x_iret dX10_bell_30 rfl rfl
  · rw [if_neg hc3] at h
    refine x_bipush (v := -4) dX10_bell_13 (by decide) ?_
    obtain ⟨hr9, hw9⟩ := Prod.mk.inj (Option.some.inj h)
    subst hw9
    subst hr9
    exact x_iret dX10_bell_15 rfl rfl
set_option maxRecDepth 20000 in
theorem c_X10_sight (x0 : Nat) (x1 : Int32) (x2 : Int32) (w : xSt) (rE : Int32) (wE : xSt) (h : f_X10_sight x0 x1 x2 w = some (rE, wE)) : xCall yX10_sight cX10_sight 3 (some .int) 2 0 0 [xR x0, xI x1, xI x2] w (some (xI rE), wE) := by
  refine xCall_of false (by decide) (fun q => nomatch q) (Nat.le_of_ble_eq_true rfl) ?_
  show xX cX10_sight 3 (some .int) RX10 false (xRm 2 0 0) (xZf (some (xI rE), wE) 0 0) 0 [(0, xR x0), (1, xI x1), (2, xI x2)] [] w 0 0
  unfold f_X10_sight at h
  refine x_aload_n (j := 0) (i := 0) dX10_sight_0 rfl rfl ?_
  obtain ⟨g1, h⟩ := gd_some h
  refine x_getR (ci := 10) (k := 0) dX10_sight_1 lf_RX10_18 rfl g1 ?_
  refine x_iload_n (j := 1) (i := 1) dX10_sight_4 rfl rfl ?_
  obtain ⟨g5, h⟩ := gd_some h
  obtain ⟨v2, w3, hc4, h⟩ := bd_s h
  refine x_callVI (ci := 0) dX10_sight_5 ml_RX10_84 mb_X0_has (c_X0_has (wR w x0 0) x1 w v2 w3 hc4) ⟨_, rfl, rfl⟩ g5 [] rfl rfl (Nat.le_of_ble_eq_true rfl) (by decide) (by decide) ?_
  refine x_if_ne (tgt := 13) dX10_sight_8 (by decide) (fun hc6 => ?_) (fun hc6 => ?_)
  · rw [if_neg hc6] at h
    refine x_iload_n (j := 2) (i := 2) dX10_sight_13 rfl rfl ?_
    refine x_iconst (v := 0) dX10_sight_14 (by decide) ?_
    refine x_sipush (v := 10000) dX10_sight_15 (by decide) ?_
    obtain ⟨v7, w8, hc9, h⟩ := bd_s h
    refine x_callSI dX10_sight_18 ml_RX10_88 mb_X10_within (c_X10_within x2 (0 : Int32) (10000 : Int32) w3 v7 w8 hc9) [] rfl rfl (Nat.le_of_ble_eq_true rfl) (by decide) (by decide) ?_
    refine x_if_eq (tgt := 46) dX10_sight_21 (by decide) (fun hc10 => ?_) (fun hc10 => ?_)
    · rw [if_pos hc10] at h
      refine x_bipush (v := -2) dX10_sight_46 (by decide) ?_
      obtain ⟨hr9, hw9⟩ := Prod.mk.inj (Option.some.inj h)
      subst hw9
      subst hr9
      exact x_iret dX10_sight_48 rfl rfl
    · rw [if_neg hc10] at h
      refine x_aload_n (j := 0) (i := 0) dX10_sight_24 rfl rfl ?_
      obtain ⟨g11, h⟩ := gd_some h
      refine x_getR (ci := 10) (k := 8) dX10_sight_25 lf_RX10_76 rfl g11 ?_
      refine x_iload_n (j := 2) (i := 2) dX10_sight_28 rfl rfl ?_
      obtain ⟨g15, h⟩ := gd_some h
      obtain ⟨v12, w13, hc14, h⟩ := bd_s h
      refine x_callVI (ci := 4) dX10_sight_29 ml_RX10_278 mb_X4_isBehindLatest (c_X4_isBehindLatest (wR w8 x0 8) x2 w8 v12 w13 hc14) ⟨_, rfl, rfl⟩ g15 [] rfl rfl (Nat.le_of_ble_eq_true rfl) (by decide) (by decide) ?_
      refine x_if_eq (tgt := 46) dX10_sight_32 (by decide) (fun hc16 => ?_) (fun hc16 => ?_)
      · rw [if_pos hc16] at h
        refine x_bipush (v := -2) dX10_sight_46 (by decide) ?_
        obtain ⟨hr9, hw9⟩ := Prod.mk.inj (Option.some.inj h)
        subst hw9
        subst hr9
        exact x_iret dX10_sight_48 rfl rfl
      · rw [if_neg hc16] at h
        refine x_aload_n (j := 0) (i := 0) dX10_sight_35 rfl rfl ?_
        obtain ⟨g17, h⟩ := gd_some h
        refine x_getR (ci := 10) (k := 0) dX10_sight_36 lf_RX10_18 rfl g17 ?_
        refine x_iload_n (j := 1) (i := 1) dX10_sight_39 rfl rfl ?_
        obtain ⟨g21, h⟩ := gd_some h
        obtain ⟨v18, w19, hc20, h⟩ := bd_s h
        refine x_callVI (ci := 0) dX10_sight_40 ml_RX10_281 mb_X0_isOpen (c_X0_isOpen (wR w13 x0 0) x1 w13 v18 w19 hc20) ⟨_, rfl, rfl⟩ g21 [] rfl rfl (Nat.le_of_ble_eq_true rfl) (by decide) (by decide) ?_
        refine x_if_ne (tgt := 49) dX10_sight_43 (by decide) (fun hc22 => ?_) (fun hc22 => ?_)
        · rw [if_neg hc22] at h
          refine x_aload_n (j := 0) (i := 0) dX10_sight_49 rfl rfl ?_
          obtain ⟨g23, h⟩ := gd_some h
          refine x_getR (ci := 10) (k := 8) dX10_sight_50 lf_RX10_76 rfl g23 ?_
          obtain ⟨g24, h⟩ := gd_some h
          refine x_getI (ci := 4) (k := 0) dX10_sight_53 lf_RX10_284 rfl g24 ?_
          refine x_bipush (v := 10) dX10_sight_56 (by decide) ?_
          refine x_icmp_lt (tgt := 66) dX10_sight_58 (by decide) (fun hc25 => ?_) (fun hc25 => ?_)
          · rw [if_pos hc25] at h
            refine x_aload_n (j := 0) (i := 0) dX10_sight_66 rfl rfl ?_
            refine x_getR (ci := 10) (k := 8) dX10_sight_67 lf_RX10_76 rfl g23 ?_
            refine x_iload_n (j := 1) (i := 1) dX10_sight_70 rfl rfl ?_
            refine x_iload_n (j := 2) (i := 2) dX10_sight_71 rfl rfl ?_
            obtain ⟨v26, w27, hc28, h⟩ := bd_s h
            refine x_callVI (ci := 4) dX10_sight_72 ml_RX10_287 mb_X4_add (c_X4_add (wR w19 x0 8) x1 x2 w19 v26 w27 hc28) ⟨_, rfl, rfl⟩ g24 [] rfl rfl (Nat.le_of_ble_eq_true rfl) (by decide) (by decide) ?_
            obtain ⟨hr9, hw9⟩ := Prod.mk.inj (Option.some.inj h)
            subst hw9
            subst hr9
            exact x_iret dX10_sight_75 rfl rfl
          · rw [if_neg hc25] at h
            refine x_bipush (v := -4) dX10_sight_61 (by decide) ?_
            refine x_goto (tgt := 75) dX10_sight_63 (by decide) ?_
            obtain ⟨hr9, hw9⟩ := Prod.mk.inj (Option.some.inj h)
            subst hw9
            subst hr9
            exact x_iret dX10_sight_75 rfl rfl
        · rw [if_pos hc22] at h
          refine x_bipush (v := -2) dX10_sight_46 (by decide) ?_
          obtain ⟨hr9, hw9⟩ := Prod.mk.inj (Option.some.inj h)
          subst hw9
          subst hr9
          exact x_iret dX10_sight_48 rfl rfl
  · rw [if_pos hc6] at h
    refine x_iconst (v := -1) dX10_sight_11 (by decide) ?_
    obtain ⟨hr9, hw9⟩ := Prod.mk.inj (Option.some.inj h)
    subst hw9
    subst hr9
    exact x_iret dX10_sight_12 rfl rfl
set_option maxRecDepth 20000 in
theorem c_X10_refusalOfSearch (x0 : Nat) (x1 : Int32) (w : xSt) (rE : Int32) (wE : xSt) (h : f_X10_refusalOfSearch x0 x1 w = some (rE, wE)) : xCall yX10_refusalOfSearch cX10_refusalOfSearch 2 (some .int) 0 0 0 [xR x0, xI x1] w (some (xI rE), wE) := by
  refine xCall_of false (by decide) (fun q => nomatch q) (Nat.le_of_ble_eq_true rfl) ?_
  show xX cX10_refusalOfSearch 2 (some .int) RX10 false (xRm 0 0 0) (xZf (some (xI rE), wE) 0 0) 0 [(0, xR x0), (1, xI x1)] [] w 0 0
  unfold f_X10_refusalOfSearch at h
  refine x_aload_n (j := 0) (i := 0) dX10_refusalOfSearch_0 rfl rfl ?_
  obtain ⟨g1, h⟩ := gd_some h
  refine x_getR (ci := 10) (k := 8) dX10_refusalOfSearch_1 lf_RX10_76 rfl g1 ?_
  obtain ⟨g2, h⟩ := gd_some h
  refine x_getI (ci := 4) (k := 0) dX10_refusalOfSearch_4 lf_RX10_284 rfl g2 ?_
  refine x_if_ne (tgt := 13) dX10_refusalOfSearch_7 (by decide) (fun hc3 => ?_) (fun hc3 => ?_)
  · rw [if_neg hc3] at h
    refine x_iload_n (j := 1) (i := 1) dX10_refusalOfSearch_13 rfl rfl ?_
    refine x_aload_n (j := 0) (i := 0) dX10_refusalOfSearch_14 rfl rfl ?_
    refine x_getR (ci := 10) (k := 8) dX10_refusalOfSearch_15 lf_RX10_76 rfl g1 ?_
    refine x_getI (ci := 4) (k := 2) dX10_refusalOfSearch_18 lf_RX10_331 rfl g2 ?_
    refine x_icmp_ge (tgt := 29) dX10_refusalOfSearch_21 (by decide) (fun hc4 => ?_) (fun hc4 => ?_)
    · rw [if_pos hc4] at h
      refine x_iconst (v := 0) dX10_refusalOfSearch_29 (by decide) ?_
      obtain ⟨hr9, hw9⟩ := Prod.mk.inj (Option.some.inj h)
      subst hw9
      subst hr9
      exact x_iret dX10_refusalOfSearch_30 rfl rfl
    · rw [if_neg hc4] at h
      refine x_bipush (v := -2) dX10_refusalOfSearch_24 (by decide) ?_
      refine x_goto (tgt := 30) dX10_refusalOfSearch_26 (by decide) ?_
      obtain ⟨hr9, hw9⟩ := Prod.mk.inj (Option.some.inj h)
      subst hw9
      subst hr9
      exact x_iret dX10_refusalOfSearch_30 rfl rfl
  · rw [if_pos hc3] at h
    refine x_bipush (v := -3) dX10_refusalOfSearch_10 (by decide) ?_
    obtain ⟨hr9, hw9⟩ := Prod.mk.inj (Option.some.inj h)
    subst hw9
    subst hr9
    exact x_iret dX10_refusalOfSearch_12 rfl rfl
set_option maxRecDepth 20000 in
theorem c_X10_whereabouts (x0 : Nat) (x1 : Int32) (w : xSt) (rE : Int64) (wE : xSt) (h : f_X10_whereabouts x0 x1 w = some (rE, wE)) : xCall yX10_whereabouts cX10_whereabouts 4 (some .long) 2 0 0 [xR x0, xI x1] w (some (xL rE), wE) := by
  refine xCall_of false (by decide) (fun q => nomatch q) (Nat.le_of_ble_eq_true rfl) ?_
  show xX cX10_whereabouts 4 (some .long) RX10 false (xRm 2 0 0) (xZf (some (xL rE), wE) 0 0) 0 [(0, xR x0), (1, xI x1)] [] w 0 0
  unfold f_X10_whereabouts at h
  refine x_aload_n (j := 0) (i := 0) dX10_whereabouts_0 rfl rfl ?_
  obtain ⟨g1, h⟩ := gd_some h
  refine x_getR (ci := 10) (k := 0) dX10_whereabouts_1 lf_RX10_18 rfl g1 ?_
  obtain ⟨g5, h⟩ := gd_some h
  obtain ⟨v2, w3, hc4, h⟩ := bd_s h
  refine x_callVL (ci := 0) dX10_whereabouts_4 ml_RX10_334 mb_X0_open (c_X0_open (wR w x0 0) w v2 w3 hc4) ⟨_, rfl, rfl⟩ g5 [] rfl rfl (Nat.le_of_ble_eq_true rfl) (by decide) (by decide) ?_
  refine x_aload_n (j := 0) (i := 0) dX10_whereabouts_7 rfl rfl ?_
  obtain ⟨g6, h⟩ := gd_some h
  refine x_getR (ci := 10) (k := 1) dX10_whereabouts_8 lf_RX10_29 rfl g6 ?_
  refine x_null dX10_whereabouts_11 ?_
  obtain ⟨g10, h⟩ := gd_some h
  obtain ⟨v7, w8, hc9, h⟩ := bd_s h
  refine x_callVL (ci := 5) dX10_whereabouts_12 ml_RX10_338 mb_X5_covered (c_X5_covered (wR w3 x0 1) 0 w3 v7 w8 hc9) ⟨_, rfl, rfl⟩ g10 [xL v2] rfl rfl (Nat.le_of_ble_eq_true rfl) (by decide) (by decide) ?_
  refine x_ldc2 dX10_whereabouts_15 lc_RX10_342 ?_
  refine x_lxor dX10_whereabouts_18 ?_
  refine x_land dX10_whereabouts_19 ?_
  refine x_lstore_n (i := 2) (lv2 := [(2, xL (v2 &&& (v7 ^^^ (-1 : Int64)))), (0, xR x0), (1, xI x1)]) dX10_whereabouts_20 rfl (by decide) rfl ?_
  refine x_aload_n (j := 1) (i := 0) dX10_whereabouts_21 rfl rfl ?_
  obtain ⟨g11, h⟩ := gd_some h
  refine x_getR (ci := 10) (k := 0) dX10_whereabouts_22 lf_RX10_18 rfl g11 ?_
  refine x_aload_n (j := 1) (i := 0) dX10_whereabouts_25 rfl rfl ?_
  refine x_getR (ci := 10) (k := 8) dX10_whereabouts_26 lf_RX10_76 rfl g11 ?_
  obtain ⟨g12, h⟩ := gd_some h
  refine x_getI (ci := 4) (k := 1) dX10_whereabouts_29 lf_RX10_344 rfl g12 ?_
  obtain ⟨v13, w14, hc15, h⟩ := bd_s h
  refine x_callSL dX10_whereabouts_32 ml_RX10_295 mb_X0_only (c_X0_only (wI w8 (wR w8 x0 8) 1) w8 v13 w14 hc15) [xR (wR w8 x0 0)] rfl rfl (Nat.le_of_ble_eq_true rfl) (by decide) (by decide) ?_
  refine x_lload_n (j := 0) (i := 2) dX10_whereabouts_35 rfl rfl ?_
  refine x_iload_n (j := 2) (i := 1) dX10_whereabouts_36 rfl rfl ?_
  refine x_aload_n (j := 1) (i := 0) dX10_whereabouts_37 rfl rfl ?_
  obtain ⟨g16, h⟩ := gd_some h
  refine x_getR (ci := 10) (k := 8) dX10_whereabouts_38 lf_RX10_76 rfl g16 ?_
  obtain ⟨g17, h⟩ := gd_some h
  refine x_getI (ci := 4) (k := 2) dX10_whereabouts_41 lf_RX10_331 rfl g17 ?_
  refine x_isub dX10_whereabouts_44 ?_
  obtain ⟨g21, h⟩ := gd_some h
  obtain ⟨v18, w19, hc20, h⟩ := bd_s h
  refine x_callVL (ci := 0) dX10_whereabouts_45 ml_RX10_347 mb_X0_spread (c_X0_spread (wR w8 x0 0) v13 (v2 &&& (v7 ^^^ (-1 : Int64))) (x1 - (wI w14 (wR w14 x0 8) 2)) w14 v18 w19 hc20) ⟨_, rfl, rfl⟩ g21 [] rfl rfl (Nat.le_of_ble_eq_true rfl) (by decide) (by decide) ?_
  obtain ⟨hr9, hw9⟩ := Prod.mk.inj (Option.some.inj h)
  subst hw9
  subst hr9
  exact x_lret dX10_whereabouts_48 rfl rfl
set_option maxRecDepth 20000 in
theorem c_X10_canBe (x0 : Nat) (x1 : Int32) (x2 : Int32) (w : xSt) (rE : Int32) (wE : xSt) (h : f_X10_canBe x0 x1 x2 w = some (rE, wE)) : xCall yX10_canBe cX10_canBe 4 (some .int) 3 0 0 [xR x0, xI x1, xI x2] w (some (xI rE), wE) := by
  refine xCall_of false (by decide) (fun q => nomatch q) (Nat.le_of_ble_eq_true rfl) ?_
  show xX cX10_canBe 4 (some .int) RX10 false (xRm 3 0 0) (xZf (some (xI rE), wE) 0 0) 0 [(0, xR x0), (1, xI x1), (2, xI x2)] [] w 0 0
  unfold f_X10_canBe at h
  refine x_aload_n (j := 0) (i := 0) dX10_canBe_0 rfl rfl ?_
  obtain ⟨g1, h⟩ := gd_some h
  refine x_getR (ci := 10) (k := 0) dX10_canBe_1 lf_RX10_18 rfl g1 ?_
  refine x_iload_n (j := 1) (i := 1) dX10_canBe_4 rfl rfl ?_
  obtain ⟨g5, h⟩ := gd_some h
  obtain ⟨v2, w3, hc4, h⟩ := bd_s h
  refine x_callVI (ci := 0) dX10_canBe_5 ml_RX10_84 mb_X0_has (c_X0_has (wR w x0 0) x1 w v2 w3 hc4) ⟨_, rfl, rfl⟩ g5 [] rfl rfl (Nat.le_of_ble_eq_true rfl) (by decide) (by decide) ?_
  refine x_if_ne (tgt := 13) dX10_canBe_8 (by decide) (fun hc6 => ?_) (fun hc6 => ?_)
  · rw [if_neg hc6] at h
    refine x_aload_n (j := 0) (i := 0) dX10_canBe_13 rfl rfl ?_
    refine x_iload_n (j := 2) (i := 2) dX10_canBe_14 rfl rfl ?_
    obtain ⟨g10, h⟩ := gd_some h
    obtain ⟨v7, w8, hc9, h⟩ := bd_s h
    refine x_callVI (ci := 10) dX10_canBe_15 ml_RX10_288 mb_X10_refusalOfSearch (c_X10_refusalOfSearch x0 x2 w3 v7 w8 hc9) ⟨_, rfl, rfl⟩ g10 [] rfl rfl (Nat.le_of_ble_eq_true rfl) (by decide) (by decide) ?_
    refine x_istore_n (i := 3) (lv2 := [(3, xI v7), (0, xR x0), (1, xI x1), (2, xI x2)]) dX10_canBe_18 rfl (by decide) rfl ?_
    refine x_iload_n (j := 0) (i := 3) dX10_canBe_19 rfl rfl ?_
    refine x_if_eq (tgt := 25) dX10_canBe_20 (by decide) (fun hc11 => ?_) (fun hc11 => ?_)
    · rw [if_pos hc11] at h
      refine x_aload_n (j := 1) (i := 0) dX10_canBe_25 rfl rfl ?_
      refine x_iload_n (j := 3) (i := 2) dX10_canBe_26 rfl rfl ?_
      obtain ⟨g15, h⟩ := gd_some h
      obtain ⟨v12, w13, hc14, h⟩ := bd_s h
      refine x_callVL (ci := 10) dX10_canBe_27 ml_RX10_291 mb_X10_whereabouts (c_X10_whereabouts x0 x2 w8 v12 w13 hc14) ⟨_, rfl, rfl⟩ g15 [] rfl rfl (Nat.le_of_ble_eq_true rfl) (by decide) (by decide) ?_
      refine x_iload_n (j := 2) (i := 1) dX10_canBe_30 rfl rfl ?_
      obtain ⟨v16, w17, hc18, h⟩ := bd_s h
      refine x_callSL dX10_canBe_31 ml_RX10_295 mb_X0_only (c_X0_only x1 w13 v16 w17 hc18) [xL v12] rfl rfl (Nat.le_of_ble_eq_true rfl) (by decide) (by decide) ?_
      refine x_land dX10_canBe_34 ?_
      refine x_lconst (v := 0) dX10_canBe_35 (by decide) ?_
      refine x_lcmp dX10_canBe_36 ?_
      refine x_if_eq (tgt := 44) dX10_canBe_37 (by decide) (fun hc19 => ?_) (fun hc19 => ?_)
      · rw [if_pos hc19] at h
        refine x_iconst (v := 0) dX10_canBe_44 (by decide) ?_
        obtain ⟨hr9, hw9⟩ := Prod.mk.inj (Option.some.inj h)
        subst hw9
        subst hr9
        exact x_iret dX10_canBe_45 rfl rfl
      · rw [if_neg hc19] at h
        refine x_iconst (v := 1) dX10_canBe_40 (by decide) ?_
        refine x_goto (tgt := 45) dX10_canBe_41 (by decide) ?_
        obtain ⟨hr9, hw9⟩ := Prod.mk.inj (Option.some.inj h)
        subst hw9
        subst hr9
        exact x_iret dX10_canBe_45 rfl rfl
    · rw [if_neg hc11] at h
      refine x_iload_n (j := 0) (i := 3) dX10_canBe_23 rfl rfl ?_
      obtain ⟨hr9, hw9⟩ := Prod.mk.inj (Option.some.inj h)
      subst hw9
      subst hr9
      exact x_iret dX10_canBe_24 rfl rfl
  · rw [if_pos hc6] at h
    refine x_iconst (v := -1) dX10_canBe_11 (by decide) ?_
    obtain ⟨hr9, hw9⟩ := Prod.mk.inj (Option.some.inj h)
    subst hw9
    subst hr9
    exact x_iret dX10_canBe_12 rfl rfl
