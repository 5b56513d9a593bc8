set_option maxRecDepth 20000 in
theorem c_X10_isLand (x0 : Int32) (w : xSt) (rE : Int32) (wE : xSt) (h : f_X10_isLand x0 w = some (rE, wE)) : xCall yX10_isLand cX10_isLand 1 (some .boolean) 1 0 0 [xI x0] w (some (xI rE), wE) := by
  refine xCall_of false (by decide) (fun q => nomatch q) (Nat.le_of_ble_eq_true rfl) ?_
  show xX cX10_isLand 1 (some .boolean) RX10 false (xRm 1 0 0) (xZf (some (xI rE), wE) 0 0) 0 [(0, xI x0)] [] w 0 0
  unfold f_X10_isLand at h
  refine x_iload_n (j := 0) (i := 0) dX10_isLand_0 rfl rfl ?_
  refine x_iconst (v := 0) dX10_isLand_1 (by decide) ?_
  refine x_bipush (v := 7) dX10_isLand_2 (by decide) ?_
  obtain ⟨v1, w2, hc3, h⟩ := bd_s h
  refine x_callSI dX10_isLand_4 ml_RX10_88 mb_X10_within (c_X10_within x0 (0 : Int32) (7 : Int32) w v1 w2 hc3) [] rfl rfl (Nat.le_of_ble_eq_true rfl) (by decide) (by decide) ?_
  obtain ⟨g4, h⟩ := gd_some h
  obtain ⟨hr9, hw9⟩ := Prod.mk.inj (Option.some.inj h)
  subst hw9
  subst hr9
  exact x_zret dX10_isLand_7 rfl g4 rfl
set_option maxRecDepth 20000 in
theorem c_X10_isClass (x0 : Int32) (w : xSt) (rE : Int32) (wE : xSt) (h : f_X10_isClass x0 w = some (rE, wE)) : xCall yX10_isClass cX10_isClass 1 (some .boolean) 1 0 0 [xI x0] w (some (xI rE), wE) := by
  refine xCall_of false (by decide) (fun q => nomatch q) (Nat.le_of_ble_eq_true rfl) ?_
  show xX cX10_isClass 1 (some .boolean) RX10 false (xRm 1 0 0) (xZf (some (xI rE), wE) 0 0) 0 [(0, xI x0)] [] w 0 0
  unfold f_X10_isClass at h
  refine x_iload_n (j := 0) (i := 0) dX10_isClass_0 rfl rfl ?_
  refine x_iconst (v := 0) dX10_isClass_1 (by decide) ?_
  refine x_bipush (v := 9) dX10_isClass_2 (by decide) ?_
  obtain ⟨v1, w2, hc3, h⟩ := bd_s h
  refine x_callSI dX10_isClass_4 ml_RX10_88 mb_X10_within (c_X10_within x0 (0 : Int32) (9 : Int32) w v1 w2 hc3) [] rfl rfl (Nat.le_of_ble_eq_true rfl) (by decide) (by decide) ?_
  obtain ⟨g4, h⟩ := gd_some h
  obtain ⟨hr9, hw9⟩ := Prod.mk.inj (Option.some.inj h)
  subst hw9
  subst hr9
  exact x_zret dX10_isClass_7 rfl g4 rfl
set_option maxRecDepth 20000 in
theorem c_X10_stand (x0 : Nat) (x1 : Int32) (x2 : Int32) (x3 : Int32) (x4 : Int32) (x5 : Int32) (x6 : Int32) (w : xSt) (rE : Int32) (wE : xSt) (h : f_X10_stand x0 x1 x2 x3 x4 x5 x6 w = some (rE, wE)) : xCall yX10_stand cX10_stand 7 (some .int) 2 1 11 [xR x0, xI x1, xI x2, xI x3, xI x4, xI x5, xI x6] w (some (xI rE), wE) := by
  refine xCall_of false (by decide) (fun q => nomatch q) (Nat.le_of_ble_eq_true rfl) ?_
  show xX cX10_stand 7 (some .int) RX10 false (xRm 2 1 11) (xZf (some (xI rE), wE) 1 11) 0 [(0, xR x0), (1, xI x1), (2, xI x2), (3, xI x3), (4, xI x4), (5, xI x5), (6, xI x6)] [] w 1 11
  unfold f_X10_stand at h
  refine x_iload_n (j := 1) (i := 1) dX10_stand_0 rfl rfl ?_
  refine x_iconst (v := 0) dX10_stand_1 (by decide) ?_
  refine x_iconst (v := 4) dX10_stand_2 (by decide) ?_
  obtain ⟨v1, w2, hc3, h⟩ := bd_s h
  refine x_callSI dX10_stand_3 ml_RX10_88 mb_X10_within (c_X10_within x1 (0 : Int32) (4 : Int32) w v1 w2 hc3) [] rfl rfl (Nat.le_of_ble_eq_true rfl) (by decide) (by decide) ?_
  refine x_if_eq (tgt := 54) dX10_stand_6 (by decide) (fun hc4 => ?_) (fun hc4 => ?_)
  · rw [if_pos hc4] at h
    refine x_bipush (v := -2) dX10_stand_54 (by decide) ?_
    obtain ⟨hr9, hw9⟩ := Prod.mk.inj (Option.some.inj h)
    subst hw9
    subst hr9
    exact x_iret dX10_stand_56 rfl rfl
  · rw [if_neg hc4] at h
    refine x_iload_n (j := 2) (i := 2) dX10_stand_9 rfl rfl ?_
    obtain ⟨v5, w6, hc7, h⟩ := bd_s h
    refine x_callSI dX10_stand_10 ml_RX10_115 mb_X10_isLand (c_X10_isLand x2 w2 v5 w6 hc7) [] rfl rfl (Nat.le_of_ble_eq_true rfl) (by decide) (by decide) ?_
    refine x_if_eq (tgt := 54) dX10_stand_13 (by decide) (fun hc8 => ?_) (fun hc8 => ?_)
    · rw [if_pos hc8] at h
      refine x_bipush (v := -2) dX10_stand_54 (by decide) ?_
      obtain ⟨hr9, hw9⟩ := Prod.mk.inj (Option.some.inj h)
      subst hw9
      subst hr9
      exact x_iret dX10_stand_56 rfl rfl
    · rw [if_neg hc8] at h
      refine x_iload_n (j := 3) (i := 3) dX10_stand_16 rfl rfl ?_
      obtain ⟨v9, w10, hc11, h⟩ := bd_s h
      refine x_callSI dX10_stand_17 ml_RX10_118 mb_X10_isClass (c_X10_isClass x3 w6 v9 w10 hc11) [] rfl rfl (Nat.le_of_ble_eq_true rfl) (by decide) (by decide) ?_
      refine x_if_eq (tgt := 54) dX10_stand_20 (by decide) (fun hc12 => ?_) (fun hc12 => ?_)
      · rw [if_pos hc12] at h
        refine x_bipush (v := -2) dX10_stand_54 (by decide) ?_
        obtain ⟨hr9, hw9⟩ := Prod.mk.inj (Option.some.inj h)
        subst hw9
        subst hr9
        exact x_iret dX10_stand_56 rfl rfl
      · rw [if_neg hc12] at h
        refine x_iload (j := 4) (i := 4) dX10_stand_23 rfl ?_
        refine x_iconst (v := 1) dX10_stand_25 (by decide) ?_
        refine x_iconst (v := 4) dX10_stand_26 (by decide) ?_
        obtain ⟨v13, w14, hc15, h⟩ := bd_s h
        refine x_callSI dX10_stand_27 ml_RX10_88 mb_X10_within (c_X10_within x4 (1 : Int32) (4 : Int32) w10 v13 w14 hc15) [] rfl rfl (Nat.le_of_ble_eq_true rfl) (by decide) (by decide) ?_
        refine x_if_eq (tgt := 54) dX10_stand_30 (by decide) (fun hc16 => ?_) (fun hc16 => ?_)
        · rw [if_pos hc16] at h
          refine x_bipush (v := -2) dX10_stand_54 (by decide) ?_
          obtain ⟨hr9, hw9⟩ := Prod.mk.inj (Option.some.inj h)
          subst hw9
          subst hr9
          exact x_iret dX10_stand_56 rfl rfl
        · rw [if_neg hc16] at h
          refine x_iload (j := 5) (i := 5) dX10_stand_33 rfl ?_
          refine x_iconst (v := 1) dX10_stand_35 (by decide) ?_
          refine x_iconst (v := 4) dX10_stand_36 (by decide) ?_
          obtain ⟨v17, w18, hc19, h⟩ := bd_s h
          refine x_callSI dX10_stand_37 ml_RX10_88 mb_X10_within (c_X10_within x5 (1 : Int32) (4 : Int32) w14 v17 w18 hc19) [] rfl rfl (Nat.le_of_ble_eq_true rfl) (by decide) (by decide) ?_
          refine x_if_eq (tgt := 54) dX10_stand_40 (by decide) (fun hc20 => ?_) (fun hc20 => ?_)
          · rw [if_pos hc20] at h
            refine x_bipush (v := -2) dX10_stand_54 (by decide) ?_
            obtain ⟨hr9, hw9⟩ := Prod.mk.inj (Option.some.inj h)
            subst hw9
            subst hr9
            exact x_iret dX10_stand_56 rfl rfl
          · rw [if_neg hc20] at h
            refine x_iload (j := 6) (i := 6) dX10_stand_43 rfl ?_
            refine x_iconst (v := 0) dX10_stand_45 (by decide) ?_
            refine x_bipush (v := 99) dX10_stand_46 (by decide) ?_
            obtain ⟨v21, w22, hc23, h⟩ := bd_s h
            refine x_callSI dX10_stand_48 ml_RX10_88 mb_X10_within (c_X10_within x6 (0 : Int32) (99 : Int32) w18 v21 w22 hc23) [] rfl rfl (Nat.le_of_ble_eq_true rfl) (by decide) (by decide) ?_
            refine x_if_ne (tgt := 57) dX10_stand_51 (by decide) (fun hc24 => ?_) (fun hc24 => ?_)
            · rw [if_neg hc24] at h
              refine x_aload_n (j := 0) (i := 0) dX10_stand_57 rfl rfl ?_
              obtain ⟨g25, h⟩ := gd_some h
              refine x_getR (ci := 10) (k := 1) dX10_stand_58 lf_RX10_29 rfl g25 ?_
              obtain ⟨g26, h⟩ := gd_some h
              refine x_getI (ci := 5) (k := 2) dX10_stand_61 lf_RX10_121 rfl g26 ?_
              refine x_bipush (v := 9) dX10_stand_64 (by decide) ?_
              refine x_icmp_lt (tgt := 72) dX10_stand_66 (by decide) (fun hc27 => ?_) (fun hc27 => ?_)
              · rw [if_pos hc27] at h
                refine x_aload_n (j := 0) (i := 0) dX10_stand_72 rfl rfl ?_
                refine x_getR (ci := 10) (k := 1) dX10_stand_73 lf_RX10_29 rfl g25 ?_
                obtain ⟨g28, h⟩ := gd_some h
                obtain ⟨q29, hq30, h⟩ := lt1_some h
                obtain ⟨w31, hw32, h⟩ := lt1_some h
                refine x_new (ci := 6) dX10_stand_76 rfl lk_RX10_113 li_RX6 lz_RX6 g28 (by decide) (by decide) ?_
                rw [← hq30, ← hw32]
                have g33 : isC w31 q29 6 := by rw [hw32, hq30]; exact isC_new _ _ _
                refine x_dup dX10_stand_79 rfl ?_
                refine x_iload_n (j := 1) (i := 1) dX10_stand_80 rfl rfl ?_
                refine x_iload_n (j := 2) (i := 2) dX10_stand_81 rfl rfl ?_
                refine x_iload_n (j := 3) (i := 3) dX10_stand_82 rfl rfl ?_
                refine x_iload (j := 4) (i := 4) dX10_stand_83 rfl ?_
                refine x_iload (j := 5) (i := 5) dX10_stand_85 rfl ?_
                refine x_iload (j := 6) (i := 6) dX10_stand_87 rfl ?_
                obtain ⟨_u, w34, hc35, h⟩ := bd_s h
                refine x_callIV (ci := 6) dX10_stand_89 ml_RX10_124 mb_X6_init (c_X6_init q29 x1 x2 x3 x4 x5 x6 w31 _u w34 hc35) g33 [xR q29, xR (wR w22 x0 1)] rfl rfl (Nat.le_of_ble_eq_true rfl) (by decide) (by decide) ?_
                obtain ⟨g39, h⟩ := gd_some h
                obtain ⟨v36, w37, hc38, h⟩ := bd_s h
                refine x_callVI (ci := 5) dX10_stand_92 ml_RX10_127 mb_X5_add (c_X5_add (wR w22 x0 1) q29 w34 v36 w37 hc38) ⟨_, rfl, rfl⟩ g39 [] rfl rfl (Nat.le_of_ble_eq_true rfl) (by decide) (by decide) ?_
                obtain ⟨hr9, hw9⟩ := Prod.mk.inj (Option.some.inj h)
                subst hw9
                subst hr9
                exact x_iret dX10_stand_95 rfl rfl
              · rw [if_neg hc27] at h
                refine x_bipush (v := -4) dX10_stand_69 (by decide) ?_
                obtain ⟨hr9, hw9⟩ := Prod.mk.inj (Option.some.inj h)
                subst hw9
                subst hr9
                exact x_iret dX10_stand_71 rfl rfl
            · rw [if_pos hc24] at h
              refine x_bipush (v := -2) dX10_stand_54 (by decide) ?_
              obtain ⟨hr9, hw9⟩ := Prod.mk.inj (Option.some.inj h)
              subst hw9
              subst hr9
              exact x_iret dX10_stand_56 rfl rfl
set_option maxRecDepth 20000 in
theorem c_X10_hinders (x0 : Nat) (x1 : Int32) (x2 : Int32) (w : xSt) (rE : Int32) (wE : xSt) (h : f_X10_hinders x0 x1 x2 w = some (rE, wE)) : xCall yX10_hinders cX10_hinders 4 (some .int) 4 0 0 [xR x0, xI x1, xI x2] w (some (xI rE), wE) := by
  refine xCall_of false (by decide) (fun q => nomatch q) (Nat.le_of_ble_eq_true rfl) ?_
  show xX cX10_hinders 4 (some .int) RX10 false (xRm 4 0 0) (xZf (some (xI rE), wE) 0 0) 0 [(0, xR x0), (1, xI x1), (2, xI x2)] [] w 0 0
  unfold f_X10_hinders at h
  refine x_aload_n (j := 0) (i := 0) dX10_hinders_0 rfl rfl ?_
  obtain ⟨g1, h⟩ := gd_some h
  refine x_getR (ci := 10) (k := 1) dX10_hinders_1 lf_RX10_29 rfl g1 ?_
  refine x_iload_n (j := 1) (i := 1) dX10_hinders_4 rfl rfl ?_
  obtain ⟨g5, h⟩ := gd_some h
  obtain ⟨v2, w3, hc4, h⟩ := bd_s h
  refine x_callVR (ci := 5) dX10_hinders_5 ml_RX10_131 mb_X5_find (c_X5_find (wR w x0 1) x1 w v2 w3 hc4) ⟨_, rfl, rfl⟩ g5 [] rfl rfl (Nat.le_of_ble_eq_true rfl) (by decide) (by decide) ?_
  refine x_astore_n (i := 3) (lv2 := [(3, xR v2), (0, xR x0), (1, xI x1), (2, xI x2)]) dX10_hinders_8 rfl (by decide) rfl ?_
  refine x_aload_n (j := 0) (i := 3) dX10_hinders_9 rfl rfl ?_
  obtain ⟨g6, h⟩ := gd_some h
  refine x_ifnull (tgt := 24) dX10_hinders_10 (by decide) g6 (fun hc7 => ?_) (fun hc7 => ?_)
  · rw [if_pos hc7] at h
    refine x_iconst (v := -1) dX10_hinders_24 (by decide) ?_
    obtain ⟨hr9, hw9⟩ := Prod.mk.inj (Option.some.inj h)
    subst hw9
    subst hr9
    exact x_iret dX10_hinders_25 rfl rfl
  · rw [if_neg hc7] at h
    refine x_aload_n (j := 1) (i := 0) dX10_hinders_13 rfl rfl ?_
    obtain ⟨g8, h⟩ := gd_some h
    refine x_getR (ci := 10) (k := 0) dX10_hinders_14 lf_RX10_18 rfl g8 ?_
    refine x_iload_n (j := 3) (i := 2) dX10_hinders_17 rfl rfl ?_
    obtain ⟨g12, h⟩ := gd_some h
    obtain ⟨v9, w10, hc11, h⟩ := bd_s h
    refine x_callVI (ci := 0) dX10_hinders_18 ml_RX10_84 mb_X0_has (c_X0_has (wR w3 x0 0) x2 w3 v9 w10 hc11) ⟨_, rfl, rfl⟩ g12 [] rfl rfl (Nat.le_of_ble_eq_true rfl) (by decide) (by decide) ?_
    refine x_if_ne (tgt := 26) dX10_hinders_21 (by decide) (fun hc13 => ?_) (fun hc13 => ?_)
    · rw [if_neg hc13] at h
      refine x_aload_n (j := 1) (i := 0) dX10_hinders_26 rfl rfl ?_
      obtain ⟨g14, h⟩ := gd_some h
      refine x_getR (ci := 10) (k := 1) dX10_hinders_27 lf_RX10_29 rfl g14 ?_
      refine x_aload_n (j := 0) (i := 3) dX10_hinders_30 rfl rfl ?_
      refine x_iload_n (j := 3) (i := 2) dX10_hinders_31 rfl rfl ?_
      obtain ⟨g18, h⟩ := gd_some h
      obtain ⟨v15, w16, hc17, h⟩ := bd_s h
      refine x_callVI (ci := 5) dX10_hinders_32 ml_RX10_135 mb_X5_hindrance (c_X5_hindrance (wR w10 x0 1) v2 x2 w10 v15 w16 hc17) ⟨_, rfl, rfl⟩ g18 [] rfl rfl (Nat.le_of_ble_eq_true rfl) (by decide) (by decide) ?_
      obtain ⟨hr9, hw9⟩ := Prod.mk.inj (Option.some.inj h)
      subst hw9
      subst hr9
      exact x_iret dX10_hinders_35 rfl rfl
    · rw [if_pos hc13] at h
      refine x_iconst (v := -1) dX10_hinders_24 (by decide) ?_
      obtain ⟨hr9, hw9⟩ := Prod.mk.inj (Option.some.inj h)
      subst hw9
      subst hr9
      exact x_iret dX10_hinders_25 rfl rfl
set_option maxRecDepth 20000 in
theorem c_X10_lay (x0 : Nat) (x1 : Int32) (x2 : Int32) (w : xSt) (rE : Int32) (wE : xSt) (h : f_X10_lay x0 x1 x2 w = some (rE, wE)) : xCall yX10_lay cX10_lay 5 (some .int) 4 0 0 [xR x0, xI x1, xI x2] w (some (xI rE), wE) := by
  refine xCall_of false (by decide) (fun q => nomatch q) (Nat.le_of_ble_eq_true rfl) ?_
  show xX cX10_lay 5 (some .int) RX10 false (xRm 4 0 0) (xZf (some (xI rE), wE) 0 0) 0 [(0, xR x0), (1, xI x1), (2, xI x2)] [] w 0 0
  unfold f_X10_lay at h
  refine x_aload_n (j := 0) (i := 0) dX10_lay_0 rfl rfl ?_
  obtain ⟨g1, h⟩ := gd_some h
  refine x_getR (ci := 10) (k := 1) dX10_lay_1 lf_RX10_29 rfl g1 ?_
  refine x_iload_n (j := 1) (i := 1) dX10_lay_4 rfl rfl ?_
  obtain ⟨g5, h⟩ := gd_some h
  obtain ⟨v2, w3, hc4, h⟩ := bd_s h
  refine x_callVR (ci := 5) dX10_lay_5 ml_RX10_131 mb_X5_find (c_X5_find (wR w x0 1) x1 w v2 w3 hc4) ⟨_, rfl, rfl⟩ g5 [] rfl rfl (Nat.le_of_ble_eq_true rfl) (by decide) (by decide) ?_
  refine x_astore_n (i := 3) (lv2 := [(3, xR v2), (0, xR x0), (1, xI x1), (2, xI x2)]) dX10_lay_8 rfl (by decide) rfl ?_
  refine x_aload_n (j := 0) (i := 3) dX10_lay_9 rfl rfl ?_
  obtain ⟨g6, h⟩ := gd_some h
  refine x_ifnull (tgt := 24) dX10_lay_10 (by decide) g6 (fun hc7 => ?_) (fun hc7 => ?_)
  · rw [if_pos hc7] at h
    refine x_iconst (v := -1) dX10_lay_24 (by decide) ?_
    obtain ⟨hr9, hw9⟩ := Prod.mk.inj (Option.some.inj h)
    subst hw9
    subst hr9
    exact x_iret dX10_lay_25 rfl rfl
  · rw [if_neg hc7] at h
    refine x_aload_n (j := 1) (i := 0) dX10_lay_13 rfl rfl ?_
    obtain ⟨g8, h⟩ := gd_some h
    refine x_getR (ci := 10) (k := 0) dX10_lay_14 lf_RX10_18 rfl g8 ?_
    refine x_iload_n (j := 3) (i := 2) dX10_lay_17 rfl rfl ?_
    obtain ⟨g12, h⟩ := gd_some h
    obtain ⟨v9, w10, hc11, h⟩ := bd_s h
    refine x_callVI (ci := 0) dX10_lay_18 ml_RX10_84 mb_X0_has (c_X0_has (wR w3 x0 0) x2 w3 v9 w10 hc11) ⟨_, rfl, rfl⟩ g12 [] rfl rfl (Nat.le_of_ble_eq_true rfl) (by decide) (by decide) ?_
    refine x_if_ne (tgt := 26) dX10_lay_21 (by decide) (fun hc13 => ?_) (fun hc13 => ?_)
    · rw [if_neg hc13] at h
      refine x_aload_n (j := 0) (i := 3) dX10_lay_26 rfl rfl ?_
      obtain ⟨g14, h⟩ := gd_some h
      refine x_getI (ci := 6) (k := 8) dX10_lay_27 lf_RX10_139 rfl g14 ?_
      refine x_if_eq (tgt := 36) dX10_lay_30 (by decide) (fun hc15 => ?_) (fun hc15 => ?_)
      · rw [if_pos hc15] at h
        refine x_aload_n (j := 1) (i := 0) dX10_lay_36 rfl rfl ?_
        obtain ⟨g16, h⟩ := gd_some h
        refine x_getR (ci := 10) (k := 1) dX10_lay_37 lf_RX10_29 rfl g16 ?_
        refine x_aload_n (j := 0) (i := 3) dX10_lay_40 rfl rfl ?_
        refine x_iload_n (j := 3) (i := 2) dX10_lay_41 rfl rfl ?_
        obtain ⟨g20, h⟩ := gd_some h
        obtain ⟨v17, w18, hc19, h⟩ := bd_s h
        refine x_callVI (ci := 5) dX10_lay_42 ml_RX10_135 mb_X5_hindrance (c_X5_hindrance (wR w10 x0 1) v2 x2 w10 v17 w18 hc19) ⟨_, rfl, rfl⟩ g20 [] rfl rfl (Nat.le_of_ble_eq_true rfl) (by decide) (by decide) ?_
        refine x_istore (i := 4) (lv2 := [(4, xI v17), (3, xR v2), (0, xR x0), (1, xI x1), (2, xI x2)]) dX10_lay_45 (by decide) rfl ?_
        refine x_iload (j := 0) (i := 4) dX10_lay_47 rfl ?_
        refine x_if_ne (tgt := 61) dX10_lay_49 (by decide) (fun hc21 => ?_) (fun hc21 => ?_)
        · rw [if_neg hc21] at h
          refine x_iload (j := 0) (i := 4) dX10_lay_61 rfl ?_
          obtain ⟨hr9, hw9⟩ := Prod.mk.inj (Option.some.inj h)
          subst hw9
          subst hr9
          exact x_iret dX10_lay_63 rfl rfl
        · rw [if_pos hc21] at h
          refine x_aload_n (j := 2) (i := 0) dX10_lay_52 rfl rfl ?_
          obtain ⟨g22, h⟩ := gd_some h
          refine x_getR (ci := 10) (k := 1) dX10_lay_53 lf_RX10_29 rfl g22 ?_
          refine x_aload_n (j := 1) (i := 3) dX10_lay_56 rfl rfl ?_
          refine x_iload_n (j := 4) (i := 2) dX10_lay_57 rfl rfl ?_
          obtain ⟨g25, h⟩ := gd_some h
          obtain ⟨_u, w23, hc24, h⟩ := bd_s h
          refine x_callVV (ci := 5) dX10_lay_58 ml_RX10_143 mb_X5_put (c_X5_put (wR w18 x0 1) v2 x2 w18 _u w23 hc24) ⟨_, rfl, rfl⟩ g25 [] rfl rfl (Nat.le_of_ble_eq_true rfl) (by decide) (by decide) ?_
          refine x_iload (j := 0) (i := 4) dX10_lay_61 rfl ?_
          obtain ⟨hr9, hw9⟩ := Prod.mk.inj (Option.some.inj h)
          subst hw9
          subst hr9
          exact x_iret dX10_lay_63 rfl rfl
      · rw [if_neg hc15] at h
        refine x_bipush (v := -3) dX10_lay_33 (by decide) ?_
        obtain ⟨hr9, hw9⟩ := Prod.mk.inj (Option.some.inj h)
        subst hw9
        subst hr9
        exact x_iret dX10_lay_35 rfl rfl
    · rw [if_pos hc13] at h
      refine x_iconst (v := -1) dX10_lay_24 (by decide) ?_
      obtain ⟨hr9, hw9⟩ := Prod.mk.inj (Option.some.inj h)
      subst hw9
      subst hr9
      exact x_iret dX10_lay_25 rfl rfl
set_option maxRecDepth 20000 in
theorem c_X10_take (x0 : Nat) (x1 : Int32) (w : xSt) (rE : Int32) (wE : xSt) (h : f_X10_take x0 x1 w = some (rE, wE)) : xCall yX10_take cX10_take 4 (some .int) 1 0 0 [xR x0, xI x1] w (some (xI rE), wE) := by
  refine xCall_of false (by decide) (fun q => nomatch q) (Nat.le_of_ble_eq_true rfl) ?_
  show xX cX10_take 4 (some .int) RX10 false (xRm 1 0 0) (xZf (some (xI rE), wE) 0 0) 0 [(0, xR x0), (1, xI x1)] [] w 0 0
  unfold f_X10_take at h
  refine x_aload_n (j := 0) (i := 0) dX10_take_0 rfl rfl ?_
  obtain ⟨g1, h⟩ := gd_some h
  refine x_getR (ci := 10) (k := 1) dX10_take_1 lf_RX10_29 rfl g1 ?_
  refine x_iload_n (j := 1) (i := 1) dX10_take_4 rfl rfl ?_
  obtain ⟨g5, h⟩ := gd_some h
  obtain ⟨v2, w3, hc4, h⟩ := bd_s h
  refine x_callVR (ci := 5) dX10_take_5 ml_RX10_131 mb_X5_find (c_X5_find (wR w x0 1) x1 w v2 w3 hc4) ⟨_, rfl, rfl⟩ g5 [] rfl rfl (Nat.le_of_ble_eq_true rfl) (by decide) (by decide) ?_
  refine x_astore_n (i := 2) (lv2 := [(2, xR v2), (0, xR x0), (1, xI x1)]) dX10_take_8 rfl (by decide) rfl ?_
  refine x_aload_n (j := 0) (i := 2) dX10_take_9 rfl rfl ?_
  obtain ⟨g6, h⟩ := gd_some h
  refine x_ifnull (tgt := 20) dX10_take_10 (by decide) g6 (fun hc7 => ?_) (fun hc7 => ?_)
  · rw [if_pos hc7] at h
    refine x_iconst (v := -1) dX10_take_20 (by decide) ?_
    obtain ⟨hr9, hw9⟩ := Prod.mk.inj (Option.some.inj h)
    subst hw9
    subst hr9
    exact x_iret dX10_take_21 rfl rfl
  · rw [if_neg hc7] at h
    refine x_aload_n (j := 0) (i := 2) dX10_take_13 rfl rfl ?_
    obtain ⟨g11, h⟩ := gd_some h
    obtain ⟨v8, w9, hc10, h⟩ := bd_s h
    refine x_callVI (ci := 6) dX10_take_14 ml_RX10_147 mb_X6_isLaid (c_X6_isLaid v2 w3 v8 w9 hc10) ⟨_, rfl, rfl⟩ g11 [] rfl rfl (Nat.le_of_ble_eq_true rfl) (by decide) (by decide) ?_
    refine x_if_ne (tgt := 22) dX10_take_17 (by decide) (fun hc12 => ?_) (fun hc12 => ?_)
    · rw [if_neg hc12] at h
      refine x_aload_n (j := 0) (i := 2) dX10_take_22 rfl rfl ?_
      obtain ⟨g13, h⟩ := gd_some h
      refine x_getI (ci := 6) (k := 8) dX10_take_23 lf_RX10_139 rfl g13 ?_
      refine x_if_eq (tgt := 32) dX10_take_26 (by decide) (fun hc14 => ?_) (fun hc14 => ?_)
      · rw [if_pos hc14] at h
        refine x_aload_n (j := 0) (i := 2) dX10_take_32 rfl rfl ?_
        refine x_getI (ci := 6) (k := 6) dX10_take_33 lf_RX10_151 rfl g13 ?_
        refine x_istore_n (i := 3) (lv2 := [(3, xI (wI w9 v2 6)), (2, xR v2), (0, xR x0), (1, xI x1)]) dX10_take_36 rfl (by decide) rfl ?_
        refine x_aload_n (j := 1) (i := 2) dX10_take_37 rfl rfl ?_
        obtain ⟨_u, w15, hc16, h⟩ := bd_s h
        refine x_callVV (ci := 6) dX10_take_38 ml_RX10_154 mb_X6_lift (c_X6_lift v2 w9 _u w15 hc16) ⟨_, rfl, rfl⟩ g13 [] rfl rfl (Nat.le_of_ble_eq_true rfl) (by decide) (by decide) ?_
        refine x_iload_n (j := 0) (i := 3) dX10_take_41 rfl rfl ?_
        obtain ⟨hr9, hw9⟩ := Prod.mk.inj (Option.some.inj h)
        subst hw9
        subst hr9
        exact x_iret dX10_take_42 rfl rfl
      · rw [if_neg hc14] at h
        refine x_bipush (v := -3) dX10_take_29 (by decide) ?_
        obtain ⟨hr9, hw9⟩ := Prod.mk.inj (Option.some.inj h)
        subst hw9
        subst hr9
        exact x_iret dX10_take_31 rfl rfl
    · rw [if_pos hc12] at h
      refine x_iconst (v := -1) dX10_take_20 (by decide) ?_
      obtain ⟨hr9, hw9⟩ := Prod.mk.inj (Option.some.inj h)
      subst hw9
      subst hr9
      exact x_iret dX10_take_21 rfl rfl
set_option maxRecDepth 20000 in
theorem c_X10_about (x0 : Nat) (x1 : Int32) (x2 : Int32) (w : xSt) (rE : Int32) (wE : xSt) (h : f_X10_about x0 x1 x2 w = some (rE, wE)) : xCall yX10_about cX10_about 4 (some .int) 2 0 0 [xR x0, xI x1, xI x2] w (some (xI rE), wE) := by
  refine xCall_of false (by decide) (fun q => nomatch q) (Nat.le_of_ble_eq_true rfl) ?_
  show xX cX10_about 4 (some .int) RX10 false (xRm 2 0 0) (xZf (some (xI rE), wE) 0 0) 0 [(0, xR x0), (1, xI x1), (2, xI x2)] [] w 0 0
  unfold f_X10_about at h
  refine x_aload_n (j := 0) (i := 0) dX10_about_0 rfl rfl ?_
  obtain ⟨g1, h⟩ := gd_some h
  refine x_getR (ci := 10) (k := 1) dX10_about_1 lf_RX10_29 rfl g1 ?_
  refine x_iload_n (j := 1) (i := 1) dX10_about_4 rfl rfl ?_
  obtain ⟨g5, h⟩ := gd_some h
  obtain ⟨v2, w3, hc4, h⟩ := bd_s h
  refine x_callVR (ci := 5) dX10_about_5 ml_RX10_131 mb_X5_find (c_X5_find (wR w x0 1) x1 w v2 w3 hc4) ⟨_, rfl, rfl⟩ g5 [] rfl rfl (Nat.le_of_ble_eq_true rfl) (by decide) (by decide) ?_
  refine x_astore_n (i := 3) (lv2 := [(3, xR v2), (0, xR x0), (1, xI x1), (2, xI x2)]) dX10_about_8 rfl (by decide) rfl ?_
  refine x_aload_n (j := 0) (i := 3) dX10_about_9 rfl rfl ?_
  obtain ⟨g6, h⟩ := gd_some h
  refine x_ifnonnull (tgt := 15) dX10_about_10 (by decide) g6 (fun hc7 => ?_) (fun hc7 => ?_)
  · rw [if_neg hc7] at h
    refine x_iload_n (j := 3) (i := 2) dX10_about_15 rfl rfl ?_
    by_cases hc8 : x2 = (0 : Int32)
    · rw [if_pos hc8] at h
      refine x_tsw (off := 44) (tgt := 60) dX10_about_16 (by rw [hc8]; decide) (by rw [hc8]; decide) (by rw [hc8]; decide) (by decide) ?_
      refine x_aload_n (j := 0) (i := 3) dX10_about_60 rfl rfl ?_
      obtain ⟨g9, h⟩ := gd_some h
      refine x_getI (ci := 6) (k := 0) dX10_about_61 lf_RX10_157 rfl g9 ?_
      obtain ⟨hr9, hw9⟩ := Prod.mk.inj (Option.some.inj h)
      subst hw9
      subst hr9
      exact x_iret dX10_about_64 rfl rfl
    rw [if_neg hc8] at h
    by_cases hc10 : x2 = (1 : Int32)
    · rw [if_pos hc10] at h
      refine x_tsw (off := 49) (tgt := 65) dX10_about_16 (by rw [hc10]; decide) (by rw [hc10]; decide) (by rw [hc10]; decide) (by decide) ?_
      refine x_aload_n (j := 0) (i := 3) dX10_about_65 rfl rfl ?_
      obtain ⟨g11, h⟩ := gd_some h
      refine x_getI (ci := 6) (k := 1) dX10_about_66 lf_RX10_160 rfl g11 ?_
      obtain ⟨hr9, hw9⟩ := Prod.mk.inj (Option.some.inj h)
      subst hw9
      subst hr9
      exact x_iret dX10_about_69 rfl rfl
    rw [if_neg hc10] at h
    by_cases hc12 : x2 = (2 : Int32)
    · rw [if_pos hc12] at h
      refine x_tsw (off := 54) (tgt := 70) dX10_about_16 (by rw [hc12]; decide) (by rw [hc12]; decide) (by rw [hc12]; decide) (by decide) ?_
      refine x_aload_n (j := 0) (i := 3) dX10_about_70 rfl rfl ?_
      obtain ⟨g13, h⟩ := gd_some h
      refine x_getI (ci := 6) (k := 2) dX10_about_71 lf_RX10_163 rfl g13 ?_
      obtain ⟨hr9, hw9⟩ := Prod.mk.inj (Option.some.inj h)
      subst hw9
      subst hr9
      exact x_iret dX10_about_74 rfl rfl
    rw [if_neg hc12] at h
    by_cases hc14 : x2 = (3 : Int32)
    · rw [if_pos hc14] at h
      refine x_tsw (off := 59) (tgt := 75) dX10_about_16 (by rw [hc14]; decide) (by rw [hc14]; decide) (by rw [hc14]; decide) (by decide) ?_
      refine x_aload_n (j := 0) (i := 3) dX10_about_75 rfl rfl ?_
      obtain ⟨g15, h⟩ := gd_some h
      refine x_getI (ci := 6) (k := 6) dX10_about_76 lf_RX10_151 rfl g15 ?_
      obtain ⟨hr9, hw9⟩ := Prod.mk.inj (Option.some.inj h)
      subst hw9
      subst hr9
      exact x_iret dX10_about_79 rfl rfl
    rw [if_neg hc14] at h
    by_cases hc16 : x2 = (4 : Int32)
    · rw [if_pos hc16] at h
      refine x_tsw (off := 64) (tgt := 80) dX10_about_16 (by rw [hc16]; decide) (by rw [hc16]; decide) (by rw [hc16]; decide) (by decide) ?_
      refine x_aload_n (j := 0) (i := 3) dX10_about_80 rfl rfl ?_
      obtain ⟨g17, h⟩ := gd_some h
      refine x_getI (ci := 6) (k := 8) dX10_about_81 lf_RX10_139 rfl g17 ?_
      refine x_if_eq (tgt := 91) dX10_about_84 (by decide) (fun hc18 => ?_) (fun hc18 => ?_)
      · rw [if_pos hc18] at h
        refine x_iconst (v := 0) dX10_about_91 (by decide) ?_
        obtain ⟨hr9, hw9⟩ := Prod.mk.inj (Option.some.inj h)
        subst hw9
        subst hr9
        exact x_iret dX10_about_92 rfl rfl
      · rw [if_neg hc18] at h
        refine x_iconst (v := 1) dX10_about_87 (by decide) ?_
        refine x_goto (tgt := 92) dX10_about_88 (by decide) ?_
        obtain ⟨hr9, hw9⟩ := Prod.mk.inj (Option.some.inj h)
        subst hw9
        subst hr9
        exact x_iret dX10_about_92 rfl rfl
    rw [if_neg hc16] at h
    by_cases hc19 : x2 = (5 : Int32)
    · rw [if_pos hc19] at h
      refine x_tsw (off := 77) (tgt := 93) dX10_about_16 (by rw [hc19]; decide) (by rw [hc19]; decide) (by rw [hc19]; decide) (by decide) ?_
      refine x_aload_n (j := 0) (i := 3) dX10_about_93 rfl rfl ?_
      obtain ⟨g20, h⟩ := gd_some h
      refine x_getI (ci := 6) (k := 9) dX10_about_94 lf_RX10_166 rfl g20 ?_
      obtain ⟨hr9, hw9⟩ := Prod.mk.inj (Option.some.inj h)
      subst hw9
      subst hr9
      exact x_iret dX10_about_97 rfl rfl
    rw [if_neg hc19] at h
    by_cases hc21 : x2 = (6 : Int32)
    · rw [if_pos hc21] at h
      refine x_tsw (off := 82) (tgt := 98) dX10_about_16 (by rw [hc21]; decide) (by rw [hc21]; decide) (by rw [hc21]; decide) (by decide) ?_
      refine x_aload_n (j := 1) (i := 0) dX10_about_98 rfl rfl ?_
      obtain ⟨g22, h⟩ := gd_some h
      refine x_getR (ci := 10) (k := 6) dX10_about_99 lf_RX10_62 rfl g22 ?_
      refine x_iload_n (j := 2) (i := 1) dX10_about_102 rfl rfl ?_
      obtain ⟨g26, h⟩ := gd_some h
      obtain ⟨v23, w24, hc25, h⟩ := bd_s h
      refine x_callVI (ci := 3) dX10_about_103 ml_RX10_169 mb_X3_marksOf (c_X3_marksOf (wR w3 x0 6) x1 w3 v23 w24 hc25) ⟨_, rfl, rfl⟩ g26 [] rfl rfl (Nat.le_of_ble_eq_true rfl) (by decide) (by decide) ?_
      obtain ⟨hr9, hw9⟩ := Prod.mk.inj (Option.some.inj h)
      subst hw9
      subst hr9
      exact x_iret dX10_about_106 rfl rfl
    rw [if_neg hc21] at h
    refine x_tswD (tgt := 107) dX10_about_16 (by have t0 := lv_neT hc8 (by decide : (0 : Int32).toInt = 0); have t1 := lv_neT hc10 (by decide : (1 : Int32).toInt = 1); have t2 := lv_neT hc12 (by decide : (2 : Int32).toInt = 2); have t3 := lv_neT hc14 (by decide : (3 : Int32).toInt = 3); have t4 := lv_neT hc16 (by decide : (4 : Int32).toInt = 4); have t5 := lv_neT hc19 (by decide : (5 : Int32).toInt = 5); have t6 := lv_neT hc21 (by decide : (6 : Int32).toInt = 6); omega) (by decide) ?_
    refine x_iconst (v := -1) dX10_about_107 (by decide) ?_
    obtain ⟨hr9, hw9⟩ := Prod.mk.inj (Option.some.inj h)
    subst hw9
    subst hr9
    exact x_iret dX10_about_108 rfl rfl
  · rw [if_pos hc7] at h
    refine x_iconst (v := -1) dX10_about_13 (by decide) ?_
    obtain ⟨hr9, hw9⟩ := Prod.mk.inj (Option.some.inj h)
    subst hw9
    subst hr9
    exact x_iret dX10_about_14 rfl rfl
set_option maxRecDepth 20000 in
theorem c_X10_at (x0 : Nat) (x1 : Int32) (w : xSt) (rE : Int32) (wE : xSt) (h : f_X10_at x0 x1 w = some (rE, wE)) : xCall yX10_at cX10_at 2 (some .int) 2 0 0 [xR x0, xI x1] w (some (xI rE), wE) := by
  refine xCall_of false (by decide) (fun q => nomatch q) (Nat.le_of_ble_eq_true rfl) ?_
  show xX cX10_at 2 (some .int) RX10 false (xRm 2 0 0) (xZf (some (xI rE), wE) 0 0) 0 [(0, xR x0), (1, xI x1)] [] w 0 0
  unfold f_X10_at at h
  refine x_aload_n (j := 0) (i := 0) dX10_at_0 rfl rfl ?_
  obtain ⟨g1, h⟩ := gd_some h
  refine x_getR (ci := 10) (k := 0) dX10_at_1 lf_RX10_18 rfl g1 ?_
  refine x_iload_n (j := 1) (i := 1) dX10_at_4 rfl rfl ?_
  obtain ⟨g5, h⟩ := gd_some h
  obtain ⟨v2, w3, hc4, h⟩ := bd_s h
  refine x_callVI (ci := 0) dX10_at_5 ml_RX10_84 mb_X0_has (c_X0_has (wR w x0 0) x1 w v2 w3 hc4) ⟨_, rfl, rfl⟩ g5 [] rfl rfl (Nat.le_of_ble_eq_true rfl) (by decide) (by decide) ?_
  refine x_if_eq (tgt := 22) dX10_at_8 (by decide) (fun hc6 => ?_) (fun hc6 => ?_)
  · rw [if_pos hc6] at h
    refine x_iconst (v := -1) dX10_at_22 (by decide) ?_
    obtain ⟨hr9, hw9⟩ := Prod.mk.inj (Option.some.inj h)
    subst hw9
    subst hr9
    exact x_iret dX10_at_23 rfl rfl
  · rw [if_neg hc6] at h
    refine x_aload_n (j := 0) (i := 0) dX10_at_11 rfl rfl ?_
    obtain ⟨g7, h⟩ := gd_some h
    refine x_getR (ci := 10) (k := 1) dX10_at_12 lf_RX10_29 rfl g7 ?_
    refine x_iload_n (j := 1) (i := 1) dX10_at_15 rfl rfl ?_
    obtain ⟨g11, h⟩ := gd_some h
    obtain ⟨v8, w9, hc10, h⟩ := bd_s h
    refine x_callVI (ci := 5) dX10_at_16 ml_RX10_172 mb_X5_standOn (c_X5_standOn (wR w3 x0 1) x1 w3 v8 w9 hc10) ⟨_, rfl, rfl⟩ g11 [] rfl rfl (Nat.le_of_ble_eq_true rfl) (by decide) (by decide) ?_
    refine x_goto (tgt := 23) dX10_at_19 (by decide) ?_
    obtain ⟨hr9, hw9⟩ := Prod.mk.inj (Option.some.inj h)
    subst hw9
    subst hr9
    exact x_iret dX10_at_23 rfl rfl
set_option maxRecDepth 20000 in
theorem c_X10_price (x0 : Nat) (w : xSt) (rE : Int32) (wE : xSt) (h : f_X10_price x0 w = some (rE, wE)) : xCall yX10_price cX10_price 1 (some .int) 4 0 0 [xR x0] w (some (xI rE), wE) := by
  refine xCall_of false (by decide) (fun q => nomatch q) (Nat.le_of_ble_eq_true rfl) ?_
  show xX cX10_price 1 (some .int) RX10 false (xRm 4 0 0) (xZf (some (xI rE), wE) 0 0) 0 [(0, xR x0)] [] w 0 0
  unfold f_X10_price at h
  refine x_aload_n (j := 0) (i := 0) dX10_price_0 rfl rfl ?_
  obtain ⟨g1, h⟩ := gd_some h
  refine x_getR (ci := 10) (k := 1) dX10_price_1 lf_RX10_29 rfl g1 ?_
  obtain ⟨g5, h⟩ := gd_some h
  obtain ⟨v2, w3, hc4, h⟩ := bd_s h
  refine x_callVI (ci := 5) dX10_price_4 ml_RX10_175 mb_X5_wholePrice (c_X5_wholePrice (wR w x0 1) w v2 w3 hc4) ⟨_, rfl, rfl⟩ g5 [] rfl rfl (Nat.le_of_ble_eq_true rfl) (by decide) (by decide) ?_
  obtain ⟨hr9, hw9⟩ := Prod.mk.inj (Option.some.inj h)
  subst hw9
  subst hr9
  exact x_iret dX10_price_7 rfl rfl
set_option maxRecDepth 20000 in
theorem k_X10_better_l15 (rE : Int32) (wE : xSt) : ∀ (n : Nat) (x0 : Nat) (x1 : Int32) (w : xSt), f_X10_better_l15 n x0 x1 w = some (rE, wE) → xX cX10_better 2 (some .int) RX10 false (xRm 6 0 0) (xZf (some (xI rE), wE) 0 0) 15 [(0, xR x0), (1, xI x1)] [] w 0 0 := by
  intro n
  induction n with
  | zero => intro x0 x1 w h; exact nomatch (show (none : Option (Int32 × xSt)) = some (rE, wE) from h)
  | succ n ih =>
    intro x0 x1 w h
    rw [f_X10_better_l15_s] at h
    refine x_iload_n (j := 1) (i := 1) dX10_better_15 rfl rfl ?_
    refine x_bipush (v := 50) dX10_better_16 (by decide) ?_
    refine x_icmp_ge (tgt := 37) dX10_better_18 (by decide) (fun hc7 => ?_) (fun hc7 => ?_)
    · rw [if_pos hc7] at h
      refine x_iload_n (j := 1) (i := 1) dX10_better_37 rfl rfl ?_
      obtain ⟨hr9, hw9⟩ := Prod.mk.inj (Option.some.inj h)
      subst hw9
      subst hr9
      exact x_iret dX10_better_38 rfl rfl
    · rw [if_neg hc7] at h
      refine x_aload_n (j := 0) (i := 0) dX10_better_21 rfl rfl ?_
      obtain ⟨g8, h⟩ := gd_some h
      refine x_getR (ci := 10) (k := 1) dX10_better_22 lf_RX10_29 rfl g8 ?_
      obtain ⟨g12, h⟩ := gd_some h
      obtain ⟨v9, w10, hc11, h⟩ := bd_s h
      refine x_callVI (ci := 5) dX10_better_25 ml_RX10_181 mb_X5_moveFirst (c_X5_moveFirst (wR w x0 1) w v9 w10 hc11) ⟨_, rfl, rfl⟩ g12 [] rfl rfl (Nat.le_of_ble_eq_true rfl) (by decide) (by decide) ?_
      refine x_if_eq (tgt := 37) dX10_better_28 (by decide) (fun hc13 => ?_) (fun hc13 => ?_)
      · rw [if_pos hc13] at h
        refine x_iload_n (j := 1) (i := 1) dX10_better_37 rfl rfl ?_
        obtain ⟨hr9, hw9⟩ := Prod.mk.inj (Option.some.inj h)
        subst hw9
        subst hr9
        exact x_iret dX10_better_38 rfl rfl
      · rw [if_neg hc13] at h
        refine x_iinc (j := 1) (i := 1) (v := x1 + (1 : Int32)) (lv2 := [(1, xI (x1 + (1 : Int32))), (0, xR x0)]) dX10_better_31 rfl rfl (by decide) rfl ?_
        refine x_goto (tgt := 15) dX10_better_34 (by decide) ?_
        refine x_lv (lv2 := [(0, xR x0), (1, xI (x1 + (1 : Int32)))]) [1, 0] rfl ?_
        exact ih x0 (x1 + (1 : Int32)) w10 h
set_option maxRecDepth 20000 in
theorem c_X10_better (x0 : Nat) (w : xSt) (rE : Int32) (wE : xSt) (h : f_X10_better x0 w = some (rE, wE)) : xCall yX10_better cX10_better 2 (some .int) 6 0 0 [xR x0] w (some (xI rE), wE) := by
  refine xCall_of false (by decide) (fun q => nomatch q) (Nat.le_of_ble_eq_true rfl) ?_
  show xX cX10_better 2 (some .int) RX10 false (xRm 6 0 0) (xZf (some (xI rE), wE) 0 0) 0 [(0, xR x0)] [] w 0 0
  unfold f_X10_better at h
  refine x_aload_n (j := 0) (i := 0) dX10_better_0 rfl rfl ?_
  obtain ⟨g1, h⟩ := gd_some h
  refine x_getR (ci := 10) (k := 1) dX10_better_1 lf_RX10_29 rfl g1 ?_
  obtain ⟨g5, h⟩ := gd_some h
  obtain ⟨v2, w3, hc4, h⟩ := bd_s h
  refine x_callVI (ci := 5) dX10_better_4 ml_RX10_178 mb_X5_withGoods (c_X5_withGoods (wR w x0 1) w v2 w3 hc4) ⟨_, rfl, rfl⟩ g5 [] rfl rfl (Nat.le_of_ble_eq_true rfl) (by decide) (by decide) ?_
  refine x_if_le (tgt := 13) dX10_better_7 (by decide) (fun hc6 => ?_) (fun hc6 => ?_)
  · rw [if_pos hc6] at h
    refine x_iconst (v := 0) dX10_better_13 (by decide) ?_
    refine x_istore_n (i := 1) (lv2 := [(1, xI (0 : Int32)), (0, xR x0)]) dX10_better_14 rfl (by decide) rfl ?_
    refine x_lv (lv2 := [(0, xR x0), (1, xI (0 : Int32))]) [1, 0] rfl ?_
    exact k_X10_better_l15 rE wE xFu x0 (0 : Int32) w3 h
  · rw [if_neg hc6] at h
    refine x_bipush (v := -3) dX10_better_10 (by decide) ?_
    obtain ⟨hr9, hw9⟩ := Prod.mk.inj (Option.some.inj h)
    subst hw9
    subst hr9
    exact x_iret dX10_better_12 rfl rfl
set_option maxRecDepth 20000 in
theorem c_X10_can (x0 : Nat) (x1 : Int32) (w : xSt) (rE : Int32) (wE : xSt) (h : f_X10_can x0 x1 w = some (rE, wE)) : xCall yX10_can cX10_can 3 (some .int) 4 0 0 [xR x0, xI x1] w (some (xI rE), wE) := by
  refine xCall_of false (by decide) (fun q => nomatch q) (Nat.le_of_ble_eq_true rfl) ?_
  show xX cX10_can 3 (some .int) RX10 false (xRm 4 0 0) (xZf (some (xI rE), wE) 0 0) 0 [(0, xR x0), (1, xI x1)] [] w 0 0
  unfold f_X10_can at h
  refine x_aload_n (j := 0) (i := 0) dX10_can_0 rfl rfl ?_
  obtain ⟨g1, h⟩ := gd_some h
  refine x_getR (ci := 10) (k := 1) dX10_can_1 lf_RX10_29 rfl g1 ?_
  refine x_iload_n (j := 1) (i := 1) dX10_can_4 rfl rfl ?_
  obtain ⟨g5, h⟩ := gd_some h
  obtain ⟨v2, w3, hc4, h⟩ := bd_s h
  refine x_callVR (ci := 5) dX10_can_5 ml_RX10_131 mb_X5_find (c_X5_find (wR w x0 1) x1 w v2 w3 hc4) ⟨_, rfl, rfl⟩ g5 [] rfl rfl (Nat.le_of_ble_eq_true rfl) (by decide) (by decide) ?_
  refine x_astore_n (i := 2) (lv2 := [(2, xR v2), (0, xR x0), (1, xI x1)]) dX10_can_8 rfl (by decide) rfl ?_
  refine x_aload_n (j := 0) (i := 2) dX10_can_9 rfl rfl ?_
  obtain ⟨g6, h⟩ := gd_some h
  refine x_ifnull (tgt := 20) dX10_can_10 (by decide) g6 (fun hc7 => ?_) (fun hc7 => ?_)
  · rw [if_pos hc7] at h
    refine x_iconst (v := -1) dX10_can_20 (by decide) ?_
    obtain ⟨hr9, hw9⟩ := Prod.mk.inj (Option.some.inj h)
    subst hw9
    subst hr9
    exact x_iret dX10_can_21 rfl rfl
  · rw [if_neg hc7] at h
    refine x_aload_n (j := 0) (i := 2) dX10_can_13 rfl rfl ?_
    obtain ⟨g11, h⟩ := gd_some h
    obtain ⟨v8, w9, hc10, h⟩ := bd_s h
    refine x_callVI (ci := 6) dX10_can_14 ml_RX10_147 mb_X6_isLaid (c_X6_isLaid v2 w3 v8 w9 hc10) ⟨_, rfl, rfl⟩ g11 [] rfl rfl (Nat.le_of_ble_eq_true rfl) (by decide) (by decide) ?_
    refine x_if_ne (tgt := 22) dX10_can_17 (by decide) (fun hc12 => ?_) (fun hc12 => ?_)
    · rw [if_neg hc12] at h
      refine x_aload_n (j := 1) (i := 0) dX10_can_22 rfl rfl ?_
      obtain ⟨g13, h⟩ := gd_some h
      refine x_getR (ci := 10) (k := 2) dX10_can_23 lf_RX10_38 rfl g13 ?_
      refine x_aload_n (j := 0) (i := 2) dX10_can_26 rfl rfl ?_
      obtain ⟨g17, h⟩ := gd_some h
      obtain ⟨v14, w15, hc16, h⟩ := bd_s h
      refine x_callVI (ci := 2) dX10_can_27 ml_RX10_184 mb_X2_mayComeIn (c_X2_mayComeIn (wR w9 x0 2) v2 w9 v14 w15 hc16) ⟨_, rfl, rfl⟩ g17 [] rfl rfl (Nat.le_of_ble_eq_true rfl) (by decide) (by decide) ?_
      refine x_if_eq (tgt := 37) dX10_can_30 (by decide) (fun hc18 => ?_) (fun hc18 => ?_)
      · rw [if_pos hc18] at h
        refine x_iconst (v := 0) dX10_can_37 (by decide) ?_
        obtain ⟨hr9, hw9⟩ := Prod.mk.inj (Option.some.inj h)
        subst hw9
        subst hr9
        exact x_iret dX10_can_38 rfl rfl
      · rw [if_neg hc18] at h
        refine x_iconst (v := 1) dX10_can_33 (by decide) ?_
        refine x_goto (tgt := 38) dX10_can_34 (by decide) ?_
        obtain ⟨hr9, hw9⟩ := Prod.mk.inj (Option.some.inj h)
        subst hw9
        subst hr9
        exact x_iret dX10_can_38 rfl rfl
    · rw [if_pos hc12] at h
      refine x_iconst (v := -1) dX10_can_20 (by decide) ?_
      obtain ⟨hr9, hw9⟩ := Prod.mk.inj (Option.some.inj h)
      subst hw9
      subst hr9
      exact x_iret dX10_can_21 rfl rfl
set_option maxRecDepth 20000 in
theorem c_X10_bring (x0 : Nat) (x1 : Int32) (w : xSt) (rE : Int32) (wE : xSt) (h : f_X10_bring x0 x1 w = some (rE, wE)) : xCall yX10_bring cX10_bring 3 (some .int) 4 0 0 [xR x0, xI x1] w (some (xI rE), wE) := by
  refine xCall_of false (by decide) (fun q => nomatch q) (Nat.le_of_ble_eq_true rfl) ?_
  show xX cX10_bring 3 (some .int) RX10 false (xRm 4 0 0) (xZf (some (xI rE), wE) 0 0) 0 [(0, xR x0), (1, xI x1)] [] w 0 0
  unfold f_X10_bring at h
  refine x_aload_n (j := 0) (i := 0) dX10_bring_0 rfl rfl ?_
  obtain ⟨g1, h⟩ := gd_some h
  refine x_getR (ci := 10) (k := 1) dX10_bring_1 lf_RX10_29 rfl g1 ?_
  refine x_iload_n (j := 1) (i := 1) dX10_bring_4 rfl rfl ?_
  obtain ⟨g5, h⟩ := gd_some h
  obtain ⟨v2, w3, hc4, h⟩ := bd_s h
  refine x_callVR (ci := 5) dX10_bring_5 ml_RX10_131 mb_X5_find (c_X5_find (wR w x0 1) x1 w v2 w3 hc4) ⟨_, rfl, rfl⟩ g5 [] rfl rfl (Nat.le_of_ble_eq_true rfl) (by decide) (by decide) ?_
  refine x_astore_n (i := 2) (lv2 := [(2, xR v2), (0, xR x0), (1, xI x1)]) dX10_bring_8 rfl (by decide) rfl ?_
  refine x_aload_n (j := 0) (i := 2) dX10_bring_9 rfl rfl ?_
  obtain ⟨g6, h⟩ := gd_some h
  refine x_ifnull (tgt := 20) dX10_bring_10 (by decide) g6 (fun hc7 => ?_) (fun hc7 => ?_)
  · rw [if_pos hc7] at h
    refine x_iconst (v := -1) dX10_bring_20 (by decide) ?_
    obtain ⟨hr9, hw9⟩ := Prod.mk.inj (Option.some.inj h)
    subst hw9
    subst hr9
    exact x_iret dX10_bring_21 rfl rfl
  · rw [if_neg hc7] at h
    refine x_aload_n (j := 0) (i := 2) dX10_bring_13 rfl rfl ?_
    obtain ⟨g11, h⟩ := gd_some h
    obtain ⟨v8, w9, hc10, h⟩ := bd_s h
    refine x_callVI (ci := 6) dX10_bring_14 ml_RX10_147 mb_X6_isLaid (c_X6_isLaid v2 w3 v8 w9 hc10) ⟨_, rfl, rfl⟩ g11 [] rfl rfl (Nat.le_of_ble_eq_true rfl) (by decide) (by decide) ?_
    refine x_if_ne (tgt := 22) dX10_bring_17 (by decide) (fun hc12 => ?_) (fun hc12 => ?_)
    · rw [if_neg hc12] at h
      refine x_aload_n (j := 0) (i := 2) dX10_bring_22 rfl rfl ?_
      obtain ⟨g13, h⟩ := gd_some h
      refine x_getI (ci := 6) (k := 8) dX10_bring_23 lf_RX10_139 rfl g13 ?_
      refine x_if_eq (tgt := 32) dX10_bring_26 (by decide) (fun hc14 => ?_) (fun hc14 => ?_)
      · rw [if_pos hc14] at h
        refine x_aload_n (j := 0) (i := 2) dX10_bring_32 rfl rfl ?_
        refine x_aload_n (j := 1) (i := 0) dX10_bring_33 rfl rfl ?_
        obtain ⟨g15, h⟩ := gd_some h
        refine x_getR (ci := 10) (k := 2) dX10_bring_34 lf_RX10_38 rfl g15 ?_
        refine x_aload_n (j := 0) (i := 2) dX10_bring_37 rfl rfl ?_
        obtain ⟨g19, h⟩ := gd_some h
        obtain ⟨v16, w17, hc18, h⟩ := bd_s h
        refine x_callVI (ci := 2) dX10_bring_38 ml_RX10_184 mb_X2_mayComeIn (c_X2_mayComeIn (wR w9 x0 2) v2 w9 v16 w17 hc18) ⟨_, rfl, rfl⟩ g19 [xR v2] rfl rfl (Nat.le_of_ble_eq_true rfl) (by decide) (by decide) ?_
        obtain ⟨g20, h⟩ := gd_some h
        obtain ⟨g21, h⟩ := gd_some h
        obtain ⟨w22, hw23, h⟩ := lt1_some h
        refine x_putZ (ci := 6) (k := 8) dX10_bring_41 (lw_RX10_139_w _) rfl g20 g21 ?_
        rw [← hw23]
        refine x_aload_n (j := 0) (i := 2) dX10_bring_44 rfl rfl ?_
        have g24 : isC w22 v2 6 := by rw [hw23]; exact g20
        refine x_getI (ci := 6) (k := 8) dX10_bring_45 lf_RX10_139 rfl g24 ?_
        refine x_if_eq (tgt := 55) dX10_bring_48 (by decide) (fun hc25 => ?_) (fun hc25 => ?_)
        · rw [if_pos hc25] at h
          refine x_iconst (v := 0) dX10_bring_55 (by decide) ?_
          obtain ⟨hr9, hw9⟩ := Prod.mk.inj (Option.some.inj h)
          subst hw9
          subst hr9
          exact x_iret dX10_bring_56 rfl rfl
        · rw [if_neg hc25] at h
          refine x_iconst (v := 1) dX10_bring_51 (by decide) ?_
          refine x_goto (tgt := 56) dX10_bring_52 (by decide) ?_
          obtain ⟨hr9, hw9⟩ := Prod.mk.inj (Option.some.inj h)
          subst hw9
          subst hr9
          exact x_iret dX10_bring_56 rfl rfl
      · rw [if_neg hc14] at h
        refine x_bipush (v := -3) dX10_bring_29 (by decide) ?_
        obtain ⟨hr9, hw9⟩ := Prod.mk.inj (Option.some.inj h)
        subst hw9
        subst hr9
        exact x_iret dX10_bring_31 rfl rfl
    · rw [if_pos hc12] at h
      refine x_iconst (v := -1) dX10_bring_20 (by decide) ?_
      obtain ⟨hr9, hw9⟩ := Prod.mk.inj (Option.some.inj h)
      subst hw9
      subst hr9
      exact x_iret dX10_bring_21 rfl rfl
set_option maxRecDepth 20000 in
theorem c_X10_clear (x0 : Nat) (w : xSt) (rE : Int32) (wE : xSt) (h : f_X10_clear x0 w = some (rE, wE)) : xCall yX10_clear cX10_clear 1 (some .int) 2 0 0 [xR x0] w (some (xI rE), wE) := by
  refine xCall_of false (by decide) (fun q => nomatch q) (Nat.le_of_ble_eq_true rfl) ?_
  show xX cX10_clear 1 (some .int) RX10 false (xRm 2 0 0) (xZf (some (xI rE), wE) 0 0) 0 [(0, xR x0)] [] w 0 0
  unfold f_X10_clear at h
  refine x_aload_n (j := 0) (i := 0) dX10_clear_0 rfl rfl ?_
  obtain ⟨g1, h⟩ := gd_some h
  refine x_getR (ci := 10) (k := 1) dX10_clear_1 lf_RX10_29 rfl g1 ?_
  obtain ⟨g5, h⟩ := gd_some h
  obtain ⟨v2, w3, hc4, h⟩ := bd_s h
  refine x_callVI (ci := 5) dX10_clear_4 ml_RX10_188 mb_X5_emptyAll (c_X5_emptyAll (wR w x0 1) w v2 w3 hc4) ⟨_, rfl, rfl⟩ g5 [] rfl rfl (Nat.le_of_ble_eq_true rfl) (by decide) (by decide) ?_
  obtain ⟨hr9, hw9⟩ := Prod.mk.inj (Option.some.inj h)
  subst hw9
  subst hr9
  exact x_iret dX10_clear_7 rfl rfl
set_option maxRecDepth 20000 in
theorem c_X10_row (x0 : Nat) (x1 : Int32) (w : xSt) (rE : Int32) (wE : xSt) (h : f_X10_row x0 x1 w = some (rE, wE)) : xCall yX10_row cX10_row 2 (some .int) 6 0 0 [xR x0, xI x1] w (some (xI rE), wE) := by
  refine xCall_of false (by decide) (fun q => nomatch q) (Nat.le_of_ble_eq_true rfl) ?_
  show xX cX10_row 2 (some .int) RX10 false (xRm 6 0 0) (xZf (some (xI rE), wE) 0 0) 0 [(0, xR x0), (1, xI x1)] [] w 0 0
  unfold f_X10_row at h
  refine x_aload_n (j := 0) (i := 0) dX10_row_0 rfl rfl ?_
  obtain ⟨g1, h⟩ := gd_some h
  refine x_getR (ci := 10) (k := 2) dX10_row_1 lf_RX10_38 rfl g1 ?_
  refine x_iload_n (j := 1) (i := 1) dX10_row_4 rfl rfl ?_
  obtain ⟨g5, h⟩ := gd_some h
  obtain ⟨v2, w3, hc4, h⟩ := bd_s h
  refine x_callVI (ci := 2) dX10_row_5 ml_RX10_191 mb_X2_inOrder (c_X2_inOrder (wR w x0 2) x1 w v2 w3 hc4) ⟨_, rfl, rfl⟩ g5 [] rfl rfl (Nat.le_of_ble_eq_true rfl) (by decide) (by decide) ?_
  obtain ⟨hr9, hw9⟩ := Prod.mk.inj (Option.some.inj h)
  subst hw9
  subst hr9
  exact x_iret dX10_row_8 rfl rfl
set_option maxRecDepth 20000 in
theorem c_X10_feed (x0 : Nat) (x1 : Int64) (x3 : Int32) (w : xSt) (rE : Int32) (wE : xSt) (h : f_X10_feed x0 x1 x3 w = some (rE, wE)) : xCall yX10_feed cX10_feed 4 (some .int) 1 0 0 [xR x0, xL x1, xI x3] w (some (xI rE), wE) := by
  refine xCall_of false (by decide) (fun q => nomatch q) (Nat.le_of_ble_eq_true rfl) ?_
  show xX cX10_feed 4 (some .int) RX10 false (xRm 1 0 0) (xZf (some (xI rE), wE) 0 0) 0 [(0, xR x0), (1, xL x1), (3, xI x3)] [] w 0 0
  unfold f_X10_feed at h
  refine x_iload_n (j := 2) (i := 3) dX10_feed_0 rfl rfl ?_
  refine x_iconst (v := 1) dX10_feed_1 (by decide) ?_
  refine x_bipush (v := 8) dX10_feed_2 (by decide) ?_
  obtain ⟨v1, w2, hc3, h⟩ := bd_s h
  refine x_callSI dX10_feed_4 ml_RX10_88 mb_X10_within (c_X10_within x3 (1 : Int32) (8 : Int32) w v1 w2 hc3) [] rfl rfl (Nat.le_of_ble_eq_true rfl) (by decide) (by decide) ?_
  refine x_if_ne (tgt := 13) dX10_feed_7 (by decide) (fun hc4 => ?_) (fun hc4 => ?_)
  · rw [if_neg hc4] at h
    refine x_aload_n (j := 0) (i := 0) dX10_feed_13 rfl rfl ?_
    obtain ⟨g5, h⟩ := gd_some h
    refine x_getR (ci := 10) (k := 3) dX10_feed_14 lf_RX10_45 rfl g5 ?_
    refine x_iload_n (j := 2) (i := 3) dX10_feed_17 rfl rfl ?_
    obtain ⟨g9, h⟩ := gd_some h
    obtain ⟨v6, w7, hc8, h⟩ := bd_s h
    refine x_callVI (ci := 7) dX10_feed_18 ml_RX10_194 mb_X7_hasRoom (c_X7_hasRoom (wR w2 x0 3) x3 w2 v6 w7 hc8) ⟨_, rfl, rfl⟩ g9 [] rfl rfl (Nat.le_of_ble_eq_true rfl) (by decide) (by decide) ?_
    refine x_if_ne (tgt := 27) dX10_feed_21 (by decide) (fun hc10 => ?_) (fun hc10 => ?_)
    · rw [if_neg hc10] at h
      refine x_aload_n (j := 0) (i := 0) dX10_feed_27 rfl rfl ?_
      obtain ⟨g11, h⟩ := gd_some h
      refine x_getR (ci := 10) (k := 3) dX10_feed_28 lf_RX10_45 rfl g11 ?_
      refine x_lload_n (j := 1) (i := 1) dX10_feed_31 rfl rfl ?_
      refine x_iload_n (j := 2) (i := 3) dX10_feed_32 rfl rfl ?_
      obtain ⟨g14, h⟩ := gd_some h
      obtain ⟨_u, w12, hc13, h⟩ := bd_s h
      refine x_callVV (ci := 7) dX10_feed_33 ml_RX10_197 mb_X7_add (c_X7_add (wR w7 x0 3) x1 x3 w7 _u w12 hc13) ⟨_, rfl, rfl⟩ g14 [] rfl rfl (Nat.le_of_ble_eq_true rfl) (by decide) (by decide) ?_
      refine x_aload_n (j := 0) (i := 0) dX10_feed_36 rfl rfl ?_
      obtain ⟨g15, h⟩ := gd_some h
      refine x_getR (ci := 10) (k := 3) dX10_feed_37 lf_RX10_45 rfl g15 ?_
      obtain ⟨g16, h⟩ := gd_some h
      refine x_getI (ci := 7) (k := 1) dX10_feed_40 lf_RX10_200 rfl g16 ?_
      obtain ⟨hr9, hw9⟩ := Prod.mk.inj (Option.some.inj h)
      subst hw9
      subst hr9
      exact x_iret dX10_feed_43 rfl rfl
    · rw [if_pos hc10] at h
      refine x_bipush (v := -4) dX10_feed_24 (by decide) ?_
      obtain ⟨hr9, hw9⟩ := Prod.mk.inj (Option.some.inj h)
      subst hw9
      subst hr9
      exact x_iret dX10_feed_26 rfl rfl
  · rw [if_pos hc4] at h
    refine x_bipush (v := -2) dX10_feed_10 (by decide) ?_
    obtain ⟨hr9, hw9⟩ := Prod.mk.inj (Option.some.inj h)
    subst hw9
    subst hr9
    exact x_iret dX10_feed_12 rfl rfl
set_option maxRecDepth 20000 in
theorem c_X10_isDay (x0 : Int32) (w : xSt) (rE : Int32) (wE : xSt) (h : f_X10_isDay x0 w = some (rE, wE)) : xCall yX10_isDay cX10_isDay 1 (some .boolean) 1 0 0 [xI x0] w (some (xI rE), wE) := by
  refine xCall_of false (by decide) (fun q => nomatch q) (Nat.le_of_ble_eq_true rfl) ?_
  show xX cX10_isDay 1 (some .boolean) RX10 false (xRm 1 0 0) (xZf (some (xI rE), wE) 0 0) 0 [(0, xI x0)] [] w 0 0
  unfold f_X10_isDay at h
  refine x_iload_n (j := 0) (i := 0) dX10_isDay_0 rfl rfl ?_
  refine x_iconst (v := 0) dX10_isDay_1 (by decide) ?_
  refine x_sipush (v := 999) dX10_isDay_2 (by decide) ?_
  obtain ⟨v1, w2, hc3, h⟩ := bd_s h
  refine x_callSI dX10_isDay_5 ml_RX10_88 mb_X10_within (c_X10_within x0 (0 : Int32) (999 : Int32) w v1 w2 hc3) [] rfl rfl (Nat.le_of_ble_eq_true rfl) (by decide) (by decide) ?_
  obtain ⟨g4, h⟩ := gd_some h
  obtain ⟨hr9, hw9⟩ := Prod.mk.inj (Option.some.inj h)
  subst hw9
  subst hr9
  exact x_zret dX10_isDay_8 rfl g4 rfl
