set_option maxRecDepth 20000 in
theorem k_X5_isTooNear_l2 (rE : Int32) (wE : xSt) : ∀ (n : Nat) (x0 : Nat) (x1 : Nat) (x2 : Int32) (x3 : Int32) (w : xSt), f_X5_isTooNear_l2 n x0 x1 x2 x3 w = some (rE, wE) → xX cX5_isTooNear 5 (some .boolean) RX5 false (xRm 2 0 0) (xZf (some (xI rE), wE) 0 0) 2 [(0, xR x0), (1, xR x1), (2, xI x2), (3, xI x3)] [] w 0 0 := by
  intro n
  induction n with
  | zero => intro x0 x1 x2 x3 w h; exact nomatch (show (none : Option (Int32 × xSt)) = some (rE, wE) from h)
  | succ n ih =>
    intro x0 x1 x2 x3 w h
    rw [f_X5_isTooNear_l2_s] at h
    refine x_iload_n (j := 3) (i := 3) dX5_isTooNear_2 rfl rfl ?_
    refine x_aload_n (j := 0) (i := 0) dX5_isTooNear_3 rfl rfl ?_
    obtain ⟨g1, h⟩ := gd_some h
    refine x_getI (ci := 5) (k := 2) dX5_isTooNear_4 lf_RX5_25 rfl g1 ?_
    refine x_icmp_ge (tgt := 130) dX5_isTooNear_7 (by decide) (fun hc2 => ?_) (fun hc2 => ?_)
    · rw [if_pos hc2] at h
      refine x_iconst (v := 0) dX5_isTooNear_130 (by decide) ?_
      obtain ⟨hr9, hw9⟩ := Prod.mk.inj (Option.some.inj h)
      subst hw9
      subst hr9
      exact x_zret dX5_isTooNear_131 rfl (by decide) rfl
    · rw [if_neg hc2] at h
      refine x_aload_n (j := 0) (i := 0) dX5_isTooNear_10 rfl rfl ?_
      refine x_getR (ci := 5) (k := 1) dX5_isTooNear_11 lf_RX5_17 rfl g1 ?_
      refine x_iload_n (j := 3) (i := 3) dX5_isTooNear_14 rfl rfl ?_
      obtain ⟨g3, h⟩ := gd_some h
      obtain ⟨g4, h⟩ := gd_some h
      refine x_qald24 dX5_isTooNear_15 g3 g4 ?_
      refine x_astore (i := 4) (lv2 := [(4, xR (wR w (wR w x0 1) x3.toNatClampNeg)), (0, xR x0), (1, xR x1), (2, xI x2), (3, xI x3)]) dX5_isTooNear_16 (by decide) rfl ?_
      refine x_aload (j := 0) (i := 4) dX5_isTooNear_18 rfl ?_
      refine x_aload_n (j := 2) (i := 1) dX5_isTooNear_20 rfl rfl ?_
      obtain ⟨g5, h⟩ := gd_some h
      obtain ⟨g6, h⟩ := gd_some h
      refine x_acmp_eq (tgt := 124) dX5_isTooNear_21 (by decide) g5 g6 (fun hc7 => ?_) (fun hc7 => ?_)
      · rw [if_pos hc7] at h
        refine x_iinc (j := 4) (i := 3) (v := x3 + (1 : Int32)) (lv2 := [(3, xI (x3 + (1 : Int32))), (4, xR (wR w (wR w x0 1) x3.toNatClampNeg)), (0, xR x0), (1, xR x1), (2, xI x2)]) dX5_isTooNear_124 rfl rfl (by decide) rfl ?_
        refine x_goto (tgt := 2) dX5_isTooNear_127 (by decide) ?_
        refine x_lv (lv2 := [(0, xR x0), (1, xR x1), (2, xI x2), (3, xI (x3 + (1 : Int32)))]) [2, 3, 4, 0] rfl ?_
        exact ih x0 x1 x2 (x3 + (1 : Int32)) w h
      · rw [if_neg hc7] at h
        refine x_aload (j := 0) (i := 4) dX5_isTooNear_24 rfl ?_
        obtain ⟨g11, h⟩ := gd_some h
        obtain ⟨v8, w9, hc10, h⟩ := bd_s h
        refine x_callVI (ci := 6) dX5_isTooNear_26 ml_RX5_47 mb_X6_isLaid (c_X6_isLaid (wR w (wR w x0 1) x3.toNatClampNeg) w v8 w9 hc10) ⟨_, rfl, rfl⟩ g11 [] rfl rfl (Nat.le_of_ble_eq_true rfl) (by decide) (by decide) ?_
        refine x_if_eq (tgt := 124) dX5_isTooNear_29 (by decide) (fun hc12 => ?_) (fun hc12 => ?_)
        · rw [if_pos hc12] at h
          refine x_iinc (j := 4) (i := 3) (v := x3 + (1 : Int32)) (lv2 := [(3, xI (x3 + (1 : Int32))), (4, xR (wR w (wR w x0 1) x3.toNatClampNeg)), (0, xR x0), (1, xR x1), (2, xI x2)]) dX5_isTooNear_124 rfl rfl (by decide) rfl ?_
          refine x_goto (tgt := 2) dX5_isTooNear_127 (by decide) ?_
          refine x_lv (lv2 := [(0, xR x0), (1, xR x1), (2, xI x2), (3, xI (x3 + (1 : Int32)))]) [2, 3, 4, 0] rfl ?_
          exact ih x0 x1 x2 (x3 + (1 : Int32)) w9 h
        · rw [if_neg hc12] at h
          refine x_aload (j := 0) (i := 4) dX5_isTooNear_32 rfl ?_
          obtain ⟨g13, h⟩ := gd_some h
          refine x_getI (ci := 6) (k := 2) dX5_isTooNear_34 lf_RX5_95 rfl g13 ?_
          refine x_aload_n (j := 2) (i := 1) dX5_isTooNear_37 rfl rfl ?_
          obtain ⟨g14, h⟩ := gd_some h
          refine x_getI (ci := 6) (k := 2) dX5_isTooNear_38 lf_RX5_95 rfl g14 ?_
          refine x_icmp_eq (tgt := 124) dX5_isTooNear_41 (by decide) (fun hc15 => ?_) (fun hc15 => ?_)
          · rw [if_pos hc15] at h
            refine x_iinc (j := 4) (i := 3) (v := x3 + (1 : Int32)) (lv2 := [(3, xI (x3 + (1 : Int32))), (4, xR (wR w (wR w x0 1) x3.toNatClampNeg)), (0, xR x0), (1, xR x1), (2, xI x2)]) dX5_isTooNear_124 rfl rfl (by decide) rfl ?_
            refine x_goto (tgt := 2) dX5_isTooNear_127 (by decide) ?_
            refine x_lv (lv2 := [(0, xR x0), (1, xR x1), (2, xI x2), (3, xI (x3 + (1 : Int32)))]) [2, 3, 4, 0] rfl ?_
            exact ih x0 x1 x2 (x3 + (1 : Int32)) w9 h
          · rw [if_neg hc15] at h
            refine x_aload_n (j := 1) (i := 0) dX5_isTooNear_44 rfl rfl ?_
            obtain ⟨g16, h⟩ := gd_some h
            refine x_getR (ci := 5) (k := 0) dX5_isTooNear_45 lf_RX5_9 rfl g16 ?_
            refine x_iload_n (j := 3) (i := 2) dX5_isTooNear_48 rfl rfl ?_
            obtain ⟨g20, h⟩ := gd_some h
            obtain ⟨v17, w18, hc19, h⟩ := bd_s h
            refine x_callVI (ci := 0) dX5_isTooNear_49 ml_RX5_98 mb_X0_columnOf (c_X0_columnOf (wR w9 x0 0) x2 w9 v17 w18 hc19) ⟨_, rfl, rfl⟩ g20 [] rfl rfl (Nat.le_of_ble_eq_true rfl) (by decide) (by decide) ?_
            refine x_aload_n (j := 2) (i := 1) dX5_isTooNear_52 rfl rfl ?_
            obtain ⟨g21, h⟩ := gd_some h
            refine x_getI (ci := 6) (k := 3) dX5_isTooNear_53 lf_RX5_31 rfl g21 ?_
            refine x_aload_n (j := 1) (i := 0) dX5_isTooNear_56 rfl rfl ?_
            obtain ⟨g22, h⟩ := gd_some h
            refine x_getR (ci := 5) (k := 0) dX5_isTooNear_57 lf_RX5_9 rfl g22 ?_
            refine x_aload (j := 0) (i := 4) dX5_isTooNear_60 rfl ?_
            obtain ⟨g23, h⟩ := gd_some h
            refine x_getI (ci := 6) (k := 6) dX5_isTooNear_62 lf_RX5_28 rfl g23 ?_
            obtain ⟨g27, h⟩ := gd_some h
            obtain ⟨v24, w25, hc26, h⟩ := bd_s h
            refine x_callVI (ci := 0) dX5_isTooNear_65 ml_RX5_98 mb_X0_columnOf (c_X0_columnOf (wR w18 x0 0) (wI w18 (wR w (wR w x0 1) x3.toNatClampNeg) 6) w18 v24 w25 hc26) ⟨_, rfl, rfl⟩ g27 [xI (wI w18 x1 3), xI v17] rfl rfl (Nat.le_of_ble_eq_true rfl) (by decide) (by decide) ?_
            refine x_aload (j := 0) (i := 4) dX5_isTooNear_68 rfl ?_
            obtain ⟨g28, h⟩ := gd_some h
            refine x_getI (ci := 6) (k := 3) dX5_isTooNear_70 lf_RX5_31 rfl g28 ?_
            obtain ⟨v29, w30, hc31, h⟩ := bd_s h
            refine x_callSI dX5_isTooNear_73 ml_RX5_102 mb_X5_between (c_X5_between v17 (wI w18 x1 3) v24 (wI w25 (wR w (wR w x0 1) x3.toNatClampNeg) 3) w25 v29 w30 hc31) [] rfl rfl (Nat.le_of_ble_eq_true rfl) (by decide) (by decide) ?_
            refine x_aload_n (j := 1) (i := 0) dX5_isTooNear_76 rfl rfl ?_
            obtain ⟨g32, h⟩ := gd_some h
            refine x_getI (ci := 5) (k := 3) dX5_isTooNear_77 lf_RX5_21 rfl g32 ?_
            refine x_icmp_ge (tgt := 124) dX5_isTooNear_80 (by decide) (fun hc33 => ?_) (fun hc33 => ?_)
            · rw [if_pos hc33] at h
              refine x_iinc (j := 4) (i := 3) (v := x3 + (1 : Int32)) (lv2 := [(3, xI (x3 + (1 : Int32))), (4, xR (wR w (wR w x0 1) x3.toNatClampNeg)), (0, xR x0), (1, xR x1), (2, xI x2)]) dX5_isTooNear_124 rfl rfl (by decide) rfl ?_
              refine x_goto (tgt := 2) dX5_isTooNear_127 (by decide) ?_
              refine x_lv (lv2 := [(0, xR x0), (1, xR x1), (2, xI x2), (3, xI (x3 + (1 : Int32)))]) [2, 3, 4, 0] rfl ?_
              exact ih x0 x1 x2 (x3 + (1 : Int32)) w30 h
            · rw [if_neg hc33] at h
              refine x_aload_n (j := 1) (i := 0) dX5_isTooNear_83 rfl rfl ?_
              refine x_getR (ci := 5) (k := 0) dX5_isTooNear_84 lf_RX5_9 rfl g32 ?_
              refine x_iload_n (j := 3) (i := 2) dX5_isTooNear_87 rfl rfl ?_
              obtain ⟨g37, h⟩ := gd_some h
              obtain ⟨v34, w35, hc36, h⟩ := bd_s h
              refine x_callVI (ci := 0) dX5_isTooNear_88 ml_RX5_106 mb_X0_lineOf (c_X0_lineOf (wR w30 x0 0) x2 w30 v34 w35 hc36) ⟨_, rfl, rfl⟩ g37 [] rfl rfl (Nat.le_of_ble_eq_true rfl) (by decide) (by decide) ?_
              refine x_aload_n (j := 2) (i := 1) dX5_isTooNear_91 rfl rfl ?_
              obtain ⟨g38, h⟩ := gd_some h
              refine x_getI (ci := 6) (k := 4) dX5_isTooNear_92 lf_RX5_34 rfl g38 ?_
              refine x_aload_n (j := 1) (i := 0) dX5_isTooNear_95 rfl rfl ?_
              obtain ⟨g39, h⟩ := gd_some h
              refine x_getR (ci := 5) (k := 0) dX5_isTooNear_96 lf_RX5_9 rfl g39 ?_
              refine x_aload (j := 0) (i := 4) dX5_isTooNear_99 rfl ?_
              obtain ⟨g40, h⟩ := gd_some h
              refine x_getI (ci := 6) (k := 6) dX5_isTooNear_101 lf_RX5_28 rfl g40 ?_
              obtain ⟨g44, h⟩ := gd_some h
              obtain ⟨v41, w42, hc43, h⟩ := bd_s h
              refine x_callVI (ci := 0) dX5_isTooNear_104 ml_RX5_106 mb_X0_lineOf (c_X0_lineOf (wR w35 x0 0) (wI w35 (wR w (wR w x0 1) x3.toNatClampNeg) 6) w35 v41 w42 hc43) ⟨_, rfl, rfl⟩ g44 [xI (wI w35 x1 4), xI v34] rfl rfl (Nat.le_of_ble_eq_true rfl) (by decide) (by decide) ?_
              refine x_aload (j := 0) (i := 4) dX5_isTooNear_107 rfl ?_
              obtain ⟨g45, h⟩ := gd_some h
              refine x_getI (ci := 6) (k := 4) dX5_isTooNear_109 lf_RX5_34 rfl g45 ?_
              obtain ⟨v46, w47, hc48, h⟩ := bd_s h
              refine x_callSI dX5_isTooNear_112 ml_RX5_102 mb_X5_between (c_X5_between v34 (wI w35 x1 4) v41 (wI w42 (wR w (wR w x0 1) x3.toNatClampNeg) 4) w42 v46 w47 hc48) [] rfl rfl (Nat.le_of_ble_eq_true rfl) (by decide) (by decide) ?_
              refine x_aload_n (j := 1) (i := 0) dX5_isTooNear_115 rfl rfl ?_
              obtain ⟨g49, h⟩ := gd_some h
              refine x_getI (ci := 5) (k := 3) dX5_isTooNear_116 lf_RX5_21 rfl g49 ?_
              refine x_icmp_ge (tgt := 124) dX5_isTooNear_119 (by decide) (fun hc50 => ?_) (fun hc50 => ?_)
              · rw [if_pos hc50] at h
                refine x_iinc (j := 4) (i := 3) (v := x3 + (1 : Int32)) (lv2 := [(3, xI (x3 + (1 : Int32))), (4, xR (wR w (wR w x0 1) x3.toNatClampNeg)), (0, xR x0), (1, xR x1), (2, xI x2)]) dX5_isTooNear_124 rfl rfl (by decide) rfl ?_
                refine x_goto (tgt := 2) dX5_isTooNear_127 (by decide) ?_
                refine x_lv (lv2 := [(0, xR x0), (1, xR x1), (2, xI x2), (3, xI (x3 + (1 : Int32)))]) [2, 3, 4, 0] rfl ?_
                exact ih x0 x1 x2 (x3 + (1 : Int32)) w47 h
              · rw [if_neg hc50] at h
                refine x_iconst (v := 1) dX5_isTooNear_122 (by decide) ?_
                obtain ⟨hr9, hw9⟩ := Prod.mk.inj (Option.some.inj h)
                subst hw9
                subst hr9
                exact x_zret dX5_isTooNear_123 rfl (by decide) rfl
set_option maxRecDepth 20000 in
theorem c_X5_isTooNear (x0 : Nat) (x1 : Nat) (x2 : Int32) (w : xSt) (rE : Int32) (wE : xSt) (h : f_X5_isTooNear x0 x1 x2 w = some (rE, wE)) : xCall yX5_isTooNear cX5_isTooNear 5 (some .boolean) 2 0 0 [xR x0, xR x1, xI x2] w (some (xI rE), wE) := by
  refine xCall_of false (by decide) (fun q => nomatch q) (Nat.le_of_ble_eq_true rfl) ?_
  show xX cX5_isTooNear 5 (some .boolean) RX5 false (xRm 2 0 0) (xZf (some (xI rE), wE) 0 0) 0 [(0, xR x0), (1, xR x1), (2, xI x2)] [] w 0 0
  unfold f_X5_isTooNear at h
  refine x_iconst (v := 0) dX5_isTooNear_0 (by decide) ?_
  refine x_istore_n (i := 3) (lv2 := [(3, xI (0 : Int32)), (0, xR x0), (1, xR x1), (2, xI x2)]) dX5_isTooNear_1 rfl (by decide) rfl ?_
  refine x_lv (lv2 := [(0, xR x0), (1, xR x1), (2, xI x2), (3, xI (0 : Int32))]) [1, 2, 3, 0] rfl ?_
  exact k_X5_isTooNear_l2 rE wE xFu x0 x1 x2 (0 : Int32) w h
set_option maxRecDepth 20000 in
theorem c_X6_isAkin (x0 : Nat) (x1 : Nat) (w : xSt) (rE : Int32) (wE : xSt) (h : f_X6_isAkin x0 x1 w = some (rE, wE)) : xCall yX6_isAkin cX6_isAkin 2 (some .boolean) 0 0 0 [xR x0, xR x1] w (some (xI rE), wE) := by
  refine xCall_of false (by decide) (fun q => nomatch q) (Nat.le_of_ble_eq_true rfl) ?_
  show xX cX6_isAkin 2 (some .boolean) RX6 false (xRm 0 0 0) (xZf (some (xI rE), wE) 0 0) 0 [(0, xR x0), (1, xR x1)] [] w 0 0
  unfold f_X6_isAkin at h
  refine x_aload_n (j := 0) (i := 0) dX6_isAkin_0 rfl rfl ?_
  obtain ⟨g1, h⟩ := gd_some h
  refine x_getI (ci := 6) (k := 1) dX6_isAkin_1 lf_RX6_15 rfl g1 ?_
  refine x_aload_n (j := 1) (i := 1) dX6_isAkin_4 rfl rfl ?_
  obtain ⟨g2, h⟩ := gd_some h
  refine x_getI (ci := 6) (k := 1) dX6_isAkin_5 lf_RX6_15 rfl g2 ?_
  refine x_icmp_ne (tgt := 26) dX6_isAkin_8 (by decide) (fun hc3 => ?_) (fun hc3 => ?_)
  · rw [if_neg hc3] at h
    refine x_iconst (v := 0) dX6_isAkin_26 (by decide) ?_
    obtain ⟨hr9, hw9⟩ := Prod.mk.inj (Option.some.inj h)
    subst hw9
    subst hr9
    exact x_zret dX6_isAkin_27 rfl (by decide) rfl
  · rw [if_pos hc3] at h
    refine x_aload_n (j := 0) (i := 0) dX6_isAkin_11 rfl rfl ?_
    refine x_getI (ci := 6) (k := 2) dX6_isAkin_12 lf_RX6_18 rfl g1 ?_
    refine x_aload_n (j := 1) (i := 1) dX6_isAkin_15 rfl rfl ?_
    refine x_getI (ci := 6) (k := 2) dX6_isAkin_16 lf_RX6_18 rfl g2 ?_
    refine x_icmp_ne (tgt := 26) dX6_isAkin_19 (by decide) (fun hc4 => ?_) (fun hc4 => ?_)
    · rw [if_neg hc4] at h
      refine x_iconst (v := 0) dX6_isAkin_26 (by decide) ?_
      obtain ⟨hr9, hw9⟩ := Prod.mk.inj (Option.some.inj h)
      subst hw9
      subst hr9
      exact x_zret dX6_isAkin_27 rfl (by decide) rfl
    · rw [if_pos hc4] at h
      refine x_iconst (v := 1) dX6_isAkin_22 (by decide) ?_
      refine x_goto (tgt := 27) dX6_isAkin_23 (by decide) ?_
      obtain ⟨hr9, hw9⟩ := Prod.mk.inj (Option.some.inj h)
      subst hw9
      subst hr9
      exact x_zret dX6_isAkin_27 rfl (by decide) rfl
set_option maxRecDepth 20000 in
theorem k_X5_hasKinLaid_l2 (rE : Int32) (wE : xSt) : ∀ (n : Nat) (x0 : Nat) (x1 : Nat) (x2 : Int32) (x3 : Int32) (w : xSt), f_X5_hasKinLaid_l2 n x0 x1 x2 x3 w = some (rE, wE) → xX cX5_hasKinLaid 5 (some .boolean) RX5 false (xRm 1 0 0) (xZf (some (xI rE), wE) 0 0) 2 [(0, xR x0), (1, xR x1), (2, xI x2), (3, xI x3)] [] w 0 0 := by
  intro n
  induction n with
  | zero => intro x0 x1 x2 x3 w h; exact nomatch (show (none : Option (Int32 × xSt)) = some (rE, wE) from h)
  | succ n ih =>
    intro x0 x1 x2 x3 w h
    rw [f_X5_hasKinLaid_l2_s] at h
    refine x_iload_n (j := 3) (i := 3) dX5_hasKinLaid_2 rfl rfl ?_
    refine x_aload_n (j := 0) (i := 0) dX5_hasKinLaid_3 rfl rfl ?_
    obtain ⟨g1, h⟩ := gd_some h
    refine x_getI (ci := 5) (k := 2) dX5_hasKinLaid_4 lf_RX5_25 rfl g1 ?_
    refine x_icmp_ge (tgt := 62) dX5_hasKinLaid_7 (by decide) (fun hc2 => ?_) (fun hc2 => ?_)
    · rw [if_pos hc2] at h
      refine x_iconst (v := 0) dX5_hasKinLaid_62 (by decide) ?_
      obtain ⟨hr9, hw9⟩ := Prod.mk.inj (Option.some.inj h)
      subst hw9
      subst hr9
      exact x_zret dX5_hasKinLaid_63 rfl (by decide) rfl
    · rw [if_neg hc2] at h
      refine x_aload_n (j := 0) (i := 0) dX5_hasKinLaid_10 rfl rfl ?_
      refine x_getR (ci := 5) (k := 1) dX5_hasKinLaid_11 lf_RX5_17 rfl g1 ?_
      refine x_iload_n (j := 3) (i := 3) dX5_hasKinLaid_14 rfl rfl ?_
      obtain ⟨g3, h⟩ := gd_some h
      obtain ⟨g4, h⟩ := gd_some h
      refine x_qald24 dX5_hasKinLaid_15 g3 g4 ?_
      refine x_astore (i := 4) (lv2 := [(4, xR (wR w (wR w x0 1) x3.toNatClampNeg)), (0, xR x0), (1, xR x1), (2, xI x2), (3, xI x3)]) dX5_hasKinLaid_16 (by decide) rfl ?_
      refine x_aload (j := 0) (i := 4) dX5_hasKinLaid_18 rfl ?_
      refine x_aload_n (j := 2) (i := 1) dX5_hasKinLaid_20 rfl rfl ?_
      obtain ⟨g5, h⟩ := gd_some h
      obtain ⟨g6, h⟩ := gd_some h
      refine x_acmp_eq (tgt := 56) dX5_hasKinLaid_21 (by decide) g5 g6 (fun hc7 => ?_) (fun hc7 => ?_)
      · rw [if_pos hc7] at h
        refine x_iinc (j := 4) (i := 3) (v := x3 + (1 : Int32)) (lv2 := [(3, xI (x3 + (1 : Int32))), (4, xR (wR w (wR w x0 1) x3.toNatClampNeg)), (0, xR x0), (1, xR x1), (2, xI x2)]) dX5_hasKinLaid_56 rfl rfl (by decide) rfl ?_
        refine x_goto (tgt := 2) dX5_hasKinLaid_59 (by decide) ?_
        refine x_lv (lv2 := [(0, xR x0), (1, xR x1), (2, xI x2), (3, xI (x3 + (1 : Int32)))]) [2, 3, 4, 0] rfl ?_
        exact ih x0 x1 x2 (x3 + (1 : Int32)) w h
      · rw [if_neg hc7] at h
        refine x_aload (j := 0) (i := 4) dX5_hasKinLaid_24 rfl ?_
        obtain ⟨g11, h⟩ := gd_some h
        obtain ⟨v8, w9, hc10, h⟩ := bd_s h
        refine x_callVI (ci := 6) dX5_hasKinLaid_26 ml_RX5_47 mb_X6_isLaid (c_X6_isLaid (wR w (wR w x0 1) x3.toNatClampNeg) w v8 w9 hc10) ⟨_, rfl, rfl⟩ g11 [] rfl rfl (Nat.le_of_ble_eq_true rfl) (by decide) (by decide) ?_
        refine x_if_eq (tgt := 56) dX5_hasKinLaid_29 (by decide) (fun hc12 => ?_) (fun hc12 => ?_)
        · rw [if_pos hc12] at h
          refine x_iinc (j := 4) (i := 3) (v := x3 + (1 : Int32)) (lv2 := [(3, xI (x3 + (1 : Int32))), (4, xR (wR w (wR w x0 1) x3.toNatClampNeg)), (0, xR x0), (1, xR x1), (2, xI x2)]) dX5_hasKinLaid_56 rfl rfl (by decide) rfl ?_
          refine x_goto (tgt := 2) dX5_hasKinLaid_59 (by decide) ?_
          refine x_lv (lv2 := [(0, xR x0), (1, xR x1), (2, xI x2), (3, xI (x3 + (1 : Int32)))]) [2, 3, 4, 0] rfl ?_
          exact ih x0 x1 x2 (x3 + (1 : Int32)) w9 h
        · rw [if_neg hc12] at h
          refine x_aload (j := 0) (i := 4) dX5_hasKinLaid_32 rfl ?_
          refine x_aload_n (j := 2) (i := 1) dX5_hasKinLaid_34 rfl rfl ?_
          obtain ⟨g16, h⟩ := gd_some h
          obtain ⟨v13, w14, hc15, h⟩ := bd_s h
          refine x_callVI (ci := 6) dX5_hasKinLaid_35 ml_RX5_125 mb_X6_isAkin (c_X6_isAkin (wR w (wR w x0 1) x3.toNatClampNeg) x1 w9 v13 w14 hc15) ⟨_, rfl, rfl⟩ g16 [] rfl rfl (Nat.le_of_ble_eq_true rfl) (by decide) (by decide) ?_
          refine x_if_eq (tgt := 56) dX5_hasKinLaid_38 (by decide) (fun hc17 => ?_) (fun hc17 => ?_)
          · rw [if_pos hc17] at h
            refine x_iinc (j := 4) (i := 3) (v := x3 + (1 : Int32)) (lv2 := [(3, xI (x3 + (1 : Int32))), (4, xR (wR w (wR w x0 1) x3.toNatClampNeg)), (0, xR x0), (1, xR x1), (2, xI x2)]) dX5_hasKinLaid_56 rfl rfl (by decide) rfl ?_
            refine x_goto (tgt := 2) dX5_hasKinLaid_59 (by decide) ?_
            refine x_lv (lv2 := [(0, xR x0), (1, xR x1), (2, xI x2), (3, xI (x3 + (1 : Int32)))]) [2, 3, 4, 0] rfl ?_
            exact ih x0 x1 x2 (x3 + (1 : Int32)) w14 h
          · rw [if_neg hc17] at h
            refine x_iload_n (j := 3) (i := 2) dX5_hasKinLaid_41 rfl rfl ?_
            refine x_if_eq (tgt := 54) dX5_hasKinLaid_42 (by decide) (fun hc18 => ?_) (fun hc18 => ?_)
            · rw [if_pos hc18] at h
              refine x_iconst (v := 1) dX5_hasKinLaid_54 (by decide) ?_
              obtain ⟨hr9, hw9⟩ := Prod.mk.inj (Option.some.inj h)
              subst hw9
              subst hr9
              exact x_zret dX5_hasKinLaid_55 rfl (by decide) rfl
            · rw [if_neg hc18] at h
              refine x_aload (j := 0) (i := 4) dX5_hasKinLaid_45 rfl ?_
              obtain ⟨g19, h⟩ := gd_some h
              refine x_getI (ci := 6) (k := 0) dX5_hasKinLaid_47 lf_RX5_115 rfl g19 ?_
              refine x_iconst (v := 4) dX5_hasKinLaid_50 (by decide) ?_
              refine x_icmp_ne (tgt := 56) dX5_hasKinLaid_51 (by decide) (fun hc20 => ?_) (fun hc20 => ?_)
              · rw [if_neg hc20] at h
                refine x_iinc (j := 4) (i := 3) (v := x3 + (1 : Int32)) (lv2 := [(3, xI (x3 + (1 : Int32))), (4, xR (wR w (wR w x0 1) x3.toNatClampNeg)), (0, xR x0), (1, xR x1), (2, xI x2)]) dX5_hasKinLaid_56 rfl rfl (by decide) rfl ?_
                refine x_goto (tgt := 2) dX5_hasKinLaid_59 (by decide) ?_
                refine x_lv (lv2 := [(0, xR x0), (1, xR x1), (2, xI x2), (3, xI (x3 + (1 : Int32)))]) [2, 3, 4, 0] rfl ?_
                exact ih x0 x1 x2 (x3 + (1 : Int32)) w14 h
              · rw [if_pos hc20] at h
                refine x_iconst (v := 1) dX5_hasKinLaid_54 (by decide) ?_
                obtain ⟨hr9, hw9⟩ := Prod.mk.inj (Option.some.inj h)
                subst hw9
                subst hr9
                exact x_zret dX5_hasKinLaid_55 rfl (by decide) rfl
set_option maxRecDepth 20000 in
theorem c_X5_hasKinLaid (x0 : Nat) (x1 : Nat) (x2 : Int32) (w : xSt) (rE : Int32) (wE : xSt) (h : f_X5_hasKinLaid x0 x1 x2 w = some (rE, wE)) : xCall yX5_hasKinLaid cX5_hasKinLaid 5 (some .boolean) 1 0 0 [xR x0, xR x1, xI x2] w (some (xI rE), wE) := by
  refine xCall_of false (by decide) (fun q => nomatch q) (Nat.le_of_ble_eq_true rfl) ?_
  show xX cX5_hasKinLaid 5 (some .boolean) RX5 false (xRm 1 0 0) (xZf (some (xI rE), wE) 0 0) 0 [(0, xR x0), (1, xR x1), (2, xI x2)] [] w 0 0
  unfold f_X5_hasKinLaid at h
  refine x_iconst (v := 0) dX5_hasKinLaid_0 (by decide) ?_
  refine x_istore_n (i := 3) (lv2 := [(3, xI (0 : Int32)), (0, xR x0), (1, xR x1), (2, xI x2)]) dX5_hasKinLaid_1 rfl (by decide) rfl ?_
  refine x_lv (lv2 := [(0, xR x0), (1, xR x1), (2, xI x2), (3, xI (0 : Int32))]) [1, 2, 3, 0] rfl ?_
  exact k_X5_hasKinLaid_l2 rE wE xFu x0 x1 x2 (0 : Int32) w h
set_option maxRecDepth 20000 in
theorem c_X5_hasItsNeed (x0 : Nat) (x1 : Nat) (x2 : Int64) (w : xSt) (rE : Int32) (wE : xSt) (h : f_X5_hasItsNeed x0 x1 x2 w = some (rE, wE)) : xCall yX5_hasItsNeed cX5_hasItsNeed 4 (some .boolean) 2 0 0 [xR x0, xR x1, xL x2] w (some (xI rE), wE) := by
  refine xCall_of false (by decide) (fun q => nomatch q) (Nat.le_of_ble_eq_true rfl) ?_
  show xX cX5_hasItsNeed 4 (some .boolean) RX5 false (xRm 2 0 0) (xZf (some (xI rE), wE) 0 0) 0 [(0, xR x0), (1, xR x1), (2, xL x2)] [] w 0 0
  unfold f_X5_hasItsNeed at h
  refine x_aload_n (j := 1) (i := 1) dX5_hasItsNeed_0 rfl rfl ?_
  obtain ⟨g1, h⟩ := gd_some h
  refine x_getI (ci := 6) (k := 0) dX5_hasItsNeed_1 lf_RX5_115 rfl g1 ?_
  by_cases hc2 : (wI w x1 0) = (1 : Int32)
  · rw [if_pos hc2] at h
    refine x_tsw (off := 32) (tgt := 36) dX5_hasItsNeed_4 (by rw [hc2]; decide) (by rw [hc2]; decide) (by rw [hc2]; decide) (by decide) ?_
    refine x_lload_n (j := 2) (i := 2) dX5_hasItsNeed_36 rfl rfl ?_
    refine x_aload_n (j := 0) (i := 0) dX5_hasItsNeed_37 rfl rfl ?_
    obtain ⟨g3, h⟩ := gd_some h
    refine x_getR (ci := 5) (k := 0) dX5_hasItsNeed_38 lf_RX5_9 rfl g3 ?_
    obtain ⟨g4, h⟩ := gd_some h
    refine x_getL (ci := 0) (k := 5) dX5_hasItsNeed_41 lf_RX5_118 rfl g4 ?_
    refine x_land dX5_hasItsNeed_44 ?_
    refine x_lconst (v := 0) dX5_hasItsNeed_45 (by decide) ?_
    refine x_lcmp dX5_hasItsNeed_46 ?_
    refine x_if_eq (tgt := 54) dX5_hasItsNeed_47 (by decide) (fun hc5 => ?_) (fun hc5 => ?_)
    · rw [if_pos hc5] at h
      refine x_iconst (v := 0) dX5_hasItsNeed_54 (by decide) ?_
      obtain ⟨hr9, hw9⟩ := Prod.mk.inj (Option.some.inj h)
      subst hw9
      subst hr9
      exact x_zret dX5_hasItsNeed_55 rfl (by decide) rfl
    · rw [if_neg hc5] at h
      refine x_iconst (v := 1) dX5_hasItsNeed_50 (by decide) ?_
      refine x_goto (tgt := 55) dX5_hasItsNeed_51 (by decide) ?_
      obtain ⟨hr9, hw9⟩ := Prod.mk.inj (Option.some.inj h)
      subst hw9
      subst hr9
      exact x_zret dX5_hasItsNeed_55 rfl (by decide) rfl
  rw [if_neg hc2] at h
  by_cases hc6 : (wI w x1 0) = (2 : Int32)
  · rw [if_pos hc6] at h
    refine x_tsw (off := 52) (tgt := 56) dX5_hasItsNeed_4 (by rw [hc6]; decide) (by rw [hc6]; decide) (by rw [hc6]; decide) (by decide) ?_
    refine x_aload_n (j := 0) (i := 0) dX5_hasItsNeed_56 rfl rfl ?_
    obtain ⟨g7, h⟩ := gd_some h
    refine x_getR (ci := 5) (k := 0) dX5_hasItsNeed_57 lf_RX5_9 rfl g7 ?_
    refine x_lload_n (j := 2) (i := 2) dX5_hasItsNeed_60 rfl rfl ?_
    obtain ⟨g11, h⟩ := gd_some h
    obtain ⟨v8, w9, hc10, h⟩ := bd_s h
    refine x_callVL (ci := 0) dX5_hasItsNeed_61 ml_RX5_121 mb_X0_beside (c_X0_beside (wR w x0 0) x2 w v8 w9 hc10) ⟨_, rfl, rfl⟩ g11 [] rfl rfl (Nat.le_of_ble_eq_true rfl) (by decide) (by decide) ?_
    refine x_aload_n (j := 0) (i := 0) dX5_hasItsNeed_64 rfl rfl ?_
    obtain ⟨g12, h⟩ := gd_some h
    refine x_getR (ci := 5) (k := 0) dX5_hasItsNeed_65 lf_RX5_9 rfl g12 ?_
    obtain ⟨g13, h⟩ := gd_some h
    refine x_getR (ci := 0) (k := 6) dX5_hasItsNeed_68 lf_RX5_66 rfl g13 ?_
    refine x_iconst (v := 2) dX5_hasItsNeed_71 (by decide) ?_
    obtain ⟨g14, h⟩ := gd_some h
    obtain ⟨g15, h⟩ := gd_some h
    refine x_lald dX5_hasItsNeed_72 g14 g15 ?_
    refine x_land dX5_hasItsNeed_73 ?_
    refine x_lconst (v := 0) dX5_hasItsNeed_74 (by decide) ?_
    refine x_lcmp dX5_hasItsNeed_75 ?_
    refine x_if_eq (tgt := 83) dX5_hasItsNeed_76 (by decide) (fun hc16 => ?_) (fun hc16 => ?_)
    · rw [if_pos hc16] at h
      refine x_iconst (v := 0) dX5_hasItsNeed_83 (by decide) ?_
      obtain ⟨hr9, hw9⟩ := Prod.mk.inj (Option.some.inj h)
      subst hw9
      subst hr9
      exact x_zret dX5_hasItsNeed_84 rfl (by decide) rfl
    · rw [if_neg hc16] at h
      refine x_iconst (v := 1) dX5_hasItsNeed_79 (by decide) ?_
      refine x_goto (tgt := 84) dX5_hasItsNeed_80 (by decide) ?_
      obtain ⟨hr9, hw9⟩ := Prod.mk.inj (Option.some.inj h)
      subst hw9
      subst hr9
      exact x_zret dX5_hasItsNeed_84 rfl (by decide) rfl
  rw [if_neg hc6] at h
  by_cases hc17 : (wI w x1 0) = (3 : Int32)
  · rw [if_pos hc17] at h
    refine x_tsw (off := 81) (tgt := 85) dX5_hasItsNeed_4 (by rw [hc17]; decide) (by rw [hc17]; decide) (by rw [hc17]; decide) (by decide) ?_
    refine x_aload_n (j := 0) (i := 0) dX5_hasItsNeed_85 rfl rfl ?_
    obtain ⟨g18, h⟩ := gd_some h
    refine x_getR (ci := 5) (k := 0) dX5_hasItsNeed_86 lf_RX5_9 rfl g18 ?_
    refine x_lload_n (j := 2) (i := 2) dX5_hasItsNeed_89 rfl rfl ?_
    obtain ⟨g22, h⟩ := gd_some h
    obtain ⟨v19, w20, hc21, h⟩ := bd_s h
    refine x_callVL (ci := 0) dX5_hasItsNeed_90 ml_RX5_121 mb_X0_beside (c_X0_beside (wR w x0 0) x2 w v19 w20 hc21) ⟨_, rfl, rfl⟩ g22 [] rfl rfl (Nat.le_of_ble_eq_true rfl) (by decide) (by decide) ?_
    refine x_aload_n (j := 0) (i := 0) dX5_hasItsNeed_93 rfl rfl ?_
    obtain ⟨g23, h⟩ := gd_some h
    refine x_getR (ci := 5) (k := 0) dX5_hasItsNeed_94 lf_RX5_9 rfl g23 ?_
    obtain ⟨g24, h⟩ := gd_some h
    refine x_getR (ci := 0) (k := 6) dX5_hasItsNeed_97 lf_RX5_66 rfl g24 ?_
    refine x_iconst (v := 3) dX5_hasItsNeed_100 (by decide) ?_
    obtain ⟨g25, h⟩ := gd_some h
    obtain ⟨g26, h⟩ := gd_some h
    refine x_lald dX5_hasItsNeed_101 g25 g26 ?_
    refine x_land dX5_hasItsNeed_102 ?_
    refine x_lconst (v := 0) dX5_hasItsNeed_103 (by decide) ?_
    refine x_lcmp dX5_hasItsNeed_104 ?_
    refine x_if_eq (tgt := 112) dX5_hasItsNeed_105 (by decide) (fun hc27 => ?_) (fun hc27 => ?_)
    · rw [if_pos hc27] at h
      refine x_iconst (v := 0) dX5_hasItsNeed_112 (by decide) ?_
      obtain ⟨hr9, hw9⟩ := Prod.mk.inj (Option.some.inj h)
      subst hw9
      subst hr9
      exact x_zret dX5_hasItsNeed_113 rfl (by decide) rfl
    · rw [if_neg hc27] at h
      refine x_iconst (v := 1) dX5_hasItsNeed_108 (by decide) ?_
      refine x_goto (tgt := 113) dX5_hasItsNeed_109 (by decide) ?_
      obtain ⟨hr9, hw9⟩ := Prod.mk.inj (Option.some.inj h)
      subst hw9
      subst hr9
      exact x_zret dX5_hasItsNeed_113 rfl (by decide) rfl
  rw [if_neg hc17] at h
  by_cases hc28 : (wI w x1 0) = (4 : Int32)
  · rw [if_pos hc28] at h
    refine x_tsw (off := 110) (tgt := 114) dX5_hasItsNeed_4 (by rw [hc28]; decide) (by rw [hc28]; decide) (by rw [hc28]; decide) (by decide) ?_
    refine x_aload_n (j := 0) (i := 0) dX5_hasItsNeed_114 rfl rfl ?_
    refine x_aload_n (j := 1) (i := 1) dX5_hasItsNeed_115 rfl rfl ?_
    refine x_iconst (v := 0) dX5_hasItsNeed_116 (by decide) ?_
    obtain ⟨g32, h⟩ := gd_some h
    obtain ⟨v29, w30, hc31, h⟩ := bd_s h
    refine x_callVI (ci := 5) dX5_hasItsNeed_117 ml_RX5_91 mb_X5_hasKinLaid (c_X5_hasKinLaid x0 x1 (0 : Int32) w v29 w30 hc31) ⟨_, rfl, rfl⟩ g32 [] rfl rfl (Nat.le_of_ble_eq_true rfl) (by decide) (by decide) ?_
    refine x_if_ne (tgt := 127) dX5_hasItsNeed_120 (by decide) (fun hc33 => ?_) (fun hc33 => ?_)
    · rw [if_neg hc33] at h
      refine x_iconst (v := 0) dX5_hasItsNeed_127 (by decide) ?_
      obtain ⟨hr9, hw9⟩ := Prod.mk.inj (Option.some.inj h)
      subst hw9
      subst hr9
      exact x_zret dX5_hasItsNeed_128 rfl (by decide) rfl
    · rw [if_pos hc33] at h
      refine x_iconst (v := 1) dX5_hasItsNeed_123 (by decide) ?_
      refine x_goto (tgt := 128) dX5_hasItsNeed_124 (by decide) ?_
      obtain ⟨hr9, hw9⟩ := Prod.mk.inj (Option.some.inj h)
      subst hw9
      subst hr9
      exact x_zret dX5_hasItsNeed_128 rfl (by decide) rfl
  rw [if_neg hc28] at h
  refine x_tswD (tgt := 129) dX5_hasItsNeed_4 (by have t1 := lv_neT hc2 (by decide : (1 : Int32).toInt = 1); have t2 := lv_neT hc6 (by decide : (2 : Int32).toInt = 2); have t3 := lv_neT hc17 (by decide : (3 : Int32).toInt = 3); have t4 := lv_neT hc28 (by decide : (4 : Int32).toInt = 4); omega) (by decide) ?_
  refine x_iconst (v := 1) dX5_hasItsNeed_129 (by decide) ?_
  obtain ⟨hr9, hw9⟩ := Prod.mk.inj (Option.some.inj h)
  subst hw9
  subst hr9
  exact x_zret dX5_hasItsNeed_130 rfl (by decide) rfl
set_option maxRecDepth 20000 in
theorem c_X5_hindrance (x0 : Nat) (x1 : Nat) (x2 : Int32) (w : xSt) (rE : Int32) (wE : xSt) (h : f_X5_hindrance x0 x1 x2 w = some (rE, wE)) : xCall yX5_hindrance cX5_hindrance 5 (some .int) 3 0 0 [xR x0, xR x1, xI x2] w (some (xI rE), wE) := by
  refine xCall_of false (by decide) (fun q => nomatch q) (Nat.le_of_ble_eq_true rfl) ?_
  show xX cX5_hindrance 5 (some .int) RX5 false (xRm 3 0 0) (xZf (some (xI rE), wE) 0 0) 0 [(0, xR x0), (1, xR x1), (2, xI x2)] [] w 0 0
  unfold f_X5_hindrance at h
  refine x_aload_n (j := 0) (i := 0) dX5_hindrance_0 rfl rfl ?_
  obtain ⟨g1, h⟩ := gd_some h
  refine x_getR (ci := 5) (k := 0) dX5_hindrance_1 lf_RX5_9 rfl g1 ?_
  refine x_iload_n (j := 2) (i := 2) dX5_hindrance_4 rfl rfl ?_
  refine x_aload_n (j := 1) (i := 1) dX5_hindrance_5 rfl rfl ?_
  obtain ⟨g2, h⟩ := gd_some h
  refine x_getI (ci := 6) (k := 3) dX5_hindrance_6 lf_RX5_31 rfl g2 ?_
  refine x_aload_n (j := 1) (i := 1) dX5_hindrance_9 rfl rfl ?_
  refine x_getI (ci := 6) (k := 4) dX5_hindrance_10 lf_RX5_34 rfl g2 ?_
  obtain ⟨g6, h⟩ := gd_some h
  obtain ⟨v3, w4, hc5, h⟩ := bd_s h
  refine x_callVL (ci := 0) dX5_hindrance_13 ml_RX5_37 mb_X0_area (c_X0_area (wR w x0 0) x2 (wI w x1 3) (wI w x1 4) w v3 w4 hc5) ⟨_, rfl, rfl⟩ g6 [] rfl rfl (Nat.le_of_ble_eq_true rfl) (by decide) (by decide) ?_
  refine x_lstore_n (i := 3) (lv2 := [(3, xL v3), (0, xR x0), (1, xR x1), (2, xI x2)]) dX5_hindrance_16 rfl (by decide) rfl ?_
  refine x_lload_n (j := 0) (i := 3) dX5_hindrance_17 rfl rfl ?_
  refine x_lconst (v := 0) dX5_hindrance_18 (by decide) ?_
  refine x_lcmp dX5_hindrance_19 ?_
  refine x_if_ne (tgt := 25) dX5_hindrance_20 (by decide) (fun hc7 => ?_) (fun hc7 => ?_)
  · rw [if_neg hc7] at h
    refine x_lload_n (j := 0) (i := 3) dX5_hindrance_25 rfl rfl ?_
    refine x_aload_n (j := 1) (i := 0) dX5_hindrance_26 rfl rfl ?_
    obtain ⟨g8, h⟩ := gd_some h
    refine x_getR (ci := 5) (k := 0) dX5_hindrance_27 lf_RX5_9 rfl g8 ?_
    obtain ⟨g9, h⟩ := gd_some h
    refine x_getR (ci := 0) (k := 6) dX5_hindrance_30 lf_RX5_66 rfl g9 ?_
    refine x_iconst (v := 0) dX5_hindrance_33 (by decide) ?_
    obtain ⟨g10, h⟩ := gd_some h
    obtain ⟨g11, h⟩ := gd_some h
    refine x_lald dX5_hindrance_34 g10 g11 ?_
    refine x_ldc2 dX5_hindrance_35 lc_RX5_70 ?_
    refine x_lxor dX5_hindrance_38 ?_
    refine x_land dX5_hindrance_39 ?_
    refine x_lconst (v := 0) dX5_hindrance_40 (by decide) ?_
    refine x_lcmp dX5_hindrance_41 ?_
    refine x_if_eq (tgt := 47) dX5_hindrance_42 (by decide) (fun hc12 => ?_) (fun hc12 => ?_)
    · rw [if_pos hc12] at h
      refine x_lload_n (j := 0) (i := 3) dX5_hindrance_47 rfl rfl ?_
      refine x_aload_n (j := 1) (i := 0) dX5_hindrance_48 rfl rfl ?_
      refine x_aload_n (j := 2) (i := 1) dX5_hindrance_49 rfl rfl ?_
      obtain ⟨v13, w14, hc15, h⟩ := bd_s h
      refine x_callVL (ci := 5) dX5_hindrance_50 ml_RX5_72 mb_X5_covered (c_X5_covered x0 x1 w4 v13 w14 hc15) ⟨_, rfl, rfl⟩ g8 [xL v3] rfl rfl (Nat.le_of_ble_eq_true rfl) (by decide) (by decide) ?_
      refine x_land dX5_hindrance_53 ?_
      refine x_lconst (v := 0) dX5_hindrance_54 (by decide) ?_
      refine x_lcmp dX5_hindrance_55 ?_
      refine x_if_eq (tgt := 61) dX5_hindrance_56 (by decide) (fun hc16 => ?_) (fun hc16 => ?_)
      · rw [if_pos hc16] at h
        refine x_aload_n (j := 1) (i := 0) dX5_hindrance_61 rfl rfl ?_
        refine x_aload_n (j := 2) (i := 1) dX5_hindrance_62 rfl rfl ?_
        refine x_iload_n (j := 3) (i := 2) dX5_hindrance_63 rfl rfl ?_
        obtain ⟨g20, h⟩ := gd_some h
        obtain ⟨v17, w18, hc19, h⟩ := bd_s h
        refine x_callVI (ci := 5) dX5_hindrance_64 ml_RX5_76 mb_X5_isTooNear (c_X5_isTooNear x0 x1 x2 w14 v17 w18 hc19) ⟨_, rfl, rfl⟩ g20 [] rfl rfl (Nat.le_of_ble_eq_true rfl) (by decide) (by decide) ?_
        refine x_if_eq (tgt := 72) dX5_hindrance_67 (by decide) (fun hc21 => ?_) (fun hc21 => ?_)
        · rw [if_pos hc21] at h
          refine x_aload_n (j := 1) (i := 0) dX5_hindrance_72 rfl rfl ?_
          obtain ⟨g22, h⟩ := gd_some h
          refine x_getR (ci := 5) (k := 0) dX5_hindrance_73 lf_RX5_9 rfl g22 ?_
          refine x_lload_n (j := 0) (i := 3) dX5_hindrance_76 rfl rfl ?_
          refine x_aload_n (j := 2) (i := 1) dX5_hindrance_77 rfl rfl ?_
          obtain ⟨g23, h⟩ := gd_some h
          refine x_getI (ci := 6) (k := 5) dX5_hindrance_78 lf_RX5_80 rfl g23 ?_
          obtain ⟨g27, h⟩ := gd_some h
          obtain ⟨v24, w25, hc26, h⟩ := bd_s h
          refine x_callVI (ci := 0) dX5_hindrance_81 ml_RX5_83 mb_X0_carries (c_X0_carries (wR w18 x0 0) v3 (wI w18 x1 5) w18 v24 w25 hc26) ⟨_, rfl, rfl⟩ g27 [] rfl rfl (Nat.le_of_ble_eq_true rfl) (by decide) (by decide) ?_
          refine x_if_ne (tgt := 89) dX5_hindrance_84 (by decide) (fun hc28 => ?_) (fun hc28 => ?_)
          · rw [if_neg hc28] at h
            refine x_aload_n (j := 1) (i := 0) dX5_hindrance_89 rfl rfl ?_
            refine x_aload_n (j := 2) (i := 1) dX5_hindrance_90 rfl rfl ?_
            refine x_lload_n (j := 0) (i := 3) dX5_hindrance_91 rfl rfl ?_
            obtain ⟨g32, h⟩ := gd_some h
            obtain ⟨v29, w30, hc31, h⟩ := bd_s h
            refine x_callVI (ci := 5) dX5_hindrance_92 ml_RX5_87 mb_X5_hasItsNeed (c_X5_hasItsNeed x0 x1 v3 w25 v29 w30 hc31) ⟨_, rfl, rfl⟩ g32 [] rfl rfl (Nat.le_of_ble_eq_true rfl) (by decide) (by decide) ?_
            refine x_if_ne (tgt := 101) dX5_hindrance_95 (by decide) (fun hc33 => ?_) (fun hc33 => ?_)
            · rw [if_neg hc33] at h
              refine x_aload_n (j := 1) (i := 0) dX5_hindrance_101 rfl rfl ?_
              refine x_aload_n (j := 2) (i := 1) dX5_hindrance_102 rfl rfl ?_
              refine x_iconst (v := 1) dX5_hindrance_103 (by decide) ?_
              obtain ⟨g37, h⟩ := gd_some h
              obtain ⟨v34, w35, hc36, h⟩ := bd_s h
              refine x_callVI (ci := 5) dX5_hindrance_104 ml_RX5_91 mb_X5_hasKinLaid (c_X5_hasKinLaid x0 x1 (1 : Int32) w30 v34 w35 hc36) ⟨_, rfl, rfl⟩ g37 [] rfl rfl (Nat.le_of_ble_eq_true rfl) (by decide) (by decide) ?_
              refine x_if_eq (tgt := 115) dX5_hindrance_107 (by decide) (fun hc38 => ?_) (fun hc38 => ?_)
              · rw [if_pos hc38] at h
                refine x_iconst (v := 0) dX5_hindrance_115 (by decide) ?_
                obtain ⟨hr9, hw9⟩ := Prod.mk.inj (Option.some.inj h)
                subst hw9
                subst hr9
                exact x_iret dX5_hindrance_116 rfl rfl
              · rw [if_neg hc38] at h
                refine x_bipush (v := 7) dX5_hindrance_110 (by decide) ?_
                refine x_goto (tgt := 116) dX5_hindrance_112 (by decide) ?_
                obtain ⟨hr9, hw9⟩ := Prod.mk.inj (Option.some.inj h)
                subst hw9
                subst hr9
                exact x_iret dX5_hindrance_116 rfl rfl
            · rw [if_pos hc33] at h
              refine x_bipush (v := 6) dX5_hindrance_98 (by decide) ?_
              obtain ⟨hr9, hw9⟩ := Prod.mk.inj (Option.some.inj h)
              subst hw9
              subst hr9
              exact x_iret dX5_hindrance_100 rfl rfl
          · rw [if_pos hc28] at h
            refine x_iconst (v := 5) dX5_hindrance_87 (by decide) ?_
            obtain ⟨hr9, hw9⟩ := Prod.mk.inj (Option.some.inj h)
            subst hw9
            subst hr9
            exact x_iret dX5_hindrance_88 rfl rfl
        · rw [if_neg hc21] at h
          refine x_iconst (v := 4) dX5_hindrance_70 (by decide) ?_
          obtain ⟨hr9, hw9⟩ := Prod.mk.inj (Option.some.inj h)
          subst hw9
          subst hr9
          exact x_iret dX5_hindrance_71 rfl rfl
      · rw [if_neg hc16] at h
        refine x_iconst (v := 3) dX5_hindrance_59 (by decide) ?_
        obtain ⟨hr9, hw9⟩ := Prod.mk.inj (Option.some.inj h)
        subst hw9
        subst hr9
        exact x_iret dX5_hindrance_60 rfl rfl
    · rw [if_neg hc12] at h
      refine x_iconst (v := 2) dX5_hindrance_45 (by decide) ?_
      obtain ⟨hr9, hw9⟩ := Prod.mk.inj (Option.some.inj h)
      subst hw9
      subst hr9
      exact x_iret dX5_hindrance_46 rfl rfl
  · rw [if_pos hc7] at h
    refine x_iconst (v := 1) dX5_hindrance_23 (by decide) ?_
    obtain ⟨hr9, hw9⟩ := Prod.mk.inj (Option.some.inj h)
    subst hw9
    subst hr9
    exact x_iret dX5_hindrance_24 rfl rfl
set_option maxRecDepth 20000 in
theorem c_J9_abs_0f7a4 (x0 : Int32) (w : xSt) (rE : Int32) (wE : xSt) (h : f_J9_abs_0f7a4 x0 w = some (rE, wE)) : xCall yJ9_abs_0f7a4 cJ9_abs_0f7a4 1 (some .int) 0 0 0 [xI x0] w (some (xI rE), wE) := by
  refine xCall_ofF false (by decide +kernel) (fun q => nomatch q) (Nat.le_of_ble_eq_true rfl) ?_
  show xX cJ9_abs_0f7a4 1 (some .int) RJ9 false (xRm 0 0 0) (xZf (some (xI rE), wE) 0 0) 0 [(0, xI x0)] [] w 0 0
  unfold f_J9_abs_0f7a4 at h
  refine x_iload_n (j := 0) (i := 0) dJ9_abs_0f7a4_0 rfl rfl ?_
  refine x_if_ge (tgt := 9) dJ9_abs_0f7a4_1 (by decide) (fun hc1 => ?_) (fun hc1 => ?_)
  · rw [if_pos hc1] at h
    refine x_iload_n (j := 0) (i := 0) dJ9_abs_0f7a4_9 rfl rfl ?_
    obtain ⟨hr9, hw9⟩ := Prod.mk.inj (Option.some.inj h)
    subst hw9
    subst hr9
    exact x_iret dJ9_abs_0f7a4_10 rfl rfl
  · rw [if_neg hc1] at h
    refine x_iload_n (j := 0) (i := 0) dJ9_abs_0f7a4_4 rfl rfl ?_
    refine x_ineg dJ9_abs_0f7a4_5 ?_
    refine x_goto (tgt := 10) dJ9_abs_0f7a4_6 (by decide) ?_
    obtain ⟨hr9, hw9⟩ := Prod.mk.inj (Option.some.inj h)
    subst hw9
    subst hr9
    exact x_iret dJ9_abs_0f7a4_10 rfl rfl
set_option maxRecDepth 20000 in
theorem c_X5_distance (x0 : Nat) (x1 : Int32) (x2 : Int32) (w : xSt) (rE : Int32) (wE : xSt) (h : f_X5_distance x0 x1 x2 w = some (rE, wE)) : xCall yX5_distance cX5_distance 3 (some .int) 1 0 0 [xR x0, xI x1, xI x2] w (some (xI rE), wE) := by
  refine xCall_of false (by decide) (fun q => nomatch q) (Nat.le_of_ble_eq_true rfl) ?_
  show xX cX5_distance 3 (some .int) RX5 false (xRm 1 0 0) (xZf (some (xI rE), wE) 0 0) 0 [(0, xR x0), (1, xI x1), (2, xI x2)] [] w 0 0
  unfold f_X5_distance at h
  refine x_aload_n (j := 0) (i := 0) dX5_distance_0 rfl rfl ?_
  obtain ⟨g1, h⟩ := gd_some h
  refine x_getR (ci := 5) (k := 0) dX5_distance_1 lf_RX5_9 rfl g1 ?_
  refine x_iload_n (j := 1) (i := 1) dX5_distance_4 rfl rfl ?_
  obtain ⟨g5, h⟩ := gd_some h
  obtain ⟨v2, w3, hc4, h⟩ := bd_s h
  refine x_callVI (ci := 0) dX5_distance_5 ml_RX5_98 mb_X0_columnOf (c_X0_columnOf (wR w x0 0) x1 w v2 w3 hc4) ⟨_, rfl, rfl⟩ g5 [] rfl rfl (Nat.le_of_ble_eq_true rfl) (by decide) (by decide) ?_
  refine x_aload_n (j := 0) (i := 0) dX5_distance_8 rfl rfl ?_
  obtain ⟨g6, h⟩ := gd_some h
  refine x_getR (ci := 5) (k := 0) dX5_distance_9 lf_RX5_9 rfl g6 ?_
  refine x_iload_n (j := 2) (i := 2) dX5_distance_12 rfl rfl ?_
  obtain ⟨g10, h⟩ := gd_some h
  obtain ⟨v7, w8, hc9, h⟩ := bd_s h
  refine x_callVI (ci := 0) dX5_distance_13 ml_RX5_98 mb_X0_columnOf (c_X0_columnOf (wR w3 x0 0) x2 w3 v7 w8 hc9) ⟨_, rfl, rfl⟩ g10 [xI v2] rfl rfl (Nat.le_of_ble_eq_true rfl) (by decide) (by decide) ?_
  refine x_isub dX5_distance_16 ?_
  obtain ⟨v11, w12, hc13, h⟩ := bd_s h
  refine x_callSI dX5_distance_17 ml_RX5_136 mb_J9_abs_0f7a4 (c_J9_abs_0f7a4 (v2 - v7) w8 v11 w12 hc13) [] rfl rfl (Nat.le_of_ble_eq_true rfl) (by decide) (by decide) ?_
  refine x_aload_n (j := 0) (i := 0) dX5_distance_20 rfl rfl ?_
  obtain ⟨g14, h⟩ := gd_some h
  refine x_getR (ci := 5) (k := 0) dX5_distance_21 lf_RX5_9 rfl g14 ?_
  refine x_iload_n (j := 1) (i := 1) dX5_distance_24 rfl rfl ?_
  obtain ⟨g18, h⟩ := gd_some h
  obtain ⟨v15, w16, hc17, h⟩ := bd_s h
  refine x_callVI (ci := 0) dX5_distance_25 ml_RX5_106 mb_X0_lineOf (c_X0_lineOf (wR w12 x0 0) x1 w12 v15 w16 hc17) ⟨_, rfl, rfl⟩ g18 [xI v11] rfl rfl (Nat.le_of_ble_eq_true rfl) (by decide) (by decide) ?_
  refine x_aload_n (j := 0) (i := 0) dX5_distance_28 rfl rfl ?_
  obtain ⟨g19, h⟩ := gd_some h
  refine x_getR (ci := 5) (k := 0) dX5_distance_29 lf_RX5_9 rfl g19 ?_
  refine x_iload_n (j := 2) (i := 2) dX5_distance_32 rfl rfl ?_
  obtain ⟨g23, h⟩ := gd_some h
  obtain ⟨v20, w21, hc22, h⟩ := bd_s h
  refine x_callVI (ci := 0) dX5_distance_33 ml_RX5_106 mb_X0_lineOf (c_X0_lineOf (wR w16 x0 0) x2 w16 v20 w21 hc22) ⟨_, rfl, rfl⟩ g23 [xI v15, xI v11] rfl rfl (Nat.le_of_ble_eq_true rfl) (by decide) (by decide) ?_
  refine x_isub dX5_distance_36 ?_
  obtain ⟨v24, w25, hc26, h⟩ := bd_s h
  refine x_callSI dX5_distance_37 ml_RX5_136 mb_J9_abs_0f7a4 (c_J9_abs_0f7a4 (v15 - v20) w21 v24 w25 hc26) [xI v11] rfl rfl (Nat.le_of_ble_eq_true rfl) (by decide) (by decide) ?_
  refine x_iadd dX5_distance_40 ?_
  obtain ⟨hr9, hw9⟩ := Prod.mk.inj (Option.some.inj h)
  subst hw9
  subst hr9
  exact x_iret dX5_distance_41 rfl rfl
set_option maxRecDepth 20000 in
theorem k_X6_tiesTo_b16 (rE : Int32) (wE : xSt) (x0 : Nat) (x1 : Nat) (s0 : Int32) (w : xSt) (h : f_X6_tiesTo_b16 x0 x1 s0 w = some (rE, wE)) : xX cX6_tiesTo 2 (some .int) RX6 false (xRm 0 0 0) (xZf (some (xI rE), wE) 0 0) 16 [(0, xR x0), (1, xR x1)] [xI s0] w 0 0 := by
  unfold f_X6_tiesTo_b16 at h
  refine x_aload_n (j := 0) (i := 0) dX6_tiesTo_16 rfl rfl ?_
  obtain ⟨g4, h⟩ := gd_some h
  refine x_getI (ci := 6) (k := 1) dX6_tiesTo_17 lf_RX6_15 rfl g4 ?_
  refine x_aload_n (j := 1) (i := 1) dX6_tiesTo_20 rfl rfl ?_
  obtain ⟨g5, h⟩ := gd_some h
  refine x_getI (ci := 6) (k := 1) dX6_tiesTo_21 lf_RX6_15 rfl g5 ?_
  refine x_icmp_ne (tgt := 31) dX6_tiesTo_24 (by decide) (fun hc6 => ?_) (fun hc6 => ?_)
  · rw [if_neg hc6] at h
    refine x_iconst (v := 0) dX6_tiesTo_31 (by decide) ?_
    refine x_iadd dX6_tiesTo_32 ?_
    obtain ⟨hr9, hw9⟩ := Prod.mk.inj (Option.some.inj h)
    subst hw9
    subst hr9
    exact x_iret dX6_tiesTo_33 rfl rfl
  · rw [if_pos hc6] at h
    refine x_iconst (v := 1) dX6_tiesTo_27 (by decide) ?_
    refine x_goto (tgt := 32) dX6_tiesTo_28 (by decide) ?_
    refine x_iadd dX6_tiesTo_32 ?_
    obtain ⟨hr9, hw9⟩ := Prod.mk.inj (Option.some.inj h)
    subst hw9
    subst hr9
    exact x_iret dX6_tiesTo_33 rfl rfl
set_option maxRecDepth 20000 in
theorem c_X6_tiesTo (x0 : Nat) (x1 : Nat) (w : xSt) (rE : Int32) (wE : xSt) (h : f_X6_tiesTo x0 x1 w = some (rE, wE)) : xCall yX6_tiesTo cX6_tiesTo 2 (some .int) 0 0 0 [xR x0, xR x1] w (some (xI rE), wE) := by
  refine xCall_of false (by decide) (fun q => nomatch q) (Nat.le_of_ble_eq_true rfl) ?_
  show xX cX6_tiesTo 2 (some .int) RX6 false (xRm 0 0 0) (xZf (some (xI rE), wE) 0 0) 0 [(0, xR x0), (1, xR x1)] [] w 0 0
  unfold f_X6_tiesTo at h
  refine x_aload_n (j := 0) (i := 0) dX6_tiesTo_0 rfl rfl ?_
  obtain ⟨g1, h⟩ := gd_some h
  refine x_getI (ci := 6) (k := 2) dX6_tiesTo_1 lf_RX6_18 rfl g1 ?_
  refine x_aload_n (j := 1) (i := 1) dX6_tiesTo_4 rfl rfl ?_
  obtain ⟨g2, h⟩ := gd_some h
  refine x_getI (ci := 6) (k := 2) dX6_tiesTo_5 lf_RX6_18 rfl g2 ?_
  refine x_icmp_ne (tgt := 15) dX6_tiesTo_8 (by decide) (fun hc3 => ?_) (fun hc3 => ?_)
  · rw [if_neg hc3] at h
    refine x_iconst (v := 0) dX6_tiesTo_15 (by decide) ?_
    refine x_lv (lv2 := [(0, xR x0), (1, xR x1)]) [0, 1] rfl ?_
    exact k_X6_tiesTo_b16 rE wE x0 x1 (0 : Int32) w h
  · rw [if_pos hc3] at h
    refine x_iconst (v := 1) dX6_tiesTo_11 (by decide) ?_
    refine x_goto (tgt := 16) dX6_tiesTo_12 (by decide) ?_
    refine x_lv (lv2 := [(0, xR x0), (1, xR x1)]) [0, 1] rfl ?_
    exact k_X6_tiesTo_b16 rE wE x0 x1 (1 : Int32) w h
