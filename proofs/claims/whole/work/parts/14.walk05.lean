set_option maxRecDepth 20000 in
theorem k_X5_shareAt_l5 (rE : Int32) (wE : xSt) : ∀ (n : Nat) (x0 : Nat) (x1 : Nat) (x2 : Int32) (x3 : Int32) (x4 : Int32) (w : xSt), f_X5_shareAt_l5 n x0 x1 x2 x3 x4 w = some (rE, wE) → xX cX5_shareAt 6 (some .int) RX5 false (xRm 2 0 0) (xZf (some (xI rE), wE) 0 0) 5 [(0, xR x0), (1, xR x1), (2, xI x2), (3, xI x3), (4, xI x4)] [] w 0 0 := by
  intro n
  induction n with
  | zero => intro x0 x1 x2 x3 x4 w h; exact nomatch (show (none : Option (Int32 × xSt)) = some (rE, wE) from h)
  | succ n ih =>
    intro x0 x1 x2 x3 x4 w h
    rw [f_X5_shareAt_l5_s] at h
    refine x_iload (j := 4) (i := 4) dX5_shareAt_5 rfl ?_
    refine x_aload_n (j := 0) (i := 0) dX5_shareAt_7 rfl rfl ?_
    obtain ⟨g1, h⟩ := gd_some h
    refine x_getI (ci := 5) (k := 2) dX5_shareAt_8 lf_RX5_25 rfl g1 ?_
    refine x_icmp_ge (tgt := 63) dX5_shareAt_11 (by decide) (fun hc2 => ?_) (fun hc2 => ?_)
    · rw [if_pos hc2] at h
      refine x_iload_n (j := 3) (i := 3) dX5_shareAt_63 rfl rfl ?_
      obtain ⟨hr9, hw9⟩ := Prod.mk.inj (Option.some.inj h)
      subst hw9
      subst hr9
      exact x_iret dX5_shareAt_64 rfl rfl
    · rw [if_neg hc2] at h
      refine x_aload_n (j := 0) (i := 0) dX5_shareAt_14 rfl rfl ?_
      refine x_getR (ci := 5) (k := 1) dX5_shareAt_15 lf_RX5_17 rfl g1 ?_
      refine x_iload (j := 4) (i := 4) dX5_shareAt_18 rfl ?_
      obtain ⟨g3, h⟩ := gd_some h
      obtain ⟨g4, h⟩ := gd_some h
      refine x_qald24 dX5_shareAt_20 g3 g4 ?_
      refine x_astore (i := 5) (lv2 := [(5, xR (wR w (wR w x0 1) x4.toNatClampNeg)), (0, xR x0), (1, xR x1), (2, xI x2), (3, xI x3), (4, xI x4)]) dX5_shareAt_21 (by decide) rfl ?_
      refine x_aload (j := 0) (i := 5) dX5_shareAt_23 rfl ?_
      refine x_aload_n (j := 2) (i := 1) dX5_shareAt_25 rfl rfl ?_
      obtain ⟨g5, h⟩ := gd_some h
      obtain ⟨g6, h⟩ := gd_some h
      refine x_acmp_eq (tgt := 57) dX5_shareAt_26 (by decide) g5 g6 (fun hc7 => ?_) (fun hc7 => ?_)
      · rw [if_pos hc7] at h
        refine x_iinc (j := 5) (i := 4) (v := x4 + (1 : Int32)) (lv2 := [(4, xI (x4 + (1 : Int32))), (5, xR (wR w (wR w x0 1) x4.toNatClampNeg)), (0, xR x0), (1, xR x1), (2, xI x2), (3, xI x3)]) dX5_shareAt_57 rfl rfl (by decide) rfl ?_
        refine x_goto (tgt := 5) dX5_shareAt_60 (by decide) ?_
        refine x_lv (lv2 := [(0, xR x0), (1, xR x1), (2, xI x2), (3, xI x3), (4, xI (x4 + (1 : Int32)))]) [2, 3, 4, 5, 0] rfl ?_
        exact ih x0 x1 x2 x3 (x4 + (1 : Int32)) w h
      · rw [if_neg hc7] at h
        refine x_aload (j := 0) (i := 5) dX5_shareAt_29 rfl ?_
        obtain ⟨g11, h⟩ := gd_some h
        obtain ⟨v8, w9, hc10, h⟩ := bd_s h
        refine x_callVI (ci := 6) dX5_shareAt_31 ml_RX5_47 mb_X6_isLaid (c_X6_isLaid (wR w (wR w x0 1) x4.toNatClampNeg) w v8 w9 hc10) ⟨_, rfl, rfl⟩ g11 [] rfl rfl (Nat.le_of_ble_eq_true rfl) (by decide) (by decide) ?_
        refine x_if_eq (tgt := 57) dX5_shareAt_34 (by decide) (fun hc12 => ?_) (fun hc12 => ?_)
        · rw [if_pos hc12] at h
          refine x_iinc (j := 5) (i := 4) (v := x4 + (1 : Int32)) (lv2 := [(4, xI (x4 + (1 : Int32))), (5, xR (wR w (wR w x0 1) x4.toNatClampNeg)), (0, xR x0), (1, xR x1), (2, xI x2), (3, xI x3)]) dX5_shareAt_57 rfl rfl (by decide) rfl ?_
          refine x_goto (tgt := 5) dX5_shareAt_60 (by decide) ?_
          refine x_lv (lv2 := [(0, xR x0), (1, xR x1), (2, xI x2), (3, xI x3), (4, xI (x4 + (1 : Int32)))]) [2, 3, 4, 5, 0] rfl ?_
          exact ih x0 x1 x2 x3 (x4 + (1 : Int32)) w9 h
        · rw [if_neg hc12] at h
          refine x_iload_n (j := 4) (i := 3) dX5_shareAt_37 rfl rfl ?_
          refine x_aload_n (j := 1) (i := 0) dX5_shareAt_38 rfl rfl ?_
          refine x_iload_n (j := 3) (i := 2) dX5_shareAt_39 rfl rfl ?_
          refine x_aload (j := 0) (i := 5) dX5_shareAt_40 rfl ?_
          obtain ⟨g13, h⟩ := gd_some h
          refine x_getI (ci := 6) (k := 6) dX5_shareAt_42 lf_RX5_28 rfl g13 ?_
          obtain ⟨g17, h⟩ := gd_some h
          obtain ⟨v14, w15, hc16, h⟩ := bd_s h
          refine x_callVI (ci := 5) dX5_shareAt_45 ml_RX5_129 mb_X5_distance (c_X5_distance x0 x2 (wI w9 (wR w (wR w x0 1) x4.toNatClampNeg) 6) w9 v14 w15 hc16) ⟨_, rfl, rfl⟩ g17 [xI x3] rfl rfl (Nat.le_of_ble_eq_true rfl) (by decide) (by decide) ?_
          refine x_aload_n (j := 2) (i := 1) dX5_shareAt_48 rfl rfl ?_
          refine x_aload (j := 0) (i := 5) dX5_shareAt_49 rfl ?_
          obtain ⟨g21, h⟩ := gd_some h
          obtain ⟨v18, w19, hc20, h⟩ := bd_s h
          refine x_callVI (ci := 6) dX5_shareAt_51 ml_RX5_132 mb_X6_tiesTo (c_X6_tiesTo x1 (wR w (wR w x0 1) x4.toNatClampNeg) w15 v18 w19 hc20) ⟨_, rfl, rfl⟩ g21 [xI v14, xI x3] rfl rfl (Nat.le_of_ble_eq_true rfl) (by decide) (by decide) ?_
          refine x_imul dX5_shareAt_54 ?_
          refine x_iadd dX5_shareAt_55 ?_
          refine x_istore_n (i := 3) (lv2 := [(3, xI (x3 + (v14 * v18))), (5, xR (wR w (wR w x0 1) x4.toNatClampNeg)), (0, xR x0), (1, xR x1), (2, xI x2), (4, xI x4)]) dX5_shareAt_56 rfl (by decide) rfl ?_
          refine x_iinc (j := 5) (i := 4) (v := x4 + (1 : Int32)) (lv2 := [(4, xI (x4 + (1 : Int32))), (3, xI (x3 + (v14 * v18))), (5, xR (wR w (wR w x0 1) x4.toNatClampNeg)), (0, xR x0), (1, xR x1), (2, xI x2)]) dX5_shareAt_57 rfl rfl (by decide) rfl ?_
          refine x_goto (tgt := 5) dX5_shareAt_60 (by decide) ?_
          refine x_lv (lv2 := [(0, xR x0), (1, xR x1), (2, xI x2), (3, xI (x3 + (v14 * v18))), (4, xI (x4 + (1 : Int32)))]) [3, 4, 5, 1, 0] rfl ?_
          exact ih x0 x1 x2 (x3 + (v14 * v18)) (x4 + (1 : Int32)) w19 h
set_option maxRecDepth 20000 in
theorem c_X5_shareAt (x0 : Nat) (x1 : Nat) (x2 : Int32) (w : xSt) (rE : Int32) (wE : xSt) (h : f_X5_shareAt x0 x1 x2 w = some (rE, wE)) : xCall yX5_shareAt cX5_shareAt 6 (some .int) 2 0 0 [xR x0, xR x1, xI x2] w (some (xI rE), wE) := by
  refine xCall_of false (by decide) (fun q => nomatch q) (Nat.le_of_ble_eq_true rfl) ?_
  show xX cX5_shareAt 6 (some .int) RX5 false (xRm 2 0 0) (xZf (some (xI rE), wE) 0 0) 0 [(0, xR x0), (1, xR x1), (2, xI x2)] [] w 0 0
  unfold f_X5_shareAt at h
  refine x_iconst (v := 0) dX5_shareAt_0 (by decide) ?_
  refine x_istore_n (i := 3) (lv2 := [(3, xI (0 : Int32)), (0, xR x0), (1, xR x1), (2, xI x2)]) dX5_shareAt_1 rfl (by decide) rfl ?_
  refine x_iconst (v := 0) dX5_shareAt_2 (by decide) ?_
  refine x_istore (i := 4) (lv2 := [(4, xI (0 : Int32)), (3, xI (0 : Int32)), (0, xR x0), (1, xR x1), (2, xI x2)]) dX5_shareAt_3 (by decide) rfl ?_
  refine x_lv (lv2 := [(0, xR x0), (1, xR x1), (2, xI x2), (3, xI (0 : Int32)), (4, xI (0 : Int32))]) [2, 3, 4, 1, 0] rfl ?_
  exact k_X5_shareAt_l5 rE wE xFu x0 x1 x2 (0 : Int32) (0 : Int32) w h
set_option maxRecDepth 20000 in
theorem k_X5_wholePrice_l4 (rE : Int32) (wE : xSt) : ∀ (n : Nat) (x0 : Nat) (x1 : Int32) (x2 : Int32) (w : xSt), f_X5_wholePrice_l4 n x0 x1 x2 w = some (rE, wE) → xX cX5_wholePrice 3 (some .int) RX5 false (xRm 3 0 0) (xZf (some (xI rE), wE) 0 0) 4 [(0, xR x0), (1, xI x1), (2, xI x2)] [] w 0 0 := by
  intro n
  induction n with
  | zero => intro x0 x1 x2 w h; exact nomatch (show (none : Option (Int32 × xSt)) = some (rE, wE) from h)
  | succ n ih =>
    intro x0 x1 x2 w h
    rw [f_X5_wholePrice_l4_s] at h
    refine x_iload_n (j := 2) (i := 2) dX5_wholePrice_4 rfl rfl ?_
    refine x_aload_n (j := 0) (i := 0) dX5_wholePrice_5 rfl rfl ?_
    obtain ⟨g1, h⟩ := gd_some h
    refine x_getI (ci := 5) (k := 2) dX5_wholePrice_6 lf_RX5_25 rfl g1 ?_
    refine x_icmp_ge (tgt := 52) dX5_wholePrice_9 (by decide) (fun hc2 => ?_) (fun hc2 => ?_)
    · rw [if_pos hc2] at h
      refine x_iload_n (j := 1) (i := 1) dX5_wholePrice_52 rfl rfl ?_
      refine x_iconst (v := 2) dX5_wholePrice_53 (by decide) ?_
      refine x_idiv dX5_wholePrice_54 (by decide) ?_
      obtain ⟨hr9, hw9⟩ := Prod.mk.inj (Option.some.inj h)
      subst hw9
      subst hr9
      exact x_iret dX5_wholePrice_55 rfl rfl
    · rw [if_neg hc2] at h
      refine x_aload_n (j := 0) (i := 0) dX5_wholePrice_12 rfl rfl ?_
      refine x_getR (ci := 5) (k := 1) dX5_wholePrice_13 lf_RX5_17 rfl g1 ?_
      refine x_iload_n (j := 2) (i := 2) dX5_wholePrice_16 rfl rfl ?_
      obtain ⟨g3, h⟩ := gd_some h
      obtain ⟨g4, h⟩ := gd_some h
      refine x_qald24 dX5_wholePrice_17 g3 g4 ?_
      obtain ⟨g8, h⟩ := gd_some h
      obtain ⟨v5, w6, hc7, h⟩ := bd_s h
      refine x_callVI (ci := 6) dX5_wholePrice_18 ml_RX5_47 mb_X6_isLaid (c_X6_isLaid (wR w (wR w x0 1) x2.toNatClampNeg) w v5 w6 hc7) ⟨_, rfl, rfl⟩ g8 [] rfl rfl (Nat.le_of_ble_eq_true rfl) (by decide) (by decide) ?_
      refine x_if_eq (tgt := 46) dX5_wholePrice_21 (by decide) (fun hc9 => ?_) (fun hc9 => ?_)
      · rw [if_pos hc9] at h
        refine x_iinc (j := 2) (i := 2) (v := x2 + (1 : Int32)) (lv2 := [(2, xI (x2 + (1 : Int32))), (0, xR x0), (1, xI x1)]) dX5_wholePrice_46 rfl rfl (by decide) rfl ?_
        refine x_goto (tgt := 4) dX5_wholePrice_49 (by decide) ?_
        refine x_lv (lv2 := [(0, xR x0), (1, xI x1), (2, xI (x2 + (1 : Int32)))]) [1, 2, 0] rfl ?_
        exact ih x0 x1 (x2 + (1 : Int32)) w6 h
      · rw [if_neg hc9] at h
        refine x_iload_n (j := 1) (i := 1) dX5_wholePrice_24 rfl rfl ?_
        refine x_aload_n (j := 0) (i := 0) dX5_wholePrice_25 rfl rfl ?_
        refine x_aload_n (j := 0) (i := 0) dX5_wholePrice_26 rfl rfl ?_
        obtain ⟨g10, h⟩ := gd_some h
        refine x_getR (ci := 5) (k := 1) dX5_wholePrice_27 lf_RX5_17 rfl g10 ?_
        refine x_iload_n (j := 2) (i := 2) dX5_wholePrice_30 rfl rfl ?_
        obtain ⟨g11, h⟩ := gd_some h
        obtain ⟨g12, h⟩ := gd_some h
        refine x_qald24 dX5_wholePrice_31 g11 g12 ?_
        refine x_aload_n (j := 0) (i := 0) dX5_wholePrice_32 rfl rfl ?_
        refine x_getR (ci := 5) (k := 1) dX5_wholePrice_33 lf_RX5_17 rfl g10 ?_
        refine x_iload_n (j := 2) (i := 2) dX5_wholePrice_36 rfl rfl ?_
        refine x_qald24 dX5_wholePrice_37 g11 g12 ?_
        obtain ⟨g13, h⟩ := gd_some h
        refine x_getI (ci := 6) (k := 6) dX5_wholePrice_38 lf_RX5_28 rfl g13 ?_
        obtain ⟨v14, w15, hc16, h⟩ := bd_s h
        refine x_callVI (ci := 5) dX5_wholePrice_41 ml_RX5_139 mb_X5_shareAt (c_X5_shareAt x0 (wR w6 (wR w6 x0 1) x2.toNatClampNeg) (wI w6 (wR w6 (wR w6 x0 1) x2.toNatClampNeg) 6) w6 v14 w15 hc16) ⟨_, rfl, rfl⟩ g10 [xI x1] rfl rfl (Nat.le_of_ble_eq_true rfl) (by decide) (by decide) ?_
        refine x_iadd dX5_wholePrice_44 ?_
        refine x_istore_n (i := 1) (lv2 := [(1, xI (x1 + v14)), (0, xR x0), (2, xI x2)]) dX5_wholePrice_45 rfl (by decide) rfl ?_
        refine x_iinc (j := 2) (i := 2) (v := x2 + (1 : Int32)) (lv2 := [(2, xI (x2 + (1 : Int32))), (1, xI (x1 + v14)), (0, xR x0)]) dX5_wholePrice_46 rfl rfl (by decide) rfl ?_
        refine x_goto (tgt := 4) dX5_wholePrice_49 (by decide) ?_
        refine x_lv (lv2 := [(0, xR x0), (1, xI (x1 + v14)), (2, xI (x2 + (1 : Int32)))]) [2, 1, 0] rfl ?_
        exact ih x0 (x1 + v14) (x2 + (1 : Int32)) w15 h
set_option maxRecDepth 20000 in
theorem c_X5_wholePrice (x0 : Nat) (w : xSt) (rE : Int32) (wE : xSt) (h : f_X5_wholePrice x0 w = some (rE, wE)) : xCall yX5_wholePrice cX5_wholePrice 3 (some .int) 3 0 0 [xR x0] w (some (xI rE), wE) := by
  refine xCall_of false (by decide) (fun q => nomatch q) (Nat.le_of_ble_eq_true rfl) ?_
  show xX cX5_wholePrice 3 (some .int) RX5 false (xRm 3 0 0) (xZf (some (xI rE), wE) 0 0) 0 [(0, xR x0)] [] w 0 0
  unfold f_X5_wholePrice at h
  refine x_iconst (v := 0) dX5_wholePrice_0 (by decide) ?_
  refine x_istore_n (i := 1) (lv2 := [(1, xI (0 : Int32)), (0, xR x0)]) dX5_wholePrice_1 rfl (by decide) rfl ?_
  refine x_iconst (v := 0) dX5_wholePrice_2 (by decide) ?_
  refine x_istore_n (i := 2) (lv2 := [(2, xI (0 : Int32)), (1, xI (0 : Int32)), (0, xR x0)]) dX5_wholePrice_3 rfl (by decide) rfl ?_
  refine x_lv (lv2 := [(0, xR x0), (1, xI (0 : Int32)), (2, xI (0 : Int32))]) [2, 1, 0] rfl ?_
  exact k_X5_wholePrice_l4 rE wE xFu x0 (0 : Int32) (0 : Int32) w h
set_option maxRecDepth 20000 in
theorem k_X5_cheaperCell_l18 (rE : Int32) (wE : xSt) : ∀ (n : Nat) (x0 : Nat) (x1 : Nat) (x2 : Int32) (x3 : Int32) (w : xSt), f_X5_cheaperCell_l18 n x0 x1 x2 x3 w = some (rE, wE) → xX cX5_cheaperCell 4 (some .int) RX5 false (xRm 4 0 0) (xZf (some (xI rE), wE) 0 0) 18 [(0, xR x0), (1, xR x1), (2, xI x2), (3, xI x3)] [] w 0 0 := by
  intro n
  induction n with
  | zero => intro x0 x1 x2 x3 w h; exact nomatch (show (none : Option (Int32 × xSt)) = some (rE, wE) from h)
  | succ n ih =>
    intro x0 x1 x2 x3 w h
    rw [f_X5_cheaperCell_l18_s] at h
    refine x_iload_n (j := 3) (i := 3) dX5_cheaperCell_18 rfl rfl ?_
    refine x_aload_n (j := 0) (i := 0) dX5_cheaperCell_19 rfl rfl ?_
    obtain ⟨g7, h⟩ := gd_some h
    refine x_getR (ci := 5) (k := 0) dX5_cheaperCell_20 lf_RX5_9 rfl g7 ?_
    obtain ⟨g8, h⟩ := gd_some h
    refine x_getI (ci := 0) (k := 2) dX5_cheaperCell_23 lf_RX5_150 rfl g8 ?_
    refine x_icmp_ge (tgt := 56) dX5_cheaperCell_26 (by decide) (fun hc9 => ?_) (fun hc9 => ?_)
    · rw [if_pos hc9] at h
      refine x_iconst (v := -1) dX5_cheaperCell_56 (by decide) ?_
      obtain ⟨hr9, hw9⟩ := Prod.mk.inj (Option.some.inj h)
      subst hw9
      subst hr9
      exact x_iret dX5_cheaperCell_57 rfl rfl
    · rw [if_neg hc9] at h
      refine x_aload_n (j := 0) (i := 0) dX5_cheaperCell_29 rfl rfl ?_
      refine x_aload_n (j := 1) (i := 1) dX5_cheaperCell_30 rfl rfl ?_
      refine x_iload_n (j := 3) (i := 3) dX5_cheaperCell_31 rfl rfl ?_
      obtain ⟨v10, w11, hc12, h⟩ := bd_s h
      refine x_callVI (ci := 5) dX5_cheaperCell_32 ml_RX5_139 mb_X5_shareAt (c_X5_shareAt x0 x1 x3 w v10 w11 hc12) ⟨_, rfl, rfl⟩ g7 [] rfl rfl (Nat.le_of_ble_eq_true rfl) (by decide) (by decide) ?_
      refine x_iload_n (j := 2) (i := 2) dX5_cheaperCell_35 rfl rfl ?_
      refine x_icmp_ge (tgt := 50) dX5_cheaperCell_36 (by decide) (fun hc13 => ?_) (fun hc13 => ?_)
      · rw [if_pos hc13] at h
        refine x_iinc (j := 3) (i := 3) (v := x3 + (1 : Int32)) (lv2 := [(3, xI (x3 + (1 : Int32))), (0, xR x0), (1, xR x1), (2, xI x2)]) dX5_cheaperCell_50 rfl rfl (by decide) rfl ?_
        refine x_goto (tgt := 18) dX5_cheaperCell_53 (by decide) ?_
        refine x_lv (lv2 := [(0, xR x0), (1, xR x1), (2, xI x2), (3, xI (x3 + (1 : Int32)))]) [1, 2, 3, 0] rfl ?_
        exact ih x0 x1 x2 (x3 + (1 : Int32)) w11 h
      · rw [if_neg hc13] at h
        refine x_aload_n (j := 0) (i := 0) dX5_cheaperCell_39 rfl rfl ?_
        refine x_aload_n (j := 1) (i := 1) dX5_cheaperCell_40 rfl rfl ?_
        refine x_iload_n (j := 3) (i := 3) dX5_cheaperCell_41 rfl rfl ?_
        obtain ⟨g17, h⟩ := gd_some h
        obtain ⟨v14, w15, hc16, h⟩ := bd_s h
        refine x_callVI (ci := 5) dX5_cheaperCell_42 ml_RX5_153 mb_X5_hindrance (c_X5_hindrance x0 x1 x3 w11 v14 w15 hc16) ⟨_, rfl, rfl⟩ g17 [] rfl rfl (Nat.le_of_ble_eq_true rfl) (by decide) (by decide) ?_
        refine x_if_ne (tgt := 50) dX5_cheaperCell_45 (by decide) (fun hc18 => ?_) (fun hc18 => ?_)
        · rw [if_neg hc18] at h
          refine x_iinc (j := 3) (i := 3) (v := x3 + (1 : Int32)) (lv2 := [(3, xI (x3 + (1 : Int32))), (0, xR x0), (1, xR x1), (2, xI x2)]) dX5_cheaperCell_50 rfl rfl (by decide) rfl ?_
          refine x_goto (tgt := 18) dX5_cheaperCell_53 (by decide) ?_
          refine x_lv (lv2 := [(0, xR x0), (1, xR x1), (2, xI x2), (3, xI (x3 + (1 : Int32)))]) [1, 2, 3, 0] rfl ?_
          exact ih x0 x1 x2 (x3 + (1 : Int32)) w15 h
        · rw [if_pos hc18] at h
          refine x_iload_n (j := 3) (i := 3) dX5_cheaperCell_48 rfl rfl ?_
          obtain ⟨hr9, hw9⟩ := Prod.mk.inj (Option.some.inj h)
          subst hw9
          subst hr9
          exact x_iret dX5_cheaperCell_49 rfl rfl
set_option maxRecDepth 20000 in
theorem c_X5_cheaperCell (x0 : Nat) (x1 : Nat) (w : xSt) (rE : Int32) (wE : xSt) (h : f_X5_cheaperCell x0 x1 w = some (rE, wE)) : xCall yX5_cheaperCell cX5_cheaperCell 4 (some .int) 4 0 0 [xR x0, xR x1] w (some (xI rE), wE) := by
  refine xCall_of false (by decide) (fun q => nomatch q) (Nat.le_of_ble_eq_true rfl) ?_
  show xX cX5_cheaperCell 4 (some .int) RX5 false (xRm 4 0 0) (xZf (some (xI rE), wE) 0 0) 0 [(0, xR x0), (1, xR x1)] [] w 0 0
  unfold f_X5_cheaperCell at h
  refine x_aload_n (j := 0) (i := 0) dX5_cheaperCell_0 rfl rfl ?_
  refine x_aload_n (j := 1) (i := 1) dX5_cheaperCell_1 rfl rfl ?_
  refine x_aload_n (j := 1) (i := 1) dX5_cheaperCell_2 rfl rfl ?_
  obtain ⟨g1, h⟩ := gd_some h
  refine x_getI (ci := 6) (k := 6) dX5_cheaperCell_3 lf_RX5_28 rfl g1 ?_
  obtain ⟨g5, h⟩ := gd_some h
  obtain ⟨v2, w3, hc4, h⟩ := bd_s h
  refine x_callVI (ci := 5) dX5_cheaperCell_6 ml_RX5_139 mb_X5_shareAt (c_X5_shareAt x0 x1 (wI w x1 6) w v2 w3 hc4) ⟨_, rfl, rfl⟩ g5 [] rfl rfl (Nat.le_of_ble_eq_true rfl) (by decide) (by decide) ?_
  refine x_istore_n (i := 2) (lv2 := [(2, xI v2), (0, xR x0), (1, xR x1)]) dX5_cheaperCell_9 rfl (by decide) rfl ?_
  refine x_iload_n (j := 0) (i := 2) dX5_cheaperCell_10 rfl rfl ?_
  refine x_if_ne (tgt := 16) dX5_cheaperCell_11 (by decide) (fun hc6 => ?_) (fun hc6 => ?_)
  · rw [if_neg hc6] at h
    refine x_iconst (v := 0) dX5_cheaperCell_16 (by decide) ?_
    refine x_istore_n (i := 3) (lv2 := [(3, xI (0 : Int32)), (2, xI v2), (0, xR x0), (1, xR x1)]) dX5_cheaperCell_17 rfl (by decide) rfl ?_
    refine x_lv (lv2 := [(0, xR x0), (1, xR x1), (2, xI v2), (3, xI (0 : Int32))]) [2, 3, 1, 0] rfl ?_
    exact k_X5_cheaperCell_l18 rE wE xFu x0 x1 v2 (0 : Int32) w3 h
  · rw [if_pos hc6] at h
    refine x_iconst (v := -1) dX5_cheaperCell_14 (by decide) ?_
    obtain ⟨hr9, hw9⟩ := Prod.mk.inj (Option.some.inj h)
    subst hw9
    subst hr9
    exact x_iret dX5_cheaperCell_15 rfl rfl
set_option maxRecDepth 20000 in
theorem k_X5_moveFirst_b36 (k2 : Nat → Int32 → xSt → Option (Int32 × xSt)) (rE : Int32) (wE : xSt) (hk2 : ∀ (x0 : Nat) (x1 : Int32) (w : xSt), k2 x0 x1 w = some (rE, wE) → xX cX5_moveFirst 3 (some .boolean) RX5 false (xRm 5 0 0) (xZf (some (xI rE), wE) 0 0) 2 [(0, xR x0), (1, xI x1)] [] w 0 0) (x0 : Nat) (x1 : Int32) (s0 : Int32) (w : xSt) (h : f_X5_moveFirst_b36 k2 x0 x1 s0 w = some (rE, wE)) : xX cX5_moveFirst 3 (some .boolean) RX5 false (xRm 5 0 0) (xZf (some (xI rE), wE) 0 0) 36 [(0, xR x0), (1, xI x1)] [xI s0] w 0 0 := by
  unfold f_X5_moveFirst_b36 at h
  refine x_istore_n (i := 2) (lv2 := [(2, xI s0), (0, xR x0), (1, xI x1)]) dX5_moveFirst_36 rfl (by decide) rfl ?_
  refine x_iload_n (j := 0) (i := 2) dX5_moveFirst_37 rfl rfl ?_
  refine x_iconst (v := -1) dX5_moveFirst_38 (by decide) ?_
  refine x_icmp_eq (tgt := 55) dX5_moveFirst_39 (by decide) (fun hc16 => ?_) (fun hc16 => ?_)
  · rw [if_pos hc16] at h
    refine x_iinc (j := 2) (i := 1) (v := x1 + (1 : Int32)) (lv2 := [(1, xI (x1 + (1 : Int32))), (2, xI s0), (0, xR x0)]) dX5_moveFirst_55 rfl rfl (by decide) rfl ?_
    refine x_goto (tgt := 2) dX5_moveFirst_58 (by decide) ?_
    refine x_lv (lv2 := [(0, xR x0), (1, xI (x1 + (1 : Int32)))]) [2, 0] rfl ?_
    exact hk2 x0 (x1 + (1 : Int32)) w h
  · rw [if_neg hc16] at h
    refine x_aload_n (j := 1) (i := 0) dX5_moveFirst_42 rfl rfl ?_
    refine x_aload_n (j := 1) (i := 0) dX5_moveFirst_43 rfl rfl ?_
    obtain ⟨g17, h⟩ := gd_some h
    refine x_getR (ci := 5) (k := 1) dX5_moveFirst_44 lf_RX5_17 rfl g17 ?_
    refine x_iload_n (j := 2) (i := 1) dX5_moveFirst_47 rfl rfl ?_
    obtain ⟨g18, h⟩ := gd_some h
    obtain ⟨g19, h⟩ := gd_some h
    refine x_qald24 dX5_moveFirst_48 g18 g19 ?_
    refine x_iload_n (j := 0) (i := 2) dX5_moveFirst_49 rfl rfl ?_
    obtain ⟨_u, w20, hc21, h⟩ := bd_s h
    refine x_callVV (ci := 5) dX5_moveFirst_50 ml_RX5_146 mb_X5_put (c_X5_put x0 (wR w (wR w x0 1) x1.toNatClampNeg) s0 w _u w20 hc21) ⟨_, rfl, rfl⟩ g17 [] rfl rfl (Nat.le_of_ble_eq_true rfl) (by decide) (by decide) ?_
    refine x_iconst (v := 1) dX5_moveFirst_53 (by decide) ?_
    obtain ⟨hr9, hw9⟩ := Prod.mk.inj (Option.some.inj h)
    subst hw9
    subst hr9
    exact x_zret dX5_moveFirst_54 rfl (by decide) rfl
set_option maxRecDepth 20000 in
theorem k_X5_moveFirst_l2 (rE : Int32) (wE : xSt) : ∀ (n : Nat) (x0 : Nat) (x1 : Int32) (w : xSt), f_X5_moveFirst_l2 n x0 x1 w = some (rE, wE) → xX cX5_moveFirst 3 (some .boolean) RX5 false (xRm 5 0 0) (xZf (some (xI rE), wE) 0 0) 2 [(0, xR x0), (1, xI x1)] [] w 0 0 := by
  intro n
  induction n with
  | zero => intro x0 x1 w h; exact nomatch (show (none : Option (Int32 × xSt)) = some (rE, wE) from h)
  | succ n ih =>
    intro x0 x1 w h
    rw [f_X5_moveFirst_l2_s] at h
    refine x_iload_n (j := 1) (i := 1) dX5_moveFirst_2 rfl rfl ?_
    refine x_aload_n (j := 0) (i := 0) dX5_moveFirst_3 rfl rfl ?_
    obtain ⟨g1, h⟩ := gd_some h
    refine x_getI (ci := 5) (k := 2) dX5_moveFirst_4 lf_RX5_25 rfl g1 ?_
    refine x_icmp_ge (tgt := 61) dX5_moveFirst_7 (by decide) (fun hc2 => ?_) (fun hc2 => ?_)
    · rw [if_pos hc2] at h
      refine x_iconst (v := 0) dX5_moveFirst_61 (by decide) ?_
      obtain ⟨hr9, hw9⟩ := Prod.mk.inj (Option.some.inj h)
      subst hw9
      subst hr9
      exact x_zret dX5_moveFirst_62 rfl (by decide) rfl
    · rw [if_neg hc2] at h
      refine x_aload_n (j := 0) (i := 0) dX5_moveFirst_10 rfl rfl ?_
      refine x_getR (ci := 5) (k := 1) dX5_moveFirst_11 lf_RX5_17 rfl g1 ?_
      refine x_iload_n (j := 1) (i := 1) dX5_moveFirst_14 rfl rfl ?_
      obtain ⟨g3, h⟩ := gd_some h
      obtain ⟨g4, h⟩ := gd_some h
      refine x_qald24 dX5_moveFirst_15 g3 g4 ?_
      obtain ⟨g8, h⟩ := gd_some h
      obtain ⟨v5, w6, hc7, h⟩ := bd_s h
      refine x_callVI (ci := 6) dX5_moveFirst_16 ml_RX5_47 mb_X6_isLaid (c_X6_isLaid (wR w (wR w x0 1) x1.toNatClampNeg) w v5 w6 hc7) ⟨_, rfl, rfl⟩ g8 [] rfl rfl (Nat.le_of_ble_eq_true rfl) (by decide) (by decide) ?_
      refine x_if_eq (tgt := 35) dX5_moveFirst_19 (by decide) (fun hc9 => ?_) (fun hc9 => ?_)
      · rw [if_pos hc9] at h
        refine x_iconst (v := -1) dX5_moveFirst_35 (by decide) ?_
        refine x_lv (lv2 := [(0, xR x0), (1, xI x1)]) [0, 1] rfl ?_
        exact k_X5_moveFirst_b36 (f_X5_moveFirst_l2 n) rE wE ih x0 x1 (-1 : Int32) w6 h
      · rw [if_neg hc9] at h
        refine x_aload_n (j := 0) (i := 0) dX5_moveFirst_22 rfl rfl ?_
        refine x_aload_n (j := 0) (i := 0) dX5_moveFirst_23 rfl rfl ?_
        obtain ⟨g10, h⟩ := gd_some h
        refine x_getR (ci := 5) (k := 1) dX5_moveFirst_24 lf_RX5_17 rfl g10 ?_
        refine x_iload_n (j := 1) (i := 1) dX5_moveFirst_27 rfl rfl ?_
        obtain ⟨g11, h⟩ := gd_some h
        obtain ⟨g12, h⟩ := gd_some h
        refine x_qald24 dX5_moveFirst_28 g11 g12 ?_
        obtain ⟨v13, w14, hc15, h⟩ := bd_s h
        refine x_callVI (ci := 5) dX5_moveFirst_29 ml_RX5_143 mb_X5_cheaperCell (c_X5_cheaperCell x0 (wR w6 (wR w6 x0 1) x1.toNatClampNeg) w6 v13 w14 hc15) ⟨_, rfl, rfl⟩ g10 [] rfl rfl (Nat.le_of_ble_eq_true rfl) (by decide) (by decide) ?_
        refine x_goto (tgt := 36) dX5_moveFirst_32 (by decide) ?_
        refine x_lv (lv2 := [(0, xR x0), (1, xI x1)]) [0, 1] rfl ?_
        exact k_X5_moveFirst_b36 (f_X5_moveFirst_l2 n) rE wE ih x0 x1 v13 w14 h
set_option maxRecDepth 20000 in
theorem c_X5_moveFirst (x0 : Nat) (w : xSt) (rE : Int32) (wE : xSt) (h : f_X5_moveFirst x0 w = some (rE, wE)) : xCall yX5_moveFirst cX5_moveFirst 3 (some .boolean) 5 0 0 [xR x0] w (some (xI rE), wE) := by
  refine xCall_of false (by decide) (fun q => nomatch q) (Nat.le_of_ble_eq_true rfl) ?_
  show xX cX5_moveFirst 3 (some .boolean) RX5 false (xRm 5 0 0) (xZf (some (xI rE), wE) 0 0) 0 [(0, xR x0)] [] w 0 0
  unfold f_X5_moveFirst at h
  refine x_iconst (v := 0) dX5_moveFirst_0 (by decide) ?_
  refine x_istore_n (i := 1) (lv2 := [(1, xI (0 : Int32)), (0, xR x0)]) dX5_moveFirst_1 rfl (by decide) rfl ?_
  refine x_lv (lv2 := [(0, xR x0), (1, xI (0 : Int32))]) [1, 0] rfl ?_
  exact k_X5_moveFirst_l2 rE wE xFu x0 (0 : Int32) w h
set_option maxRecDepth 20000 in
theorem c_X6_init (x0 : Nat) (x1 : Int32) (x2 : Int32) (x3 : Int32) (x4 : Int32) (x5 : Int32) (x6 : Int32) (w : xSt) (rE : Unit) (wE : xSt) (h : f_X6_init x0 x1 x2 x3 x4 x5 x6 w = some (rE, wE)) : xCall yX6_init cX6_init 7 none 1 0 0 [xR x0, xI x1, xI x2, xI x3, xI x4, xI x5, xI x6] w (none, wE) := by
  refine xCall_of true (by decide) (fun _ => rfl) (Nat.le_of_ble_eq_true rfl) ?_
  show xX cX6_init 7 none RX6 true (xRm 1 0 0) (xZf (none, wE) 0 0) 0 [(0, xR x0), (1, xI x1), (2, xI x2), (3, xI x3), (4, xI x4), (5, xI x5), (6, xI x6)] [] w 0 0
  unfold f_X6_init at h
  refine x_aload_n (j := 0) (i := 0) dX6_init_0 rfl rfl ?_
  obtain ⟨g1, h⟩ := gd_some h
  refine x_objInit dX6_init_1 lo_RX6_3 lo_inst lo_code g1 (Nat.le_of_ble_eq_true rfl) (by decide) (by decide) ?_
  refine x_aload_n (j := 0) (i := 0) dX6_init_4 rfl rfl ?_
  refine x_iload_n (j := 1) (i := 1) dX6_init_5 rfl rfl ?_
  obtain ⟨w2, hw3, h⟩ := lt1_some h
  refine x_putI (ci := 6) (k := 0) dX6_init_6 lw_RX6_9_w rfl g1 ?_
  rw [← hw3]
  refine x_aload_n (j := 0) (i := 0) dX6_init_9 rfl rfl ?_
  refine x_iload_n (j := 2) (i := 2) dX6_init_10 rfl rfl ?_
  have g4 : isC w2 x0 6 := by rw [hw3]; exact g1
  obtain ⟨w5, hw6, h⟩ := lt1_some h
  refine x_putI (ci := 6) (k := 1) dX6_init_11 lw_RX6_15_w rfl g4 ?_
  rw [← hw6]
  refine x_aload_n (j := 0) (i := 0) dX6_init_14 rfl rfl ?_
  refine x_iload_n (j := 3) (i := 3) dX6_init_15 rfl rfl ?_
  have g7 : isC w5 x0 6 := by rw [hw6]; exact g4
  obtain ⟨w8, hw9, h⟩ := lt1_some h
  refine x_putI (ci := 6) (k := 2) dX6_init_16 lw_RX6_18_w rfl g7 ?_
  rw [← hw9]
  refine x_aload_n (j := 0) (i := 0) dX6_init_19 rfl rfl ?_
  refine x_iload (j := 4) (i := 4) dX6_init_20 rfl ?_
  have g10 : isC w8 x0 6 := by rw [hw9]; exact g7
  obtain ⟨w11, hw12, h⟩ := lt1_some h
  refine x_putI (ci := 6) (k := 3) dX6_init_22 lw_RX6_21_w rfl g10 ?_
  rw [← hw12]
  refine x_aload_n (j := 0) (i := 0) dX6_init_25 rfl rfl ?_
  refine x_iload (j := 5) (i := 5) dX6_init_26 rfl ?_
  have g13 : isC w11 x0 6 := by rw [hw12]; exact g10
  obtain ⟨w14, hw15, h⟩ := lt1_some h
  refine x_putI (ci := 6) (k := 4) dX6_init_28 lw_RX6_24_w rfl g13 ?_
  rw [← hw15]
  refine x_aload_n (j := 0) (i := 0) dX6_init_31 rfl rfl ?_
  refine x_iload (j := 6) (i := 6) dX6_init_32 rfl ?_
  have g16 : isC w14 x0 6 := by rw [hw15]; exact g13
  obtain ⟨w17, hw18, h⟩ := lt1_some h
  refine x_putI (ci := 6) (k := 5) dX6_init_34 lw_RX6_27_w rfl g16 ?_
  rw [← hw18]
  refine x_aload_n (j := 0) (i := 0) dX6_init_37 rfl rfl ?_
  refine x_iconst (v := -1) dX6_init_38 (by decide) ?_
  have g19 : isC w17 x0 6 := by rw [hw18]; exact g16
  obtain ⟨w20, hw21, h⟩ := lt1_some h
  refine x_putI (ci := 6) (k := 6) dX6_init_39 (lw_RX6_30_w _) rfl g19 ?_
  rw [← hw21]
  refine x_aload_n (j := 0) (i := 0) dX6_init_42 rfl rfl ?_
  refine x_iconst (v := -1) dX6_init_43 (by decide) ?_
  have g22 : isC w20 x0 6 := by rw [hw21]; exact g19
  obtain ⟨w23, hw24, h⟩ := lt1_some h
  refine x_putI (ci := 6) (k := 9) dX6_init_44 (lw_RX6_33_w _) rfl g22 ?_
  rw [← hw24]
  obtain ⟨hr9, hw9⟩ := Prod.mk.inj (Option.some.inj h)
  subst hw9
  exact x_vret dX6_init_47 rfl rfl
set_option maxRecDepth 20000 in
theorem c_X6_isSold (x0 : Nat) (w : xSt) (rE : Int32) (wE : xSt) (h : f_X6_isSold x0 w = some (rE, wE)) : xCall yX6_isSold cX6_isSold 1 (some .boolean) 0 0 0 [xR x0] w (some (xI rE), wE) := by
  refine xCall_of false (by decide) (fun q => nomatch q) (Nat.le_of_ble_eq_true rfl) ?_
  show xX cX6_isSold 1 (some .boolean) RX6 false (xRm 0 0 0) (xZf (some (xI rE), wE) 0 0) 0 [(0, xR x0)] [] w 0 0
  unfold f_X6_isSold at h
  refine x_aload_n (j := 0) (i := 0) dX6_isSold_0 rfl rfl ?_
  obtain ⟨g1, h⟩ := gd_some h
  refine x_getI (ci := 6) (k := 9) dX6_isSold_1 lf_RX6_33 rfl g1 ?_
  refine x_iconst (v := -1) dX6_isSold_4 (by decide) ?_
  refine x_icmp_eq (tgt := 12) dX6_isSold_5 (by decide) (fun hc2 => ?_) (fun hc2 => ?_)
  · rw [if_pos hc2] at h
    refine x_iconst (v := 0) dX6_isSold_12 (by decide) ?_
    obtain ⟨hr9, hw9⟩ := Prod.mk.inj (Option.some.inj h)
    subst hw9
    subst hr9
    exact x_zret dX6_isSold_13 rfl (by decide) rfl
  · rw [if_neg hc2] at h
    refine x_iconst (v := 1) dX6_isSold_8 (by decide) ?_
    refine x_goto (tgt := 13) dX6_isSold_9 (by decide) ?_
    obtain ⟨hr9, hw9⟩ := Prod.mk.inj (Option.some.inj h)
    subst hw9
    subst hr9
    exact x_zret dX6_isSold_13 rfl (by decide) rfl
set_option maxRecDepth 20000 in
theorem c_X6_lift (x0 : Nat) (w : xSt) (rE : Unit) (wE : xSt) (h : f_X6_lift x0 w = some (rE, wE)) : xCall yX6_lift cX6_lift 1 none 0 0 0 [xR x0] w (none, wE) := by
  refine xCall_of false (by decide) (fun q => nomatch q) (Nat.le_of_ble_eq_true rfl) ?_
  show xX cX6_lift 1 none RX6 false (xRm 0 0 0) (xZf (none, wE) 0 0) 0 [(0, xR x0)] [] w 0 0
  unfold f_X6_lift at h
  refine x_aload_n (j := 0) (i := 0) dX6_lift_0 rfl rfl ?_
  refine x_iconst (v := -1) dX6_lift_1 (by decide) ?_
  obtain ⟨g1, h⟩ := gd_some h
  obtain ⟨w2, hw3, h⟩ := lt1_some h
  refine x_putI (ci := 6) (k := 6) dX6_lift_2 (lw_RX6_30_w _) rfl g1 ?_
  rw [← hw3]
  refine x_aload_n (j := 0) (i := 0) dX6_lift_5 rfl rfl ?_
  refine x_lconst (v := 0) dX6_lift_6 (by decide) ?_
  have g4 : isC w2 x0 6 := by rw [hw3]; exact g1
  obtain ⟨w5, hw6, h⟩ := lt1_some h
  refine x_putL (ci := 6) (k := 7) dX6_lift_7 (lw_RX6_36_w _) rfl g4 ?_
  rw [← hw6]
  obtain ⟨hr9, hw9⟩ := Prod.mk.inj (Option.some.inj h)
  subst hw9
  exact x_vret dX6_lift_10 rfl rfl
set_option maxRecDepth 20000 in
theorem c_X7_init (x0 : Nat) (w : xSt) (rE : Unit) (wE : xSt) (h : f_X7_init x0 w = some (rE, wE)) : xCall yX7_init cX7_init 1 none 1 1 120 [xR x0] w (none, wE) := by
  refine xCall_of true (by decide) (fun _ => rfl) (Nat.le_of_ble_eq_true rfl) ?_
  show xX cX7_init 1 none RX7 true (xRm 1 1 120) (xZf (none, wE) 1 120) 0 [(0, xR x0)] [] w 1 120
  unfold f_X7_init at h
  refine x_aload_n (j := 0) (i := 0) dX7_init_0 rfl rfl ?_
  obtain ⟨g1, h⟩ := gd_some h
  refine x_objInit dX7_init_1 lo_RX7_3 lo_inst lo_code g1 (Nat.le_of_ble_eq_true rfl) (by decide) (by decide) ?_
  refine x_aload_n (j := 0) (i := 0) dX7_init_4 rfl rfl ?_
  refine x_bipush (v := 120) dX7_init_5 (by decide) ?_
  obtain ⟨g2, h⟩ := gd_some h
  obtain ⟨q3, hq4, h⟩ := lt1_some h
  obtain ⟨w5, hw6, h⟩ := lt1_some h
  refine x_newa_byte 120 dX7_init_7 la_byte (by decide) (by decide) g2 (by decide) (by decide) ?_
  rw [← hq4, ← hw6]
  have g7 : isC w5 q3 22 := by rw [hw6, hq4]; exact isC_new _ _ _
  have g8 : isC w5 x0 7 := by rw [hw6]; exact isC_nA _ _ g1
  obtain ⟨w9, hw10, h⟩ := lt1_some h
  refine x_putR (ci := 7) (k := 0) dX7_init_9 lw_RX7_11_w rfl g8 ?_
  rw [← hw10]
  obtain ⟨hr9, hw9⟩ := Prod.mk.inj (Option.some.inj h)
  subst hw9
  exact x_vret dX7_init_12 rfl rfl
set_option maxRecDepth 20000 in
theorem c_X7_hasRoom (x0 : Nat) (x1 : Int32) (w : xSt) (rE : Int32) (wE : xSt) (h : f_X7_hasRoom x0 x1 w = some (rE, wE)) : xCall yX7_hasRoom cX7_hasRoom 2 (some .boolean) 0 0 0 [xR x0, xI x1] w (some (xI rE), wE) := by
  refine xCall_of false (by decide) (fun q => nomatch q) (Nat.le_of_ble_eq_true rfl) ?_
  show xX cX7_hasRoom 2 (some .boolean) RX7 false (xRm 0 0 0) (xZf (some (xI rE), wE) 0 0) 0 [(0, xR x0), (1, xI x1)] [] w 0 0
  unfold f_X7_hasRoom at h
  refine x_aload_n (j := 0) (i := 0) dX7_hasRoom_0 rfl rfl ?_
  obtain ⟨g1, h⟩ := gd_some h
  refine x_getI (ci := 7) (k := 1) dX7_hasRoom_1 lf_RX7_15 rfl g1 ?_
  refine x_iload_n (j := 1) (i := 1) dX7_hasRoom_4 rfl rfl ?_
  refine x_iadd dX7_hasRoom_5 ?_
  refine x_bipush (v := 120) dX7_hasRoom_6 (by decide) ?_
  refine x_icmp_gt (tgt := 15) dX7_hasRoom_8 (by decide) (fun hc2 => ?_) (fun hc2 => ?_)
  · rw [if_pos hc2] at h
    refine x_iconst (v := 0) dX7_hasRoom_15 (by decide) ?_
    obtain ⟨hr9, hw9⟩ := Prod.mk.inj (Option.some.inj h)
    subst hw9
    subst hr9
    exact x_zret dX7_hasRoom_16 rfl (by decide) rfl
  · rw [if_neg hc2] at h
    refine x_iconst (v := 1) dX7_hasRoom_11 (by decide) ?_
    refine x_goto (tgt := 16) dX7_hasRoom_12 (by decide) ?_
    obtain ⟨hr9, hw9⟩ := Prod.mk.inj (Option.some.inj h)
    subst hw9
    subst hr9
    exact x_zret dX7_hasRoom_16 rfl (by decide) rfl
set_option maxRecDepth 20000 in
theorem k_X7_add_l5 (rE : Unit) (wE : xSt) : ∀ (n : Nat) (x0 : Nat) (x1 : Int64) (x4 : Int32) (w : xSt), f_X7_add_l5 n x0 x1 x4 w = some (rE, wE) → xX cX7_add 5 none RX7 false (xRm 0 0 0) (xZf (none, wE) 0 0) 5 [(0, xR x0), (1, xL x1), (4, xI x4)] [] w 0 0 := by
  intro n
  induction n with
  | zero => intro x0 x1 x4 w h; exact nomatch (show (none : Option (Unit × xSt)) = some (rE, wE) from h)
  | succ n ih =>
    intro x0 x1 x4 w h
    rw [f_X7_add_l5_s] at h
    refine x_iload (j := 2) (i := 4) dX7_add_5 rfl ?_
    refine x_if_lt (tgt := 44) dX7_add_7 (by decide) (fun hc1 => ?_) (fun hc1 => ?_)
    · rw [if_pos hc1] at h
      obtain ⟨hr9, hw9⟩ := Prod.mk.inj (Option.some.inj h)
      subst hw9
      exact x_vret dX7_add_44 rfl rfl
    · rw [if_neg hc1] at h
      refine x_aload_n (j := 0) (i := 0) dX7_add_10 rfl rfl ?_
      obtain ⟨g2, h⟩ := gd_some h
      refine x_getR (ci := 7) (k := 0) dX7_add_11 lf_RX7_11 rfl g2 ?_
      refine x_aload_n (j := 0) (i := 0) dX7_add_14 rfl rfl ?_
      refine x_getI (ci := 7) (k := 1) dX7_add_15 lf_RX7_15 rfl g2 ?_
      refine x_lload_n (j := 1) (i := 1) dX7_add_18 rfl rfl ?_
      refine x_bipush (v := 8) dX7_add_19 (by decide) ?_
      refine x_iload (j := 2) (i := 4) dX7_add_21 rfl ?_
      refine x_imul dX7_add_23 ?_
      refine x_lushr dX7_add_24 ?_
      refine x_l2i dX7_add_25 ?_
      refine x_i2b dX7_add_26 ?_
      obtain ⟨g3, h⟩ := gd_some h
      obtain ⟨g4, h⟩ := gd_some h
      obtain ⟨w5, hw6, h⟩ := lt1_some h
      refine x_bast dX7_add_27 g3 g4 ?_
      rw [← hw6]
      refine x_aload_n (j := 0) (i := 0) dX7_add_28 rfl rfl ?_
      refine x_dup dX7_add_29 rfl ?_
      have g7 : isC w5 x0 7 := by rw [hw6]; exact g2
      refine x_getI (ci := 7) (k := 1) dX7_add_30 lf_RX7_15 rfl g7 ?_
      refine x_iconst (v := 1) dX7_add_33 (by decide) ?_
      refine x_iadd dX7_add_34 ?_
      obtain ⟨w8, hw9, h⟩ := lt1_some h
      refine x_putI (ci := 7) (k := 1) dX7_add_35 (lw_RX7_15_w _) rfl g7 ?_
      rw [← hw9]
      refine x_iinc (j := 2) (i := 4) (v := x4 + (-1 : Int32)) (lv2 := [(4, xI (x4 + (-1 : Int32))), (0, xR x0), (1, xL x1)]) dX7_add_38 rfl rfl (by decide) rfl ?_
      refine x_goto (tgt := 5) dX7_add_41 (by decide) ?_
      refine x_lv (lv2 := [(0, xR x0), (1, xL x1), (4, xI (x4 + (-1 : Int32)))]) [1, 2, 0] rfl ?_
      exact ih x0 x1 (x4 + (-1 : Int32)) w8 h
set_option maxRecDepth 20000 in
theorem c_X7_add (x0 : Nat) (x1 : Int64) (x3 : Int32) (w : xSt) (rE : Unit) (wE : xSt) (h : f_X7_add x0 x1 x3 w = some (rE, wE)) : xCall yX7_add cX7_add 5 none 0 0 0 [xR x0, xL x1, xI x3] w (none, wE) := by
  refine xCall_of false (by decide) (fun q => nomatch q) (Nat.le_of_ble_eq_true rfl) ?_
  show xX cX7_add 5 none RX7 false (xRm 0 0 0) (xZf (none, wE) 0 0) 0 [(0, xR x0), (1, xL x1), (3, xI x3)] [] w 0 0
  unfold f_X7_add at h
  refine x_iload_n (j := 2) (i := 3) dX7_add_0 rfl rfl ?_
  refine x_iconst (v := 1) dX7_add_1 (by decide) ?_
  refine x_isub dX7_add_2 ?_
  refine x_istore (i := 4) (lv2 := [(4, xI (x3 - (1 : Int32))), (0, xR x0), (1, xL x1), (3, xI x3)]) dX7_add_3 (by decide) rfl ?_
  refine x_lv (lv2 := [(0, xR x0), (1, xL x1), (4, xI (x3 - (1 : Int32)))]) [1, 2, 0] rfl ?_
  exact k_X7_add_l5 rE wE xFu x0 x1 (x3 - (1 : Int32)) w h
set_option maxRecDepth 20000 in
theorem c_X7_empty (x0 : Nat) (w : xSt) (rE : Unit) (wE : xSt) (h : f_X7_empty x0 w = some (rE, wE)) : xCall yX7_empty cX7_empty 1 none 0 0 0 [xR x0] w (none, wE) := by
  refine xCall_of false (by decide) (fun q => nomatch q) (Nat.le_of_ble_eq_true rfl) ?_
  show xX cX7_empty 1 none RX7 false (xRm 0 0 0) (xZf (none, wE) 0 0) 0 [(0, xR x0)] [] w 0 0
  unfold f_X7_empty at h
  refine x_aload_n (j := 0) (i := 0) dX7_empty_0 rfl rfl ?_
  refine x_iconst (v := 0) dX7_empty_1 (by decide) ?_
  obtain ⟨g1, h⟩ := gd_some h
  obtain ⟨w2, hw3, h⟩ := lt1_some h
  refine x_putI (ci := 7) (k := 1) dX7_empty_2 (lw_RX7_15_w _) rfl g1 ?_
  rw [← hw3]
  obtain ⟨hr9, hw9⟩ := Prod.mk.inj (Option.some.inj h)
  subst hw9
  exact x_vret dX7_empty_5 rfl rfl
set_option maxRecDepth 20000 in
theorem c_X7_isAtEnd (x0 : Nat) (w : xSt) (rE : Int32) (wE : xSt) (h : f_X7_isAtEnd x0 w = some (rE, wE)) : xCall yX7_isAtEnd cX7_isAtEnd 1 (some .boolean) 0 0 0 [xR x0] w (some (xI rE), wE) := by
  refine xCall_of false (by decide) (fun q => nomatch q) (Nat.le_of_ble_eq_true rfl) ?_
  show xX cX7_isAtEnd 1 (some .boolean) RX7 false (xRm 0 0 0) (xZf (some (xI rE), wE) 0 0) 0 [(0, xR x0)] [] w 0 0
  unfold f_X7_isAtEnd at h
  refine x_aload_n (j := 0) (i := 0) dX7_isAtEnd_0 rfl rfl ?_
  obtain ⟨g1, h⟩ := gd_some h
  refine x_getI (ci := 7) (k := 2) dX7_isAtEnd_1 lf_RX7_19 rfl g1 ?_
  refine x_aload_n (j := 0) (i := 0) dX7_isAtEnd_4 rfl rfl ?_
  refine x_getI (ci := 7) (k := 1) dX7_isAtEnd_5 lf_RX7_15 rfl g1 ?_
  refine x_icmp_lt (tgt := 15) dX7_isAtEnd_8 (by decide) (fun hc2 => ?_) (fun hc2 => ?_)
  · rw [if_pos hc2] at h
    refine x_iconst (v := 0) dX7_isAtEnd_15 (by decide) ?_
    obtain ⟨hr9, hw9⟩ := Prod.mk.inj (Option.some.inj h)
    subst hw9
    subst hr9
    exact x_zret dX7_isAtEnd_16 rfl (by decide) rfl
  · rw [if_neg hc2] at h
    refine x_iconst (v := 1) dX7_isAtEnd_11 (by decide) ?_
    refine x_goto (tgt := 16) dX7_isAtEnd_12 (by decide) ?_
    obtain ⟨hr9, hw9⟩ := Prod.mk.inj (Option.some.inj h)
    subst hw9
    subst hr9
    exact x_zret dX7_isAtEnd_16 rfl (by decide) rfl
set_option maxRecDepth 20000 in
theorem c_X7_nameOf (x0 : Int32) (w : xSt) (rE : Nat) (wE : xSt) (h : f_X7_nameOf x0 w = some (rE, wE)) : xCall yX7_nameOf cX7_nameOf 1 (some (.object "java/lang/String")) 0 0 0 [xI x0] w (some (xR (1000 + rE)), wE) := by
  refine xCall_of false (by decide) (fun q => nomatch q) (Nat.le_of_ble_eq_true rfl) ?_
  show xX cX7_nameOf 1 (some (.object "java/lang/String")) RX7 false (xRm 0 0 0) (xZf (some (xR (1000 + rE)), wE) 0 0) 0 [(0, xI x0)] [] w 0 0
  unfold f_X7_nameOf at h
  refine x_iload_n (j := 0) (i := 0) dX7_nameOf_0 rfl rfl ?_
  by_cases hc1 : x0 = (2 : Int32)
  · rw [if_pos hc1] at h
    refine x_lsw (off := 30) (tgt := 31) dX7_nameOf_1 (by decide) (by rw [hc1]; decide) (by decide) ?_
    refine x_ldcS 1 (by decide) rfl rfl dX7_nameOf_31 ?_
    obtain ⟨hr9, hw9⟩ := Prod.mk.inj (Option.some.inj h)
    subst hw9
    subst hr9
    exact x_aret dX7_nameOf_33 rfl (Or.inl ⟨_, rfl⟩) rfl
  rw [if_neg hc1] at h
  by_cases hc2 : x0 = (3 : Int32)
  · rw [if_pos hc2] at h
    refine x_lsw (off := 27) (tgt := 28) dX7_nameOf_1 (by decide) (by rw [hc2]; decide) (by decide) ?_
    refine x_ldcS 0 (by decide) rfl rfl dX7_nameOf_28 ?_
    obtain ⟨hr9, hw9⟩ := Prod.mk.inj (Option.some.inj h)
    subst hw9
    subst hr9
    exact x_aret dX7_nameOf_30 rfl (Or.inl ⟨_, rfl⟩) rfl
  rw [if_neg hc2] at h
  refine x_lsw (off := 33) (tgt := 34) dX7_nameOf_1 (by decide) (by rw [lv_osw hc1 (by decide)]; rw [lv_osw hc2 (by decide)]; rfl) (by decide) ?_
  refine x_ldcS 2 (by decide) rfl rfl dX7_nameOf_34 ?_
  obtain ⟨hr9, hw9⟩ := Prod.mk.inj (Option.some.inj h)
  subst hw9
  subst hr9
  exact x_aret dX7_nameOf_36 rfl (Or.inl ⟨_, rfl⟩) rfl
set_option maxRecDepth 20000 in
theorem c_J0_isLatin1_aae02 (x0 : Nat) (w : xSt) (rE : Int32) (wE : xSt) (h : f_J0_isLatin1_aae02 x0 w = some (rE, wE)) : xCall yJ0_isLatin1_aae02 cJ0_isLatin1_aae02 1 (some .boolean) 0 0 0 [xR (1000 + x0)] w (some (xI rE), wE) := by
  refine xCall_ofF false (by decide +kernel) (fun q => nomatch q) (Nat.le_of_ble_eq_true rfl) ?_
  show xX cJ0_isLatin1_aae02 1 (some .boolean) RJ0 false (xRm 0 0 0) (xZf (some (xI rE), wE) 0 0) 0 [(0, xR (1000 + x0))] [] w 0 0
  unfold f_J0_isLatin1_aae02 at h
  refine x_getsC lf_RJ0_38 dJ0_isLatin1_aae02_0 ?_
  refine x_if_eq (tgt := 17) dJ0_isLatin1_aae02_3 (by decide) (fun hc1 => ?_) (fun hc1 => ?_)
  · rw [if_pos hc1] at h
    refine x_iconst (v := 0) dJ0_isLatin1_aae02_17 (by decide) ?_
    obtain ⟨hr9, hw9⟩ := Prod.mk.inj (Option.some.inj h)
    subst hw9
    subst hr9
    exact x_zret dJ0_isLatin1_aae02_18 rfl (by decide) rfl
  · rw [if_neg hc1] at h
    refine x_aload_n (j := 0) (i := 0) dJ0_isLatin1_aae02_6 rfl rfl ?_
    obtain ⟨g2, h⟩ := gd_some h
    refine x_sgetC g2 lf_RJ0_15 dJ0_isLatin1_aae02_7 ?_
    refine x_if_ne (tgt := 17) dJ0_isLatin1_aae02_10 (by decide) (fun hc3 => ?_) (fun hc3 => ?_)
    · rw [if_neg hc3] at h
      refine x_iconst (v := 0) dJ0_isLatin1_aae02_17 (by decide) ?_
      obtain ⟨hr9, hw9⟩ := Prod.mk.inj (Option.some.inj h)
      subst hw9
      subst hr9
      exact x_zret dJ0_isLatin1_aae02_18 rfl (by decide) rfl
    · rw [if_pos hc3] at h
      refine x_iconst (v := 1) dJ0_isLatin1_aae02_13 (by decide) ?_
      refine x_goto (tgt := 18) dJ0_isLatin1_aae02_14 (by decide) ?_
      obtain ⟨hr9, hw9⟩ := Prod.mk.inj (Option.some.inj h)
      subst hw9
      subst hr9
      exact x_zret dJ0_isLatin1_aae02_18 rfl (by decide) rfl
set_option maxRecDepth 20000 in
theorem c_J3_checkIndex_8e157 (x0 : Int32) (x1 : Int32) (w : xSt) (rE : Int32) (wE : xSt) (h : f_J3_checkIndex_8e157 x0 x1 w = some (rE, wE)) : xCall yJ3_checkIndex_8e157 cJ3_checkIndex_8e157 3 (some .int) 0 0 0 [xI x0, xI x1, xR 1021] w (some (xI rE), wE) := by
  refine xCall_ofF false (by decide +kernel) (fun q => nomatch q) (Nat.le_of_ble_eq_true rfl) ?_
  show xX cJ3_checkIndex_8e157 3 (some .int) RJ3 false (xRm 0 0 0) (xZf (some (xI rE), wE) 0 0) 0 [(0, xI x0), (1, xI x1), (2, xR 1021)] [] w 0 0
  unfold f_J3_checkIndex_8e157 at h
  refine x_iload_n (j := 0) (i := 0) dJ3_checkIndex_8e157_0 rfl rfl ?_
  refine x_if_lt (tgt := 9) dJ3_checkIndex_8e157_1 (by decide) (fun hc1 => ?_) (fun hc1 => ?_)
  · rw [if_pos hc1] at h
    refine x_aload_n (j := 2) (i := 2) dJ3_checkIndex_8e157_9 rfl rfl ?_
    refine x_iload_n (j := 0) (i := 0) dJ3_checkIndex_8e157_10 rfl rfl ?_
    refine x_iload_n (j := 1) (i := 1) dJ3_checkIndex_8e157_11 rfl rfl ?_
    exact nomatch h
  · rw [if_neg hc1] at h
    refine x_iload_n (j := 0) (i := 0) dJ3_checkIndex_8e157_4 rfl rfl ?_
    refine x_iload_n (j := 1) (i := 1) dJ3_checkIndex_8e157_5 rfl rfl ?_
    refine x_icmp_lt (tgt := 16) dJ3_checkIndex_8e157_6 (by decide) (fun hc2 => ?_) (fun hc2 => ?_)
    · rw [if_pos hc2] at h
      refine x_iload_n (j := 0) (i := 0) dJ3_checkIndex_8e157_16 rfl rfl ?_
      obtain ⟨hr9, hw9⟩ := Prod.mk.inj (Option.some.inj h)
      subst hw9
      subst hr9
      exact x_iret dJ3_checkIndex_8e157_17 rfl rfl
    · rw [if_neg hc2] at h
      refine x_aload_n (j := 2) (i := 2) dJ3_checkIndex_8e157_9 rfl rfl ?_
      refine x_iload_n (j := 0) (i := 0) dJ3_checkIndex_8e157_10 rfl rfl ?_
      refine x_iload_n (j := 1) (i := 1) dJ3_checkIndex_8e157_11 rfl rfl ?_
      exact nomatch h
set_option maxRecDepth 20000 in
theorem c_J0_checkIndex_df160 (x0 : Int32) (x1 : Int32) (w : xSt) (rE : Unit) (wE : xSt) (h : f_J0_checkIndex_df160 x0 x1 w = some (rE, wE)) : xCall yJ0_checkIndex_df160 cJ0_checkIndex_df160 2 none 1 0 0 [xI x0, xI x1] w (none, wE) := by
  refine xCall_ofF false (by decide +kernel) (fun q => nomatch q) (Nat.le_of_ble_eq_true rfl) ?_
  show xX cJ0_checkIndex_df160 2 none RJ0 false (xRm 1 0 0) (xZf (none, wE) 0 0) 0 [(0, xI x0), (1, xI x1)] [] w 0 0
  unfold f_J0_checkIndex_df160 at h
  refine x_iload_n (j := 0) (i := 0) dJ0_checkIndex_df160_0 rfl rfl ?_
  refine x_iload_n (j := 1) (i := 1) dJ0_checkIndex_df160_1 rfl rfl ?_
  refine x_getsF lf_RJ0_1053 dJ0_checkIndex_df160_2 ?_
  obtain ⟨v1, w2, hc3, h⟩ := bd_s h
  refine x_callSI dJ0_checkIndex_df160_5 ml_RJ0_1059 mb_J3_checkIndex_8e157 (c_J3_checkIndex_8e157 x0 x1 w v1 w2 hc3) [] rfl rfl (Nat.le_of_ble_eq_true rfl) (by decide) (by decide) ?_
  refine x_pop dJ0_checkIndex_df160_8 rfl ?_
  obtain ⟨hr9, hw9⟩ := Prod.mk.inj (Option.some.inj h)
  subst hw9
  exact x_vret dJ0_checkIndex_df160_9 rfl rfl
set_option maxRecDepth 20000 in
theorem c_J1_charAt_3b067 (x0 : Nat) (x1 : Int32) (w : xSt) (rE : Int32) (wE : xSt) (h : f_J1_charAt_3b067 x0 x1 w = some (rE, wE)) : xCall yJ1_charAt_3b067 cJ1_charAt_3b067 2 (some .char) 2 0 0 [xR (1010 + x0), xI x1] w (some (xI rE), wE) := by
  refine xCall_ofF false (by decide +kernel) (fun q => nomatch q) (Nat.le_of_ble_eq_true rfl) ?_
  show xX cJ1_charAt_3b067 2 (some .char) RJ1 false (xRm 2 0 0) (xZf (some (xI rE), wE) 0 0) 0 [(0, xR (1010 + x0)), (1, xI x1)] [] w 0 0
  unfold f_J1_charAt_3b067 at h
  refine x_iload_n (j := 1) (i := 1) dJ1_charAt_3b067_0 rfl rfl ?_
  refine x_aload_n (j := 0) (i := 0) dJ1_charAt_3b067_1 rfl rfl ?_
  obtain ⟨g1, h⟩ := gd_some h
  refine x_salen g1 dJ1_charAt_3b067_2 ?_
  obtain ⟨_u, w2, hc3, h⟩ := bd_s h
  refine x_callSV dJ1_charAt_3b067_3 ml_RJ1_9 mb_J0_checkIndex_df160 (c_J0_checkIndex_df160 x1 (Int32.ofNat (xlen.getD x0 0)) w _u w2 hc3) [] rfl rfl (Nat.le_of_ble_eq_true rfl) (by decide) (by decide) ?_
  refine x_aload_n (j := 0) (i := 0) dJ1_charAt_3b067_6 rfl rfl ?_
  refine x_iload_n (j := 1) (i := 1) dJ1_charAt_3b067_7 rfl rfl ?_
  obtain ⟨g4, h⟩ := gd_some h
  obtain ⟨g5, h⟩ := gd_some h
  refine x_sbald g4 g5 dJ1_charAt_3b067_8 ?_
  refine x_sipush (v := 255) dJ1_charAt_3b067_9 (by decide) ?_
  refine x_iand dJ1_charAt_3b067_12 ?_
  refine x_i2c dJ1_charAt_3b067_13 ?_
  obtain ⟨g6, h⟩ := gd_some h
  obtain ⟨hr9, hw9⟩ := Prod.mk.inj (Option.some.inj h)
  subst hw9
  subst hr9
  exact x_cret dJ1_charAt_3b067_14 rfl (congrArg Value.int g6) rfl
set_option maxRecDepth 20000 in
theorem c_J0_charAt_5068e (x0 : Nat) (x1 : Int32) (w : xSt) (rE : Int32) (wE : xSt) (h : f_J0_charAt_5068e x0 x1 w = some (rE, wE)) : xCall yJ0_charAt_5068e cJ0_charAt_5068e 2 (some .char) 3 0 0 [xR (1000 + x0), xI x1] w (some (xI rE), wE) := by
  refine xCall_ofF false (by decide +kernel) (fun q => nomatch q) (Nat.le_of_ble_eq_true rfl) ?_
  show xX cJ0_charAt_5068e 2 (some .char) RJ0 false (xRm 3 0 0) (xZf (some (xI rE), wE) 0 0) 0 [(0, xR (1000 + x0)), (1, xI x1)] [] w 0 0
  unfold f_J0_charAt_5068e at h
  refine x_aload_n (j := 0) (i := 0) dJ0_charAt_5068e_0 rfl rfl ?_
  obtain ⟨g4, h⟩ := gd_some h
  obtain ⟨v1, w2, hc3, h⟩ := bd_s h
  refine x_callVSI g4 dJ0_charAt_5068e_1 ml_RJ0_492 mb_J0_isLatin1_aae02 (c_J0_isLatin1_aae02 x0 w v1 w2 hc3) rfl [] rfl rfl (Nat.le_of_ble_eq_true rfl) (by decide) (by decide) ?_
  refine x_if_eq (tgt := 16) dJ0_charAt_5068e_4 (by decide) (fun hc5 => ?_) (fun hc5 => ?_)
  · rw [if_pos hc5] at h
    refine x_aload_n (j := 0) (i := 0) dJ0_charAt_5068e_16 rfl rfl ?_
    obtain ⟨g6, h⟩ := gd_some h
    refine x_sgetV g6 lf_RJ0_9 dJ0_charAt_5068e_17 ?_
    refine x_iload_n (j := 1) (i := 1) dJ0_charAt_5068e_20 rfl rfl ?_
    exact nomatch h
  · rw [if_neg hc5] at h
    refine x_aload_n (j := 0) (i := 0) dJ0_charAt_5068e_7 rfl rfl ?_
    obtain ⟨g7, h⟩ := gd_some h
    refine x_sgetV g7 lf_RJ0_9 dJ0_charAt_5068e_8 ?_
    refine x_iload_n (j := 1) (i := 1) dJ0_charAt_5068e_11 rfl rfl ?_
    obtain ⟨v8, w9, hc10, h⟩ := bd_s h
    refine x_callSI dJ0_charAt_5068e_12 ml_RJ0_495 mb_J1_charAt_3b067 (c_J1_charAt_3b067 x0 x1 w2 v8 w9 hc10) [] rfl rfl (Nat.le_of_ble_eq_true rfl) (by decide) (by decide) ?_
    obtain ⟨g11, h⟩ := gd_some h
    obtain ⟨hr9, hw9⟩ := Prod.mk.inj (Option.some.inj h)
    subst hw9
    subst hr9
    exact x_cret dJ0_charAt_5068e_15 rfl (congrArg Value.int g11) rfl
