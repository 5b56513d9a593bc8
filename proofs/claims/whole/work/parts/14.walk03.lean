set_option maxRecDepth 20000 in
theorem c_X5_find (x0 : Nat) (x1 : Int32) (w : xSt) (rE : Nat) (wE : xSt) (h : f_X5_find x0 x1 w = some (rE, wE)) : xCall yX5_find cX5_find 2 (some (.object "WorldHall$Stand")) 0 0 0 [xR x0, xI x1] w (some (xR rE), wE) := by
  refine xCall_of false (by decide) (fun q => nomatch q) (by decide) ?_
  show xX cX5_find 2 (some (.object "WorldHall$Stand")) RX5 false (xRm 0 0 0) (xZf (some (xR rE), wE) 0 0) 0 [(0, xR x0), (1, xI x1)] [] w 0 0
  unfold f_X5_find at h
  refine x_iload_n (j := 1) (i := 1) dX5_find_0 rfl rfl ?_
  refine x_if_lt (tgt := 21) dX5_find_1 (by decide) (fun hc1 => ?_) (fun hc1 => ?_)
  · rw [if_pos hc1] at h
    refine x_null dX5_find_21 ?_
    cases h
    exact x_aret dX5_find_22 rfl (Or.inl ⟨_, rfl⟩) rfl
  · rw [if_neg hc1] at h
    refine x_iload_n (j := 1) (i := 1) dX5_find_4 rfl rfl ?_
    refine x_aload_n (j := 0) (i := 0) dX5_find_5 rfl rfl ?_
    obtain ⟨g2, h⟩ := gd_some h
    refine x_getI (ci := 5) (k := 2) dX5_find_6 lf_RX5_25 rfl g2 ?_
    refine x_icmp_ge (tgt := 21) dX5_find_9 (by decide) (fun hc3 => ?_) (fun hc3 => ?_)
    · rw [if_pos hc3] at h
      refine x_null dX5_find_21 ?_
      cases h
      exact x_aret dX5_find_22 rfl (Or.inl ⟨_, rfl⟩) rfl
    · rw [if_neg hc3] at h
      refine x_aload_n (j := 0) (i := 0) dX5_find_12 rfl rfl ?_
      refine x_getR (ci := 5) (k := 1) dX5_find_13 lf_RX5_17 rfl g2 ?_
      refine x_iload_n (j := 1) (i := 1) dX5_find_16 rfl rfl ?_
      obtain ⟨g4, h⟩ := gd_some h
      obtain ⟨g5, h⟩ := gd_some h
      refine x_qald24 dX5_find_17 g4 g5 ?_
      refine x_goto (tgt := 22) dX5_find_18 (by decide) ?_
      cases h
      exact x_aret dX5_find_22 rfl (Or.inl ⟨_, rfl⟩) rfl
set_option maxRecDepth 20000 in
theorem c_X5_add (x0 : Nat) (x1 : Nat) (w : xSt) (rE : Int32) (wE : xSt) (h : f_X5_add x0 x1 w = some (rE, wE)) : xCall yX5_add cX5_add 2 (some .int) 0 0 0 [xR x0, xR x1] w (some (xI rE), wE) := by
  refine xCall_of false (by decide) (fun q => nomatch q) (by decide) ?_
  show xX cX5_add 2 (some .int) RX5 false (xRm 0 0 0) (xZf (some (xI rE), wE) 0 0) 0 [(0, xR x0), (1, xR x1)] [] w 0 0
  unfold f_X5_add at h
  refine x_aload_n (j := 0) (i := 0) dX5_add_0 rfl rfl ?_
  obtain ⟨g1, h⟩ := gd_some h
  refine x_getR (ci := 5) (k := 1) dX5_add_1 lf_RX5_17 rfl g1 ?_
  refine x_aload_n (j := 0) (i := 0) dX5_add_4 rfl rfl ?_
  refine x_getI (ci := 5) (k := 2) dX5_add_5 lf_RX5_25 rfl g1 ?_
  refine x_aload_n (j := 1) (i := 1) dX5_add_8 rfl rfl ?_
  obtain ⟨g2, h⟩ := gd_some h
  obtain ⟨g3, h⟩ := gd_some h
  obtain ⟨g4, h⟩ := gd_some h
  obtain ⟨w5, hw6, h⟩ := lt1_some h
  refine x_qast24 dX5_add_9 g2 g4 g3 ?_
  rw [← hw6]
  refine x_aload_n (j := 0) (i := 0) dX5_add_10 rfl rfl ?_
  refine x_dup dX5_add_11 rfl ?_
  have g7 : isC w5 x0 5 := by rw [hw6]; exact g1
  refine x_getI (ci := 5) (k := 2) dX5_add_12 lf_RX5_25 rfl g7 ?_
  refine x_iconst (v := 1) dX5_add_15 (by decide) ?_
  refine x_iadd dX5_add_16 ?_
  obtain ⟨w8, hw9, h⟩ := lt1_some h
  refine x_putI (ci := 5) (k := 2) dX5_add_17 (lw_RX5_25_w _) rfl g7 ?_
  rw [← hw9]
  refine x_aload_n (j := 0) (i := 0) dX5_add_20 rfl rfl ?_
  have g10 : isC w8 x0 5 := by rw [hw9]; exact g7
  refine x_getI (ci := 5) (k := 2) dX5_add_21 lf_RX5_25 rfl g10 ?_
  refine x_iconst (v := 1) dX5_add_24 (by decide) ?_
  refine x_isub dX5_add_25 ?_
  cases h
  exact x_iret dX5_add_26 rfl rfl
set_option maxRecDepth 20000 in
theorem c_X5_put (x0 : Nat) (x1 : Nat) (x2 : Int32) (w : xSt) (rE : Unit) (wE : xSt) (h : f_X5_put x0 x1 x2 w = some (rE, wE)) : xCall yX5_put cX5_put 3 none 2 0 0 [xR x0, xR x1, xI x2] w (none, wE) := by
  refine xCall_of false (by decide) (fun q => nomatch q) (by decide) ?_
  show xX cX5_put 3 none RX5 false (xRm 2 0 0) (xZf (none, wE) 0 0) 0 [(0, xR x0), (1, xR x1), (2, xI x2)] [] w 0 0
  unfold f_X5_put at h
  refine x_aload_n (j := 1) (i := 1) dX5_put_0 rfl rfl ?_
  refine x_iload_n (j := 2) (i := 2) dX5_put_1 rfl rfl ?_
  obtain ⟨g1, h⟩ := gd_some h
  obtain ⟨w2, hw3, h⟩ := lt1_some h
  refine x_putI (ci := 6) (k := 6) dX5_put_2 (lw_RX5_28_w _) rfl g1 ?_
  rw [← hw3]
  refine x_aload_n (j := 1) (i := 1) dX5_put_5 rfl rfl ?_
  refine x_aload_n (j := 0) (i := 0) dX5_put_6 rfl rfl ?_
  obtain ⟨g4, h⟩ := gd_some h
  refine x_getR (ci := 5) (k := 0) dX5_put_7 lf_RX5_9 rfl g4 ?_
  refine x_iload_n (j := 2) (i := 2) dX5_put_10 rfl rfl ?_
  refine x_aload_n (j := 1) (i := 1) dX5_put_11 rfl rfl ?_
  have g5 : isC w2 x1 6 := by rw [hw3]; exact g1
  refine x_getI (ci := 6) (k := 3) dX5_put_12 lf_RX5_31 rfl g5 ?_
  refine x_aload_n (j := 1) (i := 1) dX5_put_15 rfl rfl ?_
  refine x_getI (ci := 6) (k := 4) dX5_put_16 lf_RX5_34 rfl g5 ?_
  obtain ⟨g9, h⟩ := gd_some h
  obtain ⟨v6, w7, hc8, h⟩ := bd_s h
  refine x_callVL (ci := 0) dX5_put_19 ml_RX5_37 mb_X0_area (c_X0_area (wR w2 x0 0) x2 (wI w2 x1 3) (wI w2 x1 4) w2 v6 w7 hc8) ⟨_, rfl, rfl⟩ g9 [xR x1] rfl rfl (by decide) (by decide) (by decide) ?_
  obtain ⟨g10, h⟩ := gd_some h
  obtain ⟨w11, hw12, h⟩ := lt1_some h
  refine x_putL (ci := 6) (k := 7) dX5_put_22 (lw_RX5_43_w _) rfl g10 ?_
  rw [← hw12]
  cases h
  exact x_vret dX5_put_25 rfl rfl
set_option maxRecDepth 20000 in
theorem k_X5_laidOnes_l4 (rE : Int32) (wE : xSt) : ∀ (n : Nat) (x0 : Nat) (x1 : Int32) (x2 : Int32) (w : xSt), f_X5_laidOnes_l4 n x0 x1 x2 w = some (rE, wE) → xX cX5_laidOnes 3 (some .int) RX5 false (xRm 1 0 0) (xZf (some (xI rE), wE) 0 0) 4 [(0, xR x0), (1, xI x1), (2, xI x2)] [] w 0 0 := by
  intro n
  induction n with
  | zero => intro x0 x1 x2 w h; exact nomatch (show (none : Option (Int32 × xSt)) = some (rE, wE) from h)
  | succ n ih =>
    intro x0 x1 x2 w h
    rw [f_X5_laidOnes_l4_s] at h
    refine x_iload_n (j := 2) (i := 2) dX5_laidOnes_4 rfl rfl ?_
    refine x_aload_n (j := 0) (i := 0) dX5_laidOnes_5 rfl rfl ?_
    obtain ⟨g1, h⟩ := gd_some h
    refine x_getI (ci := 5) (k := 2) dX5_laidOnes_6 lf_RX5_25 rfl g1 ?_
    refine x_icmp_ge (tgt := 38) dX5_laidOnes_9 (by decide) (fun hc2 => ?_) (fun hc2 => ?_)
    · rw [if_pos hc2] at h
      refine x_iload_n (j := 1) (i := 1) dX5_laidOnes_38 rfl rfl ?_
      cases h
      exact x_iret dX5_laidOnes_39 rfl rfl
    · rw [if_neg hc2] at h
      refine x_iload_n (j := 1) (i := 1) dX5_laidOnes_12 rfl rfl ?_
      refine x_aload_n (j := 0) (i := 0) dX5_laidOnes_13 rfl rfl ?_
      refine x_getR (ci := 5) (k := 1) dX5_laidOnes_14 lf_RX5_17 rfl g1 ?_
      refine x_iload_n (j := 2) (i := 2) dX5_laidOnes_17 rfl rfl ?_
      obtain ⟨g3, h⟩ := gd_some h
      obtain ⟨g4, h⟩ := gd_some h
      refine x_qald24 dX5_laidOnes_18 g3 g4 ?_
      obtain ⟨g8, h⟩ := gd_some h
      obtain ⟨v5, w6, hc7, h⟩ := bd_s h
      refine x_callVI (ci := 6) dX5_laidOnes_19 ml_RX5_47 mb_X6_isLaid (c_X6_isLaid (wR w (wR w x0 1) x2.toNatClampNeg) w v5 w6 hc7) ⟨_, rfl, rfl⟩ g8 [xI x1] rfl rfl (by decide) (by decide) (by decide) ?_
      refine x_if_eq (tgt := 29) dX5_laidOnes_22 (by decide) (fun hc9 => ?_) (fun hc9 => ?_)
      · rw [if_pos hc9] at h
        refine x_iconst (v := 0) dX5_laidOnes_29 (by decide) ?_
        refine x_iadd dX5_laidOnes_30 ?_
        refine x_istore_n (i := 1) (lv2 := [(1, xI (x1 + (0 : Int32))), (0, xR x0), (2, xI x2)]) dX5_laidOnes_31 rfl (by decide) rfl ?_
        refine x_iinc (j := 2) (i := 2) (v := x2 + (1 : Int32)) (lv2 := [(2, xI (x2 + (1 : Int32))), (1, xI (x1 + (0 : Int32))), (0, xR x0)]) dX5_laidOnes_32 rfl rfl (by decide) rfl ?_
        refine x_goto (tgt := 4) dX5_laidOnes_35 (by decide) ?_
        refine x_lv (lv2 := [(0, xR x0), (1, xI (x1 + (0 : Int32))), (2, xI (x2 + (1 : Int32)))]) [2, 1, 0] rfl ?_
        exact ih x0 (x1 + (0 : Int32)) (x2 + (1 : Int32)) w6 h
      · rw [if_neg hc9] at h
        refine x_iconst (v := 1) dX5_laidOnes_25 (by decide) ?_
        refine x_goto (tgt := 30) dX5_laidOnes_26 (by decide) ?_
        refine x_iadd dX5_laidOnes_30 ?_
        refine x_istore_n (i := 1) (lv2 := [(1, xI (x1 + (1 : Int32))), (0, xR x0), (2, xI x2)]) dX5_laidOnes_31 rfl (by decide) rfl ?_
        refine x_iinc (j := 2) (i := 2) (v := x2 + (1 : Int32)) (lv2 := [(2, xI (x2 + (1 : Int32))), (1, xI (x1 + (1 : Int32))), (0, xR x0)]) dX5_laidOnes_32 rfl rfl (by decide) rfl ?_
        refine x_goto (tgt := 4) dX5_laidOnes_35 (by decide) ?_
        refine x_lv (lv2 := [(0, xR x0), (1, xI (x1 + (1 : Int32))), (2, xI (x2 + (1 : Int32)))]) [2, 1, 0] rfl ?_
        exact ih x0 (x1 + (1 : Int32)) (x2 + (1 : Int32)) w6 h
set_option maxRecDepth 20000 in
theorem c_X5_laidOnes (x0 : Nat) (w : xSt) (rE : Int32) (wE : xSt) (h : f_X5_laidOnes x0 w = some (rE, wE)) : xCall yX5_laidOnes cX5_laidOnes 3 (some .int) 1 0 0 [xR x0] w (some (xI rE), wE) := by
  refine xCall_of false (by decide) (fun q => nomatch q) (by decide) ?_
  show xX cX5_laidOnes 3 (some .int) RX5 false (xRm 1 0 0) (xZf (some (xI rE), wE) 0 0) 0 [(0, xR x0)] [] w 0 0
  unfold f_X5_laidOnes at h
  refine x_iconst (v := 0) dX5_laidOnes_0 (by decide) ?_
  refine x_istore_n (i := 1) (lv2 := [(1, xI (0 : Int32)), (0, xR x0)]) dX5_laidOnes_1 rfl (by decide) rfl ?_
  refine x_iconst (v := 0) dX5_laidOnes_2 (by decide) ?_
  refine x_istore_n (i := 2) (lv2 := [(2, xI (0 : Int32)), (1, xI (0 : Int32)), (0, xR x0)]) dX5_laidOnes_3 rfl (by decide) rfl ?_
  refine x_lv (lv2 := [(0, xR x0), (1, xI (0 : Int32)), (2, xI (0 : Int32))]) [2, 1, 0] rfl ?_
  exact k_X5_laidOnes_l4 rE wE xFu x0 (0 : Int32) (0 : Int32) w h
set_option maxRecDepth 20000 in
theorem k_X5_withGoods_l4 (rE : Int32) (wE : xSt) : ∀ (n : Nat) (x0 : Nat) (x1 : Int32) (x2 : Int32) (w : xSt), f_X5_withGoods_l4 n x0 x1 x2 w = some (rE, wE) → xX cX5_withGoods 3 (some .int) RX5 false (xRm 0 0 0) (xZf (some (xI rE), wE) 0 0) 4 [(0, xR x0), (1, xI x1), (2, xI x2)] [] w 0 0 := by
  intro n
  induction n with
  | zero => intro x0 x1 x2 w h; exact nomatch (show (none : Option (Int32 × xSt)) = some (rE, wE) from h)
  | succ n ih =>
    intro x0 x1 x2 w h
    rw [f_X5_withGoods_l4_s] at h
    refine x_iload_n (j := 2) (i := 2) dX5_withGoods_4 rfl rfl ?_
    refine x_aload_n (j := 0) (i := 0) dX5_withGoods_5 rfl rfl ?_
    obtain ⟨g1, h⟩ := gd_some h
    refine x_getI (ci := 5) (k := 2) dX5_withGoods_6 lf_RX5_25 rfl g1 ?_
    refine x_icmp_ge (tgt := 38) dX5_withGoods_9 (by decide) (fun hc2 => ?_) (fun hc2 => ?_)
    · rw [if_pos hc2] at h
      refine x_iload_n (j := 1) (i := 1) dX5_withGoods_38 rfl rfl ?_
      cases h
      exact x_iret dX5_withGoods_39 rfl rfl
    · rw [if_neg hc2] at h
      refine x_iload_n (j := 1) (i := 1) dX5_withGoods_12 rfl rfl ?_
      refine x_aload_n (j := 0) (i := 0) dX5_withGoods_13 rfl rfl ?_
      refine x_getR (ci := 5) (k := 1) dX5_withGoods_14 lf_RX5_17 rfl g1 ?_
      refine x_iload_n (j := 2) (i := 2) dX5_withGoods_17 rfl rfl ?_
      obtain ⟨g3, h⟩ := gd_some h
      obtain ⟨g4, h⟩ := gd_some h
      refine x_qald24 dX5_withGoods_18 g3 g4 ?_
      obtain ⟨g5, h⟩ := gd_some h
      refine x_getI (ci := 6) (k := 8) dX5_withGoods_19 lf_RX5_51 rfl g5 ?_
      refine x_if_eq (tgt := 29) dX5_withGoods_22 (by decide) (fun hc6 => ?_) (fun hc6 => ?_)
      · rw [if_pos hc6] at h
        refine x_iconst (v := 0) dX5_withGoods_29 (by decide) ?_
        refine x_iadd dX5_withGoods_30 ?_
        refine x_istore_n (i := 1) (lv2 := [(1, xI (x1 + (0 : Int32))), (0, xR x0), (2, xI x2)]) dX5_withGoods_31 rfl (by decide) rfl ?_
        refine x_iinc (j := 2) (i := 2) (v := x2 + (1 : Int32)) (lv2 := [(2, xI (x2 + (1 : Int32))), (1, xI (x1 + (0 : Int32))), (0, xR x0)]) dX5_withGoods_32 rfl rfl (by decide) rfl ?_
        refine x_goto (tgt := 4) dX5_withGoods_35 (by decide) ?_
        refine x_lv (lv2 := [(0, xR x0), (1, xI (x1 + (0 : Int32))), (2, xI (x2 + (1 : Int32)))]) [2, 1, 0] rfl ?_
        exact ih x0 (x1 + (0 : Int32)) (x2 + (1 : Int32)) w h
      · rw [if_neg hc6] at h
        refine x_iconst (v := 1) dX5_withGoods_25 (by decide) ?_
        refine x_goto (tgt := 30) dX5_withGoods_26 (by decide) ?_
        refine x_iadd dX5_withGoods_30 ?_
        refine x_istore_n (i := 1) (lv2 := [(1, xI (x1 + (1 : Int32))), (0, xR x0), (2, xI x2)]) dX5_withGoods_31 rfl (by decide) rfl ?_
        refine x_iinc (j := 2) (i := 2) (v := x2 + (1 : Int32)) (lv2 := [(2, xI (x2 + (1 : Int32))), (1, xI (x1 + (1 : Int32))), (0, xR x0)]) dX5_withGoods_32 rfl rfl (by decide) rfl ?_
        refine x_goto (tgt := 4) dX5_withGoods_35 (by decide) ?_
        refine x_lv (lv2 := [(0, xR x0), (1, xI (x1 + (1 : Int32))), (2, xI (x2 + (1 : Int32)))]) [2, 1, 0] rfl ?_
        exact ih x0 (x1 + (1 : Int32)) (x2 + (1 : Int32)) w h
set_option maxRecDepth 20000 in
theorem c_X5_withGoods (x0 : Nat) (w : xSt) (rE : Int32) (wE : xSt) (h : f_X5_withGoods x0 w = some (rE, wE)) : xCall yX5_withGoods cX5_withGoods 3 (some .int) 0 0 0 [xR x0] w (some (xI rE), wE) := by
  refine xCall_of false (by decide) (fun q => nomatch q) (by decide) ?_
  show xX cX5_withGoods 3 (some .int) RX5 false (xRm 0 0 0) (xZf (some (xI rE), wE) 0 0) 0 [(0, xR x0)] [] w 0 0
  unfold f_X5_withGoods at h
  refine x_iconst (v := 0) dX5_withGoods_0 (by decide) ?_
  refine x_istore_n (i := 1) (lv2 := [(1, xI (0 : Int32)), (0, xR x0)]) dX5_withGoods_1 rfl (by decide) rfl ?_
  refine x_iconst (v := 0) dX5_withGoods_2 (by decide) ?_
  refine x_istore_n (i := 2) (lv2 := [(2, xI (0 : Int32)), (1, xI (0 : Int32)), (0, xR x0)]) dX5_withGoods_3 rfl (by decide) rfl ?_
  refine x_lv (lv2 := [(0, xR x0), (1, xI (0 : Int32)), (2, xI (0 : Int32))]) [2, 1, 0] rfl ?_
  exact k_X5_withGoods_l4 rE wE xFu x0 (0 : Int32) (0 : Int32) w h
set_option maxRecDepth 20000 in
theorem k_X5_handedOver_l4 (rE : Int32) (wE : xSt) : ∀ (n : Nat) (x0 : Nat) (x1 : Int32) (x2 : Int32) (w : xSt), f_X5_handedOver_l4 n x0 x1 x2 w = some (rE, wE) → xX cX5_handedOver 3 (some .int) RX5 false (xRm 0 0 0) (xZf (some (xI rE), wE) 0 0) 4 [(0, xR x0), (1, xI x1), (2, xI x2)] [] w 0 0 := by
  intro n
  induction n with
  | zero => intro x0 x1 x2 w h; exact nomatch (show (none : Option (Int32 × xSt)) = some (rE, wE) from h)
  | succ n ih =>
    intro x0 x1 x2 w h
    rw [f_X5_handedOver_l4_s] at h
    refine x_iload_n (j := 2) (i := 2) dX5_handedOver_4 rfl rfl ?_
    refine x_aload_n (j := 0) (i := 0) dX5_handedOver_5 rfl rfl ?_
    obtain ⟨g1, h⟩ := gd_some h
    refine x_getI (ci := 5) (k := 2) dX5_handedOver_6 lf_RX5_25 rfl g1 ?_
    refine x_icmp_ge (tgt := 38) dX5_handedOver_9 (by decide) (fun hc2 => ?_) (fun hc2 => ?_)
    · rw [if_pos hc2] at h
      refine x_iload_n (j := 1) (i := 1) dX5_handedOver_38 rfl rfl ?_
      cases h
      exact x_iret dX5_handedOver_39 rfl rfl
    · rw [if_neg hc2] at h
      refine x_iload_n (j := 1) (i := 1) dX5_handedOver_12 rfl rfl ?_
      refine x_aload_n (j := 0) (i := 0) dX5_handedOver_13 rfl rfl ?_
      refine x_getR (ci := 5) (k := 1) dX5_handedOver_14 lf_RX5_17 rfl g1 ?_
      refine x_iload_n (j := 2) (i := 2) dX5_handedOver_17 rfl rfl ?_
      obtain ⟨g3, h⟩ := gd_some h
      obtain ⟨g4, h⟩ := gd_some h
      refine x_qald24 dX5_handedOver_18 g3 g4 ?_
      obtain ⟨g5, h⟩ := gd_some h
      refine x_getI (ci := 6) (k := 10) dX5_handedOver_19 lf_RX5_55 rfl g5 ?_
      refine x_if_eq (tgt := 29) dX5_handedOver_22 (by decide) (fun hc6 => ?_) (fun hc6 => ?_)
      · rw [if_pos hc6] at h
        refine x_iconst (v := 0) dX5_handedOver_29 (by decide) ?_
        refine x_iadd dX5_handedOver_30 ?_
        refine x_istore_n (i := 1) (lv2 := [(1, xI (x1 + (0 : Int32))), (0, xR x0), (2, xI x2)]) dX5_handedOver_31 rfl (by decide) rfl ?_
        refine x_iinc (j := 2) (i := 2) (v := x2 + (1 : Int32)) (lv2 := [(2, xI (x2 + (1 : Int32))), (1, xI (x1 + (0 : Int32))), (0, xR x0)]) dX5_handedOver_32 rfl rfl (by decide) rfl ?_
        refine x_goto (tgt := 4) dX5_handedOver_35 (by decide) ?_
        refine x_lv (lv2 := [(0, xR x0), (1, xI (x1 + (0 : Int32))), (2, xI (x2 + (1 : Int32)))]) [2, 1, 0] rfl ?_
        exact ih x0 (x1 + (0 : Int32)) (x2 + (1 : Int32)) w h
      · rw [if_neg hc6] at h
        refine x_iconst (v := 1) dX5_handedOver_25 (by decide) ?_
        refine x_goto (tgt := 30) dX5_handedOver_26 (by decide) ?_
        refine x_iadd dX5_handedOver_30 ?_
        refine x_istore_n (i := 1) (lv2 := [(1, xI (x1 + (1 : Int32))), (0, xR x0), (2, xI x2)]) dX5_handedOver_31 rfl (by decide) rfl ?_
        refine x_iinc (j := 2) (i := 2) (v := x2 + (1 : Int32)) (lv2 := [(2, xI (x2 + (1 : Int32))), (1, xI (x1 + (1 : Int32))), (0, xR x0)]) dX5_handedOver_32 rfl rfl (by decide) rfl ?_
        refine x_goto (tgt := 4) dX5_handedOver_35 (by decide) ?_
        refine x_lv (lv2 := [(0, xR x0), (1, xI (x1 + (1 : Int32))), (2, xI (x2 + (1 : Int32)))]) [2, 1, 0] rfl ?_
        exact ih x0 (x1 + (1 : Int32)) (x2 + (1 : Int32)) w h
set_option maxRecDepth 20000 in
theorem c_X5_handedOver (x0 : Nat) (w : xSt) (rE : Int32) (wE : xSt) (h : f_X5_handedOver x0 w = some (rE, wE)) : xCall yX5_handedOver cX5_handedOver 3 (some .int) 0 0 0 [xR x0] w (some (xI rE), wE) := by
  refine xCall_of false (by decide) (fun q => nomatch q) (by decide) ?_
  show xX cX5_handedOver 3 (some .int) RX5 false (xRm 0 0 0) (xZf (some (xI rE), wE) 0 0) 0 [(0, xR x0)] [] w 0 0
  unfold f_X5_handedOver at h
  refine x_iconst (v := 0) dX5_handedOver_0 (by decide) ?_
  refine x_istore_n (i := 1) (lv2 := [(1, xI (0 : Int32)), (0, xR x0)]) dX5_handedOver_1 rfl (by decide) rfl ?_
  refine x_iconst (v := 0) dX5_handedOver_2 (by decide) ?_
  refine x_istore_n (i := 2) (lv2 := [(2, xI (0 : Int32)), (1, xI (0 : Int32)), (0, xR x0)]) dX5_handedOver_3 rfl (by decide) rfl ?_
  refine x_lv (lv2 := [(0, xR x0), (1, xI (0 : Int32)), (2, xI (0 : Int32))]) [2, 1, 0] rfl ?_
  exact k_X5_handedOver_l4 rE wE xFu x0 (0 : Int32) (0 : Int32) w h
set_option maxRecDepth 20000 in
theorem k_X5_emptyAll_l7 (rE : Int32) (wE : xSt) : ∀ (n : Nat) (x0 : Nat) (x1 : Int32) (x2 : Int32) (w : xSt), f_X5_emptyAll_l7 n x0 x1 x2 w = some (rE, wE) → xX cX5_emptyAll 3 (some .int) RX5 false (xRm 1 0 0) (xZf (some (xI rE), wE) 0 0) 7 [(0, xR x0), (1, xI x1), (2, xI x2)] [] w 0 0 := by
  intro n
  induction n with
  | zero => intro x0 x1 x2 w h; exact nomatch (show (none : Option (Int32 × xSt)) = some (rE, wE) from h)
  | succ n ih =>
    intro x0 x1 x2 w h
    rw [f_X5_emptyAll_l7_s] at h
    refine x_iload_n (j := 2) (i := 2) dX5_emptyAll_7 rfl rfl ?_
    refine x_aload_n (j := 0) (i := 0) dX5_emptyAll_8 rfl rfl ?_
    obtain ⟨g5, h⟩ := gd_some h
    refine x_getI (ci := 5) (k := 2) dX5_emptyAll_9 lf_RX5_25 rfl g5 ?_
    refine x_icmp_ge (tgt := 31) dX5_emptyAll_12 (by decide) (fun hc6 => ?_) (fun hc6 => ?_)
    · rw [if_pos hc6] at h
      refine x_iload_n (j := 1) (i := 1) dX5_emptyAll_31 rfl rfl ?_
      cases h
      exact x_iret dX5_emptyAll_32 rfl rfl
    · rw [if_neg hc6] at h
      refine x_aload_n (j := 0) (i := 0) dX5_emptyAll_15 rfl rfl ?_
      refine x_getR (ci := 5) (k := 1) dX5_emptyAll_16 lf_RX5_17 rfl g5 ?_
      refine x_iload_n (j := 2) (i := 2) dX5_emptyAll_19 rfl rfl ?_
      obtain ⟨g7, h⟩ := gd_some h
      obtain ⟨g8, h⟩ := gd_some h
      refine x_qald24 dX5_emptyAll_20 g7 g8 ?_
      refine x_iconst (v := 0) dX5_emptyAll_21 (by decide) ?_
      obtain ⟨g9, h⟩ := gd_some h
      obtain ⟨w10, hw11, h⟩ := lt1_some h
      refine x_putZ (ci := 6) (k := 8) dX5_emptyAll_22 (lw_RX5_51_w _) rfl g9 (by decide) ?_
      rw [← hw11]
      refine x_iinc (j := 2) (i := 2) (v := x2 + (1 : Int32)) (lv2 := [(2, xI (x2 + (1 : Int32))), (0, xR x0), (1, xI x1)]) dX5_emptyAll_25 rfl rfl (by decide) rfl ?_
      refine x_goto (tgt := 7) dX5_emptyAll_28 (by decide) ?_
      refine x_lv (lv2 := [(0, xR x0), (1, xI x1), (2, xI (x2 + (1 : Int32)))]) [1, 2, 0] rfl ?_
      exact ih x0 x1 (x2 + (1 : Int32)) w10 h
set_option maxRecDepth 20000 in
theorem c_X5_emptyAll (x0 : Nat) (w : xSt) (rE : Int32) (wE : xSt) (h : f_X5_emptyAll x0 w = some (rE, wE)) : xCall yX5_emptyAll cX5_emptyAll 3 (some .int) 1 0 0 [xR x0] w (some (xI rE), wE) := by
  refine xCall_of false (by decide) (fun q => nomatch q) (by decide) ?_
  show xX cX5_emptyAll 3 (some .int) RX5 false (xRm 1 0 0) (xZf (some (xI rE), wE) 0 0) 0 [(0, xR x0)] [] w 0 0
  unfold f_X5_emptyAll at h
  refine x_aload_n (j := 0) (i := 0) dX5_emptyAll_0 rfl rfl ?_
  obtain ⟨g4, h⟩ := gd_some h
  obtain ⟨v1, w2, hc3, h⟩ := bd_s h
  refine x_callVI (ci := 5) dX5_emptyAll_1 ml_RX5_58 mb_X5_withGoods (c_X5_withGoods x0 w v1 w2 hc3) ⟨_, rfl, rfl⟩ g4 [] rfl rfl (by decide) (by decide) (by decide) ?_
  refine x_istore_n (i := 1) (lv2 := [(1, xI v1), (0, xR x0)]) dX5_emptyAll_4 rfl (by decide) rfl ?_
  refine x_iconst (v := 0) dX5_emptyAll_5 (by decide) ?_
  refine x_istore_n (i := 2) (lv2 := [(2, xI (0 : Int32)), (1, xI v1), (0, xR x0)]) dX5_emptyAll_6 rfl (by decide) rfl ?_
  refine x_lv (lv2 := [(0, xR x0), (1, xI v1), (2, xI (0 : Int32))]) [2, 1, 0] rfl ?_
  exact k_X5_emptyAll_l7 rE wE xFu x0 v1 (0 : Int32) w2 h
set_option maxRecDepth 20000 in
theorem k_X5_standOn_l2 (rE : Int32) (wE : xSt) : ∀ (n : Nat) (x0 : Nat) (x1 : Int32) (x2 : Int32) (w : xSt), f_X5_standOn_l2 n x0 x1 x2 w = some (rE, wE) → xX cX5_standOn 3 (some .int) RX5 false (xRm 1 0 0) (xZf (some (xI rE), wE) 0 0) 2 [(0, xR x0), (1, xI x1), (2, xI x2)] [] w 0 0 := by
  intro n
  induction n with
  | zero => intro x0 x1 x2 w h; exact nomatch (show (none : Option (Int32 × xSt)) = some (rE, wE) from h)
  | succ n ih =>
    intro x0 x1 x2 w h
    rw [f_X5_standOn_l2_s] at h
    refine x_iload_n (j := 2) (i := 2) dX5_standOn_2 rfl rfl ?_
    refine x_aload_n (j := 0) (i := 0) dX5_standOn_3 rfl rfl ?_
    obtain ⟨g1, h⟩ := gd_some h
    refine x_getI (ci := 5) (k := 2) dX5_standOn_4 lf_RX5_25 rfl g1 ?_
    refine x_icmp_ge (tgt := 37) dX5_standOn_7 (by decide) (fun hc2 => ?_) (fun hc2 => ?_)
    · rw [if_pos hc2] at h
      refine x_iconst (v := -1) dX5_standOn_37 (by decide) ?_
      cases h
      exact x_iret dX5_standOn_38 rfl rfl
    · rw [if_neg hc2] at h
      refine x_aload_n (j := 0) (i := 0) dX5_standOn_10 rfl rfl ?_
      refine x_getR (ci := 5) (k := 1) dX5_standOn_11 lf_RX5_17 rfl g1 ?_
      refine x_iload_n (j := 2) (i := 2) dX5_standOn_14 rfl rfl ?_
      obtain ⟨g3, h⟩ := gd_some h
      obtain ⟨g4, h⟩ := gd_some h
      refine x_qald24 dX5_standOn_15 g3 g4 ?_
      obtain ⟨g5, h⟩ := gd_some h
      refine x_getL (ci := 6) (k := 7) dX5_standOn_16 lf_RX5_43 rfl g5 ?_
      refine x_iload_n (j := 1) (i := 1) dX5_standOn_19 rfl rfl ?_
      obtain ⟨v6, w7, hc8, h⟩ := bd_s h
      refine x_callSL dX5_standOn_20 ml_RX5_62 mb_X0_only (c_X0_only x1 w v6 w7 hc8) [xL (wL w (wR w (wR w x0 1) x2.toNatClampNeg) 7)] rfl rfl (by decide) (by decide) (by decide) ?_
      refine x_land dX5_standOn_23 ?_
      refine x_lconst (v := 0) dX5_standOn_24 (by decide) ?_
      refine x_lcmp dX5_standOn_25 ?_
      refine x_if_eq (tgt := 31) dX5_standOn_26 (by decide) (fun hc9 => ?_) (fun hc9 => ?_)
      · rw [if_pos hc9] at h
        refine x_iinc (j := 2) (i := 2) (v := x2 + (1 : Int32)) (lv2 := [(2, xI (x2 + (1 : Int32))), (0, xR x0), (1, xI x1)]) dX5_standOn_31 rfl rfl (by decide) rfl ?_
        refine x_goto (tgt := 2) dX5_standOn_34 (by decide) ?_
        refine x_lv (lv2 := [(0, xR x0), (1, xI x1), (2, xI (x2 + (1 : Int32)))]) [1, 2, 0] rfl ?_
        exact ih x0 x1 (x2 + (1 : Int32)) w7 h
      · rw [if_neg hc9] at h
        refine x_iload_n (j := 2) (i := 2) dX5_standOn_29 rfl rfl ?_
        cases h
        exact x_iret dX5_standOn_30 rfl rfl
set_option maxRecDepth 20000 in
theorem c_X5_standOn (x0 : Nat) (x1 : Int32) (w : xSt) (rE : Int32) (wE : xSt) (h : f_X5_standOn x0 x1 w = some (rE, wE)) : xCall yX5_standOn cX5_standOn 3 (some .int) 1 0 0 [xR x0, xI x1] w (some (xI rE), wE) := by
  refine xCall_of false (by decide) (fun q => nomatch q) (by decide) ?_
  show xX cX5_standOn 3 (some .int) RX5 false (xRm 1 0 0) (xZf (some (xI rE), wE) 0 0) 0 [(0, xR x0), (1, xI x1)] [] w 0 0
  unfold f_X5_standOn at h
  refine x_iconst (v := 0) dX5_standOn_0 (by decide) ?_
  refine x_istore_n (i := 2) (lv2 := [(2, xI (0 : Int32)), (0, xR x0), (1, xI x1)]) dX5_standOn_1 rfl (by decide) rfl ?_
  refine x_lv (lv2 := [(0, xR x0), (1, xI x1), (2, xI (0 : Int32))]) [1, 2, 0] rfl ?_
  exact k_X5_standOn_l2 rE wE xFu x0 x1 (0 : Int32) w h
set_option maxRecDepth 20000 in
theorem k_X5_covered_l5 (rE : Int64) (wE : xSt) : ∀ (n : Nat) (x0 : Nat) (x1 : Nat) (x2 : Int64) (x4 : Int32) (w : xSt), f_X5_covered_l5 n x0 x1 x2 x4 w = some (rE, wE) → xX cX5_covered 5 (some .long) RX5 false (xRm 0 0 0) (xZf (some (xL rE), wE) 0 0) 5 [(0, xR x0), (1, xR x1), (2, xL x2), (4, xI x4)] [] w 0 0 := by
  intro n
  induction n with
  | zero => intro x0 x1 x2 x4 w h; exact nomatch (show (none : Option (Int64 × xSt)) = some (rE, wE) from h)
  | succ n ih =>
    intro x0 x1 x2 x4 w h
    rw [f_X5_covered_l5_s] at h
    refine x_iload (j := 3) (i := 4) dX5_covered_5 rfl ?_
    refine x_aload_n (j := 0) (i := 0) dX5_covered_7 rfl rfl ?_
    obtain ⟨g1, h⟩ := gd_some h
    refine x_getI (ci := 5) (k := 2) dX5_covered_8 lf_RX5_25 rfl g1 ?_
    refine x_icmp_ge (tgt := 48) dX5_covered_11 (by decide) (fun hc2 => ?_) (fun hc2 => ?_)
    · rw [if_pos hc2] at h
      refine x_lload_n (j := 2) (i := 2) dX5_covered_48 rfl rfl ?_
      cases h
      exact x_lret dX5_covered_49 rfl rfl
    · rw [if_neg hc2] at h
      refine x_lload_n (j := 2) (i := 2) dX5_covered_14 rfl rfl ?_
      refine x_aload_n (j := 0) (i := 0) dX5_covered_15 rfl rfl ?_
      refine x_getR (ci := 5) (k := 1) dX5_covered_16 lf_RX5_17 rfl g1 ?_
      refine x_iload (j := 3) (i := 4) dX5_covered_19 rfl ?_
      obtain ⟨g3, h⟩ := gd_some h
      obtain ⟨g4, h⟩ := gd_some h
      refine x_qald24 dX5_covered_21 g3 g4 ?_
      refine x_aload_n (j := 1) (i := 1) dX5_covered_22 rfl rfl ?_
      obtain ⟨g5, h⟩ := gd_some h
      obtain ⟨g6, h⟩ := gd_some h
      refine x_acmp_eq (tgt := 39) dX5_covered_23 (by decide) g5 g6 (fun hc7 => ?_) (fun hc7 => ?_)
      · rw [if_pos hc7] at h
        refine x_lconst (v := 0) dX5_covered_39 (by decide) ?_
        refine x_lor dX5_covered_40 ?_
        refine x_lstore_n (i := 2) (lv2 := [(2, xL (x2 ||| (0 : Int64))), (0, xR x0), (1, xR x1), (4, xI x4)]) dX5_covered_41 rfl (by decide) rfl ?_
        refine x_iinc (j := 3) (i := 4) (v := x4 + (1 : Int32)) (lv2 := [(4, xI (x4 + (1 : Int32))), (2, xL (x2 ||| (0 : Int64))), (0, xR x0), (1, xR x1)]) dX5_covered_42 rfl rfl (by decide) rfl ?_
        refine x_goto (tgt := 5) dX5_covered_45 (by decide) ?_
        refine x_lv (lv2 := [(0, xR x0), (1, xR x1), (2, xL (x2 ||| (0 : Int64))), (4, xI (x4 + (1 : Int32)))]) [2, 3, 1, 0] rfl ?_
        exact ih x0 x1 (x2 ||| (0 : Int64)) (x4 + (1 : Int32)) w h
      · rw [if_neg hc7] at h
        refine x_aload_n (j := 0) (i := 0) dX5_covered_26 rfl rfl ?_
        refine x_getR (ci := 5) (k := 1) dX5_covered_27 lf_RX5_17 rfl g1 ?_
        refine x_iload (j := 3) (i := 4) dX5_covered_30 rfl ?_
        refine x_qald24 dX5_covered_32 g3 g4 ?_
        obtain ⟨g8, h⟩ := gd_some h
        refine x_getL (ci := 6) (k := 7) dX5_covered_33 lf_RX5_43 rfl g8 ?_
        refine x_goto (tgt := 40) dX5_covered_36 (by decide) ?_
        refine x_lor dX5_covered_40 ?_
        refine x_lstore_n (i := 2) (lv2 := [(2, xL (x2 ||| (wL w (wR w (wR w x0 1) x4.toNatClampNeg) 7))), (0, xR x0), (1, xR x1), (4, xI x4)]) dX5_covered_41 rfl (by decide) rfl ?_
        refine x_iinc (j := 3) (i := 4) (v := x4 + (1 : Int32)) (lv2 := [(4, xI (x4 + (1 : Int32))), (2, xL (x2 ||| (wL w (wR w (wR w x0 1) x4.toNatClampNeg) 7))), (0, xR x0), (1, xR x1)]) dX5_covered_42 rfl rfl (by decide) rfl ?_
        refine x_goto (tgt := 5) dX5_covered_45 (by decide) ?_
        refine x_lv (lv2 := [(0, xR x0), (1, xR x1), (2, xL (x2 ||| (wL w (wR w (wR w x0 1) x4.toNatClampNeg) 7))), (4, xI (x4 + (1 : Int32)))]) [2, 3, 1, 0] rfl ?_
        exact ih x0 x1 (x2 ||| (wL w (wR w (wR w x0 1) x4.toNatClampNeg) 7)) (x4 + (1 : Int32)) w h
set_option maxRecDepth 20000 in
theorem c_X5_covered (x0 : Nat) (x1 : Nat) (w : xSt) (rE : Int64) (wE : xSt) (h : f_X5_covered x0 x1 w = some (rE, wE)) : xCall yX5_covered cX5_covered 5 (some .long) 0 0 0 [xR x0, xR x1] w (some (xL rE), wE) := by
  refine xCall_of false (by decide) (fun q => nomatch q) (by decide) ?_
  show xX cX5_covered 5 (some .long) RX5 false (xRm 0 0 0) (xZf (some (xL rE), wE) 0 0) 0 [(0, xR x0), (1, xR x1)] [] w 0 0
  unfold f_X5_covered at h
  refine x_lconst (v := 0) dX5_covered_0 (by decide) ?_
  refine x_lstore_n (i := 2) (lv2 := [(2, xL (0 : Int64)), (0, xR x0), (1, xR x1)]) dX5_covered_1 rfl (by decide) rfl ?_
  refine x_iconst (v := 0) dX5_covered_2 (by decide) ?_
  refine x_istore (i := 4) (lv2 := [(4, xI (0 : Int32)), (2, xL (0 : Int64)), (0, xR x0), (1, xR x1)]) dX5_covered_3 (by decide) rfl ?_
  refine x_lv (lv2 := [(0, xR x0), (1, xR x1), (2, xL (0 : Int64)), (4, xI (0 : Int32))]) [2, 3, 1, 0] rfl ?_
  exact k_X5_covered_l5 rE wE xFu x0 x1 (0 : Int64) (0 : Int32) w h
set_option maxRecDepth 20000 in
theorem c_X5_between (x0 : Int32) (x1 : Int32) (x2 : Int32) (x3 : Int32) (w : xSt) (rE : Int32) (wE : xSt) (h : f_X5_between x0 x1 x2 x3 w = some (rE, wE)) : xCall yX5_between cX5_between 4 (some .int) 1 0 0 [xI x0, xI x1, xI x2, xI x3] w (some (xI rE), wE) := by
  refine xCall_of false (by decide) (fun q => nomatch q) (by decide) ?_
  show xX cX5_between 4 (some .int) RX5 false (xRm 1 0 0) (xZf (some (xI rE), wE) 0 0) 0 [(0, xI x0), (1, xI x1), (2, xI x2), (3, xI x3)] [] w 0 0
  unfold f_X5_between at h
  refine x_iload_n (j := 2) (i := 2) dX5_between_0 rfl rfl ?_
  refine x_iload_n (j := 0) (i := 0) dX5_between_1 rfl rfl ?_
  refine x_isub dX5_between_2 ?_
  refine x_iload_n (j := 1) (i := 1) dX5_between_3 rfl rfl ?_
  refine x_isub dX5_between_4 ?_
  refine x_iload_n (j := 0) (i := 0) dX5_between_5 rfl rfl ?_
  refine x_iload_n (j := 2) (i := 2) dX5_between_6 rfl rfl ?_
  refine x_isub dX5_between_7 ?_
  refine x_iload_n (j := 3) (i := 3) dX5_between_8 rfl rfl ?_
  refine x_isub dX5_between_9 ?_
  obtain ⟨v1, w2, hc3, h⟩ := bd_s h
  refine x_callSI dX5_between_10 ml_RX5_109 mb_J9_max_7cf53 (c_J9_max_7cf53 ((x2 - x0) - x1) ((x0 - x2) - x3) w v1 w2 hc3) [] rfl rfl (by decide) (by decide) (by decide) ?_
  cases h
  exact x_iret dX5_between_13 rfl rfl
set_option maxRecDepth 20000 in
theorem k_X5_isTooNear_l2 (rE : Int32) (wE : xSt) : ∀ (n : Nat) (x0 : Nat) (x1 : Nat) (x2 : Int32) (x3 : Int32) (w : xSt), f_X5_isTooNear_l2 n x0 x1 x2 x3 w = some (rE, wE) → xX cX5_isTooNear 5 (some .boolean) RX5 false (xRm 2 0 0) (xZf (some (xI rE), wE) 0 0) 2 [(0, xR x0), (1, xR x1), (2, xI x2), (3, xI x3)] [] w 0 0 := by
  intro n
  induction n with
  | zero => intro x0 x1 x2 x3 w h; exact nomatch (show (none : Option (Int32 × xSt)) = some (rE, wE) from h)
  | succ n ih =>
    intro x0 x1 x2 x3 w h
    rw [f_X5_isTooNear_l2_s] at h
    refine x_iload_n (j := 3) (i := 3) dX5_isTooNear_2 rfl rfl ?_
    refine x_aload_n (j := 0) (i := 0) dX5_isTooNear_3 rfl rfl ?_
    obtain ⟨g1, h⟩ := gd_some h
    refine x_getI (ci := 5) (k := 2) dX5_isTooNear_4 lf_RX5_25 rfl g1 ?_
    refine x_icmp_ge (tgt := 130) dX5_isTooNear_7 (by decide) (fun hc2 => ?_) (fun hc2 => ?_)
    · rw [if_pos hc2] at h
      refine x_iconst (v := 0) dX5_isTooNear_130 (by decide) ?_
      cases h
      exact x_zret dX5_isTooNear_131 rfl (by decide) rfl
    · rw [if_neg hc2] at h
      refine x_aload_n (j := 0) (i := 0) dX5_isTooNear_10 rfl rfl ?_
      refine x_getR (ci := 5) (k := 1) dX5_isTooNear_11 lf_RX5_17 rfl g1 ?_
      refine x_iload_n (j := 3) (i := 3) dX5_isTooNear_14 rfl rfl ?_
      obtain ⟨g3, h⟩ := gd_some h
      obtain ⟨g4, h⟩ := gd_some h
      refine x_qald24 dX5_isTooNear_15 g3 g4 ?_
      refine x_astore (i := 4) (lv2 := [(4, xR (wR w (wR w x0 1) x3.toNatClampNeg)), (0, xR x0), (1, xR x1), (2, xI x2), (3, xI x3)]) dX5_isTooNear_16 (by decide) rfl ?_
      refine x_aload (j := 0) (i := 4) dX5_isTooNear_18 rfl ?_
      refine x_aload_n (j := 2) (i := 1) dX5_isTooNear_20 rfl rfl ?_
      obtain ⟨g5, h⟩ := gd_some h
      obtain ⟨g6, h⟩ := gd_some h
      refine x_acmp_eq (tgt := 124) dX5_isTooNear_21 (by decide) g5 g6 (fun hc7 => ?_) (fun hc7 => ?_)
      · rw [if_pos hc7] at h
        refine x_iinc (j := 4) (i := 3) (v := x3 + (1 : Int32)) (lv2 := [(3, xI (x3 + (1 : Int32))), (4, xR (wR w (wR w x0 1) x3.toNatClampNeg)), (0, xR x0), (1, xR x1), (2, xI x2)]) dX5_isTooNear_124 rfl rfl (by decide) rfl ?_
        refine x_goto (tgt := 2) dX5_isTooNear_127 (by decide) ?_
        refine x_lv (lv2 := [(0, xR x0), (1, xR x1), (2, xI x2), (3, xI (x3 + (1 : Int32)))]) [2, 3, 4, 0] rfl ?_
        exact ih x0 x1 x2 (x3 + (1 : Int32)) w h
      · rw [if_neg hc7] at h
        refine x_aload (j := 0) (i := 4) dX5_isTooNear_24 rfl ?_
        obtain ⟨g11, h⟩ := gd_some h
        obtain ⟨v8, w9, hc10, h⟩ := bd_s h
        refine x_callVI (ci := 6) dX5_isTooNear_26 ml_RX5_47 mb_X6_isLaid (c_X6_isLaid (wR w (wR w x0 1) x3.toNatClampNeg) w v8 w9 hc10) ⟨_, rfl, rfl⟩ g11 [] rfl rfl (by decide) (by decide) (by decide) ?_
        refine x_if_eq (tgt := 124) dX5_isTooNear_29 (by decide) (fun hc12 => ?_) (fun hc12 => ?_)
        · rw [if_pos hc12] at h
          refine x_iinc (j := 4) (i := 3) (v := x3 + (1 : Int32)) (lv2 := [(3, xI (x3 + (1 : Int32))), (4, xR (wR w (wR w x0 1) x3.toNatClampNeg)), (0, xR x0), (1, xR x1), (2, xI x2)]) dX5_isTooNear_124 rfl rfl (by decide) rfl ?_
          refine x_goto (tgt := 2) dX5_isTooNear_127 (by decide) ?_
          refine x_lv (lv2 := [(0, xR x0), (1, xR x1), (2, xI x2), (3, xI (x3 + (1 : Int32)))]) [2, 3, 4, 0] rfl ?_
          exact ih x0 x1 x2 (x3 + (1 : Int32)) w9 h
        · rw [if_neg hc12] at h
          refine x_aload (j := 0) (i := 4) dX5_isTooNear_32 rfl ?_
          obtain ⟨g13, h⟩ := gd_some h
          refine x_getI (ci := 6) (k := 2) dX5_isTooNear_34 lf_RX5_95 rfl g13 ?_
          refine x_aload_n (j := 2) (i := 1) dX5_isTooNear_37 rfl rfl ?_
          obtain ⟨g14, h⟩ := gd_some h
          refine x_getI (ci := 6) (k := 2) dX5_isTooNear_38 lf_RX5_95 rfl g14 ?_
          refine x_icmp_eq (tgt := 124) dX5_isTooNear_41 (by decide) (fun hc15 => ?_) (fun hc15 => ?_)
          · rw [if_pos hc15] at h
            refine x_iinc (j := 4) (i := 3) (v := x3 + (1 : Int32)) (lv2 := [(3, xI (x3 + (1 : Int32))), (4, xR (wR w (wR w x0 1) x3.toNatClampNeg)), (0, xR x0), (1, xR x1), (2, xI x2)]) dX5_isTooNear_124 rfl rfl (by decide) rfl ?_
            refine x_goto (tgt := 2) dX5_isTooNear_127 (by decide) ?_
            refine x_lv (lv2 := [(0, xR x0), (1, xR x1), (2, xI x2), (3, xI (x3 + (1 : Int32)))]) [2, 3, 4, 0] rfl ?_
            exact ih x0 x1 x2 (x3 + (1 : Int32)) w9 h
          · rw [if_neg hc15] at h
            refine x_aload_n (j := 1) (i := 0) dX5_isTooNear_44 rfl rfl ?_
            obtain ⟨g16, h⟩ := gd_some h
            refine x_getR (ci := 5) (k := 0) dX5_isTooNear_45 lf_RX5_9 rfl g16 ?_
            refine x_iload_n (j := 3) (i := 2) dX5_isTooNear_48 rfl rfl ?_
            obtain ⟨g20, h⟩ := gd_some h
            obtain ⟨v17, w18, hc19, h⟩ := bd_s h
            refine x_callVI (ci := 0) dX5_isTooNear_49 ml_RX5_98 mb_X0_columnOf (c_X0_columnOf (wR w9 x0 0) x2 w9 v17 w18 hc19) ⟨_, rfl, rfl⟩ g20 [] rfl rfl (by decide) (by decide) (by decide) ?_
            refine x_aload_n (j := 2) (i := 1) dX5_isTooNear_52 rfl rfl ?_
            obtain ⟨g21, h⟩ := gd_some h
            refine x_getI (ci := 6) (k := 3) dX5_isTooNear_53 lf_RX5_31 rfl g21 ?_
            refine x_aload_n (j := 1) (i := 0) dX5_isTooNear_56 rfl rfl ?_
            obtain ⟨g22, h⟩ := gd_some h
            refine x_getR (ci := 5) (k := 0) dX5_isTooNear_57 lf_RX5_9 rfl g22 ?_
            refine x_aload (j := 0) (i := 4) dX5_isTooNear_60 rfl ?_
            obtain ⟨g23, h⟩ := gd_some h
            refine x_getI (ci := 6) (k := 6) dX5_isTooNear_62 lf_RX5_28 rfl g23 ?_
            obtain ⟨g27, h⟩ := gd_some h
            obtain ⟨v24, w25, hc26, h⟩ := bd_s h
            refine x_callVI (ci := 0) dX5_isTooNear_65 ml_RX5_98 mb_X0_columnOf (c_X0_columnOf (wR w18 x0 0) (wI w18 (wR w (wR w x0 1) x3.toNatClampNeg) 6) w18 v24 w25 hc26) ⟨_, rfl, rfl⟩ g27 [xI (wI w18 x1 3), xI v17] rfl rfl (by decide) (by decide) (by decide) ?_
            refine x_aload (j := 0) (i := 4) dX5_isTooNear_68 rfl ?_
            obtain ⟨g28, h⟩ := gd_some h
            refine x_getI (ci := 6) (k := 3) dX5_isTooNear_70 lf_RX5_31 rfl g28 ?_
            obtain ⟨v29, w30, hc31, h⟩ := bd_s h
            refine x_callSI dX5_isTooNear_73 ml_RX5_102 mb_X5_between (c_X5_between v17 (wI w18 x1 3) v24 (wI w25 (wR w (wR w x0 1) x3.toNatClampNeg) 3) w25 v29 w30 hc31) [] rfl rfl (by decide) (by decide) (by decide) ?_
            refine x_aload_n (j := 1) (i := 0) dX5_isTooNear_76 rfl rfl ?_
            obtain ⟨g32, h⟩ := gd_some h
            refine x_getI (ci := 5) (k := 3) dX5_isTooNear_77 lf_RX5_21 rfl g32 ?_
            refine x_icmp_ge (tgt := 124) dX5_isTooNear_80 (by decide) (fun hc33 => ?_) (fun hc33 => ?_)
            · rw [if_pos hc33] at h
              refine x_iinc (j := 4) (i := 3) (v := x3 + (1 : Int32)) (lv2 := [(3, xI (x3 + (1 : Int32))), (4, xR (wR w (wR w x0 1) x3.toNatClampNeg)), (0, xR x0), (1, xR x1), (2, xI x2)]) dX5_isTooNear_124 rfl rfl (by decide) rfl ?_
              refine x_goto (tgt := 2) dX5_isTooNear_127 (by decide) ?_
              refine x_lv (lv2 := [(0, xR x0), (1, xR x1), (2, xI x2), (3, xI (x3 + (1 : Int32)))]) [2, 3, 4, 0] rfl ?_
              exact ih x0 x1 x2 (x3 + (1 : Int32)) w30 h
            · rw [if_neg hc33] at h
              refine x_aload_n (j := 1) (i := 0) dX5_isTooNear_83 rfl rfl ?_
              refine x_getR (ci := 5) (k := 0) dX5_isTooNear_84 lf_RX5_9 rfl g32 ?_
              refine x_iload_n (j := 3) (i := 2) dX5_isTooNear_87 rfl rfl ?_
              obtain ⟨g37, h⟩ := gd_some h
              obtain ⟨v34, w35, hc36, h⟩ := bd_s h
              refine x_callVI (ci := 0) dX5_isTooNear_88 ml_RX5_106 mb_X0_lineOf (c_X0_lineOf (wR w30 x0 0) x2 w30 v34 w35 hc36) ⟨_, rfl, rfl⟩ g37 [] rfl rfl (by decide) (by decide) (by decide) ?_
              refine x_aload_n (j := 2) (i := 1) dX5_isTooNear_91 rfl rfl ?_
              obtain ⟨g38, h⟩ := gd_some h
              refine x_getI (ci := 6) (k := 4) dX5_isTooNear_92 lf_RX5_34 rfl g38 ?_
              refine x_aload_n (j := 1) (i := 0) dX5_isTooNear_95 rfl rfl ?_
              obtain ⟨g39, h⟩ := gd_some h
              refine x_getR (ci := 5) (k := 0) dX5_isTooNear_96 lf_RX5_9 rfl g39 ?_
              refine x_aload (j := 0) (i := 4) dX5_isTooNear_99 rfl ?_
              obtain ⟨g40, h⟩ := gd_some h
              refine x_getI (ci := 6) (k := 6) dX5_isTooNear_101 lf_RX5_28 rfl g40 ?_
              obtain ⟨g44, h⟩ := gd_some h
              obtain ⟨v41, w42, hc43, h⟩ := bd_s h
              refine x_callVI (ci := 0) dX5_isTooNear_104 ml_RX5_106 mb_X0_lineOf (c_X0_lineOf (wR w35 x0 0) (wI w35 (wR w (wR w x0 1) x3.toNatClampNeg) 6) w35 v41 w42 hc43) ⟨_, rfl, rfl⟩ g44 [xI (wI w35 x1 4), xI v34] rfl rfl (by decide) (by decide) (by decide) ?_
              refine x_aload (j := 0) (i := 4) dX5_isTooNear_107 rfl ?_
              obtain ⟨g45, h⟩ := gd_some h
              refine x_getI (ci := 6) (k := 4) dX5_isTooNear_109 lf_RX5_34 rfl g45 ?_
              obtain ⟨v46, w47, hc48, h⟩ := bd_s h
              refine x_callSI dX5_isTooNear_112 ml_RX5_102 mb_X5_between (c_X5_between v34 (wI w35 x1 4) v41 (wI w42 (wR w (wR w x0 1) x3.toNatClampNeg) 4) w42 v46 w47 hc48) [] rfl rfl (by decide) (by decide) (by decide) ?_
              refine x_aload_n (j := 1) (i := 0) dX5_isTooNear_115 rfl rfl ?_
              obtain ⟨g49, h⟩ := gd_some h
              refine x_getI (ci := 5) (k := 3) dX5_isTooNear_116 lf_RX5_21 rfl g49 ?_
              refine x_icmp_ge (tgt := 124) dX5_isTooNear_119 (by decide) (fun hc50 => ?_) (fun hc50 => ?_)
              · rw [if_pos hc50] at h
                refine x_iinc (j := 4) (i := 3) (v := x3 + (1 : Int32)) (lv2 := [(3, xI (x3 + (1 : Int32))), (4, xR (wR w (wR w x0 1) x3.toNatClampNeg)), (0, xR x0), (1, xR x1), (2, xI x2)]) dX5_isTooNear_124 rfl rfl (by decide) rfl ?_
                refine x_goto (tgt := 2) dX5_isTooNear_127 (by decide) ?_
                refine x_lv (lv2 := [(0, xR x0), (1, xR x1), (2, xI x2), (3, xI (x3 + (1 : Int32)))]) [2, 3, 4, 0] rfl ?_
                exact ih x0 x1 x2 (x3 + (1 : Int32)) w47 h
              · rw [if_neg hc50] at h
                refine x_iconst (v := 1) dX5_isTooNear_122 (by decide) ?_
                cases h
                exact x_zret dX5_isTooNear_123 rfl (by decide) rfl
set_option maxRecDepth 20000 in
theorem c_X5_isTooNear (x0 : Nat) (x1 : Nat) (x2 : Int32) (w : xSt) (rE : Int32) (wE : xSt) (h : f_X5_isTooNear x0 x1 x2 w = some (rE, wE)) : xCall yX5_isTooNear cX5_isTooNear 5 (some .boolean) 2 0 0 [xR x0, xR x1, xI x2] w (some (xI rE), wE) := by
  refine xCall_of false (by decide) (fun q => nomatch q) (by decide) ?_
  show xX cX5_isTooNear 5 (some .boolean) RX5 false (xRm 2 0 0) (xZf (some (xI rE), wE) 0 0) 0 [(0, xR x0), (1, xR x1), (2, xI x2)] [] w 0 0
  unfold f_X5_isTooNear at h
  refine x_iconst (v := 0) dX5_isTooNear_0 (by decide) ?_
  refine x_istore_n (i := 3) (lv2 := [(3, xI (0 : Int32)), (0, xR x0), (1, xR x1), (2, xI x2)]) dX5_isTooNear_1 rfl (by decide) rfl ?_
  refine x_lv (lv2 := [(0, xR x0), (1, xR x1), (2, xI x2), (3, xI (0 : Int32))]) [1, 2, 3, 0] rfl ?_
  exact k_X5_isTooNear_l2 rE wE xFu x0 x1 x2 (0 : Int32) w h
set_option maxRecDepth 20000 in
theorem c_X6_isAkin (x0 : Nat) (x1 : Nat) (w : xSt) (rE : Int32) (wE : xSt) (h : f_X6_isAkin x0 x1 w = some (rE, wE)) : xCall yX6_isAkin cX6_isAkin 2 (some .boolean) 0 0 0 [xR x0, xR x1] w (some (xI rE), wE) := by
  refine xCall_of false (by decide) (fun q => nomatch q) (by decide) ?_
  show xX cX6_isAkin 2 (some .boolean) RX6 false (xRm 0 0 0) (xZf (some (xI rE), wE) 0 0) 0 [(0, xR x0), (1, xR x1)] [] w 0 0
  unfold f_X6_isAkin at h
  refine x_aload_n (j := 0) (i := 0) dX6_isAkin_0 rfl rfl ?_
  obtain ⟨g1, h⟩ := gd_some h
  refine x_getI (ci := 6) (k := 1) dX6_isAkin_1 lf_RX6_15 rfl g1 ?_
  refine x_aload_n (j := 1) (i := 1) dX6_isAkin_4 rfl rfl ?_
  obtain ⟨g2, h⟩ := gd_some h
  refine x_getI (ci := 6) (k := 1) dX6_isAkin_5 lf_RX6_15 rfl g2 ?_
  refine x_icmp_ne (tgt := 26) dX6_isAkin_8 (by decide) (fun hc3 => ?_) (fun hc3 => ?_)
  · rw [if_neg hc3] at h
    refine x_iconst (v := 0) dX6_isAkin_26 (by decide) ?_
    cases h
    exact x_zret dX6_isAkin_27 rfl (by decide) rfl
  · rw [if_pos hc3] at h
    refine x_aload_n (j := 0) (i := 0) dX6_isAkin_11 rfl rfl ?_
    refine x_getI (ci := 6) (k := 2) dX6_isAkin_12 lf_RX6_18 rfl g1 ?_
    refine x_aload_n (j := 1) (i := 1) dX6_isAkin_15 rfl rfl ?_
    refine x_getI (ci := 6) (k := 2) dX6_isAkin_16 lf_RX6_18 rfl g2 ?_
    refine x_icmp_ne (tgt := 26) dX6_isAkin_19 (by decide) (fun hc4 => ?_) (fun hc4 => ?_)
    · rw [if_neg hc4] at h
      refine x_iconst (v := 0) dX6_isAkin_26 (by decide) ?_
      cases h
      exact x_zret dX6_isAkin_27 rfl (by decide) rfl
    · rw [if_pos hc4] at h
      refine x_iconst (v := 1) dX6_isAkin_22 (by decide) ?_
      refine x_goto (tgt := 27) dX6_isAkin_23 (by decide) ?_
      cases h
      exact x_zret dX6_isAkin_27 rfl (by decide) rfl
set_option maxRecDepth 20000 in
theorem k_X5_hasKinLaid_l2 (rE : Int32) (wE : xSt) : ∀ (n : Nat) (x0 : Nat) (x1 : Nat) (x2 : Int32) (x3 : Int32) (w : xSt), f_X5_hasKinLaid_l2 n x0 x1 x2 x3 w = some (rE, wE) → xX cX5_hasKinLaid 5 (some .boolean) RX5 false (xRm 1 0 0) (xZf (some (xI rE), wE) 0 0) 2 [(0, xR x0), (1, xR x1), (2, xI x2), (3, xI x3)] [] w 0 0 := by
  intro n
  induction n with
  | zero => intro x0 x1 x2 x3 w h; exact nomatch (show (none : Option (Int32 × xSt)) = some (rE, wE) from h)
  | succ n ih =>
    intro x0 x1 x2 x3 w h
    rw [f_X5_hasKinLaid_l2_s] at h
    refine x_iload_n (j := 3) (i := 3) dX5_hasKinLaid_2 rfl rfl ?_
    refine x_aload_n (j := 0) (i := 0) dX5_hasKinLaid_3 rfl rfl ?_
    obtain ⟨g1, h⟩ := gd_some h
    refine x_getI (ci := 5) (k := 2) dX5_hasKinLaid_4 lf_RX5_25 rfl g1 ?_
    refine x_icmp_ge (tgt := 62) dX5_hasKinLaid_7 (by decide) (fun hc2 => ?_) (fun hc2 => ?_)
    · rw [if_pos hc2] at h
      refine x_iconst (v := 0) dX5_hasKinLaid_62 (by decide) ?_
      cases h
      exact x_zret dX5_hasKinLaid_63 rfl (by decide) rfl
    · rw [if_neg hc2] at h
      refine x_aload_n (j := 0) (i := 0) dX5_hasKinLaid_10 rfl rfl ?_
      refine x_getR (ci := 5) (k := 1) dX5_hasKinLaid_11 lf_RX5_17 rfl g1 ?_
      refine x_iload_n (j := 3) (i := 3) dX5_hasKinLaid_14 rfl rfl ?_
      obtain ⟨g3, h⟩ := gd_some h
      obtain ⟨g4, h⟩ := gd_some h
      refine x_qald24 dX5_hasKinLaid_15 g3 g4 ?_
      refine x_astore (i := 4) (lv2 := [(4, xR (wR w (wR w x0 1) x3.toNatClampNeg)), (0, xR x0), (1, xR x1), (2, xI x2), (3, xI x3)]) dX5_hasKinLaid_16 (by decide) rfl ?_
      refine x_aload (j := 0) (i := 4) dX5_hasKinLaid_18 rfl ?_
      refine x_aload_n (j := 2) (i := 1) dX5_hasKinLaid_20 rfl rfl ?_
      obtain ⟨g5, h⟩ := gd_some h
      obtain ⟨g6, h⟩ := gd_some h
      refine x_acmp_eq (tgt := 56) dX5_hasKinLaid_21 (by decide) g5 g6 (fun hc7 => ?_) (fun hc7 => ?_)
      · rw [if_pos hc7] at h
        refine x_iinc (j := 4) (i := 3) (v := x3 + (1 : Int32)) (lv2 := [(3, xI (x3 + (1 : Int32))), (4, xR (wR w (wR w x0 1) x3.toNatClampNeg)), (0, xR x0), (1, xR x1), (2, xI x2)]) dX5_hasKinLaid_56 rfl rfl (by decide) rfl ?_
        refine x_goto (tgt := 2) dX5_hasKinLaid_59 (by decide) ?_
        refine x_lv (lv2 := [(0, xR x0), (1, xR x1), (2, xI x2), (3, xI (x3 + (1 : Int32)))]) [2, 3, 4, 0] rfl ?_
        exact ih x0 x1 x2 (x3 + (1 : Int32)) w h
      · rw [if_neg hc7] at h
        refine x_aload (j := 0) (i := 4) dX5_hasKinLaid_24 rfl ?_
        obtain ⟨g11, h⟩ := gd_some h
        obtain ⟨v8, w9, hc10, h⟩ := bd_s h
        refine x_callVI (ci := 6) dX5_hasKinLaid_26 ml_RX5_47 mb_X6_isLaid (c_X6_isLaid (wR w (wR w x0 1) x3.toNatClampNeg) w v8 w9 hc10) ⟨_, rfl, rfl⟩ g11 [] rfl rfl (by decide) (by decide) (by decide) ?_
        refine x_if_eq (tgt := 56) dX5_hasKinLaid_29 (by decide) (fun hc12 => ?_) (fun hc12 => ?_)
        · rw [if_pos hc12] at h
          refine x_iinc (j := 4) (i := 3) (v := x3 + (1 : Int32)) (lv2 := [(3, xI (x3 + (1 : Int32))), (4, xR (wR w (wR w x0 1) x3.toNatClampNeg)), (0, xR x0), (1, xR x1), (2, xI x2)]) dX5_hasKinLaid_56 rfl rfl (by decide) rfl ?_
          refine x_goto (tgt := 2) dX5_hasKinLaid_59 (by decide) ?_
          refine x_lv (lv2 := [(0, xR x0), (1, xR x1), (2, xI x2), (3, xI (x3 + (1 : Int32)))]) [2, 3, 4, 0] rfl ?_
          exact ih x0 x1 x2 (x3 + (1 : Int32)) w9 h
        · rw [if_neg hc12] at h
          refine x_aload (j := 0) (i := 4) dX5_hasKinLaid_32 rfl ?_
          refine x_aload_n (j := 2) (i := 1) dX5_hasKinLaid_34 rfl rfl ?_
          obtain ⟨g16, h⟩ := gd_some h
          obtain ⟨v13, w14, hc15, h⟩ := bd_s h
          refine x_callVI (ci := 6) dX5_hasKinLaid_35 ml_RX5_125 mb_X6_isAkin (c_X6_isAkin (wR w (wR w x0 1) x3.toNatClampNeg) x1 w9 v13 w14 hc15) ⟨_, rfl, rfl⟩ g16 [] rfl rfl (by decide) (by decide) (by decide) ?_
          refine x_if_eq (tgt := 56) dX5_hasKinLaid_38 (by decide) (fun hc17 => ?_) (fun hc17 => ?_)
          · rw [if_pos hc17] at h
            refine x_iinc (j := 4) (i := 3) (v := x3 + (1 : Int32)) (lv2 := [(3, xI (x3 + (1 : Int32))), (4, xR (wR w (wR w x0 1) x3.toNatClampNeg)), (0, xR x0), (1, xR x1), (2, xI x2)]) dX5_hasKinLaid_56 rfl rfl (by decide) rfl ?_
            refine x_goto (tgt := 2) dX5_hasKinLaid_59 (by decide) ?_
            refine x_lv (lv2 := [(0, xR x0), (1, xR x1), (2, xI x2), (3, xI (x3 + (1 : Int32)))]) [2, 3, 4, 0] rfl ?_
            exact ih x0 x1 x2 (x3 + (1 : Int32)) w14 h
          · rw [if_neg hc17] at h
            refine x_iload_n (j := 3) (i := 2) dX5_hasKinLaid_41 rfl rfl ?_
            refine x_if_eq (tgt := 54) dX5_hasKinLaid_42 (by decide) (fun hc18 => ?_) (fun hc18 => ?_)
            · rw [if_pos hc18] at h
              refine x_iconst (v := 1) dX5_hasKinLaid_54 (by decide) ?_
              cases h
              exact x_zret dX5_hasKinLaid_55 rfl (by decide) rfl
            · rw [if_neg hc18] at h
              refine x_aload (j := 0) (i := 4) dX5_hasKinLaid_45 rfl ?_
              obtain ⟨g19, h⟩ := gd_some h
              refine x_getI (ci := 6) (k := 0) dX5_hasKinLaid_47 lf_RX5_115 rfl g19 ?_
              refine x_iconst (v := 4) dX5_hasKinLaid_50 (by decide) ?_
              refine x_icmp_ne (tgt := 56) dX5_hasKinLaid_51 (by decide) (fun hc20 => ?_) (fun hc20 => ?_)
              · rw [if_neg hc20] at h
                refine x_iinc (j := 4) (i := 3) (v := x3 + (1 : Int32)) (lv2 := [(3, xI (x3 + (1 : Int32))), (4, xR (wR w (wR w x0 1) x3.toNatClampNeg)), (0, xR x0), (1, xR x1), (2, xI x2)]) dX5_hasKinLaid_56 rfl rfl (by decide) rfl ?_
                refine x_goto (tgt := 2) dX5_hasKinLaid_59 (by decide) ?_
                refine x_lv (lv2 := [(0, xR x0), (1, xR x1), (2, xI x2), (3, xI (x3 + (1 : Int32)))]) [2, 3, 4, 0] rfl ?_
                exact ih x0 x1 x2 (x3 + (1 : Int32)) w14 h
              · rw [if_pos hc20] at h
                refine x_iconst (v := 1) dX5_hasKinLaid_54 (by decide) ?_
                cases h
                exact x_zret dX5_hasKinLaid_55 rfl (by decide) rfl
set_option maxRecDepth 20000 in
theorem c_X5_hasKinLaid (x0 : Nat) (x1 : Nat) (x2 : Int32) (w : xSt) (rE : Int32) (wE : xSt) (h : f_X5_hasKinLaid x0 x1 x2 w = some (rE, wE)) : xCall yX5_hasKinLaid cX5_hasKinLaid 5 (some .boolean) 1 0 0 [xR x0, xR x1, xI x2] w (some (xI rE), wE) := by
  refine xCall_of false (by decide) (fun q => nomatch q) (by decide) ?_
  show xX cX5_hasKinLaid 5 (some .boolean) RX5 false (xRm 1 0 0) (xZf (some (xI rE), wE) 0 0) 0 [(0, xR x0), (1, xR x1), (2, xI x2)] [] w 0 0
  unfold f_X5_hasKinLaid at h
  refine x_iconst (v := 0) dX5_hasKinLaid_0 (by decide) ?_
  refine x_istore_n (i := 3) (lv2 := [(3, xI (0 : Int32)), (0, xR x0), (1, xR x1), (2, xI x2)]) dX5_hasKinLaid_1 rfl (by decide) rfl ?_
  refine x_lv (lv2 := [(0, xR x0), (1, xR x1), (2, xI x2), (3, xI (0 : Int32))]) [1, 2, 3, 0] rfl ?_
  exact k_X5_hasKinLaid_l2 rE wE xFu x0 x1 x2 (0 : Int32) w h
