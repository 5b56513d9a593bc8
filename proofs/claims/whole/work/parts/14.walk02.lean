set_option maxRecDepth 20000 in
theorem k_X2_canFollow_l26 (k9 : Nat → Int32 → Int32 → Int32 → xSt → Option (Int32 × xSt)) (rE : Int32) (wE : xSt) (hk9 : ∀ (x0 : Nat) (x2 : Int32) (x3 : Int32) (x4 : Int32) (w : xSt), k9 x0 x2 x3 x4 w = some (rE, wE) → xX cX2_canFollow 8 (some .boolean) RX2 false (xRm 3 0 0) (xZf (some (xI rE), wE) 0 0) 9 [(0, xR x0), (2, xI x2), (3, xI x3), (4, xI x4)] [] w 0 0) : ∀ (n : Nat) (x0 : Nat) (x2 : Int32) (x3 : Int32) (x4 : Int32) (x5 : Int32) (x6 : Int32) (w : xSt), f_X2_canFollow_l26 k9 n x0 x2 x3 x4 x5 x6 w = some (rE, wE) → xX cX2_canFollow 8 (some .boolean) RX2 false (xRm 3 0 0) (xZf (some (xI rE), wE) 0 0) 26 [(0, xR x0), (2, xI x2), (3, xI x3), (4, xI x4), (5, xI x5), (6, xI x6)] [] w 0 0 := by
  intro n
  induction n with
  | zero => intro x0 x2 x3 x4 x5 x6 w h; exact nomatch (show (none : Option (Int32 × xSt)) = some (rE, wE) from h)
  | succ n ih =>
    intro x0 x2 x3 x4 x5 x6 w h
    rw [f_X2_canFollow_l26_s] at h
    refine x_iload (j := 5) (i := 6) dX2_canFollow_26 rfl ?_
    refine x_aload_n (j := 0) (i := 0) dX2_canFollow_28 rfl rfl ?_
    obtain ⟨g3, h⟩ := gd_some h
    refine x_getR (ci := 2) (k := 1) dX2_canFollow_29 lf_RX2_15 rfl g3 ?_
    obtain ⟨g4, h⟩ := gd_some h
    refine x_getI (ci := 5) (k := 2) dX2_canFollow_32 lf_RX2_33 rfl g4 ?_
    refine x_icmp_ge (tgt := 93) dX2_canFollow_35 (by decide) (fun hc5 => ?_) (fun hc5 => ?_)
    · rw [if_pos hc5] at h
      refine x_iload_n (j := 2) (i := 3) dX2_canFollow_93 rfl rfl ?_
      refine x_iload (j := 4) (i := 5) dX2_canFollow_94 rfl ?_
      refine x_icmp_ne (tgt := 101) dX2_canFollow_96 (by decide) (fun hc6 => ?_) (fun hc6 => ?_)
      · rw [if_neg hc6] at h
        refine x_iinc (j := 3) (i := 4) (v := x4 + (1 : Int32)) (lv2 := [(4, xI (x4 + (1 : Int32))), (0, xR x0), (2, xI x2), (3, xI x3), (5, xI x5), (6, xI x6)]) dX2_canFollow_101 rfl rfl (by decide) rfl ?_
        refine x_goto (tgt := 9) dX2_canFollow_104 (by decide) ?_
        refine x_lv (lv2 := [(0, xR x0), (2, xI x2), (3, xI x3), (4, xI (x4 + (1 : Int32)))]) [1, 2, 3, 0] rfl ?_
        exact hk9 x0 x2 x3 (x4 + (1 : Int32)) w h
      · rw [if_pos hc6] at h
        refine x_iconst (v := 0) dX2_canFollow_99 (by decide) ?_
        obtain ⟨hr9, hw9⟩ := Prod.mk.inj (Option.some.inj h)
        subst hw9
        subst hr9
        exact x_zret dX2_canFollow_100 rfl (by decide) rfl
    · rw [if_neg hc5] at h
      refine x_iload_n (j := 1) (i := 2) dX2_canFollow_38 rfl rfl ?_
      refine x_iload_n (j := 2) (i := 3) dX2_canFollow_39 rfl rfl ?_
      refine x_ior dX2_canFollow_40 ?_
      refine x_iconst (v := 1) dX2_canFollow_41 (by decide) ?_
      refine x_iload (j := 5) (i := 6) dX2_canFollow_42 rfl ?_
      refine x_ishl dX2_canFollow_44 ?_
      refine x_iconst (v := -1) dX2_canFollow_45 (by decide) ?_
      refine x_ixor dX2_canFollow_46 ?_
      refine x_iand dX2_canFollow_47 ?_
      refine x_istore (i := 7) (lv2 := [(7, xI ((x2 ||| x3) &&& (((1 : Int32) <<< (x6 &&& 31)) ^^^ (-1 : Int32)))), (0, xR x0), (2, xI x2), (3, xI x3), (4, xI x4), (5, xI x5), (6, xI x6)]) dX2_canFollow_48 (by decide) rfl ?_
      refine x_iload_n (j := 3) (i := 3) dX2_canFollow_50 rfl rfl ?_
      refine x_iload (j := 6) (i := 6) dX2_canFollow_51 rfl ?_
      obtain ⟨v7, w8, hc9, h⟩ := bd_s h
      refine x_callSI dX2_canFollow_53 ml_RX2_53 mb_X2_holds (c_X2_holds x3 x6 w v7 w8 hc9) [] rfl rfl (Nat.le_of_ble_eq_true rfl) (by decide) (by decide) ?_
      refine x_if_eq (tgt := 87) dX2_canFollow_56 (by decide) (fun hc10 => ?_) (fun hc10 => ?_)
      · rw [if_pos hc10] at h
        refine x_iinc (j := 6) (i := 6) (v := x6 + (1 : Int32)) (lv2 := [(6, xI (x6 + (1 : Int32))), (7, xI ((x2 ||| x3) &&& (((1 : Int32) <<< (x6 &&& 31)) ^^^ (-1 : Int32)))), (0, xR x0), (2, xI x2), (3, xI x3), (4, xI x4), (5, xI x5)]) dX2_canFollow_87 rfl rfl (by decide) rfl ?_
        refine x_goto (tgt := 26) dX2_canFollow_90 (by decide) ?_
        refine x_lv (lv2 := [(0, xR x0), (2, xI x2), (3, xI x3), (4, xI x4), (5, xI x5), (6, xI (x6 + (1 : Int32)))]) [2, 3, 4, 5, 6, 0] rfl ?_
        exact ih x0 x2 x3 x4 x5 (x6 + (1 : Int32)) w8 h
      · rw [if_neg hc10] at h
        refine x_aload_n (j := 1) (i := 0) dX2_canFollow_59 rfl rfl ?_
        refine x_aload_n (j := 1) (i := 0) dX2_canFollow_60 rfl rfl ?_
        obtain ⟨g11, h⟩ := gd_some h
        refine x_getR (ci := 2) (k := 1) dX2_canFollow_61 lf_RX2_15 rfl g11 ?_
        obtain ⟨g12, h⟩ := gd_some h
        refine x_getR (ci := 5) (k := 1) dX2_canFollow_64 lf_RX2_39 rfl g12 ?_
        refine x_iload (j := 6) (i := 6) dX2_canFollow_67 rfl ?_
        obtain ⟨g13, h⟩ := gd_some h
        obtain ⟨g14, h⟩ := gd_some h
        refine x_qald24 dX2_canFollow_69 g13 g14 ?_
        refine x_iload (j := 0) (i := 7) dX2_canFollow_70 rfl ?_
        obtain ⟨v15, w16, hc17, h⟩ := bd_s h
        refine x_callVI (ci := 2) dX2_canFollow_72 ml_RX2_29 mb_X2_isReached (c_X2_isReached x0 (wR w8 (wR w8 (wR w8 x0 1) 1) x6.toNatClampNeg) ((x2 ||| x3) &&& (((1 : Int32) <<< (x6 &&& 31)) ^^^ (-1 : Int32))) w8 v15 w16 hc17) ⟨_, rfl, rfl⟩ g11 [] rfl rfl (Nat.le_of_ble_eq_true rfl) (by decide) (by decide) ?_
        refine x_if_eq (tgt := 87) dX2_canFollow_75 (by decide) (fun hc18 => ?_) (fun hc18 => ?_)
        · rw [if_pos hc18] at h
          refine x_iinc (j := 6) (i := 6) (v := x6 + (1 : Int32)) (lv2 := [(6, xI (x6 + (1 : Int32))), (7, xI ((x2 ||| x3) &&& (((1 : Int32) <<< (x6 &&& 31)) ^^^ (-1 : Int32)))), (0, xR x0), (2, xI x2), (3, xI x3), (4, xI x4), (5, xI x5)]) dX2_canFollow_87 rfl rfl (by decide) rfl ?_
          refine x_goto (tgt := 26) dX2_canFollow_90 (by decide) ?_
          refine x_lv (lv2 := [(0, xR x0), (2, xI x2), (3, xI x3), (4, xI x4), (5, xI x5), (6, xI (x6 + (1 : Int32)))]) [2, 3, 4, 5, 6, 0] rfl ?_
          exact ih x0 x2 x3 x4 x5 (x6 + (1 : Int32)) w16 h
        · rw [if_neg hc18] at h
          refine x_iload_n (j := 3) (i := 3) dX2_canFollow_78 rfl rfl ?_
          refine x_iconst (v := 1) dX2_canFollow_79 (by decide) ?_
          refine x_iload (j := 6) (i := 6) dX2_canFollow_80 rfl ?_
          refine x_ishl dX2_canFollow_82 ?_
          refine x_iconst (v := -1) dX2_canFollow_83 (by decide) ?_
          refine x_ixor dX2_canFollow_84 ?_
          refine x_iand dX2_canFollow_85 ?_
          refine x_istore_n (i := 3) (lv2 := [(3, xI (x3 &&& (((1 : Int32) <<< (x6 &&& 31)) ^^^ (-1 : Int32)))), (7, xI ((x2 ||| x3) &&& (((1 : Int32) <<< (x6 &&& 31)) ^^^ (-1 : Int32)))), (0, xR x0), (2, xI x2), (4, xI x4), (5, xI x5), (6, xI x6)]) dX2_canFollow_86 rfl (by decide) rfl ?_
          refine x_iinc (j := 6) (i := 6) (v := x6 + (1 : Int32)) (lv2 := [(6, xI (x6 + (1 : Int32))), (3, xI (x3 &&& (((1 : Int32) <<< (x6 &&& 31)) ^^^ (-1 : Int32)))), (7, xI ((x2 ||| x3) &&& (((1 : Int32) <<< (x6 &&& 31)) ^^^ (-1 : Int32)))), (0, xR x0), (2, xI x2), (4, xI x4), (5, xI x5)]) dX2_canFollow_87 rfl rfl (by decide) rfl ?_
          refine x_goto (tgt := 26) dX2_canFollow_90 (by decide) ?_
          refine x_lv (lv2 := [(0, xR x0), (2, xI x2), (3, xI (x3 &&& (((1 : Int32) <<< (x6 &&& 31)) ^^^ (-1 : Int32)))), (4, xI x4), (5, xI x5), (6, xI (x6 + (1 : Int32)))]) [3, 4, 1, 5, 6, 0] rfl ?_
          exact ih x0 x2 (x3 &&& (((1 : Int32) <<< (x6 &&& 31)) ^^^ (-1 : Int32))) x4 x5 (x6 + (1 : Int32)) w16 h
set_option maxRecDepth 20000 in
theorem k_X2_canFollow_b107 (rE : Int32) (wE : xSt) (x3 : Int32) (w : xSt) (h : f_X2_canFollow_b107 x3 w = some (rE, wE)) : xX cX2_canFollow 8 (some .boolean) RX2 false (xRm 3 0 0) (xZf (some (xI rE), wE) 0 0) 107 [(3, xI x3)] [] w 0 0 := by
  unfold f_X2_canFollow_b107 at h
  refine x_iload_n (j := 0) (i := 3) dX2_canFollow_107 rfl rfl ?_
  refine x_if_ne (tgt := 115) dX2_canFollow_108 (by decide) (fun hc19 => ?_) (fun hc19 => ?_)
  · rw [if_neg hc19] at h
    refine x_iconst (v := 0) dX2_canFollow_115 (by decide) ?_
    obtain ⟨hr9, hw9⟩ := Prod.mk.inj (Option.some.inj h)
    subst hw9
    subst hr9
    exact x_zret dX2_canFollow_116 rfl (by decide) rfl
  · rw [if_pos hc19] at h
    refine x_iconst (v := 1) dX2_canFollow_111 (by decide) ?_
    refine x_goto (tgt := 116) dX2_canFollow_112 (by decide) ?_
    obtain ⟨hr9, hw9⟩ := Prod.mk.inj (Option.some.inj h)
    subst hw9
    subst hr9
    exact x_zret dX2_canFollow_116 rfl (by decide) rfl
set_option maxRecDepth 20000 in
theorem k_X2_canFollow_l9 (rE : Int32) (wE : xSt) : ∀ (n : Nat) (x0 : Nat) (x2 : Int32) (x3 : Int32) (x4 : Int32) (w : xSt), f_X2_canFollow_l9 n x0 x2 x3 x4 w = some (rE, wE) → xX cX2_canFollow 8 (some .boolean) RX2 false (xRm 3 0 0) (xZf (some (xI rE), wE) 0 0) 9 [(0, xR x0), (2, xI x2), (3, xI x3), (4, xI x4)] [] w 0 0 := by
  intro n
  induction n with
  | zero => intro x0 x2 x3 x4 w h; exact nomatch (show (none : Option (Int32 × xSt)) = some (rE, wE) from h)
  | succ n ih =>
    intro x0 x2 x3 x4 w h
    rw [f_X2_canFollow_l9_s] at h
    refine x_iload (j := 3) (i := 4) dX2_canFollow_9 rfl ?_
    refine x_bipush (v := 9) dX2_canFollow_11 (by decide) ?_
    refine x_icmp_ge (tgt := 107) dX2_canFollow_13 (by decide) (fun hc1 => ?_) (fun hc1 => ?_)
    · rw [if_pos hc1] at h
      refine x_lv (lv2 := [(3, xI x3)]) [2] rfl ?_
      exact k_X2_canFollow_b107 rE wE x3 w h
    · rw [if_neg hc1] at h
      refine x_iload_n (j := 2) (i := 3) dX2_canFollow_16 rfl rfl ?_
      refine x_if_eq (tgt := 107) dX2_canFollow_17 (by decide) (fun hc2 => ?_) (fun hc2 => ?_)
      · rw [if_pos hc2] at h
        refine x_lv (lv2 := [(3, xI x3)]) [2] rfl ?_
        exact k_X2_canFollow_b107 rE wE x3 w h
      · rw [if_neg hc2] at h
        refine x_iload_n (j := 2) (i := 3) dX2_canFollow_20 rfl rfl ?_
        refine x_istore (i := 5) (lv2 := [(5, xI x3), (0, xR x0), (2, xI x2), (3, xI x3), (4, xI x4)]) dX2_canFollow_21 (by decide) rfl ?_
        refine x_iconst (v := 0) dX2_canFollow_23 (by decide) ?_
        refine x_istore (i := 6) (lv2 := [(6, xI (0 : Int32)), (5, xI x3), (0, xR x0), (2, xI x2), (3, xI x3), (4, xI x4)]) dX2_canFollow_24 (by decide) rfl ?_
        refine x_lv (lv2 := [(0, xR x0), (2, xI x2), (3, xI x3), (4, xI x4), (5, xI x3), (6, xI (0 : Int32))]) [2, 3, 4, 5, 1, 0] rfl ?_
        exact k_X2_canFollow_l26 (f_X2_canFollow_l9 n) rE wE ih xFu x0 x2 x3 x4 x3 (0 : Int32) w h
set_option maxRecDepth 20000 in
theorem c_X2_canFollow (x0 : Nat) (x1 : Int32) (x2 : Int32) (w : xSt) (rE : Int32) (wE : xSt) (h : f_X2_canFollow x0 x1 x2 w = some (rE, wE)) : xCall yX2_canFollow cX2_canFollow 8 (some .boolean) 3 0 0 [xR x0, xI x1, xI x2] w (some (xI rE), wE) := by
  refine xCall_of false (by decide) (fun q => nomatch q) (Nat.le_of_ble_eq_true rfl) ?_
  show xX cX2_canFollow 8 (some .boolean) RX2 false (xRm 3 0 0) (xZf (some (xI rE), wE) 0 0) 0 [(0, xR x0), (1, xI x1), (2, xI x2)] [] w 0 0
  unfold f_X2_canFollow at h
  refine x_iload_n (j := 1) (i := 1) dX2_canFollow_0 rfl rfl ?_
  refine x_iload_n (j := 2) (i := 2) dX2_canFollow_1 rfl rfl ?_
  refine x_iconst (v := -1) dX2_canFollow_2 (by decide) ?_
  refine x_ixor dX2_canFollow_3 ?_
  refine x_iand dX2_canFollow_4 ?_
  refine x_istore_n (i := 3) (lv2 := [(3, xI (x1 &&& (x2 ^^^ (-1 : Int32)))), (0, xR x0), (1, xI x1), (2, xI x2)]) dX2_canFollow_5 rfl (by decide) rfl ?_
  refine x_iconst (v := 0) dX2_canFollow_6 (by decide) ?_
  refine x_istore (i := 4) (lv2 := [(4, xI (0 : Int32)), (3, xI (x1 &&& (x2 ^^^ (-1 : Int32)))), (0, xR x0), (1, xI x1), (2, xI x2)]) dX2_canFollow_7 (by decide) rfl ?_
  refine x_lv (lv2 := [(0, xR x0), (2, xI x2), (3, xI (x1 &&& (x2 ^^^ (-1 : Int32)))), (4, xI (0 : Int32))]) [2, 4, 1, 0] rfl ?_
  exact k_X2_canFollow_l9 rE wE xFu x0 x2 (x1 &&& (x2 ^^^ (-1 : Int32))) (0 : Int32) w h
set_option maxRecDepth 20000 in
theorem k_X2_firstThatLeavesARow_l2 (rE : Int32) (wE : xSt) : ∀ (n : Nat) (x0 : Nat) (x1 : Int32) (x2 : Int32) (x3 : Int32) (w : xSt), f_X2_firstThatLeavesARow_l2 n x0 x1 x2 x3 w = some (rE, wE) → xX cX2_firstThatLeavesARow 4 (some .int) RX2 false (xRm 4 0 0) (xZf (some (xI rE), wE) 0 0) 2 [(0, xR x0), (1, xI x1), (2, xI x2), (3, xI x3)] [] w 0 0 := by
  intro n
  induction n with
  | zero => intro x0 x1 x2 x3 w h; exact nomatch (show (none : Option (Int32 × xSt)) = some (rE, wE) from h)
  | succ n ih =>
    intro x0 x1 x2 x3 w h
    rw [f_X2_firstThatLeavesARow_l2_s] at h
    refine x_iload_n (j := 3) (i := 3) dX2_firstThatLeavesARow_2 rfl rfl ?_
    refine x_aload_n (j := 0) (i := 0) dX2_firstThatLeavesARow_3 rfl rfl ?_
    obtain ⟨g1, h⟩ := gd_some h
    refine x_getR (ci := 2) (k := 1) dX2_firstThatLeavesARow_4 lf_RX2_15 rfl g1 ?_
    obtain ⟨g2, h⟩ := gd_some h
    refine x_getI (ci := 5) (k := 2) dX2_firstThatLeavesARow_7 lf_RX2_33 rfl g2 ?_
    refine x_icmp_ge (tgt := 63) dX2_firstThatLeavesARow_10 (by decide) (fun hc3 => ?_) (fun hc3 => ?_)
    · rw [if_pos hc3] at h
      refine x_iconst (v := -1) dX2_firstThatLeavesARow_63 (by decide) ?_
      obtain ⟨hr9, hw9⟩ := Prod.mk.inj (Option.some.inj h)
      subst hw9
      subst hr9
      exact x_iret dX2_firstThatLeavesARow_64 rfl rfl
    · rw [if_neg hc3] at h
      refine x_iload_n (j := 1) (i := 1) dX2_firstThatLeavesARow_13 rfl rfl ?_
      refine x_iload_n (j := 2) (i := 2) dX2_firstThatLeavesARow_14 rfl rfl ?_
      refine x_iconst (v := -1) dX2_firstThatLeavesARow_15 (by decide) ?_
      refine x_ixor dX2_firstThatLeavesARow_16 ?_
      refine x_iand dX2_firstThatLeavesARow_17 ?_
      refine x_iload_n (j := 3) (i := 3) dX2_firstThatLeavesARow_18 rfl rfl ?_
      obtain ⟨v4, w5, hc6, h⟩ := bd_s h
      refine x_callSI dX2_firstThatLeavesARow_19 ml_RX2_53 mb_X2_holds (c_X2_holds (x1 &&& (x2 ^^^ (-1 : Int32))) x3 w v4 w5 hc6) [] rfl rfl (Nat.le_of_ble_eq_true rfl) (by decide) (by decide) ?_
      refine x_if_eq (tgt := 57) dX2_firstThatLeavesARow_22 (by decide) (fun hc7 => ?_) (fun hc7 => ?_)
      · rw [if_pos hc7] at h
        refine x_iinc (j := 3) (i := 3) (v := x3 + (1 : Int32)) (lv2 := [(3, xI (x3 + (1 : Int32))), (0, xR x0), (1, xI x1), (2, xI x2)]) dX2_firstThatLeavesARow_57 rfl rfl (by decide) rfl ?_
        refine x_goto (tgt := 2) dX2_firstThatLeavesARow_60 (by decide) ?_
        refine x_lv (lv2 := [(0, xR x0), (1, xI x1), (2, xI x2), (3, xI (x3 + (1 : Int32)))]) [1, 2, 3, 0] rfl ?_
        exact ih x0 x1 x2 (x3 + (1 : Int32)) w5 h
      · rw [if_neg hc7] at h
        refine x_aload_n (j := 0) (i := 0) dX2_firstThatLeavesARow_25 rfl rfl ?_
        refine x_aload_n (j := 0) (i := 0) dX2_firstThatLeavesARow_26 rfl rfl ?_
        obtain ⟨g8, h⟩ := gd_some h
        refine x_getR (ci := 2) (k := 1) dX2_firstThatLeavesARow_27 lf_RX2_15 rfl g8 ?_
        obtain ⟨g9, h⟩ := gd_some h
        refine x_getR (ci := 5) (k := 1) dX2_firstThatLeavesARow_30 lf_RX2_39 rfl g9 ?_
        refine x_iload_n (j := 3) (i := 3) dX2_firstThatLeavesARow_33 rfl rfl ?_
        obtain ⟨g10, h⟩ := gd_some h
        obtain ⟨g11, h⟩ := gd_some h
        refine x_qald24 dX2_firstThatLeavesARow_34 g10 g11 ?_
        refine x_iload_n (j := 2) (i := 2) dX2_firstThatLeavesARow_35 rfl rfl ?_
        obtain ⟨v12, w13, hc14, h⟩ := bd_s h
        refine x_callVI (ci := 2) dX2_firstThatLeavesARow_36 ml_RX2_29 mb_X2_isReached (c_X2_isReached x0 (wR w5 (wR w5 (wR w5 x0 1) 1) x3.toNatClampNeg) x2 w5 v12 w13 hc14) ⟨_, rfl, rfl⟩ g8 [] rfl rfl (Nat.le_of_ble_eq_true rfl) (by decide) (by decide) ?_
        refine x_if_eq (tgt := 57) dX2_firstThatLeavesARow_39 (by decide) (fun hc15 => ?_) (fun hc15 => ?_)
        · rw [if_pos hc15] at h
          refine x_iinc (j := 3) (i := 3) (v := x3 + (1 : Int32)) (lv2 := [(3, xI (x3 + (1 : Int32))), (0, xR x0), (1, xI x1), (2, xI x2)]) dX2_firstThatLeavesARow_57 rfl rfl (by decide) rfl ?_
          refine x_goto (tgt := 2) dX2_firstThatLeavesARow_60 (by decide) ?_
          refine x_lv (lv2 := [(0, xR x0), (1, xI x1), (2, xI x2), (3, xI (x3 + (1 : Int32)))]) [1, 2, 3, 0] rfl ?_
          exact ih x0 x1 x2 (x3 + (1 : Int32)) w13 h
        · rw [if_neg hc15] at h
          refine x_aload_n (j := 0) (i := 0) dX2_firstThatLeavesARow_42 rfl rfl ?_
          refine x_iload_n (j := 1) (i := 1) dX2_firstThatLeavesARow_43 rfl rfl ?_
          refine x_iload_n (j := 2) (i := 2) dX2_firstThatLeavesARow_44 rfl rfl ?_
          refine x_iconst (v := 1) dX2_firstThatLeavesARow_45 (by decide) ?_
          refine x_iload_n (j := 3) (i := 3) dX2_firstThatLeavesARow_46 rfl rfl ?_
          refine x_ishl dX2_firstThatLeavesARow_47 ?_
          refine x_ior dX2_firstThatLeavesARow_48 ?_
          obtain ⟨g19, h⟩ := gd_some h
          obtain ⟨v16, w17, hc18, h⟩ := bd_s h
          refine x_callVI (ci := 2) dX2_firstThatLeavesARow_49 ml_RX2_87 mb_X2_canFollow (c_X2_canFollow x0 x1 (x2 ||| ((1 : Int32) <<< (x3 &&& 31))) w13 v16 w17 hc18) ⟨_, rfl, rfl⟩ g19 [] rfl rfl (Nat.le_of_ble_eq_true rfl) (by decide) (by decide) ?_
          refine x_if_eq (tgt := 57) dX2_firstThatLeavesARow_52 (by decide) (fun hc20 => ?_) (fun hc20 => ?_)
          · rw [if_pos hc20] at h
            refine x_iinc (j := 3) (i := 3) (v := x3 + (1 : Int32)) (lv2 := [(3, xI (x3 + (1 : Int32))), (0, xR x0), (1, xI x1), (2, xI x2)]) dX2_firstThatLeavesARow_57 rfl rfl (by decide) rfl ?_
            refine x_goto (tgt := 2) dX2_firstThatLeavesARow_60 (by decide) ?_
            refine x_lv (lv2 := [(0, xR x0), (1, xI x1), (2, xI x2), (3, xI (x3 + (1 : Int32)))]) [1, 2, 3, 0] rfl ?_
            exact ih x0 x1 x2 (x3 + (1 : Int32)) w17 h
          · rw [if_neg hc20] at h
            refine x_iload_n (j := 3) (i := 3) dX2_firstThatLeavesARow_55 rfl rfl ?_
            obtain ⟨hr9, hw9⟩ := Prod.mk.inj (Option.some.inj h)
            subst hw9
            subst hr9
            exact x_iret dX2_firstThatLeavesARow_56 rfl rfl
set_option maxRecDepth 20000 in
theorem c_X2_firstThatLeavesARow (x0 : Nat) (x1 : Int32) (x2 : Int32) (w : xSt) (rE : Int32) (wE : xSt) (h : f_X2_firstThatLeavesARow x0 x1 x2 w = some (rE, wE)) : xCall yX2_firstThatLeavesARow cX2_firstThatLeavesARow 4 (some .int) 4 0 0 [xR x0, xI x1, xI x2] w (some (xI rE), wE) := by
  refine xCall_of false (by decide) (fun q => nomatch q) (Nat.le_of_ble_eq_true rfl) ?_
  show xX cX2_firstThatLeavesARow 4 (some .int) RX2 false (xRm 4 0 0) (xZf (some (xI rE), wE) 0 0) 0 [(0, xR x0), (1, xI x1), (2, xI x2)] [] w 0 0
  unfold f_X2_firstThatLeavesARow at h
  refine x_iconst (v := 0) dX2_firstThatLeavesARow_0 (by decide) ?_
  refine x_istore_n (i := 3) (lv2 := [(3, xI (0 : Int32)), (0, xR x0), (1, xI x1), (2, xI x2)]) dX2_firstThatLeavesARow_1 rfl (by decide) rfl ?_
  refine x_lv (lv2 := [(0, xR x0), (1, xI x1), (2, xI x2), (3, xI (0 : Int32))]) [1, 2, 3, 0] rfl ?_
  exact k_X2_firstThatLeavesARow_l2 rE wE xFu x0 x1 x2 (0 : Int32) w h
set_option maxRecDepth 20000 in
theorem k_X2_inOrder_l27 (rE : Int32) (wE : xSt) : ∀ (n : Nat) (x0 : Nat) (x1 : Int32) (x2 : Int32) (x3 : Int32) (x4 : Int32) (x5 : Int32) (w : xSt), f_X2_inOrder_l27 n x0 x1 x2 x3 x4 x5 w = some (rE, wE) → xX cX2_inOrder 6 (some .int) RX2 false (xRm 5 0 0) (xZf (some (xI rE), wE) 0 0) 27 [(0, xR x0), (1, xI x1), (2, xI x2), (3, xI x3), (4, xI x4), (5, xI x5)] [] w 0 0 := by
  intro n
  induction n with
  | zero => intro x0 x1 x2 x3 x4 x5 w h; exact nomatch (show (none : Option (Int32 × xSt)) = some (rE, wE) from h)
  | succ n ih =>
    intro x0 x1 x2 x3 x4 x5 w h
    rw [f_X2_inOrder_l27_s] at h
    refine x_iload (j := 5) (i := 5) dX2_inOrder_27 rfl ?_
    refine x_iload_n (j := 1) (i := 1) dX2_inOrder_29 rfl rfl ?_
    refine x_icmp_gt (tgt := 62) dX2_inOrder_30 (by decide) (fun hc10 => ?_) (fun hc10 => ?_)
    · rw [if_pos hc10] at h
      refine x_iload (j := 4) (i := 4) dX2_inOrder_62 rfl ?_
      obtain ⟨hr9, hw9⟩ := Prod.mk.inj (Option.some.inj h)
      subst hw9
      subst hr9
      exact x_iret dX2_inOrder_64 rfl rfl
    · rw [if_neg hc10] at h
      refine x_aload_n (j := 0) (i := 0) dX2_inOrder_33 rfl rfl ?_
      refine x_iload_n (j := 2) (i := 2) dX2_inOrder_34 rfl rfl ?_
      refine x_iload_n (j := 3) (i := 3) dX2_inOrder_35 rfl rfl ?_
      obtain ⟨g14, h⟩ := gd_some h
      obtain ⟨v11, w12, hc13, h⟩ := bd_s h
      refine x_callVI (ci := 2) dX2_inOrder_36 ml_RX2_83 mb_X2_firstThatLeavesARow (c_X2_firstThatLeavesARow x0 x2 x3 w v11 w12 hc13) ⟨_, rfl, rfl⟩ g14 [] rfl rfl (Nat.le_of_ble_eq_true rfl) (by decide) (by decide) ?_
      refine x_istore (i := 4) (lv2 := [(4, xI v11), (0, xR x0), (1, xI x1), (2, xI x2), (3, xI x3), (5, xI x5)]) dX2_inOrder_39 (by decide) rfl ?_
      refine x_iload (j := 0) (i := 4) dX2_inOrder_41 rfl ?_
      refine x_iconst (v := -1) dX2_inOrder_43 (by decide) ?_
      refine x_icmp_ne (tgt := 49) dX2_inOrder_44 (by decide) (fun hc15 => ?_) (fun hc15 => ?_)
      · rw [if_neg hc15] at h
        refine x_iload_n (j := 4) (i := 3) dX2_inOrder_49 rfl rfl ?_
        refine x_iconst (v := 1) dX2_inOrder_50 (by decide) ?_
        refine x_iload (j := 0) (i := 4) dX2_inOrder_51 rfl ?_
        refine x_ishl dX2_inOrder_53 ?_
        refine x_ior dX2_inOrder_54 ?_
        refine x_istore_n (i := 3) (lv2 := [(3, xI (x3 ||| ((1 : Int32) <<< (v11 &&& 31)))), (4, xI v11), (0, xR x0), (1, xI x1), (2, xI x2), (5, xI x5)]) dX2_inOrder_55 rfl (by decide) rfl ?_
        refine x_iinc (j := 5) (i := 5) (v := x5 + (1 : Int32)) (lv2 := [(5, xI (x5 + (1 : Int32))), (3, xI (x3 ||| ((1 : Int32) <<< (v11 &&& 31)))), (4, xI v11), (0, xR x0), (1, xI x1), (2, xI x2)]) dX2_inOrder_56 rfl rfl (by decide) rfl ?_
        refine x_goto (tgt := 27) dX2_inOrder_59 (by decide) ?_
        refine x_lv (lv2 := [(0, xR x0), (1, xI x1), (2, xI x2), (3, xI (x3 ||| ((1 : Int32) <<< (v11 &&& 31)))), (4, xI v11), (5, xI (x5 + (1 : Int32)))]) [3, 4, 5, 1, 2, 0] rfl ?_
        exact ih x0 x1 x2 (x3 ||| ((1 : Int32) <<< (v11 &&& 31))) v11 (x5 + (1 : Int32)) w12 h
      · rw [if_pos hc15] at h
        refine x_iconst (v := -1) dX2_inOrder_47 (by decide) ?_
        obtain ⟨hr9, hw9⟩ := Prod.mk.inj (Option.some.inj h)
        subst hw9
        subst hr9
        exact x_iret dX2_inOrder_48 rfl rfl
set_option maxRecDepth 20000 in
theorem c_X2_inOrder (x0 : Nat) (x1 : Int32) (w : xSt) (rE : Int32) (wE : xSt) (h : f_X2_inOrder x0 x1 w = some (rE, wE)) : xCall yX2_inOrder cX2_inOrder 6 (some .int) 5 0 0 [xR x0, xI x1] w (some (xI rE), wE) := by
  refine xCall_of false (by decide) (fun q => nomatch q) (Nat.le_of_ble_eq_true rfl) ?_
  show xX cX2_inOrder 6 (some .int) RX2 false (xRm 5 0 0) (xZf (some (xI rE), wE) 0 0) 0 [(0, xR x0), (1, xI x1)] [] w 0 0
  unfold f_X2_inOrder at h
  refine x_aload_n (j := 0) (i := 0) dX2_inOrder_0 rfl rfl ?_
  obtain ⟨g4, h⟩ := gd_some h
  obtain ⟨v1, w2, hc3, h⟩ := bd_s h
  refine x_callVI (ci := 2) dX2_inOrder_1 ml_RX2_74 mb_X2_laid (c_X2_laid x0 w v1 w2 hc3) ⟨_, rfl, rfl⟩ g4 [] rfl rfl (Nat.le_of_ble_eq_true rfl) (by decide) (by decide) ?_
  refine x_istore_n (i := 2) (lv2 := [(2, xI v1), (0, xR x0), (1, xI x1)]) dX2_inOrder_4 rfl (by decide) rfl ?_
  refine x_iload_n (j := 2) (i := 1) dX2_inOrder_5 rfl rfl ?_
  refine x_if_lt (tgt := 17) dX2_inOrder_6 (by decide) (fun hc5 => ?_) (fun hc5 => ?_)
  · rw [if_pos hc5] at h
    refine x_iconst (v := -1) dX2_inOrder_17 (by decide) ?_
    obtain ⟨hr9, hw9⟩ := Prod.mk.inj (Option.some.inj h)
    subst hw9
    subst hr9
    exact x_iret dX2_inOrder_18 rfl rfl
  · rw [if_neg hc5] at h
    refine x_iload_n (j := 2) (i := 1) dX2_inOrder_9 rfl rfl ?_
    refine x_iload_n (j := 0) (i := 2) dX2_inOrder_10 rfl rfl ?_
    obtain ⟨v6, w7, hc8, h⟩ := bd_s h
    refine x_callSI dX2_inOrder_11 ml_RX2_77 mb_J6_bitCount_0f7a4 (c_J6_bitCount_0f7a4 v1 w2 v6 w7 hc8) [xI x1] rfl rfl (Nat.le_of_ble_eq_true rfl) (by decide) (by decide) ?_
    refine x_icmp_lt (tgt := 19) dX2_inOrder_14 (by decide) (fun hc9 => ?_) (fun hc9 => ?_)
    · rw [if_pos hc9] at h
      refine x_iconst (v := 0) dX2_inOrder_19 (by decide) ?_
      refine x_istore_n (i := 3) (lv2 := [(3, xI (0 : Int32)), (2, xI v1), (0, xR x0), (1, xI x1)]) dX2_inOrder_20 rfl (by decide) rfl ?_
      refine x_iconst (v := -1) dX2_inOrder_21 (by decide) ?_
      refine x_istore (i := 4) (lv2 := [(4, xI (-1 : Int32)), (3, xI (0 : Int32)), (2, xI v1), (0, xR x0), (1, xI x1)]) dX2_inOrder_22 (by decide) rfl ?_
      refine x_iconst (v := 0) dX2_inOrder_24 (by decide) ?_
      refine x_istore (i := 5) (lv2 := [(5, xI (0 : Int32)), (4, xI (-1 : Int32)), (3, xI (0 : Int32)), (2, xI v1), (0, xR x0), (1, xI x1)]) dX2_inOrder_25 (by decide) rfl ?_
      refine x_lv (lv2 := [(0, xR x0), (1, xI x1), (2, xI v1), (3, xI (0 : Int32)), (4, xI (-1 : Int32)), (5, xI (0 : Int32))]) [4, 5, 3, 2, 1, 0] rfl ?_
      exact k_X2_inOrder_l27 rE wE xFu x0 x1 v1 (0 : Int32) (-1 : Int32) (0 : Int32) w7 h
    · rw [if_neg hc9] at h
      refine x_iconst (v := -1) dX2_inOrder_17 (by decide) ?_
      obtain ⟨hr9, hw9⟩ := Prod.mk.inj (Option.some.inj h)
      subst hw9
      subst hr9
      exact x_iret dX2_inOrder_18 rfl rfl
set_option maxRecDepth 20000 in
theorem k_X3_init_l38 (rE : Unit) (wE : xSt) : ∀ (n : Nat) (x0 : Nat) (x1 : Int32) (w : xSt), f_X3_init_l38 n x0 x1 w = some (rE, wE) → xX cX3_init 2 none RX3 true (xRm 1 4 240) (xZf (none, wE) 4 240) 38 [(0, xR x0), (1, xI x1)] [] w 0 0 := by
  intro n
  induction n with
  | zero => intro x0 x1 w h; exact nomatch (show (none : Option (Unit × xSt)) = some (rE, wE) from h)
  | succ n ih =>
    intro x0 x1 w h
    rw [f_X3_init_l38_s] at h
    refine x_iload_n (j := 1) (i := 1) dX3_init_38 rfl rfl ?_
    refine x_aload_n (j := 0) (i := 0) dX3_init_39 rfl rfl ?_
    obtain ⟨g41, h⟩ := gd_some h
    refine x_getR (ci := 3) (k := 2) dX3_init_40 lf_RX3_20 rfl g41 ?_
    obtain ⟨g42, h⟩ := gd_some h
    refine x_alen (ti := 0) dX3_init_43 g42 (by decide) (fun _ => rfl) ?_
    refine x_icmp_ge (tgt := 60) dX3_init_44 (by decide) (fun hc43 => ?_) (fun hc43 => ?_)
    · rw [if_pos hc43] at h
      obtain ⟨hr9, hw9⟩ := Prod.mk.inj (Option.some.inj h)
      subst hw9
      exact x_vret dX3_init_60 rfl rfl
    · rw [if_neg hc43] at h
      refine x_aload_n (j := 0) (i := 0) dX3_init_47 rfl rfl ?_
      refine x_getR (ci := 3) (k := 2) dX3_init_48 lf_RX3_20 rfl g41 ?_
      refine x_iload_n (j := 1) (i := 1) dX3_init_51 rfl rfl ?_
      refine x_iconst (v := -1) dX3_init_52 (by decide) ?_
      obtain ⟨g44, h⟩ := gd_some h
      obtain ⟨w45, hw46, h⟩ := lt1_some h
      refine x_iast dX3_init_53 g42 g44 ?_
      rw [← hw46]
      refine x_iinc (j := 1) (i := 1) (v := x1 + (1 : Int32)) (lv2 := [(1, xI (x1 + (1 : Int32))), (0, xR x0)]) dX3_init_54 rfl rfl (by decide) rfl ?_
      refine x_goto (tgt := 38) dX3_init_57 (by decide) ?_
      refine x_lv (lv2 := [(0, xR x0), (1, xI (x1 + (1 : Int32)))]) [1, 0] rfl ?_
      exact ih x0 (x1 + (1 : Int32)) w45 h
set_option maxRecDepth 20000 in
theorem c_X3_init (x0 : Nat) (w : xSt) (rE : Unit) (wE : xSt) (h : f_X3_init x0 w = some (rE, wE)) : xCall yX3_init cX3_init 2 none 1 4 240 [xR x0] w (none, wE) := by
  refine xCall_of true (by decide) (fun _ => rfl) (Nat.le_of_ble_eq_true rfl) ?_
  show xX cX3_init 2 none RX3 true (xRm 1 4 240) (xZf (none, wE) 4 240) 0 [(0, xR x0)] [] w 4 240
  unfold f_X3_init at h
  refine x_aload_n (j := 0) (i := 0) dX3_init_0 rfl rfl ?_
  obtain ⟨g1, h⟩ := gd_some h
  refine x_objInit dX3_init_1 lo_RX3_3 lo_inst lo_code g1 (Nat.le_of_ble_eq_true rfl) (by decide) (by decide) ?_
  refine x_aload_n (j := 0) (i := 0) dX3_init_4 rfl rfl ?_
  refine x_bipush (v := 12) dX3_init_5 (by decide) ?_
  obtain ⟨g2, h⟩ := gd_some h
  obtain ⟨q3, hq4, h⟩ := lt1_some h
  obtain ⟨w5, hw6, h⟩ := lt1_some h
  refine x_newa_int 12 dX3_init_7 la_int (by decide) (by decide) g2 (by decide) (by decide) ?_
  rw [← hq4, ← hw6]
  have g7 : isC w5 q3 20 := by rw [hw6, hq4]; exact isC_new _ _ _
  have g8 : isC w5 x0 3 := by rw [hw6]; exact isC_nA _ _ g1
  obtain ⟨w9, hw10, h⟩ := lt1_some h
  refine x_putR (ci := 3) (k := 0) dX3_init_9 lw_RX3_11_w rfl g8 ?_
  rw [← hw10]
  refine x_aload_n (j := 0) (i := 0) dX3_init_12 rfl rfl ?_
  refine x_bipush (v := 12) dX3_init_13 (by decide) ?_
  obtain ⟨g11, h⟩ := gd_some h
  obtain ⟨q12, hq13, h⟩ := lt1_some h
  obtain ⟨w14, hw15, h⟩ := lt1_some h
  refine x_newa_int 12 dX3_init_15 la_int (by decide) (by decide) g11 (by decide) (by decide) ?_
  rw [← hq13, ← hw15]
  have g16 : isC w14 q12 20 := by rw [hw15, hq13]; exact isC_new _ _ _
  have g17 : isC w9 x0 3 := by rw [hw10]; exact g8
  have g18 : isC w14 x0 3 := by rw [hw15]; exact isC_nA _ _ g17
  obtain ⟨w19, hw20, h⟩ := lt1_some h
  refine x_putR (ci := 3) (k := 1) dX3_init_17 lw_RX3_15_w rfl g18 ?_
  rw [← hw20]
  refine x_aload_n (j := 0) (i := 0) dX3_init_20 rfl rfl ?_
  refine x_bipush (v := 108) dX3_init_21 (by decide) ?_
  obtain ⟨g21, h⟩ := gd_some h
  obtain ⟨q22, hq23, h⟩ := lt1_some h
  obtain ⟨w24, hw25, h⟩ := lt1_some h
  refine x_newa_int 108 dX3_init_23 la_int (by decide) (by decide) g21 (by decide) (by decide) ?_
  rw [← hq23, ← hw25]
  have g26 : isC w24 q22 20 := by rw [hw25, hq23]; exact isC_new _ _ _
  have g27 : isC w19 x0 3 := by rw [hw20]; exact g18
  have g28 : isC w24 x0 3 := by rw [hw25]; exact isC_nA _ _ g27
  obtain ⟨w29, hw30, h⟩ := lt1_some h
  refine x_putR (ci := 3) (k := 2) dX3_init_25 lw_RX3_20_w rfl g28 ?_
  rw [← hw30]
  refine x_aload_n (j := 0) (i := 0) dX3_init_28 rfl rfl ?_
  refine x_bipush (v := 108) dX3_init_29 (by decide) ?_
  obtain ⟨g31, h⟩ := gd_some h
  obtain ⟨q32, hq33, h⟩ := lt1_some h
  obtain ⟨w34, hw35, h⟩ := lt1_some h
  refine x_newa_int 108 dX3_init_31 la_int (by decide) (by decide) g31 (by decide) (by decide) ?_
  rw [← hq33, ← hw35]
  have g36 : isC w34 q32 20 := by rw [hw35, hq33]; exact isC_new _ _ _
  have g37 : isC w29 x0 3 := by rw [hw30]; exact g28
  have g38 : isC w34 x0 3 := by rw [hw35]; exact isC_nA _ _ g37
  obtain ⟨w39, hw40, h⟩ := lt1_some h
  refine x_putR (ci := 3) (k := 3) dX3_init_33 lw_RX3_23_w rfl g38 ?_
  rw [← hw40]
  refine x_iconst (v := 0) dX3_init_36 (by decide) ?_
  refine x_istore_n (i := 1) (lv2 := [(1, xI (0 : Int32)), (0, xR x0)]) dX3_init_37 rfl (by decide) rfl ?_
  refine x_lv (lv2 := [(0, xR x0), (1, xI (0 : Int32))]) [1, 0] rfl ?_
  exact k_X3_init_l38 rE wE xFu x0 (0 : Int32) w39 h
set_option maxRecDepth 20000 in
theorem c_X3_has (x0 : Nat) (x1 : Int32) (w : xSt) (rE : Int32) (wE : xSt) (h : f_X3_has x0 x1 w = some (rE, wE)) : xCall yX3_has cX3_has 2 (some .boolean) 0 0 0 [xR x0, xI x1] w (some (xI rE), wE) := by
  refine xCall_of false (by decide) (fun q => nomatch q) (Nat.le_of_ble_eq_true rfl) ?_
  show xX cX3_has 2 (some .boolean) RX3 false (xRm 0 0 0) (xZf (some (xI rE), wE) 0 0) 0 [(0, xR x0), (1, xI x1)] [] w 0 0
  unfold f_X3_has at h
  refine x_iload_n (j := 1) (i := 1) dX3_has_0 rfl rfl ?_
  refine x_if_lt (tgt := 16) dX3_has_1 (by decide) (fun hc1 => ?_) (fun hc1 => ?_)
  · rw [if_pos hc1] at h
    refine x_iconst (v := 0) dX3_has_16 (by decide) ?_
    obtain ⟨hr9, hw9⟩ := Prod.mk.inj (Option.some.inj h)
    subst hw9
    subst hr9
    exact x_zret dX3_has_17 rfl (by decide) rfl
  · rw [if_neg hc1] at h
    refine x_iload_n (j := 1) (i := 1) dX3_has_4 rfl rfl ?_
    refine x_aload_n (j := 0) (i := 0) dX3_has_5 rfl rfl ?_
    obtain ⟨g2, h⟩ := gd_some h
    refine x_getI (ci := 3) (k := 4) dX3_has_6 lf_RX3_26 rfl g2 ?_
    refine x_icmp_ge (tgt := 16) dX3_has_9 (by decide) (fun hc3 => ?_) (fun hc3 => ?_)
    · rw [if_pos hc3] at h
      refine x_iconst (v := 0) dX3_has_16 (by decide) ?_
      obtain ⟨hr9, hw9⟩ := Prod.mk.inj (Option.some.inj h)
      subst hw9
      subst hr9
      exact x_zret dX3_has_17 rfl (by decide) rfl
    · rw [if_neg hc3] at h
      refine x_iconst (v := 1) dX3_has_12 (by decide) ?_
      refine x_goto (tgt := 17) dX3_has_13 (by decide) ?_
      obtain ⟨hr9, hw9⟩ := Prod.mk.inj (Option.some.inj h)
      subst hw9
      subst hr9
      exact x_zret dX3_has_17 rfl (by decide) rfl
set_option maxRecDepth 20000 in
theorem c_X3_add (x0 : Nat) (x1 : Int32) (x2 : Int32) (w : xSt) (rE : Int32) (wE : xSt) (h : f_X3_add x0 x1 x2 w = some (rE, wE)) : xCall yX3_add cX3_add 3 (some .int) 0 0 0 [xR x0, xI x1, xI x2] w (some (xI rE), wE) := by
  refine xCall_of false (by decide) (fun q => nomatch q) (Nat.le_of_ble_eq_true rfl) ?_
  show xX cX3_add 3 (some .int) RX3 false (xRm 0 0 0) (xZf (some (xI rE), wE) 0 0) 0 [(0, xR x0), (1, xI x1), (2, xI x2)] [] w 0 0
  unfold f_X3_add at h
  refine x_aload_n (j := 0) (i := 0) dX3_add_0 rfl rfl ?_
  obtain ⟨g1, h⟩ := gd_some h
  refine x_getR (ci := 3) (k := 0) dX3_add_1 lf_RX3_11 rfl g1 ?_
  refine x_aload_n (j := 0) (i := 0) dX3_add_4 rfl rfl ?_
  refine x_getI (ci := 3) (k := 4) dX3_add_5 lf_RX3_26 rfl g1 ?_
  refine x_iload_n (j := 1) (i := 1) dX3_add_8 rfl rfl ?_
  obtain ⟨g2, h⟩ := gd_some h
  obtain ⟨g3, h⟩ := gd_some h
  obtain ⟨w4, hw5, h⟩ := lt1_some h
  refine x_iast dX3_add_9 g2 g3 ?_
  rw [← hw5]
  refine x_aload_n (j := 0) (i := 0) dX3_add_10 rfl rfl ?_
  have g6 : isC w4 x0 3 := by rw [hw5]; exact g1
  refine x_getR (ci := 3) (k := 1) dX3_add_11 lf_RX3_15 rfl g6 ?_
  refine x_aload_n (j := 0) (i := 0) dX3_add_14 rfl rfl ?_
  refine x_getI (ci := 3) (k := 4) dX3_add_15 lf_RX3_26 rfl g6 ?_
  refine x_iload_n (j := 2) (i := 2) dX3_add_18 rfl rfl ?_
  obtain ⟨g7, h⟩ := gd_some h
  obtain ⟨g8, h⟩ := gd_some h
  obtain ⟨w9, hw10, h⟩ := lt1_some h
  refine x_iast dX3_add_19 g7 g8 ?_
  rw [← hw10]
  refine x_aload_n (j := 0) (i := 0) dX3_add_20 rfl rfl ?_
  refine x_dup dX3_add_21 rfl ?_
  have g11 : isC w9 x0 3 := by rw [hw10]; exact g6
  refine x_getI (ci := 3) (k := 4) dX3_add_22 lf_RX3_26 rfl g11 ?_
  refine x_iconst (v := 1) dX3_add_25 (by decide) ?_
  refine x_iadd dX3_add_26 ?_
  obtain ⟨w12, hw13, h⟩ := lt1_some h
  refine x_putI (ci := 3) (k := 4) dX3_add_27 (lw_RX3_26_w _) rfl g11 ?_
  rw [← hw13]
  refine x_aload_n (j := 0) (i := 0) dX3_add_30 rfl rfl ?_
  have g14 : isC w12 x0 3 := by rw [hw13]; exact g11
  refine x_getI (ci := 3) (k := 4) dX3_add_31 lf_RX3_26 rfl g14 ?_
  refine x_iconst (v := 1) dX3_add_34 (by decide) ?_
  refine x_isub dX3_add_35 ?_
  obtain ⟨hr9, hw9⟩ := Prod.mk.inj (Option.some.inj h)
  subst hw9
  subst hr9
  exact x_iret dX3_add_36 rfl rfl
set_option maxRecDepth 20000 in
theorem c_X3_mayJudge (x0 : Nat) (x1 : Int32) (x2 : Nat) (w : xSt) (rE : Int32) (wE : xSt) (h : f_X3_mayJudge x0 x1 x2 w = some (rE, wE)) : xCall yX3_mayJudge cX3_mayJudge 3 (some .boolean) 0 0 0 [xR x0, xI x1, xR x2] w (some (xI rE), wE) := by
  refine xCall_of false (by decide) (fun q => nomatch q) (Nat.le_of_ble_eq_true rfl) ?_
  show xX cX3_mayJudge 3 (some .boolean) RX3 false (xRm 0 0 0) (xZf (some (xI rE), wE) 0 0) 0 [(0, xR x0), (1, xI x1), (2, xR x2)] [] w 0 0
  unfold f_X3_mayJudge at h
  refine x_aload_n (j := 0) (i := 0) dX3_mayJudge_0 rfl rfl ?_
  obtain ⟨g1, h⟩ := gd_some h
  refine x_getR (ci := 3) (k := 0) dX3_mayJudge_1 lf_RX3_11 rfl g1 ?_
  refine x_iload_n (j := 1) (i := 1) dX3_mayJudge_4 rfl rfl ?_
  obtain ⟨g2, h⟩ := gd_some h
  obtain ⟨g3, h⟩ := gd_some h
  refine x_iald dX3_mayJudge_5 g2 g3 ?_
  refine x_aload_n (j := 2) (i := 2) dX3_mayJudge_6 rfl rfl ?_
  obtain ⟨g4, h⟩ := gd_some h
  refine x_getI (ci := 6) (k := 1) dX3_mayJudge_7 lf_RX3_30 rfl g4 ?_
  refine x_icmp_eq (tgt := 30) dX3_mayJudge_10 (by decide) (fun hc5 => ?_) (fun hc5 => ?_)
  · rw [if_pos hc5] at h
    refine x_iconst (v := 0) dX3_mayJudge_30 (by decide) ?_
    obtain ⟨hr9, hw9⟩ := Prod.mk.inj (Option.some.inj h)
    subst hw9
    subst hr9
    exact x_zret dX3_mayJudge_31 rfl (by decide) rfl
  · rw [if_neg hc5] at h
    refine x_aload_n (j := 0) (i := 0) dX3_mayJudge_13 rfl rfl ?_
    refine x_getR (ci := 3) (k := 1) dX3_mayJudge_14 lf_RX3_15 rfl g1 ?_
    refine x_iload_n (j := 1) (i := 1) dX3_mayJudge_17 rfl rfl ?_
    obtain ⟨g6, h⟩ := gd_some h
    obtain ⟨g7, h⟩ := gd_some h
    refine x_iald dX3_mayJudge_18 g6 g7 ?_
    refine x_aload_n (j := 2) (i := 2) dX3_mayJudge_19 rfl rfl ?_
    refine x_getI (ci := 6) (k := 2) dX3_mayJudge_20 lf_RX3_35 rfl g4 ?_
    refine x_icmp_ne (tgt := 30) dX3_mayJudge_23 (by decide) (fun hc8 => ?_) (fun hc8 => ?_)
    · rw [if_neg hc8] at h
      refine x_iconst (v := 0) dX3_mayJudge_30 (by decide) ?_
      obtain ⟨hr9, hw9⟩ := Prod.mk.inj (Option.some.inj h)
      subst hw9
      subst hr9
      exact x_zret dX3_mayJudge_31 rfl (by decide) rfl
    · rw [if_pos hc8] at h
      refine x_iconst (v := 1) dX3_mayJudge_26 (by decide) ?_
      refine x_goto (tgt := 31) dX3_mayJudge_27 (by decide) ?_
      obtain ⟨hr9, hw9⟩ := Prod.mk.inj (Option.some.inj h)
      subst hw9
      subst hr9
      exact x_zret dX3_mayJudge_31 rfl (by decide) rfl
set_option maxRecDepth 20000 in
theorem c_X3_slot (x0 : Int32) (x1 : Int32) (w : xSt) (rE : Int32) (wE : xSt) (h : f_X3_slot x0 x1 w = some (rE, wE)) : xCall yX3_slot cX3_slot 2 (some .int) 0 0 0 [xI x0, xI x1] w (some (xI rE), wE) := by
  refine xCall_of false (by decide) (fun q => nomatch q) (Nat.le_of_ble_eq_true rfl) ?_
  show xX cX3_slot 2 (some .int) RX3 false (xRm 0 0 0) (xZf (some (xI rE), wE) 0 0) 0 [(0, xI x0), (1, xI x1)] [] w 0 0
  unfold f_X3_slot at h
  refine x_iload_n (j := 0) (i := 0) dX3_slot_0 rfl rfl ?_
  refine x_bipush (v := 9) dX3_slot_1 (by decide) ?_
  refine x_imul dX3_slot_3 ?_
  refine x_iload_n (j := 1) (i := 1) dX3_slot_4 rfl rfl ?_
  refine x_iadd dX3_slot_5 ?_
  obtain ⟨hr9, hw9⟩ := Prod.mk.inj (Option.some.inj h)
  subst hw9
  subst hr9
  exact x_iret dX3_slot_6 rfl rfl
set_option maxRecDepth 20000 in
theorem c_X3_give (x0 : Nat) (x1 : Int32) (x2 : Int32) (x3 : Int32) (x4 : Int32) (w : xSt) (rE : Int32) (wE : xSt) (h : f_X3_give x0 x1 x2 x3 x4 w = some (rE, wE)) : xCall yX3_give cX3_give 6 (some .int) 1 0 0 [xR x0, xI x1, xI x2, xI x3, xI x4] w (some (xI rE), wE) := by
  refine xCall_of false (by decide) (fun q => nomatch q) (Nat.le_of_ble_eq_true rfl) ?_
  show xX cX3_give 6 (some .int) RX3 false (xRm 1 0 0) (xZf (some (xI rE), wE) 0 0) 0 [(0, xR x0), (1, xI x1), (2, xI x2), (3, xI x3), (4, xI x4)] [] w 0 0
  unfold f_X3_give at h
  refine x_aload_n (j := 0) (i := 0) dX3_give_0 rfl rfl ?_
  obtain ⟨g1, h⟩ := gd_some h
  refine x_getR (ci := 3) (k := 2) dX3_give_1 lf_RX3_20 rfl g1 ?_
  refine x_iload_n (j := 1) (i := 1) dX3_give_4 rfl rfl ?_
  refine x_iload_n (j := 2) (i := 2) dX3_give_5 rfl rfl ?_
  obtain ⟨v2, w3, hc4, h⟩ := bd_s h
  refine x_callSI dX3_give_6 ml_RX3_38 mb_X3_slot (c_X3_slot x1 x2 w v2 w3 hc4) [xR (wR w x0 2)] rfl rfl (Nat.le_of_ble_eq_true rfl) (by decide) (by decide) ?_
  obtain ⟨g5, h⟩ := gd_some h
  obtain ⟨g6, h⟩ := gd_some h
  refine x_iald dX3_give_9 g5 g6 ?_
  refine x_istore (i := 5) (lv2 := [(5, xI (wI w3 (wR w x0 2) v2.toNatClampNeg)), (0, xR x0), (1, xI x1), (2, xI x2), (3, xI x3), (4, xI x4)]) dX3_give_10 (by decide) rfl ?_
  refine x_aload_n (j := 1) (i := 0) dX3_give_12 rfl rfl ?_
  obtain ⟨g7, h⟩ := gd_some h
  refine x_getR (ci := 3) (k := 2) dX3_give_13 lf_RX3_20 rfl g7 ?_
  refine x_iload_n (j := 2) (i := 1) dX3_give_16 rfl rfl ?_
  refine x_iload_n (j := 3) (i := 2) dX3_give_17 rfl rfl ?_
  obtain ⟨v8, w9, hc10, h⟩ := bd_s h
  refine x_callSI dX3_give_18 ml_RX3_38 mb_X3_slot (c_X3_slot x1 x2 w3 v8 w9 hc10) [xR (wR w3 x0 2)] rfl rfl (Nat.le_of_ble_eq_true rfl) (by decide) (by decide) ?_
  refine x_iload_n (j := 4) (i := 3) dX3_give_21 rfl rfl ?_
  obtain ⟨g11, h⟩ := gd_some h
  obtain ⟨g12, h⟩ := gd_some h
  obtain ⟨w13, hw14, h⟩ := lt1_some h
  refine x_iast dX3_give_22 g11 g12 ?_
  rw [← hw14]
  refine x_aload_n (j := 1) (i := 0) dX3_give_23 rfl rfl ?_
  obtain ⟨g15, h⟩ := gd_some h
  refine x_getR (ci := 3) (k := 3) dX3_give_24 lf_RX3_23 rfl g15 ?_
  refine x_iload_n (j := 2) (i := 1) dX3_give_27 rfl rfl ?_
  refine x_iload_n (j := 3) (i := 2) dX3_give_28 rfl rfl ?_
  obtain ⟨v16, w17, hc18, h⟩ := bd_s h
  refine x_callSI dX3_give_29 ml_RX3_38 mb_X3_slot (c_X3_slot x1 x2 w13 v16 w17 hc18) [xR (wR w13 x0 3)] rfl rfl (Nat.le_of_ble_eq_true rfl) (by decide) (by decide) ?_
  refine x_iload (j := 5) (i := 4) dX3_give_32 rfl ?_
  obtain ⟨g19, h⟩ := gd_some h
  obtain ⟨g20, h⟩ := gd_some h
  obtain ⟨w21, hw22, h⟩ := lt1_some h
  refine x_iast dX3_give_34 g19 g20 ?_
  rw [← hw22]
  refine x_iload (j := 0) (i := 5) dX3_give_35 rfl ?_
  obtain ⟨hr9, hw9⟩ := Prod.mk.inj (Option.some.inj h)
  subst hw9
  subst hr9
  exact x_iret dX3_give_37 rfl rfl
set_option maxRecDepth 20000 in
theorem k_X3_marksOf_l4 (rE : Int32) (wE : xSt) : ∀ (n : Nat) (x0 : Nat) (x1 : Int32) (x2 : Int32) (x3 : Int32) (w : xSt), f_X3_marksOf_l4 n x0 x1 x2 x3 w = some (rE, wE) → xX cX3_marksOf 4 (some .int) RX3 false (xRm 1 0 0) (xZf (some (xI rE), wE) 0 0) 4 [(0, xR x0), (1, xI x1), (2, xI x2), (3, xI x3)] [] w 0 0 := by
  intro n
  induction n with
  | zero => intro x0 x1 x2 x3 w h; exact nomatch (show (none : Option (Int32 × xSt)) = some (rE, wE) from h)
  | succ n ih =>
    intro x0 x1 x2 x3 w h
    rw [f_X3_marksOf_l4_s] at h
    refine x_iload_n (j := 3) (i := 3) dX3_marksOf_4 rfl rfl ?_
    refine x_aload_n (j := 0) (i := 0) dX3_marksOf_5 rfl rfl ?_
    obtain ⟨g1, h⟩ := gd_some h
    refine x_getI (ci := 3) (k := 4) dX3_marksOf_6 lf_RX3_26 rfl g1 ?_
    refine x_icmp_ge (tgt := 40) dX3_marksOf_9 (by decide) (fun hc2 => ?_) (fun hc2 => ?_)
    · rw [if_pos hc2] at h
      refine x_iload_n (j := 2) (i := 2) dX3_marksOf_40 rfl rfl ?_
      obtain ⟨hr9, hw9⟩ := Prod.mk.inj (Option.some.inj h)
      subst hw9
      subst hr9
      exact x_iret dX3_marksOf_41 rfl rfl
    · rw [if_neg hc2] at h
      refine x_iload_n (j := 2) (i := 2) dX3_marksOf_12 rfl rfl ?_
      refine x_aload_n (j := 0) (i := 0) dX3_marksOf_13 rfl rfl ?_
      refine x_getR (ci := 3) (k := 2) dX3_marksOf_14 lf_RX3_20 rfl g1 ?_
      refine x_iload_n (j := 3) (i := 3) dX3_marksOf_17 rfl rfl ?_
      refine x_iload_n (j := 1) (i := 1) dX3_marksOf_18 rfl rfl ?_
      obtain ⟨v3, w4, hc5, h⟩ := bd_s h
      refine x_callSI dX3_marksOf_19 ml_RX3_38 mb_X3_slot (c_X3_slot x3 x1 w v3 w4 hc5) [xR (wR w x0 2), xI x2] rfl rfl (Nat.le_of_ble_eq_true rfl) (by decide) (by decide) ?_
      obtain ⟨g6, h⟩ := gd_some h
      obtain ⟨g7, h⟩ := gd_some h
      refine x_iald dX3_marksOf_22 g6 g7 ?_
      refine x_iconst (v := -1) dX3_marksOf_23 (by decide) ?_
      refine x_icmp_eq (tgt := 31) dX3_marksOf_24 (by decide) (fun hc8 => ?_) (fun hc8 => ?_)
      · rw [if_pos hc8] at h
        refine x_iconst (v := 0) dX3_marksOf_31 (by decide) ?_
        refine x_iadd dX3_marksOf_32 ?_
        refine x_istore_n (i := 2) (lv2 := [(2, xI (x2 + (0 : Int32))), (0, xR x0), (1, xI x1), (3, xI x3)]) dX3_marksOf_33 rfl (by decide) rfl ?_
        refine x_iinc (j := 3) (i := 3) (v := x3 + (1 : Int32)) (lv2 := [(3, xI (x3 + (1 : Int32))), (2, xI (x2 + (0 : Int32))), (0, xR x0), (1, xI x1)]) dX3_marksOf_34 rfl rfl (by decide) rfl ?_
        refine x_goto (tgt := 4) dX3_marksOf_37 (by decide) ?_
        refine x_lv (lv2 := [(0, xR x0), (1, xI x1), (2, xI (x2 + (0 : Int32))), (3, xI (x3 + (1 : Int32)))]) [2, 3, 1, 0] rfl ?_
        exact ih x0 x1 (x2 + (0 : Int32)) (x3 + (1 : Int32)) w4 h
      · rw [if_neg hc8] at h
        refine x_iconst (v := 1) dX3_marksOf_27 (by decide) ?_
        refine x_goto (tgt := 32) dX3_marksOf_28 (by decide) ?_
        refine x_iadd dX3_marksOf_32 ?_
        refine x_istore_n (i := 2) (lv2 := [(2, xI (x2 + (1 : Int32))), (0, xR x0), (1, xI x1), (3, xI x3)]) dX3_marksOf_33 rfl (by decide) rfl ?_
        refine x_iinc (j := 3) (i := 3) (v := x3 + (1 : Int32)) (lv2 := [(3, xI (x3 + (1 : Int32))), (2, xI (x2 + (1 : Int32))), (0, xR x0), (1, xI x1)]) dX3_marksOf_34 rfl rfl (by decide) rfl ?_
        refine x_goto (tgt := 4) dX3_marksOf_37 (by decide) ?_
        refine x_lv (lv2 := [(0, xR x0), (1, xI x1), (2, xI (x2 + (1 : Int32))), (3, xI (x3 + (1 : Int32)))]) [2, 3, 1, 0] rfl ?_
        exact ih x0 x1 (x2 + (1 : Int32)) (x3 + (1 : Int32)) w4 h
set_option maxRecDepth 20000 in
theorem c_X3_marksOf (x0 : Nat) (x1 : Int32) (w : xSt) (rE : Int32) (wE : xSt) (h : f_X3_marksOf x0 x1 w = some (rE, wE)) : xCall yX3_marksOf cX3_marksOf 4 (some .int) 1 0 0 [xR x0, xI x1] w (some (xI rE), wE) := by
  refine xCall_of false (by decide) (fun q => nomatch q) (Nat.le_of_ble_eq_true rfl) ?_
  show xX cX3_marksOf 4 (some .int) RX3 false (xRm 1 0 0) (xZf (some (xI rE), wE) 0 0) 0 [(0, xR x0), (1, xI x1)] [] w 0 0
  unfold f_X3_marksOf at h
  refine x_iconst (v := 0) dX3_marksOf_0 (by decide) ?_
  refine x_istore_n (i := 2) (lv2 := [(2, xI (0 : Int32)), (0, xR x0), (1, xI x1)]) dX3_marksOf_1 rfl (by decide) rfl ?_
  refine x_iconst (v := 0) dX3_marksOf_2 (by decide) ?_
  refine x_istore_n (i := 3) (lv2 := [(3, xI (0 : Int32)), (2, xI (0 : Int32)), (0, xR x0), (1, xI x1)]) dX3_marksOf_3 rfl (by decide) rfl ?_
  refine x_lv (lv2 := [(0, xR x0), (1, xI x1), (2, xI (0 : Int32)), (3, xI (0 : Int32))]) [2, 3, 1, 0] rfl ?_
  exact k_X3_marksOf_l4 rE wE xFu x0 x1 (0 : Int32) (0 : Int32) w h
set_option maxRecDepth 20000 in
theorem k_X3_allMarks_l4 (rE : Int32) (wE : xSt) : ∀ (n : Nat) (x0 : Nat) (x1 : Int32) (x2 : Int32) (w : xSt), f_X3_allMarks_l4 n x0 x1 x2 w = some (rE, wE) → xX cX3_allMarks 3 (some .int) RX3 false (xRm 2 0 0) (xZf (some (xI rE), wE) 0 0) 4 [(0, xR x0), (1, xI x1), (2, xI x2)] [] w 0 0 := by
  intro n
  induction n with
  | zero => intro x0 x1 x2 w h; exact nomatch (show (none : Option (Int32 × xSt)) = some (rE, wE) from h)
  | succ n ih =>
    intro x0 x1 x2 w h
    rw [f_X3_allMarks_l4_s] at h
    refine x_iload_n (j := 2) (i := 2) dX3_allMarks_4 rfl rfl ?_
    refine x_bipush (v := 9) dX3_allMarks_5 (by decide) ?_
    refine x_icmp_ge (tgt := 24) dX3_allMarks_7 (by decide) (fun hc1 => ?_) (fun hc1 => ?_)
    · rw [if_pos hc1] at h
      refine x_iload_n (j := 1) (i := 1) dX3_allMarks_24 rfl rfl ?_
      obtain ⟨hr9, hw9⟩ := Prod.mk.inj (Option.some.inj h)
      subst hw9
      subst hr9
      exact x_iret dX3_allMarks_25 rfl rfl
    · rw [if_neg hc1] at h
      refine x_iload_n (j := 1) (i := 1) dX3_allMarks_10 rfl rfl ?_
      refine x_aload_n (j := 0) (i := 0) dX3_allMarks_11 rfl rfl ?_
      refine x_iload_n (j := 2) (i := 2) dX3_allMarks_12 rfl rfl ?_
      obtain ⟨g5, h⟩ := gd_some h
      obtain ⟨v2, w3, hc4, h⟩ := bd_s h
      refine x_callVI (ci := 3) dX3_allMarks_13 ml_RX3_42 mb_X3_marksOf (c_X3_marksOf x0 x2 w v2 w3 hc4) ⟨_, rfl, rfl⟩ g5 [xI x1] rfl rfl (Nat.le_of_ble_eq_true rfl) (by decide) (by decide) ?_
      refine x_iadd dX3_allMarks_16 ?_
      refine x_istore_n (i := 1) (lv2 := [(1, xI (x1 + v2)), (0, xR x0), (2, xI x2)]) dX3_allMarks_17 rfl (by decide) rfl ?_
      refine x_iinc (j := 2) (i := 2) (v := x2 + (1 : Int32)) (lv2 := [(2, xI (x2 + (1 : Int32))), (1, xI (x1 + v2)), (0, xR x0)]) dX3_allMarks_18 rfl rfl (by decide) rfl ?_
      refine x_goto (tgt := 4) dX3_allMarks_21 (by decide) ?_
      refine x_lv (lv2 := [(0, xR x0), (1, xI (x1 + v2)), (2, xI (x2 + (1 : Int32)))]) [2, 1, 0] rfl ?_
      exact ih x0 (x1 + v2) (x2 + (1 : Int32)) w3 h
set_option maxRecDepth 20000 in
theorem c_X3_allMarks (x0 : Nat) (w : xSt) (rE : Int32) (wE : xSt) (h : f_X3_allMarks x0 w = some (rE, wE)) : xCall yX3_allMarks cX3_allMarks 3 (some .int) 2 0 0 [xR x0] w (some (xI rE), wE) := by
  refine xCall_of false (by decide) (fun q => nomatch q) (Nat.le_of_ble_eq_true rfl) ?_
  show xX cX3_allMarks 3 (some .int) RX3 false (xRm 2 0 0) (xZf (some (xI rE), wE) 0 0) 0 [(0, xR x0)] [] w 0 0
  unfold f_X3_allMarks at h
  refine x_iconst (v := 0) dX3_allMarks_0 (by decide) ?_
  refine x_istore_n (i := 1) (lv2 := [(1, xI (0 : Int32)), (0, xR x0)]) dX3_allMarks_1 rfl (by decide) rfl ?_
  refine x_iconst (v := 0) dX3_allMarks_2 (by decide) ?_
  refine x_istore_n (i := 2) (lv2 := [(2, xI (0 : Int32)), (1, xI (0 : Int32)), (0, xR x0)]) dX3_allMarks_3 rfl (by decide) rfl ?_
  refine x_lv (lv2 := [(0, xR x0), (1, xI (0 : Int32)), (2, xI (0 : Int32))]) [2, 1, 0] rfl ?_
  exact k_X3_allMarks_l4 rE wE xFu x0 (0 : Int32) (0 : Int32) w h
