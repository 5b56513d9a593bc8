set_option maxRecDepth 20000 in
theorem k_X7_medalBegunHere_l2 (rE : Int32) (wE : xSt) : ∀ (n : Nat) (x0 : Nat) (x2 : Int32) (w : xSt), f_X7_medalBegunHere_l2 n x0 x2 w = some (rE, wE) → xX cX7_medalBegunHere 3 (some .int) RX7 false (xRm 4 0 0) (xZf (some (xI rE), wE) 0 0) 2 [(0, xR x0), (2, xI x2)] [] w 0 0 := by
  intro n
  induction n with
  | zero => intro x0 x2 w h; exact nomatch (show (none : Option (Int32 × xSt)) = some (rE, wE) from h)
  | succ n ih =>
    intro x0 x2 w h
    rw [f_X7_medalBegunHere_l2_s] at h
    refine x_iload_n (j := 1) (i := 2) dX7_medalBegunHere_2 rfl rfl ?_
    refine x_if_le (tgt := 41) dX7_medalBegunHere_3 (by decide) (fun hc1 => ?_) (fun hc1 => ?_)
    · rw [if_pos hc1] at h
      refine x_iconst (v := 0) dX7_medalBegunHere_41 (by decide) ?_
      obtain ⟨hr9, hw9⟩ := Prod.mk.inj (Option.some.inj h)
      subst hw9
      subst hr9
      exact x_iret dX7_medalBegunHere_42 rfl rfl
    · rw [if_neg hc1] at h
      refine x_aload_n (j := 0) (i := 0) dX7_medalBegunHere_6 rfl rfl ?_
      obtain ⟨g5, h⟩ := gd_some h
      obtain ⟨v2, w3, hc4, h⟩ := bd_s h
      refine x_callVI (ci := 7) dX7_medalBegunHere_7 ml_RX7_46 mb_X7_isAtEnd (c_X7_isAtEnd x0 w v2 w3 hc4) ⟨_, rfl, rfl⟩ g5 [] rfl rfl (Nat.le_of_ble_eq_true rfl) (by decide) (by decide) ?_
      refine x_if_ne (tgt := 35) dX7_medalBegunHere_10 (by decide) (fun hc6 => ?_) (fun hc6 => ?_)
      · rw [if_neg hc6] at h
        refine x_iinc (j := 1) (i := 2) (v := x2 + (-1 : Int32)) (lv2 := [(2, xI (x2 + (-1 : Int32))), (0, xR x0)]) dX7_medalBegunHere_35 rfl rfl (by decide) rfl ?_
        refine x_goto (tgt := 2) dX7_medalBegunHere_38 (by decide) ?_
        refine x_lv (lv2 := [(0, xR x0), (2, xI (x2 + (-1 : Int32)))]) [1, 0] rfl ?_
        exact ih x0 (x2 + (-1 : Int32)) w3 h
      · rw [if_pos hc6] at h
        refine x_aload_n (j := 0) (i := 0) dX7_medalBegunHere_13 rfl rfl ?_
        obtain ⟨g7, h⟩ := gd_some h
        refine x_getR (ci := 7) (k := 0) dX7_medalBegunHere_14 lf_RX7_11 rfl g7 ?_
        refine x_aload_n (j := 0) (i := 0) dX7_medalBegunHere_17 rfl rfl ?_
        refine x_getI (ci := 7) (k := 2) dX7_medalBegunHere_18 lf_RX7_19 rfl g7 ?_
        obtain ⟨g8, h⟩ := gd_some h
        obtain ⟨g9, h⟩ := gd_some h
        refine x_bald dX7_medalBegunHere_21 g8 g9 ?_
        refine x_iload_n (j := 1) (i := 2) dX7_medalBegunHere_22 rfl rfl ?_
        obtain ⟨v10, w11, hc12, h⟩ := bd_s h
        refine x_callSR dX7_medalBegunHere_23 ml_RX7_26 mb_X7_nameOf (c_X7_nameOf x2 w3 v10 w11 hc12) [xI (wI w3 (wR w3 x0 0) (wI w3 x0 2).toNatClampNeg)] rfl rfl (Nat.le_of_ble_eq_true rfl) (by decide) (by decide) ?_
        refine x_iconst (v := 0) dX7_medalBegunHere_26 (by decide) ?_
        obtain ⟨g16, h⟩ := gd_some h
        obtain ⟨v13, w14, hc15, h⟩ := bd_s h
        refine x_callVSI g16 dX7_medalBegunHere_27 ml_RX7_65 mb_J0_charAt_5068e (c_J0_charAt_5068e v10 (0 : Int32) w11 v13 w14 hc15) rfl [xI (wI w3 (wR w3 x0 0) (wI w3 x0 2).toNatClampNeg)] rfl rfl (Nat.le_of_ble_eq_true rfl) (by decide) (by decide) ?_
        refine x_icmp_ne (tgt := 35) dX7_medalBegunHere_30 (by decide) (fun hc17 => ?_) (fun hc17 => ?_)
        · rw [if_neg hc17] at h
          refine x_iinc (j := 1) (i := 2) (v := x2 + (-1 : Int32)) (lv2 := [(2, xI (x2 + (-1 : Int32))), (0, xR x0)]) dX7_medalBegunHere_35 rfl rfl (by decide) rfl ?_
          refine x_goto (tgt := 2) dX7_medalBegunHere_38 (by decide) ?_
          refine x_lv (lv2 := [(0, xR x0), (2, xI (x2 + (-1 : Int32)))]) [1, 0] rfl ?_
          exact ih x0 (x2 + (-1 : Int32)) w14 h
        · rw [if_pos hc17] at h
          refine x_iload_n (j := 1) (i := 2) dX7_medalBegunHere_33 rfl rfl ?_
          obtain ⟨hr9, hw9⟩ := Prod.mk.inj (Option.some.inj h)
          subst hw9
          subst hr9
          exact x_iret dX7_medalBegunHere_34 rfl rfl
set_option maxRecDepth 20000 in
theorem c_X7_medalBegunHere (x0 : Nat) (x1 : Int32) (w : xSt) (rE : Int32) (wE : xSt) (h : f_X7_medalBegunHere x0 x1 w = some (rE, wE)) : xCall yX7_medalBegunHere cX7_medalBegunHere 3 (some .int) 4 0 0 [xR x0, xI x1] w (some (xI rE), wE) := by
  refine xCall_of false (by decide) (fun q => nomatch q) (Nat.le_of_ble_eq_true rfl) ?_
  show xX cX7_medalBegunHere 3 (some .int) RX7 false (xRm 4 0 0) (xZf (some (xI rE), wE) 0 0) 0 [(0, xR x0), (1, xI x1)] [] w 0 0
  unfold f_X7_medalBegunHere at h
  refine x_iload_n (j := 1) (i := 1) dX7_medalBegunHere_0 rfl rfl ?_
  refine x_istore_n (i := 2) (lv2 := [(2, xI x1), (0, xR x0), (1, xI x1)]) dX7_medalBegunHere_1 rfl (by decide) rfl ?_
  refine x_lv (lv2 := [(0, xR x0), (2, xI x1)]) [1, 0] rfl ?_
  exact k_X7_medalBegunHere_l2 rE wE xFu x0 x1 w h
set_option maxRecDepth 20000 in
theorem c_J0_coder_7d493 (x0 : Nat) (w : xSt) (rE : Int32) (wE : xSt) (h : f_J0_coder_7d493 x0 w = some (rE, wE)) : xCall yJ0_coder_7d493 cJ0_coder_7d493 1 (some .byte) 0 0 0 [xR (1000 + x0)] w (some (xI rE), wE) := by
  refine xCall_ofF false (by decide +kernel) (fun q => nomatch q) (Nat.le_of_ble_eq_true rfl) ?_
  show xX cJ0_coder_7d493 1 (some .byte) RJ0 false (xRm 0 0 0) (xZf (some (xI rE), wE) 0 0) 0 [(0, xR (1000 + x0))] [] w 0 0
  unfold f_J0_coder_7d493 at h
  refine x_getsC lf_RJ0_38 dJ0_coder_7d493_0 ?_
  refine x_if_eq (tgt := 13) dJ0_coder_7d493_3 (by decide) (fun hc1 => ?_) (fun hc1 => ?_)
  · rw [if_pos hc1] at h
    refine x_iconst (v := 1) dJ0_coder_7d493_13 (by decide) ?_
    obtain ⟨g2, h⟩ := gd_some h
    obtain ⟨hr9, hw9⟩ := Prod.mk.inj (Option.some.inj h)
    subst hw9
    subst hr9
    exact x_bret dJ0_coder_7d493_14 rfl (by rcases g2 with z | z <;> rw [z] <;> rfl) rfl
  · rw [if_neg hc1] at h
    refine x_aload_n (j := 0) (i := 0) dJ0_coder_7d493_6 rfl rfl ?_
    obtain ⟨g3, h⟩ := gd_some h
    refine x_sgetC g3 lf_RJ0_15 dJ0_coder_7d493_7 ?_
    refine x_goto (tgt := 14) dJ0_coder_7d493_10 (by decide) ?_
    obtain ⟨g4, h⟩ := gd_some h
    obtain ⟨hr9, hw9⟩ := Prod.mk.inj (Option.some.inj h)
    subst hw9
    subst hr9
    exact x_bret dJ0_coder_7d493_14 rfl (by rcases g4 with z | z <;> rw [z] <;> rfl) rfl
set_option maxRecDepth 20000 in
theorem c_J0_length_8abf5 (x0 : Nat) (w : xSt) (rE : Int32) (wE : xSt) (h : f_J0_length_8abf5 x0 w = some (rE, wE)) : xCall yJ0_length_8abf5 cJ0_length_8abf5 1 (some .int) 1 0 0 [xR (1000 + x0)] w (some (xI rE), wE) := by
  refine xCall_ofF false (by decide +kernel) (fun q => nomatch q) (Nat.le_of_ble_eq_true rfl) ?_
  show xX cJ0_length_8abf5 1 (some .int) RJ0 false (xRm 1 0 0) (xZf (some (xI rE), wE) 0 0) 0 [(0, xR (1000 + x0))] [] w 0 0
  unfold f_J0_length_8abf5 at h
  refine x_aload_n (j := 0) (i := 0) dJ0_length_8abf5_0 rfl rfl ?_
  obtain ⟨g1, h⟩ := gd_some h
  refine x_sgetV g1 lf_RJ0_9 dJ0_length_8abf5_1 ?_
  obtain ⟨g2, h⟩ := gd_some h
  refine x_salen g2 dJ0_length_8abf5_4 ?_
  refine x_aload_n (j := 0) (i := 0) dJ0_length_8abf5_5 rfl rfl ?_
  obtain ⟨g6, h⟩ := gd_some h
  obtain ⟨v3, w4, hc5, h⟩ := bd_s h
  refine x_callVSI g6 dJ0_length_8abf5_6 ml_RJ0_335 mb_J0_coder_7d493 (c_J0_coder_7d493 x0 w v3 w4 hc5) rfl [xI (Int32.ofNat (xlen.getD x0 0))] rfl rfl (Nat.le_of_ble_eq_true rfl) (by decide) (by decide) ?_
  refine x_ishr dJ0_length_8abf5_9 ?_
  obtain ⟨hr9, hw9⟩ := Prod.mk.inj (Option.some.inj h)
  subst hw9
  subst hr9
  exact x_iret dJ0_length_8abf5_10 rfl rfl
set_option maxRecDepth 20000 in
theorem k_X7_reads_l2 (rE : Int32) (wE : xSt) : ∀ (n : Nat) (x0 : Nat) (x1 : Nat) (x2 : Int32) (w : xSt), f_X7_reads_l2 n x0 x1 x2 w = some (rE, wE) → xX cX7_reads 3 (some .boolean) RX7 false (xRm 4 0 0) (xZf (some (xI rE), wE) 0 0) 2 [(0, xR x0), (1, xR (1000 + x1)), (2, xI x2)] [] w 0 0 := by
  intro n
  induction n with
  | zero => intro x0 x1 x2 w h; exact nomatch (show (none : Option (Int32 × xSt)) = some (rE, wE) from h)
  | succ n ih =>
    intro x0 x1 x2 w h
    rw [f_X7_reads_l2_s] at h
    refine x_iload_n (j := 2) (i := 2) dX7_reads_2 rfl rfl ?_
    refine x_aload_n (j := 1) (i := 1) dX7_reads_3 rfl rfl ?_
    obtain ⟨g4, h⟩ := gd_some h
    obtain ⟨v1, w2, hc3, h⟩ := bd_s h
    refine x_callVSI g4 dX7_reads_4 ml_RX7_71 mb_J0_length_8abf5 (c_J0_length_8abf5 x1 w v1 w2 hc3) rfl [xI x2] rfl rfl (Nat.le_of_ble_eq_true rfl) (by decide) (by decide) ?_
    refine x_icmp_ge (tgt := 52) dX7_reads_7 (by decide) (fun hc5 => ?_) (fun hc5 => ?_)
    · rw [if_pos hc5] at h
      refine x_iconst (v := 1) dX7_reads_52 (by decide) ?_
      obtain ⟨hr9, hw9⟩ := Prod.mk.inj (Option.some.inj h)
      subst hw9
      subst hr9
      exact x_zret dX7_reads_53 rfl (by decide) rfl
    · rw [if_neg hc5] at h
      refine x_aload_n (j := 0) (i := 0) dX7_reads_10 rfl rfl ?_
      obtain ⟨g9, h⟩ := gd_some h
      obtain ⟨v6, w7, hc8, h⟩ := bd_s h
      refine x_callVI (ci := 7) dX7_reads_11 ml_RX7_46 mb_X7_isAtEnd (c_X7_isAtEnd x0 w2 v6 w7 hc8) ⟨_, rfl, rfl⟩ g9 [] rfl rfl (Nat.le_of_ble_eq_true rfl) (by decide) (by decide) ?_
      refine x_if_ne (tgt := 34) dX7_reads_14 (by decide) (fun hc10 => ?_) (fun hc10 => ?_)
      · rw [if_neg hc10] at h
        refine x_iconst (v := 0) dX7_reads_34 (by decide) ?_
        obtain ⟨hr9, hw9⟩ := Prod.mk.inj (Option.some.inj h)
        subst hw9
        subst hr9
        exact x_zret dX7_reads_35 rfl (by decide) rfl
      · rw [if_pos hc10] at h
        refine x_aload_n (j := 0) (i := 0) dX7_reads_17 rfl rfl ?_
        obtain ⟨g11, h⟩ := gd_some h
        refine x_getR (ci := 7) (k := 0) dX7_reads_18 lf_RX7_11 rfl g11 ?_
        refine x_aload_n (j := 0) (i := 0) dX7_reads_21 rfl rfl ?_
        refine x_getI (ci := 7) (k := 2) dX7_reads_22 lf_RX7_19 rfl g11 ?_
        obtain ⟨g12, h⟩ := gd_some h
        obtain ⟨g13, h⟩ := gd_some h
        refine x_bald dX7_reads_25 g12 g13 ?_
        refine x_aload_n (j := 1) (i := 1) dX7_reads_26 rfl rfl ?_
        refine x_iload_n (j := 2) (i := 2) dX7_reads_27 rfl rfl ?_
        obtain ⟨g17, h⟩ := gd_some h
        obtain ⟨v14, w15, hc16, h⟩ := bd_s h
        refine x_callVSI g17 dX7_reads_28 ml_RX7_65 mb_J0_charAt_5068e (c_J0_charAt_5068e x1 x2 w7 v14 w15 hc16) rfl [xI (wI w7 (wR w7 x0 0) (wI w7 x0 2).toNatClampNeg)] rfl rfl (Nat.le_of_ble_eq_true rfl) (by decide) (by decide) ?_
        refine x_icmp_eq (tgt := 36) dX7_reads_31 (by decide) (fun hc18 => ?_) (fun hc18 => ?_)
        · rw [if_pos hc18] at h
          refine x_aload_n (j := 0) (i := 0) dX7_reads_36 rfl rfl ?_
          refine x_dup dX7_reads_37 rfl ?_
          obtain ⟨g19, h⟩ := gd_some h
          refine x_getI (ci := 7) (k := 2) dX7_reads_38 lf_RX7_19 rfl g19 ?_
          refine x_iconst (v := 1) dX7_reads_41 (by decide) ?_
          refine x_iadd dX7_reads_42 ?_
          obtain ⟨w20, hw21, h⟩ := lt1_some h
          refine x_putI (ci := 7) (k := 2) dX7_reads_43 (lw_RX7_19_w _) rfl g19 ?_
          rw [← hw21]
          refine x_iinc (j := 2) (i := 2) (v := x2 + (1 : Int32)) (lv2 := [(2, xI (x2 + (1 : Int32))), (0, xR x0), (1, xR (1000 + x1))]) dX7_reads_46 rfl rfl (by decide) rfl ?_
          refine x_goto (tgt := 2) dX7_reads_49 (by decide) ?_
          refine x_lv (lv2 := [(0, xR x0), (1, xR (1000 + x1)), (2, xI (x2 + (1 : Int32)))]) [1, 2, 0] rfl ?_
          exact ih x0 x1 (x2 + (1 : Int32)) w20 h
        · rw [if_neg hc18] at h
          refine x_iconst (v := 0) dX7_reads_34 (by decide) ?_
          obtain ⟨hr9, hw9⟩ := Prod.mk.inj (Option.some.inj h)
          subst hw9
          subst hr9
          exact x_zret dX7_reads_35 rfl (by decide) rfl
set_option maxRecDepth 20000 in
theorem c_X7_reads (x0 : Nat) (x1 : Nat) (w : xSt) (rE : Int32) (wE : xSt) (h : f_X7_reads x0 x1 w = some (rE, wE)) : xCall yX7_reads cX7_reads 3 (some .boolean) 4 0 0 [xR x0, xR (1000 + x1)] w (some (xI rE), wE) := by
  refine xCall_of false (by decide) (fun q => nomatch q) (Nat.le_of_ble_eq_true rfl) ?_
  show xX cX7_reads 3 (some .boolean) RX7 false (xRm 4 0 0) (xZf (some (xI rE), wE) 0 0) 0 [(0, xR x0), (1, xR (1000 + x1))] [] w 0 0
  unfold f_X7_reads at h
  refine x_iconst (v := 0) dX7_reads_0 (by decide) ?_
  refine x_istore_n (i := 2) (lv2 := [(2, xI (0 : Int32)), (0, xR x0), (1, xR (1000 + x1))]) dX7_reads_1 rfl (by decide) rfl ?_
  refine x_lv (lv2 := [(0, xR x0), (1, xR (1000 + x1)), (2, xI (0 : Int32))]) [1, 2, 0] rfl ?_
  exact k_X7_reads_l2 rE wE xFu x0 x1 (0 : Int32) w h
set_option maxRecDepth 20000 in
theorem c_X7_isDigitHere (x0 : Nat) (x1 : Int32) (w : xSt) (rE : Int32) (wE : xSt) (h : f_X7_isDigitHere x0 x1 w = some (rE, wE)) : xCall yX7_isDigitHere cX7_isDigitHere 2 (some .boolean) 1 0 0 [xR x0, xI x1] w (some (xI rE), wE) := by
  refine xCall_of false (by decide) (fun q => nomatch q) (Nat.le_of_ble_eq_true rfl) ?_
  show xX cX7_isDigitHere 2 (some .boolean) RX7 false (xRm 1 0 0) (xZf (some (xI rE), wE) 0 0) 0 [(0, xR x0), (1, xI x1)] [] w 0 0
  unfold f_X7_isDigitHere at h
  refine x_aload_n (j := 0) (i := 0) dX7_isDigitHere_0 rfl rfl ?_
  obtain ⟨g4, h⟩ := gd_some h
  obtain ⟨v1, w2, hc3, h⟩ := bd_s h
  refine x_callVI (ci := 7) dX7_isDigitHere_1 ml_RX7_46 mb_X7_isAtEnd (c_X7_isAtEnd x0 w v1 w2 hc3) ⟨_, rfl, rfl⟩ g4 [] rfl rfl (Nat.le_of_ble_eq_true rfl) (by decide) (by decide) ?_
  refine x_if_ne (tgt := 38) dX7_isDigitHere_4 (by decide) (fun hc5 => ?_) (fun hc5 => ?_)
  · rw [if_neg hc5] at h
    refine x_iconst (v := 0) dX7_isDigitHere_38 (by decide) ?_
    obtain ⟨hr9, hw9⟩ := Prod.mk.inj (Option.some.inj h)
    subst hw9
    subst hr9
    exact x_zret dX7_isDigitHere_39 rfl (by decide) rfl
  · rw [if_pos hc5] at h
    refine x_aload_n (j := 0) (i := 0) dX7_isDigitHere_7 rfl rfl ?_
    obtain ⟨g6, h⟩ := gd_some h
    refine x_getR (ci := 7) (k := 0) dX7_isDigitHere_8 lf_RX7_11 rfl g6 ?_
    refine x_aload_n (j := 0) (i := 0) dX7_isDigitHere_11 rfl rfl ?_
    refine x_getI (ci := 7) (k := 2) dX7_isDigitHere_12 lf_RX7_19 rfl g6 ?_
    obtain ⟨g7, h⟩ := gd_some h
    obtain ⟨g8, h⟩ := gd_some h
    refine x_bald dX7_isDigitHere_15 g7 g8 ?_
    refine x_bipush (v := 48) dX7_isDigitHere_16 (by decide) ?_
    refine x_icmp_lt (tgt := 38) dX7_isDigitHere_18 (by decide) (fun hc9 => ?_) (fun hc9 => ?_)
    · rw [if_pos hc9] at h
      refine x_iconst (v := 0) dX7_isDigitHere_38 (by decide) ?_
      obtain ⟨hr9, hw9⟩ := Prod.mk.inj (Option.some.inj h)
      subst hw9
      subst hr9
      exact x_zret dX7_isDigitHere_39 rfl (by decide) rfl
    · rw [if_neg hc9] at h
      refine x_aload_n (j := 0) (i := 0) dX7_isDigitHere_21 rfl rfl ?_
      refine x_getR (ci := 7) (k := 0) dX7_isDigitHere_22 lf_RX7_11 rfl g6 ?_
      refine x_aload_n (j := 0) (i := 0) dX7_isDigitHere_25 rfl rfl ?_
      refine x_getI (ci := 7) (k := 2) dX7_isDigitHere_26 lf_RX7_19 rfl g6 ?_
      refine x_bald dX7_isDigitHere_29 g7 g8 ?_
      refine x_iload_n (j := 1) (i := 1) dX7_isDigitHere_30 rfl rfl ?_
      refine x_icmp_gt (tgt := 38) dX7_isDigitHere_31 (by decide) (fun hc10 => ?_) (fun hc10 => ?_)
      · rw [if_pos hc10] at h
        refine x_iconst (v := 0) dX7_isDigitHere_38 (by decide) ?_
        obtain ⟨hr9, hw9⟩ := Prod.mk.inj (Option.some.inj h)
        subst hw9
        subst hr9
        exact x_zret dX7_isDigitHere_39 rfl (by decide) rfl
      · rw [if_neg hc10] at h
        refine x_iconst (v := 1) dX7_isDigitHere_34 (by decide) ?_
        refine x_goto (tgt := 39) dX7_isDigitHere_35 (by decide) ?_
        obtain ⟨hr9, hw9⟩ := Prod.mk.inj (Option.some.inj h)
        subst hw9
        subst hr9
        exact x_zret dX7_isDigitHere_39 rfl (by decide) rfl
set_option maxRecDepth 20000 in
theorem k_X7_readNumber_l4 (rE : Int32) (wE : xSt) : ∀ (n : Nat) (x0 : Nat) (x1 : Int32) (x2 : Int32) (w : xSt), f_X7_readNumber_l4 n x0 x1 x2 w = some (rE, wE) → xX cX7_readNumber 3 (some .int) RX7 false (xRm 2 0 0) (xZf (some (xI rE), wE) 0 0) 4 [(0, xR x0), (1, xI x1), (2, xI x2)] [] w 0 0 := by
  intro n
  induction n with
  | zero => intro x0 x1 x2 w h; exact nomatch (show (none : Option (Int32 × xSt)) = some (rE, wE) from h)
  | succ n ih =>
    intro x0 x1 x2 w h
    rw [f_X7_readNumber_l4_s] at h
    refine x_iload_n (j := 2) (i := 2) dX7_readNumber_4 rfl rfl ?_
    refine x_iconst (v := 3) dX7_readNumber_5 (by decide) ?_
    refine x_icmp_ge (tgt := 56) dX7_readNumber_6 (by decide) (fun hc1 => ?_) (fun hc1 => ?_)
    · rw [if_pos hc1] at h
      refine x_iload_n (j := 1) (i := 1) dX7_readNumber_56 rfl rfl ?_
      obtain ⟨hr9, hw9⟩ := Prod.mk.inj (Option.some.inj h)
      subst hw9
      subst hr9
      exact x_iret dX7_readNumber_57 rfl rfl
    · rw [if_neg hc1] at h
      refine x_aload_n (j := 0) (i := 0) dX7_readNumber_9 rfl rfl ?_
      refine x_bipush (v := 57) dX7_readNumber_10 (by decide) ?_
      obtain ⟨g5, h⟩ := gd_some h
      obtain ⟨v2, w3, hc4, h⟩ := bd_s h
      refine x_callVI (ci := 7) dX7_readNumber_12 ml_RX7_74 mb_X7_isDigitHere (c_X7_isDigitHere x0 (57 : Int32) w v2 w3 hc4) ⟨_, rfl, rfl⟩ g5 [] rfl rfl (Nat.le_of_ble_eq_true rfl) (by decide) (by decide) ?_
      refine x_if_eq (tgt := 56) dX7_readNumber_15 (by decide) (fun hc6 => ?_) (fun hc6 => ?_)
      · rw [if_pos hc6] at h
        refine x_iload_n (j := 1) (i := 1) dX7_readNumber_56 rfl rfl ?_
        obtain ⟨hr9, hw9⟩ := Prod.mk.inj (Option.some.inj h)
        subst hw9
        subst hr9
        exact x_iret dX7_readNumber_57 rfl rfl
      · rw [if_neg hc6] at h
        refine x_iload_n (j := 1) (i := 1) dX7_readNumber_18 rfl rfl ?_
        refine x_iconst (v := 0) dX7_readNumber_19 (by decide) ?_
        obtain ⟨v7, w8, hc9, h⟩ := bd_s h
        refine x_callSI dX7_readNumber_20 ml_RX7_78 mb_J9_max_7cf53 (c_J9_max_7cf53 x1 (0 : Int32) w3 v7 w8 hc9) [] rfl rfl (Nat.le_of_ble_eq_true rfl) (by decide) (by decide) ?_
        refine x_bipush (v := 10) dX7_readNumber_23 (by decide) ?_
        refine x_imul dX7_readNumber_25 ?_
        refine x_aload_n (j := 0) (i := 0) dX7_readNumber_26 rfl rfl ?_
        obtain ⟨g10, h⟩ := gd_some h
        refine x_getR (ci := 7) (k := 0) dX7_readNumber_27 lf_RX7_11 rfl g10 ?_
        refine x_aload_n (j := 0) (i := 0) dX7_readNumber_30 rfl rfl ?_
        refine x_getI (ci := 7) (k := 2) dX7_readNumber_31 lf_RX7_19 rfl g10 ?_
        obtain ⟨g11, h⟩ := gd_some h
        obtain ⟨g12, h⟩ := gd_some h
        refine x_bald dX7_readNumber_34 g11 g12 ?_
        refine x_iadd dX7_readNumber_35 ?_
        refine x_bipush (v := 48) dX7_readNumber_36 (by decide) ?_
        refine x_isub dX7_readNumber_38 ?_
        refine x_istore_n (i := 1) (lv2 := [(1, xI (((v7 * (10 : Int32)) + (wI w8 (wR w8 x0 0) (wI w8 x0 2).toNatClampNeg)) - (48 : Int32))), (0, xR x0), (2, xI x2)]) dX7_readNumber_39 rfl (by decide) rfl ?_
        refine x_aload_n (j := 1) (i := 0) dX7_readNumber_40 rfl rfl ?_
        refine x_dup dX7_readNumber_41 rfl ?_
        refine x_getI (ci := 7) (k := 2) dX7_readNumber_42 lf_RX7_19 rfl g10 ?_
        refine x_iconst (v := 1) dX7_readNumber_45 (by decide) ?_
        refine x_iadd dX7_readNumber_46 ?_
        obtain ⟨w13, hw14, h⟩ := lt1_some h
        refine x_putI (ci := 7) (k := 2) dX7_readNumber_47 (lw_RX7_19_w _) rfl g10 ?_
        rw [← hw14]
        refine x_iinc (j := 2) (i := 2) (v := x2 + (1 : Int32)) (lv2 := [(2, xI (x2 + (1 : Int32))), (1, xI (((v7 * (10 : Int32)) + (wI w8 (wR w8 x0 0) (wI w8 x0 2).toNatClampNeg)) - (48 : Int32))), (0, xR x0)]) dX7_readNumber_50 rfl rfl (by decide) rfl ?_
        refine x_goto (tgt := 4) dX7_readNumber_53 (by decide) ?_
        refine x_lv (lv2 := [(0, xR x0), (1, xI (((v7 * (10 : Int32)) + (wI w8 (wR w8 x0 0) (wI w8 x0 2).toNatClampNeg)) - (48 : Int32))), (2, xI (x2 + (1 : Int32)))]) [2, 1, 0] rfl ?_
        exact ih x0 (((v7 * (10 : Int32)) + (wI w8 (wR w8 x0 0) (wI w8 x0 2).toNatClampNeg)) - (48 : Int32)) (x2 + (1 : Int32)) w13 h
set_option maxRecDepth 20000 in
theorem c_X7_readNumber (x0 : Nat) (w : xSt) (rE : Int32) (wE : xSt) (h : f_X7_readNumber x0 w = some (rE, wE)) : xCall yX7_readNumber cX7_readNumber 3 (some .int) 2 0 0 [xR x0] w (some (xI rE), wE) := by
  refine xCall_of false (by decide) (fun q => nomatch q) (Nat.le_of_ble_eq_true rfl) ?_
  show xX cX7_readNumber 3 (some .int) RX7 false (xRm 2 0 0) (xZf (some (xI rE), wE) 0 0) 0 [(0, xR x0)] [] w 0 0
  unfold f_X7_readNumber at h
  refine x_iconst (v := -1) dX7_readNumber_0 (by decide) ?_
  refine x_istore_n (i := 1) (lv2 := [(1, xI (-1 : Int32)), (0, xR x0)]) dX7_readNumber_1 rfl (by decide) rfl ?_
  refine x_iconst (v := 0) dX7_readNumber_2 (by decide) ?_
  refine x_istore_n (i := 2) (lv2 := [(2, xI (0 : Int32)), (1, xI (-1 : Int32)), (0, xR x0)]) dX7_readNumber_3 rfl (by decide) rfl ?_
  refine x_lv (lv2 := [(0, xR x0), (1, xI (-1 : Int32)), (2, xI (0 : Int32))]) [2, 1, 0] rfl ?_
  exact k_X7_readNumber_l4 rE wE xFu x0 (-1 : Int32) (0 : Int32) w h
set_option maxRecDepth 20000 in
theorem c_X8_add (x0 : Nat) (x1 : Int32) (x2 : Int32) (w : xSt) (rE : Unit) (wE : xSt) (h : f_X8_add x0 x1 x2 w = some (rE, wE)) : xCall yX8_add cX8_add 3 none 0 0 0 [xR x0, xI x1, xI x2] w (none, wE) := by
  refine xCall_of false (by decide) (fun q => nomatch q) (Nat.le_of_ble_eq_true rfl) ?_
  show xX cX8_add 3 none RX8 false (xRm 0 0 0) (xZf (none, wE) 0 0) 0 [(0, xR x0), (1, xI x1), (2, xI x2)] [] w 0 0
  unfold f_X8_add at h
  refine x_aload_n (j := 0) (i := 0) dX8_add_0 rfl rfl ?_
  obtain ⟨g1, h⟩ := gd_some h
  refine x_getI (ci := 8) (k := 2) dX8_add_1 lf_RX8_20 rfl g1 ?_
  refine x_iconst (v := 5) dX8_add_4 (by decide) ?_
  refine x_icmp_ge (tgt := 38) dX8_add_5 (by decide) (fun hc2 => ?_) (fun hc2 => ?_)
  · rw [if_pos hc2] at h
    obtain ⟨hr9, hw9⟩ := Prod.mk.inj (Option.some.inj h)
    subst hw9
    exact x_vret dX8_add_38 rfl rfl
  · rw [if_neg hc2] at h
    refine x_aload_n (j := 0) (i := 0) dX8_add_8 rfl rfl ?_
    refine x_getR (ci := 8) (k := 0) dX8_add_9 lf_RX8_9 rfl g1 ?_
    refine x_aload_n (j := 0) (i := 0) dX8_add_12 rfl rfl ?_
    refine x_getI (ci := 8) (k := 2) dX8_add_13 lf_RX8_20 rfl g1 ?_
    refine x_iload_n (j := 1) (i := 1) dX8_add_16 rfl rfl ?_
    obtain ⟨g3, h⟩ := gd_some h
    obtain ⟨g4, h⟩ := gd_some h
    obtain ⟨w5, hw6, h⟩ := lt1_some h
    refine x_iast dX8_add_17 g3 g4 ?_
    rw [← hw6]
    refine x_aload_n (j := 0) (i := 0) dX8_add_18 rfl rfl ?_
    have g7 : isC w5 x0 8 := by rw [hw6]; exact g1
    refine x_getR (ci := 8) (k := 1) dX8_add_19 lf_RX8_13 rfl g7 ?_
    refine x_aload_n (j := 0) (i := 0) dX8_add_22 rfl rfl ?_
    refine x_getI (ci := 8) (k := 2) dX8_add_23 lf_RX8_20 rfl g7 ?_
    refine x_iload_n (j := 2) (i := 2) dX8_add_26 rfl rfl ?_
    obtain ⟨g8, h⟩ := gd_some h
    obtain ⟨g9, h⟩ := gd_some h
    obtain ⟨w10, hw11, h⟩ := lt1_some h
    refine x_iast dX8_add_27 g8 g9 ?_
    rw [← hw11]
    refine x_aload_n (j := 0) (i := 0) dX8_add_28 rfl rfl ?_
    refine x_dup dX8_add_29 rfl ?_
    have g12 : isC w10 x0 8 := by rw [hw11]; exact g7
    refine x_getI (ci := 8) (k := 2) dX8_add_30 lf_RX8_20 rfl g12 ?_
    refine x_iconst (v := 1) dX8_add_33 (by decide) ?_
    refine x_iadd dX8_add_34 ?_
    obtain ⟨w13, hw14, h⟩ := lt1_some h
    refine x_putI (ci := 8) (k := 2) dX8_add_35 (lw_RX8_20_w _) rfl g12 ?_
    rw [← hw14]
    obtain ⟨hr9, hw9⟩ := Prod.mk.inj (Option.some.inj h)
    subst hw9
    exact x_vret dX8_add_38 rfl rfl
set_option maxRecDepth 20000 in
theorem k_X7_readMedals_l9 (rE : Int32) (wE : xSt) : ∀ (n : Nat) (x0 : Nat) (x1 : Nat) (x2 : Int32) (x3 : Int32) (w : xSt), f_X7_readMedals_l9 n x0 x1 x2 x3 w = some (rE, wE) → xX cX7_readMedals 6 (some .boolean) RX7 false (xRm 5 0 0) (xZf (some (xI rE), wE) 0 0) 9 [(0, xR x0), (1, xR x1), (2, xI x2), (3, xI x3)] [] w 0 0 := by
  intro n
  induction n with
  | zero => intro x0 x1 x2 x3 w h; exact nomatch (show (none : Option (Int32 × xSt)) = some (rE, wE) from h)
  | succ n ih =>
    intro x0 x1 x2 x3 w h
    rw [f_X7_readMedals_l9_s] at h
    refine x_iload_n (j := 3) (i := 3) dX7_readMedals_9 rfl rfl ?_
    refine x_iconst (v := 3) dX7_readMedals_10 (by decide) ?_
    refine x_icmp_ge (tgt := 106) dX7_readMedals_11 (by decide) (fun hc4 => ?_) (fun hc4 => ?_)
    · rw [if_pos hc4] at h
      refine x_iconst (v := 0) dX7_readMedals_106 (by decide) ?_
      obtain ⟨hr9, hw9⟩ := Prod.mk.inj (Option.some.inj h)
      subst hw9
      subst hr9
      exact x_zret dX7_readMedals_107 rfl (by decide) rfl
    · rw [if_neg hc4] at h
      refine x_aload_n (j := 0) (i := 0) dX7_readMedals_14 rfl rfl ?_
      refine x_iload_n (j := 2) (i := 2) dX7_readMedals_15 rfl rfl ?_
      obtain ⟨g8, h⟩ := gd_some h
      obtain ⟨v5, w6, hc7, h⟩ := bd_s h
      refine x_callVI (ci := 7) dX7_readMedals_16 ml_RX7_22 mb_X7_medalBegunHere (c_X7_medalBegunHere x0 x2 w v5 w6 hc7) ⟨_, rfl, rfl⟩ g8 [] rfl rfl (Nat.le_of_ble_eq_true rfl) (by decide) (by decide) ?_
      refine x_istore (i := 4) (lv2 := [(4, xI v5), (0, xR x0), (1, xR x1), (2, xI x2), (3, xI x3)]) dX7_readMedals_19 (by decide) rfl ?_
      refine x_iload (j := 0) (i := 4) dX7_readMedals_21 rfl ?_
      refine x_if_eq (tgt := 47) dX7_readMedals_23 (by decide) (fun hc9 => ?_) (fun hc9 => ?_)
      · rw [if_pos hc9] at h
        refine x_iconst (v := 0) dX7_readMedals_47 (by decide) ?_
        obtain ⟨hr9, hw9⟩ := Prod.mk.inj (Option.some.inj h)
        subst hw9
        subst hr9
        exact x_zret dX7_readMedals_48 rfl (by decide) rfl
      · rw [if_neg hc9] at h
        refine x_aload_n (j := 1) (i := 0) dX7_readMedals_26 rfl rfl ?_
        refine x_iload (j := 0) (i := 4) dX7_readMedals_27 rfl ?_
        obtain ⟨v10, w11, hc12, h⟩ := bd_s h
        refine x_callSR dX7_readMedals_29 ml_RX7_26 mb_X7_nameOf (c_X7_nameOf v5 w6 v10 w11 hc12) [xR x0] rfl rfl (Nat.le_of_ble_eq_true rfl) (by decide) (by decide) ?_
        obtain ⟨g16, h⟩ := gd_some h
        obtain ⟨v13, w14, hc15, h⟩ := bd_s h
        refine x_callVI (ci := 7) dX7_readMedals_32 ml_RX7_30 mb_X7_reads (c_X7_reads x0 v10 w11 v13 w14 hc15) ⟨_, rfl, rfl⟩ g16 [] rfl rfl (Nat.le_of_ble_eq_true rfl) (by decide) (by decide) ?_
        refine x_if_eq (tgt := 47) dX7_readMedals_35 (by decide) (fun hc17 => ?_) (fun hc17 => ?_)
        · rw [if_pos hc17] at h
          refine x_iconst (v := 0) dX7_readMedals_47 (by decide) ?_
          obtain ⟨hr9, hw9⟩ := Prod.mk.inj (Option.some.inj h)
          subst hw9
          subst hr9
          exact x_zret dX7_readMedals_48 rfl (by decide) rfl
        · rw [if_neg hc17] at h
          refine x_aload_n (j := 1) (i := 0) dX7_readMedals_38 rfl rfl ?_
          refine x_ldcS 3 (by decide) rfl rfl dX7_readMedals_39 ?_
          obtain ⟨g21, h⟩ := gd_some h
          obtain ⟨v18, w19, hc20, h⟩ := bd_s h
          refine x_callVI (ci := 7) dX7_readMedals_41 ml_RX7_30 mb_X7_reads (c_X7_reads x0 3 w14 v18 w19 hc20) ⟨_, rfl, rfl⟩ g21 [] rfl rfl (Nat.le_of_ble_eq_true rfl) (by decide) (by decide) ?_
          refine x_if_ne (tgt := 49) dX7_readMedals_44 (by decide) (fun hc22 => ?_) (fun hc22 => ?_)
          · rw [if_neg hc22] at h
            refine x_aload_n (j := 1) (i := 0) dX7_readMedals_49 rfl rfl ?_
            obtain ⟨g26, h⟩ := gd_some h
            obtain ⟨v23, w24, hc25, h⟩ := bd_s h
            refine x_callVI (ci := 7) dX7_readMedals_50 ml_RX7_36 mb_X7_readNumber (c_X7_readNumber x0 w19 v23 w24 hc25) ⟨_, rfl, rfl⟩ g26 [] rfl rfl (Nat.le_of_ble_eq_true rfl) (by decide) (by decide) ?_
            refine x_istore (i := 5) (lv2 := [(5, xI v23), (4, xI v5), (0, xR x0), (1, xR x1), (2, xI x2), (3, xI x3)]) dX7_readMedals_53 (by decide) rfl ?_
            refine x_iload (j := 0) (i := 5) dX7_readMedals_55 rfl ?_
            refine x_iconst (v := -1) dX7_readMedals_57 (by decide) ?_
            refine x_icmp_ne (tgt := 63) dX7_readMedals_58 (by decide) (fun hc27 => ?_) (fun hc27 => ?_)
            · rw [if_neg hc27] at h
              refine x_aload_n (j := 3) (i := 1) dX7_readMedals_63 rfl rfl ?_
              refine x_iload (j := 1) (i := 4) dX7_readMedals_64 rfl ?_
              refine x_iload (j := 0) (i := 5) dX7_readMedals_66 rfl ?_
              obtain ⟨g30, h⟩ := gd_some h
              obtain ⟨_u, w28, hc29, h⟩ := bd_s h
              refine x_callVV (ci := 8) dX7_readMedals_68 ml_RX7_40 mb_X8_add (c_X8_add x1 v5 v23 w24 _u w28 hc29) ⟨_, rfl, rfl⟩ g30 [] rfl rfl (Nat.le_of_ble_eq_true rfl) (by decide) (by decide) ?_
              refine x_aload_n (j := 2) (i := 0) dX7_readMedals_71 rfl rfl ?_
              obtain ⟨g34, h⟩ := gd_some h
              obtain ⟨v31, w32, hc33, h⟩ := bd_s h
              refine x_callVI (ci := 7) dX7_readMedals_72 ml_RX7_46 mb_X7_isAtEnd (c_X7_isAtEnd x0 w28 v31 w32 hc33) ⟨_, rfl, rfl⟩ g34 [] rfl rfl (Nat.le_of_ble_eq_true rfl) (by decide) (by decide) ?_
              refine x_if_eq (tgt := 80) dX7_readMedals_75 (by decide) (fun hc35 => ?_) (fun hc35 => ?_)
              · rw [if_pos hc35] at h
                refine x_iload (j := 1) (i := 4) dX7_readMedals_80 rfl ?_
                refine x_iconst (v := 1) dX7_readMedals_82 (by decide) ?_
                refine x_isub dX7_readMedals_83 ?_
                refine x_istore_n (i := 2) (lv2 := [(2, xI (v5 - (1 : Int32))), (5, xI v23), (4, xI v5), (0, xR x0), (1, xR x1), (3, xI x3)]) dX7_readMedals_84 rfl (by decide) rfl ?_
                refine x_iload_n (j := 0) (i := 2) dX7_readMedals_85 rfl rfl ?_
                refine x_if_eq (tgt := 98) dX7_readMedals_86 (by decide) (fun hc36 => ?_) (fun hc36 => ?_)
                · rw [if_pos hc36] at h
                  refine x_iconst (v := 0) dX7_readMedals_98 (by decide) ?_
                  obtain ⟨hr9, hw9⟩ := Prod.mk.inj (Option.some.inj h)
                  subst hw9
                  subst hr9
                  exact x_zret dX7_readMedals_99 rfl (by decide) rfl
                · rw [if_neg hc36] at h
                  refine x_aload_n (j := 3) (i := 0) dX7_readMedals_89 rfl rfl ?_
                  refine x_ldcS 4 (by decide) rfl rfl dX7_readMedals_90 ?_
                  obtain ⟨g40, h⟩ := gd_some h
                  obtain ⟨v37, w38, hc39, h⟩ := bd_s h
                  refine x_callVI (ci := 7) dX7_readMedals_92 ml_RX7_30 mb_X7_reads (c_X7_reads x0 4 w32 v37 w38 hc39) ⟨_, rfl, rfl⟩ g40 [] rfl rfl (Nat.le_of_ble_eq_true rfl) (by decide) (by decide) ?_
                  refine x_if_ne (tgt := 100) dX7_readMedals_95 (by decide) (fun hc41 => ?_) (fun hc41 => ?_)
                  · rw [if_neg hc41] at h
                    refine x_iinc (j := 5) (i := 3) (v := x3 + (1 : Int32)) (lv2 := [(3, xI (x3 + (1 : Int32))), (2, xI (v5 - (1 : Int32))), (5, xI v23), (4, xI v5), (0, xR x0), (1, xR x1)]) dX7_readMedals_100 rfl rfl (by decide) rfl ?_
                    refine x_goto (tgt := 9) dX7_readMedals_103 (by decide) ?_
                    refine x_lv (lv2 := [(0, xR x0), (1, xR x1), (2, xI (v5 - (1 : Int32))), (3, xI (x3 + (1 : Int32)))]) [4, 5, 1, 0] rfl ?_
                    exact ih x0 x1 (v5 - (1 : Int32)) (x3 + (1 : Int32)) w38 h
                  · rw [if_pos hc41] at h
                    refine x_iconst (v := 0) dX7_readMedals_98 (by decide) ?_
                    obtain ⟨hr9, hw9⟩ := Prod.mk.inj (Option.some.inj h)
                    subst hw9
                    subst hr9
                    exact x_zret dX7_readMedals_99 rfl (by decide) rfl
              · rw [if_neg hc35] at h
                refine x_iconst (v := 1) dX7_readMedals_78 (by decide) ?_
                obtain ⟨hr9, hw9⟩ := Prod.mk.inj (Option.some.inj h)
                subst hw9
                subst hr9
                exact x_zret dX7_readMedals_79 rfl (by decide) rfl
            · rw [if_pos hc27] at h
              refine x_iconst (v := 0) dX7_readMedals_61 (by decide) ?_
              obtain ⟨hr9, hw9⟩ := Prod.mk.inj (Option.some.inj h)
              subst hw9
              subst hr9
              exact x_zret dX7_readMedals_62 rfl (by decide) rfl
          · rw [if_pos hc22] at h
            refine x_iconst (v := 0) dX7_readMedals_47 (by decide) ?_
            obtain ⟨hr9, hw9⟩ := Prod.mk.inj (Option.some.inj h)
            subst hw9
            subst hr9
            exact x_zret dX7_readMedals_48 rfl (by decide) rfl
set_option maxRecDepth 20000 in
theorem c_X7_readMedals (x0 : Nat) (x1 : Nat) (w : xSt) (rE : Int32) (wE : xSt) (h : f_X7_readMedals x0 x1 w = some (rE, wE)) : xCall yX7_readMedals cX7_readMedals 6 (some .boolean) 5 0 0 [xR x0, xR x1] w (some (xI rE), wE) := by
  refine xCall_of false (by decide) (fun q => nomatch q) (Nat.le_of_ble_eq_true rfl) ?_
  show xX cX7_readMedals 6 (some .boolean) RX7 false (xRm 5 0 0) (xZf (some (xI rE), wE) 0 0) 0 [(0, xR x0), (1, xR x1)] [] w 0 0
  unfold f_X7_readMedals at h
  refine x_aload_n (j := 0) (i := 0) dX7_readMedals_0 rfl rfl ?_
  refine x_iconst (v := 0) dX7_readMedals_1 (by decide) ?_
  obtain ⟨g1, h⟩ := gd_some h
  obtain ⟨w2, hw3, h⟩ := lt1_some h
  refine x_putI (ci := 7) (k := 2) dX7_readMedals_2 (lw_RX7_19_w _) rfl g1 ?_
  rw [← hw3]
  refine x_iconst (v := 3) dX7_readMedals_5 (by decide) ?_
  refine x_istore_n (i := 2) (lv2 := [(2, xI (3 : Int32)), (0, xR x0), (1, xR x1)]) dX7_readMedals_6 rfl (by decide) rfl ?_
  refine x_iconst (v := 0) dX7_readMedals_7 (by decide) ?_
  refine x_istore_n (i := 3) (lv2 := [(3, xI (0 : Int32)), (2, xI (3 : Int32)), (0, xR x0), (1, xR x1)]) dX7_readMedals_8 rfl (by decide) rfl ?_
  refine x_lv (lv2 := [(0, xR x0), (1, xR x1), (2, xI (3 : Int32)), (3, xI (0 : Int32))]) [2, 3, 1, 0] rfl ?_
  exact k_X7_readMedals_l9 rE wE xFu x0 x1 (3 : Int32) (0 : Int32) w2 h
set_option maxRecDepth 20000 in
theorem c_X7_readWeekday (x0 : Nat) (w : xSt) (rE : Int32) (wE : xSt) (h : f_X7_readWeekday x0 w = some (rE, wE)) : xCall yX7_readWeekday cX7_readWeekday 1 (some .int) 2 0 0 [xR x0] w (some (xI rE), wE) := by
  refine xCall_of false (by decide) (fun q => nomatch q) (Nat.le_of_ble_eq_true rfl) ?_
  show xX cX7_readWeekday 1 (some .int) RX7 false (xRm 2 0 0) (xZf (some (xI rE), wE) 0 0) 0 [(0, xR x0)] [] w 0 0
  unfold f_X7_readWeekday at h
  refine x_aload_n (j := 0) (i := 0) dX7_readWeekday_0 rfl rfl ?_
  refine x_bipush (v := 54) dX7_readWeekday_1 (by decide) ?_
  obtain ⟨g4, h⟩ := gd_some h
  obtain ⟨v1, w2, hc3, h⟩ := bd_s h
  refine x_callVI (ci := 7) dX7_readWeekday_3 ml_RX7_74 mb_X7_isDigitHere (c_X7_isDigitHere x0 (54 : Int32) w v1 w2 hc3) ⟨_, rfl, rfl⟩ g4 [] rfl rfl (Nat.le_of_ble_eq_true rfl) (by decide) (by decide) ?_
  refine x_if_ne (tgt := 11) dX7_readWeekday_6 (by decide) (fun hc5 => ?_) (fun hc5 => ?_)
  · rw [if_neg hc5] at h
    refine x_aload_n (j := 0) (i := 0) dX7_readWeekday_11 rfl rfl ?_
    refine x_dup dX7_readWeekday_12 rfl ?_
    obtain ⟨g6, h⟩ := gd_some h
    refine x_getI (ci := 7) (k := 2) dX7_readWeekday_13 lf_RX7_19 rfl g6 ?_
    refine x_iconst (v := 1) dX7_readWeekday_16 (by decide) ?_
    refine x_iadd dX7_readWeekday_17 ?_
    obtain ⟨w7, hw8, h⟩ := lt1_some h
    refine x_putI (ci := 7) (k := 2) dX7_readWeekday_18 (lw_RX7_19_w _) rfl g6 ?_
    rw [← hw8]
    refine x_aload_n (j := 0) (i := 0) dX7_readWeekday_21 rfl rfl ?_
    have g9 : isC w7 x0 7 := by rw [hw8]; exact g6
    refine x_getR (ci := 7) (k := 0) dX7_readWeekday_22 lf_RX7_11 rfl g9 ?_
    refine x_aload_n (j := 0) (i := 0) dX7_readWeekday_25 rfl rfl ?_
    refine x_getI (ci := 7) (k := 2) dX7_readWeekday_26 lf_RX7_19 rfl g9 ?_
    refine x_iconst (v := 1) dX7_readWeekday_29 (by decide) ?_
    refine x_isub dX7_readWeekday_30 ?_
    obtain ⟨g10, h⟩ := gd_some h
    obtain ⟨g11, h⟩ := gd_some h
    refine x_bald dX7_readWeekday_31 g10 g11 ?_
    refine x_bipush (v := 48) dX7_readWeekday_32 (by decide) ?_
    refine x_isub dX7_readWeekday_34 ?_
    obtain ⟨hr9, hw9⟩ := Prod.mk.inj (Option.some.inj h)
    subst hw9
    subst hr9
    exact x_iret dX7_readWeekday_35 rfl rfl
  · rw [if_pos hc5] at h
    refine x_iconst (v := -1) dX7_readWeekday_9 (by decide) ?_
    obtain ⟨hr9, hw9⟩ := Prod.mk.inj (Option.some.inj h)
    subst hw9
    subst hr9
    exact x_iret dX7_readWeekday_10 rfl rfl
set_option maxRecDepth 20000 in
theorem k_X7_readDays_b57 (k23 : Nat → Nat → Int32 → Int32 → xSt → Option (Int32 × xSt)) (rE : Int32) (wE : xSt) (hk23 : ∀ (x0 : Nat) (x1 : Nat) (x2 : Int32) (x3 : Int32) (w : xSt), k23 x0 x1 x2 x3 w = some (rE, wE) → xX cX7_readDays 5 (some .boolean) RX7 false (xRm 5 0 0) (xZf (some (xI rE), wE) 0 0) 23 [(0, xR x0), (1, xR x1), (2, xI x2), (3, xI x3)] [] w 0 0) (x0 : Nat) (x1 : Nat) (x2 : Int32) (x3 : Int32) (s0 : Int32) (w : xSt) (h : f_X7_readDays_b57 k23 x0 x1 x2 x3 s0 w = some (rE, wE)) : xX cX7_readDays 5 (some .boolean) RX7 false (xRm 5 0 0) (xZf (some (xI rE), wE) 0 0) 57 [(0, xR x0), (1, xR x1), (2, xI x2), (3, xI x3)] [xI s0] w 0 0 := by
  unfold f_X7_readDays_b57 at h
  refine x_istore (i := 4) (lv2 := [(4, xI s0), (0, xR x0), (1, xR x1), (2, xI x2), (3, xI x3)]) dX7_readDays_57 (by decide) rfl ?_
  refine x_iload (j := 0) (i := 4) dX7_readDays_59 rfl ?_
  refine x_iconst (v := -1) dX7_readDays_61 (by decide) ?_
  refine x_icmp_eq (tgt := 74) dX7_readDays_62 (by decide) (fun hc29 => ?_) (fun hc29 => ?_)
  · rw [if_pos hc29] at h
    refine x_iconst (v := 0) dX7_readDays_74 (by decide) ?_
    obtain ⟨hr9, hw9⟩ := Prod.mk.inj (Option.some.inj h)
    subst hw9
    subst hr9
    exact x_zret dX7_readDays_75 rfl (by decide) rfl
  · rw [if_neg hc29] at h
    refine x_aload_n (j := 1) (i := 0) dX7_readDays_65 rfl rfl ?_
    refine x_ldcS 4 (by decide) rfl rfl dX7_readDays_66 ?_
    obtain ⟨g33, h⟩ := gd_some h
    obtain ⟨v30, w31, hc32, h⟩ := bd_s h
    refine x_callVI (ci := 7) dX7_readDays_68 ml_RX7_30 mb_X7_reads (c_X7_reads x0 4 w v30 w31 hc32) ⟨_, rfl, rfl⟩ g33 [] rfl rfl (Nat.le_of_ble_eq_true rfl) (by decide) (by decide) ?_
    refine x_if_ne (tgt := 76) dX7_readDays_71 (by decide) (fun hc34 => ?_) (fun hc34 => ?_)
    · rw [if_neg hc34] at h
      refine x_aload_n (j := 2) (i := 1) dX7_readDays_76 rfl rfl ?_
      refine x_iload (j := 0) (i := 4) dX7_readDays_77 rfl ?_
      refine x_iload_n (j := 3) (i := 2) dX7_readDays_79 rfl rfl ?_
      obtain ⟨g37, h⟩ := gd_some h
      obtain ⟨_u, w35, hc36, h⟩ := bd_s h
      refine x_callVV (ci := 8) dX7_readDays_80 ml_RX7_40 mb_X8_add (c_X8_add x1 s0 x2 w31 _u w35 hc36) ⟨_, rfl, rfl⟩ g37 [] rfl rfl (Nat.le_of_ble_eq_true rfl) (by decide) (by decide) ?_
      refine x_aload_n (j := 1) (i := 0) dX7_readDays_83 rfl rfl ?_
      obtain ⟨g41, h⟩ := gd_some h
      obtain ⟨v38, w39, hc40, h⟩ := bd_s h
      refine x_callVI (ci := 7) dX7_readDays_84 ml_RX7_36 mb_X7_readNumber (c_X7_readNumber x0 w35 v38 w39 hc40) ⟨_, rfl, rfl⟩ g41 [] rfl rfl (Nat.le_of_ble_eq_true rfl) (by decide) (by decide) ?_
      refine x_istore_n (i := 2) (lv2 := [(2, xI v38), (4, xI s0), (0, xR x0), (1, xR x1), (3, xI x3)]) dX7_readDays_87 rfl (by decide) rfl ?_
      refine x_iinc (j := 4) (i := 3) (v := x3 + (1 : Int32)) (lv2 := [(3, xI (x3 + (1 : Int32))), (2, xI v38), (4, xI s0), (0, xR x0), (1, xR x1)]) dX7_readDays_88 rfl rfl (by decide) rfl ?_
      refine x_goto (tgt := 23) dX7_readDays_91 (by decide) ?_
      refine x_lv (lv2 := [(0, xR x0), (1, xR x1), (2, xI v38), (3, xI (x3 + (1 : Int32)))]) [3, 4, 1, 0] rfl ?_
      exact hk23 x0 x1 v38 (x3 + (1 : Int32)) w39 h
    · rw [if_pos hc34] at h
      refine x_iconst (v := 0) dX7_readDays_74 (by decide) ?_
      obtain ⟨hr9, hw9⟩ := Prod.mk.inj (Option.some.inj h)
      subst hw9
      subst hr9
      exact x_zret dX7_readDays_75 rfl (by decide) rfl
set_option maxRecDepth 20000 in
theorem k_X7_readDays_b94 (rE : Int32) (wE : xSt) (x0 : Nat) (x1 : Nat) (x2 : Int32) (w : xSt) (h : f_X7_readDays_b94 x0 x1 x2 w = some (rE, wE)) : xX cX7_readDays 5 (some .boolean) RX7 false (xRm 5 0 0) (xZf (some (xI rE), wE) 0 0) 94 [(0, xR x0), (1, xR x1), (2, xI x2)] [] w 0 0 := by
  unfold f_X7_readDays_b94 at h
  refine x_aload_n (j := 1) (i := 1) dX7_readDays_94 rfl rfl ?_
  refine x_iconst (v := -1) dX7_readDays_95 (by decide) ?_
  refine x_iload_n (j := 2) (i := 2) dX7_readDays_96 rfl rfl ?_
  obtain ⟨g44, h⟩ := gd_some h
  obtain ⟨_u, w42, hc43, h⟩ := bd_s h
  refine x_callVV (ci := 8) dX7_readDays_97 ml_RX7_40 mb_X8_add (c_X8_add x1 (-1 : Int32) x2 w _u w42 hc43) ⟨_, rfl, rfl⟩ g44 [] rfl rfl (Nat.le_of_ble_eq_true rfl) (by decide) (by decide) ?_
  refine x_iload_n (j := 2) (i := 2) dX7_readDays_100 rfl rfl ?_
  refine x_iconst (v := -1) dX7_readDays_101 (by decide) ?_
  refine x_icmp_eq (tgt := 116) dX7_readDays_102 (by decide) (fun hc45 => ?_) (fun hc45 => ?_)
  · rw [if_pos hc45] at h
    refine x_iconst (v := 0) dX7_readDays_116 (by decide) ?_
    obtain ⟨hr9, hw9⟩ := Prod.mk.inj (Option.some.inj h)
    subst hw9
    subst hr9
    exact x_zret dX7_readDays_117 rfl (by decide) rfl
  · rw [if_neg hc45] at h
    refine x_aload_n (j := 0) (i := 0) dX7_readDays_105 rfl rfl ?_
    obtain ⟨g49, h⟩ := gd_some h
    obtain ⟨v46, w47, hc48, h⟩ := bd_s h
    refine x_callVI (ci := 7) dX7_readDays_106 ml_RX7_46 mb_X7_isAtEnd (c_X7_isAtEnd x0 w42 v46 w47 hc48) ⟨_, rfl, rfl⟩ g49 [] rfl rfl (Nat.le_of_ble_eq_true rfl) (by decide) (by decide) ?_
    refine x_if_eq (tgt := 116) dX7_readDays_109 (by decide) (fun hc50 => ?_) (fun hc50 => ?_)
    · rw [if_pos hc50] at h
      refine x_iconst (v := 0) dX7_readDays_116 (by decide) ?_
      obtain ⟨hr9, hw9⟩ := Prod.mk.inj (Option.some.inj h)
      subst hw9
      subst hr9
      exact x_zret dX7_readDays_117 rfl (by decide) rfl
    · rw [if_neg hc50] at h
      refine x_iconst (v := 1) dX7_readDays_112 (by decide) ?_
      refine x_goto (tgt := 117) dX7_readDays_113 (by decide) ?_
      obtain ⟨hr9, hw9⟩ := Prod.mk.inj (Option.some.inj h)
      subst hw9
      subst hr9
      exact x_zret dX7_readDays_117 rfl (by decide) rfl
set_option maxRecDepth 20000 in
theorem k_X7_readDays_l23 (rE : Int32) (wE : xSt) : ∀ (n : Nat) (x0 : Nat) (x1 : Nat) (x2 : Int32) (x3 : Int32) (w : xSt), f_X7_readDays_l23 n x0 x1 x2 x3 w = some (rE, wE) → xX cX7_readDays 5 (some .boolean) RX7 false (xRm 5 0 0) (xZf (some (xI rE), wE) 0 0) 23 [(0, xR x0), (1, xR x1), (2, xI x2), (3, xI x3)] [] w 0 0 := by
  intro n
  induction n with
  | zero => intro x0 x1 x2 x3 w h; exact nomatch (show (none : Option (Int32 × xSt)) = some (rE, wE) from h)
  | succ n ih =>
    intro x0 x1 x2 x3 w h
    rw [f_X7_readDays_l23_s] at h
    refine x_iload_n (j := 3) (i := 3) dX7_readDays_23 rfl rfl ?_
    refine x_iconst (v := 4) dX7_readDays_24 (by decide) ?_
    refine x_icmp_ge (tgt := 94) dX7_readDays_25 (by decide) (fun hc13 => ?_) (fun hc13 => ?_)
    · rw [if_pos hc13] at h
      refine x_lv (lv2 := [(0, xR x0), (1, xR x1), (2, xI x2)]) [0, 1, 2] rfl ?_
      exact k_X7_readDays_b94 rE wE x0 x1 x2 w h
    · rw [if_neg hc13] at h
      refine x_iload_n (j := 2) (i := 2) dX7_readDays_28 rfl rfl ?_
      refine x_iconst (v := -1) dX7_readDays_29 (by decide) ?_
      refine x_icmp_eq (tgt := 94) dX7_readDays_30 (by decide) (fun hc14 => ?_) (fun hc14 => ?_)
      · rw [if_pos hc14] at h
        refine x_lv (lv2 := [(0, xR x0), (1, xR x1), (2, xI x2)]) [0, 1, 2] rfl ?_
        exact k_X7_readDays_b94 rE wE x0 x1 x2 w h
      · rw [if_neg hc14] at h
        refine x_aload_n (j := 0) (i := 0) dX7_readDays_33 rfl rfl ?_
        obtain ⟨g18, h⟩ := gd_some h
        obtain ⟨v15, w16, hc17, h⟩ := bd_s h
        refine x_callVI (ci := 7) dX7_readDays_34 ml_RX7_46 mb_X7_isAtEnd (c_X7_isAtEnd x0 w v15 w16 hc17) ⟨_, rfl, rfl⟩ g18 [] rfl rfl (Nat.le_of_ble_eq_true rfl) (by decide) (by decide) ?_
        refine x_if_ne (tgt := 94) dX7_readDays_37 (by decide) (fun hc19 => ?_) (fun hc19 => ?_)
        · rw [if_neg hc19] at h
          refine x_lv (lv2 := [(0, xR x0), (1, xR x1), (2, xI x2)]) [0, 1, 2] rfl ?_
          exact k_X7_readDays_b94 rE wE x0 x1 x2 w16 h
        · rw [if_pos hc19] at h
          refine x_aload_n (j := 0) (i := 0) dX7_readDays_40 rfl rfl ?_
          refine x_ldcS 6 (by decide) rfl rfl dX7_readDays_41 ?_
          obtain ⟨g23, h⟩ := gd_some h
          obtain ⟨v20, w21, hc22, h⟩ := bd_s h
          refine x_callVI (ci := 7) dX7_readDays_43 ml_RX7_30 mb_X7_reads (c_X7_reads x0 6 w16 v20 w21 hc22) ⟨_, rfl, rfl⟩ g23 [] rfl rfl (Nat.le_of_ble_eq_true rfl) (by decide) (by decide) ?_
          refine x_if_eq (tgt := 56) dX7_readDays_46 (by decide) (fun hc24 => ?_) (fun hc24 => ?_)
          · rw [if_pos hc24] at h
            refine x_iconst (v := -1) dX7_readDays_56 (by decide) ?_
            refine x_lv (lv2 := [(0, xR x0), (1, xR x1), (2, xI x2), (3, xI x3)]) [0, 1, 2, 3] rfl ?_
            exact k_X7_readDays_b57 (f_X7_readDays_l23 n) rE wE ih x0 x1 x2 x3 (-1 : Int32) w21 h
          · rw [if_neg hc24] at h
            refine x_aload_n (j := 0) (i := 0) dX7_readDays_49 rfl rfl ?_
            obtain ⟨g28, h⟩ := gd_some h
            obtain ⟨v25, w26, hc27, h⟩ := bd_s h
            refine x_callVI (ci := 7) dX7_readDays_50 ml_RX7_56 mb_X7_readWeekday (c_X7_readWeekday x0 w21 v25 w26 hc27) ⟨_, rfl, rfl⟩ g28 [] rfl rfl (Nat.le_of_ble_eq_true rfl) (by decide) (by decide) ?_
            refine x_goto (tgt := 57) dX7_readDays_53 (by decide) ?_
            refine x_lv (lv2 := [(0, xR x0), (1, xR x1), (2, xI x2), (3, xI x3)]) [0, 1, 2, 3] rfl ?_
            exact k_X7_readDays_b57 (f_X7_readDays_l23 n) rE wE ih x0 x1 x2 x3 v25 w26 h
set_option maxRecDepth 20000 in
theorem c_X7_readDays (x0 : Nat) (x1 : Nat) (w : xSt) (rE : Int32) (wE : xSt) (h : f_X7_readDays x0 x1 w = some (rE, wE)) : xCall yX7_readDays cX7_readDays 5 (some .boolean) 5 0 0 [xR x0, xR x1] w (some (xI rE), wE) := by
  refine xCall_of false (by decide) (fun q => nomatch q) (Nat.le_of_ble_eq_true rfl) ?_
  show xX cX7_readDays 5 (some .boolean) RX7 false (xRm 5 0 0) (xZf (some (xI rE), wE) 0 0) 0 [(0, xR x0), (1, xR x1)] [] w 0 0
  unfold f_X7_readDays at h
  refine x_aload_n (j := 0) (i := 0) dX7_readDays_0 rfl rfl ?_
  refine x_iconst (v := 0) dX7_readDays_1 (by decide) ?_
  obtain ⟨g1, h⟩ := gd_some h
  obtain ⟨w2, hw3, h⟩ := lt1_some h
  refine x_putI (ci := 7) (k := 2) dX7_readDays_2 (lw_RX7_19_w _) rfl g1 ?_
  rw [← hw3]
  refine x_aload_n (j := 0) (i := 0) dX7_readDays_5 rfl rfl ?_
  refine x_ldcS 5 (by decide) rfl rfl dX7_readDays_6 ?_
  have g7 : isC w2 x0 7 := by rw [hw3]; exact g1
  obtain ⟨v4, w5, hc6, h⟩ := bd_s h
  refine x_callVI (ci := 7) dX7_readDays_8 ml_RX7_30 mb_X7_reads (c_X7_reads x0 5 w2 v4 w5 hc6) ⟨_, rfl, rfl⟩ g7 [] rfl rfl (Nat.le_of_ble_eq_true rfl) (by decide) (by decide) ?_
  refine x_if_ne (tgt := 16) dX7_readDays_11 (by decide) (fun hc8 => ?_) (fun hc8 => ?_)
  · rw [if_neg hc8] at h
    refine x_aload_n (j := 0) (i := 0) dX7_readDays_16 rfl rfl ?_
    obtain ⟨g12, h⟩ := gd_some h
    obtain ⟨v9, w10, hc11, h⟩ := bd_s h
    refine x_callVI (ci := 7) dX7_readDays_17 ml_RX7_36 mb_X7_readNumber (c_X7_readNumber x0 w5 v9 w10 hc11) ⟨_, rfl, rfl⟩ g12 [] rfl rfl (Nat.le_of_ble_eq_true rfl) (by decide) (by decide) ?_
    refine x_istore_n (i := 2) (lv2 := [(2, xI v9), (0, xR x0), (1, xR x1)]) dX7_readDays_20 rfl (by decide) rfl ?_
    refine x_iconst (v := 0) dX7_readDays_21 (by decide) ?_
    refine x_istore_n (i := 3) (lv2 := [(3, xI (0 : Int32)), (2, xI v9), (0, xR x0), (1, xR x1)]) dX7_readDays_22 rfl (by decide) rfl ?_
    refine x_lv (lv2 := [(0, xR x0), (1, xR x1), (2, xI v9), (3, xI (0 : Int32))]) [2, 3, 1, 0] rfl ?_
    exact k_X7_readDays_l23 rE wE xFu x0 x1 v9 (0 : Int32) w10 h
  · rw [if_pos hc8] at h
    refine x_iconst (v := 0) dX7_readDays_14 (by decide) ?_
    obtain ⟨hr9, hw9⟩ := Prod.mk.inj (Option.some.inj h)
    subst hw9
    subst hr9
    exact x_zret dX7_readDays_15 rfl (by decide) rfl
set_option maxRecDepth 20000 in
theorem c_X8_init (x0 : Nat) (w : xSt) (rE : Unit) (wE : xSt) (h : f_X8_init x0 w = some (rE, wE)) : xCall yX8_init cX8_init 1 none 1 2 10 [xR x0] w (none, wE) := by
  refine xCall_of true (by decide) (fun _ => rfl) (Nat.le_of_ble_eq_true rfl) ?_
  show xX cX8_init 1 none RX8 true (xRm 1 2 10) (xZf (none, wE) 2 10) 0 [(0, xR x0)] [] w 2 10
  unfold f_X8_init at h
  refine x_aload_n (j := 0) (i := 0) dX8_init_0 rfl rfl ?_
  obtain ⟨g1, h⟩ := gd_some h
  refine x_objInit dX8_init_1 lo_RX8_1 lo_inst lo_code g1 (Nat.le_of_ble_eq_true rfl) (by decide) (by decide) ?_
  refine x_aload_n (j := 0) (i := 0) dX8_init_4 rfl rfl ?_
  refine x_iconst (v := 5) dX8_init_5 (by decide) ?_
  obtain ⟨g2, h⟩ := gd_some h
  obtain ⟨q3, hq4, h⟩ := lt1_some h
  obtain ⟨w5, hw6, h⟩ := lt1_some h
  refine x_newa_int 5 dX8_init_6 la_int (by decide) (by decide) g2 (by decide) (by decide) ?_
  rw [← hq4, ← hw6]
  have g7 : isC w5 q3 20 := by rw [hw6, hq4]; exact isC_new _ _ _
  have g8 : isC w5 x0 8 := by rw [hw6]; exact isC_nA _ _ g1
  obtain ⟨w9, hw10, h⟩ := lt1_some h
  refine x_putR (ci := 8) (k := 0) dX8_init_8 lw_RX8_9_w rfl g8 ?_
  rw [← hw10]
  refine x_aload_n (j := 0) (i := 0) dX8_init_11 rfl rfl ?_
  refine x_iconst (v := 5) dX8_init_12 (by decide) ?_
  obtain ⟨g11, h⟩ := gd_some h
  obtain ⟨q12, hq13, h⟩ := lt1_some h
  obtain ⟨w14, hw15, h⟩ := lt1_some h
  refine x_newa_int 5 dX8_init_13 la_int (by decide) (by decide) g11 (by decide) (by decide) ?_
  rw [← hq13, ← hw15]
  have g16 : isC w14 q12 20 := by rw [hw15, hq13]; exact isC_new _ _ _
  have g17 : isC w9 x0 8 := by rw [hw10]; exact g8
  have g18 : isC w14 x0 8 := by rw [hw15]; exact isC_nA _ _ g17
  obtain ⟨w19, hw20, h⟩ := lt1_some h
  refine x_putR (ci := 8) (k := 1) dX8_init_15 lw_RX8_13_w rfl g18 ?_
  rw [← hw20]
  obtain ⟨hr9, hw9⟩ := Prod.mk.inj (Option.some.inj h)
  subst hw9
  exact x_vret dX8_init_18 rfl rfl
