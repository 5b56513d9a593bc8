set_option maxRecDepth 20000 in
theorem c_X7_init (x0 : Nat) (w : xSt) (rE : Unit) (wE : xSt) (h : f_X7_init x0 w = some (rE, wE)) : xCall yX7_init cX7_init 1 none 1 1 120 [xR x0] w (none, wE) := by
  refine xCall_of true (by decide) (fun _ => rfl) (by decide) ?_
  show xX cX7_init 1 none RX7 true (xRm 1 1 120) (xZf (none, wE) 1 120) 0 [(0, xR x0)] [] w 1 120
  unfold f_X7_init at h
  refine x_aload_n (j := 0) (i := 0) dX7_init_0 rfl rfl ?_
  obtain ⟨g1, h⟩ := gd_some h
  refine x_objInit dX7_init_1 lo_RX7_3 lo_inst lo_code g1 (by decide) (by decide) (by decide) ?_
  refine x_aload_n (j := 0) (i := 0) dX7_init_4 rfl rfl ?_
  refine x_bipush (v := 120) dX7_init_5 (by decide) ?_
  obtain ⟨g2, h⟩ := gd_some h
  obtain ⟨q3, hq4, h⟩ := lt1_some h
  obtain ⟨w5, hw6, h⟩ := lt1_some h
  refine x_newa_byte 120 dX7_init_7 la_byte (by decide) (by decide) g2 (by decide) (by decide) ?_
  rw [← hq4, ← hw6]
  have g7 : isC w5 q3 22 := by rw [hw6, hq4]; exact isC_new _ _ _
  have g8 : isC w5 x0 7 := by rw [hw6]; exact isC_nA _ _ g1
  obtain ⟨w9, hw10, h⟩ := lt1_some h
  refine x_putR (ci := 7) (k := 0) dX7_init_9 lw_RX7_11_w rfl g8 ?_
  rw [← hw10]
  cases h
  exact x_vret dX7_init_12 rfl rfl
set_option maxRecDepth 20000 in
theorem c_X7_hasRoom (x0 : Nat) (x1 : Int32) (w : xSt) (rE : Int32) (wE : xSt) (h : f_X7_hasRoom x0 x1 w = some (rE, wE)) : xCall yX7_hasRoom cX7_hasRoom 2 (some .boolean) 0 0 0 [xR x0, xI x1] w (some (xI rE), wE) := by
  refine xCall_of false (by decide) (fun q => nomatch q) (by decide) ?_
  show xX cX7_hasRoom 2 (some .boolean) RX7 false (xRm 0 0 0) (xZf (some (xI rE), wE) 0 0) 0 [(0, xR x0), (1, xI x1)] [] w 0 0
  unfold f_X7_hasRoom at h
  refine x_aload_n (j := 0) (i := 0) dX7_hasRoom_0 rfl rfl ?_
  obtain ⟨g1, h⟩ := gd_some h
  refine x_getI (ci := 7) (k := 1) dX7_hasRoom_1 lf_RX7_15 rfl g1 ?_
  refine x_iload_n (j := 1) (i := 1) dX7_hasRoom_4 rfl rfl ?_
  refine x_iadd dX7_hasRoom_5 ?_
  refine x_bipush (v := 120) dX7_hasRoom_6 (by decide) ?_
  refine x_icmp_gt (tgt := 15) dX7_hasRoom_8 (by decide) (fun hc2 => ?_) (fun hc2 => ?_)
  · rw [if_pos hc2] at h
    refine x_iconst (v := 0) dX7_hasRoom_15 (by decide) ?_
    cases h
    exact x_zret dX7_hasRoom_16 rfl (by decide) rfl
  · rw [if_neg hc2] at h
    refine x_iconst (v := 1) dX7_hasRoom_11 (by decide) ?_
    refine x_goto (tgt := 16) dX7_hasRoom_12 (by decide) ?_
    cases h
    exact x_zret dX7_hasRoom_16 rfl (by decide) rfl
set_option maxRecDepth 20000 in
theorem k_X7_add_l5 (rE : Unit) (wE : xSt) : ∀ (n : Nat) (x0 : Nat) (x1 : Int64) (x4 : Int32) (w : xSt), f_X7_add_l5 n x0 x1 x4 w = some (rE, wE) → xX cX7_add 5 none RX7 false (xRm 0 0 0) (xZf (none, wE) 0 0) 5 [(0, xR x0), (1, xL x1), (4, xI x4)] [] w 0 0 := by
  intro n
  induction n with
  | zero => intro x0 x1 x4 w h; exact nomatch (show (none : Option (Unit × xSt)) = some (rE, wE) from h)
  | succ n ih =>
    intro x0 x1 x4 w h
    rw [f_X7_add_l5_s] at h
    refine x_iload (j := 2) (i := 4) dX7_add_5 rfl ?_
    refine x_if_lt (tgt := 44) dX7_add_7 (by decide) (fun hc1 => ?_) (fun hc1 => ?_)
    · rw [if_pos hc1] at h
      cases h
      exact x_vret dX7_add_44 rfl rfl
    · rw [if_neg hc1] at h
      refine x_aload_n (j := 0) (i := 0) dX7_add_10 rfl rfl ?_
      obtain ⟨g2, h⟩ := gd_some h
      refine x_getR (ci := 7) (k := 0) dX7_add_11 lf_RX7_11 rfl g2 ?_
      refine x_aload_n (j := 0) (i := 0) dX7_add_14 rfl rfl ?_
      refine x_getI (ci := 7) (k := 1) dX7_add_15 lf_RX7_15 rfl g2 ?_
      refine x_lload_n (j := 1) (i := 1) dX7_add_18 rfl rfl ?_
      refine x_bipush (v := 8) dX7_add_19 (by decide) ?_
      refine x_iload (j := 2) (i := 4) dX7_add_21 rfl ?_
      refine x_imul dX7_add_23 ?_
      refine x_lushr dX7_add_24 ?_
      refine x_l2i dX7_add_25 ?_
      refine x_i2b dX7_add_26 ?_
      obtain ⟨g3, h⟩ := gd_some h
      obtain ⟨g4, h⟩ := gd_some h
      obtain ⟨w5, hw6, h⟩ := lt1_some h
      refine x_bast dX7_add_27 g3 g4 ?_
      rw [← hw6]
      refine x_aload_n (j := 0) (i := 0) dX7_add_28 rfl rfl ?_
      refine x_dup dX7_add_29 rfl ?_
      have g7 : isC w5 x0 7 := by rw [hw6]; exact g2
      refine x_getI (ci := 7) (k := 1) dX7_add_30 lf_RX7_15 rfl g7 ?_
      refine x_iconst (v := 1) dX7_add_33 (by decide) ?_
      refine x_iadd dX7_add_34 ?_
      obtain ⟨w8, hw9, h⟩ := lt1_some h
      refine x_putI (ci := 7) (k := 1) dX7_add_35 (lw_RX7_15_w _) rfl g7 ?_
      rw [← hw9]
      refine x_iinc (j := 2) (i := 4) (v := x4 + (-1 : Int32)) (lv2 := [(4, xI (x4 + (-1 : Int32))), (0, xR x0), (1, xL x1)]) dX7_add_38 rfl rfl (by decide) rfl ?_
      refine x_goto (tgt := 5) dX7_add_41 (by decide) ?_
      refine x_lv (lv2 := [(0, xR x0), (1, xL x1), (4, xI (x4 + (-1 : Int32)))]) [1, 2, 0] rfl ?_
      exact ih x0 x1 (x4 + (-1 : Int32)) w8 h
set_option maxRecDepth 20000 in
theorem c_X7_add (x0 : Nat) (x1 : Int64) (x3 : Int32) (w : xSt) (rE : Unit) (wE : xSt) (h : f_X7_add x0 x1 x3 w = some (rE, wE)) : xCall yX7_add cX7_add 5 none 0 0 0 [xR x0, xL x1, xI x3] w (none, wE) := by
  refine xCall_of false (by decide) (fun q => nomatch q) (by decide) ?_
  show xX cX7_add 5 none RX7 false (xRm 0 0 0) (xZf (none, wE) 0 0) 0 [(0, xR x0), (1, xL x1), (3, xI x3)] [] w 0 0
  unfold f_X7_add at h
  refine x_iload_n (j := 2) (i := 3) dX7_add_0 rfl rfl ?_
  refine x_iconst (v := 1) dX7_add_1 (by decide) ?_
  refine x_isub dX7_add_2 ?_
  refine x_istore (i := 4) (lv2 := [(4, xI (x3 - (1 : Int32))), (0, xR x0), (1, xL x1), (3, xI x3)]) dX7_add_3 (by decide) rfl ?_
  refine x_lv (lv2 := [(0, xR x0), (1, xL x1), (4, xI (x3 - (1 : Int32)))]) [1, 2, 0] rfl ?_
  exact k_X7_add_l5 rE wE xFu x0 x1 (x3 - (1 : Int32)) w h
set_option maxRecDepth 20000 in
theorem c_X7_empty (x0 : Nat) (w : xSt) (rE : Unit) (wE : xSt) (h : f_X7_empty x0 w = some (rE, wE)) : xCall yX7_empty cX7_empty 1 none 0 0 0 [xR x0] w (none, wE) := by
  refine xCall_of false (by decide) (fun q => nomatch q) (by decide) ?_
  show xX cX7_empty 1 none RX7 false (xRm 0 0 0) (xZf (none, wE) 0 0) 0 [(0, xR x0)] [] w 0 0
  unfold f_X7_empty at h
  refine x_aload_n (j := 0) (i := 0) dX7_empty_0 rfl rfl ?_
  refine x_iconst (v := 0) dX7_empty_1 (by decide) ?_
  obtain ⟨g1, h⟩ := gd_some h
  obtain ⟨w2, hw3, h⟩ := lt1_some h
  refine x_putI (ci := 7) (k := 1) dX7_empty_2 (lw_RX7_15_w _) rfl g1 ?_
  rw [← hw3]
  refine x_aload_n (j := 0) (i := 0) dX7_empty_5 rfl rfl ?_
  refine x_iconst (v := 0) dX7_empty_6 (by decide) ?_
  have g4 : isC w2 x0 7 := by rw [hw3]; exact g1
  obtain ⟨w5, hw6, h⟩ := lt1_some h
  refine x_putI (ci := 7) (k := 2) dX7_empty_7 (lw_RX7_19_w _) rfl g4 ?_
  rw [← hw6]
  cases h
  exact x_vret dX7_empty_10 rfl rfl
set_option maxRecDepth 20000 in
theorem c_X7_isAtEnd (x0 : Nat) (w : xSt) (rE : Int32) (wE : xSt) (h : f_X7_isAtEnd x0 w = some (rE, wE)) : xCall yX7_isAtEnd cX7_isAtEnd 1 (some .boolean) 0 0 0 [xR x0] w (some (xI rE), wE) := by
  refine xCall_of false (by decide) (fun q => nomatch q) (by decide) ?_
  show xX cX7_isAtEnd 1 (some .boolean) RX7 false (xRm 0 0 0) (xZf (some (xI rE), wE) 0 0) 0 [(0, xR x0)] [] w 0 0
  unfold f_X7_isAtEnd at h
  refine x_aload_n (j := 0) (i := 0) dX7_isAtEnd_0 rfl rfl ?_
  obtain ⟨g1, h⟩ := gd_some h
  refine x_getI (ci := 7) (k := 2) dX7_isAtEnd_1 lf_RX7_19 rfl g1 ?_
  refine x_aload_n (j := 0) (i := 0) dX7_isAtEnd_4 rfl rfl ?_
  refine x_getI (ci := 7) (k := 1) dX7_isAtEnd_5 lf_RX7_15 rfl g1 ?_
  refine x_icmp_lt (tgt := 15) dX7_isAtEnd_8 (by decide) (fun hc2 => ?_) (fun hc2 => ?_)
  · rw [if_pos hc2] at h
    refine x_iconst (v := 0) dX7_isAtEnd_15 (by decide) ?_
    cases h
    exact x_zret dX7_isAtEnd_16 rfl (by decide) rfl
  · rw [if_neg hc2] at h
    refine x_iconst (v := 1) dX7_isAtEnd_11 (by decide) ?_
    refine x_goto (tgt := 16) dX7_isAtEnd_12 (by decide) ?_
    cases h
    exact x_zret dX7_isAtEnd_16 rfl (by decide) rfl
set_option maxRecDepth 20000 in
theorem c_X7_nameOf (x0 : Int32) (w : xSt) (rE : Nat) (wE : xSt) (h : f_X7_nameOf x0 w = some (rE, wE)) : xCall yX7_nameOf cX7_nameOf 1 (some (.object "java/lang/String")) 0 0 0 [xI x0] w (some (xR (1000 + rE)), wE) := by
  refine xCall_of false (by decide) (fun q => nomatch q) (by decide) ?_
  show xX cX7_nameOf 1 (some (.object "java/lang/String")) RX7 false (xRm 0 0 0) (xZf (some (xR (1000 + rE)), wE) 0 0) 0 [(0, xI x0)] [] w 0 0
  unfold f_X7_nameOf at h
  refine x_iload_n (j := 0) (i := 0) dX7_nameOf_0 rfl rfl ?_
  by_cases hc1 : x0 = (2 : Int32)
  · rw [if_pos hc1] at h
    refine x_lsw (off := 30) (tgt := 31) dX7_nameOf_1 (by decide) (by rw [hc1]; decide) (by decide) ?_
    refine x_ldcS 1 (by decide) rfl rfl dX7_nameOf_31 ?_
    cases h
    exact x_aret dX7_nameOf_33 rfl (Or.inl ⟨_, rfl⟩) rfl
  rw [if_neg hc1] at h
  by_cases hc2 : x0 = (3 : Int32)
  · rw [if_pos hc2] at h
    refine x_lsw (off := 27) (tgt := 28) dX7_nameOf_1 (by decide) (by rw [hc2]; decide) (by decide) ?_
    refine x_ldcS 0 (by decide) rfl rfl dX7_nameOf_28 ?_
    cases h
    exact x_aret dX7_nameOf_30 rfl (Or.inl ⟨_, rfl⟩) rfl
  rw [if_neg hc2] at h
  refine x_lsw (off := 33) (tgt := 34) dX7_nameOf_1 (by decide) (by rw [lv_osw hc1 (by decide)]; rw [lv_osw hc2 (by decide)]; rfl) (by decide) ?_
  refine x_ldcS 2 (by decide) rfl rfl dX7_nameOf_34 ?_
  cases h
  exact x_aret dX7_nameOf_36 rfl (Or.inl ⟨_, rfl⟩) rfl
set_option maxRecDepth 20000 in
theorem c_J0_isLatin1_aae02 (x0 : Nat) (w : xSt) (rE : Int32) (wE : xSt) (h : f_J0_isLatin1_aae02 x0 w = some (rE, wE)) : xCall yJ0_isLatin1_aae02 cJ0_isLatin1_aae02 1 (some .boolean) 0 0 0 [xR (1000 + x0)] w (some (xI rE), wE) := by
  refine xCall_of false (by decide) (fun q => nomatch q) (by decide) ?_
  show xX cJ0_isLatin1_aae02 1 (some .boolean) RJ0 false (xRm 0 0 0) (xZf (some (xI rE), wE) 0 0) 0 [(0, xR (1000 + x0))] [] w 0 0
  unfold f_J0_isLatin1_aae02 at h
  refine x_getsC lf_RJ0_38 dJ0_isLatin1_aae02_0 ?_
  refine x_if_eq (tgt := 17) dJ0_isLatin1_aae02_3 (by decide) (fun hc1 => ?_) (fun hc1 => ?_)
  · rw [if_pos hc1] at h
    refine x_iconst (v := 0) dJ0_isLatin1_aae02_17 (by decide) ?_
    cases h
    exact x_zret dJ0_isLatin1_aae02_18 rfl (by decide) rfl
  · rw [if_neg hc1] at h
    refine x_aload_n (j := 0) (i := 0) dJ0_isLatin1_aae02_6 rfl rfl ?_
    obtain ⟨g2, h⟩ := gd_some h
    refine x_sgetC g2 lf_RJ0_15 dJ0_isLatin1_aae02_7 ?_
    refine x_if_ne (tgt := 17) dJ0_isLatin1_aae02_10 (by decide) (fun hc3 => ?_) (fun hc3 => ?_)
    · rw [if_neg hc3] at h
      refine x_iconst (v := 0) dJ0_isLatin1_aae02_17 (by decide) ?_
      cases h
      exact x_zret dJ0_isLatin1_aae02_18 rfl (by decide) rfl
    · rw [if_pos hc3] at h
      refine x_iconst (v := 1) dJ0_isLatin1_aae02_13 (by decide) ?_
      refine x_goto (tgt := 18) dJ0_isLatin1_aae02_14 (by decide) ?_
      cases h
      exact x_zret dJ0_isLatin1_aae02_18 rfl (by decide) rfl
set_option maxRecDepth 20000 in
theorem c_J3_checkIndex_8e157 (x0 : Int32) (x1 : Int32) (w : xSt) (rE : Int32) (wE : xSt) (h : f_J3_checkIndex_8e157 x0 x1 w = some (rE, wE)) : xCall yJ3_checkIndex_8e157 cJ3_checkIndex_8e157 3 (some .int) 0 0 0 [xI x0, xI x1, xR 1021] w (some (xI rE), wE) := by
  refine xCall_of false (by decide) (fun q => nomatch q) (by decide) ?_
  show xX cJ3_checkIndex_8e157 3 (some .int) RJ3 false (xRm 0 0 0) (xZf (some (xI rE), wE) 0 0) 0 [(0, xI x0), (1, xI x1), (2, xR 1021)] [] w 0 0
  unfold f_J3_checkIndex_8e157 at h
  refine x_iload_n (j := 0) (i := 0) dJ3_checkIndex_8e157_0 rfl rfl ?_
  refine x_if_lt (tgt := 9) dJ3_checkIndex_8e157_1 (by decide) (fun hc1 => ?_) (fun hc1 => ?_)
  · rw [if_pos hc1] at h
    refine x_aload_n (j := 2) (i := 2) dJ3_checkIndex_8e157_9 rfl rfl ?_
    refine x_iload_n (j := 0) (i := 0) dJ3_checkIndex_8e157_10 rfl rfl ?_
    refine x_iload_n (j := 1) (i := 1) dJ3_checkIndex_8e157_11 rfl rfl ?_
    exact nomatch h
  · rw [if_neg hc1] at h
    refine x_iload_n (j := 0) (i := 0) dJ3_checkIndex_8e157_4 rfl rfl ?_
    refine x_iload_n (j := 1) (i := 1) dJ3_checkIndex_8e157_5 rfl rfl ?_
    refine x_icmp_lt (tgt := 16) dJ3_checkIndex_8e157_6 (by decide) (fun hc2 => ?_) (fun hc2 => ?_)
    · rw [if_pos hc2] at h
      refine x_iload_n (j := 0) (i := 0) dJ3_checkIndex_8e157_16 rfl rfl ?_
      cases h
      exact x_iret dJ3_checkIndex_8e157_17 rfl rfl
    · rw [if_neg hc2] at h
      refine x_aload_n (j := 2) (i := 2) dJ3_checkIndex_8e157_9 rfl rfl ?_
      refine x_iload_n (j := 0) (i := 0) dJ3_checkIndex_8e157_10 rfl rfl ?_
      refine x_iload_n (j := 1) (i := 1) dJ3_checkIndex_8e157_11 rfl rfl ?_
      exact nomatch h
set_option maxRecDepth 20000 in
theorem c_J0_checkIndex_df160 (x0 : Int32) (x1 : Int32) (w : xSt) (rE : Unit) (wE : xSt) (h : f_J0_checkIndex_df160 x0 x1 w = some (rE, wE)) : xCall yJ0_checkIndex_df160 cJ0_checkIndex_df160 2 none 1 0 0 [xI x0, xI x1] w (none, wE) := by
  refine xCall_of false (by decide) (fun q => nomatch q) (by decide) ?_
  show xX cJ0_checkIndex_df160 2 none RJ0 false (xRm 1 0 0) (xZf (none, wE) 0 0) 0 [(0, xI x0), (1, xI x1)] [] w 0 0
  unfold f_J0_checkIndex_df160 at h
  refine x_iload_n (j := 0) (i := 0) dJ0_checkIndex_df160_0 rfl rfl ?_
  refine x_iload_n (j := 1) (i := 1) dJ0_checkIndex_df160_1 rfl rfl ?_
  refine x_getsF lf_RJ0_1053 dJ0_checkIndex_df160_2 ?_
  obtain ⟨v1, w2, hc3, h⟩ := bd_s h
  refine x_callSI dJ0_checkIndex_df160_5 ml_RJ0_1059 mb_J3_checkIndex_8e157 (c_J3_checkIndex_8e157 x0 x1 w v1 w2 hc3) [] rfl rfl (by decide) (by decide) (by decide) ?_
  refine x_pop dJ0_checkIndex_df160_8 rfl ?_
  cases h
  exact x_vret dJ0_checkIndex_df160_9 rfl rfl
set_option maxRecDepth 20000 in
theorem c_J1_charAt_3b067 (x0 : Nat) (x1 : Int32) (w : xSt) (rE : Int32) (wE : xSt) (h : f_J1_charAt_3b067 x0 x1 w = some (rE, wE)) : xCall yJ1_charAt_3b067 cJ1_charAt_3b067 2 (some .char) 2 0 0 [xR (1010 + x0), xI x1] w (some (xI rE), wE) := by
  refine xCall_of false (by decide) (fun q => nomatch q) (by decide) ?_
  show xX cJ1_charAt_3b067 2 (some .char) RJ1 false (xRm 2 0 0) (xZf (some (xI rE), wE) 0 0) 0 [(0, xR (1010 + x0)), (1, xI x1)] [] w 0 0
  unfold f_J1_charAt_3b067 at h
  refine x_iload_n (j := 1) (i := 1) dJ1_charAt_3b067_0 rfl rfl ?_
  refine x_aload_n (j := 0) (i := 0) dJ1_charAt_3b067_1 rfl rfl ?_
  obtain ⟨g1, h⟩ := gd_some h
  refine x_salen g1 dJ1_charAt_3b067_2 ?_
  obtain ⟨_u, w2, hc3, h⟩ := bd_s h
  refine x_callSV dJ1_charAt_3b067_3 ml_RJ1_9 mb_J0_checkIndex_df160 (c_J0_checkIndex_df160 x1 (Int32.ofNat (xlen.getD x0 0)) w _u w2 hc3) [] rfl rfl (by decide) (by decide) (by decide) ?_
  refine x_aload_n (j := 0) (i := 0) dJ1_charAt_3b067_6 rfl rfl ?_
  refine x_iload_n (j := 1) (i := 1) dJ1_charAt_3b067_7 rfl rfl ?_
  obtain ⟨g4, h⟩ := gd_some h
  obtain ⟨g5, h⟩ := gd_some h
  refine x_sbald g4 g5 dJ1_charAt_3b067_8 ?_
  refine x_sipush (v := 255) dJ1_charAt_3b067_9 (by decide) ?_
  refine x_iand dJ1_charAt_3b067_12 ?_
  refine x_i2c dJ1_charAt_3b067_13 ?_
  obtain ⟨g6, h⟩ := gd_some h
  cases h
  exact x_cret dJ1_charAt_3b067_14 rfl (congrArg Value.int g6) rfl
set_option maxRecDepth 20000 in
theorem c_J0_charAt_5068e (x0 : Nat) (x1 : Int32) (w : xSt) (rE : Int32) (wE : xSt) (h : f_J0_charAt_5068e x0 x1 w = some (rE, wE)) : xCall yJ0_charAt_5068e cJ0_charAt_5068e 2 (some .char) 3 0 0 [xR (1000 + x0), xI x1] w (some (xI rE), wE) := by
  refine xCall_of false (by decide) (fun q => nomatch q) (by decide) ?_
  show xX cJ0_charAt_5068e 2 (some .char) RJ0 false (xRm 3 0 0) (xZf (some (xI rE), wE) 0 0) 0 [(0, xR (1000 + x0)), (1, xI x1)] [] w 0 0
  unfold f_J0_charAt_5068e at h
  refine x_aload_n (j := 0) (i := 0) dJ0_charAt_5068e_0 rfl rfl ?_
  obtain ⟨g4, h⟩ := gd_some h
  obtain ⟨v1, w2, hc3, h⟩ := bd_s h
  refine x_callVSI g4 dJ0_charAt_5068e_1 ml_RJ0_492 mb_J0_isLatin1_aae02 (c_J0_isLatin1_aae02 x0 w v1 w2 hc3) rfl [] rfl rfl (by decide) (by decide) (by decide) ?_
  refine x_if_eq (tgt := 16) dJ0_charAt_5068e_4 (by decide) (fun hc5 => ?_) (fun hc5 => ?_)
  · rw [if_pos hc5] at h
    refine x_aload_n (j := 0) (i := 0) dJ0_charAt_5068e_16 rfl rfl ?_
    obtain ⟨g6, h⟩ := gd_some h
    refine x_sgetV g6 lf_RJ0_9 dJ0_charAt_5068e_17 ?_
    refine x_iload_n (j := 1) (i := 1) dJ0_charAt_5068e_20 rfl rfl ?_
    exact nomatch h
  · rw [if_neg hc5] at h
    refine x_aload_n (j := 0) (i := 0) dJ0_charAt_5068e_7 rfl rfl ?_
    obtain ⟨g7, h⟩ := gd_some h
    refine x_sgetV g7 lf_RJ0_9 dJ0_charAt_5068e_8 ?_
    refine x_iload_n (j := 1) (i := 1) dJ0_charAt_5068e_11 rfl rfl ?_
    obtain ⟨v8, w9, hc10, h⟩ := bd_s h
    refine x_callSI dJ0_charAt_5068e_12 ml_RJ0_495 mb_J1_charAt_3b067 (c_J1_charAt_3b067 x0 x1 w2 v8 w9 hc10) [] rfl rfl (by decide) (by decide) (by decide) ?_
    obtain ⟨g11, h⟩ := gd_some h
    cases h
    exact x_cret dJ0_charAt_5068e_15 rfl (congrArg Value.int g11) rfl
set_option maxRecDepth 20000 in
theorem k_X7_medalBegunHere_l2 (rE : Int32) (wE : xSt) : ∀ (n : Nat) (x0 : Nat) (x2 : Int32) (w : xSt), f_X7_medalBegunHere_l2 n x0 x2 w = some (rE, wE) → xX cX7_medalBegunHere 3 (some .int) RX7 false (xRm 4 0 0) (xZf (some (xI rE), wE) 0 0) 2 [(0, xR x0), (2, xI x2)] [] w 0 0 := by
  intro n
  induction n with
  | zero => intro x0 x2 w h; exact nomatch (show (none : Option (Int32 × xSt)) = some (rE, wE) from h)
  | succ n ih =>
    intro x0 x2 w h
    rw [f_X7_medalBegunHere_l2_s] at h
    refine x_iload_n (j := 1) (i := 2) dX7_medalBegunHere_2 rfl rfl ?_
    refine x_if_le (tgt := 41) dX7_medalBegunHere_3 (by decide) (fun hc1 => ?_) (fun hc1 => ?_)
    · rw [if_pos hc1] at h
      refine x_iconst (v := 0) dX7_medalBegunHere_41 (by decide) ?_
      cases h
      exact x_iret dX7_medalBegunHere_42 rfl rfl
    · rw [if_neg hc1] at h
      refine x_aload_n (j := 0) (i := 0) dX7_medalBegunHere_6 rfl rfl ?_
      obtain ⟨g5, h⟩ := gd_some h
      obtain ⟨v2, w3, hc4, h⟩ := bd_s h
      refine x_callVI (ci := 7) dX7_medalBegunHere_7 ml_RX7_46 mb_X7_isAtEnd (c_X7_isAtEnd x0 w v2 w3 hc4) ⟨_, rfl, rfl⟩ g5 [] rfl rfl (by decide) (by decide) (by decide) ?_
      refine x_if_ne (tgt := 35) dX7_medalBegunHere_10 (by decide) (fun hc6 => ?_) (fun hc6 => ?_)
      · rw [if_neg hc6] at h
        refine x_iinc (j := 1) (i := 2) (v := x2 + (-1 : Int32)) (lv2 := [(2, xI (x2 + (-1 : Int32))), (0, xR x0)]) dX7_medalBegunHere_35 rfl rfl (by decide) rfl ?_
        refine x_goto (tgt := 2) dX7_medalBegunHere_38 (by decide) ?_
        refine x_lv (lv2 := [(0, xR x0), (2, xI (x2 + (-1 : Int32)))]) [1, 0] rfl ?_
        exact ih x0 (x2 + (-1 : Int32)) w3 h
      · rw [if_pos hc6] at h
        refine x_aload_n (j := 0) (i := 0) dX7_medalBegunHere_13 rfl rfl ?_
        obtain ⟨g7, h⟩ := gd_some h
        refine x_getR (ci := 7) (k := 0) dX7_medalBegunHere_14 lf_RX7_11 rfl g7 ?_
        refine x_aload_n (j := 0) (i := 0) dX7_medalBegunHere_17 rfl rfl ?_
        refine x_getI (ci := 7) (k := 2) dX7_medalBegunHere_18 lf_RX7_19 rfl g7 ?_
        obtain ⟨g8, h⟩ := gd_some h
        obtain ⟨g9, h⟩ := gd_some h
        refine x_bald dX7_medalBegunHere_21 g8 g9 ?_
        refine x_iload_n (j := 1) (i := 2) dX7_medalBegunHere_22 rfl rfl ?_
        obtain ⟨v10, w11, hc12, h⟩ := bd_s h
        refine x_callSR dX7_medalBegunHere_23 ml_RX7_26 mb_X7_nameOf (c_X7_nameOf x2 w3 v10 w11 hc12) [xI (wI w3 (wR w3 x0 0) (wI w3 x0 2).toNatClampNeg)] rfl rfl (by decide) (by decide) (by decide) ?_
        refine x_iconst (v := 0) dX7_medalBegunHere_26 (by decide) ?_
        obtain ⟨g16, h⟩ := gd_some h
        obtain ⟨v13, w14, hc15, h⟩ := bd_s h
        refine x_callVSI g16 dX7_medalBegunHere_27 ml_RX7_65 mb_J0_charAt_5068e (c_J0_charAt_5068e v10 (0 : Int32) w11 v13 w14 hc15) rfl [xI (wI w3 (wR w3 x0 0) (wI w3 x0 2).toNatClampNeg)] rfl rfl (by decide) (by decide) (by decide) ?_
        refine x_icmp_ne (tgt := 35) dX7_medalBegunHere_30 (by decide) (fun hc17 => ?_) (fun hc17 => ?_)
        · rw [if_neg hc17] at h
          refine x_iinc (j := 1) (i := 2) (v := x2 + (-1 : Int32)) (lv2 := [(2, xI (x2 + (-1 : Int32))), (0, xR x0)]) dX7_medalBegunHere_35 rfl rfl (by decide) rfl ?_
          refine x_goto (tgt := 2) dX7_medalBegunHere_38 (by decide) ?_
          refine x_lv (lv2 := [(0, xR x0), (2, xI (x2 + (-1 : Int32)))]) [1, 0] rfl ?_
          exact ih x0 (x2 + (-1 : Int32)) w14 h
        · rw [if_pos hc17] at h
          refine x_iload_n (j := 1) (i := 2) dX7_medalBegunHere_33 rfl rfl ?_
          cases h
          exact x_iret dX7_medalBegunHere_34 rfl rfl
set_option maxRecDepth 20000 in
theorem c_X7_medalBegunHere (x0 : Nat) (x1 : Int32) (w : xSt) (rE : Int32) (wE : xSt) (h : f_X7_medalBegunHere x0 x1 w = some (rE, wE)) : xCall yX7_medalBegunHere cX7_medalBegunHere 3 (some .int) 4 0 0 [xR x0, xI x1] w (some (xI rE), wE) := by
  refine xCall_of false (by decide) (fun q => nomatch q) (by decide) ?_
  show xX cX7_medalBegunHere 3 (some .int) RX7 false (xRm 4 0 0) (xZf (some (xI rE), wE) 0 0) 0 [(0, xR x0), (1, xI x1)] [] w 0 0
  unfold f_X7_medalBegunHere at h
  refine x_iload_n (j := 1) (i := 1) dX7_medalBegunHere_0 rfl rfl ?_
  refine x_istore_n (i := 2) (lv2 := [(2, xI x1), (0, xR x0), (1, xI x1)]) dX7_medalBegunHere_1 rfl (by decide) rfl ?_
  refine x_lv (lv2 := [(0, xR x0), (2, xI x1)]) [1, 0] rfl ?_
  exact k_X7_medalBegunHere_l2 rE wE xFu x0 x1 w h
set_option maxRecDepth 20000 in
theorem c_J0_coder_7d493 (x0 : Nat) (w : xSt) (rE : Int32) (wE : xSt) (h : f_J0_coder_7d493 x0 w = some (rE, wE)) : xCall yJ0_coder_7d493 cJ0_coder_7d493 1 (some .byte) 0 0 0 [xR (1000 + x0)] w (some (xI rE), wE) := by
  refine xCall_of false (by decide) (fun q => nomatch q) (by decide) ?_
  show xX cJ0_coder_7d493 1 (some .byte) RJ0 false (xRm 0 0 0) (xZf (some (xI rE), wE) 0 0) 0 [(0, xR (1000 + x0))] [] w 0 0
  unfold f_J0_coder_7d493 at h
  refine x_getsC lf_RJ0_38 dJ0_coder_7d493_0 ?_
  refine x_if_eq (tgt := 13) dJ0_coder_7d493_3 (by decide) (fun hc1 => ?_) (fun hc1 => ?_)
  · rw [if_pos hc1] at h
    refine x_iconst (v := 1) dJ0_coder_7d493_13 (by decide) ?_
    obtain ⟨g2, h⟩ := gd_some h
    cases h
    exact x_bret dJ0_coder_7d493_14 rfl (by rcases g2 with z | z <;> rw [z] <;> rfl) rfl
  · rw [if_neg hc1] at h
    refine x_aload_n (j := 0) (i := 0) dJ0_coder_7d493_6 rfl rfl ?_
    obtain ⟨g3, h⟩ := gd_some h
    refine x_sgetC g3 lf_RJ0_15 dJ0_coder_7d493_7 ?_
    refine x_goto (tgt := 14) dJ0_coder_7d493_10 (by decide) ?_
    obtain ⟨g4, h⟩ := gd_some h
    cases h
    exact x_bret dJ0_coder_7d493_14 rfl (by rcases g4 with z | z <;> rw [z] <;> rfl) rfl
set_option maxRecDepth 20000 in
theorem c_J0_length_8abf5 (x0 : Nat) (w : xSt) (rE : Int32) (wE : xSt) (h : f_J0_length_8abf5 x0 w = some (rE, wE)) : xCall yJ0_length_8abf5 cJ0_length_8abf5 1 (some .int) 1 0 0 [xR (1000 + x0)] w (some (xI rE), wE) := by
  refine xCall_of false (by decide) (fun q => nomatch q) (by decide) ?_
  show xX cJ0_length_8abf5 1 (some .int) RJ0 false (xRm 1 0 0) (xZf (some (xI rE), wE) 0 0) 0 [(0, xR (1000 + x0))] [] w 0 0
  unfold f_J0_length_8abf5 at h
  refine x_aload_n (j := 0) (i := 0) dJ0_length_8abf5_0 rfl rfl ?_
  obtain ⟨g1, h⟩ := gd_some h
  refine x_sgetV g1 lf_RJ0_9 dJ0_length_8abf5_1 ?_
  obtain ⟨g2, h⟩ := gd_some h
  refine x_salen g2 dJ0_length_8abf5_4 ?_
  refine x_aload_n (j := 0) (i := 0) dJ0_length_8abf5_5 rfl rfl ?_
  obtain ⟨g6, h⟩ := gd_some h
  obtain ⟨v3, w4, hc5, h⟩ := bd_s h
  refine x_callVSI g6 dJ0_length_8abf5_6 ml_RJ0_335 mb_J0_coder_7d493 (c_J0_coder_7d493 x0 w v3 w4 hc5) rfl [xI (Int32.ofNat (xlen.getD x0 0))] rfl rfl (by decide) (by decide) (by decide) ?_
  refine x_ishr dJ0_length_8abf5_9 ?_
  cases h
  exact x_iret dJ0_length_8abf5_10 rfl rfl
set_option maxRecDepth 20000 in
theorem k_X7_reads_l2 (rE : Int32) (wE : xSt) : ∀ (n : Nat) (x0 : Nat) (x1 : Nat) (x2 : Int32) (w : xSt), f_X7_reads_l2 n x0 x1 x2 w = some (rE, wE) → xX cX7_reads 3 (some .boolean) RX7 false (xRm 4 0 0) (xZf (some (xI rE), wE) 0 0) 2 [(0, xR x0), (1, xR (1000 + x1)), (2, xI x2)] [] w 0 0 := by
  intro n
  induction n with
  | zero => intro x0 x1 x2 w h; exact nomatch (show (none : Option (Int32 × xSt)) = some (rE, wE) from h)
  | succ n ih =>
    intro x0 x1 x2 w h
    rw [f_X7_reads_l2_s] at h
    refine x_iload_n (j := 2) (i := 2) dX7_reads_2 rfl rfl ?_
    refine x_aload_n (j := 1) (i := 1) dX7_reads_3 rfl rfl ?_
    obtain ⟨g4, h⟩ := gd_some h
    obtain ⟨v1, w2, hc3, h⟩ := bd_s h
    refine x_callVSI g4 dX7_reads_4 ml_RX7_71 mb_J0_length_8abf5 (c_J0_length_8abf5 x1 w v1 w2 hc3) rfl [xI x2] rfl rfl (by decide) (by decide) (by decide) ?_
    refine x_icmp_ge (tgt := 52) dX7_reads_7 (by decide) (fun hc5 => ?_) (fun hc5 => ?_)
    · rw [if_pos hc5] at h
      refine x_iconst (v := 1) dX7_reads_52 (by decide) ?_
      cases h
      exact x_zret dX7_reads_53 rfl (by decide) rfl
    · rw [if_neg hc5] at h
      refine x_aload_n (j := 0) (i := 0) dX7_reads_10 rfl rfl ?_
      obtain ⟨g9, h⟩ := gd_some h
      obtain ⟨v6, w7, hc8, h⟩ := bd_s h
      refine x_callVI (ci := 7) dX7_reads_11 ml_RX7_46 mb_X7_isAtEnd (c_X7_isAtEnd x0 w2 v6 w7 hc8) ⟨_, rfl, rfl⟩ g9 [] rfl rfl (by decide) (by decide) (by decide) ?_
      refine x_if_ne (tgt := 34) dX7_reads_14 (by decide) (fun hc10 => ?_) (fun hc10 => ?_)
      · rw [if_neg hc10] at h
        refine x_iconst (v := 0) dX7_reads_34 (by decide) ?_
        cases h
        exact x_zret dX7_reads_35 rfl (by decide) rfl
      · rw [if_pos hc10] at h
        refine x_aload_n (j := 0) (i := 0) dX7_reads_17 rfl rfl ?_
        obtain ⟨g11, h⟩ := gd_some h
        refine x_getR (ci := 7) (k := 0) dX7_reads_18 lf_RX7_11 rfl g11 ?_
        refine x_aload_n (j := 0) (i := 0) dX7_reads_21 rfl rfl ?_
        refine x_getI (ci := 7) (k := 2) dX7_reads_22 lf_RX7_19 rfl g11 ?_
        obtain ⟨g12, h⟩ := gd_some h
        obtain ⟨g13, h⟩ := gd_some h
        refine x_bald dX7_reads_25 g12 g13 ?_
        refine x_aload_n (j := 1) (i := 1) dX7_reads_26 rfl rfl ?_
        refine x_iload_n (j := 2) (i := 2) dX7_reads_27 rfl rfl ?_
        obtain ⟨g17, h⟩ := gd_some h
        obtain ⟨v14, w15, hc16, h⟩ := bd_s h
        refine x_callVSI g17 dX7_reads_28 ml_RX7_65 mb_J0_charAt_5068e (c_J0_charAt_5068e x1 x2 w7 v14 w15 hc16) rfl [xI (wI w7 (wR w7 x0 0) (wI w7 x0 2).toNatClampNeg)] rfl rfl (by decide) (by decide) (by decide) ?_
        refine x_icmp_eq (tgt := 36) dX7_reads_31 (by decide) (fun hc18 => ?_) (fun hc18 => ?_)
        · rw [if_pos hc18] at h
          refine x_aload_n (j := 0) (i := 0) dX7_reads_36 rfl rfl ?_
          refine x_dup dX7_reads_37 rfl ?_
          obtain ⟨g19, h⟩ := gd_some h
          refine x_getI (ci := 7) (k := 2) dX7_reads_38 lf_RX7_19 rfl g19 ?_
          refine x_iconst (v := 1) dX7_reads_41 (by decide) ?_
          refine x_iadd dX7_reads_42 ?_
          obtain ⟨w20, hw21, h⟩ := lt1_some h
          refine x_putI (ci := 7) (k := 2) dX7_reads_43 (lw_RX7_19_w _) rfl g19 ?_
          rw [← hw21]
          refine x_iinc (j := 2) (i := 2) (v := x2 + (1 : Int32)) (lv2 := [(2, xI (x2 + (1 : Int32))), (0, xR x0), (1, xR (1000 + x1))]) dX7_reads_46 rfl rfl (by decide) rfl ?_
          refine x_goto (tgt := 2) dX7_reads_49 (by decide) ?_
          refine x_lv (lv2 := [(0, xR x0), (1, xR (1000 + x1)), (2, xI (x2 + (1 : Int32)))]) [1, 2, 0] rfl ?_
          exact ih x0 x1 (x2 + (1 : Int32)) w20 h
        · rw [if_neg hc18] at h
          refine x_iconst (v := 0) dX7_reads_34 (by decide) ?_
          cases h
          exact x_zret dX7_reads_35 rfl (by decide) rfl
set_option maxRecDepth 20000 in
theorem c_X7_reads (x0 : Nat) (x1 : Nat) (w : xSt) (rE : Int32) (wE : xSt) (h : f_X7_reads x0 x1 w = some (rE, wE)) : xCall yX7_reads cX7_reads 3 (some .boolean) 4 0 0 [xR x0, xR (1000 + x1)] w (some (xI rE), wE) := by
  refine xCall_of false (by decide) (fun q => nomatch q) (by decide) ?_
  show xX cX7_reads 3 (some .boolean) RX7 false (xRm 4 0 0) (xZf (some (xI rE), wE) 0 0) 0 [(0, xR x0), (1, xR (1000 + x1))] [] w 0 0
  unfold f_X7_reads at h
  refine x_iconst (v := 0) dX7_reads_0 (by decide) ?_
  refine x_istore_n (i := 2) (lv2 := [(2, xI (0 : Int32)), (0, xR x0), (1, xR (1000 + x1))]) dX7_reads_1 rfl (by decide) rfl ?_
  refine x_lv (lv2 := [(0, xR x0), (1, xR (1000 + x1)), (2, xI (0 : Int32))]) [1, 2, 0] rfl ?_
  exact k_X7_reads_l2 rE wE xFu x0 x1 (0 : Int32) w h
set_option maxRecDepth 20000 in
theorem c_X7_isDigitHere (x0 : Nat) (x1 : Int32) (w : xSt) (rE : Int32) (wE : xSt) (h : f_X7_isDigitHere x0 x1 w = some (rE, wE)) : xCall yX7_isDigitHere cX7_isDigitHere 2 (some .boolean) 1 0 0 [xR x0, xI x1] w (some (xI rE), wE) := by
  refine xCall_of false (by decide) (fun q => nomatch q) (by decide) ?_
  show xX cX7_isDigitHere 2 (some .boolean) RX7 false (xRm 1 0 0) (xZf (some (xI rE), wE) 0 0) 0 [(0, xR x0), (1, xI x1)] [] w 0 0
  unfold f_X7_isDigitHere at h
  refine x_aload_n (j := 0) (i := 0) dX7_isDigitHere_0 rfl rfl ?_
  obtain ⟨g4, h⟩ := gd_some h
  obtain ⟨v1, w2, hc3, h⟩ := bd_s h
  refine x_callVI (ci := 7) dX7_isDigitHere_1 ml_RX7_46 mb_X7_isAtEnd (c_X7_isAtEnd x0 w v1 w2 hc3) ⟨_, rfl, rfl⟩ g4 [] rfl rfl (by decide) (by decide) (by decide) ?_
  refine x_if_ne (tgt := 38) dX7_isDigitHere_4 (by decide) (fun hc5 => ?_) (fun hc5 => ?_)
  · rw [if_neg hc5] at h
    refine x_iconst (v := 0) dX7_isDigitHere_38 (by decide) ?_
    cases h
    exact x_zret dX7_isDigitHere_39 rfl (by decide) rfl
  · rw [if_pos hc5] at h
    refine x_aload_n (j := 0) (i := 0) dX7_isDigitHere_7 rfl rfl ?_
    obtain ⟨g6, h⟩ := gd_some h
    refine x_getR (ci := 7) (k := 0) dX7_isDigitHere_8 lf_RX7_11 rfl g6 ?_
    refine x_aload_n (j := 0) (i := 0) dX7_isDigitHere_11 rfl rfl ?_
    refine x_getI (ci := 7) (k := 2) dX7_isDigitHere_12 lf_RX7_19 rfl g6 ?_
    obtain ⟨g7, h⟩ := gd_some h
    obtain ⟨g8, h⟩ := gd_some h
    refine x_bald dX7_isDigitHere_15 g7 g8 ?_
    refine x_bipush (v := 48) dX7_isDigitHere_16 (by decide) ?_
    refine x_icmp_lt (tgt := 38) dX7_isDigitHere_18 (by decide) (fun hc9 => ?_) (fun hc9 => ?_)
    · rw [if_pos hc9] at h
      refine x_iconst (v := 0) dX7_isDigitHere_38 (by decide) ?_
      cases h
      exact x_zret dX7_isDigitHere_39 rfl (by decide) rfl
    · rw [if_neg hc9] at h
      refine x_aload_n (j := 0) (i := 0) dX7_isDigitHere_21 rfl rfl ?_
      refine x_getR (ci := 7) (k := 0) dX7_isDigitHere_22 lf_RX7_11 rfl g6 ?_
      refine x_aload_n (j := 0) (i := 0) dX7_isDigitHere_25 rfl rfl ?_
      refine x_getI (ci := 7) (k := 2) dX7_isDigitHere_26 lf_RX7_19 rfl g6 ?_
      refine x_bald dX7_isDigitHere_29 g7 g8 ?_
      refine x_iload_n (j := 1) (i := 1) dX7_isDigitHere_30 rfl rfl ?_
      refine x_icmp_gt (tgt := 38) dX7_isDigitHere_31 (by decide) (fun hc10 => ?_) (fun hc10 => ?_)
      · rw [if_pos hc10] at h
        refine x_iconst (v := 0) dX7_isDigitHere_38 (by decide) ?_
        cases h
        exact x_zret dX7_isDigitHere_39 rfl (by decide) rfl
      · rw [if_neg hc10] at h
        refine x_iconst (v := 1) dX7_isDigitHere_34 (by decide) ?_
        refine x_goto (tgt := 39) dX7_isDigitHere_35 (by decide) ?_
        cases h
        exact x_zret dX7_isDigitHere_39 rfl (by decide) rfl
set_option maxRecDepth 20000 in
theorem k_X7_readNumber_l4 (rE : Int32) (wE : xSt) : ∀ (n : Nat) (x0 : Nat) (x1 : Int32) (x2 : Int32) (w : xSt), f_X7_readNumber_l4 n x0 x1 x2 w = some (rE, wE) → xX cX7_readNumber 3 (some .int) RX7 false (xRm 2 0 0) (xZf (some (xI rE), wE) 0 0) 4 [(0, xR x0), (1, xI x1), (2, xI x2)] [] w 0 0 := by
  intro n
  induction n with
  | zero => intro x0 x1 x2 w h; exact nomatch (show (none : Option (Int32 × xSt)) = some (rE, wE) from h)
  | succ n ih =>
    intro x0 x1 x2 w h
    rw [f_X7_readNumber_l4_s] at h
    refine x_iload_n (j := 2) (i := 2) dX7_readNumber_4 rfl rfl ?_
    refine x_iconst (v := 3) dX7_readNumber_5 (by decide) ?_
    refine x_icmp_ge (tgt := 56) dX7_readNumber_6 (by decide) (fun hc1 => ?_) (fun hc1 => ?_)
    · rw [if_pos hc1] at h
      refine x_iload_n (j := 1) (i := 1) dX7_readNumber_56 rfl rfl ?_
      cases h
      exact x_iret dX7_readNumber_57 rfl rfl
    · rw [if_neg hc1] at h
      refine x_aload_n (j := 0) (i := 0) dX7_readNumber_9 rfl rfl ?_
      refine x_bipush (v := 57) dX7_readNumber_10 (by decide) ?_
      obtain ⟨g5, h⟩ := gd_some h
      obtain ⟨v2, w3, hc4, h⟩ := bd_s h
      refine x_callVI (ci := 7) dX7_readNumber_12 ml_RX7_74 mb_X7_isDigitHere (c_X7_isDigitHere x0 (57 : Int32) w v2 w3 hc4) ⟨_, rfl, rfl⟩ g5 [] rfl rfl (by decide) (by decide) (by decide) ?_
      refine x_if_eq (tgt := 56) dX7_readNumber_15 (by decide) (fun hc6 => ?_) (fun hc6 => ?_)
      · rw [if_pos hc6] at h
        refine x_iload_n (j := 1) (i := 1) dX7_readNumber_56 rfl rfl ?_
        cases h
        exact x_iret dX7_readNumber_57 rfl rfl
      · rw [if_neg hc6] at h
        refine x_iload_n (j := 1) (i := 1) dX7_readNumber_18 rfl rfl ?_
        refine x_iconst (v := 0) dX7_readNumber_19 (by decide) ?_
        obtain ⟨v7, w8, hc9, h⟩ := bd_s h
        refine x_callSI dX7_readNumber_20 ml_RX7_78 mb_J9_max_7cf53 (c_J9_max_7cf53 x1 (0 : Int32) w3 v7 w8 hc9) [] rfl rfl (by decide) (by decide) (by decide) ?_
        refine x_bipush (v := 10) dX7_readNumber_23 (by decide) ?_
        refine x_imul dX7_readNumber_25 ?_
        refine x_aload_n (j := 0) (i := 0) dX7_readNumber_26 rfl rfl ?_
        obtain ⟨g10, h⟩ := gd_some h
        refine x_getR (ci := 7) (k := 0) dX7_readNumber_27 lf_RX7_11 rfl g10 ?_
        refine x_aload_n (j := 0) (i := 0) dX7_readNumber_30 rfl rfl ?_
        refine x_getI (ci := 7) (k := 2) dX7_readNumber_31 lf_RX7_19 rfl g10 ?_
        obtain ⟨g11, h⟩ := gd_some h
        obtain ⟨g12, h⟩ := gd_some h
        refine x_bald dX7_readNumber_34 g11 g12 ?_
        refine x_iadd dX7_readNumber_35 ?_
        refine x_bipush (v := 48) dX7_readNumber_36 (by decide) ?_
        refine x_isub dX7_readNumber_38 ?_
        refine x_istore_n (i := 1) (lv2 := [(1, xI (((v7 * (10 : Int32)) + (wI w8 (wR w8 x0 0) (wI w8 x0 2).toNatClampNeg)) - (48 : Int32))), (0, xR x0), (2, xI x2)]) dX7_readNumber_39 rfl (by decide) rfl ?_
        refine x_aload_n (j := 1) (i := 0) dX7_readNumber_40 rfl rfl ?_
        refine x_dup dX7_readNumber_41 rfl ?_
        refine x_getI (ci := 7) (k := 2) dX7_readNumber_42 lf_RX7_19 rfl g10 ?_
        refine x_iconst (v := 1) dX7_readNumber_45 (by decide) ?_
        refine x_iadd dX7_readNumber_46 ?_
        obtain ⟨w13, hw14, h⟩ := lt1_some h
        refine x_putI (ci := 7) (k := 2) dX7_readNumber_47 (lw_RX7_19_w _) rfl g10 ?_
        rw [← hw14]
        refine x_iinc (j := 2) (i := 2) (v := x2 + (1 : Int32)) (lv2 := [(2, xI (x2 + (1 : Int32))), (1, xI (((v7 * (10 : Int32)) + (wI w8 (wR w8 x0 0) (wI w8 x0 2).toNatClampNeg)) - (48 : Int32))), (0, xR x0)]) dX7_readNumber_50 rfl rfl (by decide) rfl ?_
        refine x_goto (tgt := 4) dX7_readNumber_53 (by decide) ?_
        refine x_lv (lv2 := [(0, xR x0), (1, xI (((v7 * (10 : Int32)) + (wI w8 (wR w8 x0 0) (wI w8 x0 2).toNatClampNeg)) - (48 : Int32))), (2, xI (x2 + (1 : Int32)))]) [2, 1, 0] rfl ?_
        exact ih x0 (((v7 * (10 : Int32)) + (wI w8 (wR w8 x0 0) (wI w8 x0 2).toNatClampNeg)) - (48 : Int32)) (x2 + (1 : Int32)) w13 h
set_option maxRecDepth 20000 in
theorem c_X7_readNumber (x0 : Nat) (w : xSt) (rE : Int32) (wE : xSt) (h : f_X7_readNumber x0 w = some (rE, wE)) : xCall yX7_readNumber cX7_readNumber 3 (some .int) 2 0 0 [xR x0] w (some (xI rE), wE) := by
  refine xCall_of false (by decide) (fun q => nomatch q) (by decide) ?_
  show xX cX7_readNumber 3 (some .int) RX7 false (xRm 2 0 0) (xZf (some (xI rE), wE) 0 0) 0 [(0, xR x0)] [] w 0 0
  unfold f_X7_readNumber at h
  refine x_iconst (v := -1) dX7_readNumber_0 (by decide) ?_
  refine x_istore_n (i := 1) (lv2 := [(1, xI (-1 : Int32)), (0, xR x0)]) dX7_readNumber_1 rfl (by decide) rfl ?_
  refine x_iconst (v := 0) dX7_readNumber_2 (by decide) ?_
  refine x_istore_n (i := 2) (lv2 := [(2, xI (0 : Int32)), (1, xI (-1 : Int32)), (0, xR x0)]) dX7_readNumber_3 rfl (by decide) rfl ?_
  refine x_lv (lv2 := [(0, xR x0), (1, xI (-1 : Int32)), (2, xI (0 : Int32))]) [2, 1, 0] rfl ?_
  exact k_X7_readNumber_l4 rE wE xFu x0 (-1 : Int32) (0 : Int32) w h
set_option maxRecDepth 20000 in
theorem c_X8_add (x0 : Nat) (x1 : Int32) (x2 : Int32) (w : xSt) (rE : Unit) (wE : xSt) (h : f_X8_add x0 x1 x2 w = some (rE, wE)) : xCall yX8_add cX8_add 3 none 0 0 0 [xR x0, xI x1, xI x2] w (none, wE) := by
  refine xCall_of false (by decide) (fun q => nomatch q) (by decide) ?_
  show xX cX8_add 3 none RX8 false (xRm 0 0 0) (xZf (none, wE) 0 0) 0 [(0, xR x0), (1, xI x1), (2, xI x2)] [] w 0 0
  unfold f_X8_add at h
  refine x_aload_n (j := 0) (i := 0) dX8_add_0 rfl rfl ?_
  obtain ⟨g1, h⟩ := gd_some h
  refine x_getI (ci := 8) (k := 2) dX8_add_1 lf_RX8_20 rfl g1 ?_
  refine x_iconst (v := 5) dX8_add_4 (by decide) ?_
  refine x_icmp_ge (tgt := 38) dX8_add_5 (by decide) (fun hc2 => ?_) (fun hc2 => ?_)
  · rw [if_pos hc2] at h
    cases h
    exact x_vret dX8_add_38 rfl rfl
  · rw [if_neg hc2] at h
    refine x_aload_n (j := 0) (i := 0) dX8_add_8 rfl rfl ?_
    refine x_getR (ci := 8) (k := 0) dX8_add_9 lf_RX8_9 rfl g1 ?_
    refine x_aload_n (j := 0) (i := 0) dX8_add_12 rfl rfl ?_
    refine x_getI (ci := 8) (k := 2) dX8_add_13 lf_RX8_20 rfl g1 ?_
    refine x_iload_n (j := 1) (i := 1) dX8_add_16 rfl rfl ?_
    obtain ⟨g3, h⟩ := gd_some h
    obtain ⟨g4, h⟩ := gd_some h
    obtain ⟨w5, hw6, h⟩ := lt1_some h
    refine x_iast dX8_add_17 g3 g4 ?_
    rw [← hw6]
    refine x_aload_n (j := 0) (i := 0) dX8_add_18 rfl rfl ?_
    have g7 : isC w5 x0 8 := by rw [hw6]; exact g1
    refine x_getR (ci := 8) (k := 1) dX8_add_19 lf_RX8_13 rfl g7 ?_
    refine x_aload_n (j := 0) (i := 0) dX8_add_22 rfl rfl ?_
    refine x_getI (ci := 8) (k := 2) dX8_add_23 lf_RX8_20 rfl g7 ?_
    refine x_iload_n (j := 2) (i := 2) dX8_add_26 rfl rfl ?_
    obtain ⟨g8, h⟩ := gd_some h
    obtain ⟨g9, h⟩ := gd_some h
    obtain ⟨w10, hw11, h⟩ := lt1_some h
    refine x_iast dX8_add_27 g8 g9 ?_
    rw [← hw11]
    refine x_aload_n (j := 0) (i := 0) dX8_add_28 rfl rfl ?_
    refine x_dup dX8_add_29 rfl ?_
    have g12 : isC w10 x0 8 := by rw [hw11]; exact g7
    refine x_getI (ci := 8) (k := 2) dX8_add_30 lf_RX8_20 rfl g12 ?_
    refine x_iconst (v := 1) dX8_add_33 (by decide) ?_
    refine x_iadd dX8_add_34 ?_
    obtain ⟨w13, hw14, h⟩ := lt1_some h
    refine x_putI (ci := 8) (k := 2) dX8_add_35 (lw_RX8_20_w _) rfl g12 ?_
    rw [← hw14]
    cases h
    exact x_vret dX8_add_38 rfl rfl
set_option maxRecDepth 20000 in
theorem k_X7_readMedals_l9 (rE : Int32) (wE : xSt) : ∀ (n : Nat) (x0 : Nat) (x1 : Nat) (x2 : Int32) (x3 : Int32) (w : xSt), f_X7_readMedals_l9 n x0 x1 x2 x3 w = some (rE, wE) → xX cX7_readMedals 6 (some .boolean) RX7 false (xRm 5 0 0) (xZf (some (xI rE), wE) 0 0) 9 [(0, xR x0), (1, xR x1), (2, xI x2), (3, xI x3)] [] w 0 0 := by
  intro n
  induction n with
  | zero => intro x0 x1 x2 x3 w h; exact nomatch (show (none : Option (Int32 × xSt)) = some (rE, wE) from h)
  | succ n ih =>
    intro x0 x1 x2 x3 w h
    rw [f_X7_readMedals_l9_s] at h
    refine x_iload_n (j := 3) (i := 3) dX7_readMedals_9 rfl rfl ?_
    refine x_iconst (v := 3) dX7_readMedals_10 (by decide) ?_
    refine x_icmp_ge (tgt := 106) dX7_readMedals_11 (by decide) (fun hc4 => ?_) (fun hc4 => ?_)
    · rw [if_pos hc4] at h
      refine x_iconst (v := 0) dX7_readMedals_106 (by decide) ?_
      cases h
      exact x_zret dX7_readMedals_107 rfl (by decide) rfl
    · rw [if_neg hc4] at h
      refine x_aload_n (j := 0) (i := 0) dX7_readMedals_14 rfl rfl ?_
      refine x_iload_n (j := 2) (i := 2) dX7_readMedals_15 rfl rfl ?_
      obtain ⟨g8, h⟩ := gd_some h
      obtain ⟨v5, w6, hc7, h⟩ := bd_s h
      refine x_callVI (ci := 7) dX7_readMedals_16 ml_RX7_22 mb_X7_medalBegunHere (c_X7_medalBegunHere x0 x2 w v5 w6 hc7) ⟨_, rfl, rfl⟩ g8 [] rfl rfl (by decide) (by decide) (by decide) ?_
      refine x_istore (i := 4) (lv2 := [(4, xI v5), (0, xR x0), (1, xR x1), (2, xI x2), (3, xI x3)]) dX7_readMedals_19 (by decide) rfl ?_
      refine x_iload (j := 0) (i := 4) dX7_readMedals_21 rfl ?_
      refine x_if_eq (tgt := 47) dX7_readMedals_23 (by decide) (fun hc9 => ?_) (fun hc9 => ?_)
      · rw [if_pos hc9] at h
        refine x_iconst (v := 0) dX7_readMedals_47 (by decide) ?_
        cases h
        exact x_zret dX7_readMedals_48 rfl (by decide) rfl
      · rw [if_neg hc9] at h
        refine x_aload_n (j := 1) (i := 0) dX7_readMedals_26 rfl rfl ?_
        refine x_iload (j := 0) (i := 4) dX7_readMedals_27 rfl ?_
        obtain ⟨v10, w11, hc12, h⟩ := bd_s h
        refine x_callSR dX7_readMedals_29 ml_RX7_26 mb_X7_nameOf (c_X7_nameOf v5 w6 v10 w11 hc12) [xR x0] rfl rfl (by decide) (by decide) (by decide) ?_
        obtain ⟨g16, h⟩ := gd_some h
        obtain ⟨v13, w14, hc15, h⟩ := bd_s h
        refine x_callVI (ci := 7) dX7_readMedals_32 ml_RX7_30 mb_X7_reads (c_X7_reads x0 v10 w11 v13 w14 hc15) ⟨_, rfl, rfl⟩ g16 [] rfl rfl (by decide) (by decide) (by decide) ?_
        refine x_if_eq (tgt := 47) dX7_readMedals_35 (by decide) (fun hc17 => ?_) (fun hc17 => ?_)
        · rw [if_pos hc17] at h
          refine x_iconst (v := 0) dX7_readMedals_47 (by decide) ?_
          cases h
          exact x_zret dX7_readMedals_48 rfl (by decide) rfl
        · rw [if_neg hc17] at h
          refine x_aload_n (j := 1) (i := 0) dX7_readMedals_38 rfl rfl ?_
          refine x_ldcS 3 (by decide) rfl rfl dX7_readMedals_39 ?_
          obtain ⟨g21, h⟩ := gd_some h
          obtain ⟨v18, w19, hc20, h⟩ := bd_s h
          refine x_callVI (ci := 7) dX7_readMedals_41 ml_RX7_30 mb_X7_reads (c_X7_reads x0 3 w14 v18 w19 hc20) ⟨_, rfl, rfl⟩ g21 [] rfl rfl (by decide) (by decide) (by decide) ?_
          refine x_if_ne (tgt := 49) dX7_readMedals_44 (by decide) (fun hc22 => ?_) (fun hc22 => ?_)
          · rw [if_neg hc22] at h
            refine x_aload_n (j := 1) (i := 0) dX7_readMedals_49 rfl rfl ?_
            obtain ⟨g26, h⟩ := gd_some h
            obtain ⟨v23, w24, hc25, h⟩ := bd_s h
            refine x_callVI (ci := 7) dX7_readMedals_50 ml_RX7_36 mb_X7_readNumber (c_X7_readNumber x0 w19 v23 w24 hc25) ⟨_, rfl, rfl⟩ g26 [] rfl rfl (by decide) (by decide) (by decide) ?_
            refine x_istore (i := 5) (lv2 := [(5, xI v23), (4, xI v5), (0, xR x0), (1, xR x1), (2, xI x2), (3, xI x3)]) dX7_readMedals_53 (by decide) rfl ?_
            refine x_iload (j := 0) (i := 5) dX7_readMedals_55 rfl ?_
            refine x_iconst (v := -1) dX7_readMedals_57 (by decide) ?_
            refine x_icmp_ne (tgt := 63) dX7_readMedals_58 (by decide) (fun hc27 => ?_) (fun hc27 => ?_)
            · rw [if_neg hc27] at h
              refine x_aload_n (j := 3) (i := 1) dX7_readMedals_63 rfl rfl ?_
              refine x_iload (j := 1) (i := 4) dX7_readMedals_64 rfl ?_
              refine x_iload (j := 0) (i := 5) dX7_readMedals_66 rfl ?_
              obtain ⟨g30, h⟩ := gd_some h
              obtain ⟨_u, w28, hc29, h⟩ := bd_s h
              refine x_callVV (ci := 8) dX7_readMedals_68 ml_RX7_40 mb_X8_add (c_X8_add x1 v5 v23 w24 _u w28 hc29) ⟨_, rfl, rfl⟩ g30 [] rfl rfl (by decide) (by decide) (by decide) ?_
              refine x_aload_n (j := 2) (i := 0) dX7_readMedals_71 rfl rfl ?_
              obtain ⟨g34, h⟩ := gd_some h
              obtain ⟨v31, w32, hc33, h⟩ := bd_s h
              refine x_callVI (ci := 7) dX7_readMedals_72 ml_RX7_46 mb_X7_isAtEnd (c_X7_isAtEnd x0 w28 v31 w32 hc33) ⟨_, rfl, rfl⟩ g34 [] rfl rfl (by decide) (by decide) (by decide) ?_
              refine x_if_eq (tgt := 80) dX7_readMedals_75 (by decide) (fun hc35 => ?_) (fun hc35 => ?_)
              · rw [if_pos hc35] at h
                refine x_iload (j := 1) (i := 4) dX7_readMedals_80 rfl ?_
                refine x_iconst (v := 1) dX7_readMedals_82 (by decide) ?_
                refine x_isub dX7_readMedals_83 ?_
                refine x_istore_n (i := 2) (lv2 := [(2, xI (v5 - (1 : Int32))), (5, xI v23), (4, xI v5), (0, xR x0), (1, xR x1), (3, xI x3)]) dX7_readMedals_84 rfl (by decide) rfl ?_
                refine x_iload_n (j := 0) (i := 2) dX7_readMedals_85 rfl rfl ?_
                refine x_if_eq (tgt := 98) dX7_readMedals_86 (by decide) (fun hc36 => ?_) (fun hc36 => ?_)
                · rw [if_pos hc36] at h
                  refine x_iconst (v := 0) dX7_readMedals_98 (by decide) ?_
                  cases h
                  exact x_zret dX7_readMedals_99 rfl (by decide) rfl
                · rw [if_neg hc36] at h
                  refine x_aload_n (j := 3) (i := 0) dX7_readMedals_89 rfl rfl ?_
                  refine x_ldcS 4 (by decide) rfl rfl dX7_readMedals_90 ?_
                  obtain ⟨g40, h⟩ := gd_some h
                  obtain ⟨v37, w38, hc39, h⟩ := bd_s h
                  refine x_callVI (ci := 7) dX7_readMedals_92 ml_RX7_30 mb_X7_reads (c_X7_reads x0 4 w32 v37 w38 hc39) ⟨_, rfl, rfl⟩ g40 [] rfl rfl (by decide) (by decide) (by decide) ?_
                  refine x_if_ne (tgt := 100) dX7_readMedals_95 (by decide) (fun hc41 => ?_) (fun hc41 => ?_)
                  · rw [if_neg hc41] at h
                    refine x_iinc (j := 5) (i := 3) (v := x3 + (1 : Int32)) (lv2 := [(3, xI (x3 + (1 : Int32))), (2, xI (v5 - (1 : Int32))), (5, xI v23), (4, xI v5), (0, xR x0), (1, xR x1)]) dX7_readMedals_100 rfl rfl (by decide) rfl ?_
                    refine x_goto (tgt := 9) dX7_readMedals_103 (by decide) ?_
                    refine x_lv (lv2 := [(0, xR x0), (1, xR x1), (2, xI (v5 - (1 : Int32))), (3, xI (x3 + (1 : Int32)))]) [4, 5, 1, 0] rfl ?_
                    exact ih x0 x1 (v5 - (1 : Int32)) (x3 + (1 : Int32)) w38 h
                  · rw [if_pos hc41] at h
                    refine x_iconst (v := 0) dX7_readMedals_98 (by decide) ?_
                    cases h
                    exact x_zret dX7_readMedals_99 rfl (by decide) rfl
              · rw [if_neg hc35] at h
                refine x_iconst (v := 1) dX7_readMedals_78 (by decide) ?_
                cases h
                exact x_zret dX7_readMedals_79 rfl (by decide) rfl
            · rw [if_pos hc27] at h
              refine x_iconst (v := 0) dX7_readMedals_61 (by decide) ?_
              cases h
              exact x_zret dX7_readMedals_62 rfl (by decide) rfl
          · rw [if_pos hc22] at h
            refine x_iconst (v := 0) dX7_readMedals_47 (by decide) ?_
            cases h
            exact x_zret dX7_readMedals_48 rfl (by decide) rfl
set_option maxRecDepth 20000 in
theorem c_X7_readMedals (x0 : Nat) (x1 : Nat) (w : xSt) (rE : Int32) (wE : xSt) (h : f_X7_readMedals x0 x1 w = some (rE, wE)) : xCall yX7_readMedals cX7_readMedals 6 (some .boolean) 5 0 0 [xR x0, xR x1] w (some (xI rE), wE) := by
  refine xCall_of false (by decide) (fun q => nomatch q) (by decide) ?_
  show xX cX7_readMedals 6 (some .boolean) RX7 false (xRm 5 0 0) (xZf (some (xI rE), wE) 0 0) 0 [(0, xR x0), (1, xR x1)] [] w 0 0
  unfold f_X7_readMedals at h
  refine x_aload_n (j := 0) (i := 0) dX7_readMedals_0 rfl rfl ?_
  refine x_iconst (v := 0) dX7_readMedals_1 (by decide) ?_
  obtain ⟨g1, h⟩ := gd_some h
  obtain ⟨w2, hw3, h⟩ := lt1_some h
  refine x_putI (ci := 7) (k := 2) dX7_readMedals_2 (lw_RX7_19_w _) rfl g1 ?_
  rw [← hw3]
  refine x_iconst (v := 3) dX7_readMedals_5 (by decide) ?_
  refine x_istore_n (i := 2) (lv2 := [(2, xI (3 : Int32)), (0, xR x0), (1, xR x1)]) dX7_readMedals_6 rfl (by decide) rfl ?_
  refine x_iconst (v := 0) dX7_readMedals_7 (by decide) ?_
  refine x_istore_n (i := 3) (lv2 := [(3, xI (0 : Int32)), (2, xI (3 : Int32)), (0, xR x0), (1, xR x1)]) dX7_readMedals_8 rfl (by decide) rfl ?_
  refine x_lv (lv2 := [(0, xR x0), (1, xR x1), (2, xI (3 : Int32)), (3, xI (0 : Int32))]) [2, 3, 1, 0] rfl ?_
  exact k_X7_readMedals_l9 rE wE xFu x0 x1 (3 : Int32) (0 : Int32) w2 h
set_option maxRecDepth 20000 in
theorem c_X7_readWeekday (x0 : Nat) (w : xSt) (rE : Int32) (wE : xSt) (h : f_X7_readWeekday x0 w = some (rE, wE)) : xCall yX7_readWeekday cX7_readWeekday 1 (some .int) 2 0 0 [xR x0] w (some (xI rE), wE) := by
  refine xCall_of false (by decide) (fun q => nomatch q) (by decide) ?_
  show xX cX7_readWeekday 1 (some .int) RX7 false (xRm 2 0 0) (xZf (some (xI rE), wE) 0 0) 0 [(0, xR x0)] [] w 0 0
  unfold f_X7_readWeekday at h
  refine x_aload_n (j := 0) (i := 0) dX7_readWeekday_0 rfl rfl ?_
  refine x_bipush (v := 54) dX7_readWeekday_1 (by decide) ?_
  obtain ⟨g4, h⟩ := gd_some h
  obtain ⟨v1, w2, hc3, h⟩ := bd_s h
  refine x_callVI (ci := 7) dX7_readWeekday_3 ml_RX7_74 mb_X7_isDigitHere (c_X7_isDigitHere x0 (54 : Int32) w v1 w2 hc3) ⟨_, rfl, rfl⟩ g4 [] rfl rfl (by decide) (by decide) (by decide) ?_
  refine x_if_ne (tgt := 11) dX7_readWeekday_6 (by decide) (fun hc5 => ?_) (fun hc5 => ?_)
  · rw [if_neg hc5] at h
    refine x_aload_n (j := 0) (i := 0) dX7_readWeekday_11 rfl rfl ?_
    refine x_dup dX7_readWeekday_12 rfl ?_
    obtain ⟨g6, h⟩ := gd_some h
    refine x_getI (ci := 7) (k := 2) dX7_readWeekday_13 lf_RX7_19 rfl g6 ?_
    refine x_iconst (v := 1) dX7_readWeekday_16 (by decide) ?_
    refine x_iadd dX7_readWeekday_17 ?_
    obtain ⟨w7, hw8, h⟩ := lt1_some h
    refine x_putI (ci := 7) (k := 2) dX7_readWeekday_18 (lw_RX7_19_w _) rfl g6 ?_
    rw [← hw8]
    refine x_aload_n (j := 0) (i := 0) dX7_readWeekday_21 rfl rfl ?_
    have g9 : isC w7 x0 7 := by rw [hw8]; exact g6
    refine x_getR (ci := 7) (k := 0) dX7_readWeekday_22 lf_RX7_11 rfl g9 ?_
    refine x_aload_n (j := 0) (i := 0) dX7_readWeekday_25 rfl rfl ?_
    refine x_getI (ci := 7) (k := 2) dX7_readWeekday_26 lf_RX7_19 rfl g9 ?_
    refine x_iconst (v := 1) dX7_readWeekday_29 (by decide) ?_
    refine x_isub dX7_readWeekday_30 ?_
    obtain ⟨g10, h⟩ := gd_some h
    obtain ⟨g11, h⟩ := gd_some h
    refine x_bald dX7_readWeekday_31 g10 g11 ?_
    refine x_bipush (v := 48) dX7_readWeekday_32 (by decide) ?_
    refine x_isub dX7_readWeekday_34 ?_
    cases h
    exact x_iret dX7_readWeekday_35 rfl rfl
  · rw [if_pos hc5] at h
    refine x_iconst (v := -1) dX7_readWeekday_9 (by decide) ?_
    cases h
    exact x_iret dX7_readWeekday_10 rfl rfl
