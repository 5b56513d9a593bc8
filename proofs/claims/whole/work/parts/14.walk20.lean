set_option maxRecDepth 20000 in
theorem k_X11_costOf_l16 (rE : Int32) (wE : xSt) : ∀ (n : Nat) (x0 : Nat) (x1 : Int32) (x2 : Int32) (x3 : Int32) (w : xSt), f_X11_costOf_l16 n x0 x1 x2 x3 w = some (rE, wE) → xX cX11_costOf 4 (some .int) RX11 false (xRm 1 0 0) (xZf (some (xI rE), wE) 0 0) 16 [(0, xR x0), (1, xI x1), (2, xI x2), (3, xI x3)] [] w 0 0 := by
  intro n
  induction n with
  | zero => intro x0 x1 x2 x3 w h; exact nomatch (show (none : Option (Int32 × xSt)) = some (rE, wE) from h)
  | succ n ih =>
    intro x0 x1 x2 x3 w h
    rw [f_X11_costOf_l16_s] at h
    refine x_iload_n (j := 3) (i := 3) dX11_costOf_16 rfl rfl ?_
    refine x_aload_n (j := 0) (i := 0) dX11_costOf_17 rfl rfl ?_
    obtain ⟨g6, h⟩ := gd_some h
    refine x_getR (ci := 11) (k := 21) dX11_costOf_18 lf_RX11_63 rfl g6 ?_
    refine x_iload_n (j := 2) (i := 2) dX11_costOf_21 rfl rfl ?_
    obtain ⟨g7, h⟩ := gd_some h
    obtain ⟨g8, h⟩ := gd_some h
    refine x_iald dX11_costOf_22 g7 g8 ?_
    refine x_icmp_ge (tgt := 60) dX11_costOf_23 (by decide) (fun hc9 => ?_) (fun hc9 => ?_)
    · rw [if_pos hc9] at h
      refine x_aload_n (j := 0) (i := 0) dX11_costOf_60 rfl rfl ?_
      refine x_getR (ci := 11) (k := 23) dX11_costOf_61 lf_RX11_69 rfl g6 ?_
      refine x_iconst (v := 5) dX11_costOf_64 (by decide) ?_
      refine x_iload_n (j := 2) (i := 2) dX11_costOf_65 rfl rfl ?_
      refine x_imul dX11_costOf_66 ?_
      refine x_aload_n (j := 0) (i := 0) dX11_costOf_67 rfl rfl ?_
      refine x_getR (ci := 11) (k := 21) dX11_costOf_68 lf_RX11_63 rfl g6 ?_
      refine x_iload_n (j := 2) (i := 2) dX11_costOf_71 rfl rfl ?_
      refine x_iald dX11_costOf_72 g7 g8 ?_
      refine x_iadd dX11_costOf_73 ?_
      obtain ⟨g10, h⟩ := gd_some h
      obtain ⟨g11, h⟩ := gd_some h
      refine x_iald dX11_costOf_74 g10 g11 ?_
      obtain ⟨hr9, hw9⟩ := Prod.mk.inj (Option.some.inj h)
      subst hw9
      subst hr9
      exact x_iret dX11_costOf_75 rfl rfl
    · rw [if_neg hc9] at h
      refine x_aload_n (j := 0) (i := 0) dX11_costOf_26 rfl rfl ?_
      refine x_getR (ci := 11) (k := 22) dX11_costOf_27 lf_RX11_66 rfl g6 ?_
      refine x_iconst (v := 4) dX11_costOf_30 (by decide) ?_
      refine x_iload_n (j := 2) (i := 2) dX11_costOf_31 rfl rfl ?_
      refine x_imul dX11_costOf_32 ?_
      refine x_iload_n (j := 3) (i := 3) dX11_costOf_33 rfl rfl ?_
      refine x_iadd dX11_costOf_34 ?_
      obtain ⟨g12, h⟩ := gd_some h
      obtain ⟨g13, h⟩ := gd_some h
      refine x_iald dX11_costOf_35 g12 g13 ?_
      refine x_iload_n (j := 1) (i := 1) dX11_costOf_36 rfl rfl ?_
      refine x_bipush (v := 7) dX11_costOf_37 (by decide) ?_
      refine x_irem dX11_costOf_39 (by decide) ?_
      refine x_icmp_ne (tgt := 54) dX11_costOf_40 (by decide) (fun hc14 => ?_) (fun hc14 => ?_)
      · rw [if_neg hc14] at h
        refine x_iinc (j := 3) (i := 3) (v := x3 + (1 : Int32)) (lv2 := [(3, xI (x3 + (1 : Int32))), (0, xR x0), (1, xI x1), (2, xI x2)]) dX11_costOf_54 rfl rfl (by decide) rfl ?_
        refine x_goto (tgt := 16) dX11_costOf_57 (by decide) ?_
        refine x_lv (lv2 := [(0, xR x0), (1, xI x1), (2, xI x2), (3, xI (x3 + (1 : Int32)))]) [1, 2, 3, 0] rfl ?_
        exact ih x0 x1 x2 (x3 + (1 : Int32)) w h
      · rw [if_pos hc14] at h
        refine x_aload_n (j := 0) (i := 0) dX11_costOf_43 rfl rfl ?_
        refine x_getR (ci := 11) (k := 23) dX11_costOf_44 lf_RX11_69 rfl g6 ?_
        refine x_iconst (v := 5) dX11_costOf_47 (by decide) ?_
        refine x_iload_n (j := 2) (i := 2) dX11_costOf_48 rfl rfl ?_
        refine x_imul dX11_costOf_49 ?_
        refine x_iload_n (j := 3) (i := 3) dX11_costOf_50 rfl rfl ?_
        refine x_iadd dX11_costOf_51 ?_
        obtain ⟨g15, h⟩ := gd_some h
        obtain ⟨g16, h⟩ := gd_some h
        refine x_iald dX11_costOf_52 g15 g16 ?_
        obtain ⟨hr9, hw9⟩ := Prod.mk.inj (Option.some.inj h)
        subst hw9
        subst hr9
        exact x_iret dX11_costOf_53 rfl rfl
set_option maxRecDepth 20000 in
theorem c_X11_costOf (x0 : Nat) (x1 : Int32) (w : xSt) (rE : Int32) (wE : xSt) (h : f_X11_costOf x0 x1 w = some (rE, wE)) : xCall yX11_costOf cX11_costOf 4 (some .int) 1 0 0 [xR x0, xI x1] w (some (xI rE), wE) := by
  refine xCall_of false (by decide) (fun q => nomatch q) (Nat.le_of_ble_eq_true rfl) ?_
  show xX cX11_costOf 4 (some .int) RX11 false (xRm 1 0 0) (xZf (some (xI rE), wE) 0 0) 0 [(0, xR x0), (1, xI x1)] [] w 0 0
  unfold f_X11_costOf at h
  refine x_aload_n (j := 0) (i := 0) dX11_costOf_0 rfl rfl ?_
  refine x_iconst (v := 1) dX11_costOf_1 (by decide) ?_
  refine x_iload_n (j := 1) (i := 1) dX11_costOf_2 rfl rfl ?_
  obtain ⟨g4, h⟩ := gd_some h
  obtain ⟨v1, w2, hc3, h⟩ := bd_s h
  refine x_callVI (ci := 11) dX11_costOf_3 ml_RX11_245 mb_X11_inForce (c_X11_inForce x0 (1 : Int32) x1 w v1 w2 hc3) ⟨_, rfl, rfl⟩ g4 [] rfl rfl (Nat.le_of_ble_eq_true rfl) (by decide) (by decide) ?_
  refine x_istore_n (i := 2) (lv2 := [(2, xI v1), (0, xR x0), (1, xI x1)]) dX11_costOf_6 rfl (by decide) rfl ?_
  refine x_iload_n (j := 0) (i := 2) dX11_costOf_7 rfl rfl ?_
  refine x_iconst (v := -1) dX11_costOf_8 (by decide) ?_
  refine x_icmp_ne (tgt := 14) dX11_costOf_9 (by decide) (fun hc5 => ?_) (fun hc5 => ?_)
  · rw [if_neg hc5] at h
    refine x_iconst (v := 0) dX11_costOf_14 (by decide) ?_
    refine x_istore_n (i := 3) (lv2 := [(3, xI (0 : Int32)), (2, xI v1), (0, xR x0), (1, xI x1)]) dX11_costOf_15 rfl (by decide) rfl ?_
    refine x_lv (lv2 := [(0, xR x0), (1, xI x1), (2, xI v1), (3, xI (0 : Int32))]) [2, 3, 1, 0] rfl ?_
    exact k_X11_costOf_l16 rE wE xFu x0 x1 v1 (0 : Int32) w2 h
  · rw [if_pos hc5] at h
    refine x_iconst (v := 0) dX11_costOf_12 (by decide) ?_
    obtain ⟨hr9, hw9⟩ := Prod.mk.inj (Option.some.inj h)
    subst hw9
    subst hr9
    exact x_iret dX11_costOf_13 rfl rfl
set_option maxRecDepth 20000 in
theorem c_X11_cost (x0 : Nat) (x1 : Int32) (w : xSt) (rE : Int32) (wE : xSt) (h : f_X11_cost x0 x1 w = some (rE, wE)) : xCall yX11_cost cX11_cost 2 (some .int) 2 0 0 [xR x0, xI x1] w (some (xI rE), wE) := by
  refine xCall_of false (by decide) (fun q => nomatch q) (Nat.le_of_ble_eq_true rfl) ?_
  show xX cX11_cost 2 (some .int) RX11 false (xRm 2 0 0) (xZf (some (xI rE), wE) 0 0) 0 [(0, xR x0), (1, xI x1)] [] w 0 0
  unfold f_X11_cost at h
  refine x_iload_n (j := 1) (i := 1) dX11_cost_0 rfl rfl ?_
  refine x_if_ge (tgt := 8) dX11_cost_1 (by decide) (fun hc1 => ?_) (fun hc1 => ?_)
  · rw [if_pos hc1] at h
    refine x_aload_n (j := 0) (i := 0) dX11_cost_8 rfl rfl ?_
    refine x_iload_n (j := 1) (i := 1) dX11_cost_9 rfl rfl ?_
    obtain ⟨g5, h⟩ := gd_some h
    obtain ⟨v2, w3, hc4, h⟩ := bd_s h
    refine x_callVI (ci := 11) dX11_cost_10 ml_RX11_248 mb_X11_costOf (c_X11_costOf x0 x1 w v2 w3 hc4) ⟨_, rfl, rfl⟩ g5 [] rfl rfl (Nat.le_of_ble_eq_true rfl) (by decide) (by decide) ?_
    obtain ⟨hr9, hw9⟩ := Prod.mk.inj (Option.some.inj h)
    subst hw9
    subst hr9
    exact x_iret dX11_cost_13 rfl rfl
  · rw [if_neg hc1] at h
    refine x_iconst (v := -1) dX11_cost_4 (by decide) ?_
    refine x_goto (tgt := 13) dX11_cost_5 (by decide) ?_
    obtain ⟨hr9, hw9⟩ := Prod.mk.inj (Option.some.inj h)
    subst hw9
    subst hr9
    exact x_iret dX11_cost_13 rfl rfl
set_option maxRecDepth 20000 in
theorem c_X11_most (x0 : Nat) (x1 : Int32) (w : xSt) (rE : Int32) (wE : xSt) (h : f_X11_most x0 x1 w = some (rE, wE)) : xCall yX11_most cX11_most 3 (some .int) 1 0 0 [xR x0, xI x1] w (some (xI rE), wE) := by
  refine xCall_of false (by decide) (fun q => nomatch q) (Nat.le_of_ble_eq_true rfl) ?_
  show xX cX11_most 3 (some .int) RX11 false (xRm 1 0 0) (xZf (some (xI rE), wE) 0 0) 0 [(0, xR x0), (1, xI x1)] [] w 0 0
  unfold f_X11_most at h
  refine x_iload_n (j := 1) (i := 1) dX11_most_0 rfl rfl ?_
  refine x_iconst (v := 1) dX11_most_1 (by decide) ?_
  refine x_sipush (v := 20000) dX11_most_2 (by decide) ?_
  obtain ⟨v1, w2, hc3, h⟩ := bd_s h
  refine x_callSI dX11_most_5 ml_RX11_117 mb_X11_in (c_X11_in x1 (1 : Int32) (20000 : Int32) w v1 w2 hc3) [] rfl rfl (Nat.le_of_ble_eq_true rfl) (by decide) (by decide) ?_
  refine x_if_ne (tgt := 14) dX11_most_8 (by decide) (fun hc4 => ?_) (fun hc4 => ?_)
  · rw [if_neg hc4] at h
    refine x_aload_n (j := 0) (i := 0) dX11_most_14 rfl rfl ?_
    obtain ⟨g5, h⟩ := gd_some h
    refine x_getI (ci := 11) (k := 29) dX11_most_15 lf_RX11_84 rfl g5 ?_
    refine x_istore_n (i := 2) (lv2 := [(2, xI (wI w2 x0 29)), (0, xR x0), (1, xI x1)]) dX11_most_18 rfl (by decide) rfl ?_
    refine x_aload_n (j := 1) (i := 0) dX11_most_19 rfl rfl ?_
    refine x_iload_n (j := 2) (i := 1) dX11_most_20 rfl rfl ?_
    obtain ⟨w6, hw7, h⟩ := lt1_some h
    refine x_putI (ci := 11) (k := 29) dX11_most_21 (lw_RX11_84_w _) rfl g5 ?_
    rw [← hw7]
    refine x_iload_n (j := 0) (i := 2) dX11_most_24 rfl rfl ?_
    obtain ⟨hr9, hw9⟩ := Prod.mk.inj (Option.some.inj h)
    subst hw9
    subst hr9
    exact x_iret dX11_most_25 rfl rfl
  · rw [if_pos hc4] at h
    refine x_bipush (v := -2) dX11_most_11 (by decide) ?_
    obtain ⟨hr9, hw9⟩ := Prod.mk.inj (Option.some.inj h)
    subst hw9
    subst hr9
    exact x_iret dX11_most_13 rfl rfl
set_option maxRecDepth 20000 in
theorem k_X11_minute_b124 (rE : Int32) (wE : xSt) (x0 : Nat) (s0 : Int32) (w : xSt) (h : f_X11_minute_b124 x0 s0 w = some (rE, wE)) : xX cX11_minute 5 (some .int) RX11 false (xRm 2 0 0) (xZf (some (xI rE), wE) 0 0) 124 [(0, xR x0)] [xI s0] w 0 0 := by
  unfold f_X11_minute_b124 at h
  refine x_istore (i := 4) (lv2 := [(4, xI s0), (0, xR x0)]) dX11_minute_124 (by decide) rfl ?_
  refine x_aload_n (j := 1) (i := 0) dX11_minute_126 rfl rfl ?_
  refine x_dup dX11_minute_127 rfl ?_
  obtain ⟨g25, h⟩ := gd_some h
  refine x_getI (ci := 11) (k := 32) dX11_minute_128 lf_RX11_254 rfl g25 ?_
  refine x_iload (j := 0) (i := 4) dX11_minute_131 rfl ?_
  refine x_iadd dX11_minute_133 ?_
  obtain ⟨w26, hw27, h⟩ := lt1_some h
  refine x_putI (ci := 11) (k := 32) dX11_minute_134 (lw_RX11_254_w _) rfl g25 ?_
  rw [← hw27]
  refine x_aload_n (j := 1) (i := 0) dX11_minute_137 rfl rfl ?_
  refine x_dup dX11_minute_138 rfl ?_
  have g28 : isC w26 x0 11 := by rw [hw27]; exact g25
  refine x_getI (ci := 11) (k := 33) dX11_minute_139 lf_RX11_257 rfl g28 ?_
  refine x_iload (j := 0) (i := 4) dX11_minute_142 rfl ?_
  refine x_isub dX11_minute_144 ?_
  obtain ⟨w29, hw30, h⟩ := lt1_some h
  refine x_putI (ci := 11) (k := 33) dX11_minute_145 (lw_RX11_257_w _) rfl g28 ?_
  rw [← hw30]
  refine x_aload_n (j := 1) (i := 0) dX11_minute_148 rfl rfl ?_
  refine x_dup dX11_minute_149 rfl ?_
  have g31 : isC w29 x0 11 := by rw [hw30]; exact g28
  refine x_getI (ci := 11) (k := 34) dX11_minute_150 lf_RX11_260 rfl g31 ?_
  refine x_iload (j := 0) (i := 4) dX11_minute_153 rfl ?_
  refine x_aload_n (j := 1) (i := 0) dX11_minute_155 rfl rfl ?_
  refine x_aload_n (j := 1) (i := 0) dX11_minute_156 rfl rfl ?_
  refine x_getI (ci := 11) (k := 30) dX11_minute_157 lf_RX11_263 rfl g31 ?_
  obtain ⟨v32, w33, hc34, h⟩ := bd_s h
  refine x_callVI (ci := 11) dX11_minute_160 ml_RX11_248 mb_X11_costOf (c_X11_costOf x0 (wI w29 x0 30) w29 v32 w33 hc34) ⟨_, rfl, rfl⟩ g31 [xI s0, xI (wI w29 x0 34), xR x0] rfl rfl (Nat.le_of_ble_eq_true rfl) (by decide) (by decide) ?_
  refine x_imul dX11_minute_163 ?_
  refine x_iadd dX11_minute_164 ?_
  obtain ⟨g35, h⟩ := gd_some h
  obtain ⟨w36, hw37, h⟩ := lt1_some h
  refine x_putI (ci := 11) (k := 34) dX11_minute_165 (lw_RX11_260_w _) rfl g35 ?_
  rw [← hw37]
  refine x_aload_n (j := 1) (i := 0) dX11_minute_168 rfl rfl ?_
  refine x_dup dX11_minute_169 rfl ?_
  have g38 : isC w36 x0 11 := by rw [hw37]; exact g35
  refine x_getI (ci := 11) (k := 35) dX11_minute_170 lf_RX11_266 rfl g38 ?_
  refine x_iload (j := 0) (i := 4) dX11_minute_173 rfl ?_
  refine x_aload_n (j := 1) (i := 0) dX11_minute_175 rfl rfl ?_
  refine x_aload_n (j := 1) (i := 0) dX11_minute_176 rfl rfl ?_
  refine x_getI (ci := 11) (k := 30) dX11_minute_177 lf_RX11_263 rfl g38 ?_
  obtain ⟨v39, w40, hc41, h⟩ := bd_s h
  refine x_callVI (ci := 11) dX11_minute_180 ml_RX11_248 mb_X11_costOf (c_X11_costOf x0 (wI w36 x0 30) w36 v39 w40 hc41) ⟨_, rfl, rfl⟩ g38 [xI s0, xI (wI w36 x0 35), xR x0] rfl rfl (Nat.le_of_ble_eq_true rfl) (by decide) (by decide) ?_
  refine x_imul dX11_minute_183 ?_
  refine x_iadd dX11_minute_184 ?_
  obtain ⟨g42, h⟩ := gd_some h
  obtain ⟨w43, hw44, h⟩ := lt1_some h
  refine x_putI (ci := 11) (k := 35) dX11_minute_185 (lw_RX11_266_w _) rfl g42 ?_
  rw [← hw44]
  refine x_aload_n (j := 1) (i := 0) dX11_minute_188 rfl rfl ?_
  have g45 : isC w43 x0 11 := by rw [hw44]; exact g42
  refine x_getI (ci := 11) (k := 32) dX11_minute_189 lf_RX11_254 rfl g45 ?_
  obtain ⟨hr9, hw9⟩ := Prod.mk.inj (Option.some.inj h)
  subst hw9
  subst hr9
  exact x_iret dX11_minute_192 rfl rfl
set_option maxRecDepth 20000 in
theorem k_X11_minute_b107 (rE : Int32) (wE : xSt) (x0 : Nat) (s0 : Int32) (w : xSt) (h : f_X11_minute_b107 x0 s0 w = some (rE, wE)) : xX cX11_minute 5 (some .int) RX11 false (xRm 2 0 0) (xZf (some (xI rE), wE) 0 0) 107 [(0, xR x0)] [xI s0] w 0 0 := by
  unfold f_X11_minute_b107 at h
  refine x_istore_n (i := 3) (lv2 := [(3, xI s0), (0, xR x0)]) dX11_minute_107 rfl (by decide) rfl ?_
  refine x_aload_n (j := 1) (i := 0) dX11_minute_108 rfl rfl ?_
  obtain ⟨g23, h⟩ := gd_some h
  refine x_getI (ci := 11) (k := 33) dX11_minute_109 lf_RX11_257 rfl g23 ?_
  refine x_iload_n (j := 0) (i := 3) dX11_minute_112 rfl rfl ?_
  refine x_icmp_ge (tgt := 123) dX11_minute_113 (by decide) (fun hc24 => ?_) (fun hc24 => ?_)
  · rw [if_pos hc24] at h
    refine x_iload_n (j := 0) (i := 3) dX11_minute_123 rfl rfl ?_
    refine x_lv (lv2 := [(0, xR x0)]) [1] rfl ?_
    exact k_X11_minute_b124 rE wE x0 s0 w h
  · rw [if_neg hc24] at h
    refine x_aload_n (j := 1) (i := 0) dX11_minute_116 rfl rfl ?_
    refine x_getI (ci := 11) (k := 33) dX11_minute_117 lf_RX11_257 rfl g23 ?_
    refine x_goto (tgt := 124) dX11_minute_120 (by decide) ?_
    refine x_lv (lv2 := [(0, xR x0)]) [1] rfl ?_
    exact k_X11_minute_b124 rE wE x0 (wI w x0 33) w h
set_option maxRecDepth 20000 in
theorem k_X11_minute_b69 (rE : Int32) (wE : xSt) (x0 : Nat) (x1 : Int32) (s0 : Nat) (s1 : Int32) (s2 : Int32) (w : xSt) (h : f_X11_minute_b69 x0 x1 s0 s1 s2 w = some (rE, wE)) : xX cX11_minute 5 (some .int) RX11 false (xRm 2 0 0) (xZf (some (xI rE), wE) 0 0) 69 [(0, xR x0), (1, xI x1)] [xI s2, xI s1, xR s0] w 0 0 := by
  unfold f_X11_minute_b69 at h
  refine x_isub dX11_minute_69 ?_
  obtain ⟨g15, h⟩ := gd_some h
  obtain ⟨w16, hw17, h⟩ := lt1_some h
  refine x_putI (ci := 11) (k := 32) dX11_minute_70 (lw_RX11_254_w _) rfl g15 ?_
  rw [← hw17]
  refine x_aload_n (j := 0) (i := 0) dX11_minute_73 rfl rfl ?_
  refine x_dup dX11_minute_74 rfl ?_
  obtain ⟨g18, h⟩ := gd_some h
  refine x_getI (ci := 11) (k := 33) dX11_minute_75 lf_RX11_257 rfl g18 ?_
  refine x_iload_n (j := 1) (i := 1) dX11_minute_78 rfl rfl ?_
  refine x_iadd dX11_minute_79 ?_
  obtain ⟨w19, hw20, h⟩ := lt1_some h
  refine x_putI (ci := 11) (k := 33) dX11_minute_80 (lw_RX11_257_w _) rfl g18 ?_
  rw [← hw20]
  refine x_aload_n (j := 0) (i := 0) dX11_minute_83 rfl rfl ?_
  have g21 : isC w19 x0 11 := by rw [hw20]; exact g18
  refine x_getI (ci := 11) (k := 29) dX11_minute_84 lf_RX11_84 rfl g21 ?_
  refine x_aload_n (j := 0) (i := 0) dX11_minute_87 rfl rfl ?_
  refine x_getI (ci := 11) (k := 32) dX11_minute_88 lf_RX11_254 rfl g21 ?_
  refine x_icmp_le (tgt := 106) dX11_minute_91 (by decide) (fun hc22 => ?_) (fun hc22 => ?_)
  · rw [if_pos hc22] at h
    refine x_iconst (v := 0) dX11_minute_106 (by decide) ?_
    refine x_lv (lv2 := [(0, xR x0)]) [0] rfl ?_
    exact k_X11_minute_b107 rE wE x0 (0 : Int32) w19 h
  · rw [if_neg hc22] at h
    refine x_aload_n (j := 0) (i := 0) dX11_minute_94 rfl rfl ?_
    refine x_getI (ci := 11) (k := 29) dX11_minute_95 lf_RX11_84 rfl g21 ?_
    refine x_aload_n (j := 0) (i := 0) dX11_minute_98 rfl rfl ?_
    refine x_getI (ci := 11) (k := 32) dX11_minute_99 lf_RX11_254 rfl g21 ?_
    refine x_isub dX11_minute_102 ?_
    refine x_goto (tgt := 107) dX11_minute_103 (by decide) ?_
    refine x_lv (lv2 := [(0, xR x0)]) [0] rfl ?_
    exact k_X11_minute_b107 rE wE x0 ((wI w19 x0 29) - (wI w19 x0 32)) w19 h
set_option maxRecDepth 20000 in
theorem c_X11_minute (x0 : Nat) (x1 : Int32) (x2 : Int32) (w : xSt) (rE : Int32) (wE : xSt) (h : f_X11_minute x0 x1 x2 w = some (rE, wE)) : xCall yX11_minute cX11_minute 5 (some .int) 2 0 0 [xR x0, xI x1, xI x2] w (some (xI rE), wE) := by
  refine xCall_of false (by decide) (fun q => nomatch q) (Nat.le_of_ble_eq_true rfl) ?_
  show xX cX11_minute 5 (some .int) RX11 false (xRm 2 0 0) (xZf (some (xI rE), wE) 0 0) 0 [(0, xR x0), (1, xI x1), (2, xI x2)] [] w 0 0
  unfold f_X11_minute at h
  refine x_iload_n (j := 1) (i := 1) dX11_minute_0 rfl rfl ?_
  refine x_iconst (v := 0) dX11_minute_1 (by decide) ?_
  refine x_sipush (v := 2000) dX11_minute_2 (by decide) ?_
  obtain ⟨v1, w2, hc3, h⟩ := bd_s h
  refine x_callSI dX11_minute_5 ml_RX11_117 mb_X11_in (c_X11_in x1 (0 : Int32) (2000 : Int32) w v1 w2 hc3) [] rfl rfl (Nat.le_of_ble_eq_true rfl) (by decide) (by decide) ?_
  refine x_if_eq (tgt := 22) dX11_minute_8 (by decide) (fun hc4 => ?_) (fun hc4 => ?_)
  · rw [if_pos hc4] at h
    refine x_bipush (v := -2) dX11_minute_22 (by decide) ?_
    obtain ⟨hr9, hw9⟩ := Prod.mk.inj (Option.some.inj h)
    subst hw9
    subst hr9
    exact x_iret dX11_minute_24 rfl rfl
  · rw [if_neg hc4] at h
    refine x_iload_n (j := 2) (i := 2) dX11_minute_11 rfl rfl ?_
    refine x_iconst (v := 0) dX11_minute_12 (by decide) ?_
    refine x_sipush (v := 2000) dX11_minute_13 (by decide) ?_
    obtain ⟨v5, w6, hc7, h⟩ := bd_s h
    refine x_callSI dX11_minute_16 ml_RX11_117 mb_X11_in (c_X11_in x2 (0 : Int32) (2000 : Int32) w2 v5 w6 hc7) [] rfl rfl (Nat.le_of_ble_eq_true rfl) (by decide) (by decide) ?_
    refine x_if_ne (tgt := 25) dX11_minute_19 (by decide) (fun hc8 => ?_) (fun hc8 => ?_)
    · rw [if_neg hc8] at h
      refine x_aload_n (j := 0) (i := 0) dX11_minute_25 rfl rfl ?_
      obtain ⟨g9, h⟩ := gd_some h
      refine x_getI (ci := 11) (k := 31) dX11_minute_26 lf_RX11_251 rfl g9 ?_
      refine x_sipush (v := 600) dX11_minute_29 (by decide) ?_
      refine x_icmp_ne (tgt := 38) dX11_minute_32 (by decide) (fun hc10 => ?_) (fun hc10 => ?_)
      · rw [if_neg hc10] at h
        refine x_aload_n (j := 0) (i := 0) dX11_minute_38 rfl rfl ?_
        refine x_dup dX11_minute_39 rfl ?_
        refine x_getI (ci := 11) (k := 31) dX11_minute_40 lf_RX11_251 rfl g9 ?_
        refine x_iconst (v := 1) dX11_minute_43 (by decide) ?_
        refine x_iadd dX11_minute_44 ?_
        obtain ⟨w11, hw12, h⟩ := lt1_some h
        refine x_putI (ci := 11) (k := 31) dX11_minute_45 (lw_RX11_251_w _) rfl g9 ?_
        rw [← hw12]
        refine x_aload_n (j := 0) (i := 0) dX11_minute_48 rfl rfl ?_
        refine x_dup dX11_minute_49 rfl ?_
        have g13 : isC w11 x0 11 := by rw [hw12]; exact g9
        refine x_getI (ci := 11) (k := 32) dX11_minute_50 lf_RX11_254 rfl g13 ?_
        refine x_iload_n (j := 2) (i := 2) dX11_minute_53 rfl rfl ?_
        refine x_aload_n (j := 0) (i := 0) dX11_minute_54 rfl rfl ?_
        refine x_getI (ci := 11) (k := 32) dX11_minute_55 lf_RX11_254 rfl g13 ?_
        refine x_icmp_ge (tgt := 65) dX11_minute_58 (by decide) (fun hc14 => ?_) (fun hc14 => ?_)
        · rw [if_pos hc14] at h
          refine x_aload_n (j := 0) (i := 0) dX11_minute_65 rfl rfl ?_
          refine x_getI (ci := 11) (k := 32) dX11_minute_66 lf_RX11_254 rfl g13 ?_
          refine x_lv (lv2 := [(0, xR x0), (1, xI x1)]) [0, 1] rfl ?_
          exact k_X11_minute_b69 rE wE x0 x1 x0 (wI w11 x0 32) (wI w11 x0 32) w11 h
        · rw [if_neg hc14] at h
          refine x_iload_n (j := 2) (i := 2) dX11_minute_61 rfl rfl ?_
          refine x_goto (tgt := 69) dX11_minute_62 (by decide) ?_
          refine x_lv (lv2 := [(0, xR x0), (1, xI x1)]) [0, 1] rfl ?_
          exact k_X11_minute_b69 rE wE x0 x1 x0 (wI w11 x0 32) x2 w11 h
      · rw [if_pos hc10] at h
        refine x_bipush (v := -4) dX11_minute_35 (by decide) ?_
        obtain ⟨hr9, hw9⟩ := Prod.mk.inj (Option.some.inj h)
        subst hw9
        subst hr9
        exact x_iret dX11_minute_37 rfl rfl
    · rw [if_pos hc8] at h
      refine x_bipush (v := -2) dX11_minute_22 (by decide) ?_
      obtain ⟨hr9, hw9⟩ := Prod.mk.inj (Option.some.inj h)
      subst hw9
      subst hr9
      exact x_iret dX11_minute_24 rfl rfl
set_option maxRecDepth 20000 in
theorem c_X11_bell (x0 : Nat) (w : xSt) (rE : Int32) (wE : xSt) (h : f_X11_bell x0 w = some (rE, wE)) : xCall yX11_bell cX11_bell 1 (some .int) 0 0 0 [xR x0] w (some (xI rE), wE) := by
  refine xCall_of false (by decide) (fun q => nomatch q) (Nat.le_of_ble_eq_true rfl) ?_
  show xX cX11_bell 1 (some .int) RX11 false (xRm 0 0 0) (xZf (some (xI rE), wE) 0 0) 0 [(0, xR x0)] [] w 0 0
  unfold f_X11_bell at h
  refine x_aload_n (j := 0) (i := 0) dX11_bell_0 rfl rfl ?_
  obtain ⟨g1, h⟩ := gd_some h
  refine x_getI (ci := 11) (k := 30) dX11_bell_1 lf_RX11_263 rfl g1 ?_
  refine x_sipush (v := 999) dX11_bell_4 (by decide) ?_
  refine x_icmp_ne (tgt := 13) dX11_bell_7 (by decide) (fun hc2 => ?_) (fun hc2 => ?_)
  · rw [if_neg hc2] at h
    refine x_aload_n (j := 0) (i := 0) dX11_bell_13 rfl rfl ?_
    refine x_dup dX11_bell_14 rfl ?_
    refine x_getI (ci := 11) (k := 30) dX11_bell_15 lf_RX11_263 rfl g1 ?_
    refine x_iconst (v := 1) dX11_bell_18 (by decide) ?_
    refine x_iadd dX11_bell_19 ?_
    obtain ⟨w3, hw4, h⟩ := lt1_some h
    refine x_putI (ci := 11) (k := 30) dX11_bell_20 (lw_RX11_263_w _) rfl g1 ?_
    rw [← hw4]
    refine x_aload_n (j := 0) (i := 0) dX11_bell_23 rfl rfl ?_
    refine x_iconst (v := 0) dX11_bell_24 (by decide) ?_
    have g5 : isC w3 x0 11 := by rw [hw4]; exact g1
    obtain ⟨w6, hw7, h⟩ := lt1_some h
    refine x_putI (ci := 11) (k := 31) dX11_bell_25 (lw_RX11_251_w _) rfl g5 ?_
    rw [← hw7]
    refine x_aload_n (j := 0) (i := 0) dX11_bell_28 rfl rfl ?_
    refine x_iconst (v := 0) dX11_bell_29 (by decide) ?_
    have g8 : isC w6 x0 11 := by rw [hw7]; exact g5
    obtain ⟨w9, hw10, h⟩ := lt1_some h
    refine x_putI (ci := 11) (k := 32) dX11_bell_30 (lw_RX11_254_w _) rfl g8 ?_
    rw [← hw10]
    refine x_aload_n (j := 0) (i := 0) dX11_bell_33 rfl rfl ?_
    refine x_iconst (v := 0) dX11_bell_34 (by decide) ?_
    have g11 : isC w9 x0 11 := by rw [hw10]; exact g8
    obtain ⟨w12, hw13, h⟩ := lt1_some h
    refine x_putI (ci := 11) (k := 33) dX11_bell_35 (lw_RX11_257_w _) rfl g11 ?_
    rw [← hw13]
    refine x_aload_n (j := 0) (i := 0) dX11_bell_38 rfl rfl ?_
    refine x_iconst (v := 0) dX11_bell_39 (by decide) ?_
    have g14 : isC w12 x0 11 := by rw [hw13]; exact g11
    obtain ⟨w15, hw16, h⟩ := lt1_some h
    refine x_putI (ci := 11) (k := 34) dX11_bell_40 (lw_RX11_260_w _) rfl g14 ?_
    rw [← hw16]
    refine x_aload_n (j := 0) (i := 0) dX11_bell_43 rfl rfl ?_
    have g17 : isC w15 x0 11 := by rw [hw16]; exact g14
    refine x_getI (ci := 11) (k := 30) dX11_bell_44 lf_RX11_263 rfl g17 ?_
    obtain ⟨hr9, hw9⟩ := Prod.mk.inj (Option.some.inj h)
    subst hw9
    subst hr9
    exact x_iret dX11_bell_47 rfl rfl
  · rw [if_pos hc2] at h
    refine x_bipush (v := -4) dX11_bell_10 (by decide) ?_
    obtain ⟨hr9, hw9⟩ := Prod.mk.inj (Option.some.inj h)
    subst hw9
    subst hr9
    exact x_iret dX11_bell_12 rfl rfl
set_option maxRecDepth 20000 in
theorem k_X11_sight_b36 (rE : Int32) (wE : xSt) (x0 : Nat) (x1 : Int32) (x2 : Int32) (w : xSt) (h : f_X11_sight_b36 x0 x1 x2 w = some (rE, wE)) : xX cX11_sight 3 (some .int) RX11 false (xRm 2 0 0) (xZf (some (xI rE), wE) 0 0) 36 [(0, xR x0), (1, xI x1), (2, xI x2)] [] w 0 0 := by
  unfold f_X11_sight_b36 at h
  refine x_aload_n (j := 0) (i := 0) dX11_sight_36 rfl rfl ?_
  obtain ⟨g13, h⟩ := gd_some h
  refine x_getR (ci := 11) (k := 2) dX11_sight_37 lf_RX11_7 rfl g13 ?_
  refine x_iload_n (j := 1) (i := 1) dX11_sight_40 rfl rfl ?_
  obtain ⟨g14, h⟩ := gd_some h
  obtain ⟨g15, h⟩ := gd_some h
  refine x_iald dX11_sight_41 g14 g15 ?_
  refine x_iconst (v := 2) dX11_sight_42 (by decide) ?_
  refine x_icmp_eq (tgt := 56) dX11_sight_43 (by decide) (fun hc16 => ?_) (fun hc16 => ?_)
  · rw [if_pos hc16] at h
    refine x_bipush (v := -2) dX11_sight_56 (by decide) ?_
    obtain ⟨hr9, hw9⟩ := Prod.mk.inj (Option.some.inj h)
    subst hw9
    subst hr9
    exact x_iret dX11_sight_58 rfl rfl
  · rw [if_neg hc16] at h
    refine x_aload_n (j := 0) (i := 0) dX11_sight_46 rfl rfl ?_
    refine x_getR (ci := 11) (k := 2) dX11_sight_47 lf_RX11_7 rfl g13 ?_
    refine x_iload_n (j := 1) (i := 1) dX11_sight_50 rfl rfl ?_
    refine x_iald dX11_sight_51 g14 g15 ?_
    refine x_iconst (v := 3) dX11_sight_52 (by decide) ?_
    refine x_icmp_ne (tgt := 59) dX11_sight_53 (by decide) (fun hc17 => ?_) (fun hc17 => ?_)
    · rw [if_neg hc17] at h
      refine x_aload_n (j := 0) (i := 0) dX11_sight_59 rfl rfl ?_
      refine x_getI (ci := 11) (k := 36) dX11_sight_60 lf_RX11_269 rfl g13 ?_
      refine x_bipush (v := 10) dX11_sight_63 (by decide) ?_
      refine x_icmp_ne (tgt := 71) dX11_sight_65 (by decide) (fun hc18 => ?_) (fun hc18 => ?_)
      · rw [if_neg hc18] at h
        refine x_aload_n (j := 0) (i := 0) dX11_sight_71 rfl rfl ?_
        refine x_getR (ci := 11) (k := 37) dX11_sight_72 lf_RX11_87 rfl g13 ?_
        refine x_aload_n (j := 0) (i := 0) dX11_sight_75 rfl rfl ?_
        refine x_getI (ci := 11) (k := 36) dX11_sight_76 lf_RX11_269 rfl g13 ?_
        refine x_iload_n (j := 1) (i := 1) dX11_sight_79 rfl rfl ?_
        obtain ⟨g19, h⟩ := gd_some h
        obtain ⟨g20, h⟩ := gd_some h
        obtain ⟨w21, hw22, h⟩ := lt1_some h
        refine x_iast dX11_sight_80 g19 g20 ?_
        rw [← hw22]
        refine x_aload_n (j := 0) (i := 0) dX11_sight_81 rfl rfl ?_
        refine x_iload_n (j := 2) (i := 2) dX11_sight_82 rfl rfl ?_
        have g23 : isC w21 x0 11 := by rw [hw22]; exact g13
        obtain ⟨w24, hw25, h⟩ := lt1_some h
        refine x_putI (ci := 11) (k := 38) dX11_sight_83 (lw_RX11_272_w _) rfl g23 ?_
        rw [← hw25]
        refine x_aload_n (j := 0) (i := 0) dX11_sight_86 rfl rfl ?_
        refine x_dup dX11_sight_87 rfl ?_
        have g26 : isC w24 x0 11 := by rw [hw25]; exact g23
        refine x_getI (ci := 11) (k := 36) dX11_sight_88 lf_RX11_269 rfl g26 ?_
        refine x_iconst (v := 1) dX11_sight_91 (by decide) ?_
        refine x_iadd dX11_sight_92 ?_
        obtain ⟨w27, hw28, h⟩ := lt1_some h
        refine x_putI (ci := 11) (k := 36) dX11_sight_93 (lw_RX11_269_w _) rfl g26 ?_
        rw [← hw28]
        refine x_aload_n (j := 0) (i := 0) dX11_sight_96 rfl rfl ?_
        have g29 : isC w27 x0 11 := by rw [hw28]; exact g26
        refine x_getI (ci := 11) (k := 36) dX11_sight_97 lf_RX11_269 rfl g29 ?_
        obtain ⟨hr9, hw9⟩ := Prod.mk.inj (Option.some.inj h)
        subst hw9
        subst hr9
        exact x_iret dX11_sight_100 rfl rfl
      · rw [if_pos hc18] at h
        refine x_bipush (v := -4) dX11_sight_68 (by decide) ?_
        obtain ⟨hr9, hw9⟩ := Prod.mk.inj (Option.some.inj h)
        subst hw9
        subst hr9
        exact x_iret dX11_sight_70 rfl rfl
    · rw [if_pos hc17] at h
      refine x_bipush (v := -2) dX11_sight_56 (by decide) ?_
      obtain ⟨hr9, hw9⟩ := Prod.mk.inj (Option.some.inj h)
      subst hw9
      subst hr9
      exact x_iret dX11_sight_58 rfl rfl
set_option maxRecDepth 20000 in
theorem c_X11_sight (x0 : Nat) (x1 : Int32) (x2 : Int32) (w : xSt) (rE : Int32) (wE : xSt) (h : f_X11_sight x0 x1 x2 w = some (rE, wE)) : xCall yX11_sight cX11_sight 3 (some .int) 2 0 0 [xR x0, xI x1, xI x2] w (some (xI rE), wE) := by
  refine xCall_of false (by decide) (fun q => nomatch q) (Nat.le_of_ble_eq_true rfl) ?_
  show xX cX11_sight 3 (some .int) RX11 false (xRm 2 0 0) (xZf (some (xI rE), wE) 0 0) 0 [(0, xR x0), (1, xI x1), (2, xI x2)] [] w 0 0
  unfold f_X11_sight at h
  refine x_aload_n (j := 0) (i := 0) dX11_sight_0 rfl rfl ?_
  refine x_iload_n (j := 1) (i := 1) dX11_sight_1 rfl rfl ?_
  obtain ⟨g4, h⟩ := gd_some h
  obtain ⟨v1, w2, hc3, h⟩ := bd_s h
  refine x_callVI (ci := 11) dX11_sight_2 ml_RX11_128 mb_X11_isCell (c_X11_isCell x0 x1 w v1 w2 hc3) ⟨_, rfl, rfl⟩ g4 [] rfl rfl (Nat.le_of_ble_eq_true rfl) (by decide) (by decide) ?_
  refine x_if_ne (tgt := 10) dX11_sight_5 (by decide) (fun hc5 => ?_) (fun hc5 => ?_)
  · rw [if_neg hc5] at h
    refine x_iload_n (j := 2) (i := 2) dX11_sight_10 rfl rfl ?_
    refine x_iconst (v := 0) dX11_sight_11 (by decide) ?_
    refine x_sipush (v := 10000) dX11_sight_12 (by decide) ?_
    obtain ⟨v6, w7, hc8, h⟩ := bd_s h
    refine x_callSI dX11_sight_15 ml_RX11_117 mb_X11_in (c_X11_in x2 (0 : Int32) (10000 : Int32) w2 v6 w7 hc8) [] rfl rfl (Nat.le_of_ble_eq_true rfl) (by decide) (by decide) ?_
    refine x_if_eq (tgt := 56) dX11_sight_18 (by decide) (fun hc9 => ?_) (fun hc9 => ?_)
    · rw [if_pos hc9] at h
      refine x_bipush (v := -2) dX11_sight_56 (by decide) ?_
      obtain ⟨hr9, hw9⟩ := Prod.mk.inj (Option.some.inj h)
      subst hw9
      subst hr9
      exact x_iret dX11_sight_58 rfl rfl
    · rw [if_neg hc9] at h
      refine x_aload_n (j := 0) (i := 0) dX11_sight_21 rfl rfl ?_
      obtain ⟨g10, h⟩ := gd_some h
      refine x_getI (ci := 11) (k := 36) dX11_sight_22 lf_RX11_269 rfl g10 ?_
      refine x_if_le (tgt := 36) dX11_sight_25 (by decide) (fun hc11 => ?_) (fun hc11 => ?_)
      · rw [if_pos hc11] at h
        refine x_lv (lv2 := [(0, xR x0), (1, xI x1), (2, xI x2)]) [0, 1, 2] rfl ?_
        exact k_X11_sight_b36 rE wE x0 x1 x2 w7 h
      · rw [if_neg hc11] at h
        refine x_iload_n (j := 2) (i := 2) dX11_sight_28 rfl rfl ?_
        refine x_aload_n (j := 0) (i := 0) dX11_sight_29 rfl rfl ?_
        refine x_getI (ci := 11) (k := 38) dX11_sight_30 lf_RX11_272 rfl g10 ?_
        refine x_icmp_le (tgt := 56) dX11_sight_33 (by decide) (fun hc12 => ?_) (fun hc12 => ?_)
        · rw [if_pos hc12] at h
          refine x_bipush (v := -2) dX11_sight_56 (by decide) ?_
          obtain ⟨hr9, hw9⟩ := Prod.mk.inj (Option.some.inj h)
          subst hw9
          subst hr9
          exact x_iret dX11_sight_58 rfl rfl
        · rw [if_neg hc12] at h
          refine x_lv (lv2 := [(0, xR x0), (1, xI x1), (2, xI x2)]) [0, 1, 2] rfl ?_
          exact k_X11_sight_b36 rE wE x0 x1 x2 w7 h
  · rw [if_pos hc5] at h
    refine x_iconst (v := -1) dX11_sight_8 (by decide) ?_
    obtain ⟨hr9, hw9⟩ := Prod.mk.inj (Option.some.inj h)
    subst hw9
    subst hr9
    exact x_iret dX11_sight_9 rfl rfl
set_option maxRecDepth 20000 in
theorem c_X11_walks (x0 : Nat) (x1 : Int32) (x2 : Int32) (w : xSt) (rE : Unit) (wE : xSt) (h : f_X11_walks x0 x1 x2 w = some (rE, wE)) : xCall yX11_walks cX11_walks 3 none 3 0 0 [xR x0, xI x1, xI x2] w (none, wE) := by
  refine xCall_of false (by decide) (fun q => nomatch q) (Nat.le_of_ble_eq_true rfl) ?_
  show xX cX11_walks 3 none RX11 false (xRm 3 0 0) (xZf (none, wE) 0 0) 0 [(0, xR x0), (1, xI x1), (2, xI x2)] [] w 0 0
  unfold f_X11_walks at h
  refine x_aload_n (j := 0) (i := 0) dX11_walks_0 rfl rfl ?_
  obtain ⟨g1, h⟩ := gd_some h
  refine x_getR (ci := 11) (k := 49) dX11_walks_1 lf_RX11_108 rfl g1 ?_
  refine x_iload_n (j := 1) (i := 1) dX11_walks_4 rfl rfl ?_
  obtain ⟨g2, h⟩ := gd_some h
  obtain ⟨g3, h⟩ := gd_some h
  refine x_iald dX11_walks_5 g2 g3 ?_
  refine x_iconst (v := -1) dX11_walks_6 (by decide) ?_
  refine x_icmp_ne (tgt := 66) dX11_walks_7 (by decide) (fun hc4 => ?_) (fun hc4 => ?_)
  · rw [if_neg hc4] at h
    obtain ⟨hr9, hw9⟩ := Prod.mk.inj (Option.some.inj h)
    subst hw9
    exact x_vret dX11_walks_66 rfl rfl
  · rw [if_pos hc4] at h
    refine x_aload_n (j := 0) (i := 0) dX11_walks_10 rfl rfl ?_
    refine x_getR (ci := 11) (k := 2) dX11_walks_11 lf_RX11_7 rfl g1 ?_
    refine x_iload_n (j := 1) (i := 1) dX11_walks_14 rfl rfl ?_
    obtain ⟨g5, h⟩ := gd_some h
    obtain ⟨g6, h⟩ := gd_some h
    refine x_iald dX11_walks_15 g5 g6 ?_
    refine x_iconst (v := 2) dX11_walks_16 (by decide) ?_
    refine x_icmp_eq (tgt := 66) dX11_walks_17 (by decide) (fun hc7 => ?_) (fun hc7 => ?_)
    · rw [if_pos hc7] at h
      obtain ⟨hr9, hw9⟩ := Prod.mk.inj (Option.some.inj h)
      subst hw9
      exact x_vret dX11_walks_66 rfl rfl
    · rw [if_neg hc7] at h
      refine x_aload_n (j := 0) (i := 0) dX11_walks_20 rfl rfl ?_
      refine x_getR (ci := 11) (k := 2) dX11_walks_21 lf_RX11_7 rfl g1 ?_
      refine x_iload_n (j := 1) (i := 1) dX11_walks_24 rfl rfl ?_
      refine x_iald dX11_walks_25 g5 g6 ?_
      refine x_iconst (v := 3) dX11_walks_26 (by decide) ?_
      refine x_icmp_eq (tgt := 66) dX11_walks_27 (by decide) (fun hc8 => ?_) (fun hc8 => ?_)
      · rw [if_pos hc8] at h
        obtain ⟨hr9, hw9⟩ := Prod.mk.inj (Option.some.inj h)
        subst hw9
        exact x_vret dX11_walks_66 rfl rfl
      · rw [if_neg hc8] at h
        refine x_aload_n (j := 0) (i := 0) dX11_walks_30 rfl rfl ?_
        refine x_iload_n (j := 1) (i := 1) dX11_walks_31 rfl rfl ?_
        obtain ⟨v9, w10, hc11, h⟩ := bd_s h
        refine x_callVI (ci := 11) dX11_walks_32 ml_RX11_176 mb_X11_standOn (c_X11_standOn x0 x1 w v9 w10 hc11) ⟨_, rfl, rfl⟩ g1 [] rfl rfl (Nat.le_of_ble_eq_true rfl) (by decide) (by decide) ?_
        refine x_iconst (v := -1) dX11_walks_35 (by decide) ?_
        refine x_icmp_ne (tgt := 66) dX11_walks_36 (by decide) (fun hc12 => ?_) (fun hc12 => ?_)
        · rw [if_neg hc12] at h
          obtain ⟨hr9, hw9⟩ := Prod.mk.inj (Option.some.inj h)
          subst hw9
          exact x_vret dX11_walks_66 rfl rfl
        · rw [if_pos hc12] at h
          refine x_aload_n (j := 0) (i := 0) dX11_walks_39 rfl rfl ?_
          obtain ⟨g13, h⟩ := gd_some h
          refine x_getR (ci := 11) (k := 49) dX11_walks_40 lf_RX11_108 rfl g13 ?_
          refine x_iload_n (j := 1) (i := 1) dX11_walks_43 rfl rfl ?_
          refine x_iload_n (j := 2) (i := 2) dX11_walks_44 rfl rfl ?_
          obtain ⟨g14, h⟩ := gd_some h
          obtain ⟨g15, h⟩ := gd_some h
          obtain ⟨w16, hw17, h⟩ := lt1_some h
          refine x_iast dX11_walks_45 g14 g15 ?_
          rw [← hw17]
          refine x_aload_n (j := 0) (i := 0) dX11_walks_46 rfl rfl ?_
          have g18 : isC w16 x0 11 := by rw [hw17]; exact g13
          refine x_getR (ci := 11) (k := 41) dX11_walks_47 lf_RX11_96 rfl g18 ?_
          refine x_aload_n (j := 0) (i := 0) dX11_walks_50 rfl rfl ?_
          refine x_getI (ci := 11) (k := 42) dX11_walks_51 lf_RX11_192 rfl g18 ?_
          refine x_iload_n (j := 1) (i := 1) dX11_walks_54 rfl rfl ?_
          obtain ⟨g19, h⟩ := gd_some h
          obtain ⟨g20, h⟩ := gd_some h
          obtain ⟨w21, hw22, h⟩ := lt1_some h
          refine x_iast dX11_walks_55 g19 g20 ?_
          rw [← hw22]
          refine x_aload_n (j := 0) (i := 0) dX11_walks_56 rfl rfl ?_
          refine x_dup dX11_walks_57 rfl ?_
          have g23 : isC w21 x0 11 := by rw [hw22]; exact g18
          refine x_getI (ci := 11) (k := 42) dX11_walks_58 lf_RX11_192 rfl g23 ?_
          refine x_iconst (v := 1) dX11_walks_61 (by decide) ?_
          refine x_iadd dX11_walks_62 ?_
          obtain ⟨w24, hw25, h⟩ := lt1_some h
          refine x_putI (ci := 11) (k := 42) dX11_walks_63 (lw_RX11_192_w _) rfl g23 ?_
          rw [← hw25]
          obtain ⟨hr9, hw9⟩ := Prod.mk.inj (Option.some.inj h)
          subst hw9
          exact x_vret dX11_walks_66 rfl rfl
