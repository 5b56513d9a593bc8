set_option maxRecDepth 20000 in
theorem c_X0_only (x0 : Int32) (w : xSt) (rE : Int64) (wE : xSt) (h : f_X0_only x0 w = some (rE, wE)) : xCall yX0_only cX0_only 1 (some .long) 0 0 0 [xI x0] w (some (xL rE), wE) := by
  refine xCall_of false (by decide) (fun q => nomatch q) (Nat.le_of_ble_eq_true rfl) ?_
  show xX cX0_only 1 (some .long) RX0 false (xRm 0 0 0) (xZf (some (xL rE), wE) 0 0) 0 [(0, xI x0)] [] w 0 0
  unfold f_X0_only at h
  refine x_lconst (v := 1) dX0_only_0 (by decide) ?_
  refine x_iload_n (j := 0) (i := 0) dX0_only_1 rfl rfl ?_
  refine x_lshl dX0_only_2 ?_
  obtain ⟨hr9, hw9⟩ := Prod.mk.inj (Option.some.inj h)
  subst hw9
  subst hr9
  exact x_lret dX0_only_3 rfl rfl
set_option maxRecDepth 20000 in
theorem k_X0_init_b133 (k49 : Nat → Int32 → Int32 → Int64 → Int64 → Int64 → Int32 → xSt → Option (Unit × xSt)) (rE : Unit) (wE : xSt) (hk49 : ∀ (x0 : Nat) (x1 : Int32) (x2 : Int32) (x3 : Int64) (x5 : Int64) (x7 : Int64) (x9 : Int32) (w : xSt), k49 x0 x1 x2 x3 x5 x7 x9 w = some (rE, wE) → xX cX0_init 12 none RX0 true (xRm 1 2 68) (xZf (none, wE) 2 68) 49 [(0, xR x0), (1, xI x1), (2, xI x2), (3, xL x3), (5, xL x5), (7, xL x7), (9, xI x9)] [] w 0 0) (x0 : Nat) (x1 : Int32) (x2 : Int32) (x3 : Int64) (x5 : Int64) (x9 : Int32) (s0 : Int64) (s1 : Int64) (w : xSt) (h : f_X0_init_b133 k49 x0 x1 x2 x3 x5 x9 s0 s1 w = some (rE, wE)) : xX cX0_init 12 none RX0 true (xRm 1 2 68) (xZf (none, wE) 2 68) 133 [(0, xR x0), (1, xI x1), (2, xI x2), (3, xL x3), (5, xL x5), (9, xI x9)] [xL s1, xL s0] w 0 0 := by
  unfold f_X0_init_b133 at h
  refine x_lor dX0_init_133 ?_
  refine x_lstore (i := 7) (lv2 := [(7, xL (s0 ||| s1)), (0, xR x0), (1, xI x1), (2, xI x2), (3, xL x3), (5, xL x5), (9, xI x9)]) dX0_init_134 (by decide) rfl ?_
  refine x_aload_n (j := 1) (i := 0) dX0_init_136 rfl rfl ?_
  obtain ⟨g59, h⟩ := gd_some h
  refine x_getR (ci := 0) (k := 6) dX0_init_137 lf_RX0_19 rfl g59 ?_
  refine x_iconst (v := 0) dX0_init_140 (by decide) ?_
  refine x_dup2 dX0_init_141 rfl rfl ?_
  obtain ⟨g60, h⟩ := gd_some h
  obtain ⟨g61, h⟩ := gd_some h
  refine x_lald dX0_init_142 g60 g61 ?_
  refine x_iload (j := 6) (i := 9) dX0_init_143 rfl ?_
  obtain ⟨v62, w63, hc64, h⟩ := bd_s h
  refine x_callSL dX0_init_145 ml_RX0_27 mb_X0_only (c_X0_only x9 w v62 w63 hc64) [xL (wL w (wR w x0 6) (0 : Int32).toNatClampNeg), xI (0 : Int32), xR (wR w x0 6)] rfl rfl (Nat.le_of_ble_eq_true rfl) (by decide) (by decide) ?_
  refine x_lor dX0_init_148 ?_
  obtain ⟨g65, h⟩ := gd_some h
  obtain ⟨g66, h⟩ := gd_some h
  obtain ⟨w67, hw68, h⟩ := lt1_some h
  refine x_last dX0_init_149 g65 g66 ?_
  rw [← hw68]
  refine x_aload_n (j := 1) (i := 0) dX0_init_150 rfl rfl ?_
  obtain ⟨g69, h⟩ := gd_some h
  refine x_getR (ci := 0) (k := 7) dX0_init_151 lf_RX0_23 rfl g69 ?_
  refine x_iload (j := 6) (i := 9) dX0_init_154 rfl ?_
  refine x_bipush (v := 50) dX0_init_156 (by decide) ?_
  obtain ⟨g70, h⟩ := gd_some h
  obtain ⟨g71, h⟩ := gd_some h
  obtain ⟨w72, hw73, h⟩ := lt1_some h
  refine x_iast dX0_init_158 g70 g71 ?_
  rw [← hw73]
  refine x_iinc (j := 6) (i := 9) (v := x9 + (1 : Int32)) (lv2 := [(9, xI (x9 + (1 : Int32))), (7, xL (s0 ||| s1)), (0, xR x0), (1, xI x1), (2, xI x2), (3, xL x3), (5, xL x5)]) dX0_init_159 rfl rfl (by decide) rfl ?_
  refine x_goto (tgt := 49) dX0_init_162 (by decide) ?_
  refine x_lv (lv2 := [(0, xR x0), (1, xI x1), (2, xI x2), (3, xL x3), (5, xL x5), (7, xL (s0 ||| s1)), (9, xI (x9 + (1 : Int32)))]) [2, 3, 4, 5, 6, 1, 0] rfl ?_
  exact hk49 x0 x1 x2 x3 x5 (s0 ||| s1) (x9 + (1 : Int32)) w72 h
set_option maxRecDepth 20000 in
theorem k_X0_init_b106 (k49 : Nat → Int32 → Int32 → Int64 → Int64 → Int64 → Int32 → xSt → Option (Unit × xSt)) (rE : Unit) (wE : xSt) (hk49 : ∀ (x0 : Nat) (x1 : Int32) (x2 : Int32) (x3 : Int64) (x5 : Int64) (x7 : Int64) (x9 : Int32) (w : xSt), k49 x0 x1 x2 x3 x5 x7 x9 w = some (rE, wE) → xX cX0_init 12 none RX0 true (xRm 1 2 68) (xZf (none, wE) 2 68) 49 [(0, xR x0), (1, xI x1), (2, xI x2), (3, xL x3), (5, xL x5), (7, xL x7), (9, xI x9)] [] w 0 0) (x0 : Nat) (x1 : Int32) (x2 : Int32) (x3 : Int64) (x7 : Int64) (x9 : Int32) (x11 : Int32) (s0 : Int64) (s1 : Int64) (w : xSt) (h : f_X0_init_b106 k49 x0 x1 x2 x3 x7 x9 x11 s0 s1 w = some (rE, wE)) : xX cX0_init 12 none RX0 true (xRm 1 2 68) (xZf (none, wE) 2 68) 106 [(0, xR x0), (1, xI x1), (2, xI x2), (3, xL x3), (7, xL x7), (9, xI x9), (11, xI x11)] [xL s1, xL s0] w 0 0 := by
  unfold f_X0_init_b106 at h
  refine x_lor dX0_init_106 ?_
  refine x_lstore (i := 5) (lv2 := [(5, xL (s0 ||| s1)), (0, xR x0), (1, xI x1), (2, xI x2), (3, xL x3), (7, xL x7), (9, xI x9), (11, xI x11)]) dX0_init_107 (by decide) rfl ?_
  refine x_lload (j := 5) (i := 7) dX0_init_109 rfl ?_
  refine x_iload (j := 7) (i := 11) dX0_init_111 rfl ?_
  refine x_if_eq (tgt := 124) dX0_init_113 (by decide) (fun hc51 => ?_) (fun hc51 => ?_)
  · rw [if_pos hc51] at h
    refine x_iload (j := 6) (i := 9) dX0_init_124 rfl ?_
    obtain ⟨v52, w53, hc54, h⟩ := bd_s h
    refine x_callSL dX0_init_126 ml_RX0_27 mb_X0_only (c_X0_only x9 w v52 w53 hc54) [xL x7] rfl rfl (Nat.le_of_ble_eq_true rfl) (by decide) (by decide) ?_
    refine x_goto (tgt := 133) dX0_init_129 (by decide) ?_
    refine x_lv (lv2 := [(0, xR x0), (1, xI x1), (2, xI x2), (3, xL x3), (5, xL (s0 ||| s1)), (9, xI x9)]) [1, 2, 3, 4, 0, 6] rfl ?_
    exact k_X0_init_b133 k49 rE wE hk49 x0 x1 x2 x3 (s0 ||| s1) x9 x7 v52 w53 h
  · rw [if_neg hc51] at h
    refine x_iload (j := 7) (i := 11) dX0_init_116 rfl ?_
    refine x_iload_n (j := 3) (i := 2) dX0_init_118 rfl rfl ?_
    refine x_iconst (v := 1) dX0_init_119 (by decide) ?_
    refine x_isub dX0_init_120 ?_
    refine x_icmp_ne (tgt := 132) dX0_init_121 (by decide) (fun hc55 => ?_) (fun hc55 => ?_)
    · rw [if_neg hc55] at h
      refine x_lconst (v := 0) dX0_init_132 (by decide) ?_
      refine x_lv (lv2 := [(0, xR x0), (1, xI x1), (2, xI x2), (3, xL x3), (5, xL (s0 ||| s1)), (9, xI x9)]) [1, 2, 3, 4, 0, 6] rfl ?_
      exact k_X0_init_b133 k49 rE wE hk49 x0 x1 x2 x3 (s0 ||| s1) x9 x7 (0 : Int64) w h
    · rw [if_pos hc55] at h
      refine x_iload (j := 6) (i := 9) dX0_init_124 rfl ?_
      obtain ⟨v56, w57, hc58, h⟩ := bd_s h
      refine x_callSL dX0_init_126 ml_RX0_27 mb_X0_only (c_X0_only x9 w v56 w57 hc58) [xL x7] rfl rfl (Nat.le_of_ble_eq_true rfl) (by decide) (by decide) ?_
      refine x_goto (tgt := 133) dX0_init_129 (by decide) ?_
      refine x_lv (lv2 := [(0, xR x0), (1, xI x1), (2, xI x2), (3, xL x3), (5, xL (s0 ||| s1)), (9, xI x9)]) [1, 2, 3, 4, 0, 6] rfl ?_
      exact k_X0_init_b133 k49 rE wE hk49 x0 x1 x2 x3 (s0 ||| s1) x9 x7 v56 w57 h
set_option maxRecDepth 20000 in
theorem k_X0_init_b85 (k49 : Nat → Int32 → Int32 → Int64 → Int64 → Int64 → Int32 → xSt → Option (Unit × xSt)) (rE : Unit) (wE : xSt) (hk49 : ∀ (x0 : Nat) (x1 : Int32) (x2 : Int32) (x3 : Int64) (x5 : Int64) (x7 : Int64) (x9 : Int32) (w : xSt), k49 x0 x1 x2 x3 x5 x7 x9 w = some (rE, wE) → xX cX0_init 12 none RX0 true (xRm 1 2 68) (xZf (none, wE) 2 68) 49 [(0, xR x0), (1, xI x1), (2, xI x2), (3, xL x3), (5, xL x5), (7, xL x7), (9, xI x9)] [] w 0 0) (x0 : Nat) (x1 : Int32) (x2 : Int32) (x5 : Int64) (x7 : Int64) (x9 : Int32) (x10 : Int32) (x11 : Int32) (s0 : Int64) (s1 : Int64) (w : xSt) (h : f_X0_init_b85 k49 x0 x1 x2 x5 x7 x9 x10 x11 s0 s1 w = some (rE, wE)) : xX cX0_init 12 none RX0 true (xRm 1 2 68) (xZf (none, wE) 2 68) 85 [(0, xR x0), (1, xI x1), (2, xI x2), (5, xL x5), (7, xL x7), (9, xI x9), (10, xI x10), (11, xI x11)] [xL s1, xL s0] w 0 0 := by
  unfold f_X0_init_b85 at h
  refine x_lor dX0_init_85 ?_
  refine x_lstore_n (i := 3) (lv2 := [(3, xL (s0 ||| s1)), (0, xR x0), (1, xI x1), (2, xI x2), (5, xL x5), (7, xL x7), (9, xI x9), (10, xI x10), (11, xI x11)]) dX0_init_86 rfl (by decide) rfl ?_
  refine x_lload (j := 4) (i := 5) dX0_init_87 rfl ?_
  refine x_iload (j := 7) (i := 10) dX0_init_89 rfl ?_
  refine x_iload_n (j := 2) (i := 1) dX0_init_91 rfl rfl ?_
  refine x_iconst (v := 1) dX0_init_92 (by decide) ?_
  refine x_isub dX0_init_93 ?_
  refine x_icmp_ne (tgt := 105) dX0_init_94 (by decide) (fun hc47 => ?_) (fun hc47 => ?_)
  · rw [if_neg hc47] at h
    refine x_lconst (v := 0) dX0_init_105 (by decide) ?_
    refine x_lv (lv2 := [(0, xR x0), (1, xI x1), (2, xI x2), (3, xL (s0 ||| s1)), (7, xL x7), (9, xI x9), (11, xI x11)]) [1, 2, 3, 0, 5, 6, 8] rfl ?_
    exact k_X0_init_b106 k49 rE wE hk49 x0 x1 x2 (s0 ||| s1) x7 x9 x11 x5 (0 : Int64) w h
  · rw [if_pos hc47] at h
    refine x_iload (j := 6) (i := 9) dX0_init_97 rfl ?_
    obtain ⟨v48, w49, hc50, h⟩ := bd_s h
    refine x_callSL dX0_init_99 ml_RX0_27 mb_X0_only (c_X0_only x9 w v48 w49 hc50) [xL x5] rfl rfl (Nat.le_of_ble_eq_true rfl) (by decide) (by decide) ?_
    refine x_goto (tgt := 106) dX0_init_102 (by decide) ?_
    refine x_lv (lv2 := [(0, xR x0), (1, xI x1), (2, xI x2), (3, xL (s0 ||| s1)), (7, xL x7), (9, xI x9), (11, xI x11)]) [1, 2, 3, 0, 5, 6, 8] rfl ?_
    exact k_X0_init_b106 k49 rE wE hk49 x0 x1 x2 (s0 ||| s1) x7 x9 x11 x5 v48 w49 h
set_option maxRecDepth 20000 in
theorem k_X0_init_l49 (rE : Unit) (wE : xSt) : ∀ (n : Nat) (x0 : Nat) (x1 : Int32) (x2 : Int32) (x3 : Int64) (x5 : Int64) (x7 : Int64) (x9 : Int32) (w : xSt), f_X0_init_l49 n x0 x1 x2 x3 x5 x7 x9 w = some (rE, wE) → xX cX0_init 12 none RX0 true (xRm 1 2 68) (xZf (none, wE) 2 68) 49 [(0, xR x0), (1, xI x1), (2, xI x2), (3, xL x3), (5, xL x5), (7, xL x7), (9, xI x9)] [] w 0 0 := by
  intro n
  induction n with
  | zero => intro x0 x1 x2 x3 x5 x7 x9 w h; exact nomatch (show (none : Option (Unit × xSt)) = some (rE, wE) from h)
  | succ n ih =>
    intro x0 x1 x2 x3 x5 x7 x9 w h
    rw [f_X0_init_l49_s] at h
    refine x_iload (j := 6) (i := 9) dX0_init_49 rfl ?_
    refine x_aload_n (j := 0) (i := 0) dX0_init_51 rfl rfl ?_
    obtain ⟨g31, h⟩ := gd_some h
    refine x_getI (ci := 0) (k := 2) dX0_init_52 lf_RX0_16 rfl g31 ?_
    refine x_icmp_ge (tgt := 165) dX0_init_55 (by decide) (fun hc32 => ?_) (fun hc32 => ?_)
    · rw [if_pos hc32] at h
      refine x_aload_n (j := 0) (i := 0) dX0_init_165 rfl rfl ?_
      refine x_lload_n (j := 3) (i := 3) dX0_init_166 rfl rfl ?_
      obtain ⟨w33, hw34, h⟩ := lt1_some h
      refine x_putL (ci := 0) (k := 3) dX0_init_167 lw_RX0_31_w rfl g31 ?_
      rw [← hw34]
      refine x_aload_n (j := 0) (i := 0) dX0_init_170 rfl rfl ?_
      refine x_lload (j := 4) (i := 5) dX0_init_171 rfl ?_
      have g35 : isC w33 x0 0 := by rw [hw34]; exact g31
      obtain ⟨w36, hw37, h⟩ := lt1_some h
      refine x_putL (ci := 0) (k := 4) dX0_init_173 lw_RX0_35_w rfl g35 ?_
      rw [← hw37]
      refine x_aload_n (j := 0) (i := 0) dX0_init_176 rfl rfl ?_
      refine x_lload (j := 5) (i := 7) dX0_init_177 rfl ?_
      refine x_lload_n (j := 3) (i := 3) dX0_init_179 rfl rfl ?_
      refine x_lor dX0_init_180 ?_
      refine x_lload (j := 4) (i := 5) dX0_init_181 rfl ?_
      refine x_lor dX0_init_183 ?_
      have g38 : isC w36 x0 0 := by rw [hw37]; exact g35
      obtain ⟨w39, hw40, h⟩ := lt1_some h
      refine x_putL (ci := 0) (k := 5) dX0_init_184 lw_RX0_38_w rfl g38 ?_
      rw [← hw40]
      obtain ⟨hr9, hw9⟩ := Prod.mk.inj (Option.some.inj h)
      subst hw9
      exact x_vret dX0_init_187 rfl rfl
    · rw [if_neg hc32] at h
      refine x_iload (j := 6) (i := 9) dX0_init_58 rfl ?_
      refine x_iload_n (j := 1) (i := 1) dX0_init_60 rfl rfl ?_
      obtain ⟨g41, h⟩ := gd_some h
      refine x_irem dX0_init_61 g41 ?_
      refine x_istore (i := 10) (lv2 := [(10, xI (x9 - x9 / x1 * x1)), (0, xR x0), (1, xI x1), (2, xI x2), (3, xL x3), (5, xL x5), (7, xL x7), (9, xI x9)]) dX0_init_62 (by decide) rfl ?_
      refine x_iload (j := 7) (i := 9) dX0_init_64 rfl ?_
      refine x_iload_n (j := 2) (i := 1) dX0_init_66 rfl rfl ?_
      obtain ⟨g42, h⟩ := gd_some h
      refine x_idiv dX0_init_67 g42 ?_
      refine x_istore (i := 11) (lv2 := [(11, xI (x9 / x1)), (10, xI (x9 - x9 / x1 * x1)), (0, xR x0), (1, xI x1), (2, xI x2), (3, xL x3), (5, xL x5), (7, xL x7), (9, xI x9)]) dX0_init_68 (by decide) rfl ?_
      refine x_lload_n (j := 5) (i := 3) dX0_init_70 rfl rfl ?_
      refine x_iload (j := 1) (i := 10) dX0_init_71 rfl ?_
      refine x_if_ne (tgt := 84) dX0_init_73 (by decide) (fun hc43 => ?_) (fun hc43 => ?_)
      · rw [if_neg hc43] at h
        refine x_lconst (v := 0) dX0_init_84 (by decide) ?_
        refine x_lv (lv2 := [(0, xR x0), (1, xI x1), (2, xI x2), (5, xL x5), (7, xL x7), (9, xI x9), (10, xI (x9 - x9 / x1 * x1)), (11, xI (x9 / x1))]) [2, 3, 4, 6, 7, 8, 1, 0] rfl ?_
        exact k_X0_init_b85 (f_X0_init_l49 n) rE wE ih x0 x1 x2 x5 x7 x9 (x9 - x9 / x1 * x1) (x9 / x1) x3 (0 : Int64) w h
      · rw [if_pos hc43] at h
        refine x_iload (j := 8) (i := 9) dX0_init_76 rfl ?_
        obtain ⟨v44, w45, hc46, h⟩ := bd_s h
        refine x_callSL dX0_init_78 ml_RX0_27 mb_X0_only (c_X0_only x9 w v44 w45 hc46) [xL x3] rfl rfl (Nat.le_of_ble_eq_true rfl) (by decide) (by decide) ?_
        refine x_goto (tgt := 85) dX0_init_81 (by decide) ?_
        refine x_lv (lv2 := [(0, xR x0), (1, xI x1), (2, xI x2), (5, xL x5), (7, xL x7), (9, xI x9), (10, xI (x9 - x9 / x1 * x1)), (11, xI (x9 / x1))]) [2, 3, 4, 6, 7, 8, 1, 0] rfl ?_
        exact k_X0_init_b85 (f_X0_init_l49 n) rE wE ih x0 x1 x2 x5 x7 x9 (x9 - x9 / x1 * x1) (x9 / x1) x3 v44 w45 h
set_option maxRecDepth 20000 in
theorem c_X0_init (x0 : Nat) (x1 : Int32) (x2 : Int32) (w : xSt) (rE : Unit) (wE : xSt) (h : f_X0_init x0 x1 x2 w = some (rE, wE)) : xCall yX0_init cX0_init 12 none 1 2 68 [xR x0, xI x1, xI x2] w (none, wE) := by
  refine xCall_of true (by decide) (fun _ => rfl) (Nat.le_of_ble_eq_true rfl) ?_
  show xX cX0_init 12 none RX0 true (xRm 1 2 68) (xZf (none, wE) 2 68) 0 [(0, xR x0), (1, xI x1), (2, xI x2)] [] w 2 68
  unfold f_X0_init at h
  refine x_aload_n (j := 0) (i := 0) dX0_init_0 rfl rfl ?_
  obtain ⟨g1, h⟩ := gd_some h
  refine x_objInit dX0_init_1 lo_RX0_1 lo_inst lo_code g1 (Nat.le_of_ble_eq_true rfl) (by decide) (by decide) ?_
  refine x_aload_n (j := 0) (i := 0) dX0_init_4 rfl rfl ?_
  refine x_iload_n (j := 1) (i := 1) dX0_init_5 rfl rfl ?_
  obtain ⟨w2, hw3, h⟩ := lt1_some h
  refine x_putI (ci := 0) (k := 0) dX0_init_6 lw_RX0_7_w rfl g1 ?_
  rw [← hw3]
  refine x_aload_n (j := 0) (i := 0) dX0_init_9 rfl rfl ?_
  refine x_iload_n (j := 2) (i := 2) dX0_init_10 rfl rfl ?_
  have g4 : isC w2 x0 0 := by rw [hw3]; exact g1
  obtain ⟨w5, hw6, h⟩ := lt1_some h
  refine x_putI (ci := 0) (k := 1) dX0_init_11 lw_RX0_13_w rfl g4 ?_
  rw [← hw6]
  refine x_aload_n (j := 0) (i := 0) dX0_init_14 rfl rfl ?_
  refine x_iload_n (j := 1) (i := 1) dX0_init_15 rfl rfl ?_
  refine x_iload_n (j := 2) (i := 2) dX0_init_16 rfl rfl ?_
  refine x_imul dX0_init_17 ?_
  have g7 : isC w5 x0 0 := by rw [hw6]; exact g4
  obtain ⟨w8, hw9, h⟩ := lt1_some h
  refine x_putI (ci := 0) (k := 2) dX0_init_18 lw_RX0_16_w rfl g7 ?_
  rw [← hw9]
  refine x_aload_n (j := 0) (i := 0) dX0_init_21 rfl rfl ?_
  refine x_iconst (v := 4) dX0_init_22 (by decide) ?_
  obtain ⟨g10, h⟩ := gd_some h
  obtain ⟨q11, hq12, h⟩ := lt1_some h
  obtain ⟨w13, hw14, h⟩ := lt1_some h
  refine x_newa_long 4 dX0_init_23 la_long (by decide) (by decide) g10 (by decide) (by decide) ?_
  rw [← hq12, ← hw14]
  have g15 : isC w13 q11 21 := by rw [hw14, hq12]; exact isC_new _ _ _
  have g16 : isC w8 x0 0 := by rw [hw9]; exact g7
  have g17 : isC w13 x0 0 := by rw [hw14]; exact isC_nA _ _ g16
  obtain ⟨w18, hw19, h⟩ := lt1_some h
  refine x_putR (ci := 0) (k := 6) dX0_init_25 lw_RX0_19_w rfl g17 ?_
  rw [← hw19]
  refine x_aload_n (j := 0) (i := 0) dX0_init_28 rfl rfl ?_
  refine x_aload_n (j := 0) (i := 0) dX0_init_29 rfl rfl ?_
  have g20 : isC w18 x0 0 := by rw [hw19]; exact g17
  refine x_getI (ci := 0) (k := 2) dX0_init_30 lf_RX0_16 rfl g20 ?_
  obtain ⟨g21, h⟩ := gd_some h
  obtain ⟨g22, h⟩ := gd_some h
  obtain ⟨q23, hq24, h⟩ := lt1_some h
  obtain ⟨w25, hw26, h⟩ := lt1_some h
  refine x_newa_int 64 dX0_init_33 la_int g22 (by decide) g21 (by decide) (by decide) ?_
  rw [← hq24, ← hw26]
  have g27 : isC w25 q23 20 := by rw [hw26, hq24]; exact isC_new _ _ _
  have g28 : isC w25 x0 0 := by rw [hw26]; exact isC_nA _ _ g20
  obtain ⟨w29, hw30, h⟩ := lt1_some h
  refine x_putR (ci := 0) (k := 7) dX0_init_35 lw_RX0_23_w rfl g28 ?_
  rw [← hw30]
  refine x_lconst (v := 0) dX0_init_38 (by decide) ?_
  refine x_lstore_n (i := 3) (lv2 := [(3, xL (0 : Int64)), (0, xR x0), (1, xI x1), (2, xI x2)]) dX0_init_39 rfl (by decide) rfl ?_
  refine x_lconst (v := 0) dX0_init_40 (by decide) ?_
  refine x_lstore (i := 5) (lv2 := [(5, xL (0 : Int64)), (3, xL (0 : Int64)), (0, xR x0), (1, xI x1), (2, xI x2)]) dX0_init_41 (by decide) rfl ?_
  refine x_lconst (v := 0) dX0_init_43 (by decide) ?_
  refine x_lstore (i := 7) (lv2 := [(7, xL (0 : Int64)), (5, xL (0 : Int64)), (3, xL (0 : Int64)), (0, xR x0), (1, xI x1), (2, xI x2)]) dX0_init_44 (by decide) rfl ?_
  refine x_iconst (v := 0) dX0_init_46 (by decide) ?_
  refine x_istore (i := 9) (lv2 := [(9, xI (0 : Int32)), (7, xL (0 : Int64)), (5, xL (0 : Int64)), (3, xL (0 : Int64)), (0, xR x0), (1, xI x1), (2, xI x2)]) dX0_init_47 (by decide) rfl ?_
  refine x_lv (lv2 := [(0, xR x0), (1, xI x1), (2, xI x2), (3, xL (0 : Int64)), (5, xL (0 : Int64)), (7, xL (0 : Int64)), (9, xI (0 : Int32))]) [4, 5, 6, 3, 2, 1, 0] rfl ?_
  exact k_X0_init_l49 rE wE xFu x0 x1 x2 (0 : Int64) (0 : Int64) (0 : Int64) (0 : Int32) w29 h
set_option maxRecDepth 20000 in
theorem c_X0_has (x0 : Nat) (x1 : Int32) (w : xSt) (rE : Int32) (wE : xSt) (h : f_X0_has x0 x1 w = some (rE, wE)) : xCall yX0_has cX0_has 2 (some .boolean) 0 0 0 [xR x0, xI x1] w (some (xI rE), wE) := by
  refine xCall_of false (by decide) (fun q => nomatch q) (Nat.le_of_ble_eq_true rfl) ?_
  show xX cX0_has 2 (some .boolean) RX0 false (xRm 0 0 0) (xZf (some (xI rE), wE) 0 0) 0 [(0, xR x0), (1, xI x1)] [] w 0 0
  unfold f_X0_has at h
  refine x_iload_n (j := 1) (i := 1) dX0_has_0 rfl rfl ?_
  refine x_if_lt (tgt := 16) dX0_has_1 (by decide) (fun hc1 => ?_) (fun hc1 => ?_)
  · rw [if_pos hc1] at h
    refine x_iconst (v := 0) dX0_has_16 (by decide) ?_
    obtain ⟨hr9, hw9⟩ := Prod.mk.inj (Option.some.inj h)
    subst hw9
    subst hr9
    exact x_zret dX0_has_17 rfl (by decide) rfl
  · rw [if_neg hc1] at h
    refine x_iload_n (j := 1) (i := 1) dX0_has_4 rfl rfl ?_
    refine x_aload_n (j := 0) (i := 0) dX0_has_5 rfl rfl ?_
    obtain ⟨g2, h⟩ := gd_some h
    refine x_getI (ci := 0) (k := 2) dX0_has_6 lf_RX0_16 rfl g2 ?_
    refine x_icmp_ge (tgt := 16) dX0_has_9 (by decide) (fun hc3 => ?_) (fun hc3 => ?_)
    · rw [if_pos hc3] at h
      refine x_iconst (v := 0) dX0_has_16 (by decide) ?_
      obtain ⟨hr9, hw9⟩ := Prod.mk.inj (Option.some.inj h)
      subst hw9
      subst hr9
      exact x_zret dX0_has_17 rfl (by decide) rfl
    · rw [if_neg hc3] at h
      refine x_iconst (v := 1) dX0_has_12 (by decide) ?_
      refine x_goto (tgt := 17) dX0_has_13 (by decide) ?_
      obtain ⟨hr9, hw9⟩ := Prod.mk.inj (Option.some.inj h)
      subst hw9
      subst hr9
      exact x_zret dX0_has_17 rfl (by decide) rfl
set_option maxRecDepth 20000 in
theorem c_X0_columnOf (x0 : Nat) (x1 : Int32) (w : xSt) (rE : Int32) (wE : xSt) (h : f_X0_columnOf x0 x1 w = some (rE, wE)) : xCall yX0_columnOf cX0_columnOf 2 (some .int) 0 0 0 [xR x0, xI x1] w (some (xI rE), wE) := by
  refine xCall_of false (by decide) (fun q => nomatch q) (Nat.le_of_ble_eq_true rfl) ?_
  show xX cX0_columnOf 2 (some .int) RX0 false (xRm 0 0 0) (xZf (some (xI rE), wE) 0 0) 0 [(0, xR x0), (1, xI x1)] [] w 0 0
  unfold f_X0_columnOf at h
  refine x_iload_n (j := 1) (i := 1) dX0_columnOf_0 rfl rfl ?_
  refine x_aload_n (j := 0) (i := 0) dX0_columnOf_1 rfl rfl ?_
  obtain ⟨g1, h⟩ := gd_some h
  refine x_getI (ci := 0) (k := 0) dX0_columnOf_2 lf_RX0_7 rfl g1 ?_
  obtain ⟨g2, h⟩ := gd_some h
  refine x_irem dX0_columnOf_5 g2 ?_
  obtain ⟨hr9, hw9⟩ := Prod.mk.inj (Option.some.inj h)
  subst hw9
  subst hr9
  exact x_iret dX0_columnOf_6 rfl rfl
set_option maxRecDepth 20000 in
theorem c_X0_lineOf (x0 : Nat) (x1 : Int32) (w : xSt) (rE : Int32) (wE : xSt) (h : f_X0_lineOf x0 x1 w = some (rE, wE)) : xCall yX0_lineOf cX0_lineOf 2 (some .int) 0 0 0 [xR x0, xI x1] w (some (xI rE), wE) := by
  refine xCall_of false (by decide) (fun q => nomatch q) (Nat.le_of_ble_eq_true rfl) ?_
  show xX cX0_lineOf 2 (some .int) RX0 false (xRm 0 0 0) (xZf (some (xI rE), wE) 0 0) 0 [(0, xR x0), (1, xI x1)] [] w 0 0
  unfold f_X0_lineOf at h
  refine x_iload_n (j := 1) (i := 1) dX0_lineOf_0 rfl rfl ?_
  refine x_aload_n (j := 0) (i := 0) dX0_lineOf_1 rfl rfl ?_
  obtain ⟨g1, h⟩ := gd_some h
  refine x_getI (ci := 0) (k := 0) dX0_lineOf_2 lf_RX0_7 rfl g1 ?_
  obtain ⟨g2, h⟩ := gd_some h
  refine x_idiv dX0_lineOf_5 g2 ?_
  obtain ⟨hr9, hw9⟩ := Prod.mk.inj (Option.some.inj h)
  subst hw9
  subst hr9
  exact x_iret dX0_lineOf_6 rfl rfl
set_option maxRecDepth 20000 in
theorem c_X0_onEdge (x0 : Nat) (x1 : Int32) (w : xSt) (rE : Int32) (wE : xSt) (h : f_X0_onEdge x0 x1 w = some (rE, wE)) : xCall yX0_onEdge cX0_onEdge 2 (some .boolean) 1 0 0 [xR x0, xI x1] w (some (xI rE), wE) := by
  refine xCall_of false (by decide) (fun q => nomatch q) (Nat.le_of_ble_eq_true rfl) ?_
  show xX cX0_onEdge 2 (some .boolean) RX0 false (xRm 1 0 0) (xZf (some (xI rE), wE) 0 0) 0 [(0, xR x0), (1, xI x1)] [] w 0 0
  unfold f_X0_onEdge at h
  refine x_aload_n (j := 0) (i := 0) dX0_onEdge_0 rfl rfl ?_
  obtain ⟨g1, h⟩ := gd_some h
  refine x_getL (ci := 0) (k := 5) dX0_onEdge_1 lf_RX0_38 rfl g1 ?_
  refine x_iload_n (j := 1) (i := 1) dX0_onEdge_4 rfl rfl ?_
  obtain ⟨v2, w3, hc4, h⟩ := bd_s h
  refine x_callSL dX0_onEdge_5 ml_RX0_27 mb_X0_only (c_X0_only x1 w v2 w3 hc4) [xL (wL w x0 5)] rfl rfl (Nat.le_of_ble_eq_true rfl) (by decide) (by decide) ?_
  refine x_land dX0_onEdge_8 ?_
  refine x_lconst (v := 0) dX0_onEdge_9 (by decide) ?_
  refine x_lcmp dX0_onEdge_10 ?_
  refine x_if_eq (tgt := 18) dX0_onEdge_11 (by decide) (fun hc5 => ?_) (fun hc5 => ?_)
  · rw [if_pos hc5] at h
    refine x_iconst (v := 0) dX0_onEdge_18 (by decide) ?_
    obtain ⟨hr9, hw9⟩ := Prod.mk.inj (Option.some.inj h)
    subst hw9
    subst hr9
    exact x_zret dX0_onEdge_19 rfl (by decide) rfl
  · rw [if_neg hc5] at h
    refine x_iconst (v := 1) dX0_onEdge_14 (by decide) ?_
    refine x_goto (tgt := 19) dX0_onEdge_15 (by decide) ?_
    obtain ⟨hr9, hw9⟩ := Prod.mk.inj (Option.some.inj h)
    subst hw9
    subst hr9
    exact x_zret dX0_onEdge_19 rfl (by decide) rfl
set_option maxRecDepth 20000 in
theorem c_X0_open (x0 : Nat) (w : xSt) (rE : Int64) (wE : xSt) (h : f_X0_open x0 w = some (rE, wE)) : xCall yX0_open cX0_open 1 (some .long) 0 0 0 [xR x0] w (some (xL rE), wE) := by
  refine xCall_of false (by decide) (fun q => nomatch q) (Nat.le_of_ble_eq_true rfl) ?_
  show xX cX0_open 1 (some .long) RX0 false (xRm 0 0 0) (xZf (some (xL rE), wE) 0 0) 0 [(0, xR x0)] [] w 0 0
  unfold f_X0_open at h
  refine x_aload_n (j := 0) (i := 0) dX0_open_0 rfl rfl ?_
  obtain ⟨g1, h⟩ := gd_some h
  refine x_getR (ci := 0) (k := 6) dX0_open_1 lf_RX0_19 rfl g1 ?_
  refine x_iconst (v := 0) dX0_open_4 (by decide) ?_
  obtain ⟨g2, h⟩ := gd_some h
  obtain ⟨g3, h⟩ := gd_some h
  refine x_lald dX0_open_5 g2 g3 ?_
  refine x_aload_n (j := 0) (i := 0) dX0_open_6 rfl rfl ?_
  refine x_getR (ci := 0) (k := 6) dX0_open_7 lf_RX0_19 rfl g1 ?_
  refine x_iconst (v := 1) dX0_open_10 (by decide) ?_
  obtain ⟨g4, h⟩ := gd_some h
  refine x_lald dX0_open_11 g2 g4 ?_
  refine x_lor dX0_open_12 ?_
  obtain ⟨hr9, hw9⟩ := Prod.mk.inj (Option.some.inj h)
  subst hw9
  subst hr9
  exact x_lret dX0_open_13 rfl rfl
set_option maxRecDepth 20000 in
theorem c_X0_isOpen (x0 : Nat) (x1 : Int32) (w : xSt) (rE : Int32) (wE : xSt) (h : f_X0_isOpen x0 x1 w = some (rE, wE)) : xCall yX0_isOpen cX0_isOpen 2 (some .boolean) 1 0 0 [xR x0, xI x1] w (some (xI rE), wE) := by
  refine xCall_of false (by decide) (fun q => nomatch q) (Nat.le_of_ble_eq_true rfl) ?_
  show xX cX0_isOpen 2 (some .boolean) RX0 false (xRm 1 0 0) (xZf (some (xI rE), wE) 0 0) 0 [(0, xR x0), (1, xI x1)] [] w 0 0
  unfold f_X0_isOpen at h
  refine x_aload_n (j := 0) (i := 0) dX0_isOpen_0 rfl rfl ?_
  obtain ⟨g4, h⟩ := gd_some h
  obtain ⟨v1, w2, hc3, h⟩ := bd_s h
  refine x_callVL (ci := 0) dX0_isOpen_1 ml_RX0_41 mb_X0_open (c_X0_open x0 w v1 w2 hc3) ⟨_, rfl, rfl⟩ g4 [] rfl rfl (Nat.le_of_ble_eq_true rfl) (by decide) (by decide) ?_
  refine x_iload_n (j := 1) (i := 1) dX0_isOpen_4 rfl rfl ?_
  obtain ⟨v5, w6, hc7, h⟩ := bd_s h
  refine x_callSL dX0_isOpen_5 ml_RX0_27 mb_X0_only (c_X0_only x1 w2 v5 w6 hc7) [xL v1] rfl rfl (Nat.le_of_ble_eq_true rfl) (by decide) (by decide) ?_
  refine x_land dX0_isOpen_8 ?_
  refine x_lconst (v := 0) dX0_isOpen_9 (by decide) ?_
  refine x_lcmp dX0_isOpen_10 ?_
  refine x_if_eq (tgt := 18) dX0_isOpen_11 (by decide) (fun hc8 => ?_) (fun hc8 => ?_)
  · rw [if_pos hc8] at h
    refine x_iconst (v := 0) dX0_isOpen_18 (by decide) ?_
    obtain ⟨hr9, hw9⟩ := Prod.mk.inj (Option.some.inj h)
    subst hw9
    subst hr9
    exact x_zret dX0_isOpen_19 rfl (by decide) rfl
  · rw [if_neg hc8] at h
    refine x_iconst (v := 1) dX0_isOpen_14 (by decide) ?_
    refine x_goto (tgt := 19) dX0_isOpen_15 (by decide) ?_
    obtain ⟨hr9, hw9⟩ := Prod.mk.inj (Option.some.inj h)
    subst hw9
    subst hr9
    exact x_zret dX0_isOpen_19 rfl (by decide) rfl
set_option maxRecDepth 20000 in
theorem k_X0_kindOf_l2 (rE : Int32) (wE : xSt) : ∀ (n : Nat) (x0 : Nat) (x1 : Int32) (x2 : Int32) (w : xSt), f_X0_kindOf_l2 n x0 x1 x2 w = some (rE, wE) → xX cX0_kindOf 3 (some .int) RX0 false (xRm 1 0 0) (xZf (some (xI rE), wE) 0 0) 2 [(0, xR x0), (1, xI x1), (2, xI x2)] [] w 0 0 := by
  intro n
  induction n with
  | zero => intro x0 x1 x2 w h; exact nomatch (show (none : Option (Int32 × xSt)) = some (rE, wE) from h)
  | succ n ih =>
    intro x0 x1 x2 w h
    rw [f_X0_kindOf_l2_s] at h
    refine x_iload_n (j := 2) (i := 2) dX0_kindOf_2 rfl rfl ?_
    refine x_iconst (v := 4) dX0_kindOf_3 (by decide) ?_
    refine x_icmp_ge (tgt := 31) dX0_kindOf_4 (by decide) (fun hc1 => ?_) (fun hc1 => ?_)
    · rw [if_pos hc1] at h
      refine x_iconst (v := 0) dX0_kindOf_31 (by decide) ?_
      obtain ⟨hr9, hw9⟩ := Prod.mk.inj (Option.some.inj h)
      subst hw9
      subst hr9
      exact x_iret dX0_kindOf_32 rfl rfl
    · rw [if_neg hc1] at h
      refine x_aload_n (j := 0) (i := 0) dX0_kindOf_7 rfl rfl ?_
      obtain ⟨g2, h⟩ := gd_some h
      refine x_getR (ci := 0) (k := 6) dX0_kindOf_8 lf_RX0_19 rfl g2 ?_
      refine x_iload_n (j := 2) (i := 2) dX0_kindOf_11 rfl rfl ?_
      obtain ⟨g3, h⟩ := gd_some h
      obtain ⟨g4, h⟩ := gd_some h
      refine x_lald dX0_kindOf_12 g3 g4 ?_
      refine x_iload_n (j := 1) (i := 1) dX0_kindOf_13 rfl rfl ?_
      obtain ⟨v5, w6, hc7, h⟩ := bd_s h
      refine x_callSL dX0_kindOf_14 ml_RX0_27 mb_X0_only (c_X0_only x1 w v5 w6 hc7) [xL (wL w (wR w x0 6) x2.toNatClampNeg)] rfl rfl (Nat.le_of_ble_eq_true rfl) (by decide) (by decide) ?_
      refine x_land dX0_kindOf_17 ?_
      refine x_lconst (v := 0) dX0_kindOf_18 (by decide) ?_
      refine x_lcmp dX0_kindOf_19 ?_
      refine x_if_eq (tgt := 25) dX0_kindOf_20 (by decide) (fun hc8 => ?_) (fun hc8 => ?_)
      · rw [if_pos hc8] at h
        refine x_iinc (j := 2) (i := 2) (v := x2 + (1 : Int32)) (lv2 := [(2, xI (x2 + (1 : Int32))), (0, xR x0), (1, xI x1)]) dX0_kindOf_25 rfl rfl (by decide) rfl ?_
        refine x_goto (tgt := 2) dX0_kindOf_28 (by decide) ?_
        refine x_lv (lv2 := [(0, xR x0), (1, xI x1), (2, xI (x2 + (1 : Int32)))]) [1, 2, 0] rfl ?_
        exact ih x0 x1 (x2 + (1 : Int32)) w6 h
      · rw [if_neg hc8] at h
        refine x_iload_n (j := 2) (i := 2) dX0_kindOf_23 rfl rfl ?_
        obtain ⟨hr9, hw9⟩ := Prod.mk.inj (Option.some.inj h)
        subst hw9
        subst hr9
        exact x_iret dX0_kindOf_24 rfl rfl
set_option maxRecDepth 20000 in
theorem c_X0_kindOf (x0 : Nat) (x1 : Int32) (w : xSt) (rE : Int32) (wE : xSt) (h : f_X0_kindOf x0 x1 w = some (rE, wE)) : xCall yX0_kindOf cX0_kindOf 3 (some .int) 1 0 0 [xR x0, xI x1] w (some (xI rE), wE) := by
  refine xCall_of false (by decide) (fun q => nomatch q) (Nat.le_of_ble_eq_true rfl) ?_
  show xX cX0_kindOf 3 (some .int) RX0 false (xRm 1 0 0) (xZf (some (xI rE), wE) 0 0) 0 [(0, xR x0), (1, xI x1)] [] w 0 0
  unfold f_X0_kindOf at h
  refine x_iconst (v := 1) dX0_kindOf_0 (by decide) ?_
  refine x_istore_n (i := 2) (lv2 := [(2, xI (1 : Int32)), (0, xR x0), (1, xI x1)]) dX0_kindOf_1 rfl (by decide) rfl ?_
  refine x_lv (lv2 := [(0, xR x0), (1, xI x1), (2, xI (1 : Int32))]) [1, 2, 0] rfl ?_
  exact k_X0_kindOf_l2 rE wE xFu x0 x1 (1 : Int32) w h
set_option maxRecDepth 20000 in
theorem k_X0_setKind_l2 (rE : Unit) (wE : xSt) : ∀ (n : Nat) (x0 : Nat) (x1 : Int32) (x2 : Int32) (x3 : Int32) (w : xSt), f_X0_setKind_l2 n x0 x1 x2 x3 w = some (rE, wE) → xX cX0_setKind 4 none RX0 false (xRm 1 0 0) (xZf (none, wE) 0 0) 2 [(0, xR x0), (1, xI x1), (2, xI x2), (3, xI x3)] [] w 0 0 := by
  intro n
  induction n with
  | zero => intro x0 x1 x2 x3 w h; exact nomatch (show (none : Option (Unit × xSt)) = some (rE, wE) from h)
  | succ n ih =>
    intro x0 x1 x2 x3 w h
    rw [f_X0_setKind_l2_s] at h
    refine x_iload_n (j := 3) (i := 3) dX0_setKind_2 rfl rfl ?_
    refine x_iconst (v := 4) dX0_setKind_3 (by decide) ?_
    refine x_icmp_ge (tgt := 30) dX0_setKind_4 (by decide) (fun hc1 => ?_) (fun hc1 => ?_)
    · rw [if_pos hc1] at h
      refine x_aload_n (j := 0) (i := 0) dX0_setKind_30 rfl rfl ?_
      obtain ⟨g2, h⟩ := gd_some h
      refine x_getR (ci := 0) (k := 6) dX0_setKind_31 lf_RX0_19 rfl g2 ?_
      refine x_iload_n (j := 2) (i := 2) dX0_setKind_34 rfl rfl ?_
      refine x_dup2 dX0_setKind_35 rfl rfl ?_
      obtain ⟨g3, h⟩ := gd_some h
      obtain ⟨g4, h⟩ := gd_some h
      refine x_lald dX0_setKind_36 g3 g4 ?_
      refine x_iload_n (j := 1) (i := 1) dX0_setKind_37 rfl rfl ?_
      obtain ⟨v5, w6, hc7, h⟩ := bd_s h
      refine x_callSL dX0_setKind_38 ml_RX0_27 mb_X0_only (c_X0_only x1 w v5 w6 hc7) [xL (wL w (wR w x0 6) x2.toNatClampNeg), xI x2, xR (wR w x0 6)] rfl rfl (Nat.le_of_ble_eq_true rfl) (by decide) (by decide) ?_
      refine x_lor dX0_setKind_41 ?_
      obtain ⟨g8, h⟩ := gd_some h
      obtain ⟨g9, h⟩ := gd_some h
      obtain ⟨w10, hw11, h⟩ := lt1_some h
      refine x_last dX0_setKind_42 g8 g9 ?_
      rw [← hw11]
      obtain ⟨hr9, hw9⟩ := Prod.mk.inj (Option.some.inj h)
      subst hw9
      exact x_vret dX0_setKind_43 rfl rfl
    · rw [if_neg hc1] at h
      refine x_aload_n (j := 0) (i := 0) dX0_setKind_7 rfl rfl ?_
      obtain ⟨g12, h⟩ := gd_some h
      refine x_getR (ci := 0) (k := 6) dX0_setKind_8 lf_RX0_19 rfl g12 ?_
      refine x_iload_n (j := 3) (i := 3) dX0_setKind_11 rfl rfl ?_
      refine x_dup2 dX0_setKind_12 rfl rfl ?_
      obtain ⟨g13, h⟩ := gd_some h
      obtain ⟨g14, h⟩ := gd_some h
      refine x_lald dX0_setKind_13 g13 g14 ?_
      refine x_iload_n (j := 1) (i := 1) dX0_setKind_14 rfl rfl ?_
      obtain ⟨v15, w16, hc17, h⟩ := bd_s h
      refine x_callSL dX0_setKind_15 ml_RX0_27 mb_X0_only (c_X0_only x1 w v15 w16 hc17) [xL (wL w (wR w x0 6) x3.toNatClampNeg), xI x3, xR (wR w x0 6)] rfl rfl (Nat.le_of_ble_eq_true rfl) (by decide) (by decide) ?_
      refine x_ldc2 dX0_setKind_18 lc_RX0_45 ?_
      refine x_lxor dX0_setKind_21 ?_
      refine x_land dX0_setKind_22 ?_
      obtain ⟨g18, h⟩ := gd_some h
      obtain ⟨g19, h⟩ := gd_some h
      obtain ⟨w20, hw21, h⟩ := lt1_some h
      refine x_last dX0_setKind_23 g18 g19 ?_
      rw [← hw21]
      refine x_iinc (j := 3) (i := 3) (v := x3 + (1 : Int32)) (lv2 := [(3, xI (x3 + (1 : Int32))), (0, xR x0), (1, xI x1), (2, xI x2)]) dX0_setKind_24 rfl rfl (by decide) rfl ?_
      refine x_goto (tgt := 2) dX0_setKind_27 (by decide) ?_
      refine x_lv (lv2 := [(0, xR x0), (1, xI x1), (2, xI x2), (3, xI (x3 + (1 : Int32)))]) [1, 2, 3, 0] rfl ?_
      exact ih x0 x1 x2 (x3 + (1 : Int32)) w20 h
set_option maxRecDepth 20000 in
theorem c_X0_setKind (x0 : Nat) (x1 : Int32) (x2 : Int32) (w : xSt) (rE : Unit) (wE : xSt) (h : f_X0_setKind x0 x1 x2 w = some (rE, wE)) : xCall yX0_setKind cX0_setKind 4 none 1 0 0 [xR x0, xI x1, xI x2] w (none, wE) := by
  refine xCall_of false (by decide) (fun q => nomatch q) (Nat.le_of_ble_eq_true rfl) ?_
  show xX cX0_setKind 4 none RX0 false (xRm 1 0 0) (xZf (none, wE) 0 0) 0 [(0, xR x0), (1, xI x1), (2, xI x2)] [] w 0 0
  unfold f_X0_setKind at h
  refine x_iconst (v := 0) dX0_setKind_0 (by decide) ?_
  refine x_istore_n (i := 3) (lv2 := [(3, xI (0 : Int32)), (0, xR x0), (1, xI x1), (2, xI x2)]) dX0_setKind_1 rfl (by decide) rfl ?_
  refine x_lv (lv2 := [(0, xR x0), (1, xI x1), (2, xI x2), (3, xI (0 : Int32))]) [1, 2, 3, 0] rfl ?_
  exact k_X0_setKind_l2 rE wE xFu x0 x1 x2 (0 : Int32) w h
set_option maxRecDepth 20000 in
theorem k_X0_area_l43 (rE : Int64) (wE : xSt) : ∀ (n : Nat) (x0 : Nat) (x1 : Int32) (x3 : Int32) (x4 : Int64) (x6 : Int64) (x8 : Int32) (w : xSt), f_X0_area_l43 n x0 x1 x3 x4 x6 x8 w = some (rE, wE) → xX cX0_area 9 (some .long) RX0 false (xRm 1 0 0) (xZf (some (xL rE), wE) 0 0) 43 [(0, xR x0), (1, xI x1), (3, xI x3), (4, xL x4), (6, xL x6), (8, xI x8)] [] w 0 0 := by
  intro n
  induction n with
  | zero => intro x0 x1 x3 x4 x6 x8 w h; exact nomatch (show (none : Option (Int64 × xSt)) = some (rE, wE) from h)
  | succ n ih =>
    intro x0 x1 x3 x4 x6 x8 w h
    rw [f_X0_area_l43_s] at h
    refine x_iload (j := 5) (i := 8) dX0_area_43 rfl ?_
    refine x_iload_n (j := 2) (i := 3) dX0_area_45 rfl rfl ?_
    refine x_icmp_ge (tgt := 72) dX0_area_46 (by decide) (fun hc12 => ?_) (fun hc12 => ?_)
    · rw [if_pos hc12] at h
      refine x_lload (j := 4) (i := 6) dX0_area_72 rfl ?_
      obtain ⟨hr9, hw9⟩ := Prod.mk.inj (Option.some.inj h)
      subst hw9
      subst hr9
      exact x_lret dX0_area_74 rfl rfl
    · rw [if_neg hc12] at h
      refine x_lload (j := 4) (i := 6) dX0_area_49 rfl ?_
      refine x_lload (j := 3) (i := 4) dX0_area_51 rfl ?_
      refine x_iload_n (j := 1) (i := 1) dX0_area_53 rfl rfl ?_
      refine x_iload (j := 5) (i := 8) dX0_area_54 rfl ?_
      refine x_aload_n (j := 0) (i := 0) dX0_area_56 rfl rfl ?_
      obtain ⟨g13, h⟩ := gd_some h
      refine x_getI (ci := 0) (k := 0) dX0_area_57 lf_RX0_7 rfl g13 ?_
      refine x_imul dX0_area_60 ?_
      refine x_iadd dX0_area_61 ?_
      refine x_lshl dX0_area_62 ?_
      refine x_lor dX0_area_63 ?_
      refine x_lstore (i := 6) (lv2 := [(6, xL (x6 ||| (x4 <<< ((x1 + (x8 * (wI w x0 0))).toInt64 &&& 63)))), (0, xR x0), (1, xI x1), (3, xI x3), (4, xL x4), (8, xI x8)]) dX0_area_64 (by decide) rfl ?_
      refine x_iinc (j := 5) (i := 8) (v := x8 + (1 : Int32)) (lv2 := [(8, xI (x8 + (1 : Int32))), (6, xL (x6 ||| (x4 <<< ((x1 + (x8 * (wI w x0 0))).toInt64 &&& 63)))), (0, xR x0), (1, xI x1), (3, xI x3), (4, xL x4)]) dX0_area_66 rfl rfl (by decide) rfl ?_
      refine x_goto (tgt := 43) dX0_area_69 (by decide) ?_
      refine x_lv (lv2 := [(0, xR x0), (1, xI x1), (3, xI x3), (4, xL x4), (6, xL (x6 ||| (x4 <<< ((x1 + (x8 * (wI w x0 0))).toInt64 &&& 63)))), (8, xI (x8 + (1 : Int32)))]) [2, 3, 4, 5, 1, 0] rfl ?_
      exact ih x0 x1 x3 x4 (x6 ||| (x4 <<< ((x1 + (x8 * (wI w x0 0))).toInt64 &&& 63))) (x8 + (1 : Int32)) w h
set_option maxRecDepth 20000 in
theorem c_X0_area (x0 : Nat) (x1 : Int32) (x2 : Int32) (x3 : Int32) (w : xSt) (rE : Int64) (wE : xSt) (h : f_X0_area x0 x1 x2 x3 w = some (rE, wE)) : xCall yX0_area cX0_area 9 (some .long) 1 0 0 [xR x0, xI x1, xI x2, xI x3] w (some (xL rE), wE) := by
  refine xCall_of false (by decide) (fun q => nomatch q) (Nat.le_of_ble_eq_true rfl) ?_
  show xX cX0_area 9 (some .long) RX0 false (xRm 1 0 0) (xZf (some (xL rE), wE) 0 0) 0 [(0, xR x0), (1, xI x1), (2, xI x2), (3, xI x3)] [] w 0 0
  unfold f_X0_area at h
  refine x_aload_n (j := 0) (i := 0) dX0_area_0 rfl rfl ?_
  refine x_iload_n (j := 1) (i := 1) dX0_area_1 rfl rfl ?_
  obtain ⟨g4, h⟩ := gd_some h
  obtain ⟨v1, w2, hc3, h⟩ := bd_s h
  refine x_callVI (ci := 0) dX0_area_2 ml_RX0_47 mb_X0_columnOf (c_X0_columnOf x0 x1 w v1 w2 hc3) ⟨_, rfl, rfl⟩ g4 [] rfl rfl (Nat.le_of_ble_eq_true rfl) (by decide) (by decide) ?_
  refine x_iload_n (j := 2) (i := 2) dX0_area_5 rfl rfl ?_
  refine x_iadd dX0_area_6 ?_
  refine x_aload_n (j := 0) (i := 0) dX0_area_7 rfl rfl ?_
  obtain ⟨g5, h⟩ := gd_some h
  refine x_getI (ci := 0) (k := 0) dX0_area_8 lf_RX0_7 rfl g5 ?_
  refine x_icmp_gt (tgt := 28) dX0_area_11 (by decide) (fun hc6 => ?_) (fun hc6 => ?_)
  · rw [if_pos hc6] at h
    refine x_lconst (v := 0) dX0_area_28 (by decide) ?_
    obtain ⟨hr9, hw9⟩ := Prod.mk.inj (Option.some.inj h)
    subst hw9
    subst hr9
    exact x_lret dX0_area_29 rfl rfl
  · rw [if_neg hc6] at h
    refine x_aload_n (j := 0) (i := 0) dX0_area_14 rfl rfl ?_
    refine x_iload_n (j := 1) (i := 1) dX0_area_15 rfl rfl ?_
    obtain ⟨v7, w8, hc9, h⟩ := bd_s h
    refine x_callVI (ci := 0) dX0_area_16 ml_RX0_51 mb_X0_lineOf (c_X0_lineOf x0 x1 w2 v7 w8 hc9) ⟨_, rfl, rfl⟩ g5 [] rfl rfl (Nat.le_of_ble_eq_true rfl) (by decide) (by decide) ?_
    refine x_iload_n (j := 3) (i := 3) dX0_area_19 rfl rfl ?_
    refine x_iadd dX0_area_20 ?_
    refine x_aload_n (j := 0) (i := 0) dX0_area_21 rfl rfl ?_
    obtain ⟨g10, h⟩ := gd_some h
    refine x_getI (ci := 0) (k := 1) dX0_area_22 lf_RX0_13 rfl g10 ?_
    refine x_icmp_le (tgt := 30) dX0_area_25 (by decide) (fun hc11 => ?_) (fun hc11 => ?_)
    · rw [if_pos hc11] at h
      refine x_lconst (v := 1) dX0_area_30 (by decide) ?_
      refine x_iload_n (j := 2) (i := 2) dX0_area_31 rfl rfl ?_
      refine x_lshl dX0_area_32 ?_
      refine x_lconst (v := 1) dX0_area_33 (by decide) ?_
      refine x_lsub dX0_area_34 ?_
      refine x_lstore (i := 4) (lv2 := [(4, xL (((1 : Int64) <<< (x2.toInt64 &&& 63)) - (1 : Int64))), (0, xR x0), (1, xI x1), (2, xI x2), (3, xI x3)]) dX0_area_35 (by decide) rfl ?_
      refine x_lconst (v := 0) dX0_area_37 (by decide) ?_
      refine x_lstore (i := 6) (lv2 := [(6, xL (0 : Int64)), (4, xL (((1 : Int64) <<< (x2.toInt64 &&& 63)) - (1 : Int64))), (0, xR x0), (1, xI x1), (2, xI x2), (3, xI x3)]) dX0_area_38 (by decide) rfl ?_
      refine x_iconst (v := 0) dX0_area_40 (by decide) ?_
      refine x_istore (i := 8) (lv2 := [(8, xI (0 : Int32)), (6, xL (0 : Int64)), (4, xL (((1 : Int64) <<< (x2.toInt64 &&& 63)) - (1 : Int64))), (0, xR x0), (1, xI x1), (2, xI x2), (3, xI x3)]) dX0_area_41 (by decide) rfl ?_
      refine x_lv (lv2 := [(0, xR x0), (1, xI x1), (3, xI x3), (4, xL (((1 : Int64) <<< (x2.toInt64 &&& 63)) - (1 : Int64))), (6, xL (0 : Int64)), (8, xI (0 : Int32))]) [3, 4, 6, 2, 1, 0] rfl ?_
      exact k_X0_area_l43 rE wE xFu x0 x1 x3 (((1 : Int64) <<< (x2.toInt64 &&& 63)) - (1 : Int64)) (0 : Int64) (0 : Int32) w8 h
    · rw [if_neg hc11] at h
      refine x_lconst (v := 0) dX0_area_28 (by decide) ?_
      obtain ⟨hr9, hw9⟩ := Prod.mk.inj (Option.some.inj h)
      subst hw9
      subst hr9
      exact x_lret dX0_area_29 rfl rfl
set_option maxRecDepth 20000 in
theorem c_X0_beside (x0 : Nat) (x1 : Int64) (w : xSt) (rE : Int64) (wE : xSt) (h : f_X0_beside x0 x1 w = some (rE, wE)) : xCall yX0_beside cX0_beside 7 (some .long) 0 0 0 [xR x0, xL x1] w (some (xL rE), wE) := by
  refine xCall_of false (by decide) (fun q => nomatch q) (Nat.le_of_ble_eq_true rfl) ?_
  show xX cX0_beside 7 (some .long) RX0 false (xRm 0 0 0) (xZf (some (xL rE), wE) 0 0) 0 [(0, xR x0), (1, xL x1)] [] w 0 0
  unfold f_X0_beside at h
  refine x_lload_n (j := 1) (i := 1) dX0_beside_0 rfl rfl ?_
  refine x_aload_n (j := 0) (i := 0) dX0_beside_1 rfl rfl ?_
  obtain ⟨g1, h⟩ := gd_some h
  refine x_getI (ci := 0) (k := 0) dX0_beside_2 lf_RX0_7 rfl g1 ?_
  refine x_lushr dX0_beside_5 ?_
  refine x_lload_n (j := 1) (i := 1) dX0_beside_6 rfl rfl ?_
  refine x_aload_n (j := 0) (i := 0) dX0_beside_7 rfl rfl ?_
  refine x_getI (ci := 0) (k := 0) dX0_beside_8 lf_RX0_7 rfl g1 ?_
  refine x_lshl dX0_beside_11 ?_
  refine x_lor dX0_beside_12 ?_
  refine x_lstore_n (i := 3) (lv2 := [(3, xL ((lushr x1 (wI w x0 0)) ||| (x1 <<< ((wI w x0 0).toInt64 &&& 63)))), (0, xR x0), (1, xL x1)]) dX0_beside_13 rfl (by decide) rfl ?_
  refine x_lload_n (j := 2) (i := 1) dX0_beside_14 rfl rfl ?_
  refine x_aload_n (j := 1) (i := 0) dX0_beside_15 rfl rfl ?_
  refine x_getL (ci := 0) (k := 4) dX0_beside_16 lf_RX0_35 rfl g1 ?_
  refine x_ldc2 dX0_beside_19 lc_RX0_45 ?_
  refine x_lxor dX0_beside_22 ?_
  refine x_land dX0_beside_23 ?_
  refine x_iconst (v := 1) dX0_beside_24 (by decide) ?_
  refine x_lshl dX0_beside_25 ?_
  refine x_lload_n (j := 2) (i := 1) dX0_beside_26 rfl rfl ?_
  refine x_aload_n (j := 1) (i := 0) dX0_beside_27 rfl rfl ?_
  refine x_getL (ci := 0) (k := 3) dX0_beside_28 lf_RX0_31 rfl g1 ?_
  refine x_ldc2 dX0_beside_31 lc_RX0_45 ?_
  refine x_lxor dX0_beside_34 ?_
  refine x_land dX0_beside_35 ?_
  refine x_iconst (v := 1) dX0_beside_36 (by decide) ?_
  refine x_lushr dX0_beside_37 ?_
  refine x_lor dX0_beside_38 ?_
  refine x_lstore (i := 5) (lv2 := [(5, xL (((x1 &&& ((wL w x0 4) ^^^ (-1 : Int64))) <<< ((1 : Int32).toInt64 &&& 63)) ||| (lushr (x1 &&& ((wL w x0 3) ^^^ (-1 : Int64))) (1 : Int32)))), (3, xL ((lushr x1 (wI w x0 0)) ||| (x1 <<< ((wI w x0 0).toInt64 &&& 63)))), (0, xR x0), (1, xL x1)]) dX0_beside_39 (by decide) rfl ?_
  refine x_lload_n (j := 1) (i := 3) dX0_beside_41 rfl rfl ?_
  refine x_lload (j := 0) (i := 5) dX0_beside_42 rfl ?_
  refine x_lor dX0_beside_44 ?_
  obtain ⟨hr9, hw9⟩ := Prod.mk.inj (Option.some.inj h)
  subst hw9
  subst hr9
  exact x_lret dX0_beside_45 rfl rfl
set_option maxRecDepth 20000 in
theorem c_J9_min_7cf53 (x0 : Int32) (x1 : Int32) (w : xSt) (rE : Int32) (wE : xSt) (h : f_J9_min_7cf53 x0 x1 w = some (rE, wE)) : xCall yJ9_min_7cf53 cJ9_min_7cf53 2 (some .int) 0 0 0 [xI x0, xI x1] w (some (xI rE), wE) := by
  refine xCall_ofF false (by decide +kernel) (fun q => nomatch q) (Nat.le_of_ble_eq_true rfl) ?_
  show xX cJ9_min_7cf53 2 (some .int) RJ9 false (xRm 0 0 0) (xZf (some (xI rE), wE) 0 0) 0 [(0, xI x0), (1, xI x1)] [] w 0 0
  unfold f_J9_min_7cf53 at h
  refine x_iload_n (j := 0) (i := 0) dJ9_min_7cf53_0 rfl rfl ?_
  refine x_iload_n (j := 1) (i := 1) dJ9_min_7cf53_1 rfl rfl ?_
  refine x_icmp_gt (tgt := 9) dJ9_min_7cf53_2 (by decide) (fun hc1 => ?_) (fun hc1 => ?_)
  · rw [if_pos hc1] at h
    refine x_iload_n (j := 1) (i := 1) dJ9_min_7cf53_9 rfl rfl ?_
    obtain ⟨hr9, hw9⟩ := Prod.mk.inj (Option.some.inj h)
    subst hw9
    subst hr9
    exact x_iret dJ9_min_7cf53_10 rfl rfl
  · rw [if_neg hc1] at h
    refine x_iload_n (j := 0) (i := 0) dJ9_min_7cf53_5 rfl rfl ?_
    refine x_goto (tgt := 10) dJ9_min_7cf53_6 (by decide) ?_
    obtain ⟨hr9, hw9⟩ := Prod.mk.inj (Option.some.inj h)
    subst hw9
    subst hr9
    exact x_iret dJ9_min_7cf53_10 rfl rfl
set_option maxRecDepth 20000 in
theorem k_X0_spread_l17 (rE : Int64) (wE : xSt) : ∀ (n : Nat) (x0 : Nat) (x3 : Int64) (x6 : Int64) (x8 : Int32) (x9 : Int32) (w : xSt), f_X0_spread_l17 n x0 x3 x6 x8 x9 w = some (rE, wE) → xX cX0_spread 12 (some .long) RX0 false (xRm 1 0 0) (xZf (some (xL rE), wE) 0 0) 17 [(0, xR x0), (3, xL x3), (6, xL x6), (8, xI x8), (9, xI x9)] [] w 0 0 := by
  intro n
  induction n with
  | zero => intro x0 x3 x6 x8 x9 w h; exact nomatch (show (none : Option (Int64 × xSt)) = some (rE, wE) from h)
  | succ n ih =>
    intro x0 x3 x6 x8 x9 w h
    rw [f_X0_spread_l17_s] at h
    refine x_iload (j := 4) (i := 9) dX0_spread_17 rfl ?_
    refine x_iload (j := 3) (i := 8) dX0_spread_19 rfl ?_
    refine x_icmp_ge (tgt := 58) dX0_spread_21 (by decide) (fun hc5 => ?_) (fun hc5 => ?_)
    · rw [if_pos hc5] at h
      refine x_lload (j := 2) (i := 6) dX0_spread_58 rfl ?_
      obtain ⟨hr9, hw9⟩ := Prod.mk.inj (Option.some.inj h)
      subst hw9
      subst hr9
      exact x_lret dX0_spread_60 rfl rfl
    · rw [if_neg hc5] at h
      refine x_lload (j := 2) (i := 6) dX0_spread_24 rfl ?_
      refine x_aload_n (j := 0) (i := 0) dX0_spread_26 rfl rfl ?_
      refine x_lload (j := 2) (i := 6) dX0_spread_27 rfl ?_
      obtain ⟨g9, h⟩ := gd_some h
      obtain ⟨v6, w7, hc8, h⟩ := bd_s h
      refine x_callVL (ci := 0) dX0_spread_29 ml_RX0_60 mb_X0_beside (c_X0_beside x0 x6 w v6 w7 hc8) ⟨_, rfl, rfl⟩ g9 [xL x6] rfl rfl (Nat.le_of_ble_eq_true rfl) (by decide) (by decide) ?_
      refine x_lload_n (j := 1) (i := 3) dX0_spread_32 rfl rfl ?_
      refine x_land dX0_spread_33 ?_
      refine x_lor dX0_spread_34 ?_
      refine x_lstore (i := 10) (lv2 := [(10, xL (x6 ||| (v6 &&& x3))), (0, xR x0), (3, xL x3), (6, xL x6), (8, xI x8), (9, xI x9)]) dX0_spread_35 (by decide) rfl ?_
      refine x_lload (j := 0) (i := 10) dX0_spread_37 rfl ?_
      refine x_lload (j := 3) (i := 6) dX0_spread_39 rfl ?_
      refine x_lcmp dX0_spread_41 ?_
      refine x_if_ne (tgt := 48) dX0_spread_42 (by decide) (fun hc10 => ?_) (fun hc10 => ?_)
      · rw [if_neg hc10] at h
        refine x_lload (j := 0) (i := 10) dX0_spread_48 rfl ?_
        refine x_lstore (i := 6) (lv2 := [(6, xL (x6 ||| (v6 &&& x3))), (10, xL (x6 ||| (v6 &&& x3))), (0, xR x0), (3, xL x3), (8, xI x8), (9, xI x9)]) dX0_spread_50 (by decide) rfl ?_
        refine x_iinc (j := 5) (i := 9) (v := x9 + (1 : Int32)) (lv2 := [(9, xI (x9 + (1 : Int32))), (6, xL (x6 ||| (v6 &&& x3))), (10, xL (x6 ||| (v6 &&& x3))), (0, xR x0), (3, xL x3), (8, xI x8)]) dX0_spread_52 rfl rfl (by decide) rfl ?_
        refine x_goto (tgt := 17) dX0_spread_55 (by decide) ?_
        refine x_lv (lv2 := [(0, xR x0), (3, xL x3), (6, xL (x6 ||| (v6 &&& x3))), (8, xI x8), (9, xI (x9 + (1 : Int32)))]) [3, 4, 1, 5, 0] rfl ?_
        exact ih x0 x3 (x6 ||| (v6 &&& x3)) x8 (x9 + (1 : Int32)) w7 h
      · rw [if_pos hc10] at h
        refine x_goto (tgt := 58) dX0_spread_45 (by decide) ?_
        refine x_lload (j := 3) (i := 6) dX0_spread_58 rfl ?_
        obtain ⟨hr9, hw9⟩ := Prod.mk.inj (Option.some.inj h)
        subst hw9
        subst hr9
        exact x_lret dX0_spread_60 rfl rfl
set_option maxRecDepth 20000 in
theorem c_X0_spread (x0 : Nat) (x1 : Int64) (x3 : Int64) (x5 : Int32) (w : xSt) (rE : Int64) (wE : xSt) (h : f_X0_spread x0 x1 x3 x5 w = some (rE, wE)) : xCall yX0_spread cX0_spread 12 (some .long) 1 0 0 [xR x0, xL x1, xL x3, xI x5] w (some (xL rE), wE) := by
  refine xCall_of false (by decide) (fun q => nomatch q) (Nat.le_of_ble_eq_true rfl) ?_
  show xX cX0_spread 12 (some .long) RX0 false (xRm 1 0 0) (xZf (some (xL rE), wE) 0 0) 0 [(0, xR x0), (1, xL x1), (3, xL x3), (5, xI x5)] [] w 0 0
  unfold f_X0_spread at h
  refine x_lload_n (j := 1) (i := 1) dX0_spread_0 rfl rfl ?_
  refine x_lstore (i := 6) (lv2 := [(6, xL x1), (0, xR x0), (1, xL x1), (3, xL x3), (5, xI x5)]) dX0_spread_1 (by decide) rfl ?_
  refine x_iload (j := 4) (i := 5) dX0_spread_3 rfl ?_
  refine x_aload_n (j := 1) (i := 0) dX0_spread_5 rfl rfl ?_
  obtain ⟨g1, h⟩ := gd_some h
  refine x_getI (ci := 0) (k := 2) dX0_spread_6 lf_RX0_16 rfl g1 ?_
  obtain ⟨v2, w3, hc4, h⟩ := bd_s h
  refine x_callSI dX0_spread_9 ml_RX0_54 mb_J9_min_7cf53 (c_J9_min_7cf53 x5 (wI w x0 2) w v2 w3 hc4) [] rfl rfl (Nat.le_of_ble_eq_true rfl) (by decide) (by decide) ?_
  refine x_istore (i := 8) (lv2 := [(8, xI v2), (6, xL x1), (0, xR x0), (1, xL x1), (3, xL x3), (5, xI x5)]) dX0_spread_12 (by decide) rfl ?_
  refine x_iconst (v := 0) dX0_spread_14 (by decide) ?_
  refine x_istore (i := 9) (lv2 := [(9, xI (0 : Int32)), (8, xI v2), (6, xL x1), (0, xR x0), (1, xL x1), (3, xL x3), (5, xI x5)]) dX0_spread_15 (by decide) rfl ?_
  refine x_lv (lv2 := [(0, xR x0), (3, xL x3), (6, xL x1), (8, xI v2), (9, xI (0 : Int32))]) [3, 5, 2, 1, 0] rfl ?_
  exact k_X0_spread_l17 rE wE xFu x0 x3 x1 v2 (0 : Int32) w3 h
