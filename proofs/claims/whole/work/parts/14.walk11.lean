set_option maxRecDepth 20000 in
theorem k_X11_init_l420 (rE : Unit) (wE : xSt) : ∀ (n : Nat) (x0 : Nat) (x3 : Int32) (w : xSt), f_X11_init_l420 n x0 x3 w = some (rE, wE) → xX cX11_init 4 none RX11 true (xRm 1 30 1992) (xZf (none, wE) 30 1992) 420 [(0, xR x0), (3, xI x3)] [] w 0 0 := by
  intro n
  induction n with
  | zero => intro x0 x3 w h; exact nomatch (show (none : Option (Unit × xSt)) = some (rE, wE) from h)
  | succ n ih =>
    intro x0 x3 w h
    rw [f_X11_init_l420_s] at h
    refine x_iload_n (j := 1) (i := 3) dX11_init_420 rfl rfl ?_
    refine x_bipush (v := 108) dX11_init_421 (by decide) ?_
    refine x_icmp_ge (tgt := 439) dX11_init_423 (by decide) (fun hc411 => ?_) (fun hc411 => ?_)
    · rw [if_pos hc411] at h
      obtain ⟨hr9, hw9⟩ := Prod.mk.inj (Option.some.inj h)
      subst hw9
      exact x_vret dX11_init_439 rfl rfl
    · rw [if_neg hc411] at h
      refine x_aload_n (j := 0) (i := 0) dX11_init_426 rfl rfl ?_
      obtain ⟨g412, h⟩ := gd_some h
      refine x_getR (ci := 11) (k := 27) dX11_init_427 lf_RX11_78 rfl g412 ?_
      refine x_iload_n (j := 1) (i := 3) dX11_init_430 rfl rfl ?_
      refine x_iconst (v := -1) dX11_init_431 (by decide) ?_
      obtain ⟨g413, h⟩ := gd_some h
      obtain ⟨g414, h⟩ := gd_some h
      obtain ⟨w415, hw416, h⟩ := lt1_some h
      refine x_iast dX11_init_432 g413 g414 ?_
      rw [← hw416]
      refine x_iinc (j := 1) (i := 3) (v := x3 + (1 : Int32)) (lv2 := [(3, xI (x3 + (1 : Int32))), (0, xR x0)]) dX11_init_433 rfl rfl (by decide) rfl ?_
      refine x_goto (tgt := 420) dX11_init_436 (by decide) ?_
      refine x_lv (lv2 := [(0, xR x0), (3, xI (x3 + (1 : Int32)))]) [1, 0] rfl ?_
      exact ih x0 (x3 + (1 : Int32)) w415 h
set_option maxRecDepth 20000 in
theorem k_X11_init_l398 (rE : Unit) (wE : xSt) : ∀ (n : Nat) (x0 : Nat) (x3 : Int32) (w : xSt), f_X11_init_l398 n x0 x3 w = some (rE, wE) → xX cX11_init 4 none RX11 true (xRm 1 30 1992) (xZf (none, wE) 30 1992) 398 [(0, xR x0), (3, xI x3)] [] w 0 0 := by
  intro n
  induction n with
  | zero => intro x0 x3 w h; exact nomatch (show (none : Option (Unit × xSt)) = some (rE, wE) from h)
  | succ n ih =>
    intro x0 x3 w h
    rw [f_X11_init_l398_s] at h
    refine x_iload_n (j := 1) (i := 3) dX11_init_398 rfl rfl ?_
    refine x_bipush (v := 64) dX11_init_399 (by decide) ?_
    refine x_icmp_ge (tgt := 418) dX11_init_401 (by decide) (fun hc405 => ?_) (fun hc405 => ?_)
    · rw [if_pos hc405] at h
      refine x_iconst (v := 0) dX11_init_418 (by decide) ?_
      refine x_istore_n (i := 3) (lv2 := [(3, xI (0 : Int32)), (0, xR x0)]) dX11_init_419 rfl (by decide) rfl ?_
      refine x_lv (lv2 := [(0, xR x0), (3, xI (0 : Int32))]) [1, 0] rfl ?_
      exact k_X11_init_l420 rE wE xFu x0 (0 : Int32) w h
    · rw [if_neg hc405] at h
      refine x_aload_n (j := 0) (i := 0) dX11_init_404 rfl rfl ?_
      obtain ⟨g406, h⟩ := gd_some h
      refine x_getR (ci := 11) (k := 3) dX11_init_405 lf_RX11_13 rfl g406 ?_
      refine x_iload_n (j := 1) (i := 3) dX11_init_408 rfl rfl ?_
      refine x_bipush (v := 50) dX11_init_409 (by decide) ?_
      obtain ⟨g407, h⟩ := gd_some h
      obtain ⟨g408, h⟩ := gd_some h
      obtain ⟨w409, hw410, h⟩ := lt1_some h
      refine x_iast dX11_init_411 g407 g408 ?_
      rw [← hw410]
      refine x_iinc (j := 1) (i := 3) (v := x3 + (1 : Int32)) (lv2 := [(3, xI (x3 + (1 : Int32))), (0, xR x0)]) dX11_init_412 rfl rfl (by decide) rfl ?_
      refine x_goto (tgt := 398) dX11_init_415 (by decide) ?_
      refine x_lv (lv2 := [(0, xR x0), (3, xI (x3 + (1 : Int32)))]) [1, 0] rfl ?_
      exact ih x0 (x3 + (1 : Int32)) w409 h
set_option maxRecDepth 20000 in
theorem c_X11_init (x0 : Nat) (x1 : Int32) (x2 : Int32) (w : xSt) (rE : Unit) (wE : xSt) (h : f_X11_init x0 x1 x2 w = some (rE, wE)) : xCall yX11_init cX11_init 4 none 1 30 1992 [xR x0, xI x1, xI x2] w (none, wE) := by
  refine xCall_of true (by decide) (fun _ => rfl) (Nat.le_of_ble_eq_true rfl) ?_
  show xX cX11_init 4 none RX11 true (xRm 1 30 1992) (xZf (none, wE) 30 1992) 0 [(0, xR x0), (1, xI x1), (2, xI x2)] [] w 30 1992
  unfold f_X11_init at h
  refine x_aload_n (j := 0) (i := 0) dX11_init_0 rfl rfl ?_
  obtain ⟨g1, h⟩ := gd_some h
  refine x_objInit dX11_init_1 lo_RX11_1 lo_inst lo_code g1 (Nat.le_of_ble_eq_true rfl) (by decide) (by decide) ?_
  refine x_aload_n (j := 0) (i := 0) dX11_init_4 rfl rfl ?_
  refine x_bipush (v := 64) dX11_init_5 (by decide) ?_
  obtain ⟨g2, h⟩ := gd_some h
  obtain ⟨q3, hq4, h⟩ := lt1_some h
  obtain ⟨w5, hw6, h⟩ := lt1_some h
  refine x_newa_int 64 dX11_init_7 la_int (by decide) (by decide) g2 (by decide) (by decide) ?_
  rw [← hq4, ← hw6]
  have g7 : isC w5 q3 20 := by rw [hw6, hq4]; exact isC_new _ _ _
  have g8 : isC w5 x0 11 := by rw [hw6]; exact isC_nA _ _ g1
  obtain ⟨w9, hw10, h⟩ := lt1_some h
  refine x_putR (ci := 11) (k := 2) dX11_init_9 lw_RX11_7_w rfl g8 ?_
  rw [← hw10]
  refine x_aload_n (j := 0) (i := 0) dX11_init_12 rfl rfl ?_
  refine x_bipush (v := 64) dX11_init_13 (by decide) ?_
  obtain ⟨g11, h⟩ := gd_some h
  obtain ⟨q12, hq13, h⟩ := lt1_some h
  obtain ⟨w14, hw15, h⟩ := lt1_some h
  refine x_newa_int 64 dX11_init_15 la_int (by decide) (by decide) g11 (by decide) (by decide) ?_
  rw [← hq13, ← hw15]
  have g16 : isC w14 q12 20 := by rw [hw15, hq13]; exact isC_new _ _ _
  have g17 : isC w9 x0 11 := by rw [hw10]; exact g8
  have g18 : isC w14 x0 11 := by rw [hw15]; exact isC_nA _ _ g17
  obtain ⟨w19, hw20, h⟩ := lt1_some h
  refine x_putR (ci := 11) (k := 3) dX11_init_17 lw_RX11_13_w rfl g18 ?_
  rw [← hw20]
  refine x_aload_n (j := 0) (i := 0) dX11_init_20 rfl rfl ?_
  refine x_iconst (v := 1) dX11_init_21 (by decide) ?_
  have g21 : isC w19 x0 11 := by rw [hw20]; exact g18
  obtain ⟨w22, hw23, h⟩ := lt1_some h
  refine x_putI (ci := 11) (k := 4) dX11_init_22 (lw_RX11_16_w _) rfl g21 ?_
  rw [← hw23]
  refine x_aload_n (j := 0) (i := 0) dX11_init_25 rfl rfl ?_
  refine x_bipush (v := 9) dX11_init_26 (by decide) ?_
  obtain ⟨g24, h⟩ := gd_some h
  obtain ⟨q25, hq26, h⟩ := lt1_some h
  obtain ⟨w27, hw28, h⟩ := lt1_some h
  refine x_newa_int 9 dX11_init_28 la_int (by decide) (by decide) g24 (by decide) (by decide) ?_
  rw [← hq26, ← hw28]
  have g29 : isC w27 q25 20 := by rw [hw28, hq26]; exact isC_new _ _ _
  have g30 : isC w22 x0 11 := by rw [hw23]; exact g21
  have g31 : isC w27 x0 11 := by rw [hw28]; exact isC_nA _ _ g30
  obtain ⟨w32, hw33, h⟩ := lt1_some h
  refine x_putR (ci := 11) (k := 6) dX11_init_30 lw_RX11_20_w rfl g31 ?_
  rw [← hw33]
  refine x_aload_n (j := 0) (i := 0) dX11_init_33 rfl rfl ?_
  refine x_bipush (v := 9) dX11_init_34 (by decide) ?_
  obtain ⟨g34, h⟩ := gd_some h
  obtain ⟨q35, hq36, h⟩ := lt1_some h
  obtain ⟨w37, hw38, h⟩ := lt1_some h
  refine x_newa_int 9 dX11_init_36 la_int (by decide) (by decide) g34 (by decide) (by decide) ?_
  rw [← hq36, ← hw38]
  have g39 : isC w37 q35 20 := by rw [hw38, hq36]; exact isC_new _ _ _
  have g40 : isC w32 x0 11 := by rw [hw33]; exact g31
  have g41 : isC w37 x0 11 := by rw [hw38]; exact isC_nA _ _ g40
  obtain ⟨w42, hw43, h⟩ := lt1_some h
  refine x_putR (ci := 11) (k := 7) dX11_init_38 lw_RX11_23_w rfl g41 ?_
  rw [← hw43]
  refine x_aload_n (j := 0) (i := 0) dX11_init_41 rfl rfl ?_
  refine x_bipush (v := 9) dX11_init_42 (by decide) ?_
  obtain ⟨g44, h⟩ := gd_some h
  obtain ⟨q45, hq46, h⟩ := lt1_some h
  obtain ⟨w47, hw48, h⟩ := lt1_some h
  refine x_newa_int 9 dX11_init_44 la_int (by decide) (by decide) g44 (by decide) (by decide) ?_
  rw [← hq46, ← hw48]
  have g49 : isC w47 q45 20 := by rw [hw48, hq46]; exact isC_new _ _ _
  have g50 : isC w42 x0 11 := by rw [hw43]; exact g41
  have g51 : isC w47 x0 11 := by rw [hw48]; exact isC_nA _ _ g50
  obtain ⟨w52, hw53, h⟩ := lt1_some h
  refine x_putR (ci := 11) (k := 8) dX11_init_46 lw_RX11_26_w rfl g51 ?_
  rw [← hw53]
  refine x_aload_n (j := 0) (i := 0) dX11_init_49 rfl rfl ?_
  refine x_bipush (v := 9) dX11_init_50 (by decide) ?_
  obtain ⟨g54, h⟩ := gd_some h
  obtain ⟨q55, hq56, h⟩ := lt1_some h
  obtain ⟨w57, hw58, h⟩ := lt1_some h
  refine x_newa_int 9 dX11_init_52 la_int (by decide) (by decide) g54 (by decide) (by decide) ?_
  rw [← hq56, ← hw58]
  have g59 : isC w57 q55 20 := by rw [hw58, hq56]; exact isC_new _ _ _
  have g60 : isC w52 x0 11 := by rw [hw53]; exact g51
  have g61 : isC w57 x0 11 := by rw [hw58]; exact isC_nA _ _ g60
  obtain ⟨w62, hw63, h⟩ := lt1_some h
  refine x_putR (ci := 11) (k := 9) dX11_init_54 lw_RX11_29_w rfl g61 ?_
  rw [← hw63]
  refine x_aload_n (j := 0) (i := 0) dX11_init_57 rfl rfl ?_
  refine x_bipush (v := 9) dX11_init_58 (by decide) ?_
  obtain ⟨g64, h⟩ := gd_some h
  obtain ⟨q65, hq66, h⟩ := lt1_some h
  obtain ⟨w67, hw68, h⟩ := lt1_some h
  refine x_newa_int 9 dX11_init_60 la_int (by decide) (by decide) g64 (by decide) (by decide) ?_
  rw [← hq66, ← hw68]
  have g69 : isC w67 q65 20 := by rw [hw68, hq66]; exact isC_new _ _ _
  have g70 : isC w62 x0 11 := by rw [hw63]; exact g61
  have g71 : isC w67 x0 11 := by rw [hw68]; exact isC_nA _ _ g70
  obtain ⟨w72, hw73, h⟩ := lt1_some h
  refine x_putR (ci := 11) (k := 10) dX11_init_62 lw_RX11_32_w rfl g71 ?_
  rw [← hw73]
  refine x_aload_n (j := 0) (i := 0) dX11_init_65 rfl rfl ?_
  refine x_bipush (v := 9) dX11_init_66 (by decide) ?_
  obtain ⟨g74, h⟩ := gd_some h
  obtain ⟨q75, hq76, h⟩ := lt1_some h
  obtain ⟨w77, hw78, h⟩ := lt1_some h
  refine x_newa_int 9 dX11_init_68 la_int (by decide) (by decide) g74 (by decide) (by decide) ?_
  rw [← hq76, ← hw78]
  have g79 : isC w77 q75 20 := by rw [hw78, hq76]; exact isC_new _ _ _
  have g80 : isC w72 x0 11 := by rw [hw73]; exact g71
  have g81 : isC w77 x0 11 := by rw [hw78]; exact isC_nA _ _ g80
  obtain ⟨w82, hw83, h⟩ := lt1_some h
  refine x_putR (ci := 11) (k := 11) dX11_init_70 lw_RX11_35_w rfl g81 ?_
  rw [← hw83]
  refine x_aload_n (j := 0) (i := 0) dX11_init_73 rfl rfl ?_
  refine x_bipush (v := 9) dX11_init_74 (by decide) ?_
  obtain ⟨g84, h⟩ := gd_some h
  obtain ⟨q85, hq86, h⟩ := lt1_some h
  obtain ⟨w87, hw88, h⟩ := lt1_some h
  refine x_newa_int 9 dX11_init_76 la_int (by decide) (by decide) g84 (by decide) (by decide) ?_
  rw [← hq86, ← hw88]
  have g89 : isC w87 q85 20 := by rw [hw88, hq86]; exact isC_new _ _ _
  have g90 : isC w82 x0 11 := by rw [hw83]; exact g81
  have g91 : isC w87 x0 11 := by rw [hw88]; exact isC_nA _ _ g90
  obtain ⟨w92, hw93, h⟩ := lt1_some h
  refine x_putR (ci := 11) (k := 12) dX11_init_78 lw_RX11_38_w rfl g91 ?_
  rw [← hw93]
  refine x_aload_n (j := 0) (i := 0) dX11_init_81 rfl rfl ?_
  refine x_bipush (v := 9) dX11_init_82 (by decide) ?_
  obtain ⟨g94, h⟩ := gd_some h
  obtain ⟨q95, hq96, h⟩ := lt1_some h
  obtain ⟨w97, hw98, h⟩ := lt1_some h
  refine x_newa_int 9 dX11_init_84 la_int (by decide) (by decide) g94 (by decide) (by decide) ?_
  rw [← hq96, ← hw98]
  have g99 : isC w97 q95 20 := by rw [hw98, hq96]; exact isC_new _ _ _
  have g100 : isC w92 x0 11 := by rw [hw93]; exact g91
  have g101 : isC w97 x0 11 := by rw [hw98]; exact isC_nA _ _ g100
  obtain ⟨w102, hw103, h⟩ := lt1_some h
  refine x_putR (ci := 11) (k := 13) dX11_init_86 lw_RX11_41_w rfl g101 ?_
  rw [← hw103]
  refine x_aload_n (j := 0) (i := 0) dX11_init_89 rfl rfl ?_
  refine x_bipush (v := 9) dX11_init_90 (by decide) ?_
  obtain ⟨g104, h⟩ := gd_some h
  obtain ⟨q105, hq106, h⟩ := lt1_some h
  obtain ⟨w107, hw108, h⟩ := lt1_some h
  refine x_newa_boolean 9 dX11_init_92 la_boolean (by decide) (by decide) g104 (by decide) (by decide) ?_
  rw [← hq106, ← hw108]
  have g109 : isC w107 q105 23 := by rw [hw108, hq106]; exact isC_new _ _ _
  have g110 : isC w102 x0 11 := by rw [hw103]; exact g101
  have g111 : isC w107 x0 11 := by rw [hw108]; exact isC_nA _ _ g110
  obtain ⟨w112, hw113, h⟩ := lt1_some h
  refine x_putR (ci := 11) (k := 14) dX11_init_94 lw_RX11_44_w rfl g111 ?_
  rw [← hw113]
  refine x_aload_n (j := 0) (i := 0) dX11_init_97 rfl rfl ?_
  refine x_bipush (v := 9) dX11_init_98 (by decide) ?_
  obtain ⟨g114, h⟩ := gd_some h
  obtain ⟨q115, hq116, h⟩ := lt1_some h
  obtain ⟨w117, hw118, h⟩ := lt1_some h
  refine x_newa_boolean 9 dX11_init_100 la_boolean (by decide) (by decide) g114 (by decide) (by decide) ?_
  rw [← hq116, ← hw118]
  have g119 : isC w117 q115 23 := by rw [hw118, hq116]; exact isC_new _ _ _
  have g120 : isC w112 x0 11 := by rw [hw113]; exact g111
  have g121 : isC w117 x0 11 := by rw [hw118]; exact isC_nA _ _ g120
  obtain ⟨w122, hw123, h⟩ := lt1_some h
  refine x_putR (ci := 11) (k := 15) dX11_init_102 lw_RX11_48_w rfl g121 ?_
  rw [← hw123]
  refine x_aload_n (j := 0) (i := 0) dX11_init_105 rfl rfl ?_
  refine x_bipush (v := 120) dX11_init_106 (by decide) ?_
  obtain ⟨g124, h⟩ := gd_some h
  obtain ⟨q125, hq126, h⟩ := lt1_some h
  obtain ⟨w127, hw128, h⟩ := lt1_some h
  refine x_newa_int 120 dX11_init_108 la_int (by decide) (by decide) g124 (by decide) (by decide) ?_
  rw [← hq126, ← hw128]
  have g129 : isC w127 q125 20 := by rw [hw128, hq126]; exact isC_new _ _ _
  have g130 : isC w122 x0 11 := by rw [hw123]; exact g121
  have g131 : isC w127 x0 11 := by rw [hw128]; exact isC_nA _ _ g130
  obtain ⟨w132, hw133, h⟩ := lt1_some h
  refine x_putR (ci := 11) (k := 16) dX11_init_110 lw_RX11_51_w rfl g131 ?_
  rw [← hw133]
  refine x_aload_n (j := 0) (i := 0) dX11_init_113 rfl rfl ?_
  refine x_iconst (v := 2) dX11_init_114 (by decide) ?_
  obtain ⟨g134, h⟩ := gd_some h
  obtain ⟨q135, hq136, h⟩ := lt1_some h
  obtain ⟨w137, hw138, h⟩ := lt1_some h
  refine x_newa_int 2 dX11_init_115 la_int (by decide) (by decide) g134 (by decide) (by decide) ?_
  rw [← hq136, ← hw138]
  have g139 : isC w137 q135 20 := by rw [hw138, hq136]; exact isC_new _ _ _
  have g140 : isC w132 x0 11 := by rw [hw133]; exact g131
  have g141 : isC w137 x0 11 := by rw [hw138]; exact isC_nA _ _ g140
  obtain ⟨w142, hw143, h⟩ := lt1_some h
  refine x_putR (ci := 11) (k := 18) dX11_init_117 lw_RX11_54_w rfl g141 ?_
  rw [← hw143]
  refine x_aload_n (j := 0) (i := 0) dX11_init_120 rfl rfl ?_
  refine x_bipush (v := 12) dX11_init_121 (by decide) ?_
  obtain ⟨g144, h⟩ := gd_some h
  obtain ⟨q145, hq146, h⟩ := lt1_some h
  obtain ⟨w147, hw148, h⟩ := lt1_some h
  refine x_newa_int 12 dX11_init_123 la_int (by decide) (by decide) g144 (by decide) (by decide) ?_
  rw [← hq146, ← hw148]
  have g149 : isC w147 q145 20 := by rw [hw148, hq146]; exact isC_new _ _ _
  have g150 : isC w142 x0 11 := by rw [hw143]; exact g141
  have g151 : isC w147 x0 11 := by rw [hw148]; exact isC_nA _ _ g150
  obtain ⟨w152, hw153, h⟩ := lt1_some h
  refine x_putR (ci := 11) (k := 19) dX11_init_125 lw_RX11_57_w rfl g151 ?_
  rw [← hw153]
  refine x_aload_n (j := 0) (i := 0) dX11_init_128 rfl rfl ?_
  refine x_bipush (v := 36) dX11_init_129 (by decide) ?_
  obtain ⟨g154, h⟩ := gd_some h
  obtain ⟨q155, hq156, h⟩ := lt1_some h
  obtain ⟨w157, hw158, h⟩ := lt1_some h
  refine x_newa_int 36 dX11_init_131 la_int (by decide) (by decide) g154 (by decide) (by decide) ?_
  rw [← hq156, ← hw158]
  have g159 : isC w157 q155 20 := by rw [hw158, hq156]; exact isC_new _ _ _
  have g160 : isC w152 x0 11 := by rw [hw153]; exact g151
  have g161 : isC w157 x0 11 := by rw [hw158]; exact isC_nA _ _ g160
  obtain ⟨w162, hw163, h⟩ := lt1_some h
  refine x_putR (ci := 11) (k := 20) dX11_init_133 lw_RX11_60_w rfl g161 ?_
  rw [← hw163]
  refine x_aload_n (j := 0) (i := 0) dX11_init_136 rfl rfl ?_
  refine x_bipush (v := 12) dX11_init_137 (by decide) ?_
  obtain ⟨g164, h⟩ := gd_some h
  obtain ⟨q165, hq166, h⟩ := lt1_some h
  obtain ⟨w167, hw168, h⟩ := lt1_some h
  refine x_newa_int 12 dX11_init_139 la_int (by decide) (by decide) g164 (by decide) (by decide) ?_
  rw [← hq166, ← hw168]
  have g169 : isC w167 q165 20 := by rw [hw168, hq166]; exact isC_new _ _ _
  have g170 : isC w162 x0 11 := by rw [hw163]; exact g161
  have g171 : isC w167 x0 11 := by rw [hw168]; exact isC_nA _ _ g170
  obtain ⟨w172, hw173, h⟩ := lt1_some h
  refine x_putR (ci := 11) (k := 21) dX11_init_141 lw_RX11_63_w rfl g171 ?_
  rw [← hw173]
  refine x_aload_n (j := 0) (i := 0) dX11_init_144 rfl rfl ?_
  refine x_bipush (v := 48) dX11_init_145 (by decide) ?_
  obtain ⟨g174, h⟩ := gd_some h
  obtain ⟨q175, hq176, h⟩ := lt1_some h
  obtain ⟨w177, hw178, h⟩ := lt1_some h
  refine x_newa_int 48 dX11_init_147 la_int (by decide) (by decide) g174 (by decide) (by decide) ?_
  rw [← hq176, ← hw178]
  have g179 : isC w177 q175 20 := by rw [hw178, hq176]; exact isC_new _ _ _
  have g180 : isC w172 x0 11 := by rw [hw173]; exact g171
  have g181 : isC w177 x0 11 := by rw [hw178]; exact isC_nA _ _ g180
  obtain ⟨w182, hw183, h⟩ := lt1_some h
  refine x_putR (ci := 11) (k := 22) dX11_init_149 lw_RX11_66_w rfl g181 ?_
  rw [← hw183]
  refine x_aload_n (j := 0) (i := 0) dX11_init_152 rfl rfl ?_
  refine x_bipush (v := 60) dX11_init_153 (by decide) ?_
  obtain ⟨g184, h⟩ := gd_some h
  obtain ⟨q185, hq186, h⟩ := lt1_some h
  obtain ⟨w187, hw188, h⟩ := lt1_some h
  refine x_newa_int 60 dX11_init_155 la_int (by decide) (by decide) g184 (by decide) (by decide) ?_
  rw [← hq186, ← hw188]
  have g189 : isC w187 q185 20 := by rw [hw188, hq186]; exact isC_new _ _ _
  have g190 : isC w182 x0 11 := by rw [hw183]; exact g181
  have g191 : isC w187 x0 11 := by rw [hw188]; exact isC_nA _ _ g190
  obtain ⟨w192, hw193, h⟩ := lt1_some h
  refine x_putR (ci := 11) (k := 23) dX11_init_157 lw_RX11_69_w rfl g191 ?_
  rw [← hw193]
  refine x_aload_n (j := 0) (i := 0) dX11_init_160 rfl rfl ?_
  refine x_bipush (v := 12) dX11_init_161 (by decide) ?_
  obtain ⟨g194, h⟩ := gd_some h
  obtain ⟨q195, hq196, h⟩ := lt1_some h
  obtain ⟨w197, hw198, h⟩ := lt1_some h
  refine x_newa_int 12 dX11_init_163 la_int (by decide) (by decide) g194 (by decide) (by decide) ?_
  rw [← hq196, ← hw198]
  have g199 : isC w197 q195 20 := by rw [hw198, hq196]; exact isC_new _ _ _
  have g200 : isC w192 x0 11 := by rw [hw193]; exact g191
  have g201 : isC w197 x0 11 := by rw [hw198]; exact isC_nA _ _ g200
  obtain ⟨w202, hw203, h⟩ := lt1_some h
  refine x_putR (ci := 11) (k := 25) dX11_init_165 lw_RX11_72_w rfl g201 ?_
  rw [← hw203]
  refine x_aload_n (j := 0) (i := 0) dX11_init_168 rfl rfl ?_
  refine x_bipush (v := 12) dX11_init_169 (by decide) ?_
  obtain ⟨g204, h⟩ := gd_some h
  obtain ⟨q205, hq206, h⟩ := lt1_some h
  obtain ⟨w207, hw208, h⟩ := lt1_some h
  refine x_newa_int 12 dX11_init_171 la_int (by decide) (by decide) g204 (by decide) (by decide) ?_
  rw [← hq206, ← hw208]
  have g209 : isC w207 q205 20 := by rw [hw208, hq206]; exact isC_new _ _ _
  have g210 : isC w202 x0 11 := by rw [hw203]; exact g201
  have g211 : isC w207 x0 11 := by rw [hw208]; exact isC_nA _ _ g210
  obtain ⟨w212, hw213, h⟩ := lt1_some h
  refine x_putR (ci := 11) (k := 26) dX11_init_173 lw_RX11_75_w rfl g211 ?_
  rw [← hw213]
  refine x_aload_n (j := 0) (i := 0) dX11_init_176 rfl rfl ?_
  refine x_bipush (v := 108) dX11_init_177 (by decide) ?_
  obtain ⟨g214, h⟩ := gd_some h
  obtain ⟨q215, hq216, h⟩ := lt1_some h
  obtain ⟨w217, hw218, h⟩ := lt1_some h
  refine x_newa_int 108 dX11_init_179 la_int (by decide) (by decide) g214 (by decide) (by decide) ?_
  rw [← hq216, ← hw218]
  have g219 : isC w217 q215 20 := by rw [hw218, hq216]; exact isC_new _ _ _
  have g220 : isC w212 x0 11 := by rw [hw213]; exact g211
  have g221 : isC w217 x0 11 := by rw [hw218]; exact isC_nA _ _ g220
  obtain ⟨w222, hw223, h⟩ := lt1_some h
  refine x_putR (ci := 11) (k := 27) dX11_init_181 lw_RX11_78_w rfl g221 ?_
  rw [← hw223]
  refine x_aload_n (j := 0) (i := 0) dX11_init_184 rfl rfl ?_
  refine x_bipush (v := 108) dX11_init_185 (by decide) ?_
  obtain ⟨g224, h⟩ := gd_some h
  obtain ⟨q225, hq226, h⟩ := lt1_some h
  obtain ⟨w227, hw228, h⟩ := lt1_some h
  refine x_newa_int 108 dX11_init_187 la_int (by decide) (by decide) g224 (by decide) (by decide) ?_
  rw [← hq226, ← hw228]
  have g229 : isC w227 q225 20 := by rw [hw228, hq226]; exact isC_new _ _ _
  have g230 : isC w222 x0 11 := by rw [hw223]; exact g221
  have g231 : isC w227 x0 11 := by rw [hw228]; exact isC_nA _ _ g230
  obtain ⟨w232, hw233, h⟩ := lt1_some h
  refine x_putR (ci := 11) (k := 28) dX11_init_189 lw_RX11_81_w rfl g231 ?_
  rw [← hw233]
  refine x_aload_n (j := 0) (i := 0) dX11_init_192 rfl rfl ?_
  refine x_sipush (v := 1000) dX11_init_193 (by decide) ?_
  have g234 : isC w232 x0 11 := by rw [hw233]; exact g231
  obtain ⟨w235, hw236, h⟩ := lt1_some h
  refine x_putI (ci := 11) (k := 29) dX11_init_196 (lw_RX11_84_w _) rfl g234 ?_
  rw [← hw236]
  refine x_aload_n (j := 0) (i := 0) dX11_init_199 rfl rfl ?_
  refine x_bipush (v := 10) dX11_init_200 (by decide) ?_
  obtain ⟨g237, h⟩ := gd_some h
  obtain ⟨q238, hq239, h⟩ := lt1_some h
  obtain ⟨w240, hw241, h⟩ := lt1_some h
  refine x_newa_int 10 dX11_init_202 la_int (by decide) (by decide) g237 (by decide) (by decide) ?_
  rw [← hq239, ← hw241]
  have g242 : isC w240 q238 20 := by rw [hw241, hq239]; exact isC_new _ _ _
  have g243 : isC w235 x0 11 := by rw [hw236]; exact g234
  have g244 : isC w240 x0 11 := by rw [hw241]; exact isC_nA _ _ g243
  obtain ⟨w245, hw246, h⟩ := lt1_some h
  refine x_putR (ci := 11) (k := 37) dX11_init_204 lw_RX11_87_w rfl g244 ?_
  rw [← hw246]
  refine x_aload_n (j := 0) (i := 0) dX11_init_207 rfl rfl ?_
  refine x_sipush (v := 180) dX11_init_208 (by decide) ?_
  have g247 : isC w245 x0 11 := by rw [hw246]; exact g244
  obtain ⟨w248, hw249, h⟩ := lt1_some h
  refine x_putI (ci := 11) (k := 39) dX11_init_211 (lw_RX11_90_w _) rfl g247 ?_
  rw [← hw249]
  refine x_aload_n (j := 0) (i := 0) dX11_init_214 rfl rfl ?_
  refine x_bipush (v := 64) dX11_init_215 (by decide) ?_
  obtain ⟨g250, h⟩ := gd_some h
  obtain ⟨q251, hq252, h⟩ := lt1_some h
  obtain ⟨w253, hw254, h⟩ := lt1_some h
  refine x_newa_boolean 64 dX11_init_217 la_boolean (by decide) (by decide) g250 (by decide) (by decide) ?_
  rw [← hq252, ← hw254]
  have g255 : isC w253 q251 23 := by rw [hw254, hq252]; exact isC_new _ _ _
  have g256 : isC w248 x0 11 := by rw [hw249]; exact g247
  have g257 : isC w253 x0 11 := by rw [hw254]; exact isC_nA _ _ g256
  obtain ⟨w258, hw259, h⟩ := lt1_some h
  refine x_putR (ci := 11) (k := 40) dX11_init_219 lw_RX11_93_w rfl g257 ?_
  rw [← hw259]
  refine x_aload_n (j := 0) (i := 0) dX11_init_222 rfl rfl ?_
  refine x_bipush (v := 64) dX11_init_223 (by decide) ?_
  obtain ⟨g260, h⟩ := gd_some h
  obtain ⟨q261, hq262, h⟩ := lt1_some h
  obtain ⟨w263, hw264, h⟩ := lt1_some h
  refine x_newa_int 64 dX11_init_225 la_int (by decide) (by decide) g260 (by decide) (by decide) ?_
  rw [← hq262, ← hw264]
  have g265 : isC w263 q261 20 := by rw [hw264, hq262]; exact isC_new _ _ _
  have g266 : isC w258 x0 11 := by rw [hw259]; exact g257
  have g267 : isC w263 x0 11 := by rw [hw264]; exact isC_nA _ _ g266
  obtain ⟨w268, hw269, h⟩ := lt1_some h
  refine x_putR (ci := 11) (k := 41) dX11_init_227 lw_RX11_96_w rfl g267 ?_
  rw [← hw269]
  refine x_aload_n (j := 0) (i := 0) dX11_init_230 rfl rfl ?_
  refine x_sipush (v := 512) dX11_init_231 (by decide) ?_
  obtain ⟨g270, h⟩ := gd_some h
  obtain ⟨q271, hq272, h⟩ := lt1_some h
  obtain ⟨w273, hw274, h⟩ := lt1_some h
  refine x_newa_int 512 dX11_init_234 la_int (by decide) (by decide) g270 (by decide) (by decide) ?_
  rw [← hq272, ← hw274]
  have g275 : isC w273 q271 20 := by rw [hw274, hq272]; exact isC_new _ _ _
  have g276 : isC w268 x0 11 := by rw [hw269]; exact g267
  have g277 : isC w273 x0 11 := by rw [hw274]; exact isC_nA _ _ g276
  obtain ⟨w278, hw279, h⟩ := lt1_some h
  refine x_putR (ci := 11) (k := 43) dX11_init_236 lw_RX11_99_w rfl g277 ?_
  rw [← hw279]
  refine x_aload_n (j := 0) (i := 0) dX11_init_239 rfl rfl ?_
  refine x_sipush (v := 512) dX11_init_240 (by decide) ?_
  obtain ⟨g280, h⟩ := gd_some h
  obtain ⟨q281, hq282, h⟩ := lt1_some h
  obtain ⟨w283, hw284, h⟩ := lt1_some h
  refine x_newa_boolean 512 dX11_init_243 la_boolean (by decide) (by decide) g280 (by decide) (by decide) ?_
  rw [← hq282, ← hw284]
  have g285 : isC w283 q281 23 := by rw [hw284, hq282]; exact isC_new _ _ _
  have g286 : isC w278 x0 11 := by rw [hw279]; exact g277
  have g287 : isC w283 x0 11 := by rw [hw284]; exact isC_nA _ _ g286
  obtain ⟨w288, hw289, h⟩ := lt1_some h
  refine x_putR (ci := 11) (k := 44) dX11_init_245 lw_RX11_102_w rfl g287 ?_
  rw [← hw289]
  refine x_aload_n (j := 0) (i := 0) dX11_init_248 rfl rfl ?_
  refine x_bipush (v := 18) dX11_init_249 (by decide) ?_
  obtain ⟨g290, h⟩ := gd_some h
  obtain ⟨q291, hq292, h⟩ := lt1_some h
  obtain ⟨w293, hw294, h⟩ := lt1_some h
  refine x_newa_int 18 dX11_init_251 la_int (by decide) (by decide) g290 (by decide) (by decide) ?_
  rw [← hq292, ← hw294]
  have g295 : isC w293 q291 20 := by rw [hw294, hq292]; exact isC_new _ _ _
  refine x_dup dX11_init_253 rfl ?_
  refine x_iconst (v := 0) dX11_init_254 (by decide) ?_
  refine x_bipush (v := 103) dX11_init_255 (by decide) ?_
  obtain ⟨g296, h⟩ := gd_some h
  obtain ⟨w297, hw298, h⟩ := lt1_some h
  refine x_iast dX11_init_257 g295 g296 ?_
  rw [← hw298]
  refine x_dup dX11_init_258 rfl ?_
  refine x_iconst (v := 1) dX11_init_259 (by decide) ?_
  refine x_bipush (v := 111) dX11_init_260 (by decide) ?_
  have g299 : isC w297 q291 20 := by rw [hw298]; exact g295
  obtain ⟨g300, h⟩ := gd_some h
  obtain ⟨w301, hw302, h⟩ := lt1_some h
  refine x_iast dX11_init_262 g299 g300 ?_
  rw [← hw302]
  refine x_dup dX11_init_263 rfl ?_
  refine x_iconst (v := 2) dX11_init_264 (by decide) ?_
  refine x_bipush (v := 108) dX11_init_265 (by decide) ?_
  have g303 : isC w301 q291 20 := by rw [hw302]; exact g299
  obtain ⟨g304, h⟩ := gd_some h
  obtain ⟨w305, hw306, h⟩ := lt1_some h
  refine x_iast dX11_init_267 g303 g304 ?_
  rw [← hw306]
  refine x_dup dX11_init_268 rfl ?_
  refine x_iconst (v := 3) dX11_init_269 (by decide) ?_
  refine x_bipush (v := 100) dX11_init_270 (by decide) ?_
  have g307 : isC w305 q291 20 := by rw [hw306]; exact g303
  obtain ⟨g308, h⟩ := gd_some h
  obtain ⟨w309, hw310, h⟩ := lt1_some h
  refine x_iast dX11_init_272 g307 g308 ?_
  rw [← hw310]
  refine x_dup dX11_init_273 rfl ?_
  refine x_iconst (v := 4) dX11_init_274 (by decide) ?_
  refine x_iconst (v := 0) dX11_init_275 (by decide) ?_
  have g311 : isC w309 q291 20 := by rw [hw310]; exact g307
  obtain ⟨g312, h⟩ := gd_some h
  obtain ⟨w313, hw314, h⟩ := lt1_some h
  refine x_iast dX11_init_276 g311 g312 ?_
  rw [← hw314]
  refine x_dup dX11_init_277 rfl ?_
  refine x_iconst (v := 5) dX11_init_278 (by decide) ?_
  refine x_iconst (v := 0) dX11_init_279 (by decide) ?_
  have g315 : isC w313 q291 20 := by rw [hw314]; exact g311
  obtain ⟨g316, h⟩ := gd_some h
  obtain ⟨w317, hw318, h⟩ := lt1_some h
  refine x_iast dX11_init_280 g315 g316 ?_
  rw [← hw318]
  refine x_dup dX11_init_281 rfl ?_
  refine x_bipush (v := 6) dX11_init_282 (by decide) ?_
  refine x_bipush (v := 115) dX11_init_284 (by decide) ?_
  have g319 : isC w317 q291 20 := by rw [hw318]; exact g315
  obtain ⟨g320, h⟩ := gd_some h
  obtain ⟨w321, hw322, h⟩ := lt1_some h
  refine x_iast dX11_init_286 g319 g320 ?_
  rw [← hw322]
  refine x_dup dX11_init_287 rfl ?_
  refine x_bipush (v := 7) dX11_init_288 (by decide) ?_
  refine x_bipush (v := 105) dX11_init_290 (by decide) ?_
  have g323 : isC w321 q291 20 := by rw [hw322]; exact g319
  obtain ⟨g324, h⟩ := gd_some h
  obtain ⟨w325, hw326, h⟩ := lt1_some h
  refine x_iast dX11_init_292 g323 g324 ?_
  rw [← hw326]
  refine x_dup dX11_init_293 rfl ?_
  refine x_bipush (v := 8) dX11_init_294 (by decide) ?_
  refine x_bipush (v := 108) dX11_init_296 (by decide) ?_
  have g327 : isC w325 q291 20 := by rw [hw326]; exact g323
  obtain ⟨g328, h⟩ := gd_some h
  obtain ⟨w329, hw330, h⟩ := lt1_some h
  refine x_iast dX11_init_298 g327 g328 ?_
  rw [← hw330]
  refine x_dup dX11_init_299 rfl ?_
  refine x_bipush (v := 9) dX11_init_300 (by decide) ?_
  refine x_bipush (v := 118) dX11_init_302 (by decide) ?_
  have g331 : isC w329 q291 20 := by rw [hw330]; exact g327
  obtain ⟨g332, h⟩ := gd_some h
  obtain ⟨w333, hw334, h⟩ := lt1_some h
  refine x_iast dX11_init_304 g331 g332 ?_
  rw [← hw334]
  refine x_dup dX11_init_305 rfl ?_
  refine x_bipush (v := 10) dX11_init_306 (by decide) ?_
  refine x_bipush (v := 101) dX11_init_308 (by decide) ?_
  have g335 : isC w333 q291 20 := by rw [hw334]; exact g331
  obtain ⟨g336, h⟩ := gd_some h
  obtain ⟨w337, hw338, h⟩ := lt1_some h
  refine x_iast dX11_init_310 g335 g336 ?_
  rw [← hw338]
  refine x_dup dX11_init_311 rfl ?_
  refine x_bipush (v := 11) dX11_init_312 (by decide) ?_
  refine x_bipush (v := 114) dX11_init_314 (by decide) ?_
  have g339 : isC w337 q291 20 := by rw [hw338]; exact g335
  obtain ⟨g340, h⟩ := gd_some h
  obtain ⟨w341, hw342, h⟩ := lt1_some h
  refine x_iast dX11_init_316 g339 g340 ?_
  rw [← hw342]
  refine x_dup dX11_init_317 rfl ?_
  refine x_bipush (v := 12) dX11_init_318 (by decide) ?_
  refine x_bipush (v := 98) dX11_init_320 (by decide) ?_
  have g343 : isC w341 q291 20 := by rw [hw342]; exact g339
  obtain ⟨g344, h⟩ := gd_some h
  obtain ⟨w345, hw346, h⟩ := lt1_some h
  refine x_iast dX11_init_322 g343 g344 ?_
  rw [← hw346]
  refine x_dup dX11_init_323 rfl ?_
  refine x_bipush (v := 13) dX11_init_324 (by decide) ?_
  refine x_bipush (v := 114) dX11_init_326 (by decide) ?_
  have g347 : isC w345 q291 20 := by rw [hw346]; exact g343
  obtain ⟨g348, h⟩ := gd_some h
  obtain ⟨w349, hw350, h⟩ := lt1_some h
  refine x_iast dX11_init_328 g347 g348 ?_
  rw [← hw350]
  refine x_dup dX11_init_329 rfl ?_
  refine x_bipush (v := 14) dX11_init_330 (by decide) ?_
  refine x_bipush (v := 111) dX11_init_332 (by decide) ?_
  have g351 : isC w349 q291 20 := by rw [hw350]; exact g347
  obtain ⟨g352, h⟩ := gd_some h
  obtain ⟨w353, hw354, h⟩ := lt1_some h
  refine x_iast dX11_init_334 g351 g352 ?_
  rw [← hw354]
  refine x_dup dX11_init_335 rfl ?_
  refine x_bipush (v := 15) dX11_init_336 (by decide) ?_
  refine x_bipush (v := 110) dX11_init_338 (by decide) ?_
  have g355 : isC w353 q291 20 := by rw [hw354]; exact g351
  obtain ⟨g356, h⟩ := gd_some h
  obtain ⟨w357, hw358, h⟩ := lt1_some h
  refine x_iast dX11_init_340 g355 g356 ?_
  rw [← hw358]
  refine x_dup dX11_init_341 rfl ?_
  refine x_bipush (v := 16) dX11_init_342 (by decide) ?_
  refine x_bipush (v := 122) dX11_init_344 (by decide) ?_
  have g359 : isC w357 q291 20 := by rw [hw358]; exact g355
  obtain ⟨g360, h⟩ := gd_some h
  obtain ⟨w361, hw362, h⟩ := lt1_some h
  refine x_iast dX11_init_346 g359 g360 ?_
  rw [← hw362]
  refine x_dup dX11_init_347 rfl ?_
  refine x_bipush (v := 17) dX11_init_348 (by decide) ?_
  refine x_bipush (v := 101) dX11_init_350 (by decide) ?_
  have g363 : isC w361 q291 20 := by rw [hw362]; exact g359
  obtain ⟨g364, h⟩ := gd_some h
  obtain ⟨w365, hw366, h⟩ := lt1_some h
  refine x_iast dX11_init_352 g363 g364 ?_
  rw [← hw366]
  have g367 : isC w288 x0 11 := by rw [hw289]; exact g287
  have g368 : isC w293 x0 11 := by rw [hw294]; exact isC_nA _ _ g367
  have g369 : isC w297 x0 11 := by rw [hw298]; exact g368
  have g370 : isC w301 x0 11 := by rw [hw302]; exact g369
  have g371 : isC w305 x0 11 := by rw [hw306]; exact g370
  have g372 : isC w309 x0 11 := by rw [hw310]; exact g371
  have g373 : isC w313 x0 11 := by rw [hw314]; exact g372
  have g374 : isC w317 x0 11 := by rw [hw318]; exact g373
  have g375 : isC w321 x0 11 := by rw [hw322]; exact g374
  have g376 : isC w325 x0 11 := by rw [hw326]; exact g375
  have g377 : isC w329 x0 11 := by rw [hw330]; exact g376
  have g378 : isC w333 x0 11 := by rw [hw334]; exact g377
  have g379 : isC w337 x0 11 := by rw [hw338]; exact g378
  have g380 : isC w341 x0 11 := by rw [hw342]; exact g379
  have g381 : isC w345 x0 11 := by rw [hw346]; exact g380
  have g382 : isC w349 x0 11 := by rw [hw350]; exact g381
  have g383 : isC w353 x0 11 := by rw [hw354]; exact g382
  have g384 : isC w357 x0 11 := by rw [hw358]; exact g383
  have g385 : isC w361 x0 11 := by rw [hw362]; exact g384
  have g386 : isC w365 x0 11 := by rw [hw366]; exact g385
  obtain ⟨w387, hw388, h⟩ := lt1_some h
  refine x_putR (ci := 11) (k := 48) dX11_init_353 lw_RX11_105_w rfl g386 ?_
  rw [← hw388]
  refine x_aload_n (j := 0) (i := 0) dX11_init_356 rfl rfl ?_
  refine x_bipush (v := 64) dX11_init_357 (by decide) ?_
  obtain ⟨g389, h⟩ := gd_some h
  obtain ⟨q390, hq391, h⟩ := lt1_some h
  obtain ⟨w392, hw393, h⟩ := lt1_some h
  refine x_newa_int 64 dX11_init_359 la_int (by decide) (by decide) g389 (by decide) (by decide) ?_
  rw [← hq391, ← hw393]
  have g394 : isC w392 q390 20 := by rw [hw393, hq391]; exact isC_new _ _ _
  have g395 : isC w387 x0 11 := by rw [hw388]; exact g386
  have g396 : isC w392 x0 11 := by rw [hw393]; exact isC_nA _ _ g395
  obtain ⟨w397, hw398, h⟩ := lt1_some h
  refine x_putR (ci := 11) (k := 49) dX11_init_361 lw_RX11_108_w rfl g396 ?_
  rw [← hw398]
  refine x_aload_n (j := 0) (i := 0) dX11_init_364 rfl rfl ?_
  refine x_iconst (v := 3) dX11_init_365 (by decide) ?_
  refine x_iload_n (j := 1) (i := 1) dX11_init_366 rfl rfl ?_
  refine x_bipush (v := 6) dX11_init_367 (by decide) ?_
  refine x_irem dX11_init_369 (by decide) ?_
  refine x_bipush (v := 6) dX11_init_370 (by decide) ?_
  refine x_iadd dX11_init_372 ?_
  refine x_bipush (v := 6) dX11_init_373 (by decide) ?_
  refine x_irem dX11_init_375 (by decide) ?_
  refine x_iadd dX11_init_376 ?_
  have g399 : isC w397 x0 11 := by rw [hw398]; exact g396
  obtain ⟨w400, hw401, h⟩ := lt1_some h
  refine x_putI (ci := 11) (k := 0) dX11_init_377 lw_RX11_111_w rfl g399 ?_
  rw [← hw401]
  refine x_aload_n (j := 0) (i := 0) dX11_init_380 rfl rfl ?_
  refine x_iconst (v := 3) dX11_init_381 (by decide) ?_
  refine x_iload_n (j := 2) (i := 2) dX11_init_382 rfl rfl ?_
  refine x_bipush (v := 6) dX11_init_383 (by decide) ?_
  refine x_irem dX11_init_385 (by decide) ?_
  refine x_bipush (v := 6) dX11_init_386 (by decide) ?_
  refine x_iadd dX11_init_388 ?_
  refine x_bipush (v := 6) dX11_init_389 (by decide) ?_
  refine x_irem dX11_init_391 (by decide) ?_
  refine x_iadd dX11_init_392 ?_
  have g402 : isC w400 x0 11 := by rw [hw401]; exact g399
  obtain ⟨w403, hw404, h⟩ := lt1_some h
  refine x_putI (ci := 11) (k := 1) dX11_init_393 lw_RX11_114_w rfl g402 ?_
  rw [← hw404]
  refine x_iconst (v := 0) dX11_init_396 (by decide) ?_
  refine x_istore_n (i := 3) (lv2 := [(3, xI (0 : Int32)), (0, xR x0), (1, xI x1), (2, xI x2)]) dX11_init_397 rfl (by decide) rfl ?_
  refine x_lv (lv2 := [(0, xR x0), (3, xI (0 : Int32))]) [1, 0] rfl ?_
  exact k_X11_init_l398 rE wE xFu x0 (0 : Int32) w403 h
set_option maxRecDepth 20000 in
theorem c_X11_in (x0 : Int32) (x1 : Int32) (x2 : Int32) (w : xSt) (rE : Int32) (wE : xSt) (h : f_X11_in x0 x1 x2 w = some (rE, wE)) : xCall yX11_in cX11_in 3 (some .boolean) 0 0 0 [xI x0, xI x1, xI x2] w (some (xI rE), wE) := by
  refine xCall_of false (by decide) (fun q => nomatch q) (Nat.le_of_ble_eq_true rfl) ?_
  show xX cX11_in 3 (some .boolean) RX11 false (xRm 0 0 0) (xZf (some (xI rE), wE) 0 0) 0 [(0, xI x0), (1, xI x1), (2, xI x2)] [] w 0 0
  unfold f_X11_in at h
  refine x_iload_n (j := 0) (i := 0) dX11_in_0 rfl rfl ?_
  refine x_iload_n (j := 1) (i := 1) dX11_in_1 rfl rfl ?_
  refine x_icmp_lt (tgt := 14) dX11_in_2 (by decide) (fun hc1 => ?_) (fun hc1 => ?_)
  · rw [if_pos hc1] at h
    refine x_iconst (v := 0) dX11_in_14 (by decide) ?_
    obtain ⟨hr9, hw9⟩ := Prod.mk.inj (Option.some.inj h)
    subst hw9
    subst hr9
    exact x_zret dX11_in_15 rfl (by decide) rfl
  · rw [if_neg hc1] at h
    refine x_iload_n (j := 0) (i := 0) dX11_in_5 rfl rfl ?_
    refine x_iload_n (j := 2) (i := 2) dX11_in_6 rfl rfl ?_
    refine x_icmp_gt (tgt := 14) dX11_in_7 (by decide) (fun hc2 => ?_) (fun hc2 => ?_)
    · rw [if_pos hc2] at h
      refine x_iconst (v := 0) dX11_in_14 (by decide) ?_
      obtain ⟨hr9, hw9⟩ := Prod.mk.inj (Option.some.inj h)
      subst hw9
      subst hr9
      exact x_zret dX11_in_15 rfl (by decide) rfl
    · rw [if_neg hc2] at h
      refine x_iconst (v := 1) dX11_in_10 (by decide) ?_
      refine x_goto (tgt := 15) dX11_in_11 (by decide) ?_
      obtain ⟨hr9, hw9⟩ := Prod.mk.inj (Option.some.inj h)
      subst hw9
      subst hr9
      exact x_zret dX11_in_15 rfl (by decide) rfl
set_option maxRecDepth 20000 in
theorem c_X11_isCell (x0 : Nat) (x1 : Int32) (w : xSt) (rE : Int32) (wE : xSt) (h : f_X11_isCell x0 x1 w = some (rE, wE)) : xCall yX11_isCell cX11_isCell 2 (some .boolean) 1 0 0 [xR x0, xI x1] w (some (xI rE), wE) := by
  refine xCall_of false (by decide) (fun q => nomatch q) (Nat.le_of_ble_eq_true rfl) ?_
  show xX cX11_isCell 2 (some .boolean) RX11 false (xRm 1 0 0) (xZf (some (xI rE), wE) 0 0) 0 [(0, xR x0), (1, xI x1)] [] w 0 0
  unfold f_X11_isCell at h
  refine x_iload_n (j := 1) (i := 1) dX11_isCell_0 rfl rfl ?_
  refine x_iconst (v := 0) dX11_isCell_1 (by decide) ?_
  refine x_aload_n (j := 0) (i := 0) dX11_isCell_2 rfl rfl ?_
  obtain ⟨g1, h⟩ := gd_some h
  refine x_getI (ci := 11) (k := 0) dX11_isCell_3 lf_RX11_111 rfl g1 ?_
  refine x_aload_n (j := 0) (i := 0) dX11_isCell_6 rfl rfl ?_
  refine x_getI (ci := 11) (k := 1) dX11_isCell_7 lf_RX11_114 rfl g1 ?_
  refine x_imul dX11_isCell_10 ?_
  refine x_iconst (v := 1) dX11_isCell_11 (by decide) ?_
  refine x_isub dX11_isCell_12 ?_
  obtain ⟨v2, w3, hc4, h⟩ := bd_s h
  refine x_callSI dX11_isCell_13 ml_RX11_117 mb_X11_in (c_X11_in x1 (0 : Int32) (((wI w x0 0) * (wI w x0 1)) - (1 : Int32)) w v2 w3 hc4) [] rfl rfl (Nat.le_of_ble_eq_true rfl) (by decide) (by decide) ?_
  obtain ⟨g5, h⟩ := gd_some h
  obtain ⟨hr9, hw9⟩ := Prod.mk.inj (Option.some.inj h)
  subst hw9
  subst hr9
  exact x_zret dX11_isCell_16 rfl g5 rfl
set_option maxRecDepth 20000 in
theorem c_X11_isStand (x0 : Nat) (x1 : Int32) (w : xSt) (rE : Int32) (wE : xSt) (h : f_X11_isStand x0 x1 w = some (rE, wE)) : xCall yX11_isStand cX11_isStand 2 (some .boolean) 1 0 0 [xR x0, xI x1] w (some (xI rE), wE) := by
  refine xCall_of false (by decide) (fun q => nomatch q) (Nat.le_of_ble_eq_true rfl) ?_
  show xX cX11_isStand 2 (some .boolean) RX11 false (xRm 1 0 0) (xZf (some (xI rE), wE) 0 0) 0 [(0, xR x0), (1, xI x1)] [] w 0 0
  unfold f_X11_isStand at h
  refine x_iload_n (j := 1) (i := 1) dX11_isStand_0 rfl rfl ?_
  refine x_iconst (v := 0) dX11_isStand_1 (by decide) ?_
  refine x_aload_n (j := 0) (i := 0) dX11_isStand_2 rfl rfl ?_
  obtain ⟨g1, h⟩ := gd_some h
  refine x_getI (ci := 11) (k := 5) dX11_isStand_3 lf_RX11_121 rfl g1 ?_
  refine x_iconst (v := 1) dX11_isStand_6 (by decide) ?_
  refine x_isub dX11_isStand_7 ?_
  obtain ⟨v2, w3, hc4, h⟩ := bd_s h
  refine x_callSI dX11_isStand_8 ml_RX11_117 mb_X11_in (c_X11_in x1 (0 : Int32) ((wI w x0 5) - (1 : Int32)) w v2 w3 hc4) [] rfl rfl (Nat.le_of_ble_eq_true rfl) (by decide) (by decide) ?_
  obtain ⟨g5, h⟩ := gd_some h
  obtain ⟨hr9, hw9⟩ := Prod.mk.inj (Option.some.inj h)
  subst hw9
  subst hr9
  exact x_zret dX11_isStand_11 rfl g5 rfl
set_option maxRecDepth 20000 in
theorem c_X11_isLaid (x0 : Nat) (x1 : Int32) (w : xSt) (rE : Int32) (wE : xSt) (h : f_X11_isLaid x0 x1 w = some (rE, wE)) : xCall yX11_isLaid cX11_isLaid 2 (some .boolean) 2 0 0 [xR x0, xI x1] w (some (xI rE), wE) := by
  refine xCall_of false (by decide) (fun q => nomatch q) (Nat.le_of_ble_eq_true rfl) ?_
  show xX cX11_isLaid 2 (some .boolean) RX11 false (xRm 2 0 0) (xZf (some (xI rE), wE) 0 0) 0 [(0, xR x0), (1, xI x1)] [] w 0 0
  unfold f_X11_isLaid at h
  refine x_aload_n (j := 0) (i := 0) dX11_isLaid_0 rfl rfl ?_
  refine x_iload_n (j := 1) (i := 1) dX11_isLaid_1 rfl rfl ?_
  obtain ⟨g4, h⟩ := gd_some h
  obtain ⟨v1, w2, hc3, h⟩ := bd_s h
  refine x_callVI (ci := 11) dX11_isLaid_2 ml_RX11_124 mb_X11_isStand (c_X11_isStand x0 x1 w v1 w2 hc3) ⟨_, rfl, rfl⟩ g4 [] rfl rfl (Nat.le_of_ble_eq_true rfl) (by decide) (by decide) ?_
  refine x_if_eq (tgt := 22) dX11_isLaid_5 (by decide) (fun hc5 => ?_) (fun hc5 => ?_)
  · rw [if_pos hc5] at h
    refine x_iconst (v := 0) dX11_isLaid_22 (by decide) ?_
    obtain ⟨hr9, hw9⟩ := Prod.mk.inj (Option.some.inj h)
    subst hw9
    subst hr9
    exact x_zret dX11_isLaid_23 rfl (by decide) rfl
  · rw [if_neg hc5] at h
    refine x_aload_n (j := 0) (i := 0) dX11_isLaid_8 rfl rfl ?_
    obtain ⟨g6, h⟩ := gd_some h
    refine x_getR (ci := 11) (k := 12) dX11_isLaid_9 lf_RX11_38 rfl g6 ?_
    refine x_iload_n (j := 1) (i := 1) dX11_isLaid_12 rfl rfl ?_
    obtain ⟨g7, h⟩ := gd_some h
    obtain ⟨g8, h⟩ := gd_some h
    refine x_iald dX11_isLaid_13 g7 g8 ?_
    refine x_iconst (v := -1) dX11_isLaid_14 (by decide) ?_
    refine x_icmp_eq (tgt := 22) dX11_isLaid_15 (by decide) (fun hc9 => ?_) (fun hc9 => ?_)
    · rw [if_pos hc9] at h
      refine x_iconst (v := 0) dX11_isLaid_22 (by decide) ?_
      obtain ⟨hr9, hw9⟩ := Prod.mk.inj (Option.some.inj h)
      subst hw9
      subst hr9
      exact x_zret dX11_isLaid_23 rfl (by decide) rfl
    · rw [if_neg hc9] at h
      refine x_iconst (v := 1) dX11_isLaid_18 (by decide) ?_
      refine x_goto (tgt := 23) dX11_isLaid_19 (by decide) ?_
      obtain ⟨hr9, hw9⟩ := Prod.mk.inj (Option.some.inj h)
      subst hw9
      subst hr9
      exact x_zret dX11_isLaid_23 rfl (by decide) rfl
set_option maxRecDepth 20000 in
theorem c_X11_isEdge (x0 : Nat) (x1 : Int32) (w : xSt) (rE : Int32) (wE : xSt) (h : f_X11_isEdge x0 x1 w = some (rE, wE)) : xCall yX11_isEdge cX11_isEdge 4 (some .boolean) 0 0 0 [xR x0, xI x1] w (some (xI rE), wE) := by
  refine xCall_of false (by decide) (fun q => nomatch q) (Nat.le_of_ble_eq_true rfl) ?_
  show xX cX11_isEdge 4 (some .boolean) RX11 false (xRm 0 0 0) (xZf (some (xI rE), wE) 0 0) 0 [(0, xR x0), (1, xI x1)] [] w 0 0
  unfold f_X11_isEdge at h
  refine x_iload_n (j := 1) (i := 1) dX11_isEdge_0 rfl rfl ?_
  refine x_aload_n (j := 0) (i := 0) dX11_isEdge_1 rfl rfl ?_
  obtain ⟨g1, h⟩ := gd_some h
  refine x_getI (ci := 11) (k := 0) dX11_isEdge_2 lf_RX11_111 rfl g1 ?_
  obtain ⟨g2, h⟩ := gd_some h
  refine x_irem dX11_isEdge_5 g2 ?_
  refine x_istore_n (i := 2) (lv2 := [(2, xI (x1 - x1 / (wI w x0 0) * (wI w x0 0))), (0, xR x0), (1, xI x1)]) dX11_isEdge_6 rfl (by decide) rfl ?_
  refine x_iload_n (j := 2) (i := 1) dX11_isEdge_7 rfl rfl ?_
  refine x_aload_n (j := 1) (i := 0) dX11_isEdge_8 rfl rfl ?_
  refine x_getI (ci := 11) (k := 0) dX11_isEdge_9 lf_RX11_111 rfl g1 ?_
  obtain ⟨g3, h⟩ := gd_some h
  refine x_idiv dX11_isEdge_12 g3 ?_
  refine x_istore_n (i := 3) (lv2 := [(3, xI (x1 / (wI w x0 0))), (2, xI (x1 - x1 / (wI w x0 0) * (wI w x0 0))), (0, xR x0), (1, xI x1)]) dX11_isEdge_13 rfl (by decide) rfl ?_
  refine x_iload_n (j := 1) (i := 2) dX11_isEdge_14 rfl rfl ?_
  refine x_if_eq (tgt := 42) dX11_isEdge_15 (by decide) (fun hc4 => ?_) (fun hc4 => ?_)
  · rw [if_pos hc4] at h
    refine x_iconst (v := 1) dX11_isEdge_42 (by decide) ?_
    refine x_goto (tgt := 47) dX11_isEdge_43 (by decide) ?_
    obtain ⟨hr9, hw9⟩ := Prod.mk.inj (Option.some.inj h)
    subst hw9
    subst hr9
    exact x_zret dX11_isEdge_47 rfl (by decide) rfl
  · rw [if_neg hc4] at h
    refine x_iload_n (j := 0) (i := 3) dX11_isEdge_18 rfl rfl ?_
    refine x_if_eq (tgt := 42) dX11_isEdge_19 (by decide) (fun hc5 => ?_) (fun hc5 => ?_)
    · rw [if_pos hc5] at h
      refine x_iconst (v := 1) dX11_isEdge_42 (by decide) ?_
      refine x_goto (tgt := 47) dX11_isEdge_43 (by decide) ?_
      obtain ⟨hr9, hw9⟩ := Prod.mk.inj (Option.some.inj h)
      subst hw9
      subst hr9
      exact x_zret dX11_isEdge_47 rfl (by decide) rfl
    · rw [if_neg hc5] at h
      refine x_iload_n (j := 1) (i := 2) dX11_isEdge_22 rfl rfl ?_
      refine x_aload_n (j := 2) (i := 0) dX11_isEdge_23 rfl rfl ?_
      refine x_getI (ci := 11) (k := 0) dX11_isEdge_24 lf_RX11_111 rfl g1 ?_
      refine x_iconst (v := 1) dX11_isEdge_27 (by decide) ?_
      refine x_isub dX11_isEdge_28 ?_
      refine x_icmp_eq (tgt := 42) dX11_isEdge_29 (by decide) (fun hc6 => ?_) (fun hc6 => ?_)
      · rw [if_pos hc6] at h
        refine x_iconst (v := 1) dX11_isEdge_42 (by decide) ?_
        refine x_goto (tgt := 47) dX11_isEdge_43 (by decide) ?_
        obtain ⟨hr9, hw9⟩ := Prod.mk.inj (Option.some.inj h)
        subst hw9
        subst hr9
        exact x_zret dX11_isEdge_47 rfl (by decide) rfl
      · rw [if_neg hc6] at h
        refine x_iload_n (j := 0) (i := 3) dX11_isEdge_32 rfl rfl ?_
        refine x_aload_n (j := 2) (i := 0) dX11_isEdge_33 rfl rfl ?_
        refine x_getI (ci := 11) (k := 1) dX11_isEdge_34 lf_RX11_114 rfl g1 ?_
        refine x_iconst (v := 1) dX11_isEdge_37 (by decide) ?_
        refine x_isub dX11_isEdge_38 ?_
        refine x_icmp_ne (tgt := 46) dX11_isEdge_39 (by decide) (fun hc7 => ?_) (fun hc7 => ?_)
        · rw [if_neg hc7] at h
          refine x_iconst (v := 0) dX11_isEdge_46 (by decide) ?_
          obtain ⟨hr9, hw9⟩ := Prod.mk.inj (Option.some.inj h)
          subst hw9
          subst hr9
          exact x_zret dX11_isEdge_47 rfl (by decide) rfl
        · rw [if_pos hc7] at h
          refine x_iconst (v := 1) dX11_isEdge_42 (by decide) ?_
          refine x_goto (tgt := 47) dX11_isEdge_43 (by decide) ?_
          obtain ⟨hr9, hw9⟩ := Prod.mk.inj (Option.some.inj h)
          subst hw9
          subst hr9
          exact x_zret dX11_isEdge_47 rfl (by decide) rfl
set_option maxRecDepth 20000 in
theorem k_X11_laid_l4 (rE : Int32) (wE : xSt) : ∀ (n : Nat) (x0 : Nat) (x1 : Int32) (x2 : Int32) (w : xSt), f_X11_laid_l4 n x0 x1 x2 w = some (rE, wE) → xX cX11_laid 3 (some .int) RX11 false (xRm 0 0 0) (xZf (some (xI rE), wE) 0 0) 4 [(0, xR x0), (1, xI x1), (2, xI x2)] [] w 0 0 := by
  intro n
  induction n with
  | zero => intro x0 x1 x2 w h; exact nomatch (show (none : Option (Int32 × xSt)) = some (rE, wE) from h)
  | succ n ih =>
    intro x0 x1 x2 w h
    rw [f_X11_laid_l4_s] at h
    refine x_iload_n (j := 2) (i := 2) dX11_laid_4 rfl rfl ?_
    refine x_aload_n (j := 0) (i := 0) dX11_laid_5 rfl rfl ?_
    obtain ⟨g1, h⟩ := gd_some h
    refine x_getI (ci := 11) (k := 5) dX11_laid_6 lf_RX11_121 rfl g1 ?_
    refine x_icmp_ge (tgt := 36) dX11_laid_9 (by decide) (fun hc2 => ?_) (fun hc2 => ?_)
    · rw [if_pos hc2] at h
      refine x_iload_n (j := 1) (i := 1) dX11_laid_36 rfl rfl ?_
      obtain ⟨hr9, hw9⟩ := Prod.mk.inj (Option.some.inj h)
      subst hw9
      subst hr9
      exact x_iret dX11_laid_37 rfl rfl
    · rw [if_neg hc2] at h
      refine x_iload_n (j := 1) (i := 1) dX11_laid_12 rfl rfl ?_
      refine x_aload_n (j := 0) (i := 0) dX11_laid_13 rfl rfl ?_
      refine x_getR (ci := 11) (k := 12) dX11_laid_14 lf_RX11_38 rfl g1 ?_
      refine x_iload_n (j := 2) (i := 2) dX11_laid_17 rfl rfl ?_
      obtain ⟨g3, h⟩ := gd_some h
      obtain ⟨g4, h⟩ := gd_some h
      refine x_iald dX11_laid_18 g3 g4 ?_
      refine x_iconst (v := -1) dX11_laid_19 (by decide) ?_
      refine x_icmp_eq (tgt := 27) dX11_laid_20 (by decide) (fun hc5 => ?_) (fun hc5 => ?_)
      · rw [if_pos hc5] at h
        refine x_iconst (v := 0) dX11_laid_27 (by decide) ?_
        refine x_iadd dX11_laid_28 ?_
        refine x_istore_n (i := 1) (lv2 := [(1, xI (x1 + (0 : Int32))), (0, xR x0), (2, xI x2)]) dX11_laid_29 rfl (by decide) rfl ?_
        refine x_iinc (j := 2) (i := 2) (v := x2 + (1 : Int32)) (lv2 := [(2, xI (x2 + (1 : Int32))), (1, xI (x1 + (0 : Int32))), (0, xR x0)]) dX11_laid_30 rfl rfl (by decide) rfl ?_
        refine x_goto (tgt := 4) dX11_laid_33 (by decide) ?_
        refine x_lv (lv2 := [(0, xR x0), (1, xI (x1 + (0 : Int32))), (2, xI (x2 + (1 : Int32)))]) [2, 1, 0] rfl ?_
        exact ih x0 (x1 + (0 : Int32)) (x2 + (1 : Int32)) w h
      · rw [if_neg hc5] at h
        refine x_iconst (v := 1) dX11_laid_23 (by decide) ?_
        refine x_goto (tgt := 28) dX11_laid_24 (by decide) ?_
        refine x_iadd dX11_laid_28 ?_
        refine x_istore_n (i := 1) (lv2 := [(1, xI (x1 + (1 : Int32))), (0, xR x0), (2, xI x2)]) dX11_laid_29 rfl (by decide) rfl ?_
        refine x_iinc (j := 2) (i := 2) (v := x2 + (1 : Int32)) (lv2 := [(2, xI (x2 + (1 : Int32))), (1, xI (x1 + (1 : Int32))), (0, xR x0)]) dX11_laid_30 rfl rfl (by decide) rfl ?_
        refine x_goto (tgt := 4) dX11_laid_33 (by decide) ?_
        refine x_lv (lv2 := [(0, xR x0), (1, xI (x1 + (1 : Int32))), (2, xI (x2 + (1 : Int32)))]) [2, 1, 0] rfl ?_
        exact ih x0 (x1 + (1 : Int32)) (x2 + (1 : Int32)) w h
set_option maxRecDepth 20000 in
theorem c_X11_laid (x0 : Nat) (w : xSt) (rE : Int32) (wE : xSt) (h : f_X11_laid x0 w = some (rE, wE)) : xCall yX11_laid cX11_laid 3 (some .int) 0 0 0 [xR x0] w (some (xI rE), wE) := by
  refine xCall_of false (by decide) (fun q => nomatch q) (Nat.le_of_ble_eq_true rfl) ?_
  show xX cX11_laid 3 (some .int) RX11 false (xRm 0 0 0) (xZf (some (xI rE), wE) 0 0) 0 [(0, xR x0)] [] w 0 0
  unfold f_X11_laid at h
  refine x_iconst (v := 0) dX11_laid_0 (by decide) ?_
  refine x_istore_n (i := 1) (lv2 := [(1, xI (0 : Int32)), (0, xR x0)]) dX11_laid_1 rfl (by decide) rfl ?_
  refine x_iconst (v := 0) dX11_laid_2 (by decide) ?_
  refine x_istore_n (i := 2) (lv2 := [(2, xI (0 : Int32)), (1, xI (0 : Int32)), (0, xR x0)]) dX11_laid_3 rfl (by decide) rfl ?_
  refine x_lv (lv2 := [(0, xR x0), (1, xI (0 : Int32)), (2, xI (0 : Int32))]) [2, 1, 0] rfl ?_
  exact k_X11_laid_l4 rE wE xFu x0 (0 : Int32) (0 : Int32) w h
