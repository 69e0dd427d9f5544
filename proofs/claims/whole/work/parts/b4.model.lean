/-! the reference's constructor -/
def lrw (n : Nat) : Ro := fun i => if i < n then nI (lett.getD i 0) else 0
theorem lrw_0 : lrw 0 = fun _ => 0 := by funext i; unfold lrw; rw [if_neg (by omega)]
theorem lrw_s (n : Nat) {x : Int32} (h : x = nI (lett.getD n 0)) : upd (lrw n) n x = lrw (n + 1) := by
  funext i; simp only [lrw, upd]
  by_cases e : i = n
  · rw [if_pos e, if_pos (by omega), e, h]
  · rw [if_neg e]
    by_cases q : i < n
    · rw [if_pos q, if_pos (by omega)]
    · rw [if_neg q, if_neg (by omega)]
theorem lrw_u (f : Mem) (a n : Nat) {x : Int32} (h : x = nI (lett.getD n 0)) : u2 (ur f a (lrw n)) a n x = ur f a (lrw (n + 1)) := by
  rw [u2, ur_s, ur_ur, lrw_s n h]
theorem ol_RX11_1 : Cond.methodLink RX11 1 objectInit ∈ gw := mem_gw 912 (by decide +kernel) (by decide +kernel)
theorem m_model (pre : List Ly) (d : Nat) (hp : pre.length = d) (h900 : d < 700) (f : Mem) : Ct MX11_init 18 36018 (pre ++ [(14, 29, [1, 1, 1, 1, 1, 0, 1, 1, 1, 0, 0, 0, 0, 1, 1, 0, 0, 0, 1, 1, 1, 1, 1, 0, 0, 1, 0, 1, 1])]) (pre ++ [(14, 29, [d + 1 + 2, d + 2 + 2, d + 3 + 2, d + 4 + 2, d + 5 + 2, 0, d + 6 + 2, d + 7 + 2, d + 8 + 2, 0, 0, 0, 0, d + 9 + 2, d + 10 + 2, 0, 0, 0, d + 11 + 2, d + 12 + 2, d + 13 + 2, d + 14 + 2, d + 15 + 2, 0, 0, d + 16 + 2, 0, d + 17 + 2, d + 18 + 2]), (0, 253, []), (0, 253, []), (0, 52, []), (0, 4, []), (0, 4, []), (0, 120, []), (0, 48, []), (0, 54, []), (0, 3, []), (0, 3, []), (0, 31200, []), (0, 600, []), (0, 600, []), (0, 600, []), (0, 2048, []), (0, 12, []), (0, 4, []), (0, 160, [])]) [.ref (d + 0)] f (rt none (u2 (ur (u2 (u2 (u2 (u2 (ur (ur (ur (ur (ur (ur (ur (ur (ur (ur (ur (ur (ur (ur (ur (ur (ur f (d + 1) (fun _ => 0)) (d + 2) (fun _ => 0)) (d + 3) (fun _ => 0)) (d + 4) (fun _ => 0)) (d + 5) (fun _ => 0)) (d + 6) (fun _ => 0)) (d + 7) (fun _ => 0)) (d + 8) (lrw 54)) (d + 9) (fun _ => 0)) (d + 10) (fun _ => 0)) (d + 11) (fun _ => 0)) (d + 12) (fun _ => 0)) (d + 13) (fun _ => 0)) (d + 14) (fun _ => 0)) (d + 15) (fun _ => 0)) (d + 16) (fun _ => 0)) (d + 17) (fun _ => 0)) (d + 17) 0 (-1)) (d + 17) 1 (-1)) (d + 17) 2 (-1)) (d + 17) 3 (-1)) (d + 18) (fun _ => 0)) (d + 1) 56 (-5))) := by
  refine Ct.of (lv := [(0, .ref (d + 0))]) (by decide) (lb rfl) rfl ?_
  refine A_aload_n dX11_init_0 rfl 0 rfl ?_
  refine A_oi dX11_init_1 ol_RX11_1 ⟨lb rfl, lb rfl⟩ ?_
  refine A_aload_n dX11_init_4 rfl 0 rfl ?_
  refine A_sipush (v := 253) dX11_init_5 rfl ?_
  refine B_newI hp 253 dX11_init_8 rfl (by decide) (by have := h900; simp only [List.length]; omega) ⟨lb rfl, lb rfl⟩ ?_
  refine A_lay (lay' := pre ++ [(14, 29, [1, 1, 1, 1, 1, 0, 1, 1, 1, 0, 0, 0, 0, 1, 1, 0, 0, 0, 1, 1, 1, 1, 1, 0, 0, 1, 0, 1, 1]), (0, 253, [])]) rfl ?_
  refine B_putR (b := d + 1) hp 0 dX11_init_10 fo_RX11_9 rfl rfl rfl (lb rfl) (fun _ => rfl) (fun _ => rfl) ?_
  refine A_lay (lay' := pre ++ [(14, 29, [d + 1 + 2, 1, 1, 1, 1, 0, 1, 1, 1, 0, 0, 0, 0, 1, 1, 0, 0, 0, 1, 1, 1, 1, 1, 0, 0, 1, 0, 1, 1]), (0, 253, [])]) rfl ?_
  refine A_aload_n dX11_init_13 rfl 0 rfl ?_
  refine A_sipush (v := 253) dX11_init_14 rfl ?_
  refine B_newI hp 253 dX11_init_17 rfl (by decide) (by have := h900; simp only [List.length]; omega) ⟨lb rfl, lb rfl⟩ ?_
  refine A_lay (lay' := pre ++ [(14, 29, [d + 1 + 2, 1, 1, 1, 1, 0, 1, 1, 1, 0, 0, 0, 0, 1, 1, 0, 0, 0, 1, 1, 1, 1, 1, 0, 0, 1, 0, 1, 1]), (0, 253, []), (0, 253, [])]) rfl ?_
  refine B_putR (b := d + 2) hp 0 dX11_init_19 fo_RX11_13 rfl rfl rfl (lb rfl) (fun _ => rfl) (fun _ => rfl) ?_
  refine A_lay (lay' := pre ++ [(14, 29, [d + 1 + 2, d + 2 + 2, 1, 1, 1, 0, 1, 1, 1, 0, 0, 0, 0, 1, 1, 0, 0, 0, 1, 1, 1, 1, 1, 0, 0, 1, 0, 1, 1]), (0, 253, []), (0, 253, [])]) rfl ?_
  refine A_aload_n dX11_init_22 rfl 0 rfl ?_
  refine A_bipush (v := 52) dX11_init_23 rfl ?_
  refine B_newI hp 52 dX11_init_25 rfl (by decide) (by have := h900; simp only [List.length]; omega) ⟨lb rfl, lb rfl⟩ ?_
  refine A_lay (lay' := pre ++ [(14, 29, [d + 1 + 2, d + 2 + 2, 1, 1, 1, 0, 1, 1, 1, 0, 0, 0, 0, 1, 1, 0, 0, 0, 1, 1, 1, 1, 1, 0, 0, 1, 0, 1, 1]), (0, 253, []), (0, 253, []), (0, 52, [])]) rfl ?_
  refine B_putR (b := d + 3) hp 0 dX11_init_27 fo_RX11_16 rfl rfl rfl (lb rfl) (fun _ => rfl) (fun _ => rfl) ?_
  refine A_lay (lay' := pre ++ [(14, 29, [d + 1 + 2, d + 2 + 2, d + 3 + 2, 1, 1, 0, 1, 1, 1, 0, 0, 0, 0, 1, 1, 0, 0, 0, 1, 1, 1, 1, 1, 0, 0, 1, 0, 1, 1]), (0, 253, []), (0, 253, []), (0, 52, [])]) rfl ?_
  refine A_aload_n dX11_init_30 rfl 0 rfl ?_
  refine A_iconst (v := 4) dX11_init_31 rfl ?_
  refine B_newI hp 4 dX11_init_32 rfl (by decide) (by have := h900; simp only [List.length]; omega) ⟨lb rfl, lb rfl⟩ ?_
  refine A_lay (lay' := pre ++ [(14, 29, [d + 1 + 2, d + 2 + 2, d + 3 + 2, 1, 1, 0, 1, 1, 1, 0, 0, 0, 0, 1, 1, 0, 0, 0, 1, 1, 1, 1, 1, 0, 0, 1, 0, 1, 1]), (0, 253, []), (0, 253, []), (0, 52, []), (0, 4, [])]) rfl ?_
  refine B_putR (b := d + 4) hp 0 dX11_init_34 fo_RX11_19 rfl rfl rfl (lb rfl) (fun _ => rfl) (fun _ => rfl) ?_
  refine A_lay (lay' := pre ++ [(14, 29, [d + 1 + 2, d + 2 + 2, d + 3 + 2, d + 4 + 2, 1, 0, 1, 1, 1, 0, 0, 0, 0, 1, 1, 0, 0, 0, 1, 1, 1, 1, 1, 0, 0, 1, 0, 1, 1]), (0, 253, []), (0, 253, []), (0, 52, []), (0, 4, [])]) rfl ?_
  refine A_aload_n dX11_init_37 rfl 0 rfl ?_
  refine A_iconst (v := 4) dX11_init_38 rfl ?_
  refine B_newI hp 4 dX11_init_39 rfl (by decide) (by have := h900; simp only [List.length]; omega) ⟨lb rfl, lb rfl⟩ ?_
  refine A_lay (lay' := pre ++ [(14, 29, [d + 1 + 2, d + 2 + 2, d + 3 + 2, d + 4 + 2, 1, 0, 1, 1, 1, 0, 0, 0, 0, 1, 1, 0, 0, 0, 1, 1, 1, 1, 1, 0, 0, 1, 0, 1, 1]), (0, 253, []), (0, 253, []), (0, 52, []), (0, 4, []), (0, 4, [])]) rfl ?_
  refine B_putR (b := d + 5) hp 0 dX11_init_41 fo_RX11_22 rfl rfl rfl (lb rfl) (fun _ => rfl) (fun _ => rfl) ?_
  refine A_lay (lay' := pre ++ [(14, 29, [d + 1 + 2, d + 2 + 2, d + 3 + 2, d + 4 + 2, d + 5 + 2, 0, 1, 1, 1, 0, 0, 0, 0, 1, 1, 0, 0, 0, 1, 1, 1, 1, 1, 0, 0, 1, 0, 1, 1]), (0, 253, []), (0, 253, []), (0, 52, []), (0, 4, []), (0, 4, [])]) rfl ?_
  refine A_aload_n dX11_init_44 rfl 0 rfl ?_
  refine A_bipush (v := 120) dX11_init_45 rfl ?_
  refine B_newI hp 120 dX11_init_47 rfl (by decide) (by have := h900; simp only [List.length]; omega) ⟨lb rfl, lb rfl⟩ ?_
  refine A_lay (lay' := pre ++ [(14, 29, [d + 1 + 2, d + 2 + 2, d + 3 + 2, d + 4 + 2, d + 5 + 2, 0, 1, 1, 1, 0, 0, 0, 0, 1, 1, 0, 0, 0, 1, 1, 1, 1, 1, 0, 0, 1, 0, 1, 1]), (0, 253, []), (0, 253, []), (0, 52, []), (0, 4, []), (0, 4, []), (0, 120, [])]) rfl ?_
  refine B_putR (b := d + 6) hp 0 dX11_init_49 fo_RX11_25 rfl rfl rfl (lb rfl) (fun _ => rfl) (fun _ => rfl) ?_
  refine A_lay (lay' := pre ++ [(14, 29, [d + 1 + 2, d + 2 + 2, d + 3 + 2, d + 4 + 2, d + 5 + 2, 0, d + 6 + 2, 1, 1, 0, 0, 0, 0, 1, 1, 0, 0, 0, 1, 1, 1, 1, 1, 0, 0, 1, 0, 1, 1]), (0, 253, []), (0, 253, []), (0, 52, []), (0, 4, []), (0, 4, []), (0, 120, [])]) rfl ?_
  refine A_aload_n dX11_init_52 rfl 0 rfl ?_
  refine A_bipush (v := 48) dX11_init_53 rfl ?_
  refine B_newI hp 48 dX11_init_55 rfl (by decide) (by have := h900; simp only [List.length]; omega) ⟨lb rfl, lb rfl⟩ ?_
  refine A_lay (lay' := pre ++ [(14, 29, [d + 1 + 2, d + 2 + 2, d + 3 + 2, d + 4 + 2, d + 5 + 2, 0, d + 6 + 2, 1, 1, 0, 0, 0, 0, 1, 1, 0, 0, 0, 1, 1, 1, 1, 1, 0, 0, 1, 0, 1, 1]), (0, 253, []), (0, 253, []), (0, 52, []), (0, 4, []), (0, 4, []), (0, 120, []), (0, 48, [])]) rfl ?_
  refine B_putR (b := d + 7) hp 0 dX11_init_57 fo_RX11_28 rfl rfl rfl (lb rfl) (fun _ => rfl) (fun _ => rfl) ?_
  refine A_lay (lay' := pre ++ [(14, 29, [d + 1 + 2, d + 2 + 2, d + 3 + 2, d + 4 + 2, d + 5 + 2, 0, d + 6 + 2, d + 7 + 2, 1, 0, 0, 0, 0, 1, 1, 0, 0, 0, 1, 1, 1, 1, 1, 0, 0, 1, 0, 1, 1]), (0, 253, []), (0, 253, []), (0, 52, []), (0, 4, []), (0, 4, []), (0, 120, []), (0, 48, [])]) rfl ?_
  refine A_aload_n dX11_init_60 rfl 0 rfl ?_
  refine A_bipush (v := 54) dX11_init_61 rfl ?_
  refine B_newI hp 54 dX11_init_63 rfl (by decide) (by have := h900; simp only [List.length]; omega) ⟨lb rfl, lb rfl⟩ ?_
  refine A_lay (lay' := pre ++ [(14, 29, [d + 1 + 2, d + 2 + 2, d + 3 + 2, d + 4 + 2, d + 5 + 2, 0, d + 6 + 2, d + 7 + 2, 1, 0, 0, 0, 0, 1, 1, 0, 0, 0, 1, 1, 1, 1, 1, 0, 0, 1, 0, 1, 1]), (0, 253, []), (0, 253, []), (0, 52, []), (0, 4, []), (0, 4, []), (0, 120, []), (0, 48, []), (0, 54, [])]) rfl ?_
  refine A_eq rfl rfl (f' := ur (ur (ur (ur (ur (ur (ur (ur f (d + 1) (fun _ => 0)) (d + 2) (fun _ => 0)) (d + 3) (fun _ => 0)) (d + 4) (fun _ => 0)) (d + 5) (fun _ => 0)) (d + 6) (fun _ => 0)) (d + 7) (fun _ => 0)) (d + 8) (lrw 0)) (by rw [lrw_0]; rfl) ?_
  refine A_dup dX11_init_65 rfl ?_
  refine A_iconst (v := 0) dX11_init_66 rfl ?_
  refine A_bipush (v := 101) dX11_init_67 rfl ?_
  refine A_iastore 0 dX11_init_69 (at_pre hp 8 rfl) (rfl) (by decide) (lb rfl) ?_
  refine A_eq rfl rfl (f' := ur (ur (ur (ur (ur (ur (ur (ur f (d + 1) (fun _ => 0)) (d + 2) (fun _ => 0)) (d + 3) (fun _ => 0)) (d + 4) (fun _ => 0)) (d + 5) (fun _ => 0)) (d + 6) (fun _ => 0)) (d + 7) (fun _ => 0)) (d + 8) (lrw 1)) (lrw_u _ (d + 8) 0 (by decide)) ?_
  refine A_dup dX11_init_70 rfl ?_
  refine A_iconst (v := 1) dX11_init_71 rfl ?_
  refine A_bipush (v := 110) dX11_init_72 rfl ?_
  refine A_iastore 1 dX11_init_74 (at_pre hp 8 rfl) (rfl) (by decide) (lb rfl) ?_
  refine A_eq rfl rfl (f' := ur (ur (ur (ur (ur (ur (ur (ur f (d + 1) (fun _ => 0)) (d + 2) (fun _ => 0)) (d + 3) (fun _ => 0)) (d + 4) (fun _ => 0)) (d + 5) (fun _ => 0)) (d + 6) (fun _ => 0)) (d + 7) (fun _ => 0)) (d + 8) (lrw 2)) (lrw_u _ (d + 8) 1 (by decide)) ?_
  refine A_dup dX11_init_75 rfl ?_
  refine A_iconst (v := 2) dX11_init_76 rfl ?_
  refine A_bipush (v := 116) dX11_init_77 rfl ?_
  refine A_iastore 2 dX11_init_79 (at_pre hp 8 rfl) (rfl) (by decide) (lb rfl) ?_
  refine A_eq rfl rfl (f' := ur (ur (ur (ur (ur (ur (ur (ur f (d + 1) (fun _ => 0)) (d + 2) (fun _ => 0)) (d + 3) (fun _ => 0)) (d + 4) (fun _ => 0)) (d + 5) (fun _ => 0)) (d + 6) (fun _ => 0)) (d + 7) (fun _ => 0)) (d + 8) (lrw 3)) (lrw_u _ (d + 8) 2 (by decide)) ?_
  refine A_dup dX11_init_80 rfl ?_
  refine A_iconst (v := 3) dX11_init_81 rfl ?_
  refine A_bipush (v := 101) dX11_init_82 rfl ?_
  refine A_iastore 3 dX11_init_84 (at_pre hp 8 rfl) (rfl) (by decide) (lb rfl) ?_
  refine A_eq rfl rfl (f' := ur (ur (ur (ur (ur (ur (ur (ur f (d + 1) (fun _ => 0)) (d + 2) (fun _ => 0)) (d + 3) (fun _ => 0)) (d + 4) (fun _ => 0)) (d + 5) (fun _ => 0)) (d + 6) (fun _ => 0)) (d + 7) (fun _ => 0)) (d + 8) (lrw 4)) (lrw_u _ (d + 8) 3 (by decide)) ?_
  refine A_dup dX11_init_85 rfl ?_
  refine A_iconst (v := 4) dX11_init_86 rfl ?_
  refine A_bipush (v := 114) dX11_init_87 rfl ?_
  refine A_iastore 4 dX11_init_89 (at_pre hp 8 rfl) (rfl) (by decide) (lb rfl) ?_
  refine A_eq rfl rfl (f' := ur (ur (ur (ur (ur (ur (ur (ur f (d + 1) (fun _ => 0)) (d + 2) (fun _ => 0)) (d + 3) (fun _ => 0)) (d + 4) (fun _ => 0)) (d + 5) (fun _ => 0)) (d + 6) (fun _ => 0)) (d + 7) (fun _ => 0)) (d + 8) (lrw 5)) (lrw_u _ (d + 8) 4 (by decide)) ?_
  refine A_dup dX11_init_90 rfl ?_
  refine A_iconst (v := 5) dX11_init_91 rfl ?_
  refine A_iconst (v := 0) dX11_init_92 rfl ?_
  refine A_iastore 5 dX11_init_93 (at_pre hp 8 rfl) (rfl) (by decide) (lb rfl) ?_
  refine A_eq rfl rfl (f' := ur (ur (ur (ur (ur (ur (ur (ur f (d + 1) (fun _ => 0)) (d + 2) (fun _ => 0)) (d + 3) (fun _ => 0)) (d + 4) (fun _ => 0)) (d + 5) (fun _ => 0)) (d + 6) (fun _ => 0)) (d + 7) (fun _ => 0)) (d + 8) (lrw 6)) (lrw_u _ (d + 8) 5 (by decide)) ?_
  refine A_dup dX11_init_94 rfl ?_
  refine A_bipush (v := 6) dX11_init_95 rfl ?_
  refine A_bipush (v := 108) dX11_init_97 rfl ?_
  refine A_iastore 6 dX11_init_99 (at_pre hp 8 rfl) (rfl) (by decide) (lb rfl) ?_
  refine A_eq rfl rfl (f' := ur (ur (ur (ur (ur (ur (ur (ur f (d + 1) (fun _ => 0)) (d + 2) (fun _ => 0)) (d + 3) (fun _ => 0)) (d + 4) (fun _ => 0)) (d + 5) (fun _ => 0)) (d + 6) (fun _ => 0)) (d + 7) (fun _ => 0)) (d + 8) (lrw 7)) (lrw_u _ (d + 8) 6 (by decide)) ?_
  refine A_dup dX11_init_100 rfl ?_
  refine A_bipush (v := 7) dX11_init_101 rfl ?_
  refine A_bipush (v := 101) dX11_init_103 rfl ?_
  refine A_iastore 7 dX11_init_105 (at_pre hp 8 rfl) (rfl) (by decide) (lb rfl) ?_
  refine A_eq rfl rfl (f' := ur (ur (ur (ur (ur (ur (ur (ur f (d + 1) (fun _ => 0)) (d + 2) (fun _ => 0)) (d + 3) (fun _ => 0)) (d + 4) (fun _ => 0)) (d + 5) (fun _ => 0)) (d + 6) (fun _ => 0)) (d + 7) (fun _ => 0)) (d + 8) (lrw 8)) (lrw_u _ (d + 8) 7 (by decide)) ?_
  refine A_dup dX11_init_106 rfl ?_
  refine A_bipush (v := 8) dX11_init_107 rfl ?_
  refine A_bipush (v := 97) dX11_init_109 rfl ?_
  refine A_iastore 8 dX11_init_111 (at_pre hp 8 rfl) (rfl) (by decide) (lb rfl) ?_
  refine A_eq rfl rfl (f' := ur (ur (ur (ur (ur (ur (ur (ur f (d + 1) (fun _ => 0)) (d + 2) (fun _ => 0)) (d + 3) (fun _ => 0)) (d + 4) (fun _ => 0)) (d + 5) (fun _ => 0)) (d + 6) (fun _ => 0)) (d + 7) (fun _ => 0)) (d + 8) (lrw 9)) (lrw_u _ (d + 8) 8 (by decide)) ?_
  refine A_dup dX11_init_112 rfl ?_
  refine A_bipush (v := 9) dX11_init_113 rfl ?_
  refine A_bipush (v := 118) dX11_init_115 rfl ?_
  refine A_iastore 9 dX11_init_117 (at_pre hp 8 rfl) (rfl) (by decide) (lb rfl) ?_
  refine A_eq rfl rfl (f' := ur (ur (ur (ur (ur (ur (ur (ur f (d + 1) (fun _ => 0)) (d + 2) (fun _ => 0)) (d + 3) (fun _ => 0)) (d + 4) (fun _ => 0)) (d + 5) (fun _ => 0)) (d + 6) (fun _ => 0)) (d + 7) (fun _ => 0)) (d + 8) (lrw 10)) (lrw_u _ (d + 8) 9 (by decide)) ?_
  refine A_dup dX11_init_118 rfl ?_
  refine A_bipush (v := 10) dX11_init_119 rfl ?_
  refine A_bipush (v := 101) dX11_init_121 rfl ?_
  refine A_iastore 10 dX11_init_123 (at_pre hp 8 rfl) (rfl) (by decide) (lb rfl) ?_
  refine A_eq rfl rfl (f' := ur (ur (ur (ur (ur (ur (ur (ur f (d + 1) (fun _ => 0)) (d + 2) (fun _ => 0)) (d + 3) (fun _ => 0)) (d + 4) (fun _ => 0)) (d + 5) (fun _ => 0)) (d + 6) (fun _ => 0)) (d + 7) (fun _ => 0)) (d + 8) (lrw 11)) (lrw_u _ (d + 8) 10 (by decide)) ?_
  refine A_dup dX11_init_124 rfl ?_
  refine A_bipush (v := 11) dX11_init_125 rfl ?_
  refine A_iconst (v := 0) dX11_init_127 rfl ?_
  refine A_iastore 11 dX11_init_128 (at_pre hp 8 rfl) (rfl) (by decide) (lb rfl) ?_
  refine A_eq rfl rfl (f' := ur (ur (ur (ur (ur (ur (ur (ur f (d + 1) (fun _ => 0)) (d + 2) (fun _ => 0)) (d + 3) (fun _ => 0)) (d + 4) (fun _ => 0)) (d + 5) (fun _ => 0)) (d + 6) (fun _ => 0)) (d + 7) (fun _ => 0)) (d + 8) (lrw 12)) (lrw_u _ (d + 8) 11 (by decide)) ?_
  refine A_dup dX11_init_129 rfl ?_
  refine A_bipush (v := 12) dX11_init_130 rfl ?_
  refine A_bipush (v := 119) dX11_init_132 rfl ?_
  refine A_iastore 12 dX11_init_134 (at_pre hp 8 rfl) (rfl) (by decide) (lb rfl) ?_
  refine A_eq rfl rfl (f' := ur (ur (ur (ur (ur (ur (ur (ur f (d + 1) (fun _ => 0)) (d + 2) (fun _ => 0)) (d + 3) (fun _ => 0)) (d + 4) (fun _ => 0)) (d + 5) (fun _ => 0)) (d + 6) (fun _ => 0)) (d + 7) (fun _ => 0)) (d + 8) (lrw 13)) (lrw_u _ (d + 8) 12 (by decide)) ?_
  refine A_dup dX11_init_135 rfl ?_
  refine A_bipush (v := 13) dX11_init_136 rfl ?_
  refine A_bipush (v := 97) dX11_init_138 rfl ?_
  refine A_iastore 13 dX11_init_140 (at_pre hp 8 rfl) (rfl) (by decide) (lb rfl) ?_
  refine A_eq rfl rfl (f' := ur (ur (ur (ur (ur (ur (ur (ur f (d + 1) (fun _ => 0)) (d + 2) (fun _ => 0)) (d + 3) (fun _ => 0)) (d + 4) (fun _ => 0)) (d + 5) (fun _ => 0)) (d + 6) (fun _ => 0)) (d + 7) (fun _ => 0)) (d + 8) (lrw 14)) (lrw_u _ (d + 8) 13 (by decide)) ?_
  refine A_dup dX11_init_141 rfl ?_
  refine A_bipush (v := 14) dX11_init_142 rfl ?_
  refine A_bipush (v := 105) dX11_init_144 rfl ?_
  refine A_iastore 14 dX11_init_146 (at_pre hp 8 rfl) (rfl) (by decide) (lb rfl) ?_
  refine A_eq rfl rfl (f' := ur (ur (ur (ur (ur (ur (ur (ur f (d + 1) (fun _ => 0)) (d + 2) (fun _ => 0)) (d + 3) (fun _ => 0)) (d + 4) (fun _ => 0)) (d + 5) (fun _ => 0)) (d + 6) (fun _ => 0)) (d + 7) (fun _ => 0)) (d + 8) (lrw 15)) (lrw_u _ (d + 8) 14 (by decide)) ?_
  refine A_dup dX11_init_147 rfl ?_
  refine A_bipush (v := 15) dX11_init_148 rfl ?_
  refine A_bipush (v := 116) dX11_init_150 rfl ?_
  refine A_iastore 15 dX11_init_152 (at_pre hp 8 rfl) (rfl) (by decide) (lb rfl) ?_
  refine A_eq rfl rfl (f' := ur (ur (ur (ur (ur (ur (ur (ur f (d + 1) (fun _ => 0)) (d + 2) (fun _ => 0)) (d + 3) (fun _ => 0)) (d + 4) (fun _ => 0)) (d + 5) (fun _ => 0)) (d + 6) (fun _ => 0)) (d + 7) (fun _ => 0)) (d + 8) (lrw 16)) (lrw_u _ (d + 8) 15 (by decide)) ?_
  refine A_dup dX11_init_153 rfl ?_
  refine A_bipush (v := 16) dX11_init_154 rfl ?_
  refine A_iconst (v := 0) dX11_init_156 rfl ?_
  refine A_iastore 16 dX11_init_157 (at_pre hp 8 rfl) (rfl) (by decide) (lb rfl) ?_
  refine A_eq rfl rfl (f' := ur (ur (ur (ur (ur (ur (ur (ur f (d + 1) (fun _ => 0)) (d + 2) (fun _ => 0)) (d + 3) (fun _ => 0)) (d + 4) (fun _ => 0)) (d + 5) (fun _ => 0)) (d + 6) (fun _ => 0)) (d + 7) (fun _ => 0)) (d + 8) (lrw 17)) (lrw_u _ (d + 8) 16 (by decide)) ?_
  refine A_dup dX11_init_158 rfl ?_
  refine A_bipush (v := 17) dX11_init_159 rfl ?_
  refine A_iconst (v := 0) dX11_init_161 rfl ?_
  refine A_iastore 17 dX11_init_162 (at_pre hp 8 rfl) (rfl) (by decide) (lb rfl) ?_
  refine A_eq rfl rfl (f' := ur (ur (ur (ur (ur (ur (ur (ur f (d + 1) (fun _ => 0)) (d + 2) (fun _ => 0)) (d + 3) (fun _ => 0)) (d + 4) (fun _ => 0)) (d + 5) (fun _ => 0)) (d + 6) (fun _ => 0)) (d + 7) (fun _ => 0)) (d + 8) (lrw 18)) (lrw_u _ (d + 8) 17 (by decide)) ?_
  refine A_dup dX11_init_163 rfl ?_
  refine A_bipush (v := 18) dX11_init_164 rfl ?_
  refine A_bipush (v := 110) dX11_init_166 rfl ?_
  refine A_iastore 18 dX11_init_168 (at_pre hp 8 rfl) (rfl) (by decide) (lb rfl) ?_
  refine A_eq rfl rfl (f' := ur (ur (ur (ur (ur (ur (ur (ur f (d + 1) (fun _ => 0)) (d + 2) (fun _ => 0)) (d + 3) (fun _ => 0)) (d + 4) (fun _ => 0)) (d + 5) (fun _ => 0)) (d + 6) (fun _ => 0)) (d + 7) (fun _ => 0)) (d + 8) (lrw 19)) (lrw_u _ (d + 8) 18 (by decide)) ?_
  refine A_dup dX11_init_169 rfl ?_
  refine A_bipush (v := 19) dX11_init_170 rfl ?_
  refine A_bipush (v := 111) dX11_init_172 rfl ?_
  refine A_iastore 19 dX11_init_174 (at_pre hp 8 rfl) (rfl) (by decide) (lb rfl) ?_
  refine A_eq rfl rfl (f' := ur (ur (ur (ur (ur (ur (ur (ur f (d + 1) (fun _ => 0)) (d + 2) (fun _ => 0)) (d + 3) (fun _ => 0)) (d + 4) (fun _ => 0)) (d + 5) (fun _ => 0)) (d + 6) (fun _ => 0)) (d + 7) (fun _ => 0)) (d + 8) (lrw 20)) (lrw_u _ (d + 8) 19 (by decide)) ?_
  refine A_dup dX11_init_175 rfl ?_
  refine A_bipush (v := 20) dX11_init_176 rfl ?_
  refine A_bipush (v := 116) dX11_init_178 rfl ?_
  refine A_iastore 20 dX11_init_180 (at_pre hp 8 rfl) (rfl) (by decide) (lb rfl) ?_
  refine A_eq rfl rfl (f' := ur (ur (ur (ur (ur (ur (ur (ur f (d + 1) (fun _ => 0)) (d + 2) (fun _ => 0)) (d + 3) (fun _ => 0)) (d + 4) (fun _ => 0)) (d + 5) (fun _ => 0)) (d + 6) (fun _ => 0)) (d + 7) (fun _ => 0)) (d + 8) (lrw 21)) (lrw_u _ (d + 8) 20 (by decide)) ?_
  refine A_dup dX11_init_181 rfl ?_
  refine A_bipush (v := 21) dX11_init_182 rfl ?_
  refine A_bipush (v := 105) dX11_init_184 rfl ?_
  refine A_iastore 21 dX11_init_186 (at_pre hp 8 rfl) (rfl) (by decide) (lb rfl) ?_
  refine A_eq rfl rfl (f' := ur (ur (ur (ur (ur (ur (ur (ur f (d + 1) (fun _ => 0)) (d + 2) (fun _ => 0)) (d + 3) (fun _ => 0)) (d + 4) (fun _ => 0)) (d + 5) (fun _ => 0)) (d + 6) (fun _ => 0)) (d + 7) (fun _ => 0)) (d + 8) (lrw 22)) (lrw_u _ (d + 8) 21 (by decide)) ?_
  refine A_dup dX11_init_187 rfl ?_
  refine A_bipush (v := 22) dX11_init_188 rfl ?_
  refine A_bipush (v := 102) dX11_init_190 rfl ?_
  refine A_iastore 22 dX11_init_192 (at_pre hp 8 rfl) (rfl) (by decide) (lb rfl) ?_
  refine A_eq rfl rfl (f' := ur (ur (ur (ur (ur (ur (ur (ur f (d + 1) (fun _ => 0)) (d + 2) (fun _ => 0)) (d + 3) (fun _ => 0)) (d + 4) (fun _ => 0)) (d + 5) (fun _ => 0)) (d + 6) (fun _ => 0)) (d + 7) (fun _ => 0)) (d + 8) (lrw 23)) (lrw_u _ (d + 8) 22 (by decide)) ?_
  refine A_dup dX11_init_193 rfl ?_
  refine A_bipush (v := 23) dX11_init_194 rfl ?_
  refine A_bipush (v := 121) dX11_init_196 rfl ?_
  refine A_iastore 23 dX11_init_198 (at_pre hp 8 rfl) (rfl) (by decide) (lb rfl) ?_
  refine A_eq rfl rfl (f' := ur (ur (ur (ur (ur (ur (ur (ur f (d + 1) (fun _ => 0)) (d + 2) (fun _ => 0)) (d + 3) (fun _ => 0)) (d + 4) (fun _ => 0)) (d + 5) (fun _ => 0)) (d + 6) (fun _ => 0)) (d + 7) (fun _ => 0)) (d + 8) (lrw 24)) (lrw_u _ (d + 8) 23 (by decide)) ?_
  refine A_dup dX11_init_199 rfl ?_
  refine A_bipush (v := 24) dX11_init_200 rfl ?_
  refine A_bipush (v := 97) dX11_init_202 rfl ?_
  refine A_iastore 24 dX11_init_204 (at_pre hp 8 rfl) (rfl) (by decide) (lb rfl) ?_
  refine A_eq rfl rfl (f' := ur (ur (ur (ur (ur (ur (ur (ur f (d + 1) (fun _ => 0)) (d + 2) (fun _ => 0)) (d + 3) (fun _ => 0)) (d + 4) (fun _ => 0)) (d + 5) (fun _ => 0)) (d + 6) (fun _ => 0)) (d + 7) (fun _ => 0)) (d + 8) (lrw 25)) (lrw_u _ (d + 8) 24 (by decide)) ?_
  refine A_dup dX11_init_205 rfl ?_
  refine A_bipush (v := 25) dX11_init_206 rfl ?_
  refine A_bipush (v := 108) dX11_init_208 rfl ?_
  refine A_iastore 25 dX11_init_210 (at_pre hp 8 rfl) (rfl) (by decide) (lb rfl) ?_
  refine A_eq rfl rfl (f' := ur (ur (ur (ur (ur (ur (ur (ur f (d + 1) (fun _ => 0)) (d + 2) (fun _ => 0)) (d + 3) (fun _ => 0)) (d + 4) (fun _ => 0)) (d + 5) (fun _ => 0)) (d + 6) (fun _ => 0)) (d + 7) (fun _ => 0)) (d + 8) (lrw 26)) (lrw_u _ (d + 8) 25 (by decide)) ?_
  refine A_dup dX11_init_211 rfl ?_
  refine A_bipush (v := 26) dX11_init_212 rfl ?_
  refine A_bipush (v := 108) dX11_init_214 rfl ?_
  refine A_iastore 26 dX11_init_216 (at_pre hp 8 rfl) (rfl) (by decide) (lb rfl) ?_
  refine A_eq rfl rfl (f' := ur (ur (ur (ur (ur (ur (ur (ur f (d + 1) (fun _ => 0)) (d + 2) (fun _ => 0)) (d + 3) (fun _ => 0)) (d + 4) (fun _ => 0)) (d + 5) (fun _ => 0)) (d + 6) (fun _ => 0)) (d + 7) (fun _ => 0)) (d + 8) (lrw 27)) (lrw_u _ (d + 8) 26 (by decide)) ?_
  refine A_dup dX11_init_217 rfl ?_
  refine A_bipush (v := 27) dX11_init_218 rfl ?_
  refine A_iconst (v := 0) dX11_init_220 rfl ?_
  refine A_iastore 27 dX11_init_221 (at_pre hp 8 rfl) (rfl) (by decide) (lb rfl) ?_
  refine A_eq rfl rfl (f' := ur (ur (ur (ur (ur (ur (ur (ur f (d + 1) (fun _ => 0)) (d + 2) (fun _ => 0)) (d + 3) (fun _ => 0)) (d + 4) (fun _ => 0)) (d + 5) (fun _ => 0)) (d + 6) (fun _ => 0)) (d + 7) (fun _ => 0)) (d + 8) (lrw 28)) (lrw_u _ (d + 8) 27 (by decide)) ?_
  refine A_dup dX11_init_222 rfl ?_
  refine A_bipush (v := 28) dX11_init_223 rfl ?_
  refine A_iconst (v := 0) dX11_init_225 rfl ?_
  refine A_iastore 28 dX11_init_226 (at_pre hp 8 rfl) (rfl) (by decide) (lb rfl) ?_
  refine A_eq rfl rfl (f' := ur (ur (ur (ur (ur (ur (ur (ur f (d + 1) (fun _ => 0)) (d + 2) (fun _ => 0)) (d + 3) (fun _ => 0)) (d + 4) (fun _ => 0)) (d + 5) (fun _ => 0)) (d + 6) (fun _ => 0)) (d + 7) (fun _ => 0)) (d + 8) (lrw 29)) (lrw_u _ (d + 8) 28 (by decide)) ?_
  refine A_dup dX11_init_227 rfl ?_
  refine A_bipush (v := 29) dX11_init_228 rfl ?_
  refine A_iconst (v := 0) dX11_init_230 rfl ?_
  refine A_iastore 29 dX11_init_231 (at_pre hp 8 rfl) (rfl) (by decide) (lb rfl) ?_
  refine A_eq rfl rfl (f' := ur (ur (ur (ur (ur (ur (ur (ur f (d + 1) (fun _ => 0)) (d + 2) (fun _ => 0)) (d + 3) (fun _ => 0)) (d + 4) (fun _ => 0)) (d + 5) (fun _ => 0)) (d + 6) (fun _ => 0)) (d + 7) (fun _ => 0)) (d + 8) (lrw 30)) (lrw_u _ (d + 8) 29 (by decide)) ?_
  refine A_dup dX11_init_232 rfl ?_
  refine A_bipush (v := 30) dX11_init_233 rfl ?_
  refine A_bipush (v := 97) dX11_init_235 rfl ?_
  refine A_iastore 30 dX11_init_237 (at_pre hp 8 rfl) (rfl) (by decide) (lb rfl) ?_
  refine A_eq rfl rfl (f' := ur (ur (ur (ur (ur (ur (ur (ur f (d + 1) (fun _ => 0)) (d + 2) (fun _ => 0)) (d + 3) (fun _ => 0)) (d + 4) (fun _ => 0)) (d + 5) (fun _ => 0)) (d + 6) (fun _ => 0)) (d + 7) (fun _ => 0)) (d + 8) (lrw 31)) (lrw_u _ (d + 8) 30 (by decide)) ?_
  refine A_dup dX11_init_238 rfl ?_
  refine A_bipush (v := 31) dX11_init_239 rfl ?_
  refine A_bipush (v := 100) dX11_init_241 rfl ?_
  refine A_iastore 31 dX11_init_243 (at_pre hp 8 rfl) (rfl) (by decide) (lb rfl) ?_
  refine A_eq rfl rfl (f' := ur (ur (ur (ur (ur (ur (ur (ur f (d + 1) (fun _ => 0)) (d + 2) (fun _ => 0)) (d + 3) (fun _ => 0)) (d + 4) (fun _ => 0)) (d + 5) (fun _ => 0)) (d + 6) (fun _ => 0)) (d + 7) (fun _ => 0)) (d + 8) (lrw 32)) (lrw_u _ (d + 8) 31 (by decide)) ?_
  refine A_dup dX11_init_244 rfl ?_
  refine A_bipush (v := 32) dX11_init_245 rfl ?_
  refine A_bipush (v := 100) dX11_init_247 rfl ?_
  refine A_iastore 32 dX11_init_249 (at_pre hp 8 rfl) (rfl) (by decide) (lb rfl) ?_
  refine A_eq rfl rfl (f' := ur (ur (ur (ur (ur (ur (ur (ur f (d + 1) (fun _ => 0)) (d + 2) (fun _ => 0)) (d + 3) (fun _ => 0)) (d + 4) (fun _ => 0)) (d + 5) (fun _ => 0)) (d + 6) (fun _ => 0)) (d + 7) (fun _ => 0)) (d + 8) (lrw 33)) (lrw_u _ (d + 8) 32 (by decide)) ?_
  refine A_dup dX11_init_250 rfl ?_
  refine A_bipush (v := 33) dX11_init_251 rfl ?_
  refine A_iconst (v := 0) dX11_init_253 rfl ?_
  refine A_iastore 33 dX11_init_254 (at_pre hp 8 rfl) (rfl) (by decide) (lb rfl) ?_
  refine A_eq rfl rfl (f' := ur (ur (ur (ur (ur (ur (ur (ur f (d + 1) (fun _ => 0)) (d + 2) (fun _ => 0)) (d + 3) (fun _ => 0)) (d + 4) (fun _ => 0)) (d + 5) (fun _ => 0)) (d + 6) (fun _ => 0)) (d + 7) (fun _ => 0)) (d + 8) (lrw 34)) (lrw_u _ (d + 8) 33 (by decide)) ?_
  refine A_dup dX11_init_255 rfl ?_
  refine A_bipush (v := 34) dX11_init_256 rfl ?_
  refine A_iconst (v := 0) dX11_init_258 rfl ?_
  refine A_iastore 34 dX11_init_259 (at_pre hp 8 rfl) (rfl) (by decide) (lb rfl) ?_
  refine A_eq rfl rfl (f' := ur (ur (ur (ur (ur (ur (ur (ur f (d + 1) (fun _ => 0)) (d + 2) (fun _ => 0)) (d + 3) (fun _ => 0)) (d + 4) (fun _ => 0)) (d + 5) (fun _ => 0)) (d + 6) (fun _ => 0)) (d + 7) (fun _ => 0)) (d + 8) (lrw 35)) (lrw_u _ (d + 8) 34 (by decide)) ?_
  refine A_dup dX11_init_260 rfl ?_
  refine A_bipush (v := 35) dX11_init_261 rfl ?_
  refine A_iconst (v := 0) dX11_init_263 rfl ?_
  refine A_iastore 35 dX11_init_264 (at_pre hp 8 rfl) (rfl) (by decide) (lb rfl) ?_
  refine A_eq rfl rfl (f' := ur (ur (ur (ur (ur (ur (ur (ur f (d + 1) (fun _ => 0)) (d + 2) (fun _ => 0)) (d + 3) (fun _ => 0)) (d + 4) (fun _ => 0)) (d + 5) (fun _ => 0)) (d + 6) (fun _ => 0)) (d + 7) (fun _ => 0)) (d + 8) (lrw 36)) (lrw_u _ (d + 8) 35 (by decide)) ?_
  refine A_dup dX11_init_265 rfl ?_
  refine A_bipush (v := 36) dX11_init_266 rfl ?_
  refine A_bipush (v := 115) dX11_init_268 rfl ?_
  refine A_iastore 36 dX11_init_270 (at_pre hp 8 rfl) (rfl) (by decide) (lb rfl) ?_
  refine A_eq rfl rfl (f' := ur (ur (ur (ur (ur (ur (ur (ur f (d + 1) (fun _ => 0)) (d + 2) (fun _ => 0)) (d + 3) (fun _ => 0)) (d + 4) (fun _ => 0)) (d + 5) (fun _ => 0)) (d + 6) (fun _ => 0)) (d + 7) (fun _ => 0)) (d + 8) (lrw 37)) (lrw_u _ (d + 8) 36 (by decide)) ?_
  refine A_dup dX11_init_271 rfl ?_
  refine A_bipush (v := 37) dX11_init_272 rfl ?_
  refine A_bipush (v := 101) dX11_init_274 rfl ?_
  refine A_iastore 37 dX11_init_276 (at_pre hp 8 rfl) (rfl) (by decide) (lb rfl) ?_
  refine A_eq rfl rfl (f' := ur (ur (ur (ur (ur (ur (ur (ur f (d + 1) (fun _ => 0)) (d + 2) (fun _ => 0)) (d + 3) (fun _ => 0)) (d + 4) (fun _ => 0)) (d + 5) (fun _ => 0)) (d + 6) (fun _ => 0)) (d + 7) (fun _ => 0)) (d + 8) (lrw 38)) (lrw_u _ (d + 8) 37 (by decide)) ?_
  refine A_dup dX11_init_277 rfl ?_
  refine A_bipush (v := 38) dX11_init_278 rfl ?_
  refine A_bipush (v := 116) dX11_init_280 rfl ?_
  refine A_iastore 38 dX11_init_282 (at_pre hp 8 rfl) (rfl) (by decide) (lb rfl) ?_
  refine A_eq rfl rfl (f' := ur (ur (ur (ur (ur (ur (ur (ur f (d + 1) (fun _ => 0)) (d + 2) (fun _ => 0)) (d + 3) (fun _ => 0)) (d + 4) (fun _ => 0)) (d + 5) (fun _ => 0)) (d + 6) (fun _ => 0)) (d + 7) (fun _ => 0)) (d + 8) (lrw 39)) (lrw_u _ (d + 8) 38 (by decide)) ?_
  refine A_dup dX11_init_283 rfl ?_
  refine A_bipush (v := 39) dX11_init_284 rfl ?_
  refine A_iconst (v := 0) dX11_init_286 rfl ?_
  refine A_iastore 39 dX11_init_287 (at_pre hp 8 rfl) (rfl) (by decide) (lb rfl) ?_
  refine A_eq rfl rfl (f' := ur (ur (ur (ur (ur (ur (ur (ur f (d + 1) (fun _ => 0)) (d + 2) (fun _ => 0)) (d + 3) (fun _ => 0)) (d + 4) (fun _ => 0)) (d + 5) (fun _ => 0)) (d + 6) (fun _ => 0)) (d + 7) (fun _ => 0)) (d + 8) (lrw 40)) (lrw_u _ (d + 8) 39 (by decide)) ?_
  refine A_dup dX11_init_288 rfl ?_
  refine A_bipush (v := 40) dX11_init_289 rfl ?_
  refine A_iconst (v := 0) dX11_init_291 rfl ?_
  refine A_iastore 40 dX11_init_292 (at_pre hp 8 rfl) (rfl) (by decide) (lb rfl) ?_
  refine A_eq rfl rfl (f' := ur (ur (ur (ur (ur (ur (ur (ur f (d + 1) (fun _ => 0)) (d + 2) (fun _ => 0)) (d + 3) (fun _ => 0)) (d + 4) (fun _ => 0)) (d + 5) (fun _ => 0)) (d + 6) (fun _ => 0)) (d + 7) (fun _ => 0)) (d + 8) (lrw 41)) (lrw_u _ (d + 8) 40 (by decide)) ?_
  refine A_dup dX11_init_293 rfl ?_
  refine A_bipush (v := 41) dX11_init_294 rfl ?_
  refine A_iconst (v := 0) dX11_init_296 rfl ?_
  refine A_iastore 41 dX11_init_297 (at_pre hp 8 rfl) (rfl) (by decide) (lb rfl) ?_
  refine A_eq rfl rfl (f' := ur (ur (ur (ur (ur (ur (ur (ur f (d + 1) (fun _ => 0)) (d + 2) (fun _ => 0)) (d + 3) (fun _ => 0)) (d + 4) (fun _ => 0)) (d + 5) (fun _ => 0)) (d + 6) (fun _ => 0)) (d + 7) (fun _ => 0)) (d + 8) (lrw 42)) (lrw_u _ (d + 8) 41 (by decide)) ?_
  refine A_dup dX11_init_298 rfl ?_
  refine A_bipush (v := 42) dX11_init_299 rfl ?_
  refine A_bipush (v := 105) dX11_init_301 rfl ?_
  refine A_iastore 42 dX11_init_303 (at_pre hp 8 rfl) (rfl) (by decide) (lb rfl) ?_
  refine A_eq rfl rfl (f' := ur (ur (ur (ur (ur (ur (ur (ur f (d + 1) (fun _ => 0)) (d + 2) (fun _ => 0)) (d + 3) (fun _ => 0)) (d + 4) (fun _ => 0)) (d + 5) (fun _ => 0)) (d + 6) (fun _ => 0)) (d + 7) (fun _ => 0)) (d + 8) (lrw 43)) (lrw_u _ (d + 8) 42 (by decide)) ?_
  refine A_dup dX11_init_304 rfl ?_
  refine A_bipush (v := 43) dX11_init_305 rfl ?_
  refine A_bipush (v := 102) dX11_init_307 rfl ?_
  refine A_iastore 43 dX11_init_309 (at_pre hp 8 rfl) (rfl) (by decide) (lb rfl) ?_
  refine A_eq rfl rfl (f' := ur (ur (ur (ur (ur (ur (ur (ur f (d + 1) (fun _ => 0)) (d + 2) (fun _ => 0)) (d + 3) (fun _ => 0)) (d + 4) (fun _ => 0)) (d + 5) (fun _ => 0)) (d + 6) (fun _ => 0)) (d + 7) (fun _ => 0)) (d + 8) (lrw 44)) (lrw_u _ (d + 8) 43 (by decide)) ?_
  refine A_dup dX11_init_310 rfl ?_
  refine A_bipush (v := 44) dX11_init_311 rfl ?_
  refine A_iconst (v := 0) dX11_init_313 rfl ?_
  refine A_iastore 44 dX11_init_314 (at_pre hp 8 rfl) (rfl) (by decide) (lb rfl) ?_
  refine A_eq rfl rfl (f' := ur (ur (ur (ur (ur (ur (ur (ur f (d + 1) (fun _ => 0)) (d + 2) (fun _ => 0)) (d + 3) (fun _ => 0)) (d + 4) (fun _ => 0)) (d + 5) (fun _ => 0)) (d + 6) (fun _ => 0)) (d + 7) (fun _ => 0)) (d + 8) (lrw 45)) (lrw_u _ (d + 8) 44 (by decide)) ?_
  refine A_dup dX11_init_315 rfl ?_
  refine A_bipush (v := 45) dX11_init_316 rfl ?_
  refine A_iconst (v := 0) dX11_init_318 rfl ?_
  refine A_iastore 45 dX11_init_319 (at_pre hp 8 rfl) (rfl) (by decide) (lb rfl) ?_
  refine A_eq rfl rfl (f' := ur (ur (ur (ur (ur (ur (ur (ur f (d + 1) (fun _ => 0)) (d + 2) (fun _ => 0)) (d + 3) (fun _ => 0)) (d + 4) (fun _ => 0)) (d + 5) (fun _ => 0)) (d + 6) (fun _ => 0)) (d + 7) (fun _ => 0)) (d + 8) (lrw 46)) (lrw_u _ (d + 8) 45 (by decide)) ?_
  refine A_dup dX11_init_320 rfl ?_
  refine A_bipush (v := 46) dX11_init_321 rfl ?_
  refine A_iconst (v := 0) dX11_init_323 rfl ?_
  refine A_iastore 46 dX11_init_324 (at_pre hp 8 rfl) (rfl) (by decide) (lb rfl) ?_
  refine A_eq rfl rfl (f' := ur (ur (ur (ur (ur (ur (ur (ur f (d + 1) (fun _ => 0)) (d + 2) (fun _ => 0)) (d + 3) (fun _ => 0)) (d + 4) (fun _ => 0)) (d + 5) (fun _ => 0)) (d + 6) (fun _ => 0)) (d + 7) (fun _ => 0)) (d + 8) (lrw 47)) (lrw_u _ (d + 8) 46 (by decide)) ?_
  refine A_dup dX11_init_325 rfl ?_
  refine A_bipush (v := 47) dX11_init_326 rfl ?_
  refine A_iconst (v := 0) dX11_init_328 rfl ?_
  refine A_iastore 47 dX11_init_329 (at_pre hp 8 rfl) (rfl) (by decide) (lb rfl) ?_
  refine A_eq rfl rfl (f' := ur (ur (ur (ur (ur (ur (ur (ur f (d + 1) (fun _ => 0)) (d + 2) (fun _ => 0)) (d + 3) (fun _ => 0)) (d + 4) (fun _ => 0)) (d + 5) (fun _ => 0)) (d + 6) (fun _ => 0)) (d + 7) (fun _ => 0)) (d + 8) (lrw 48)) (lrw_u _ (d + 8) 47 (by decide)) ?_
  refine A_dup dX11_init_330 rfl ?_
  refine A_bipush (v := 48) dX11_init_331 rfl ?_
  refine A_bipush (v := 106) dX11_init_333 rfl ?_
  refine A_iastore 48 dX11_init_335 (at_pre hp 8 rfl) (rfl) (by decide) (lb rfl) ?_
  refine A_eq rfl rfl (f' := ur (ur (ur (ur (ur (ur (ur (ur f (d + 1) (fun _ => 0)) (d + 2) (fun _ => 0)) (d + 3) (fun _ => 0)) (d + 4) (fun _ => 0)) (d + 5) (fun _ => 0)) (d + 6) (fun _ => 0)) (d + 7) (fun _ => 0)) (d + 8) (lrw 49)) (lrw_u _ (d + 8) 48 (by decide)) ?_
  refine A_dup dX11_init_336 rfl ?_
  refine A_bipush (v := 49) dX11_init_337 rfl ?_
  refine A_bipush (v := 117) dX11_init_339 rfl ?_
  refine A_iastore 49 dX11_init_341 (at_pre hp 8 rfl) (rfl) (by decide) (lb rfl) ?_
  refine A_eq rfl rfl (f' := ur (ur (ur (ur (ur (ur (ur (ur f (d + 1) (fun _ => 0)) (d + 2) (fun _ => 0)) (d + 3) (fun _ => 0)) (d + 4) (fun _ => 0)) (d + 5) (fun _ => 0)) (d + 6) (fun _ => 0)) (d + 7) (fun _ => 0)) (d + 8) (lrw 50)) (lrw_u _ (d + 8) 49 (by decide)) ?_
  refine A_dup dX11_init_342 rfl ?_
  refine A_bipush (v := 50) dX11_init_343 rfl ?_
  refine A_bipush (v := 109) dX11_init_345 rfl ?_
  refine A_iastore 50 dX11_init_347 (at_pre hp 8 rfl) (rfl) (by decide) (lb rfl) ?_
  refine A_eq rfl rfl (f' := ur (ur (ur (ur (ur (ur (ur (ur f (d + 1) (fun _ => 0)) (d + 2) (fun _ => 0)) (d + 3) (fun _ => 0)) (d + 4) (fun _ => 0)) (d + 5) (fun _ => 0)) (d + 6) (fun _ => 0)) (d + 7) (fun _ => 0)) (d + 8) (lrw 51)) (lrw_u _ (d + 8) 50 (by decide)) ?_
  refine A_dup dX11_init_348 rfl ?_
  refine A_bipush (v := 51) dX11_init_349 rfl ?_
  refine A_bipush (v := 112) dX11_init_351 rfl ?_
  refine A_iastore 51 dX11_init_353 (at_pre hp 8 rfl) (rfl) (by decide) (lb rfl) ?_
  refine A_eq rfl rfl (f' := ur (ur (ur (ur (ur (ur (ur (ur f (d + 1) (fun _ => 0)) (d + 2) (fun _ => 0)) (d + 3) (fun _ => 0)) (d + 4) (fun _ => 0)) (d + 5) (fun _ => 0)) (d + 6) (fun _ => 0)) (d + 7) (fun _ => 0)) (d + 8) (lrw 52)) (lrw_u _ (d + 8) 51 (by decide)) ?_
  refine A_dup dX11_init_354 rfl ?_
  refine A_bipush (v := 52) dX11_init_355 rfl ?_
  refine A_iconst (v := 0) dX11_init_357 rfl ?_
  refine A_iastore 52 dX11_init_358 (at_pre hp 8 rfl) (rfl) (by decide) (lb rfl) ?_
  refine A_eq rfl rfl (f' := ur (ur (ur (ur (ur (ur (ur (ur f (d + 1) (fun _ => 0)) (d + 2) (fun _ => 0)) (d + 3) (fun _ => 0)) (d + 4) (fun _ => 0)) (d + 5) (fun _ => 0)) (d + 6) (fun _ => 0)) (d + 7) (fun _ => 0)) (d + 8) (lrw 53)) (lrw_u _ (d + 8) 52 (by decide)) ?_
  refine A_dup dX11_init_359 rfl ?_
  refine A_bipush (v := 53) dX11_init_360 rfl ?_
  refine A_iconst (v := 0) dX11_init_362 rfl ?_
  refine A_iastore 53 dX11_init_363 (at_pre hp 8 rfl) (rfl) (by decide) (lb rfl) ?_
  refine A_eq rfl rfl (f' := ur (ur (ur (ur (ur (ur (ur (ur f (d + 1) (fun _ => 0)) (d + 2) (fun _ => 0)) (d + 3) (fun _ => 0)) (d + 4) (fun _ => 0)) (d + 5) (fun _ => 0)) (d + 6) (fun _ => 0)) (d + 7) (fun _ => 0)) (d + 8) (lrw 54)) (lrw_u _ (d + 8) 53 (by decide)) ?_
  refine B_putR (b := d + 8) hp 0 dX11_init_364 fo_RX11_31 rfl rfl rfl (lb rfl) (fun _ => rfl) (fun _ => rfl) ?_
  refine A_lay (lay' := pre ++ [(14, 29, [d + 1 + 2, d + 2 + 2, d + 3 + 2, d + 4 + 2, d + 5 + 2, 0, d + 6 + 2, d + 7 + 2, d + 8 + 2, 0, 0, 0, 0, 1, 1, 0, 0, 0, 1, 1, 1, 1, 1, 0, 0, 1, 0, 1, 1]), (0, 253, []), (0, 253, []), (0, 52, []), (0, 4, []), (0, 4, []), (0, 120, []), (0, 48, []), (0, 54, [])]) rfl ?_
  refine A_aload_n dX11_init_367 rfl 0 rfl ?_
  refine A_iconst (v := 3) dX11_init_368 rfl ?_
  refine B_newI hp 3 dX11_init_369 rfl (by decide) (by have := h900; simp only [List.length]; omega) ⟨lb rfl, lb rfl⟩ ?_
  refine A_lay (lay' := pre ++ [(14, 29, [d + 1 + 2, d + 2 + 2, d + 3 + 2, d + 4 + 2, d + 5 + 2, 0, d + 6 + 2, d + 7 + 2, d + 8 + 2, 0, 0, 0, 0, 1, 1, 0, 0, 0, 1, 1, 1, 1, 1, 0, 0, 1, 0, 1, 1]), (0, 253, []), (0, 253, []), (0, 52, []), (0, 4, []), (0, 4, []), (0, 120, []), (0, 48, []), (0, 54, []), (0, 3, [])]) rfl ?_
  refine B_putR (b := d + 9) hp 0 dX11_init_371 fo_RX11_34 rfl rfl rfl (lb rfl) (fun _ => rfl) (fun _ => rfl) ?_
  refine A_lay (lay' := pre ++ [(14, 29, [d + 1 + 2, d + 2 + 2, d + 3 + 2, d + 4 + 2, d + 5 + 2, 0, d + 6 + 2, d + 7 + 2, d + 8 + 2, 0, 0, 0, 0, d + 9 + 2, 1, 0, 0, 0, 1, 1, 1, 1, 1, 0, 0, 1, 0, 1, 1]), (0, 253, []), (0, 253, []), (0, 52, []), (0, 4, []), (0, 4, []), (0, 120, []), (0, 48, []), (0, 54, []), (0, 3, [])]) rfl ?_
  refine A_aload_n dX11_init_374 rfl 0 rfl ?_
  refine A_iconst (v := 3) dX11_init_375 rfl ?_
  refine B_newI hp 3 dX11_init_376 rfl (by decide) (by have := h900; simp only [List.length]; omega) ⟨lb rfl, lb rfl⟩ ?_
  refine A_lay (lay' := pre ++ [(14, 29, [d + 1 + 2, d + 2 + 2, d + 3 + 2, d + 4 + 2, d + 5 + 2, 0, d + 6 + 2, d + 7 + 2, d + 8 + 2, 0, 0, 0, 0, d + 9 + 2, 1, 0, 0, 0, 1, 1, 1, 1, 1, 0, 0, 1, 0, 1, 1]), (0, 253, []), (0, 253, []), (0, 52, []), (0, 4, []), (0, 4, []), (0, 120, []), (0, 48, []), (0, 54, []), (0, 3, []), (0, 3, [])]) rfl ?_
  refine B_putR (b := d + 10) hp 0 dX11_init_378 fo_RX11_37 rfl rfl rfl (lb rfl) (fun _ => rfl) (fun _ => rfl) ?_
  refine A_lay (lay' := pre ++ [(14, 29, [d + 1 + 2, d + 2 + 2, d + 3 + 2, d + 4 + 2, d + 5 + 2, 0, d + 6 + 2, d + 7 + 2, d + 8 + 2, 0, 0, 0, 0, d + 9 + 2, d + 10 + 2, 0, 0, 0, 1, 1, 1, 1, 1, 0, 0, 1, 0, 1, 1]), (0, 253, []), (0, 253, []), (0, 52, []), (0, 4, []), (0, 4, []), (0, 120, []), (0, 48, []), (0, 54, []), (0, 3, []), (0, 3, [])]) rfl ?_
  refine A_aload_n dX11_init_381 rfl 0 rfl ?_
  refine A_sipush (v := 31200) dX11_init_382 rfl ?_
  refine B_newI hp 31200 dX11_init_385 rfl (by decide) (by have := h900; simp only [List.length]; omega) ⟨lb rfl, lb rfl⟩ ?_
  refine A_lay (lay' := pre ++ [(14, 29, [d + 1 + 2, d + 2 + 2, d + 3 + 2, d + 4 + 2, d + 5 + 2, 0, d + 6 + 2, d + 7 + 2, d + 8 + 2, 0, 0, 0, 0, d + 9 + 2, d + 10 + 2, 0, 0, 0, 1, 1, 1, 1, 1, 0, 0, 1, 0, 1, 1]), (0, 253, []), (0, 253, []), (0, 52, []), (0, 4, []), (0, 4, []), (0, 120, []), (0, 48, []), (0, 54, []), (0, 3, []), (0, 3, []), (0, 31200, [])]) rfl ?_
  refine B_putR (b := d + 11) hp 0 dX11_init_387 fo_RX11_40 rfl rfl rfl (lb rfl) (fun _ => rfl) (fun _ => rfl) ?_
  refine A_lay (lay' := pre ++ [(14, 29, [d + 1 + 2, d + 2 + 2, d + 3 + 2, d + 4 + 2, d + 5 + 2, 0, d + 6 + 2, d + 7 + 2, d + 8 + 2, 0, 0, 0, 0, d + 9 + 2, d + 10 + 2, 0, 0, 0, d + 11 + 2, 1, 1, 1, 1, 0, 0, 1, 0, 1, 1]), (0, 253, []), (0, 253, []), (0, 52, []), (0, 4, []), (0, 4, []), (0, 120, []), (0, 48, []), (0, 54, []), (0, 3, []), (0, 3, []), (0, 31200, [])]) rfl ?_
  refine A_aload_n dX11_init_390 rfl 0 rfl ?_
  refine A_sipush (v := 600) dX11_init_391 rfl ?_
  refine B_newI hp 600 dX11_init_394 rfl (by decide) (by have := h900; simp only [List.length]; omega) ⟨lb rfl, lb rfl⟩ ?_
  refine A_lay (lay' := pre ++ [(14, 29, [d + 1 + 2, d + 2 + 2, d + 3 + 2, d + 4 + 2, d + 5 + 2, 0, d + 6 + 2, d + 7 + 2, d + 8 + 2, 0, 0, 0, 0, d + 9 + 2, d + 10 + 2, 0, 0, 0, d + 11 + 2, 1, 1, 1, 1, 0, 0, 1, 0, 1, 1]), (0, 253, []), (0, 253, []), (0, 52, []), (0, 4, []), (0, 4, []), (0, 120, []), (0, 48, []), (0, 54, []), (0, 3, []), (0, 3, []), (0, 31200, []), (0, 600, [])]) rfl ?_
  refine B_putR (b := d + 12) hp 0 dX11_init_396 fo_RX11_43 rfl rfl rfl (lb rfl) (fun _ => rfl) (fun _ => rfl) ?_
  refine A_lay (lay' := pre ++ [(14, 29, [d + 1 + 2, d + 2 + 2, d + 3 + 2, d + 4 + 2, d + 5 + 2, 0, d + 6 + 2, d + 7 + 2, d + 8 + 2, 0, 0, 0, 0, d + 9 + 2, d + 10 + 2, 0, 0, 0, d + 11 + 2, d + 12 + 2, 1, 1, 1, 0, 0, 1, 0, 1, 1]), (0, 253, []), (0, 253, []), (0, 52, []), (0, 4, []), (0, 4, []), (0, 120, []), (0, 48, []), (0, 54, []), (0, 3, []), (0, 3, []), (0, 31200, []), (0, 600, [])]) rfl ?_
  refine A_aload_n dX11_init_399 rfl 0 rfl ?_
  refine A_sipush (v := 600) dX11_init_400 rfl ?_
  refine B_newI hp 600 dX11_init_403 rfl (by decide) (by have := h900; simp only [List.length]; omega) ⟨lb rfl, lb rfl⟩ ?_
  refine A_lay (lay' := pre ++ [(14, 29, [d + 1 + 2, d + 2 + 2, d + 3 + 2, d + 4 + 2, d + 5 + 2, 0, d + 6 + 2, d + 7 + 2, d + 8 + 2, 0, 0, 0, 0, d + 9 + 2, d + 10 + 2, 0, 0, 0, d + 11 + 2, d + 12 + 2, 1, 1, 1, 0, 0, 1, 0, 1, 1]), (0, 253, []), (0, 253, []), (0, 52, []), (0, 4, []), (0, 4, []), (0, 120, []), (0, 48, []), (0, 54, []), (0, 3, []), (0, 3, []), (0, 31200, []), (0, 600, []), (0, 600, [])]) rfl ?_
  refine B_putR (b := d + 13) hp 0 dX11_init_405 fo_RX11_46 rfl rfl rfl (lb rfl) (fun _ => rfl) (fun _ => rfl) ?_
  refine A_lay (lay' := pre ++ [(14, 29, [d + 1 + 2, d + 2 + 2, d + 3 + 2, d + 4 + 2, d + 5 + 2, 0, d + 6 + 2, d + 7 + 2, d + 8 + 2, 0, 0, 0, 0, d + 9 + 2, d + 10 + 2, 0, 0, 0, d + 11 + 2, d + 12 + 2, d + 13 + 2, 1, 1, 0, 0, 1, 0, 1, 1]), (0, 253, []), (0, 253, []), (0, 52, []), (0, 4, []), (0, 4, []), (0, 120, []), (0, 48, []), (0, 54, []), (0, 3, []), (0, 3, []), (0, 31200, []), (0, 600, []), (0, 600, [])]) rfl ?_
  refine A_aload_n dX11_init_408 rfl 0 rfl ?_
  refine A_sipush (v := 600) dX11_init_409 rfl ?_
  refine B_newI hp 600 dX11_init_412 rfl (by decide) (by have := h900; simp only [List.length]; omega) ⟨lb rfl, lb rfl⟩ ?_
  refine A_lay (lay' := pre ++ [(14, 29, [d + 1 + 2, d + 2 + 2, d + 3 + 2, d + 4 + 2, d + 5 + 2, 0, d + 6 + 2, d + 7 + 2, d + 8 + 2, 0, 0, 0, 0, d + 9 + 2, d + 10 + 2, 0, 0, 0, d + 11 + 2, d + 12 + 2, d + 13 + 2, 1, 1, 0, 0, 1, 0, 1, 1]), (0, 253, []), (0, 253, []), (0, 52, []), (0, 4, []), (0, 4, []), (0, 120, []), (0, 48, []), (0, 54, []), (0, 3, []), (0, 3, []), (0, 31200, []), (0, 600, []), (0, 600, []), (0, 600, [])]) rfl ?_
  refine B_putR (b := d + 14) hp 0 dX11_init_414 fo_RX11_49 rfl rfl rfl (lb rfl) (fun _ => rfl) (fun _ => rfl) ?_
  refine A_lay (lay' := pre ++ [(14, 29, [d + 1 + 2, d + 2 + 2, d + 3 + 2, d + 4 + 2, d + 5 + 2, 0, d + 6 + 2, d + 7 + 2, d + 8 + 2, 0, 0, 0, 0, d + 9 + 2, d + 10 + 2, 0, 0, 0, d + 11 + 2, d + 12 + 2, d + 13 + 2, d + 14 + 2, 1, 0, 0, 1, 0, 1, 1]), (0, 253, []), (0, 253, []), (0, 52, []), (0, 4, []), (0, 4, []), (0, 120, []), (0, 48, []), (0, 54, []), (0, 3, []), (0, 3, []), (0, 31200, []), (0, 600, []), (0, 600, []), (0, 600, [])]) rfl ?_
  refine A_aload_n dX11_init_417 rfl 0 rfl ?_
  refine A_sipush (v := 2048) dX11_init_418 rfl ?_
  refine B_newI hp 2048 dX11_init_421 rfl (by decide) (by have := h900; simp only [List.length]; omega) ⟨lb rfl, lb rfl⟩ ?_
  refine A_lay (lay' := pre ++ [(14, 29, [d + 1 + 2, d + 2 + 2, d + 3 + 2, d + 4 + 2, d + 5 + 2, 0, d + 6 + 2, d + 7 + 2, d + 8 + 2, 0, 0, 0, 0, d + 9 + 2, d + 10 + 2, 0, 0, 0, d + 11 + 2, d + 12 + 2, d + 13 + 2, d + 14 + 2, 1, 0, 0, 1, 0, 1, 1]), (0, 253, []), (0, 253, []), (0, 52, []), (0, 4, []), (0, 4, []), (0, 120, []), (0, 48, []), (0, 54, []), (0, 3, []), (0, 3, []), (0, 31200, []), (0, 600, []), (0, 600, []), (0, 600, []), (0, 2048, [])]) rfl ?_
  refine B_putR (b := d + 15) hp 0 dX11_init_423 fo_RX11_52 rfl rfl rfl (lb rfl) (fun _ => rfl) (fun _ => rfl) ?_
  refine A_lay (lay' := pre ++ [(14, 29, [d + 1 + 2, d + 2 + 2, d + 3 + 2, d + 4 + 2, d + 5 + 2, 0, d + 6 + 2, d + 7 + 2, d + 8 + 2, 0, 0, 0, 0, d + 9 + 2, d + 10 + 2, 0, 0, 0, d + 11 + 2, d + 12 + 2, d + 13 + 2, d + 14 + 2, d + 15 + 2, 0, 0, 1, 0, 1, 1]), (0, 253, []), (0, 253, []), (0, 52, []), (0, 4, []), (0, 4, []), (0, 120, []), (0, 48, []), (0, 54, []), (0, 3, []), (0, 3, []), (0, 31200, []), (0, 600, []), (0, 600, []), (0, 600, []), (0, 2048, [])]) rfl ?_
  refine A_aload_n dX11_init_426 rfl 0 rfl ?_
  refine A_bipush (v := 12) dX11_init_427 rfl ?_
  refine B_newI hp 12 dX11_init_429 rfl (by decide) (by have := h900; simp only [List.length]; omega) ⟨lb rfl, lb rfl⟩ ?_
  refine A_lay (lay' := pre ++ [(14, 29, [d + 1 + 2, d + 2 + 2, d + 3 + 2, d + 4 + 2, d + 5 + 2, 0, d + 6 + 2, d + 7 + 2, d + 8 + 2, 0, 0, 0, 0, d + 9 + 2, d + 10 + 2, 0, 0, 0, d + 11 + 2, d + 12 + 2, d + 13 + 2, d + 14 + 2, d + 15 + 2, 0, 0, 1, 0, 1, 1]), (0, 253, []), (0, 253, []), (0, 52, []), (0, 4, []), (0, 4, []), (0, 120, []), (0, 48, []), (0, 54, []), (0, 3, []), (0, 3, []), (0, 31200, []), (0, 600, []), (0, 600, []), (0, 600, []), (0, 2048, []), (0, 12, [])]) rfl ?_
  refine B_putR (b := d + 16) hp 0 dX11_init_431 fo_RX11_55 rfl rfl rfl (lb rfl) (fun _ => rfl) (fun _ => rfl) ?_
  refine A_lay (lay' := pre ++ [(14, 29, [d + 1 + 2, d + 2 + 2, d + 3 + 2, d + 4 + 2, d + 5 + 2, 0, d + 6 + 2, d + 7 + 2, d + 8 + 2, 0, 0, 0, 0, d + 9 + 2, d + 10 + 2, 0, 0, 0, d + 11 + 2, d + 12 + 2, d + 13 + 2, d + 14 + 2, d + 15 + 2, 0, 0, d + 16 + 2, 0, 1, 1]), (0, 253, []), (0, 253, []), (0, 52, []), (0, 4, []), (0, 4, []), (0, 120, []), (0, 48, []), (0, 54, []), (0, 3, []), (0, 3, []), (0, 31200, []), (0, 600, []), (0, 600, []), (0, 600, []), (0, 2048, []), (0, 12, [])]) rfl ?_
  refine A_aload_n dX11_init_434 rfl 0 rfl ?_
  refine A_iconst (v := 4) dX11_init_435 rfl ?_
  refine B_newI hp 4 dX11_init_436 rfl (by decide) (by have := h900; simp only [List.length]; omega) ⟨lb rfl, lb rfl⟩ ?_
  refine A_lay (lay' := pre ++ [(14, 29, [d + 1 + 2, d + 2 + 2, d + 3 + 2, d + 4 + 2, d + 5 + 2, 0, d + 6 + 2, d + 7 + 2, d + 8 + 2, 0, 0, 0, 0, d + 9 + 2, d + 10 + 2, 0, 0, 0, d + 11 + 2, d + 12 + 2, d + 13 + 2, d + 14 + 2, d + 15 + 2, 0, 0, d + 16 + 2, 0, 1, 1]), (0, 253, []), (0, 253, []), (0, 52, []), (0, 4, []), (0, 4, []), (0, 120, []), (0, 48, []), (0, 54, []), (0, 3, []), (0, 3, []), (0, 31200, []), (0, 600, []), (0, 600, []), (0, 600, []), (0, 2048, []), (0, 12, []), (0, 4, [])]) rfl ?_
  refine A_dup dX11_init_438 rfl ?_
  refine A_iconst (v := 0) dX11_init_439 rfl ?_
  refine A_iconst (v := -1) dX11_init_440 rfl ?_
  refine A_iastore 0 dX11_init_441 (at_pre hp 17 rfl) (rfl) (by decide) (lb rfl) ?_
  refine A_dup dX11_init_442 rfl ?_
  refine A_iconst (v := 1) dX11_init_443 rfl ?_
  refine A_iconst (v := -1) dX11_init_444 rfl ?_
  refine A_iastore 1 dX11_init_445 (at_pre hp 17 rfl) (rfl) (by decide) (lb rfl) ?_
  refine A_dup dX11_init_446 rfl ?_
  refine A_iconst (v := 2) dX11_init_447 rfl ?_
  refine A_iconst (v := -1) dX11_init_448 rfl ?_
  refine A_iastore 2 dX11_init_449 (at_pre hp 17 rfl) (rfl) (by decide) (lb rfl) ?_
  refine A_dup dX11_init_450 rfl ?_
  refine A_iconst (v := 3) dX11_init_451 rfl ?_
  refine A_iconst (v := -1) dX11_init_452 rfl ?_
  refine A_iastore 3 dX11_init_453 (at_pre hp 17 rfl) (rfl) (by decide) (lb rfl) ?_
  refine B_putR (b := d + 17) hp 0 dX11_init_454 fo_RX11_58 rfl rfl rfl (lb rfl) (fun _ => rfl) (fun _ => rfl) ?_
  refine A_lay (lay' := pre ++ [(14, 29, [d + 1 + 2, d + 2 + 2, d + 3 + 2, d + 4 + 2, d + 5 + 2, 0, d + 6 + 2, d + 7 + 2, d + 8 + 2, 0, 0, 0, 0, d + 9 + 2, d + 10 + 2, 0, 0, 0, d + 11 + 2, d + 12 + 2, d + 13 + 2, d + 14 + 2, d + 15 + 2, 0, 0, d + 16 + 2, 0, d + 17 + 2, 1]), (0, 253, []), (0, 253, []), (0, 52, []), (0, 4, []), (0, 4, []), (0, 120, []), (0, 48, []), (0, 54, []), (0, 3, []), (0, 3, []), (0, 31200, []), (0, 600, []), (0, 600, []), (0, 600, []), (0, 2048, []), (0, 12, []), (0, 4, [])]) rfl ?_
  refine A_aload_n dX11_init_457 rfl 0 rfl ?_
  refine A_sipush (v := 160) dX11_init_458 rfl ?_
  refine B_newI hp 160 dX11_init_461 rfl (by decide) (by have := h900; simp only [List.length]; omega) ⟨lb rfl, lb rfl⟩ ?_
  refine A_lay (lay' := pre ++ [(14, 29, [d + 1 + 2, d + 2 + 2, d + 3 + 2, d + 4 + 2, d + 5 + 2, 0, d + 6 + 2, d + 7 + 2, d + 8 + 2, 0, 0, 0, 0, d + 9 + 2, d + 10 + 2, 0, 0, 0, d + 11 + 2, d + 12 + 2, d + 13 + 2, d + 14 + 2, d + 15 + 2, 0, 0, d + 16 + 2, 0, d + 17 + 2, 1]), (0, 253, []), (0, 253, []), (0, 52, []), (0, 4, []), (0, 4, []), (0, 120, []), (0, 48, []), (0, 54, []), (0, 3, []), (0, 3, []), (0, 31200, []), (0, 600, []), (0, 600, []), (0, 600, []), (0, 2048, []), (0, 12, []), (0, 4, []), (0, 160, [])]) rfl ?_
  refine B_putR (b := d + 18) hp 0 dX11_init_463 fo_RX11_61 rfl rfl rfl (lb rfl) (fun _ => rfl) (fun _ => rfl) ?_
  refine A_lay (lay' := pre ++ [(14, 29, [d + 1 + 2, d + 2 + 2, d + 3 + 2, d + 4 + 2, d + 5 + 2, 0, d + 6 + 2, d + 7 + 2, d + 8 + 2, 0, 0, 0, 0, d + 9 + 2, d + 10 + 2, 0, 0, 0, d + 11 + 2, d + 12 + 2, d + 13 + 2, d + 14 + 2, d + 15 + 2, 0, 0, d + 16 + 2, 0, d + 17 + 2, d + 18 + 2]), (0, 253, []), (0, 253, []), (0, 52, []), (0, 4, []), (0, 4, []), (0, 120, []), (0, 48, []), (0, 54, []), (0, 3, []), (0, 3, []), (0, 31200, []), (0, 600, []), (0, 600, []), (0, 600, []), (0, 2048, []), (0, 12, []), (0, 4, []), (0, 160, [])]) rfl ?_
  refine A_aload_n dX11_init_466 rfl 0 rfl ?_
  refine A_getR (b := d + 1) dX11_init_467 fo_RX11_9 (at_pre hp 0 rfl) rfl ?_
  refine A_bipush (v := 56) dX11_init_470 rfl ?_
  refine A_bipush (v := -5) dX11_init_472 rfl ?_
  refine A_iastore 56 dX11_init_474 (at_pre hp 1 rfl) (rfl) (by decide) (lb rfl) ?_
  exact A_vret dX11_init_475 rfl (⟨rfl, rfl⟩)
