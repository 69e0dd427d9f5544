/-! constructors, one by one -/
theorem ol_RX8_3 : Cond.methodLink RX8 3 objectInit ∈ gw := mem_gw 205 (by decide +kernel) (by decide +kernel)
theorem m_tape (pre : List Ly) (d : Nat) (hp : pre.length = d) (h900 : d < 800) (f : Mem) : Ct MX8_init 1 120 (pre ++ [(11, 2, [1, 0])]) (pre ++ [(11, 2, [d + 1 + 2, 0]), (0, 120, [])]) [.ref (d + 0)] f (rt none (u2 (ur f (d + 1) (fun _ => 0)) (d + 0) 1 0)) := by
  refine Ct.of (lv := [(0, .ref (d + 0))]) (by decide) (lb rfl) rfl ?_
  refine A_aload_n dX8_init_0 rfl 0 rfl ?_
  refine A_oi dX8_init_1 ol_RX8_3 ⟨lb rfl, lb rfl⟩ ?_
  refine A_aload_n dX8_init_4 rfl 0 rfl ?_
  refine A_bipush (v := 120) dX8_init_5 rfl ?_
  refine B_newI hp 120 dX8_init_7 rfl (by decide) (by have := h900; simp only [List.length]; omega) ⟨lb rfl, lb rfl⟩ ?_
  refine A_lay (lay' := pre ++ [(11, 2, [1, 0]), (0, 120, [])]) rfl ?_
  refine B_putR (b := d + 1) hp 0 dX8_init_9 fo_RX8_9 rfl rfl rfl (lb rfl) (fun _ => rfl) (fun _ => rfl) ?_
  refine A_lay (lay' := pre ++ [(11, 2, [d + 1 + 2, 0]), (0, 120, [])]) rfl ?_
  refine A_aload_n dX8_init_12 rfl 0 rfl ?_
  refine A_iconst (v := 0) dX8_init_13 rfl ?_
  refine A_putI dX8_init_14 fo_RX8_15 (at_pre hp 0 rfl) rfl ?_
  exact A_vret dX8_init_17 rfl (⟨rfl, rfl⟩)
theorem ol_RX9_3 : Cond.methodLink RX9 3 objectInit ∈ gw := mem_gw 237 (by decide +kernel) (by decide +kernel)
theorem m_trouble (pre : List Ly) (d : Nat) (hp : pre.length = d) (h900 : d < 800) (f : Mem) : Ct MX9_init 2 6 (pre ++ [(12, 3, [0, 1, 1])]) (pre ++ [(12, 3, [0, d + 1 + 2, d + 2 + 2]), (0, 3, []), (0, 3, [])]) [.ref (d + 0)] f (rt none (ur (ur (u2 f (d + 0) 0 0) (d + 1) (fun _ => 0)) (d + 2) (fun _ => 0))) := by
  refine Ct.of (lv := [(0, .ref (d + 0))]) (by decide) (lb rfl) rfl ?_
  refine A_aload_n dX9_init_0 rfl 0 rfl ?_
  refine A_oi dX9_init_1 ol_RX9_3 ⟨lb rfl, lb rfl⟩ ?_
  refine A_aload_n dX9_init_4 rfl 0 rfl ?_
  refine A_iconst (v := 0) dX9_init_5 rfl ?_
  refine A_putI dX9_init_6 fo_RX9_9 (at_pre hp 0 rfl) rfl ?_
  refine A_aload_n dX9_init_9 rfl 0 rfl ?_
  refine A_iconst (v := 3) dX9_init_10 rfl ?_
  refine B_newI hp 3 dX9_init_11 rfl (by decide) (by have := h900; simp only [List.length]; omega) ⟨lb rfl, lb rfl⟩ ?_
  refine A_lay (lay' := pre ++ [(12, 3, [0, 1, 1]), (0, 3, [])]) rfl ?_
  refine B_putR (b := d + 1) hp 0 dX9_init_13 fo_RX9_15 rfl rfl rfl (lb rfl) (fun _ => rfl) (fun _ => rfl) ?_
  refine A_lay (lay' := pre ++ [(12, 3, [0, d + 1 + 2, 1]), (0, 3, [])]) rfl ?_
  refine A_aload_n dX9_init_16 rfl 0 rfl ?_
  refine A_iconst (v := 3) dX9_init_17 rfl ?_
  refine B_newI hp 3 dX9_init_18 rfl (by decide) (by have := h900; simp only [List.length]; omega) ⟨lb rfl, lb rfl⟩ ?_
  refine A_lay (lay' := pre ++ [(12, 3, [0, d + 1 + 2, 1]), (0, 3, []), (0, 3, [])]) rfl ?_
  refine B_putR (b := d + 2) hp 0 dX9_init_20 fo_RX9_19 rfl rfl rfl (lb rfl) (fun _ => rfl) (fun _ => rfl) ?_
  refine A_lay (lay' := pre ++ [(12, 3, [0, d + 1 + 2, d + 2 + 2]), (0, 3, []), (0, 3, [])]) rfl ?_
  exact A_vret dX9_init_23 rfl (⟨rfl, rfl⟩)
theorem ol_RX0_3 : Cond.methodLink RX0 3 objectInit ∈ gw := mem_gw 253 (by decide +kernel) (by decide +kernel)
theorem m_conds (pre : List Ly) (d : Nat) (hp : pre.length = d) (h900 : d < 800) (f : Mem) : Ct MX0_init 3 12 (pre ++ [(4, 4, [0, 1, 1, 1])]) (pre ++ [(4, 4, [0, d + 1 + 2, d + 2 + 2, d + 3 + 2]), (0, 4, []), (0, 4, []), (0, 4, [])]) [.ref (d + 0)] f (rt none (ur (ur (ur (u2 f (d + 0) 0 0) (d + 1) (fun _ => 0)) (d + 2) (fun _ => 0)) (d + 3) (fun _ => 0))) := by
  refine Ct.of (lv := [(0, .ref (d + 0))]) (by decide) (lb rfl) rfl ?_
  refine A_aload_n dX0_init_0 rfl 0 rfl ?_
  refine A_oi dX0_init_1 ol_RX0_3 ⟨lb rfl, lb rfl⟩ ?_
  refine A_aload_n dX0_init_4 rfl 0 rfl ?_
  refine A_iconst (v := 0) dX0_init_5 rfl ?_
  refine A_putI dX0_init_6 fo_RX0_9 (at_pre hp 0 rfl) rfl ?_
  refine A_aload_n dX0_init_9 rfl 0 rfl ?_
  refine A_iconst (v := 4) dX0_init_10 rfl ?_
  refine B_newI hp 4 dX0_init_11 rfl (by decide) (by have := h900; simp only [List.length]; omega) ⟨lb rfl, lb rfl⟩ ?_
  refine A_lay (lay' := pre ++ [(4, 4, [0, 1, 1, 1]), (0, 4, [])]) rfl ?_
  refine B_putR (b := d + 1) hp 0 dX0_init_13 fo_RX0_15 rfl rfl rfl (lb rfl) (fun _ => rfl) (fun _ => rfl) ?_
  refine A_lay (lay' := pre ++ [(4, 4, [0, d + 1 + 2, 1, 1]), (0, 4, [])]) rfl ?_
  refine A_aload_n dX0_init_16 rfl 0 rfl ?_
  refine A_iconst (v := 4) dX0_init_17 rfl ?_
  refine B_newI hp 4 dX0_init_18 rfl (by decide) (by have := h900; simp only [List.length]; omega) ⟨lb rfl, lb rfl⟩ ?_
  refine A_lay (lay' := pre ++ [(4, 4, [0, d + 1 + 2, 1, 1]), (0, 4, []), (0, 4, [])]) rfl ?_
  refine B_putR (b := d + 2) hp 0 dX0_init_20 fo_RX0_19 rfl rfl rfl (lb rfl) (fun _ => rfl) (fun _ => rfl) ?_
  refine A_lay (lay' := pre ++ [(4, 4, [0, d + 1 + 2, d + 2 + 2, 1]), (0, 4, []), (0, 4, [])]) rfl ?_
  refine A_aload_n dX0_init_23 rfl 0 rfl ?_
  refine A_iconst (v := 4) dX0_init_24 rfl ?_
  refine B_newI hp 4 dX0_init_25 rfl (by decide) (by have := h900; simp only [List.length]; omega) ⟨lb rfl, lb rfl⟩ ?_
  refine A_lay (lay' := pre ++ [(4, 4, [0, d + 1 + 2, d + 2 + 2, 1]), (0, 4, []), (0, 4, []), (0, 4, [])]) rfl ?_
  refine B_putR (b := d + 3) hp 0 dX0_init_27 fo_RX0_22 rfl rfl rfl (lb rfl) (fun _ => rfl) (fun _ => rfl) ?_
  refine A_lay (lay' := pre ++ [(4, 4, [0, d + 1 + 2, d + 2 + 2, d + 3 + 2]), (0, 4, []), (0, 4, []), (0, 4, [])]) rfl ?_
  exact A_vret dX0_init_30 rfl (⟨rfl, rfl⟩)
theorem ol_RX7_3 : Cond.methodLink RX7 3 objectInit ∈ gw := mem_gw 281 (by decide +kernel) (by decide +kernel)
theorem m_states (pre : List Ly) (d : Nat) (hp : pre.length = d) (h900 : d < 800) (f : Mem) : Ct MX7_init 3 5654 (pre ++ [(10, 4, [0, 1, 1, 1])]) (pre ++ [(10, 4, [0, d + 1 + 2, d + 2 + 2, d + 3 + 2]), (0, 3600, []), (0, 6, []), (0, 2048, [])]) [.ref (d + 0)] f (rt none (ur (ur (ur (u2 f (d + 0) 0 0) (d + 1) (fun _ => 0)) (d + 2) (fun _ => 0)) (d + 3) (fun _ => 0))) := by
  refine Ct.of (lv := [(0, .ref (d + 0))]) (by decide) (lb rfl) rfl ?_
  refine A_aload_n dX7_init_0 rfl 0 rfl ?_
  refine A_oi dX7_init_1 ol_RX7_3 ⟨lb rfl, lb rfl⟩ ?_
  refine A_aload_n dX7_init_4 rfl 0 rfl ?_
  refine A_iconst (v := 0) dX7_init_5 rfl ?_
  refine A_putI dX7_init_6 fo_RX7_9 (at_pre hp 0 rfl) rfl ?_
  refine A_aload_n dX7_init_9 rfl 0 rfl ?_
  refine A_sipush (v := 3600) dX7_init_10 rfl ?_
  refine B_newI hp 3600 dX7_init_13 rfl (by decide) (by have := h900; simp only [List.length]; omega) ⟨lb rfl, lb rfl⟩ ?_
  refine A_lay (lay' := pre ++ [(10, 4, [0, 1, 1, 1]), (0, 3600, [])]) rfl ?_
  refine B_putR (b := d + 1) hp 0 dX7_init_15 fo_RX7_15 rfl rfl rfl (lb rfl) (fun _ => rfl) (fun _ => rfl) ?_
  refine A_lay (lay' := pre ++ [(10, 4, [0, d + 1 + 2, 1, 1]), (0, 3600, [])]) rfl ?_
  refine A_aload_n dX7_init_18 rfl 0 rfl ?_
  refine A_bipush (v := 6) dX7_init_19 rfl ?_
  refine B_newI hp 6 dX7_init_21 rfl (by decide) (by have := h900; simp only [List.length]; omega) ⟨lb rfl, lb rfl⟩ ?_
  refine A_lay (lay' := pre ++ [(10, 4, [0, d + 1 + 2, 1, 1]), (0, 3600, []), (0, 6, [])]) rfl ?_
  refine B_putR (b := d + 2) hp 0 dX7_init_23 fo_RX7_19 rfl rfl rfl (lb rfl) (fun _ => rfl) (fun _ => rfl) ?_
  refine A_lay (lay' := pre ++ [(10, 4, [0, d + 1 + 2, d + 2 + 2, 1]), (0, 3600, []), (0, 6, [])]) rfl ?_
  refine A_aload_n dX7_init_26 rfl 0 rfl ?_
  refine A_sipush (v := 2048) dX7_init_27 rfl ?_
  refine B_newI hp 2048 dX7_init_30 rfl (by decide) (by have := h900; simp only [List.length]; omega) ⟨lb rfl, lb rfl⟩ ?_
  refine A_lay (lay' := pre ++ [(10, 4, [0, d + 1 + 2, d + 2 + 2, 1]), (0, 3600, []), (0, 6, []), (0, 2048, [])]) rfl ?_
  refine B_putR (b := d + 3) hp 0 dX7_init_32 fo_RX7_22 rfl rfl rfl (lb rfl) (fun _ => rfl) (fun _ => rfl) ?_
  refine A_lay (lay' := pre ++ [(10, 4, [0, d + 1 + 2, d + 2 + 2, d + 3 + 2]), (0, 3600, []), (0, 6, []), (0, 2048, [])]) rfl ?_
  exact A_vret dX7_init_35 rfl (⟨rfl, rfl⟩)
theorem ol_RX4_3 : Cond.methodLink RX4 3 objectInit ∈ gw := mem_gw 199 (by decide +kernel) (by decide +kernel)
theorem no_RX4_9 : NO RX4 9 7 2 [1, 0] := ⟨RX8, TX8, tyX8, rfl, in_X8, tyX8_ok, mem_gw 200 (by decide +kernel) (by decide +kernel), mem_gw 201 (by decide +kernel) (by decide +kernel), ini_RX8, fun al j hj => (match j, hj with | 0, _ => rfl | 1, _ => rfl)⟩
theorem im_X8_init : Cond.instanceMethod yX8_init ∈ gw := mem_gw 203 (by decide +kernel) (by decide +kernel)
theorem no_RX4_18 : NO RX4 18 3 2 [0, 1] := ⟨RX3, TX3, tyX3, rfl, in_X3, tyX3_ok, mem_gw 215 (by decide +kernel) (by decide +kernel), mem_gw 104 (by decide +kernel) (by decide +kernel), ini_RX3, fun al j hj => (match j, hj with | 0, _ => rfl | 1, _ => rfl)⟩
theorem im_X3_init : Cond.instanceMethod yX3_init ∈ gw := mem_gw 106 (by decide +kernel) (by decide +kernel)
theorem m_reader (pre : List Ly) (d : Nat) (hp : pre.length = d) (h900 : d < 700) (f : Mem) : Ct MX4_init 4 172 (pre ++ [(8, 4, [1, 1, 0, 0])]) (pre ++ [(8, 4, [d + 1 + 2, d + 3 + 2, 0, 0]), (11, 2, [d + 2 + 2, 0]), (0, 120, []), (7, 2, [0, d + 4 + 2]), (0, 48, [])]) [.ref (d + 0)] f (rt none (u2 (u2 (ur (u2 (ur (u2 (ur (ur f (d + 1) (fun _ => 0)) (d + 2) (fun _ => 0)) (d + 1) 1 0) (d + 3) (fun _ => 0)) (d + 3) 0 0) (d + 4) (fun _ => 0)) (d + 0) 2 0) (d + 0) 3 (-1))) := by
  refine Ct.of (lv := [(0, .ref (d + 0))]) (by decide) (lb rfl) rfl ?_
  refine A_aload_n dX4_init_0 rfl 0 rfl ?_
  refine A_oi dX4_init_1 ol_RX4_3 ⟨lb rfl, lb rfl⟩ ?_
  refine A_aload_n dX4_init_4 rfl 0 rfl ?_
  refine B_newO hp dX4_init_5 no_RX4_9 (by have := h900; simp only [List.length]; omega) ⟨lb rfl, lb rfl⟩ ?_
  refine A_lay (lay' := pre ++ [(8, 4, [1, 1, 0, 0]), (11, 2, [1, 0])]) rfl ?_
  refine A_dup dX4_init_8 rfl ?_
  refine A_callIN (M' := MX8_init) (mc := 1) (ms := 120) (lay' := pre ++ [(8, 4, [1, 1, 0, 0]), (11, 2, [d + 2 + 2, 0]), (0, 120, [])]) [.ref (d + 1), .ref (d + 0)] (d + 1) dX4_init_9 lk_RX4_11 oX8_init rfl rfl im_X8_init ⟨lb rfl, lb rfl⟩ (lb rfl) ⟨lb rfl, lb rfl⟩ (by simp only [List.length_append, List.length]) (by have := h900; simp only [List.length_append, List.length]; omega) (Ct.ap (l0 := [(8, 4, [1, 1, 0, 0])]) (m_tape (pre ++ [(8, 4, [1, 1, 0, 0])]) (d + 1) (by rw [List.length_append, hp]; rfl) (by omega) _)) ?_
  rintro _ g0 ⟨rfl, hg0⟩
  rw [show g0 = u2 (ur (ur f (d + 1) (fun _ => 0)) (d + 2) (fun _ => 0)) (d + 1) 1 0 from hg0]
  refine B_putR (b := d + 1) hp 0 dX4_init_12 fo_RX4_12 rfl rfl rfl (lb rfl) (fun _ => rfl) (fun _ => rfl) ?_
  refine A_lay (lay' := pre ++ [(8, 4, [d + 1 + 2, 1, 0, 0]), (11, 2, [d + 2 + 2, 0]), (0, 120, [])]) rfl ?_
  refine A_aload_n dX4_init_15 rfl 0 rfl ?_
  refine B_newO hp dX4_init_16 no_RX4_18 (by have := h900; simp only [List.length]; omega) ⟨lb rfl, lb rfl⟩ ?_
  refine A_lay (lay' := pre ++ [(8, 4, [d + 1 + 2, 1, 0, 0]), (11, 2, [d + 2 + 2, 0]), (0, 120, []), (7, 2, [0, 1])]) rfl ?_
  refine A_dup dX4_init_19 rfl ?_
  refine A_callIN (M' := MX3_init) (mc := 1) (ms := 48) (lay' := pre ++ [(8, 4, [d + 1 + 2, 1, 0, 0]), (11, 2, [d + 2 + 2, 0]), (0, 120, []), (7, 2, [0, d + 4 + 2]), (0, 48, [])]) [.ref (d + 3), .ref (d + 0)] (d + 3) dX4_init_20 lk_RX4_20 oX3_init rfl rfl im_X3_init ⟨lb rfl, lb rfl⟩ (lb rfl) ⟨lb rfl, lb rfl⟩ (by simp only [List.length_append, List.length]) (by have := h900; simp only [List.length_append, List.length]; omega) (Ct.ap (l0 := [(8, 4, [d + 1 + 2, 1, 0, 0]), (11, 2, [d + 2 + 2, 0]), (0, 120, [])]) (m_prog (pre ++ [(8, 4, [d + 1 + 2, 1, 0, 0]), (11, 2, [d + 2 + 2, 0]), (0, 120, [])]) (d + 3) (by rw [List.length_append, hp]; rfl) (by omega) _)) ?_
  rintro _ g0 ⟨rfl, hg0⟩
  rw [show g0 = ur (u2 (ur (u2 (ur (ur f (d + 1) (fun _ => 0)) (d + 2) (fun _ => 0)) (d + 1) 1 0) (d + 3) (fun _ => 0)) (d + 3) 0 0) (d + 4) (fun _ => 0) from hg0]
  refine B_putR (b := d + 3) hp 0 dX4_init_23 fo_RX4_21 rfl rfl rfl (lb rfl) (fun _ => rfl) (fun _ => rfl) ?_
  refine A_lay (lay' := pre ++ [(8, 4, [d + 1 + 2, d + 3 + 2, 0, 0]), (11, 2, [d + 2 + 2, 0]), (0, 120, []), (7, 2, [0, d + 4 + 2]), (0, 48, [])]) rfl ?_
  refine A_aload_n dX4_init_26 rfl 0 rfl ?_
  refine A_iconst (v := 0) dX4_init_27 rfl ?_
  refine A_putI dX4_init_28 fo_RX4_25 (at_pre hp 0 rfl) rfl ?_
  refine A_aload_n dX4_init_31 rfl 0 rfl ?_
  refine A_iconst (v := -1) dX4_init_32 rfl ?_
  refine A_putI dX4_init_33 fo_RX4_29 (at_pre hp 0 rfl) rfl ?_
  exact A_vret dX4_init_36 rfl (⟨rfl, rfl⟩)
theorem ol_RX1_3 : Cond.methodLink RX1 3 objectInit ∈ gw := mem_gw 101 (by decide +kernel) (by decide +kernel)
theorem no_RX1_18 : NO RX1 18 3 2 [0, 1] := ⟨RX3, TX3, tyX3, rfl, in_X3, tyX3_ok, mem_gw 102 (by decide +kernel) (by decide +kernel), mem_gw 104 (by decide +kernel) (by decide +kernel), ini_RX3, fun al j hj => (match j, hj with | 0, _ => rfl | 1, _ => rfl)⟩
theorem m_desk (pre : List Ly) (d : Nat) (hp : pre.length = d) (h900 : d < 700) (f : Mem) : Ct MX1_init 20 243 (pre ++ [(5, 14, [0, 0, 1, 1, 1, 1, 1, 1, 1, 1, 1, 1, 1, 1])]) (pre ++ [(5, 14, [0, 0, d + 1 + 2, d + 2 + 2, d + 3 + 2, d + 4 + 2, d + 5 + 2, d + 6 + 2, d + 7 + 2, d + 8 + 2, d + 9 + 2, d + 10 + 2, d + 11 + 2, d + 12 + 2]), (2, 4, [d + 13 + 2, d + 15 + 2, d + 17 + 2, d + 19 + 2]), (0, 4, []), (0, 4, []), (0, 4, []), (0, 4, []), (0, 4, []), (1, 3, []), (0, 3, []), (0, 3, []), (0, 3, []), (0, 3, []), (0, 4, []), (7, 2, [0, d + 14 + 2]), (0, 48, []), (7, 2, [0, d + 16 + 2]), (0, 48, []), (7, 2, [0, d + 18 + 2]), (0, 48, []), (7, 2, [0, d + 20 + 2]), (0, 48, [])]) [.ref (d + 0)] f (rt none (ur (ur (u2 (ur (ur (u2 (ur (ur (u2 (ur (ur (u2 (ur (ur (ur (ur (ur (ur (ur (ur (ur (ur (ur (ur (ur (u2 (u2 f (d + 0) 0 0) (d + 0) 1 (-1)) (d + 1) (fun _ => 0)) (d + 2) (fun _ => 0)) (d + 3) (fun _ => 0)) (d + 4) (fun _ => 0)) (d + 5) (fun _ => 0)) (d + 6) (fun _ => 0)) (d + 7) (fun _ => 0)) (d + 8) (fun _ => 0)) (d + 9) (fun _ => 0)) (d + 10) (fun _ => 0)) (d + 11) (fun _ => 0)) (d + 12) (fun _ => 0)) (d + 13) (fun _ => 0)) (d + 13) 0 0) (d + 14) (fun _ => 0)) (d + 15) (fun _ => 0)) (d + 15) 0 0) (d + 16) (fun _ => 0)) (d + 17) (fun _ => 0)) (d + 17) 0 0) (d + 18) (fun _ => 0)) (d + 19) (fun _ => 0)) (d + 19) 0 0) (d + 20) (fun _ => 0)) (d + 8) (cpR 3 (fun _ => -1) ((ur (u2 (ur (ur (u2 (ur (ur (u2 (ur (ur (u2 (ur (ur (ur (ur (ur (ur (ur (ur (ur (ur (ur (ur (ur (u2 (u2 f (d + 0) 0 0) (d + 0) 1 (-1)) (d + 1) (fun _ => 0)) (d + 2) (fun _ => 0)) (d + 3) (fun _ => 0)) (d + 4) (fun _ => 0)) (d + 5) (fun _ => 0)) (d + 6) (fun _ => 0)) (d + 7) (fun _ => 0)) (d + 8) (fun _ => 0)) (d + 9) (fun _ => 0)) (d + 10) (fun _ => 0)) (d + 11) (fun _ => 0)) (d + 12) (fun _ => 0)) (d + 13) (fun _ => 0)) (d + 13) 0 0) (d + 14) (fun _ => 0)) (d + 15) (fun _ => 0)) (d + 15) 0 0) (d + 16) (fun _ => 0)) (d + 17) (fun _ => 0)) (d + 17) 0 0) (d + 18) (fun _ => 0)) (d + 19) (fun _ => 0)) (d + 19) 0 0) (d + 20) (fun _ => 0)) (d + 8))))) := by
  refine Ct.of (lv := [(0, .ref (d + 0))]) (by decide) (lb rfl) rfl ?_
  refine A_aload_n dX1_init_0 rfl 0 rfl ?_
  refine A_oi dX1_init_1 ol_RX1_3 ⟨lb rfl, lb rfl⟩ ?_
  refine A_aload_n dX1_init_4 rfl 0 rfl ?_
  refine A_iconst (v := 0) dX1_init_5 rfl ?_
  refine A_putI dX1_init_6 fo_RX1_9 (at_pre hp 0 rfl) rfl ?_
  refine A_aload_n dX1_init_9 rfl 0 rfl ?_
  refine A_iconst (v := -1) dX1_init_10 rfl ?_
  refine A_putI dX1_init_11 fo_RX1_15 (at_pre hp 0 rfl) rfl ?_
  refine A_aload_n dX1_init_14 rfl 0 rfl ?_
  refine A_iconst (v := 4) dX1_init_15 rfl ?_
  refine B_newQ hp 4 [1, 1, 1, 1] (fun j => by match j with | 0 => rfl | 1 => rfl | 2 => rfl | 3 => rfl | n + 4 => rfl) dX1_init_16 (mem_gw 102 (by decide +kernel) (by decide +kernel)) rfl (by decide) (by have := h900; simp only [List.length]; omega) ⟨lb rfl, lb rfl⟩ ?_
  refine A_lay (lay' := pre ++ [(5, 14, [0, 0, 1, 1, 1, 1, 1, 1, 1, 1, 1, 1, 1, 1]), (2, 4, [1, 1, 1, 1])]) rfl ?_
  refine B_putR (b := d + 1) hp 0 dX1_init_19 fo_RX1_20 rfl rfl rfl (lb rfl) (fun _ => rfl) (fun _ => rfl) ?_
  refine A_lay (lay' := pre ++ [(5, 14, [0, 0, d + 1 + 2, 1, 1, 1, 1, 1, 1, 1, 1, 1, 1, 1]), (2, 4, [1, 1, 1, 1])]) rfl ?_
  refine A_aload_n dX1_init_22 rfl 0 rfl ?_
  refine A_iconst (v := 4) dX1_init_23 rfl ?_
  refine B_newI hp 4 dX1_init_24 rfl (by decide) (by have := h900; simp only [List.length]; omega) ⟨lb rfl, lb rfl⟩ ?_
  refine A_lay (lay' := pre ++ [(5, 14, [0, 0, d + 1 + 2, 1, 1, 1, 1, 1, 1, 1, 1, 1, 1, 1]), (2, 4, [1, 1, 1, 1]), (0, 4, [])]) rfl ?_
  refine B_putR (b := d + 2) hp 0 dX1_init_26 fo_RX1_24 rfl rfl rfl (lb rfl) (fun _ => rfl) (fun _ => rfl) ?_
  refine A_lay (lay' := pre ++ [(5, 14, [0, 0, d + 1 + 2, d + 2 + 2, 1, 1, 1, 1, 1, 1, 1, 1, 1, 1]), (2, 4, [1, 1, 1, 1]), (0, 4, [])]) rfl ?_
  refine A_aload_n dX1_init_29 rfl 0 rfl ?_
  refine A_iconst (v := 4) dX1_init_30 rfl ?_
  refine B_newI hp 4 dX1_init_31 rfl (by decide) (by have := h900; simp only [List.length]; omega) ⟨lb rfl, lb rfl⟩ ?_
  refine A_lay (lay' := pre ++ [(5, 14, [0, 0, d + 1 + 2, d + 2 + 2, 1, 1, 1, 1, 1, 1, 1, 1, 1, 1]), (2, 4, [1, 1, 1, 1]), (0, 4, []), (0, 4, [])]) rfl ?_
  refine B_putR (b := d + 3) hp 0 dX1_init_33 fo_RX1_28 rfl rfl rfl (lb rfl) (fun _ => rfl) (fun _ => rfl) ?_
  refine A_lay (lay' := pre ++ [(5, 14, [0, 0, d + 1 + 2, d + 2 + 2, d + 3 + 2, 1, 1, 1, 1, 1, 1, 1, 1, 1]), (2, 4, [1, 1, 1, 1]), (0, 4, []), (0, 4, [])]) rfl ?_
  refine A_aload_n dX1_init_36 rfl 0 rfl ?_
  refine A_iconst (v := 4) dX1_init_37 rfl ?_
  refine B_newI hp 4 dX1_init_38 rfl (by decide) (by have := h900; simp only [List.length]; omega) ⟨lb rfl, lb rfl⟩ ?_
  refine A_lay (lay' := pre ++ [(5, 14, [0, 0, d + 1 + 2, d + 2 + 2, d + 3 + 2, 1, 1, 1, 1, 1, 1, 1, 1, 1]), (2, 4, [1, 1, 1, 1]), (0, 4, []), (0, 4, []), (0, 4, [])]) rfl ?_
  refine B_putR (b := d + 4) hp 0 dX1_init_40 fo_RX1_31 rfl rfl rfl (lb rfl) (fun _ => rfl) (fun _ => rfl) ?_
  refine A_lay (lay' := pre ++ [(5, 14, [0, 0, d + 1 + 2, d + 2 + 2, d + 3 + 2, d + 4 + 2, 1, 1, 1, 1, 1, 1, 1, 1]), (2, 4, [1, 1, 1, 1]), (0, 4, []), (0, 4, []), (0, 4, [])]) rfl ?_
  refine A_aload_n dX1_init_43 rfl 0 rfl ?_
  refine A_iconst (v := 4) dX1_init_44 rfl ?_
  refine B_newI hp 4 dX1_init_45 rfl (by decide) (by have := h900; simp only [List.length]; omega) ⟨lb rfl, lb rfl⟩ ?_
  refine A_lay (lay' := pre ++ [(5, 14, [0, 0, d + 1 + 2, d + 2 + 2, d + 3 + 2, d + 4 + 2, 1, 1, 1, 1, 1, 1, 1, 1]), (2, 4, [1, 1, 1, 1]), (0, 4, []), (0, 4, []), (0, 4, []), (0, 4, [])]) rfl ?_
  refine B_putR (b := d + 5) hp 0 dX1_init_47 fo_RX1_34 rfl rfl rfl (lb rfl) (fun _ => rfl) (fun _ => rfl) ?_
  refine A_lay (lay' := pre ++ [(5, 14, [0, 0, d + 1 + 2, d + 2 + 2, d + 3 + 2, d + 4 + 2, d + 5 + 2, 1, 1, 1, 1, 1, 1, 1]), (2, 4, [1, 1, 1, 1]), (0, 4, []), (0, 4, []), (0, 4, []), (0, 4, [])]) rfl ?_
  refine A_aload_n dX1_init_50 rfl 0 rfl ?_
  refine A_iconst (v := 4) dX1_init_51 rfl ?_
  refine B_newI hp 4 dX1_init_52 rfl (by decide) (by have := h900; simp only [List.length]; omega) ⟨lb rfl, lb rfl⟩ ?_
  refine A_lay (lay' := pre ++ [(5, 14, [0, 0, d + 1 + 2, d + 2 + 2, d + 3 + 2, d + 4 + 2, d + 5 + 2, 1, 1, 1, 1, 1, 1, 1]), (2, 4, [1, 1, 1, 1]), (0, 4, []), (0, 4, []), (0, 4, []), (0, 4, []), (0, 4, [])]) rfl ?_
  refine B_putR (b := d + 6) hp 0 dX1_init_54 fo_RX1_37 rfl rfl rfl (lb rfl) (fun _ => rfl) (fun _ => rfl) ?_
  refine A_lay (lay' := pre ++ [(5, 14, [0, 0, d + 1 + 2, d + 2 + 2, d + 3 + 2, d + 4 + 2, d + 5 + 2, d + 6 + 2, 1, 1, 1, 1, 1, 1]), (2, 4, [1, 1, 1, 1]), (0, 4, []), (0, 4, []), (0, 4, []), (0, 4, []), (0, 4, [])]) rfl ?_
  refine A_aload_n dX1_init_57 rfl 0 rfl ?_
  refine A_iconst (v := 3) dX1_init_58 rfl ?_
  refine B_newZ hp 3 dX1_init_59 rfl (by decide) (by have := h900; simp only [List.length]; omega) ⟨lb rfl, lb rfl⟩ ?_
  refine A_lay (lay' := pre ++ [(5, 14, [0, 0, d + 1 + 2, d + 2 + 2, d + 3 + 2, d + 4 + 2, d + 5 + 2, d + 6 + 2, 1, 1, 1, 1, 1, 1]), (2, 4, [1, 1, 1, 1]), (0, 4, []), (0, 4, []), (0, 4, []), (0, 4, []), (0, 4, []), (1, 3, [])]) rfl ?_
  refine B_putR (b := d + 7) hp 0 dX1_init_61 fo_RX1_40 rfl rfl rfl (lb rfl) (fun _ => rfl) (fun _ => rfl) ?_
  refine A_lay (lay' := pre ++ [(5, 14, [0, 0, d + 1 + 2, d + 2 + 2, d + 3 + 2, d + 4 + 2, d + 5 + 2, d + 6 + 2, d + 7 + 2, 1, 1, 1, 1, 1]), (2, 4, [1, 1, 1, 1]), (0, 4, []), (0, 4, []), (0, 4, []), (0, 4, []), (0, 4, []), (1, 3, [])]) rfl ?_
  refine A_aload_n dX1_init_64 rfl 0 rfl ?_
  refine A_iconst (v := 3) dX1_init_65 rfl ?_
  refine B_newI hp 3 dX1_init_66 rfl (by decide) (by have := h900; simp only [List.length]; omega) ⟨lb rfl, lb rfl⟩ ?_
  refine A_lay (lay' := pre ++ [(5, 14, [0, 0, d + 1 + 2, d + 2 + 2, d + 3 + 2, d + 4 + 2, d + 5 + 2, d + 6 + 2, d + 7 + 2, 1, 1, 1, 1, 1]), (2, 4, [1, 1, 1, 1]), (0, 4, []), (0, 4, []), (0, 4, []), (0, 4, []), (0, 4, []), (1, 3, []), (0, 3, [])]) rfl ?_
  refine B_putR (b := d + 8) hp 0 dX1_init_68 fo_RX1_44 rfl rfl rfl (lb rfl) (fun _ => rfl) (fun _ => rfl) ?_
  refine A_lay (lay' := pre ++ [(5, 14, [0, 0, d + 1 + 2, d + 2 + 2, d + 3 + 2, d + 4 + 2, d + 5 + 2, d + 6 + 2, d + 7 + 2, d + 8 + 2, 1, 1, 1, 1]), (2, 4, [1, 1, 1, 1]), (0, 4, []), (0, 4, []), (0, 4, []), (0, 4, []), (0, 4, []), (1, 3, []), (0, 3, [])]) rfl ?_
  refine A_aload_n dX1_init_71 rfl 0 rfl ?_
  refine A_iconst (v := 3) dX1_init_72 rfl ?_
  refine B_newI hp 3 dX1_init_73 rfl (by decide) (by have := h900; simp only [List.length]; omega) ⟨lb rfl, lb rfl⟩ ?_
  refine A_lay (lay' := pre ++ [(5, 14, [0, 0, d + 1 + 2, d + 2 + 2, d + 3 + 2, d + 4 + 2, d + 5 + 2, d + 6 + 2, d + 7 + 2, d + 8 + 2, 1, 1, 1, 1]), (2, 4, [1, 1, 1, 1]), (0, 4, []), (0, 4, []), (0, 4, []), (0, 4, []), (0, 4, []), (1, 3, []), (0, 3, []), (0, 3, [])]) rfl ?_
  refine B_putR (b := d + 9) hp 0 dX1_init_75 fo_RX1_47 rfl rfl rfl (lb rfl) (fun _ => rfl) (fun _ => rfl) ?_
  refine A_lay (lay' := pre ++ [(5, 14, [0, 0, d + 1 + 2, d + 2 + 2, d + 3 + 2, d + 4 + 2, d + 5 + 2, d + 6 + 2, d + 7 + 2, d + 8 + 2, d + 9 + 2, 1, 1, 1]), (2, 4, [1, 1, 1, 1]), (0, 4, []), (0, 4, []), (0, 4, []), (0, 4, []), (0, 4, []), (1, 3, []), (0, 3, []), (0, 3, [])]) rfl ?_
  refine A_aload_n dX1_init_78 rfl 0 rfl ?_
  refine A_iconst (v := 3) dX1_init_79 rfl ?_
  refine B_newI hp 3 dX1_init_80 rfl (by decide) (by have := h900; simp only [List.length]; omega) ⟨lb rfl, lb rfl⟩ ?_
  refine A_lay (lay' := pre ++ [(5, 14, [0, 0, d + 1 + 2, d + 2 + 2, d + 3 + 2, d + 4 + 2, d + 5 + 2, d + 6 + 2, d + 7 + 2, d + 8 + 2, d + 9 + 2, 1, 1, 1]), (2, 4, [1, 1, 1, 1]), (0, 4, []), (0, 4, []), (0, 4, []), (0, 4, []), (0, 4, []), (1, 3, []), (0, 3, []), (0, 3, []), (0, 3, [])]) rfl ?_
  refine B_putR (b := d + 10) hp 0 dX1_init_82 fo_RX1_50 rfl rfl rfl (lb rfl) (fun _ => rfl) (fun _ => rfl) ?_
  refine A_lay (lay' := pre ++ [(5, 14, [0, 0, d + 1 + 2, d + 2 + 2, d + 3 + 2, d + 4 + 2, d + 5 + 2, d + 6 + 2, d + 7 + 2, d + 8 + 2, d + 9 + 2, d + 10 + 2, 1, 1]), (2, 4, [1, 1, 1, 1]), (0, 4, []), (0, 4, []), (0, 4, []), (0, 4, []), (0, 4, []), (1, 3, []), (0, 3, []), (0, 3, []), (0, 3, [])]) rfl ?_
  refine A_aload_n dX1_init_85 rfl 0 rfl ?_
  refine A_iconst (v := 3) dX1_init_86 rfl ?_
  refine B_newI hp 3 dX1_init_87 rfl (by decide) (by have := h900; simp only [List.length]; omega) ⟨lb rfl, lb rfl⟩ ?_
  refine A_lay (lay' := pre ++ [(5, 14, [0, 0, d + 1 + 2, d + 2 + 2, d + 3 + 2, d + 4 + 2, d + 5 + 2, d + 6 + 2, d + 7 + 2, d + 8 + 2, d + 9 + 2, d + 10 + 2, 1, 1]), (2, 4, [1, 1, 1, 1]), (0, 4, []), (0, 4, []), (0, 4, []), (0, 4, []), (0, 4, []), (1, 3, []), (0, 3, []), (0, 3, []), (0, 3, []), (0, 3, [])]) rfl ?_
  refine B_putR (b := d + 11) hp 0 dX1_init_89 fo_RX1_53 rfl rfl rfl (lb rfl) (fun _ => rfl) (fun _ => rfl) ?_
  refine A_lay (lay' := pre ++ [(5, 14, [0, 0, d + 1 + 2, d + 2 + 2, d + 3 + 2, d + 4 + 2, d + 5 + 2, d + 6 + 2, d + 7 + 2, d + 8 + 2, d + 9 + 2, d + 10 + 2, d + 11 + 2, 1]), (2, 4, [1, 1, 1, 1]), (0, 4, []), (0, 4, []), (0, 4, []), (0, 4, []), (0, 4, []), (1, 3, []), (0, 3, []), (0, 3, []), (0, 3, []), (0, 3, [])]) rfl ?_
  refine A_aload_n dX1_init_92 rfl 0 rfl ?_
  refine A_iconst (v := 4) dX1_init_93 rfl ?_
  refine B_newI hp 4 dX1_init_94 rfl (by decide) (by have := h900; simp only [List.length]; omega) ⟨lb rfl, lb rfl⟩ ?_
  refine A_lay (lay' := pre ++ [(5, 14, [0, 0, d + 1 + 2, d + 2 + 2, d + 3 + 2, d + 4 + 2, d + 5 + 2, d + 6 + 2, d + 7 + 2, d + 8 + 2, d + 9 + 2, d + 10 + 2, d + 11 + 2, 1]), (2, 4, [1, 1, 1, 1]), (0, 4, []), (0, 4, []), (0, 4, []), (0, 4, []), (0, 4, []), (1, 3, []), (0, 3, []), (0, 3, []), (0, 3, []), (0, 3, []), (0, 4, [])]) rfl ?_
  refine B_putR (b := d + 12) hp 0 dX1_init_96 fo_RX1_56 rfl rfl rfl (lb rfl) (fun _ => rfl) (fun _ => rfl) ?_
  refine A_lay (lay' := pre ++ [(5, 14, [0, 0, d + 1 + 2, d + 2 + 2, d + 3 + 2, d + 4 + 2, d + 5 + 2, d + 6 + 2, d + 7 + 2, d + 8 + 2, d + 9 + 2, d + 10 + 2, d + 11 + 2, d + 12 + 2]), (2, 4, [1, 1, 1, 1]), (0, 4, []), (0, 4, []), (0, 4, []), (0, 4, []), (0, 4, []), (1, 3, []), (0, 3, []), (0, 3, []), (0, 3, []), (0, 3, []), (0, 4, [])]) rfl ?_
  refine A_iconst (v := 0) dX1_init_99 rfl ?_
  refine A_istore_n (lv' := [(1, .int 0), (0, .ref (d + 0))]) dX1_init_100 rfl (lb rfl) rfl ?_
  refine A_iload_n dX1_init_101 rfl 0 rfl ?_
  refine A_iconst (v := 4) dX1_init_102 rfl ?_
  refine A_icmp_ge (tgt := 125) dX1_init_103 rfl (fun h103 => by exact absurd h103 (by decide)) (fun h103 => ?_)
  refine A_aload_n dX1_init_106 rfl 1 rfl ?_
  refine A_getR (b := d + 1) dX1_init_107 fo_RX1_20 (at_pre hp 0 rfl) rfl ?_
  refine A_iload_n dX1_init_110 rfl 0 rfl ?_
  refine B_newO hp dX1_init_111 no_RX1_18 (by have := h900; simp only [List.length]; omega) ⟨lb rfl, lb rfl⟩ ?_
  refine A_lay (lay' := pre ++ [(5, 14, [0, 0, d + 1 + 2, d + 2 + 2, d + 3 + 2, d + 4 + 2, d + 5 + 2, d + 6 + 2, d + 7 + 2, d + 8 + 2, d + 9 + 2, d + 10 + 2, d + 11 + 2, d + 12 + 2]), (2, 4, [1, 1, 1, 1]), (0, 4, []), (0, 4, []), (0, 4, []), (0, 4, []), (0, 4, []), (1, 3, []), (0, 3, []), (0, 3, []), (0, 3, []), (0, 3, []), (0, 4, []), (7, 2, [0, 1])]) rfl ?_
  refine A_dup dX1_init_114 rfl ?_
  refine A_callIN (M' := MX3_init) (mc := 1) (ms := 48) (lay' := pre ++ [(5, 14, [0, 0, d + 1 + 2, d + 2 + 2, d + 3 + 2, d + 4 + 2, d + 5 + 2, d + 6 + 2, d + 7 + 2, d + 8 + 2, d + 9 + 2, d + 10 + 2, d + 11 + 2, d + 12 + 2]), (2, 4, [1, 1, 1, 1]), (0, 4, []), (0, 4, []), (0, 4, []), (0, 4, []), (0, 4, []), (1, 3, []), (0, 3, []), (0, 3, []), (0, 3, []), (0, 3, []), (0, 4, []), (7, 2, [0, d + 14 + 2]), (0, 48, [])]) [.ref (d + 13), .int 0, .ref (d + 1)] (d + 13) dX1_init_115 lk_RX1_59 oX3_init rfl rfl im_X3_init ⟨lb rfl, lb rfl⟩ (lb rfl) ⟨lb rfl, lb rfl⟩ (by simp only [List.length_append, List.length]) (by have := h900; simp only [List.length_append, List.length]; omega) (Ct.ap (l0 := [(5, 14, [0, 0, d + 1 + 2, d + 2 + 2, d + 3 + 2, d + 4 + 2, d + 5 + 2, d + 6 + 2, d + 7 + 2, d + 8 + 2, d + 9 + 2, d + 10 + 2, d + 11 + 2, d + 12 + 2]), (2, 4, [1, 1, 1, 1]), (0, 4, []), (0, 4, []), (0, 4, []), (0, 4, []), (0, 4, []), (1, 3, []), (0, 3, []), (0, 3, []), (0, 3, []), (0, 3, []), (0, 4, [])]) (m_prog (pre ++ [(5, 14, [0, 0, d + 1 + 2, d + 2 + 2, d + 3 + 2, d + 4 + 2, d + 5 + 2, d + 6 + 2, d + 7 + 2, d + 8 + 2, d + 9 + 2, d + 10 + 2, d + 11 + 2, d + 12 + 2]), (2, 4, [1, 1, 1, 1]), (0, 4, []), (0, 4, []), (0, 4, []), (0, 4, []), (0, 4, []), (1, 3, []), (0, 3, []), (0, 3, []), (0, 3, []), (0, 3, []), (0, 4, [])]) (d + 13) (by rw [List.length_append, hp]; rfl) (by omega) _)) ?_
  rintro _ g0 ⟨rfl, hg0⟩
  rw [show g0 = ur (u2 (ur (ur (ur (ur (ur (ur (ur (ur (ur (ur (ur (ur (ur (u2 (u2 f (d + 0) 0 0) (d + 0) 1 (-1)) (d + 1) (fun _ => 0)) (d + 2) (fun _ => 0)) (d + 3) (fun _ => 0)) (d + 4) (fun _ => 0)) (d + 5) (fun _ => 0)) (d + 6) (fun _ => 0)) (d + 7) (fun _ => 0)) (d + 8) (fun _ => 0)) (d + 9) (fun _ => 0)) (d + 10) (fun _ => 0)) (d + 11) (fun _ => 0)) (d + 12) (fun _ => 0)) (d + 13) (fun _ => 0)) (d + 13) 0 0) (d + 14) (fun _ => 0) from hg0]
  refine B_ast hp 1 13 0 dX1_init_118 rfl rfl rfl (by decide) (by decide) (lb rfl) ?_
  refine A_lay (lay' := pre ++ [(5, 14, [0, 0, d + 1 + 2, d + 2 + 2, d + 3 + 2, d + 4 + 2, d + 5 + 2, d + 6 + 2, d + 7 + 2, d + 8 + 2, d + 9 + 2, d + 10 + 2, d + 11 + 2, d + 12 + 2]), (2, 4, [d + 13 + 2, 1, 1, 1]), (0, 4, []), (0, 4, []), (0, 4, []), (0, 4, []), (0, 4, []), (1, 3, []), (0, 3, []), (0, 3, []), (0, 3, []), (0, 3, []), (0, 4, []), (7, 2, [0, d + 14 + 2]), (0, 48, [])]) rfl ?_
  refine A_iinc (lv' := [(1, .int 1), (0, .ref (d + 0))]) dX1_init_119 0 rfl rfl (lb rfl) rfl ?_
  refine A_goto (tgt := 101) dX1_init_122 rfl ?_
  refine A_iload_n dX1_init_101 rfl 0 rfl ?_
  refine A_iconst (v := 4) dX1_init_102 rfl ?_
  refine A_icmp_ge (tgt := 125) dX1_init_103 rfl (fun h103 => by exact absurd h103 (by decide)) (fun h103 => ?_)
  refine A_aload_n dX1_init_106 rfl 1 rfl ?_
  refine A_getR (b := d + 1) dX1_init_107 fo_RX1_20 (at_pre hp 0 rfl) rfl ?_
  refine A_iload_n dX1_init_110 rfl 0 rfl ?_
  refine B_newO hp dX1_init_111 no_RX1_18 (by have := h900; simp only [List.length]; omega) ⟨lb rfl, lb rfl⟩ ?_
  refine A_lay (lay' := pre ++ [(5, 14, [0, 0, d + 1 + 2, d + 2 + 2, d + 3 + 2, d + 4 + 2, d + 5 + 2, d + 6 + 2, d + 7 + 2, d + 8 + 2, d + 9 + 2, d + 10 + 2, d + 11 + 2, d + 12 + 2]), (2, 4, [d + 13 + 2, 1, 1, 1]), (0, 4, []), (0, 4, []), (0, 4, []), (0, 4, []), (0, 4, []), (1, 3, []), (0, 3, []), (0, 3, []), (0, 3, []), (0, 3, []), (0, 4, []), (7, 2, [0, d + 14 + 2]), (0, 48, []), (7, 2, [0, 1])]) rfl ?_
  refine A_dup dX1_init_114 rfl ?_
  refine A_callIN (M' := MX3_init) (mc := 1) (ms := 48) (lay' := pre ++ [(5, 14, [0, 0, d + 1 + 2, d + 2 + 2, d + 3 + 2, d + 4 + 2, d + 5 + 2, d + 6 + 2, d + 7 + 2, d + 8 + 2, d + 9 + 2, d + 10 + 2, d + 11 + 2, d + 12 + 2]), (2, 4, [d + 13 + 2, 1, 1, 1]), (0, 4, []), (0, 4, []), (0, 4, []), (0, 4, []), (0, 4, []), (1, 3, []), (0, 3, []), (0, 3, []), (0, 3, []), (0, 3, []), (0, 4, []), (7, 2, [0, d + 14 + 2]), (0, 48, []), (7, 2, [0, d + 16 + 2]), (0, 48, [])]) [.ref (d + 15), .int 1, .ref (d + 1)] (d + 15) dX1_init_115 lk_RX1_59 oX3_init rfl rfl im_X3_init ⟨lb rfl, lb rfl⟩ (lb rfl) ⟨lb rfl, lb rfl⟩ (by simp only [List.length_append, List.length]) (by have := h900; simp only [List.length_append, List.length]; omega) (Ct.ap (l0 := [(5, 14, [0, 0, d + 1 + 2, d + 2 + 2, d + 3 + 2, d + 4 + 2, d + 5 + 2, d + 6 + 2, d + 7 + 2, d + 8 + 2, d + 9 + 2, d + 10 + 2, d + 11 + 2, d + 12 + 2]), (2, 4, [d + 13 + 2, 1, 1, 1]), (0, 4, []), (0, 4, []), (0, 4, []), (0, 4, []), (0, 4, []), (1, 3, []), (0, 3, []), (0, 3, []), (0, 3, []), (0, 3, []), (0, 4, []), (7, 2, [0, d + 14 + 2]), (0, 48, [])]) (m_prog (pre ++ [(5, 14, [0, 0, d + 1 + 2, d + 2 + 2, d + 3 + 2, d + 4 + 2, d + 5 + 2, d + 6 + 2, d + 7 + 2, d + 8 + 2, d + 9 + 2, d + 10 + 2, d + 11 + 2, d + 12 + 2]), (2, 4, [d + 13 + 2, 1, 1, 1]), (0, 4, []), (0, 4, []), (0, 4, []), (0, 4, []), (0, 4, []), (1, 3, []), (0, 3, []), (0, 3, []), (0, 3, []), (0, 3, []), (0, 4, []), (7, 2, [0, d + 14 + 2]), (0, 48, [])]) (d + 15) (by rw [List.length_append, hp]; rfl) (by omega) _)) ?_
  rintro _ g0 ⟨rfl, hg0⟩
  rw [show g0 = ur (u2 (ur (ur (u2 (ur (ur (ur (ur (ur (ur (ur (ur (ur (ur (ur (ur (ur (u2 (u2 f (d + 0) 0 0) (d + 0) 1 (-1)) (d + 1) (fun _ => 0)) (d + 2) (fun _ => 0)) (d + 3) (fun _ => 0)) (d + 4) (fun _ => 0)) (d + 5) (fun _ => 0)) (d + 6) (fun _ => 0)) (d + 7) (fun _ => 0)) (d + 8) (fun _ => 0)) (d + 9) (fun _ => 0)) (d + 10) (fun _ => 0)) (d + 11) (fun _ => 0)) (d + 12) (fun _ => 0)) (d + 13) (fun _ => 0)) (d + 13) 0 0) (d + 14) (fun _ => 0)) (d + 15) (fun _ => 0)) (d + 15) 0 0) (d + 16) (fun _ => 0) from hg0]
  refine B_ast hp 1 15 1 dX1_init_118 rfl rfl rfl (by decide) (by decide) (lb rfl) ?_
  refine A_lay (lay' := pre ++ [(5, 14, [0, 0, d + 1 + 2, d + 2 + 2, d + 3 + 2, d + 4 + 2, d + 5 + 2, d + 6 + 2, d + 7 + 2, d + 8 + 2, d + 9 + 2, d + 10 + 2, d + 11 + 2, d + 12 + 2]), (2, 4, [d + 13 + 2, d + 15 + 2, 1, 1]), (0, 4, []), (0, 4, []), (0, 4, []), (0, 4, []), (0, 4, []), (1, 3, []), (0, 3, []), (0, 3, []), (0, 3, []), (0, 3, []), (0, 4, []), (7, 2, [0, d + 14 + 2]), (0, 48, []), (7, 2, [0, d + 16 + 2]), (0, 48, [])]) rfl ?_
  refine A_iinc (lv' := [(1, .int 2), (0, .ref (d + 0))]) dX1_init_119 0 rfl rfl (lb rfl) rfl ?_
  refine A_goto (tgt := 101) dX1_init_122 rfl ?_
  refine A_iload_n dX1_init_101 rfl 0 rfl ?_
  refine A_iconst (v := 4) dX1_init_102 rfl ?_
  refine A_icmp_ge (tgt := 125) dX1_init_103 rfl (fun h103 => by exact absurd h103 (by decide)) (fun h103 => ?_)
  refine A_aload_n dX1_init_106 rfl 1 rfl ?_
  refine A_getR (b := d + 1) dX1_init_107 fo_RX1_20 (at_pre hp 0 rfl) rfl ?_
  refine A_iload_n dX1_init_110 rfl 0 rfl ?_
  refine B_newO hp dX1_init_111 no_RX1_18 (by have := h900; simp only [List.length]; omega) ⟨lb rfl, lb rfl⟩ ?_
  refine A_lay (lay' := pre ++ [(5, 14, [0, 0, d + 1 + 2, d + 2 + 2, d + 3 + 2, d + 4 + 2, d + 5 + 2, d + 6 + 2, d + 7 + 2, d + 8 + 2, d + 9 + 2, d + 10 + 2, d + 11 + 2, d + 12 + 2]), (2, 4, [d + 13 + 2, d + 15 + 2, 1, 1]), (0, 4, []), (0, 4, []), (0, 4, []), (0, 4, []), (0, 4, []), (1, 3, []), (0, 3, []), (0, 3, []), (0, 3, []), (0, 3, []), (0, 4, []), (7, 2, [0, d + 14 + 2]), (0, 48, []), (7, 2, [0, d + 16 + 2]), (0, 48, []), (7, 2, [0, 1])]) rfl ?_
  refine A_dup dX1_init_114 rfl ?_
  refine A_callIN (M' := MX3_init) (mc := 1) (ms := 48) (lay' := pre ++ [(5, 14, [0, 0, d + 1 + 2, d + 2 + 2, d + 3 + 2, d + 4 + 2, d + 5 + 2, d + 6 + 2, d + 7 + 2, d + 8 + 2, d + 9 + 2, d + 10 + 2, d + 11 + 2, d + 12 + 2]), (2, 4, [d + 13 + 2, d + 15 + 2, 1, 1]), (0, 4, []), (0, 4, []), (0, 4, []), (0, 4, []), (0, 4, []), (1, 3, []), (0, 3, []), (0, 3, []), (0, 3, []), (0, 3, []), (0, 4, []), (7, 2, [0, d + 14 + 2]), (0, 48, []), (7, 2, [0, d + 16 + 2]), (0, 48, []), (7, 2, [0, d + 18 + 2]), (0, 48, [])]) [.ref (d + 17), .int 2, .ref (d + 1)] (d + 17) dX1_init_115 lk_RX1_59 oX3_init rfl rfl im_X3_init ⟨lb rfl, lb rfl⟩ (lb rfl) ⟨lb rfl, lb rfl⟩ (by simp only [List.length_append, List.length]) (by have := h900; simp only [List.length_append, List.length]; omega) (Ct.ap (l0 := [(5, 14, [0, 0, d + 1 + 2, d + 2 + 2, d + 3 + 2, d + 4 + 2, d + 5 + 2, d + 6 + 2, d + 7 + 2, d + 8 + 2, d + 9 + 2, d + 10 + 2, d + 11 + 2, d + 12 + 2]), (2, 4, [d + 13 + 2, d + 15 + 2, 1, 1]), (0, 4, []), (0, 4, []), (0, 4, []), (0, 4, []), (0, 4, []), (1, 3, []), (0, 3, []), (0, 3, []), (0, 3, []), (0, 3, []), (0, 4, []), (7, 2, [0, d + 14 + 2]), (0, 48, []), (7, 2, [0, d + 16 + 2]), (0, 48, [])]) (m_prog (pre ++ [(5, 14, [0, 0, d + 1 + 2, d + 2 + 2, d + 3 + 2, d + 4 + 2, d + 5 + 2, d + 6 + 2, d + 7 + 2, d + 8 + 2, d + 9 + 2, d + 10 + 2, d + 11 + 2, d + 12 + 2]), (2, 4, [d + 13 + 2, d + 15 + 2, 1, 1]), (0, 4, []), (0, 4, []), (0, 4, []), (0, 4, []), (0, 4, []), (1, 3, []), (0, 3, []), (0, 3, []), (0, 3, []), (0, 3, []), (0, 4, []), (7, 2, [0, d + 14 + 2]), (0, 48, []), (7, 2, [0, d + 16 + 2]), (0, 48, [])]) (d + 17) (by rw [List.length_append, hp]; rfl) (by omega) _)) ?_
  rintro _ g0 ⟨rfl, hg0⟩
  rw [show g0 = ur (u2 (ur (ur (u2 (ur (ur (u2 (ur (ur (ur (ur (ur (ur (ur (ur (ur (ur (ur (ur (ur (u2 (u2 f (d + 0) 0 0) (d + 0) 1 (-1)) (d + 1) (fun _ => 0)) (d + 2) (fun _ => 0)) (d + 3) (fun _ => 0)) (d + 4) (fun _ => 0)) (d + 5) (fun _ => 0)) (d + 6) (fun _ => 0)) (d + 7) (fun _ => 0)) (d + 8) (fun _ => 0)) (d + 9) (fun _ => 0)) (d + 10) (fun _ => 0)) (d + 11) (fun _ => 0)) (d + 12) (fun _ => 0)) (d + 13) (fun _ => 0)) (d + 13) 0 0) (d + 14) (fun _ => 0)) (d + 15) (fun _ => 0)) (d + 15) 0 0) (d + 16) (fun _ => 0)) (d + 17) (fun _ => 0)) (d + 17) 0 0) (d + 18) (fun _ => 0) from hg0]
  refine B_ast hp 1 17 2 dX1_init_118 rfl rfl rfl (by decide) (by decide) (lb rfl) ?_
  refine A_lay (lay' := pre ++ [(5, 14, [0, 0, d + 1 + 2, d + 2 + 2, d + 3 + 2, d + 4 + 2, d + 5 + 2, d + 6 + 2, d + 7 + 2, d + 8 + 2, d + 9 + 2, d + 10 + 2, d + 11 + 2, d + 12 + 2]), (2, 4, [d + 13 + 2, d + 15 + 2, d + 17 + 2, 1]), (0, 4, []), (0, 4, []), (0, 4, []), (0, 4, []), (0, 4, []), (1, 3, []), (0, 3, []), (0, 3, []), (0, 3, []), (0, 3, []), (0, 4, []), (7, 2, [0, d + 14 + 2]), (0, 48, []), (7, 2, [0, d + 16 + 2]), (0, 48, []), (7, 2, [0, d + 18 + 2]), (0, 48, [])]) rfl ?_
  refine A_iinc (lv' := [(1, .int 3), (0, .ref (d + 0))]) dX1_init_119 0 rfl rfl (lb rfl) rfl ?_
  refine A_goto (tgt := 101) dX1_init_122 rfl ?_
  refine A_iload_n dX1_init_101 rfl 0 rfl ?_
  refine A_iconst (v := 4) dX1_init_102 rfl ?_
  refine A_icmp_ge (tgt := 125) dX1_init_103 rfl (fun h103 => by exact absurd h103 (by decide)) (fun h103 => ?_)
  refine A_aload_n dX1_init_106 rfl 1 rfl ?_
  refine A_getR (b := d + 1) dX1_init_107 fo_RX1_20 (at_pre hp 0 rfl) rfl ?_
  refine A_iload_n dX1_init_110 rfl 0 rfl ?_
  refine B_newO hp dX1_init_111 no_RX1_18 (by have := h900; simp only [List.length]; omega) ⟨lb rfl, lb rfl⟩ ?_
  refine A_lay (lay' := pre ++ [(5, 14, [0, 0, d + 1 + 2, d + 2 + 2, d + 3 + 2, d + 4 + 2, d + 5 + 2, d + 6 + 2, d + 7 + 2, d + 8 + 2, d + 9 + 2, d + 10 + 2, d + 11 + 2, d + 12 + 2]), (2, 4, [d + 13 + 2, d + 15 + 2, d + 17 + 2, 1]), (0, 4, []), (0, 4, []), (0, 4, []), (0, 4, []), (0, 4, []), (1, 3, []), (0, 3, []), (0, 3, []), (0, 3, []), (0, 3, []), (0, 4, []), (7, 2, [0, d + 14 + 2]), (0, 48, []), (7, 2, [0, d + 16 + 2]), (0, 48, []), (7, 2, [0, d + 18 + 2]), (0, 48, []), (7, 2, [0, 1])]) rfl ?_
  refine A_dup dX1_init_114 rfl ?_
  refine A_callIN (M' := MX3_init) (mc := 1) (ms := 48) (lay' := pre ++ [(5, 14, [0, 0, d + 1 + 2, d + 2 + 2, d + 3 + 2, d + 4 + 2, d + 5 + 2, d + 6 + 2, d + 7 + 2, d + 8 + 2, d + 9 + 2, d + 10 + 2, d + 11 + 2, d + 12 + 2]), (2, 4, [d + 13 + 2, d + 15 + 2, d + 17 + 2, 1]), (0, 4, []), (0, 4, []), (0, 4, []), (0, 4, []), (0, 4, []), (1, 3, []), (0, 3, []), (0, 3, []), (0, 3, []), (0, 3, []), (0, 4, []), (7, 2, [0, d + 14 + 2]), (0, 48, []), (7, 2, [0, d + 16 + 2]), (0, 48, []), (7, 2, [0, d + 18 + 2]), (0, 48, []), (7, 2, [0, d + 20 + 2]), (0, 48, [])]) [.ref (d + 19), .int 3, .ref (d + 1)] (d + 19) dX1_init_115 lk_RX1_59 oX3_init rfl rfl im_X3_init ⟨lb rfl, lb rfl⟩ (lb rfl) ⟨lb rfl, lb rfl⟩ (by simp only [List.length_append, List.length]) (by have := h900; simp only [List.length_append, List.length]; omega) (Ct.ap (l0 := [(5, 14, [0, 0, d + 1 + 2, d + 2 + 2, d + 3 + 2, d + 4 + 2, d + 5 + 2, d + 6 + 2, d + 7 + 2, d + 8 + 2, d + 9 + 2, d + 10 + 2, d + 11 + 2, d + 12 + 2]), (2, 4, [d + 13 + 2, d + 15 + 2, d + 17 + 2, 1]), (0, 4, []), (0, 4, []), (0, 4, []), (0, 4, []), (0, 4, []), (1, 3, []), (0, 3, []), (0, 3, []), (0, 3, []), (0, 3, []), (0, 4, []), (7, 2, [0, d + 14 + 2]), (0, 48, []), (7, 2, [0, d + 16 + 2]), (0, 48, []), (7, 2, [0, d + 18 + 2]), (0, 48, [])]) (m_prog (pre ++ [(5, 14, [0, 0, d + 1 + 2, d + 2 + 2, d + 3 + 2, d + 4 + 2, d + 5 + 2, d + 6 + 2, d + 7 + 2, d + 8 + 2, d + 9 + 2, d + 10 + 2, d + 11 + 2, d + 12 + 2]), (2, 4, [d + 13 + 2, d + 15 + 2, d + 17 + 2, 1]), (0, 4, []), (0, 4, []), (0, 4, []), (0, 4, []), (0, 4, []), (1, 3, []), (0, 3, []), (0, 3, []), (0, 3, []), (0, 3, []), (0, 4, []), (7, 2, [0, d + 14 + 2]), (0, 48, []), (7, 2, [0, d + 16 + 2]), (0, 48, []), (7, 2, [0, d + 18 + 2]), (0, 48, [])]) (d + 19) (by rw [List.length_append, hp]; rfl) (by omega) _)) ?_
  rintro _ g0 ⟨rfl, hg0⟩
  rw [show g0 = ur (u2 (ur (ur (u2 (ur (ur (u2 (ur (ur (u2 (ur (ur (ur (ur (ur (ur (ur (ur (ur (ur (ur (ur (ur (u2 (u2 f (d + 0) 0 0) (d + 0) 1 (-1)) (d + 1) (fun _ => 0)) (d + 2) (fun _ => 0)) (d + 3) (fun _ => 0)) (d + 4) (fun _ => 0)) (d + 5) (fun _ => 0)) (d + 6) (fun _ => 0)) (d + 7) (fun _ => 0)) (d + 8) (fun _ => 0)) (d + 9) (fun _ => 0)) (d + 10) (fun _ => 0)) (d + 11) (fun _ => 0)) (d + 12) (fun _ => 0)) (d + 13) (fun _ => 0)) (d + 13) 0 0) (d + 14) (fun _ => 0)) (d + 15) (fun _ => 0)) (d + 15) 0 0) (d + 16) (fun _ => 0)) (d + 17) (fun _ => 0)) (d + 17) 0 0) (d + 18) (fun _ => 0)) (d + 19) (fun _ => 0)) (d + 19) 0 0) (d + 20) (fun _ => 0) from hg0]
  refine B_ast hp 1 19 3 dX1_init_118 rfl rfl rfl (by decide) (by decide) (lb rfl) ?_
  refine A_lay (lay' := pre ++ [(5, 14, [0, 0, d + 1 + 2, d + 2 + 2, d + 3 + 2, d + 4 + 2, d + 5 + 2, d + 6 + 2, d + 7 + 2, d + 8 + 2, d + 9 + 2, d + 10 + 2, d + 11 + 2, d + 12 + 2]), (2, 4, [d + 13 + 2, d + 15 + 2, d + 17 + 2, d + 19 + 2]), (0, 4, []), (0, 4, []), (0, 4, []), (0, 4, []), (0, 4, []), (1, 3, []), (0, 3, []), (0, 3, []), (0, 3, []), (0, 3, []), (0, 4, []), (7, 2, [0, d + 14 + 2]), (0, 48, []), (7, 2, [0, d + 16 + 2]), (0, 48, []), (7, 2, [0, d + 18 + 2]), (0, 48, []), (7, 2, [0, d + 20 + 2]), (0, 48, [])]) rfl ?_
  refine A_iinc (lv' := [(1, .int 4), (0, .ref (d + 0))]) dX1_init_119 0 rfl rfl (lb rfl) rfl ?_
  refine A_goto (tgt := 101) dX1_init_122 rfl ?_
  refine A_iload_n dX1_init_101 rfl 0 rfl ?_
  refine A_iconst (v := 4) dX1_init_102 rfl ?_
  refine A_icmp_ge (tgt := 125) dX1_init_103 rfl (fun h103 => ?_) (fun h103 => by exact absurd (by decide) h103)
  refine A_aload_n dX1_init_125 rfl 1 rfl ?_
  refine A_getR (b := d + 8) dX1_init_126 fo_RX1_44 (at_pre hp 0 rfl) rfl ?_
  refine A_iconst (v := -1) dX1_init_129 rfl ?_
  refine A_callS (M' := MJ7_fill_53178) [.ref (d + 8), .int (-1)] [] dX1_init_130 lk_RX1_60 oJ7_fill_53178 sJ7_fill_53178 rfl rfl ⟨lb rfl, lb rfl⟩ (lb rfl) ⟨lb rfl, lb rfl⟩ (c_fill (d + 8) 3 (-1) _ (at_pre hp 8 rfl) (by decide)) ?_
  rintro _ g0 ⟨rfl, hg0⟩
  rw [hg0]
  exact A_vret dX1_init_133 rfl (⟨rfl, rfl⟩)
theorem ol_RX6_3 : Cond.methodLink RX6 3 objectInit ∈ gw := mem_gw 273 (by decide +kernel) (by decide +kernel)
theorem no_RX6_15 : NO RX6 15 1 14 [0, 0, 1, 1, 1, 1, 1, 1, 1, 1, 1, 1, 1, 1] := ⟨RX1, TX1, tyX1, rfl, in_X1, tyX1_ok, mem_gw 274 (by decide +kernel) (by decide +kernel), mem_gw 97 (by decide +kernel) (by decide +kernel), ini_RX1, fun al j hj => (match j, hj with | 0, _ => rfl | 1, _ => rfl | 2, _ => rfl | 3, _ => rfl | 4, _ => rfl | 5, _ => rfl | 6, _ => rfl | 7, _ => rfl | 8, _ => rfl | 9, _ => rfl | 10, _ => rfl | 11, _ => rfl | 12, _ => rfl | 13, _ => rfl)⟩
theorem im_X1_init : Cond.instanceMethod yX1_init ∈ gw := mem_gw 99 (by decide +kernel) (by decide +kernel)
theorem no_RX6_22 : NO RX6 22 6 4 [0, 1, 1, 1] := ⟨RX7, TX7, tyX7, rfl, in_X7, tyX7_ok, mem_gw 276 (by decide +kernel) (by decide +kernel), mem_gw 277 (by decide +kernel) (by decide +kernel), ini_RX7, fun al j hj => (match j, hj with | 0, _ => rfl | 1, _ => rfl | 2, _ => rfl | 3, _ => rfl)⟩
theorem im_X7_init : Cond.instanceMethod yX7_init ∈ gw := mem_gw 279 (by decide +kernel) (by decide +kernel)
theorem m_search (pre : List Ly) (d : Nat) (hp : pre.length = d) (h900 : d < 600) (f : Mem) : Ct MX6_init 30 8318 (pre ++ [(9, 15, [0, 1, 1, 1, 1, 1, 1, 1, 0, 0, 0, 0, 0, 0, 0])]) (pre ++ [(9, 15, [0, d + 1 + 2, d + 22 + 2, d + 26 + 2, d + 27 + 2, d + 28 + 2, d + 29 + 2, d + 30 + 2, 0, 0, 0, 0, 0, 0, 0]), (5, 14, [0, 0, d + 2 + 2, d + 3 + 2, d + 4 + 2, d + 5 + 2, d + 6 + 2, d + 7 + 2, d + 8 + 2, d + 9 + 2, d + 10 + 2, d + 11 + 2, d + 12 + 2, d + 13 + 2]), (2, 4, [d + 14 + 2, d + 16 + 2, d + 18 + 2, d + 20 + 2]), (0, 4, []), (0, 4, []), (0, 4, []), (0, 4, []), (0, 4, []), (1, 3, []), (0, 3, []), (0, 3, []), (0, 3, []), (0, 3, []), (0, 4, []), (7, 2, [0, d + 15 + 2]), (0, 48, []), (7, 2, [0, d + 17 + 2]), (0, 48, []), (7, 2, [0, d + 19 + 2]), (0, 48, []), (7, 2, [0, d + 21 + 2]), (0, 48, []), (10, 4, [0, d + 23 + 2, d + 24 + 2, d + 25 + 2]), (0, 3600, []), (0, 6, []), (0, 2048, []), (0, 600, []), (0, 600, []), (0, 600, []), (0, 600, []), (0, 3, [])]) [.ref (d + 0)] f (rt none (u2 (u2 (u2 (u2 (u2 (u2 (u2 (ur (ur (ur (ur (ur (ur (ur (ur (u2 (ur (ur (ur (u2 (ur (ur (u2 (ur (ur (u2 (ur (ur (u2 (ur (ur (ur (ur (ur (ur (ur (ur (ur (ur (ur (ur (ur (u2 (u2 (ur (u2 f (d + 0) 0 0) (d + 1) (fun _ => 0)) (d + 1) 0 0) (d + 1) 1 (-1)) (d + 2) (fun _ => 0)) (d + 3) (fun _ => 0)) (d + 4) (fun _ => 0)) (d + 5) (fun _ => 0)) (d + 6) (fun _ => 0)) (d + 7) (fun _ => 0)) (d + 8) (fun _ => 0)) (d + 9) (fun _ => 0)) (d + 10) (fun _ => 0)) (d + 11) (fun _ => 0)) (d + 12) (fun _ => 0)) (d + 13) (fun _ => 0)) (d + 14) (fun _ => 0)) (d + 14) 0 0) (d + 15) (fun _ => 0)) (d + 16) (fun _ => 0)) (d + 16) 0 0) (d + 17) (fun _ => 0)) (d + 18) (fun _ => 0)) (d + 18) 0 0) (d + 19) (fun _ => 0)) (d + 20) (fun _ => 0)) (d + 20) 0 0) (d + 21) (fun _ => 0)) (d + 9) (cpR 3 (fun _ => -1) ((ur (u2 (ur (ur (u2 (ur (ur (u2 (ur (ur (u2 (ur (ur (ur (ur (ur (ur (ur (ur (ur (ur (ur (ur (ur (u2 (u2 (ur (u2 f (d + 0) 0 0) (d + 1) (fun _ => 0)) (d + 1) 0 0) (d + 1) 1 (-1)) (d + 2) (fun _ => 0)) (d + 3) (fun _ => 0)) (d + 4) (fun _ => 0)) (d + 5) (fun _ => 0)) (d + 6) (fun _ => 0)) (d + 7) (fun _ => 0)) (d + 8) (fun _ => 0)) (d + 9) (fun _ => 0)) (d + 10) (fun _ => 0)) (d + 11) (fun _ => 0)) (d + 12) (fun _ => 0)) (d + 13) (fun _ => 0)) (d + 14) (fun _ => 0)) (d + 14) 0 0) (d + 15) (fun _ => 0)) (d + 16) (fun _ => 0)) (d + 16) 0 0) (d + 17) (fun _ => 0)) (d + 18) (fun _ => 0)) (d + 18) 0 0) (d + 19) (fun _ => 0)) (d + 20) (fun _ => 0)) (d + 20) 0 0) (d + 21) (fun _ => 0)) (d + 9)))) (d + 22) (fun _ => 0)) (d + 22) 0 0) (d + 23) (fun _ => 0)) (d + 24) (fun _ => 0)) (d + 25) (fun _ => 0)) (d + 26) (fun _ => 0)) (d + 27) (fun _ => 0)) (d + 28) (fun _ => 0)) (d + 29) (fun _ => 0)) (d + 30) (fun _ => 0)) (d + 0) 8 1) (d + 0) 9 0) (d + 0) 10 (-1)) (d + 0) 11 (-1)) (d + 0) 12 0) (d + 0) 13 0) (d + 0) 14 0)) := by
  refine Ct.of (lv := [(0, .ref (d + 0))]) (by decide) (lb rfl) rfl ?_
  refine A_aload_n dX6_init_0 rfl 0 rfl ?_
  refine A_oi dX6_init_1 ol_RX6_3 ⟨lb rfl, lb rfl⟩ ?_
  refine A_aload_n dX6_init_4 rfl 0 rfl ?_
  refine A_iconst (v := 0) dX6_init_5 rfl ?_
  refine A_putZ dX6_init_6 fo_RX6_9 (at_pre hp 0 rfl) rfl (.inl rfl) ?_
  refine A_aload_n dX6_init_9 rfl 0 rfl ?_
  refine B_newO hp dX6_init_10 no_RX6_15 (by have := h900; simp only [List.length]; omega) ⟨lb rfl, lb rfl⟩ ?_
  refine A_lay (lay' := pre ++ [(9, 15, [0, 1, 1, 1, 1, 1, 1, 1, 0, 0, 0, 0, 0, 0, 0]), (5, 14, [0, 0, 1, 1, 1, 1, 1, 1, 1, 1, 1, 1, 1, 1])]) rfl ?_
  refine A_dup dX6_init_13 rfl ?_
  refine A_callI (M' := MX1_init) (mc := 20) (ms := 243) (lay' := pre ++ [(9, 15, [0, 1, 1, 1, 1, 1, 1, 1, 0, 0, 0, 0, 0, 0, 0]), (5, 14, [0, 0, d + 2 + 2, d + 3 + 2, d + 4 + 2, d + 5 + 2, d + 6 + 2, d + 7 + 2, d + 8 + 2, d + 9 + 2, d + 10 + 2, d + 11 + 2, d + 12 + 2, d + 13 + 2]), (2, 4, [d + 14 + 2, d + 16 + 2, d + 18 + 2, d + 20 + 2]), (0, 4, []), (0, 4, []), (0, 4, []), (0, 4, []), (0, 4, []), (1, 3, []), (0, 3, []), (0, 3, []), (0, 3, []), (0, 3, []), (0, 4, []), (7, 2, [0, d + 15 + 2]), (0, 48, []), (7, 2, [0, d + 17 + 2]), (0, 48, []), (7, 2, [0, d + 19 + 2]), (0, 48, []), (7, 2, [0, d + 21 + 2]), (0, 48, [])]) [.ref (d + 1), .ref (d + 0)] (d + 1) dX6_init_14 lk_RX6_17 oX1_init rfl rfl im_X1_init ⟨lb rfl, lb rfl⟩ (lb rfl) ⟨lb rfl, lb rfl⟩ (by simp only [List.length_append, List.length]) (by have := h900; simp only [List.length_append, List.length]; omega) (Ct.ap (l0 := [(9, 15, [0, 1, 1, 1, 1, 1, 1, 1, 0, 0, 0, 0, 0, 0, 0])]) (m_desk (pre ++ [(9, 15, [0, 1, 1, 1, 1, 1, 1, 1, 0, 0, 0, 0, 0, 0, 0])]) (d + 1) (by rw [List.length_append, hp]; rfl) (by omega) _)) ?_
  rintro _ g0 ⟨rfl, hg0⟩
  rw [show g0 = ur (ur (u2 (ur (ur (u2 (ur (ur (u2 (ur (ur (u2 (ur (ur (ur (ur (ur (ur (ur (ur (ur (ur (ur (ur (ur (u2 (u2 (ur (u2 f (d + 0) 0 0) (d + 1) (fun _ => 0)) (d + 1) 0 0) (d + 1) 1 (-1)) (d + 2) (fun _ => 0)) (d + 3) (fun _ => 0)) (d + 4) (fun _ => 0)) (d + 5) (fun _ => 0)) (d + 6) (fun _ => 0)) (d + 7) (fun _ => 0)) (d + 8) (fun _ => 0)) (d + 9) (fun _ => 0)) (d + 10) (fun _ => 0)) (d + 11) (fun _ => 0)) (d + 12) (fun _ => 0)) (d + 13) (fun _ => 0)) (d + 14) (fun _ => 0)) (d + 14) 0 0) (d + 15) (fun _ => 0)) (d + 16) (fun _ => 0)) (d + 16) 0 0) (d + 17) (fun _ => 0)) (d + 18) (fun _ => 0)) (d + 18) 0 0) (d + 19) (fun _ => 0)) (d + 20) (fun _ => 0)) (d + 20) 0 0) (d + 21) (fun _ => 0)) (d + 9) (cpR 3 (fun _ => -1) ((ur (u2 (ur (ur (u2 (ur (ur (u2 (ur (ur (u2 (ur (ur (ur (ur (ur (ur (ur (ur (ur (ur (ur (ur (ur (u2 (u2 (ur (u2 f (d + 0) 0 0) (d + 1) (fun _ => 0)) (d + 1) 0 0) (d + 1) 1 (-1)) (d + 2) (fun _ => 0)) (d + 3) (fun _ => 0)) (d + 4) (fun _ => 0)) (d + 5) (fun _ => 0)) (d + 6) (fun _ => 0)) (d + 7) (fun _ => 0)) (d + 8) (fun _ => 0)) (d + 9) (fun _ => 0)) (d + 10) (fun _ => 0)) (d + 11) (fun _ => 0)) (d + 12) (fun _ => 0)) (d + 13) (fun _ => 0)) (d + 14) (fun _ => 0)) (d + 14) 0 0) (d + 15) (fun _ => 0)) (d + 16) (fun _ => 0)) (d + 16) 0 0) (d + 17) (fun _ => 0)) (d + 18) (fun _ => 0)) (d + 18) 0 0) (d + 19) (fun _ => 0)) (d + 20) (fun _ => 0)) (d + 20) 0 0) (d + 21) (fun _ => 0)) (d + 9))) from hg0]
  refine B_putR (b := d + 1) hp 0 dX6_init_17 fo_RX6_18 rfl rfl rfl (lb rfl) (fun _ => rfl) (fun _ => rfl) ?_
  refine A_lay (lay' := pre ++ [(9, 15, [0, d + 1 + 2, 1, 1, 1, 1, 1, 1, 0, 0, 0, 0, 0, 0, 0]), (5, 14, [0, 0, d + 2 + 2, d + 3 + 2, d + 4 + 2, d + 5 + 2, d + 6 + 2, d + 7 + 2, d + 8 + 2, d + 9 + 2, d + 10 + 2, d + 11 + 2, d + 12 + 2, d + 13 + 2]), (2, 4, [d + 14 + 2, d + 16 + 2, d + 18 + 2, d + 20 + 2]), (0, 4, []), (0, 4, []), (0, 4, []), (0, 4, []), (0, 4, []), (1, 3, []), (0, 3, []), (0, 3, []), (0, 3, []), (0, 3, []), (0, 4, []), (7, 2, [0, d + 15 + 2]), (0, 48, []), (7, 2, [0, d + 17 + 2]), (0, 48, []), (7, 2, [0, d + 19 + 2]), (0, 48, []), (7, 2, [0, d + 21 + 2]), (0, 48, [])]) rfl ?_
  refine A_aload_n dX6_init_20 rfl 0 rfl ?_
  refine B_newO hp dX6_init_21 no_RX6_22 (by have := h900; simp only [List.length]; omega) ⟨lb rfl, lb rfl⟩ ?_
  refine A_lay (lay' := pre ++ [(9, 15, [0, d + 1 + 2, 1, 1, 1, 1, 1, 1, 0, 0, 0, 0, 0, 0, 0]), (5, 14, [0, 0, d + 2 + 2, d + 3 + 2, d + 4 + 2, d + 5 + 2, d + 6 + 2, d + 7 + 2, d + 8 + 2, d + 9 + 2, d + 10 + 2, d + 11 + 2, d + 12 + 2, d + 13 + 2]), (2, 4, [d + 14 + 2, d + 16 + 2, d + 18 + 2, d + 20 + 2]), (0, 4, []), (0, 4, []), (0, 4, []), (0, 4, []), (0, 4, []), (1, 3, []), (0, 3, []), (0, 3, []), (0, 3, []), (0, 3, []), (0, 4, []), (7, 2, [0, d + 15 + 2]), (0, 48, []), (7, 2, [0, d + 17 + 2]), (0, 48, []), (7, 2, [0, d + 19 + 2]), (0, 48, []), (7, 2, [0, d + 21 + 2]), (0, 48, []), (10, 4, [0, 1, 1, 1])]) rfl ?_
  refine A_dup dX6_init_24 rfl ?_
  refine A_callIN (M' := MX7_init) (mc := 3) (ms := 5654) (lay' := pre ++ [(9, 15, [0, d + 1 + 2, 1, 1, 1, 1, 1, 1, 0, 0, 0, 0, 0, 0, 0]), (5, 14, [0, 0, d + 2 + 2, d + 3 + 2, d + 4 + 2, d + 5 + 2, d + 6 + 2, d + 7 + 2, d + 8 + 2, d + 9 + 2, d + 10 + 2, d + 11 + 2, d + 12 + 2, d + 13 + 2]), (2, 4, [d + 14 + 2, d + 16 + 2, d + 18 + 2, d + 20 + 2]), (0, 4, []), (0, 4, []), (0, 4, []), (0, 4, []), (0, 4, []), (1, 3, []), (0, 3, []), (0, 3, []), (0, 3, []), (0, 3, []), (0, 4, []), (7, 2, [0, d + 15 + 2]), (0, 48, []), (7, 2, [0, d + 17 + 2]), (0, 48, []), (7, 2, [0, d + 19 + 2]), (0, 48, []), (7, 2, [0, d + 21 + 2]), (0, 48, []), (10, 4, [0, d + 23 + 2, d + 24 + 2, d + 25 + 2]), (0, 3600, []), (0, 6, []), (0, 2048, [])]) [.ref (d + 22), .ref (d + 0)] (d + 22) dX6_init_25 lk_RX6_24 oX7_init rfl rfl im_X7_init ⟨lb rfl, lb rfl⟩ (lb rfl) ⟨lb rfl, lb rfl⟩ (by simp only [List.length_append, List.length]) (by have := h900; simp only [List.length_append, List.length]; omega) (Ct.ap (l0 := [(9, 15, [0, d + 1 + 2, 1, 1, 1, 1, 1, 1, 0, 0, 0, 0, 0, 0, 0]), (5, 14, [0, 0, d + 2 + 2, d + 3 + 2, d + 4 + 2, d + 5 + 2, d + 6 + 2, d + 7 + 2, d + 8 + 2, d + 9 + 2, d + 10 + 2, d + 11 + 2, d + 12 + 2, d + 13 + 2]), (2, 4, [d + 14 + 2, d + 16 + 2, d + 18 + 2, d + 20 + 2]), (0, 4, []), (0, 4, []), (0, 4, []), (0, 4, []), (0, 4, []), (1, 3, []), (0, 3, []), (0, 3, []), (0, 3, []), (0, 3, []), (0, 4, []), (7, 2, [0, d + 15 + 2]), (0, 48, []), (7, 2, [0, d + 17 + 2]), (0, 48, []), (7, 2, [0, d + 19 + 2]), (0, 48, []), (7, 2, [0, d + 21 + 2]), (0, 48, [])]) (m_states (pre ++ [(9, 15, [0, d + 1 + 2, 1, 1, 1, 1, 1, 1, 0, 0, 0, 0, 0, 0, 0]), (5, 14, [0, 0, d + 2 + 2, d + 3 + 2, d + 4 + 2, d + 5 + 2, d + 6 + 2, d + 7 + 2, d + 8 + 2, d + 9 + 2, d + 10 + 2, d + 11 + 2, d + 12 + 2, d + 13 + 2]), (2, 4, [d + 14 + 2, d + 16 + 2, d + 18 + 2, d + 20 + 2]), (0, 4, []), (0, 4, []), (0, 4, []), (0, 4, []), (0, 4, []), (1, 3, []), (0, 3, []), (0, 3, []), (0, 3, []), (0, 3, []), (0, 4, []), (7, 2, [0, d + 15 + 2]), (0, 48, []), (7, 2, [0, d + 17 + 2]), (0, 48, []), (7, 2, [0, d + 19 + 2]), (0, 48, []), (7, 2, [0, d + 21 + 2]), (0, 48, [])]) (d + 22) (by rw [List.length_append, hp]; rfl) (by omega) _)) ?_
  rintro _ g0 ⟨rfl, hg0⟩
  rw [show g0 = ur (ur (ur (u2 (ur (ur (ur (u2 (ur (ur (u2 (ur (ur (u2 (ur (ur (u2 (ur (ur (ur (ur (ur (ur (ur (ur (ur (ur (ur (ur (ur (u2 (u2 (ur (u2 f (d + 0) 0 0) (d + 1) (fun _ => 0)) (d + 1) 0 0) (d + 1) 1 (-1)) (d + 2) (fun _ => 0)) (d + 3) (fun _ => 0)) (d + 4) (fun _ => 0)) (d + 5) (fun _ => 0)) (d + 6) (fun _ => 0)) (d + 7) (fun _ => 0)) (d + 8) (fun _ => 0)) (d + 9) (fun _ => 0)) (d + 10) (fun _ => 0)) (d + 11) (fun _ => 0)) (d + 12) (fun _ => 0)) (d + 13) (fun _ => 0)) (d + 14) (fun _ => 0)) (d + 14) 0 0) (d + 15) (fun _ => 0)) (d + 16) (fun _ => 0)) (d + 16) 0 0) (d + 17) (fun _ => 0)) (d + 18) (fun _ => 0)) (d + 18) 0 0) (d + 19) (fun _ => 0)) (d + 20) (fun _ => 0)) (d + 20) 0 0) (d + 21) (fun _ => 0)) (d + 9) (cpR 3 (fun _ => -1) ((ur (u2 (ur (ur (u2 (ur (ur (u2 (ur (ur (u2 (ur (ur (ur (ur (ur (ur (ur (ur (ur (ur (ur (ur (ur (u2 (u2 (ur (u2 f (d + 0) 0 0) (d + 1) (fun _ => 0)) (d + 1) 0 0) (d + 1) 1 (-1)) (d + 2) (fun _ => 0)) (d + 3) (fun _ => 0)) (d + 4) (fun _ => 0)) (d + 5) (fun _ => 0)) (d + 6) (fun _ => 0)) (d + 7) (fun _ => 0)) (d + 8) (fun _ => 0)) (d + 9) (fun _ => 0)) (d + 10) (fun _ => 0)) (d + 11) (fun _ => 0)) (d + 12) (fun _ => 0)) (d + 13) (fun _ => 0)) (d + 14) (fun _ => 0)) (d + 14) 0 0) (d + 15) (fun _ => 0)) (d + 16) (fun _ => 0)) (d + 16) 0 0) (d + 17) (fun _ => 0)) (d + 18) (fun _ => 0)) (d + 18) 0 0) (d + 19) (fun _ => 0)) (d + 20) (fun _ => 0)) (d + 20) 0 0) (d + 21) (fun _ => 0)) (d + 9)))) (d + 22) (fun _ => 0)) (d + 22) 0 0) (d + 23) (fun _ => 0)) (d + 24) (fun _ => 0)) (d + 25) (fun _ => 0) from hg0]
  refine B_putR (b := d + 22) hp 0 dX6_init_28 fo_RX6_25 rfl rfl rfl (lb rfl) (fun _ => rfl) (fun _ => rfl) ?_
  refine A_lay (lay' := pre ++ [(9, 15, [0, d + 1 + 2, d + 22 + 2, 1, 1, 1, 1, 1, 0, 0, 0, 0, 0, 0, 0]), (5, 14, [0, 0, d + 2 + 2, d + 3 + 2, d + 4 + 2, d + 5 + 2, d + 6 + 2, d + 7 + 2, d + 8 + 2, d + 9 + 2, d + 10 + 2, d + 11 + 2, d + 12 + 2, d + 13 + 2]), (2, 4, [d + 14 + 2, d + 16 + 2, d + 18 + 2, d + 20 + 2]), (0, 4, []), (0, 4, []), (0, 4, []), (0, 4, []), (0, 4, []), (1, 3, []), (0, 3, []), (0, 3, []), (0, 3, []), (0, 3, []), (0, 4, []), (7, 2, [0, d + 15 + 2]), (0, 48, []), (7, 2, [0, d + 17 + 2]), (0, 48, []), (7, 2, [0, d + 19 + 2]), (0, 48, []), (7, 2, [0, d + 21 + 2]), (0, 48, []), (10, 4, [0, d + 23 + 2, d + 24 + 2, d + 25 + 2]), (0, 3600, []), (0, 6, []), (0, 2048, [])]) rfl ?_
  refine A_aload_n dX6_init_31 rfl 0 rfl ?_
  refine A_sipush (v := 600) dX6_init_32 rfl ?_
  refine B_newI hp 600 dX6_init_35 rfl (by decide) (by have := h900; simp only [List.length]; omega) ⟨lb rfl, lb rfl⟩ ?_
  refine A_lay (lay' := pre ++ [(9, 15, [0, d + 1 + 2, d + 22 + 2, 1, 1, 1, 1, 1, 0, 0, 0, 0, 0, 0, 0]), (5, 14, [0, 0, d + 2 + 2, d + 3 + 2, d + 4 + 2, d + 5 + 2, d + 6 + 2, d + 7 + 2, d + 8 + 2, d + 9 + 2, d + 10 + 2, d + 11 + 2, d + 12 + 2, d + 13 + 2]), (2, 4, [d + 14 + 2, d + 16 + 2, d + 18 + 2, d + 20 + 2]), (0, 4, []), (0, 4, []), (0, 4, []), (0, 4, []), (0, 4, []), (1, 3, []), (0, 3, []), (0, 3, []), (0, 3, []), (0, 3, []), (0, 4, []), (7, 2, [0, d + 15 + 2]), (0, 48, []), (7, 2, [0, d + 17 + 2]), (0, 48, []), (7, 2, [0, d + 19 + 2]), (0, 48, []), (7, 2, [0, d + 21 + 2]), (0, 48, []), (10, 4, [0, d + 23 + 2, d + 24 + 2, d + 25 + 2]), (0, 3600, []), (0, 6, []), (0, 2048, []), (0, 600, [])]) rfl ?_
  refine B_putR (b := d + 26) hp 0 dX6_init_37 fo_RX6_29 rfl rfl rfl (lb rfl) (fun _ => rfl) (fun _ => rfl) ?_
  refine A_lay (lay' := pre ++ [(9, 15, [0, d + 1 + 2, d + 22 + 2, d + 26 + 2, 1, 1, 1, 1, 0, 0, 0, 0, 0, 0, 0]), (5, 14, [0, 0, d + 2 + 2, d + 3 + 2, d + 4 + 2, d + 5 + 2, d + 6 + 2, d + 7 + 2, d + 8 + 2, d + 9 + 2, d + 10 + 2, d + 11 + 2, d + 12 + 2, d + 13 + 2]), (2, 4, [d + 14 + 2, d + 16 + 2, d + 18 + 2, d + 20 + 2]), (0, 4, []), (0, 4, []), (0, 4, []), (0, 4, []), (0, 4, []), (1, 3, []), (0, 3, []), (0, 3, []), (0, 3, []), (0, 3, []), (0, 4, []), (7, 2, [0, d + 15 + 2]), (0, 48, []), (7, 2, [0, d + 17 + 2]), (0, 48, []), (7, 2, [0, d + 19 + 2]), (0, 48, []), (7, 2, [0, d + 21 + 2]), (0, 48, []), (10, 4, [0, d + 23 + 2, d + 24 + 2, d + 25 + 2]), (0, 3600, []), (0, 6, []), (0, 2048, []), (0, 600, [])]) rfl ?_
  refine A_aload_n dX6_init_40 rfl 0 rfl ?_
  refine A_sipush (v := 600) dX6_init_41 rfl ?_
  refine B_newI hp 600 dX6_init_44 rfl (by decide) (by have := h900; simp only [List.length]; omega) ⟨lb rfl, lb rfl⟩ ?_
  refine A_lay (lay' := pre ++ [(9, 15, [0, d + 1 + 2, d + 22 + 2, d + 26 + 2, 1, 1, 1, 1, 0, 0, 0, 0, 0, 0, 0]), (5, 14, [0, 0, d + 2 + 2, d + 3 + 2, d + 4 + 2, d + 5 + 2, d + 6 + 2, d + 7 + 2, d + 8 + 2, d + 9 + 2, d + 10 + 2, d + 11 + 2, d + 12 + 2, d + 13 + 2]), (2, 4, [d + 14 + 2, d + 16 + 2, d + 18 + 2, d + 20 + 2]), (0, 4, []), (0, 4, []), (0, 4, []), (0, 4, []), (0, 4, []), (1, 3, []), (0, 3, []), (0, 3, []), (0, 3, []), (0, 3, []), (0, 4, []), (7, 2, [0, d + 15 + 2]), (0, 48, []), (7, 2, [0, d + 17 + 2]), (0, 48, []), (7, 2, [0, d + 19 + 2]), (0, 48, []), (7, 2, [0, d + 21 + 2]), (0, 48, []), (10, 4, [0, d + 23 + 2, d + 24 + 2, d + 25 + 2]), (0, 3600, []), (0, 6, []), (0, 2048, []), (0, 600, []), (0, 600, [])]) rfl ?_
  refine B_putR (b := d + 27) hp 0 dX6_init_46 fo_RX6_33 rfl rfl rfl (lb rfl) (fun _ => rfl) (fun _ => rfl) ?_
  refine A_lay (lay' := pre ++ [(9, 15, [0, d + 1 + 2, d + 22 + 2, d + 26 + 2, d + 27 + 2, 1, 1, 1, 0, 0, 0, 0, 0, 0, 0]), (5, 14, [0, 0, d + 2 + 2, d + 3 + 2, d + 4 + 2, d + 5 + 2, d + 6 + 2, d + 7 + 2, d + 8 + 2, d + 9 + 2, d + 10 + 2, d + 11 + 2, d + 12 + 2, d + 13 + 2]), (2, 4, [d + 14 + 2, d + 16 + 2, d + 18 + 2, d + 20 + 2]), (0, 4, []), (0, 4, []), (0, 4, []), (0, 4, []), (0, 4, []), (1, 3, []), (0, 3, []), (0, 3, []), (0, 3, []), (0, 3, []), (0, 4, []), (7, 2, [0, d + 15 + 2]), (0, 48, []), (7, 2, [0, d + 17 + 2]), (0, 48, []), (7, 2, [0, d + 19 + 2]), (0, 48, []), (7, 2, [0, d + 21 + 2]), (0, 48, []), (10, 4, [0, d + 23 + 2, d + 24 + 2, d + 25 + 2]), (0, 3600, []), (0, 6, []), (0, 2048, []), (0, 600, []), (0, 600, [])]) rfl ?_
  refine A_aload_n dX6_init_49 rfl 0 rfl ?_
  refine A_sipush (v := 600) dX6_init_50 rfl ?_
  refine B_newI hp 600 dX6_init_53 rfl (by decide) (by have := h900; simp only [List.length]; omega) ⟨lb rfl, lb rfl⟩ ?_
  refine A_lay (lay' := pre ++ [(9, 15, [0, d + 1 + 2, d + 22 + 2, d + 26 + 2, d + 27 + 2, 1, 1, 1, 0, 0, 0, 0, 0, 0, 0]), (5, 14, [0, 0, d + 2 + 2, d + 3 + 2, d + 4 + 2, d + 5 + 2, d + 6 + 2, d + 7 + 2, d + 8 + 2, d + 9 + 2, d + 10 + 2, d + 11 + 2, d + 12 + 2, d + 13 + 2]), (2, 4, [d + 14 + 2, d + 16 + 2, d + 18 + 2, d + 20 + 2]), (0, 4, []), (0, 4, []), (0, 4, []), (0, 4, []), (0, 4, []), (1, 3, []), (0, 3, []), (0, 3, []), (0, 3, []), (0, 3, []), (0, 4, []), (7, 2, [0, d + 15 + 2]), (0, 48, []), (7, 2, [0, d + 17 + 2]), (0, 48, []), (7, 2, [0, d + 19 + 2]), (0, 48, []), (7, 2, [0, d + 21 + 2]), (0, 48, []), (10, 4, [0, d + 23 + 2, d + 24 + 2, d + 25 + 2]), (0, 3600, []), (0, 6, []), (0, 2048, []), (0, 600, []), (0, 600, []), (0, 600, [])]) rfl ?_
  refine B_putR (b := d + 28) hp 0 dX6_init_55 fo_RX6_36 rfl rfl rfl (lb rfl) (fun _ => rfl) (fun _ => rfl) ?_
  refine A_lay (lay' := pre ++ [(9, 15, [0, d + 1 + 2, d + 22 + 2, d + 26 + 2, d + 27 + 2, d + 28 + 2, 1, 1, 0, 0, 0, 0, 0, 0, 0]), (5, 14, [0, 0, d + 2 + 2, d + 3 + 2, d + 4 + 2, d + 5 + 2, d + 6 + 2, d + 7 + 2, d + 8 + 2, d + 9 + 2, d + 10 + 2, d + 11 + 2, d + 12 + 2, d + 13 + 2]), (2, 4, [d + 14 + 2, d + 16 + 2, d + 18 + 2, d + 20 + 2]), (0, 4, []), (0, 4, []), (0, 4, []), (0, 4, []), (0, 4, []), (1, 3, []), (0, 3, []), (0, 3, []), (0, 3, []), (0, 3, []), (0, 4, []), (7, 2, [0, d + 15 + 2]), (0, 48, []), (7, 2, [0, d + 17 + 2]), (0, 48, []), (7, 2, [0, d + 19 + 2]), (0, 48, []), (7, 2, [0, d + 21 + 2]), (0, 48, []), (10, 4, [0, d + 23 + 2, d + 24 + 2, d + 25 + 2]), (0, 3600, []), (0, 6, []), (0, 2048, []), (0, 600, []), (0, 600, []), (0, 600, [])]) rfl ?_
  refine A_aload_n dX6_init_58 rfl 0 rfl ?_
  refine A_sipush (v := 600) dX6_init_59 rfl ?_
  refine B_newI hp 600 dX6_init_62 rfl (by decide) (by have := h900; simp only [List.length]; omega) ⟨lb rfl, lb rfl⟩ ?_
  refine A_lay (lay' := pre ++ [(9, 15, [0, d + 1 + 2, d + 22 + 2, d + 26 + 2, d + 27 + 2, d + 28 + 2, 1, 1, 0, 0, 0, 0, 0, 0, 0]), (5, 14, [0, 0, d + 2 + 2, d + 3 + 2, d + 4 + 2, d + 5 + 2, d + 6 + 2, d + 7 + 2, d + 8 + 2, d + 9 + 2, d + 10 + 2, d + 11 + 2, d + 12 + 2, d + 13 + 2]), (2, 4, [d + 14 + 2, d + 16 + 2, d + 18 + 2, d + 20 + 2]), (0, 4, []), (0, 4, []), (0, 4, []), (0, 4, []), (0, 4, []), (1, 3, []), (0, 3, []), (0, 3, []), (0, 3, []), (0, 3, []), (0, 4, []), (7, 2, [0, d + 15 + 2]), (0, 48, []), (7, 2, [0, d + 17 + 2]), (0, 48, []), (7, 2, [0, d + 19 + 2]), (0, 48, []), (7, 2, [0, d + 21 + 2]), (0, 48, []), (10, 4, [0, d + 23 + 2, d + 24 + 2, d + 25 + 2]), (0, 3600, []), (0, 6, []), (0, 2048, []), (0, 600, []), (0, 600, []), (0, 600, []), (0, 600, [])]) rfl ?_
  refine B_putR (b := d + 29) hp 0 dX6_init_64 fo_RX6_39 rfl rfl rfl (lb rfl) (fun _ => rfl) (fun _ => rfl) ?_
  refine A_lay (lay' := pre ++ [(9, 15, [0, d + 1 + 2, d + 22 + 2, d + 26 + 2, d + 27 + 2, d + 28 + 2, d + 29 + 2, 1, 0, 0, 0, 0, 0, 0, 0]), (5, 14, [0, 0, d + 2 + 2, d + 3 + 2, d + 4 + 2, d + 5 + 2, d + 6 + 2, d + 7 + 2, d + 8 + 2, d + 9 + 2, d + 10 + 2, d + 11 + 2, d + 12 + 2, d + 13 + 2]), (2, 4, [d + 14 + 2, d + 16 + 2, d + 18 + 2, d + 20 + 2]), (0, 4, []), (0, 4, []), (0, 4, []), (0, 4, []), (0, 4, []), (1, 3, []), (0, 3, []), (0, 3, []), (0, 3, []), (0, 3, []), (0, 4, []), (7, 2, [0, d + 15 + 2]), (0, 48, []), (7, 2, [0, d + 17 + 2]), (0, 48, []), (7, 2, [0, d + 19 + 2]), (0, 48, []), (7, 2, [0, d + 21 + 2]), (0, 48, []), (10, 4, [0, d + 23 + 2, d + 24 + 2, d + 25 + 2]), (0, 3600, []), (0, 6, []), (0, 2048, []), (0, 600, []), (0, 600, []), (0, 600, []), (0, 600, [])]) rfl ?_
  refine A_aload_n dX6_init_67 rfl 0 rfl ?_
  refine A_iconst (v := 3) dX6_init_68 rfl ?_
  refine B_newI hp 3 dX6_init_69 rfl (by decide) (by have := h900; simp only [List.length]; omega) ⟨lb rfl, lb rfl⟩ ?_
  refine A_lay (lay' := pre ++ [(9, 15, [0, d + 1 + 2, d + 22 + 2, d + 26 + 2, d + 27 + 2, d + 28 + 2, d + 29 + 2, 1, 0, 0, 0, 0, 0, 0, 0]), (5, 14, [0, 0, d + 2 + 2, d + 3 + 2, d + 4 + 2, d + 5 + 2, d + 6 + 2, d + 7 + 2, d + 8 + 2, d + 9 + 2, d + 10 + 2, d + 11 + 2, d + 12 + 2, d + 13 + 2]), (2, 4, [d + 14 + 2, d + 16 + 2, d + 18 + 2, d + 20 + 2]), (0, 4, []), (0, 4, []), (0, 4, []), (0, 4, []), (0, 4, []), (1, 3, []), (0, 3, []), (0, 3, []), (0, 3, []), (0, 3, []), (0, 4, []), (7, 2, [0, d + 15 + 2]), (0, 48, []), (7, 2, [0, d + 17 + 2]), (0, 48, []), (7, 2, [0, d + 19 + 2]), (0, 48, []), (7, 2, [0, d + 21 + 2]), (0, 48, []), (10, 4, [0, d + 23 + 2, d + 24 + 2, d + 25 + 2]), (0, 3600, []), (0, 6, []), (0, 2048, []), (0, 600, []), (0, 600, []), (0, 600, []), (0, 600, []), (0, 3, [])]) rfl ?_
  refine B_putR (b := d + 30) hp 0 dX6_init_71 fo_RX6_42 rfl rfl rfl (lb rfl) (fun _ => rfl) (fun _ => rfl) ?_
  refine A_lay (lay' := pre ++ [(9, 15, [0, d + 1 + 2, d + 22 + 2, d + 26 + 2, d + 27 + 2, d + 28 + 2, d + 29 + 2, d + 30 + 2, 0, 0, 0, 0, 0, 0, 0]), (5, 14, [0, 0, d + 2 + 2, d + 3 + 2, d + 4 + 2, d + 5 + 2, d + 6 + 2, d + 7 + 2, d + 8 + 2, d + 9 + 2, d + 10 + 2, d + 11 + 2, d + 12 + 2, d + 13 + 2]), (2, 4, [d + 14 + 2, d + 16 + 2, d + 18 + 2, d + 20 + 2]), (0, 4, []), (0, 4, []), (0, 4, []), (0, 4, []), (0, 4, []), (1, 3, []), (0, 3, []), (0, 3, []), (0, 3, []), (0, 3, []), (0, 4, []), (7, 2, [0, d + 15 + 2]), (0, 48, []), (7, 2, [0, d + 17 + 2]), (0, 48, []), (7, 2, [0, d + 19 + 2]), (0, 48, []), (7, 2, [0, d + 21 + 2]), (0, 48, []), (10, 4, [0, d + 23 + 2, d + 24 + 2, d + 25 + 2]), (0, 3600, []), (0, 6, []), (0, 2048, []), (0, 600, []), (0, 600, []), (0, 600, []), (0, 600, []), (0, 3, [])]) rfl ?_
  refine A_aload_n dX6_init_74 rfl 0 rfl ?_
  refine A_iconst (v := 1) dX6_init_75 rfl ?_
  refine A_putZ dX6_init_76 fo_RX6_45 (at_pre hp 0 rfl) rfl (.inr rfl) ?_
  refine A_aload_n dX6_init_79 rfl 0 rfl ?_
  refine A_iconst (v := 0) dX6_init_80 rfl ?_
  refine A_putZ dX6_init_81 fo_RX6_48 (at_pre hp 0 rfl) rfl (.inl rfl) ?_
  refine A_aload_n dX6_init_84 rfl 0 rfl ?_
  refine A_iconst (v := -1) dX6_init_85 rfl ?_
  refine A_putI dX6_init_86 fo_RX6_51 (at_pre hp 0 rfl) rfl ?_
  refine A_aload_n dX6_init_89 rfl 0 rfl ?_
  refine A_iconst (v := -1) dX6_init_90 rfl ?_
  refine A_putI dX6_init_91 fo_RX6_55 (at_pre hp 0 rfl) rfl ?_
  refine A_aload_n dX6_init_94 rfl 0 rfl ?_
  refine A_iconst (v := 0) dX6_init_95 rfl ?_
  refine A_putI dX6_init_96 fo_RX6_58 (at_pre hp 0 rfl) rfl ?_
  refine A_aload_n dX6_init_99 rfl 0 rfl ?_
  refine A_iconst (v := 0) dX6_init_100 rfl ?_
  refine A_putI dX6_init_101 fo_RX6_61 (at_pre hp 0 rfl) rfl ?_
  refine A_aload_n dX6_init_104 rfl 0 rfl ?_
  refine A_iconst (v := 0) dX6_init_105 rfl ?_
  refine A_putI dX6_init_106 fo_RX6_64 (at_pre hp 0 rfl) rfl ?_
  exact A_vret dX6_init_109 rfl (⟨rfl, rfl⟩)
