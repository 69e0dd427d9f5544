/-! stands; the desk anew; the image -/
abbrev stdV (s : Sg) (r : Nat) (x : Int32) : Int32 := if inR x (s 5 r) then nI (s (7 + r) x.toNatClampNeg) - 1 else -1
theorem std_e {s : Sg} {r : Nat} (h : isRow (s (7 + r)) (s 5 r)) (x : Int32) : (if inR x 4 then nI (s (7 + r) x.toNatClampNeg) - 1 else -1) = stdV s r x := by
  unfold stdV
  by_cases q : inR x (s 5 r)
  · rw [if_pos q, if_pos ⟨q.1, by have := q.2; have := h.1; omega⟩]
  · rw [if_neg q]
    by_cases q4 : inR x 4
    · rw [if_pos q4]
      obtain ⟨j, hj, e⟩ := inR_of (by decide) q4
      rw [e] at q ⊢
      rw [nI_clamp (by omega), (h.2 j hj).2 (Nat.le_of_not_lt (fun z => q ((inR_nI (by omega)).mpr z)))]
      decide
    · rw [if_neg q4]
theorem x_stands1 (x y i : Int32) (f : Mem) (hx : ¬ (inR x 3 ∧ inR y 2)) : C0 MX10_stands [.ref 0, .int x, .int y, .int i] f (rt (some (.int (-1))) f) := by
  refine Ct.of (lv := [(0, .ref 0), (1, .int x), (2, .int y), (3, .int i)]) (by decide) (lb rfl) rfl ?_
  refine A_iload_n dX10_stands_0 rfl 1 rfl ?_
  refine A_callS (M' := MX10_isMonitor) [.int x] [] dX10_stands_1 lk_RX10_77 oX10_isMonitor sX10_isMonitor rfl rfl ⟨lb rfl, lb rfl⟩ (lb rfl) ⟨lb rfl, lb rfl⟩ (x_isMonitor x _) ?_
  rintro _ g0 ⟨rfl, hg0⟩
  rw [hg0]
  refine A_if_eq (tgt := 16) dX10_stands_4 rfl (fun h4 => ?_) (fun h4 => ?_)
  · refine A_iconst (v := -1) dX10_stands_16 rfl ?_
    exact A_iret dX10_stands_17 rfl (⟨rfl, rfl⟩)
  · refine A_iload_n dX10_stands_7 rfl 2 rfl ?_
    refine A_if_lt (tgt := 16) dX10_stands_8 rfl (fun h8 => ?_) (fun h8 => ?_)
    · refine A_iconst (v := -1) dX10_stands_16 rfl ?_
      exact A_iret dX10_stands_17 rfl (⟨rfl, rfl⟩)
    · refine A_iload_n dX10_stands_11 rfl 2 rfl ?_
      refine A_iconst (v := 1) dX10_stands_12 rfl ?_
      refine A_icmp_le (tgt := 18) dX10_stands_13 rfl (fun h13 => ?_) (fun h13 => ?_)
      · exact absurd ⟨bz_n0.mp h4, in2_t h8 h13⟩ hx
      · refine A_iconst (v := -1) dX10_stands_16 rfl ?_
        exact A_iret dX10_stands_17 rfl (⟨rfl, rfl⟩)
theorem c_stands1 (x y i : Int32) (f : Mem) (hx : ¬ (inR x 3 ∧ inR y 2)) : C0 MX11_stands [.ref 93, .int x, .int y, .int i] f (rt (some (.int (-1))) f) := by
  refine Ct.of (lv := [(0, .ref 93), (1, .int x), (2, .int y), (3, .int i)]) (by decide) (lb rfl) rfl ?_
  refine A_iload_n dX11_stands_0 rfl 1 rfl ?_
  refine A_callS (M' := MX11_isMonitor) [.int x] [] dX11_stands_1 lk_RX11_72 oX11_isMonitor sX11_isMonitor rfl rfl ⟨lb rfl, lb rfl⟩ (lb rfl) ⟨lb rfl, lb rfl⟩ (c_isMonitor x _) ?_
  rintro _ g0 ⟨rfl, hg0⟩
  rw [hg0]
  refine A_if_eq (tgt := 47) dX11_stands_4 rfl (fun h4 => ?_) (fun h4 => ?_)
  · refine A_iconst (v := -1) dX11_stands_47 rfl ?_
    exact A_iret dX11_stands_48 rfl (⟨rfl, rfl⟩)
  · refine A_iload_n dX11_stands_7 rfl 2 rfl ?_
    refine A_i2l dX11_stands_8 ?_
    refine A_lconst (v := 0) dX11_stands_9 rfl ?_
    refine A_lconst (v := 1) dX11_stands_10 rfl ?_
    refine A_callS (M' := MX11_in) [.long y.toInt64, .long 0, .long 1] [] dX11_stands_11 lk_RX11_64 oX11_in sX11_in rfl rfl ⟨lb rfl, lb rfl⟩ (lb rfl) ⟨lb rfl, lb rfl⟩ (c_in _ _ _ _) ?_
    rintro _ g0 ⟨rfl, hg0⟩
    rw [hg0]
    refine A_topi (bz (inR y 2)) (bz_c (in_2' y)) ?_
    refine A_if_eq (tgt := 47) dX11_stands_14 rfl (fun h14 => ?_) (fun h14 => ?_)
    · refine A_iconst (v := -1) dX11_stands_47 rfl ?_
      exact A_iret dX11_stands_48 rfl (⟨rfl, rfl⟩)
    · exact absurd ⟨bz_n0.mp h4, bz_n0.mp h14⟩ hx
theorem x_standsE (m : Nat) (i : Int32) (f : Mem) (s : Sg) (k p rz lz : Ro) (hC : XC f s k p rz lz) (w : wfC s k p) (hm : m < 3) : C0 MX10_stands [.ref 0, .int (nI m), .int 0, .int i] f (rt (some (.int (stdV s m i))) f) := by
  refine Ct.of (lv := [(0, .ref 0), (1, .int (nI m)), (2, .int 0), (3, .int i)]) (by decide) (lb rfl) rfl ?_
  refine A_iload_n dX10_stands_0 rfl 1 rfl ?_
  refine A_callS (M' := MX10_isMonitor) [.int (nI m)] [] dX10_stands_1 lk_RX10_77 oX10_isMonitor sX10_isMonitor rfl rfl ⟨lb rfl, lb rfl⟩ (lb rfl) ⟨lb rfl, lb rfl⟩ (x_isMonitor (nI m) _) ?_
  rintro _ g0 ⟨rfl, hg0⟩
  rw [hg0]
  refine A_if_eq (tgt := 16) dX10_stands_4 rfl (fun h4 => by exact absurd ((inR_nI (by omega)).mpr hm) (bz_0.mp h4)) (fun h4 => ?_)
  refine A_iload_n dX10_stands_7 rfl 2 rfl ?_
  refine A_if_lt (tgt := 16) dX10_stands_8 rfl (fun h8 => absurd h8 (by decide)) (fun h8 => ?_)
  refine A_iload_n dX10_stands_11 rfl 2 rfl ?_
  refine A_iconst (v := 1) dX10_stands_12 rfl ?_
  refine A_icmp_le (tgt := 18) dX10_stands_13 rfl (fun h13 => ?_) (fun h13 => absurd (by decide) h13)
  refine A_iload_n dX10_stands_18 rfl 2 rfl ?_
  refine A_if_ne (tgt := 34) dX10_stands_19 rfl (fun h19 => by exact absurd h19 (by decide)) (fun h19 => ?_)
  refine A_aload_n dX10_stands_22 rfl 0 rfl ?_
  refine A_getR (b := 1) dX10_stands_23 fo_RX10_10 L0 rfl ?_
  refine A_getR (b := 11) dX10_stands_26 fo_RX10_184 L1 rfl ?_
  refine A_iload_n dX10_stands_29 rfl 1 rfl ?_
  refine A_iaload m dX10_stands_30 L11 (rfl) (by omega) (lb rfl) ?_
  refine A_topi (pk (s (7 + m))) (hC.en hm) ?_
  refine A_goto (tgt := 43) dX10_stands_31 rfl ?_
  refine A_iload_n dX10_stands_43 rfl 3 rfl ?_
  refine A_callS (M' := MX5_at) [.int (pk (s (7 + m))), .int i] [] dX10_stands_44 lk_RX10_195 oX5_at sX5_at rfl rfl ⟨lb rfl, lb rfl⟩ (lb rfl) ⟨lb rfl, lb rfl⟩ (c_rowAt (s (7 + m)) i f (wf4.row w.1.1 (show m < 6 by omega)).sm) ?_
  rintro _ g0 ⟨rfl, hg0⟩
  rw [hg0]
  refine A_topi (stdV s m i) (std_e (wf4.row w.1.1 (show m < 6 by omega)) i) ?_
  refine A_istore (lv' := [(4, .int (stdV s m i)), (0, .ref 0), (1, .int (nI m)), (2, .int 0), (3, .int i)]) dX10_stands_47 (lb rfl) rfl ?_
  refine A_iload dX10_stands_49 0 rfl ?_
  refine A_iconst (v := -1) dX10_stands_51 rfl ?_
  refine A_icmp_ne (tgt := 59) dX10_stands_52 rfl (fun h52 => ?_) (fun h52 => ?_)
  · refine A_iload dX10_stands_59 0 rfl ?_
    exact A_iret dX10_stands_61 rfl (rti rfl rfl)
  · refine A_iconst (v := -1) dX10_stands_55 rfl ?_
    refine A_goto (tgt := 61) dX10_stands_56 rfl ?_
    exact A_iret dX10_stands_61 rfl (rti h52.symm rfl)
theorem c_standsE (m : Nat) (i : Int32) (f : Mem) (s : Sg) (k p rz lz : Ro) (hC : RC f s k p rz lz) (w : wfC s k p) (hm : m < 3) : C0 MX11_stands [.ref 93, .int (nI m), .int 0, .int i] f (rt (some (.int (stdV s m i))) f) := by
  refine Ct.of (lv := [(0, .ref 93), (1, .int (nI m)), (2, .int 0), (3, .int i)]) (by decide) (lb rfl) rfl ?_
  refine A_iload_n dX11_stands_0 rfl 1 rfl ?_
  refine A_callS (M' := MX11_isMonitor) [.int (nI m)] [] dX11_stands_1 lk_RX11_72 oX11_isMonitor sX11_isMonitor rfl rfl ⟨lb rfl, lb rfl⟩ (lb rfl) ⟨lb rfl, lb rfl⟩ (c_isMonitor (nI m) _) ?_
  rintro _ g0 ⟨rfl, hg0⟩
  rw [hg0]
  refine A_if_eq (tgt := 47) dX11_stands_4 rfl (fun h4 => by exact absurd ((inR_nI (by omega)).mpr hm) (bz_0.mp h4)) (fun h4 => ?_)
  refine A_iload_n dX11_stands_7 rfl 2 rfl ?_
  refine A_i2l dX11_stands_8 ?_
  refine A_lconst (v := 0) dX11_stands_9 rfl ?_
  refine A_lconst (v := 1) dX11_stands_10 rfl ?_
  refine A_callS (M' := MX11_in) [.long ((0 : Int32).toInt64), .long 0, .long 1] [] dX11_stands_11 lk_RX11_64 oX11_in sX11_in rfl rfl ⟨lb rfl, lb rfl⟩ (lb rfl) ⟨lb rfl, lb rfl⟩ (c_in _ _ _ _) ?_
  rintro _ g0 ⟨rfl, hg0⟩
  rw [hg0]
  refine A_if_eq (tgt := 47) dX11_stands_14 rfl (fun h14 => by exact absurd (by decide) (bz_0.mp h14)) (fun h14 => ?_)
  refine A_iload_n dX11_stands_17 rfl 3 rfl ?_
  refine A_i2l dX11_stands_18 ?_
  refine A_lconst (v := 0) dX11_stands_19 rfl ?_
  refine A_aload_n dX11_stands_20 rfl 0 rfl ?_
  refine A_getR (b := 94) dX11_stands_21 fo_RX11_9 L93 rfl ?_
  refine A_iload_n dX11_stands_24 rfl 2 rfl ?_
  refine A_if_ne (tgt := 33) dX11_stands_25 rfl (fun h25 => by exact absurd h25 (by decide)) (fun h25 => ?_)
  refine A_bipush (v := 18) dX11_stands_28 rfl ?_
  refine A_goto (tgt := 35) dX11_stands_30 rfl ?_
  refine A_iload_n dX11_stands_35 rfl 1 rfl ?_
  refine A_iadd dX11_stands_36 ?_
  refine A_iaload (18 + m) dX11_stands_37 L94 (by simp only [lit, nI_add, pk_mul]) (by omega) (lb rfl) ?_
  refine A_topi (nI (s 5 m)) (hC.e5 hm) ?_
  refine A_iconst (v := 1) dX11_stands_38 rfl ?_
  refine A_isub dX11_stands_39 ?_
  refine A_i2l dX11_stands_40 ?_
  refine A_callS (M' := MX11_in) [.long i.toInt64, .long 0, .long (((nI (s 5 m)) - 1).toInt64)] [] dX11_stands_41 lk_RX11_64 oX11_in sX11_in rfl rfl ⟨lb rfl, lb rfl⟩ (lb rfl) ⟨lb rfl, lb rfl⟩ (c_in _ _ _ _) ?_
  rintro _ g0 ⟨rfl, hg0⟩
  rw [hg0]
  refine A_topi (bz (inR i (s 5 m))) (bz_c (in_sz (by have := (w.1.1 m (by omega)).1; omega))) ?_
  refine A_if_ne (tgt := 49) dX11_stands_44 rfl (fun h44 => ?_) (fun h44 => ?_)
  · have h54b := (w.1.1 m (by omega)).1
    obtain ⟨j, hj, ej⟩ := inR_of (by omega) (bz_n0.mp h44)
    refine A_aload_n dX11_stands_49 rfl 0 rfl ?_
    refine A_getR (b := 94) dX11_stands_50 fo_RX11_9 L93 rfl ?_
    refine A_iload_n dX11_stands_53 rfl 2 rfl ?_
    refine A_if_ne (tgt := 62) dX11_stands_54 rfl (fun h54 => by exact absurd h54 (by decide)) (fun h54 => ?_)
    refine A_bipush (v := 21) dX11_stands_57 rfl ?_
    refine A_goto (tgt := 64) dX11_stands_59 rfl ?_
    refine A_iconst (v := 4) dX11_stands_64 rfl ?_
    refine A_iload_n dX11_stands_65 rfl 1 rfl ?_
    refine A_imul dX11_stands_66 ?_
    refine A_iadd dX11_stands_67 ?_
    refine A_iload_n dX11_stands_68 rfl 3 rfl ?_
    refine A_iadd dX11_stands_69 ?_
    refine A_iaload (21 + 4 * m + j) dX11_stands_70 L94 (by rw [ej]; simp only [lit, nI_add, pk_mul]) (by omega) (lb rfl) ?_
    refine A_topi (nI (s (7 + m) j)) (hC.e7 hm (by omega)) ?_
    refine A_iconst (v := 1) dX11_stands_71 rfl ?_
    refine A_isub dX11_stands_72 ?_
    exact A_iret dX11_stands_73 rfl (rti (by unfold stdV; rw [if_pos (bz_n0.mp h44), ej, nI_clamp (by omega)]) rfl)
  · refine A_iconst (v := -1) dX11_stands_47 rfl ?_
    exact A_iret dX11_stands_48 rfl (rti (if_neg (bz_0.mp h44)).symm rfl)
theorem x_standsW (m : Nat) (i : Int32) (f : Mem) (s : Sg) (k p rz lz : Ro) (hC : XC f s k p rz lz) (w : wfC s k p) (hm : m < 3) : C0 MX10_stands [.ref 0, .int (nI m), .int 1, .int i] f (rt (some (.int (stdV s (3 + m) i))) f) := by
  refine Ct.of (lv := [(0, .ref 0), (1, .int (nI m)), (2, .int 1), (3, .int i)]) (by decide) (lb rfl) rfl ?_
  refine A_iload_n dX10_stands_0 rfl 1 rfl ?_
  refine A_callS (M' := MX10_isMonitor) [.int (nI m)] [] dX10_stands_1 lk_RX10_77 oX10_isMonitor sX10_isMonitor rfl rfl ⟨lb rfl, lb rfl⟩ (lb rfl) ⟨lb rfl, lb rfl⟩ (x_isMonitor (nI m) _) ?_
  rintro _ g0 ⟨rfl, hg0⟩
  rw [hg0]
  refine A_if_eq (tgt := 16) dX10_stands_4 rfl (fun h4 => by exact absurd ((inR_nI (by omega)).mpr hm) (bz_0.mp h4)) (fun h4 => ?_)
  refine A_iload_n dX10_stands_7 rfl 2 rfl ?_
  refine A_if_lt (tgt := 16) dX10_stands_8 rfl (fun h8 => absurd h8 (by decide)) (fun h8 => ?_)
  refine A_iload_n dX10_stands_11 rfl 2 rfl ?_
  refine A_iconst (v := 1) dX10_stands_12 rfl ?_
  refine A_icmp_le (tgt := 18) dX10_stands_13 rfl (fun h13 => ?_) (fun h13 => absurd (by decide) h13)
  refine A_iload_n dX10_stands_18 rfl 2 rfl ?_
  refine A_if_ne (tgt := 34) dX10_stands_19 rfl (fun h19 => ?_) (fun h19 => by exact absurd h19 (by decide))
  refine A_aload_n dX10_stands_34 rfl 0 rfl ?_
  refine A_getR (b := 1) dX10_stands_35 fo_RX10_10 L0 rfl ?_
  refine A_getR (b := 12) dX10_stands_38 fo_RX10_192 L1 rfl ?_
  refine A_iload_n dX10_stands_41 rfl 1 rfl ?_
  refine A_iaload m dX10_stands_42 L12 (rfl) (by omega) (lb rfl) ?_
  refine A_topi (pk (s (7 + (3 + m)))) (hC.wa hm) ?_
  refine A_iload_n dX10_stands_43 rfl 3 rfl ?_
  refine A_callS (M' := MX5_at) [.int (pk (s (7 + (3 + m)))), .int i] [] dX10_stands_44 lk_RX10_195 oX5_at sX5_at rfl rfl ⟨lb rfl, lb rfl⟩ (lb rfl) ⟨lb rfl, lb rfl⟩ (c_rowAt (s (7 + (3 + m))) i f (wf4.row w.1.1 (show (3 + m) < 6 by omega)).sm) ?_
  rintro _ g0 ⟨rfl, hg0⟩
  rw [hg0]
  refine A_topi (stdV s (3 + m) i) (std_e (wf4.row w.1.1 (show (3 + m) < 6 by omega)) i) ?_
  refine A_istore (lv' := [(4, .int (stdV s (3 + m) i)), (0, .ref 0), (1, .int (nI m)), (2, .int 1), (3, .int i)]) dX10_stands_47 (lb rfl) rfl ?_
  refine A_iload dX10_stands_49 0 rfl ?_
  refine A_iconst (v := -1) dX10_stands_51 rfl ?_
  refine A_icmp_ne (tgt := 59) dX10_stands_52 rfl (fun h52 => ?_) (fun h52 => ?_)
  · refine A_iload dX10_stands_59 0 rfl ?_
    exact A_iret dX10_stands_61 rfl (rti rfl rfl)
  · refine A_iconst (v := -1) dX10_stands_55 rfl ?_
    refine A_goto (tgt := 61) dX10_stands_56 rfl ?_
    exact A_iret dX10_stands_61 rfl (rti h52.symm rfl)
theorem c_standsW (m : Nat) (i : Int32) (f : Mem) (s : Sg) (k p rz lz : Ro) (hC : RC f s k p rz lz) (w : wfC s k p) (hm : m < 3) : C0 MX11_stands [.ref 93, .int (nI m), .int 1, .int i] f (rt (some (.int (stdV s (3 + m) i))) f) := by
  refine Ct.of (lv := [(0, .ref 93), (1, .int (nI m)), (2, .int 1), (3, .int i)]) (by decide) (lb rfl) rfl ?_
  refine A_iload_n dX11_stands_0 rfl 1 rfl ?_
  refine A_callS (M' := MX11_isMonitor) [.int (nI m)] [] dX11_stands_1 lk_RX11_72 oX11_isMonitor sX11_isMonitor rfl rfl ⟨lb rfl, lb rfl⟩ (lb rfl) ⟨lb rfl, lb rfl⟩ (c_isMonitor (nI m) _) ?_
  rintro _ g0 ⟨rfl, hg0⟩
  rw [hg0]
  refine A_if_eq (tgt := 47) dX11_stands_4 rfl (fun h4 => by exact absurd ((inR_nI (by omega)).mpr hm) (bz_0.mp h4)) (fun h4 => ?_)
  refine A_iload_n dX11_stands_7 rfl 2 rfl ?_
  refine A_i2l dX11_stands_8 ?_
  refine A_lconst (v := 0) dX11_stands_9 rfl ?_
  refine A_lconst (v := 1) dX11_stands_10 rfl ?_
  refine A_callS (M' := MX11_in) [.long ((1 : Int32).toInt64), .long 0, .long 1] [] dX11_stands_11 lk_RX11_64 oX11_in sX11_in rfl rfl ⟨lb rfl, lb rfl⟩ (lb rfl) ⟨lb rfl, lb rfl⟩ (c_in _ _ _ _) ?_
  rintro _ g0 ⟨rfl, hg0⟩
  rw [hg0]
  refine A_if_eq (tgt := 47) dX11_stands_14 rfl (fun h14 => by exact absurd (by decide) (bz_0.mp h14)) (fun h14 => ?_)
  refine A_iload_n dX11_stands_17 rfl 3 rfl ?_
  refine A_i2l dX11_stands_18 ?_
  refine A_lconst (v := 0) dX11_stands_19 rfl ?_
  refine A_aload_n dX11_stands_20 rfl 0 rfl ?_
  refine A_getR (b := 94) dX11_stands_21 fo_RX11_9 L93 rfl ?_
  refine A_iload_n dX11_stands_24 rfl 2 rfl ?_
  refine A_if_ne (tgt := 33) dX11_stands_25 rfl (fun h25 => ?_) (fun h25 => by exact absurd h25 (by decide))
  refine A_bipush (v := 33) dX11_stands_33 rfl ?_
  refine A_iload_n dX11_stands_35 rfl 1 rfl ?_
  refine A_iadd dX11_stands_36 ?_
  refine A_iaload (33 + m) dX11_stands_37 L94 (by simp only [lit, nI_add, pk_mul]) (by omega) (lb rfl) ?_
  refine A_topi (nI (s 5 (3 + m))) (hC.w5 hm) ?_
  refine A_iconst (v := 1) dX11_stands_38 rfl ?_
  refine A_isub dX11_stands_39 ?_
  refine A_i2l dX11_stands_40 ?_
  refine A_callS (M' := MX11_in) [.long i.toInt64, .long 0, .long (((nI (s 5 (3 + m))) - 1).toInt64)] [] dX11_stands_41 lk_RX11_64 oX11_in sX11_in rfl rfl ⟨lb rfl, lb rfl⟩ (lb rfl) ⟨lb rfl, lb rfl⟩ (c_in _ _ _ _) ?_
  rintro _ g0 ⟨rfl, hg0⟩
  rw [hg0]
  refine A_topi (bz (inR i (s 5 (3 + m)))) (bz_c (in_sz (by have := (w.1.1 (3 + m) (by omega)).1; omega))) ?_
  refine A_if_ne (tgt := 49) dX11_stands_44 rfl (fun h44 => ?_) (fun h44 => ?_)
  · have h54b := (w.1.1 (3 + m) (by omega)).1
    obtain ⟨j, hj, ej⟩ := inR_of (by omega) (bz_n0.mp h44)
    refine A_aload_n dX11_stands_49 rfl 0 rfl ?_
    refine A_getR (b := 94) dX11_stands_50 fo_RX11_9 L93 rfl ?_
    refine A_iload_n dX11_stands_53 rfl 2 rfl ?_
    refine A_if_ne (tgt := 62) dX11_stands_54 rfl (fun h54 => ?_) (fun h54 => by exact absurd h54 (by decide))
    refine A_bipush (v := 36) dX11_stands_62 rfl ?_
    refine A_iconst (v := 4) dX11_stands_64 rfl ?_
    refine A_iload_n dX11_stands_65 rfl 1 rfl ?_
    refine A_imul dX11_stands_66 ?_
    refine A_iadd dX11_stands_67 ?_
    refine A_iload_n dX11_stands_68 rfl 3 rfl ?_
    refine A_iadd dX11_stands_69 ?_
    refine A_iaload (36 + 4 * m + j) dX11_stands_70 L94 (by rw [ej]; simp only [lit, nI_add, pk_mul]) (by omega) (lb rfl) ?_
    refine A_topi (nI (s (7 + (3 + m)) j)) (hC.w7 hm (by omega)) ?_
    refine A_iconst (v := 1) dX11_stands_71 rfl ?_
    refine A_isub dX11_stands_72 ?_
    exact A_iret dX11_stands_73 rfl (rti (by unfold stdV; rw [if_pos (bz_n0.mp h44), ej, nI_clamp (by omega)]) rfl)
  · refine A_iconst (v := -1) dX11_stands_47 rfl ?_
    exact A_iret dX11_stands_48 rfl (rti (if_neg (bz_0.mp h44)).symm rfl)
theorem XC_anew {f : Mem} {s : Sg} {k p rz lz : Ro} (hC : XC f s k p rz lz) : XC (dM (frA (u2 f 1 1 (-1)) 1) 1 (zS s) z0) (zS s) z0 p z0 z0 := by
  obtain ⟨a, b, c, d⟩ := hC
  have ho : ∀ a, a ≠ 6 → a ≠ 7 → a ≠ 1 → frA (u2 f 1 1 (-1)) 1 a = f a := fun a a1 a2 a3 => by
    rw [frA, ur_n _ _ a2, ur_n _ _ a1, u2_n _ _ _ a3]
  have h1 : frA (u2 f 1 1 (-1)) 1 1 = upd (f 1) 1 (-1) := by rw [frA, ur_n _ _ (by decide), ur_n _ _ (by decide), u2_s]
  refine ⟨isD_dM .., ⟨?_, fun m hm => ?_, fun t ht => ?_, fun t ht j hj => ?_⟩, ?_, fun t ht => ⟨?_, ?_⟩⟩
  · rw [dM_o _ _ _ _ (by omega), h1, upd_n _ _ (by decide)]; exact b.1
  · rw [dM_o _ _ _ _ (by omega), ho _ (by omega) (by omega) (by omega)]; exact b.2.1 m hm
  · rw [dM_o _ _ _ _ (by omega), ho _ (by omega) (by omega) (by omega)]; exact b.2.2.1 t ht
  · rw [dM_o _ _ _ _ (by omega), ho _ (by omega) (by omega) (by omega)]; exact b.2.2.2 t ht j hj
  · rw [dM_o _ _ _ _ (by omega), h1, upd_s]; rfl
  · rw [dM_o _ _ _ _ (by omega), frA, ur_n _ _ (by decide), show (6 : Nat) = 1 + 5 from rfl, ur_s, cpR, if_pos ht]
  · rw [dM_o _ _ _ _ (by omega), frA, show (7 : Nat) = 1 + 6 from rfl, ur_s, cpR, if_pos ht]
theorem x_restart (f : Mem) (s : Sg) (k p rz lz : Ro) (hC : XC f s k p rz lz) (w : wfC s k p) : C0 MX10_restart [.ref 0] f (fun r h => r = some (.int (nI (s 13 0))) ∧ XC h (zS s) z0 p z0 z0 ∧ fC f h) := by
  have hC1 : XC (u2 f 55 0 0) s k p rz lz := hC.congr (fun a a1 a2 => u2_n _ _ _ (by omega))
  have hX := XC_anew hC1
  have hS := x_startAgain (u2 f 55 0 0) 1 s k (.inl rfl)
  rw [hC1.1.eq] at hS
  refine Ct.of (lv := [(0, .ref 0)]) (by decide) (lb rfl) rfl ?_
  refine A_aload_n dX10_restart_0 rfl 0 rfl ?_
  refine A_getR (b := 55) dX10_restart_1 fo_RX10_52 L0 rfl ?_
  refine A_callV (M' := MX6_forget) [] [] 55 dX10_restart_4 lk_RX10_67 oX6_forget iX6_forget rfl rfl ⟨lb rfl, lb rfl⟩ (lb rfl) ⟨lb rfl, lb rfl⟩ L55 rfl (x_forget _) ?_
  rintro _ _ ⟨rfl, rfl⟩
  refine A_aload_n dX10_restart_7 rfl 0 rfl ?_
  refine A_getR (b := 1) dX10_restart_8 fo_RX10_10 L0 rfl ?_
  refine A_callV (M' := MX1_startAgain) [] [] 1 dX10_restart_11 lk_RX10_74 oX1_startAgain iX1_startAgain rfl rfl ⟨lb rfl, lb rfl⟩ (lb rfl) ⟨lb rfl, lb rfl⟩ L1 rfl (hS) ?_
  rintro _ h ⟨rfl, hh⟩
  refine A_aload_n dX10_restart_14 rfl 0 rfl ?_
  refine A_getR (b := 1) dX10_restart_15 fo_RX10_10 L0 rfl ?_
  refine A_getI dX10_restart_18 fo_RX10_63 L1 rfl ?_
  refine A_topi (nI (s 13 0)) (by rw [hh]; exact hX.n) ?_
  exact A_iret dX10_restart_21 rfl (⟨rfl, by rw [hh]; exact hX, by rw [hh, dM_o _ _ _ _ (by omega), frA, ur_n _ _ (by decide), ur_n _ _ (by decide), u2_n _ _ _ (by decide), u2_s, upd_s], fun b b1 b2 => by rw [hh, dM_o _ _ _ _ (by omega), frA, ur_n _ _ (by omega), ur_n _ _ (by omega), u2_n _ _ _ (by omega), u2_n _ _ _ b2]⟩)
