/-! gate, told, statement -/
theorem sw_5 (y : Int32) : y = 0 ∨ y = 1 ∨ y = 2 ∨ y = 3 ∨ y = 4 ∨ (y.toInt < 0 ∨ 4 < y.toInt) := by
  by_cases h : inR y 5
  · obtain ⟨j, hj, e⟩ := inR_of (by decide) h
    match j, hj with
    | 0, _ => exact .inl e
    | 1, _ => exact .inr (.inl e)
    | 2, _ => exact .inr (.inr (.inl e))
    | 3, _ => exact .inr (.inr (.inr (.inl e)))
    | 4, _ => exact .inr (.inr (.inr (.inr (.inl e))))
  · exact .inr (.inr (.inr (.inr (.inr (by unfold inR at h; omega)))))
theorem sw_6 (y : Int32) : y = 0 ∨ y = 1 ∨ y = 2 ∨ y = 3 ∨ y = 4 ∨ y = 5 ∨ (y.toInt < 0 ∨ 5 < y.toInt) := by
  by_cases h : inR y 6
  · obtain ⟨j, hj, e⟩ := inR_of (by decide) h
    match j, hj with
    | 0, _ => exact .inl e
    | 1, _ => exact .inr (.inl e)
    | 2, _ => exact .inr (.inr (.inl e))
    | 3, _ => exact .inr (.inr (.inr (.inl e)))
    | 4, _ => exact .inr (.inr (.inr (.inr (.inl e))))
    | 5, _ => exact .inr (.inr (.inr (.inr (.inr (.inl e)))))
  · exact .inr (.inr (.inr (.inr (.inr (.inr (by unfold inR at h; omega))))))
theorem sw_7 (y : Int32) : y = 0 ∨ y = 1 ∨ y = 2 ∨ y = 3 ∨ y = 4 ∨ y = 5 ∨ y = 6 ∨ (y.toInt < 0 ∨ 6 < y.toInt) := by
  by_cases h : inR y 7
  · obtain ⟨j, hj, e⟩ := inR_of (by decide) h
    match j, hj with
    | 0, _ => exact .inl e
    | 1, _ => exact .inr (.inl e)
    | 2, _ => exact .inr (.inr (.inl e))
    | 3, _ => exact .inr (.inr (.inr (.inl e)))
    | 4, _ => exact .inr (.inr (.inr (.inr (.inl e))))
    | 5, _ => exact .inr (.inr (.inr (.inr (.inr (.inl e)))))
    | 6, _ => exact .inr (.inr (.inr (.inr (.inr (.inr (.inl e))))))
  · exact .inr (.inr (.inr (.inr (.inr (.inr (.inr (by unfold inR at h; omega)))))))
abbrev gatV (s : Sg) (m : Nat) (y : Int32) : Int32 := if y = 0 then (if s 3 m = 0 then -5 else nI (s 3 m) - 1) else if y = 1 then nI (s 4 m) else if y = 2 then nI (s 5 m) else if y = 3 then nI (s 5 (3 + m)) else if y = 4 then nI (s 14 m) else -1
theorem XC.ow {f : Mem} {s : Sg} {k p rz lz : Ro} (h : XC f s k p rz lz) {m : Nat} (hm : m < 3) : f 9 m = nI (s 3 m) - 1 := by
  rw [show (9 : Nat) = 1 + 8 from rfl, h.1.2.2.2.1]; simp [rO, hm]
theorem XC.co {f : Mem} {s : Sg} {k p rz lz : Ro} (h : XC f s k p rz lz) {m : Nat} (hm : m < 3) : f 10 m = nI (s 4 m) := by
  rw [show (10 : Nat) = 1 + 9 from rfl, h.1.2.2.2.2.1]; simp [r3, hm]
theorem XC.en {f : Mem} {s : Sg} {k p rz lz : Ro} (h : XC f s k p rz lz) {m : Nat} (hm : m < 3) : f 11 m = pk (s (7 + m)) := by
  rw [show (11 : Nat) = 1 + 10 from rfl, h.1.2.2.2.2.2.1]; simp [rE, hm]
theorem XC.wa {f : Mem} {s : Sg} {k p rz lz : Ro} (h : XC f s k p rz lz) {m : Nat} (hm : m < 3) : f 12 m = pk (s (7 + (3 + m))) := by
  rw [show (12 : Nat) = 1 + 11 from rfl, h.1.2.2.2.2.2.2.1]; simp [rW, hm]
theorem RC.co {f : Mem} {s : Sg} {k p rz lz : Ro} (h : RC f s k p rz lz) {m : Nat} (hm : m < 3) : f 94 (15 + m) = nI (s 4 m) := (h.1 _ (by omega)).trans ((gF_lo (by omega)).trans (flat_4 _ _ hm))
theorem n01 {y : Nat} (hy : y ≤ 1) : nI y = 0 ∨ nI y = 1 := by
  rcases (show y = 0 ∨ y = 1 by omega) with e | e <;> rw [e]
  · exact .inl rfl
  · exact .inr rfl
theorem x_gate1 (x y : Int32) (f : Mem) (hx : ¬ inR x 3) : C0 MX10_gate [.ref 0, .int x, .int y] f (rt (some (.int (-1))) f) := by
  refine Ct.of (lv := [(0, .ref 0), (1, .int x), (2, .int y)]) (by decide) (lb rfl) rfl ?_
  refine A_iload_n dX10_gate_0 rfl 1 rfl ?_
  refine A_callS (M' := MX10_isMonitor) [.int x] [] dX10_gate_1 lk_RX10_77 oX10_isMonitor sX10_isMonitor rfl rfl ⟨lb rfl, lb rfl⟩ (lb rfl) ⟨lb rfl, lb rfl⟩ (x_isMonitor x _) ?_
  rintro _ g0 ⟨rfl, hg0⟩
  rw [hg0]
  refine A_if_ne (tgt := 9) dX10_gate_4 rfl (fun h4 => by exact absurd (bz_n0.mp h4) hx) (fun h4 => ?_)
  refine A_iconst (v := -1) dX10_gate_7 rfl ?_
  exact A_iret dX10_gate_8 rfl (⟨rfl, rfl⟩)
theorem c_gate1 (x y : Int32) (f : Mem) (hx : ¬ inR x 3) : C0 MX11_gate [.ref 93, .int x, .int y] f (rt (some (.int (-1))) f) := by
  refine Ct.of (lv := [(0, .ref 93), (1, .int x), (2, .int y)]) (by decide) (lb rfl) rfl ?_
  refine A_iload_n dX11_gate_0 rfl 1 rfl ?_
  refine A_callS (M' := MX11_isMonitor) [.int x] [] dX11_gate_1 lk_RX11_72 oX11_isMonitor sX11_isMonitor rfl rfl ⟨lb rfl, lb rfl⟩ (lb rfl) ⟨lb rfl, lb rfl⟩ (c_isMonitor x _) ?_
  rintro _ g0 ⟨rfl, hg0⟩
  rw [hg0]
  refine A_if_ne (tgt := 9) dX11_gate_4 rfl (fun h4 => by exact absurd (bz_n0.mp h4) hx) (fun h4 => ?_)
  refine A_iconst (v := -1) dX11_gate_7 rfl ?_
  exact A_iret dX11_gate_8 rfl (⟨rfl, rfl⟩)
theorem x_gate (m : Nat) (y : Int32) (f : Mem) (s : Sg) (k p rz lz : Ro) (hC : XC f s k p rz lz) (w : wfC s k p) (hm : m < 3) : C0 MX10_gate [.ref 0, .int (nI m), .int y] f (rt (some (.int (gatV s m y))) f) := by
  refine Ct.of (lv := [(0, .ref 0), (1, .int (nI m)), (2, .int y)]) (by decide) (lb rfl) rfl ?_
  refine A_iload_n dX10_gate_0 rfl 1 rfl ?_
  refine A_callS (M' := MX10_isMonitor) [.int (nI m)] [] dX10_gate_1 lk_RX10_77 oX10_isMonitor sX10_isMonitor rfl rfl ⟨lb rfl, lb rfl⟩ (lb rfl) ⟨lb rfl, lb rfl⟩ (x_isMonitor (nI m) _) ?_
  rintro _ g0 ⟨rfl, hg0⟩
  rw [hg0]
  refine A_if_ne (tgt := 9) dX10_gate_4 rfl (fun h4 => ?_) (fun h4 => by exact absurd ((inR_nI (by omega)).mpr hm) (bz_0.mp h4))
  refine A_iload_n dX10_gate_9 rfl 2 rfl ?_
  rcases sw_5 y with esw | esw | esw | esw | esw | esw
  · refine A_tabIn (off := 34) (tgt := 44) dX10_gate_10 (by rw [esw]; decide) (by rw [esw]; decide) (by rw [esw]; rfl) rfl ?_
    refine A_aload_n dX10_gate_44 rfl 0 rfl ?_
    refine A_getR (b := 1) dX10_gate_45 fo_RX10_10 L0 rfl ?_
    refine A_getR (b := 9) dX10_gate_48 fo_RX10_178 L1 rfl ?_
    refine A_iload_n dX10_gate_51 rfl 1 rfl ?_
    refine A_iaload m dX10_gate_52 L9 (rfl) (by omega) (lb rfl) ?_
    refine A_topi (nI (s 3 m) - 1) (hC.ow hm) ?_
    refine A_iconst (v := -1) dX10_gate_53 rfl ?_
    refine A_icmp_ne (tgt := 62) dX10_gate_54 rfl (fun h54 => ?_) (fun h54 => ?_)
    · rw [ow_n (w.1.2.2.2.2 m hm).1] at h54
      refine A_aload_n dX10_gate_62 rfl 0 rfl ?_
      refine A_getR (b := 1) dX10_gate_63 fo_RX10_10 L0 rfl ?_
      refine A_getR (b := 9) dX10_gate_66 fo_RX10_178 L1 rfl ?_
      refine A_iload_n dX10_gate_69 rfl 1 rfl ?_
      refine A_iaload m dX10_gate_70 L9 (rfl) (by omega) (lb rfl) ?_
      refine A_topi (nI (s 3 m) - 1) (hC.ow hm) ?_
      exact A_iret dX10_gate_71 rfl (rti (by unfold gatV; rw [if_pos esw, if_neg h54]) rfl)
    · rw [ow_n (w.1.2.2.2.2 m hm).1] at h54
      refine A_bipush (v := -5) dX10_gate_57 rfl ?_
      refine A_goto (tgt := 71) dX10_gate_59 rfl ?_
      exact A_iret dX10_gate_71 rfl (rti (by unfold gatV; rw [if_pos esw, if_pos h54]) rfl)
  · refine A_tabIn (off := 62) (tgt := 72) dX10_gate_10 (by rw [esw]; decide) (by rw [esw]; decide) (by rw [esw]; rfl) rfl ?_
    refine A_aload_n dX10_gate_72 rfl 0 rfl ?_
    refine A_getR (b := 1) dX10_gate_73 fo_RX10_10 L0 rfl ?_
    refine A_getR (b := 10) dX10_gate_76 fo_RX10_181 L1 rfl ?_
    refine A_iload_n dX10_gate_79 rfl 1 rfl ?_
    refine A_iaload m dX10_gate_80 L10 (rfl) (by omega) (lb rfl) ?_
    refine A_topi (nI (s 4 m)) (hC.co hm) ?_
    exact A_iret dX10_gate_81 rfl (rti (by unfold gatV; rw [if_neg (show ¬ y = 0 from fun e => by rw [e] at esw; revert esw; decide), if_pos esw]) rfl)
  · refine A_tabIn (off := 72) (tgt := 82) dX10_gate_10 (by rw [esw]; decide) (by rw [esw]; decide) (by rw [esw]; rfl) rfl ?_
    refine A_aload_n dX10_gate_82 rfl 0 rfl ?_
    refine A_getR (b := 1) dX10_gate_83 fo_RX10_10 L0 rfl ?_
    refine A_getR (b := 11) dX10_gate_86 fo_RX10_184 L1 rfl ?_
    refine A_iload_n dX10_gate_89 rfl 1 rfl ?_
    refine A_iaload m dX10_gate_90 L11 (rfl) (by omega) (lb rfl) ?_
    refine A_topi (pk (s (7 + m))) (hC.en hm) ?_
    refine A_callS (M' := MX5_length) [.int (pk (s (7 + m)))] [] dX10_gate_91 lk_RX10_187 oX5_length sX5_length rfl rfl ⟨lb rfl, lb rfl⟩ (lb rfl) ⟨lb rfl, lb rfl⟩ (c_rowLen (s (7 + m)) (s 5 m) f (wf4.row w.1.1 (show m < 6 by omega))) ?_
    rintro _ g0 ⟨rfl, hg0⟩
    rw [hg0]
    exact A_iret dX10_gate_94 rfl (rti (by unfold gatV; rw [if_neg (show ¬ y = 0 from fun e => by rw [e] at esw; revert esw; decide), if_neg (show ¬ y = 1 from fun e => by rw [e] at esw; revert esw; decide), if_pos esw]) rfl)
  · refine A_tabIn (off := 85) (tgt := 95) dX10_gate_10 (by rw [esw]; decide) (by rw [esw]; decide) (by rw [esw]; rfl) rfl ?_
    refine A_aload_n dX10_gate_95 rfl 0 rfl ?_
    refine A_getR (b := 1) dX10_gate_96 fo_RX10_10 L0 rfl ?_
    refine A_getR (b := 12) dX10_gate_99 fo_RX10_192 L1 rfl ?_
    refine A_iload_n dX10_gate_102 rfl 1 rfl ?_
    refine A_iaload m dX10_gate_103 L12 (rfl) (by omega) (lb rfl) ?_
    refine A_topi (pk (s (7 + (3 + m)))) (hC.wa hm) ?_
    refine A_callS (M' := MX5_length) [.int (pk (s (7 + (3 + m))))] [] dX10_gate_104 lk_RX10_187 oX5_length sX5_length rfl rfl ⟨lb rfl, lb rfl⟩ (lb rfl) ⟨lb rfl, lb rfl⟩ (c_rowLen (s (7 + (3 + m))) (s 5 (3 + m)) f (wf4.row w.1.1 (show (3 + m) < 6 by omega))) ?_
    rintro _ g0 ⟨rfl, hg0⟩
    rw [hg0]
    exact A_iret dX10_gate_107 rfl (rti (by unfold gatV; rw [if_neg (show ¬ y = 0 from fun e => by rw [e] at esw; revert esw; decide), if_neg (show ¬ y = 1 from fun e => by rw [e] at esw; revert esw; decide), if_neg (show ¬ y = 2 from fun e => by rw [e] at esw; revert esw; decide), if_pos esw]) rfl)
  · refine A_tabIn (off := 98) (tgt := 108) dX10_gate_10 (by rw [esw]; decide) (by rw [esw]; decide) (by rw [esw]; rfl) rfl ?_
    refine A_aload_n dX10_gate_108 rfl 0 rfl ?_
    refine A_getR (b := 1) dX10_gate_109 fo_RX10_10 L0 rfl ?_
    refine A_getR (b := 8) dX10_gate_112 fo_RX10_84 L1 rfl ?_
    refine A_iload_n dX10_gate_115 rfl 1 rfl ?_
    refine A_zaload m dX10_gate_116 L8 (rfl) (by omega) (lb rfl) ?_
    refine A_topi (nI (s 14 m)) (hC.2.1.2.1 m hm) ?_
    refine A_callS (M' := MX10_asNumber) [.int (nI (s 14 m))] [] dX10_gate_117 lk_RX10_88 oX10_asNumber sX10_asNumber rfl rfl ⟨lb rfl, lb rfl⟩ (lb rfl) ⟨lb rfl, lb rfl⟩ (x_asNumber _ _ (n01 (w.2.2.2.1 m hm))) ?_
    rintro _ g0 ⟨rfl, hg0⟩
    rw [hg0]
    exact A_iret dX10_gate_120 rfl (rti (by unfold gatV; rw [if_neg (show ¬ y = 0 from fun e => by rw [e] at esw; revert esw; decide), if_neg (show ¬ y = 1 from fun e => by rw [e] at esw; revert esw; decide), if_neg (show ¬ y = 2 from fun e => by rw [e] at esw; revert esw; decide), if_neg (show ¬ y = 3 from fun e => by rw [e] at esw; revert esw; decide), if_pos esw]) rfl)
  · refine A_tabOut (tgt := 121) dX10_gate_10 esw rfl ?_
    refine A_iconst (v := -1) dX10_gate_121 rfl ?_
    exact A_iret dX10_gate_122 rfl (rti (by unfold gatV; rw [if_neg (show ¬ y = 0 from fun e => by rw [e] at esw; revert esw; decide), if_neg (show ¬ y = 1 from fun e => by rw [e] at esw; revert esw; decide), if_neg (show ¬ y = 2 from fun e => by rw [e] at esw; revert esw; decide), if_neg (show ¬ y = 3 from fun e => by rw [e] at esw; revert esw; decide), if_neg (show ¬ y = 4 from fun e => by rw [e] at esw; revert esw; decide)]) rfl)
theorem c_gate (m : Nat) (y : Int32) (f : Mem) (s : Sg) (k p rz lz : Ro) (hC : RC f s k p rz lz) (w : wfC s k p) (hm : m < 3) : C0 MX11_gate [.ref 93, .int (nI m), .int y] f (rt (some (.int (gatV s m y))) f) := by
  refine Ct.of (lv := [(0, .ref 93), (1, .int (nI m)), (2, .int y)]) (by decide) (lb rfl) rfl ?_
  refine A_iload_n dX11_gate_0 rfl 1 rfl ?_
  refine A_callS (M' := MX11_isMonitor) [.int (nI m)] [] dX11_gate_1 lk_RX11_72 oX11_isMonitor sX11_isMonitor rfl rfl ⟨lb rfl, lb rfl⟩ (lb rfl) ⟨lb rfl, lb rfl⟩ (c_isMonitor (nI m) _) ?_
  rintro _ g0 ⟨rfl, hg0⟩
  rw [hg0]
  refine A_if_ne (tgt := 9) dX11_gate_4 rfl (fun h4 => ?_) (fun h4 => by exact absurd ((inR_nI (by omega)).mpr hm) (bz_0.mp h4))
  refine A_iload_n dX11_gate_9 rfl 2 rfl ?_
  rcases sw_5 y with esw | esw | esw | esw | esw | esw
  · refine A_tabIn (off := 34) (tgt := 44) dX11_gate_10 (by rw [esw]; decide) (by rw [esw]; decide) (by rw [esw]; rfl) rfl ?_
    refine A_aload_n dX11_gate_44 rfl 0 rfl ?_
    refine A_getR (b := 94) dX11_gate_45 fo_RX11_9 L93 rfl ?_
    refine A_bipush (v := 12) dX11_gate_48 rfl ?_
    refine A_iload_n dX11_gate_50 rfl 1 rfl ?_
    refine A_iadd dX11_gate_51 ?_
    refine A_iaload (12 + m) dX11_gate_52 L94 (by simp only [lit, nI_add, pk_mul]) (by omega) (lb rfl) ?_
    refine A_topi (nI (s 3 m)) (hC.ow hm) ?_
    refine A_if_ne (tgt := 61) dX11_gate_53 rfl (fun h53 => ?_) (fun h53 => ?_)
    · rw [nI_z (by have := (w.1.2.2.2.2 m hm).1; omega)] at h53
      refine A_aload_n dX11_gate_61 rfl 0 rfl ?_
      refine A_getR (b := 94) dX11_gate_62 fo_RX11_9 L93 rfl ?_
      refine A_bipush (v := 12) dX11_gate_65 rfl ?_
      refine A_iload_n dX11_gate_67 rfl 1 rfl ?_
      refine A_iadd dX11_gate_68 ?_
      refine A_iaload (12 + m) dX11_gate_69 L94 (by simp only [lit, nI_add, pk_mul]) (by omega) (lb rfl) ?_
      refine A_topi (nI (s 3 m)) (hC.ow hm) ?_
      refine A_iconst (v := 1) dX11_gate_70 rfl ?_
      refine A_isub dX11_gate_71 ?_
      exact A_iret dX11_gate_72 rfl (rti (by unfold gatV; rw [if_pos esw, if_neg h53]) rfl)
    · rw [nI_z (by have := (w.1.2.2.2.2 m hm).1; omega)] at h53
      refine A_bipush (v := -5) dX11_gate_56 rfl ?_
      refine A_goto (tgt := 72) dX11_gate_58 rfl ?_
      exact A_iret dX11_gate_72 rfl (rti (by unfold gatV; rw [if_pos esw, if_pos h53]) rfl)
  · refine A_tabIn (off := 63) (tgt := 73) dX11_gate_10 (by rw [esw]; decide) (by rw [esw]; decide) (by rw [esw]; rfl) rfl ?_
    refine A_aload_n dX11_gate_73 rfl 0 rfl ?_
    refine A_getR (b := 94) dX11_gate_74 fo_RX11_9 L93 rfl ?_
    refine A_bipush (v := 15) dX11_gate_77 rfl ?_
    refine A_iload_n dX11_gate_79 rfl 1 rfl ?_
    refine A_iadd dX11_gate_80 ?_
    refine A_iaload (15 + m) dX11_gate_81 L94 (by simp only [lit, nI_add, pk_mul]) (by omega) (lb rfl) ?_
    refine A_topi (nI (s 4 m)) (hC.co hm) ?_
    exact A_iret dX11_gate_82 rfl (rti (by unfold gatV; rw [if_neg (show ¬ y = 0 from fun e => by rw [e] at esw; revert esw; decide), if_pos esw]) rfl)
  · refine A_tabIn (off := 73) (tgt := 83) dX11_gate_10 (by rw [esw]; decide) (by rw [esw]; decide) (by rw [esw]; rfl) rfl ?_
    refine A_aload_n dX11_gate_83 rfl 0 rfl ?_
    refine A_getR (b := 94) dX11_gate_84 fo_RX11_9 L93 rfl ?_
    refine A_bipush (v := 18) dX11_gate_87 rfl ?_
    refine A_iload_n dX11_gate_89 rfl 1 rfl ?_
    refine A_iadd dX11_gate_90 ?_
    refine A_iaload (18 + m) dX11_gate_91 L94 (by simp only [lit, nI_add, pk_mul]) (by omega) (lb rfl) ?_
    refine A_topi (nI (s 5 m)) (hC.e5 hm) ?_
    exact A_iret dX11_gate_92 rfl (rti (by unfold gatV; rw [if_neg (show ¬ y = 0 from fun e => by rw [e] at esw; revert esw; decide), if_neg (show ¬ y = 1 from fun e => by rw [e] at esw; revert esw; decide), if_pos esw]) rfl)
  · refine A_tabIn (off := 83) (tgt := 93) dX11_gate_10 (by rw [esw]; decide) (by rw [esw]; decide) (by rw [esw]; rfl) rfl ?_
    refine A_aload_n dX11_gate_93 rfl 0 rfl ?_
    refine A_getR (b := 94) dX11_gate_94 fo_RX11_9 L93 rfl ?_
    refine A_bipush (v := 33) dX11_gate_97 rfl ?_
    refine A_iload_n dX11_gate_99 rfl 1 rfl ?_
    refine A_iadd dX11_gate_100 ?_
    refine A_iaload (33 + m) dX11_gate_101 L94 (by simp only [lit, nI_add, pk_mul]) (by omega) (lb rfl) ?_
    refine A_topi (nI (s 5 (3 + m))) (hC.w5 hm) ?_
    exact A_iret dX11_gate_102 rfl (rti (by unfold gatV; rw [if_neg (show ¬ y = 0 from fun e => by rw [e] at esw; revert esw; decide), if_neg (show ¬ y = 1 from fun e => by rw [e] at esw; revert esw; decide), if_neg (show ¬ y = 2 from fun e => by rw [e] at esw; revert esw; decide), if_pos esw]) rfl)
  · refine A_tabIn (off := 93) (tgt := 103) dX11_gate_10 (by rw [esw]; decide) (by rw [esw]; decide) (by rw [esw]; rfl) rfl ?_
    refine A_aload_n dX11_gate_103 rfl 0 rfl ?_
    refine A_getR (b := 94) dX11_gate_104 fo_RX11_9 L93 rfl ?_
    refine A_bipush (v := 53) dX11_gate_107 rfl ?_
    refine A_iload_n dX11_gate_109 rfl 1 rfl ?_
    refine A_iadd dX11_gate_110 ?_
    refine A_iaload (53 + m) dX11_gate_111 L94 (by simp only [lit, nI_add, pk_mul]) (by omega) (lb rfl) ?_
    refine A_topi (nI (s 14 m)) (hC.mi hm) ?_
    exact A_iret dX11_gate_112 rfl (rti (by unfold gatV; rw [if_neg (show ¬ y = 0 from fun e => by rw [e] at esw; revert esw; decide), if_neg (show ¬ y = 1 from fun e => by rw [e] at esw; revert esw; decide), if_neg (show ¬ y = 2 from fun e => by rw [e] at esw; revert esw; decide), if_neg (show ¬ y = 3 from fun e => by rw [e] at esw; revert esw; decide), if_pos esw]) rfl)
  · refine A_tabOut (tgt := 113) dX11_gate_10 esw rfl ?_
    refine A_iconst (v := -1) dX11_gate_113 rfl ?_
    exact A_iret dX11_gate_114 rfl (rti (by unfold gatV; rw [if_neg (show ¬ y = 0 from fun e => by rw [e] at esw; revert esw; decide), if_neg (show ¬ y = 1 from fun e => by rw [e] at esw; revert esw; decide), if_neg (show ¬ y = 2 from fun e => by rw [e] at esw; revert esw; decide), if_neg (show ¬ y = 3 from fun e => by rw [e] at esw; revert esw; decide), if_neg (show ¬ y = 4 from fun e => by rw [e] at esw; revert esw; decide)]) rfl)
abbrev tolV (s : Sg) (tn cn : Nat) (y : Int32) : Int32 := if y = 0 then nI (s 13 0) else if y = 1 then nI tn else if y = 2 then nI cn else if y = 3 then bz (stickP s (s 13 0)) else if y = 4 then bz (overP s (s 13 0)) else if y = 5 then lat5 (s 15 0) else -1
theorem XC.sk {f : Mem} {s : Sg} {k p rz lz : Ro} (h : XC f s k p rz lz) (w : wfC s k p) : C0 MX1_sticks [.ref 1] f (rt (some (.int (bz (stickP s (s 13 0))))) f) := by
  have e := x_sticks f 1 s k (.inl rfl) (n := s 13 0) h.2.1.1 w.2.2.2.2.1
  rw [h.1.eq] at e
  exact e
theorem XC.ov {f : Mem} {s : Sg} {k p rz lz : Ro} (h : XC f s k p rz lz) (w : wfC s k p) : C0 MX1_isOver [.ref 1] f (rt (some (.int (bz (overP s (s 13 0))))) f) := by
  have e := x_isOver f 1 s k (.inl rfl) (n := s 13 0) h.2.1.1 w.2.2.2.2.1
  rw [h.1.eq] at e
  exact e
theorem x_told (y : Int32) (f : Mem) (s : Sg) (k p rz lz : Ro) (hC : XC f s k p rz lz) (w : wfC s k p) (tn : Nat) (tb : Nat → Nat) (hT : XTp f tn tb) (cn : Nat) (cs ch : Nat → Nat) (cv : Ro) (hN : XNc f cn cs ch cv) : C0 MX10_told [.ref 0, .int y] f (rt (some (.int (tolV s tn cn y))) f) := by
  refine Ct.of (lv := [(0, .ref 0), (1, .int y)]) (by decide) (lb rfl) rfl ?_
  refine A_iload_n dX10_told_0 rfl 1 rfl ?_
  rcases sw_6 y with esw | esw | esw | esw | esw | esw | esw
  · refine A_tabIn (off := 39) (tgt := 40) dX10_told_1 (by rw [esw]; decide) (by rw [esw]; decide) (by rw [esw]; rfl) rfl ?_
    refine A_aload_n dX10_told_40 rfl 0 rfl ?_
    refine A_getR (b := 1) dX10_told_41 fo_RX10_10 L0 rfl ?_
    refine A_getI dX10_told_44 fo_RX10_63 L1 rfl ?_
    refine A_topi (nI (s 13 0)) (hC.n) ?_
    exact A_iret dX10_told_47 rfl (rti (by unfold tolV; rw [if_pos esw]) rfl)
  · refine A_tabIn (off := 47) (tgt := 48) dX10_told_1 (by rw [esw]; decide) (by rw [esw]; decide) (by rw [esw]; rfl) rfl ?_
    refine A_aload_n dX10_told_48 rfl 0 rfl ?_
    refine A_getR (b := 44) dX10_told_49 fo_RX10_34 L0 rfl ?_
    refine A_getI dX10_told_52 fo_RX10_102 L44 rfl ?_
    refine A_topi (nI tn) (hT.1) ?_
    exact A_iret dX10_told_55 rfl (rti (by unfold tolV; rw [if_neg (show ¬ y = 0 from fun e => by rw [e] at esw; revert esw; decide), if_pos esw]) rfl)
  · refine A_tabIn (off := 55) (tgt := 56) dX10_told_1 (by rw [esw]; decide) (by rw [esw]; decide) (by rw [esw]; rfl) rfl ?_
    refine A_aload_n dX10_told_56 rfl 0 rfl ?_
    refine A_getR (b := 51) dX10_told_57 fo_RX10_45 L0 rfl ?_
    refine A_getI dX10_told_60 fo_RX10_201 L51 rfl ?_
    refine A_topi (nI cn) (hN.1) ?_
    exact A_iret dX10_told_63 rfl (rti (by unfold tolV; rw [if_neg (show ¬ y = 0 from fun e => by rw [e] at esw; revert esw; decide), if_neg (show ¬ y = 1 from fun e => by rw [e] at esw; revert esw; decide), if_pos esw]) rfl)
  · refine A_tabIn (off := 63) (tgt := 64) dX10_told_1 (by rw [esw]; decide) (by rw [esw]; decide) (by rw [esw]; rfl) rfl ?_
    refine A_aload_n dX10_told_64 rfl 0 rfl ?_
    refine A_getR (b := 1) dX10_told_65 fo_RX10_10 L0 rfl ?_
    refine A_callV (M' := MX1_sticks) [] [] 1 dX10_told_68 lk_RX10_202 oX1_sticks iX1_sticks rfl rfl ⟨lb rfl, lb rfl⟩ (lb rfl) ⟨lb rfl, lb rfl⟩ L1 rfl (hC.sk w) ?_
    rintro _ g0 ⟨rfl, hg0⟩
    rw [hg0]
    refine A_callS (M' := MX10_asNumber) [.int (bz (stickP s (s 13 0)))] [] dX10_told_71 lk_RX10_88 oX10_asNumber sX10_asNumber rfl rfl ⟨lb rfl, lb rfl⟩ (lb rfl) ⟨lb rfl, lb rfl⟩ (x_asNumber (bz (stickP s (s 13 0))) _ (bz_01 _)) ?_
    rintro _ g0 ⟨rfl, hg0⟩
    rw [hg0]
    exact A_iret dX10_told_74 rfl (rti (by unfold tolV; rw [if_neg (show ¬ y = 0 from fun e => by rw [e] at esw; revert esw; decide), if_neg (show ¬ y = 1 from fun e => by rw [e] at esw; revert esw; decide), if_neg (show ¬ y = 2 from fun e => by rw [e] at esw; revert esw; decide), if_pos esw]) rfl)
  · refine A_tabIn (off := 74) (tgt := 75) dX10_told_1 (by rw [esw]; decide) (by rw [esw]; decide) (by rw [esw]; rfl) rfl ?_
    refine A_aload_n dX10_told_75 rfl 0 rfl ?_
    refine A_getR (b := 1) dX10_told_76 fo_RX10_10 L0 rfl ?_
    refine A_callV (M' := MX1_isOver) [] [] 1 dX10_told_79 lk_RX10_206 oX1_isOver iX1_isOver rfl rfl ⟨lb rfl, lb rfl⟩ (lb rfl) ⟨lb rfl, lb rfl⟩ L1 rfl (hC.ov w) ?_
    rintro _ g0 ⟨rfl, hg0⟩
    rw [hg0]
    refine A_callS (M' := MX10_asNumber) [.int (bz (overP s (s 13 0)))] [] dX10_told_82 lk_RX10_88 oX10_asNumber sX10_asNumber rfl rfl ⟨lb rfl, lb rfl⟩ (lb rfl) ⟨lb rfl, lb rfl⟩ (x_asNumber (bz (overP s (s 13 0))) _ (bz_01 _)) ?_
    rintro _ g0 ⟨rfl, hg0⟩
    rw [hg0]
    exact A_iret dX10_told_85 rfl (rti (by unfold tolV; rw [if_neg (show ¬ y = 0 from fun e => by rw [e] at esw; revert esw; decide), if_neg (show ¬ y = 1 from fun e => by rw [e] at esw; revert esw; decide), if_neg (show ¬ y = 2 from fun e => by rw [e] at esw; revert esw; decide), if_neg (show ¬ y = 3 from fun e => by rw [e] at esw; revert esw; decide), if_pos esw]) rfl)
  · refine A_tabIn (off := 85) (tgt := 86) dX10_told_1 (by rw [esw]; decide) (by rw [esw]; decide) (by rw [esw]; rfl) rfl ?_
    refine A_aload_n dX10_told_86 rfl 0 rfl ?_
    refine A_getR (b := 1) dX10_told_87 fo_RX10_10 L0 rfl ?_
    refine A_getI dX10_told_90 fo_RX10_209 L1 rfl ?_
    refine A_topi (nI (s 15 0) - 1) (hC.2.2.1) ?_
    refine A_iconst (v := -1) dX10_told_93 rfl ?_
    refine A_icmp_ne (tgt := 102) dX10_told_94 rfl (fun h94 => ?_) (fun h94 => ?_)
    · rw [ow_n (by have := w.2.2.2.2.1; have := w.2.2.2.2.2.1; omega)] at h94
      refine A_aload_n dX10_told_102 rfl 0 rfl ?_
      refine A_getR (b := 1) dX10_told_103 fo_RX10_10 L0 rfl ?_
      refine A_getI dX10_told_106 fo_RX10_209 L1 rfl ?_
      refine A_topi (nI (s 15 0) - 1) (hC.2.2.1) ?_
      exact A_iret dX10_told_109 rfl (rti (by unfold tolV lat5; rw [if_neg (show ¬ y = 0 from fun e => by rw [e] at esw; revert esw; decide), if_neg (show ¬ y = 1 from fun e => by rw [e] at esw; revert esw; decide), if_neg (show ¬ y = 2 from fun e => by rw [e] at esw; revert esw; decide), if_neg (show ¬ y = 3 from fun e => by rw [e] at esw; revert esw; decide), if_neg (show ¬ y = 4 from fun e => by rw [e] at esw; revert esw; decide), if_pos esw, if_neg h94]) rfl)
    · rw [ow_n (by have := w.2.2.2.2.1; have := w.2.2.2.2.2.1; omega)] at h94
      refine A_bipush (v := -5) dX10_told_97 rfl ?_
      refine A_goto (tgt := 109) dX10_told_99 rfl ?_
      exact A_iret dX10_told_109 rfl (rti (by unfold tolV lat5; rw [if_neg (show ¬ y = 0 from fun e => by rw [e] at esw; revert esw; decide), if_neg (show ¬ y = 1 from fun e => by rw [e] at esw; revert esw; decide), if_neg (show ¬ y = 2 from fun e => by rw [e] at esw; revert esw; decide), if_neg (show ¬ y = 3 from fun e => by rw [e] at esw; revert esw; decide), if_neg (show ¬ y = 4 from fun e => by rw [e] at esw; revert esw; decide), if_pos esw, if_pos h94]) rfl)
  · refine A_tabOut (tgt := 110) dX10_told_1 esw rfl ?_
    refine A_iconst (v := -1) dX10_told_110 rfl ?_
    exact A_iret dX10_told_111 rfl (rti (by unfold tolV; rw [if_neg (show ¬ y = 0 from fun e => by rw [e] at esw; revert esw; decide), if_neg (show ¬ y = 1 from fun e => by rw [e] at esw; revert esw; decide), if_neg (show ¬ y = 2 from fun e => by rw [e] at esw; revert esw; decide), if_neg (show ¬ y = 3 from fun e => by rw [e] at esw; revert esw; decide), if_neg (show ¬ y = 4 from fun e => by rw [e] at esw; revert esw; decide), if_neg (show ¬ y = 5 from fun e => by rw [e] at esw; revert esw; decide)]) rfl)
theorem c_told (y : Int32) (f : Mem) (s : Sg) (k p rz lz : Ro) (hC : RC f s k p rz lz) (w : wfC s k p) (tn : Nat) (tb : Nat → Nat) (hT : RTp f tn tb) (cn : Nat) (cs ch : Nat → Nat) (cv : Ro) (hN : RNc f cn cs ch cv) : C0 MX11_told [.ref 93, .int y] f (rt (some (.int (tolV s tn cn y))) f) := by
  refine Ct.of (lv := [(0, .ref 93), (1, .int y)]) (by decide) (lb rfl) rfl ?_
  refine A_iload_n dX11_told_0 rfl 1 rfl ?_
  rcases sw_6 y with esw | esw | esw | esw | esw | esw | esw
  · refine A_tabIn (off := 39) (tgt := 40) dX11_told_1 (by rw [esw]; decide) (by rw [esw]; decide) (by rw [esw]; rfl) rfl ?_
    refine A_aload_n dX11_told_40 rfl 0 rfl ?_
    refine A_getR (b := 94) dX11_told_41 fo_RX11_9 L93 rfl ?_
    refine A_bipush (v := 52) dX11_told_44 rfl ?_
    refine A_iaload 52 dX11_told_46 L94 (rfl) (by decide) (lb rfl) ?_
    refine A_topi (nI (s 13 0)) (hC.n) ?_
    exact A_iret dX11_told_47 rfl (rti (by unfold tolV; rw [if_pos esw]) rfl)
  · refine A_tabIn (off := 47) (tgt := 48) dX11_told_1 (by rw [esw]; decide) (by rw [esw]; decide) (by rw [esw]; rfl) rfl ?_
    refine A_aload_n dX11_told_48 rfl 0 rfl ?_
    refine A_getI dX11_told_49 fo_RX11_85 L93 rfl ?_
    refine A_topi (nI tn) (hT.1) ?_
    exact A_iret dX11_told_52 rfl (rti (by unfold tolV; rw [if_neg (show ¬ y = 0 from fun e => by rw [e] at esw; revert esw; decide), if_pos esw]) rfl)
  · refine A_tabIn (off := 52) (tgt := 53) dX11_told_1 (by rw [esw]; decide) (by rw [esw]; decide) (by rw [esw]; rfl) rfl ?_
    refine A_aload_n dX11_told_53 rfl 0 rfl ?_
    refine A_getI dX11_told_54 fo_RX11_218 L93 rfl ?_
    refine A_topi (nI cn) (hN.1) ?_
    exact A_iret dX11_told_57 rfl (rti (by unfold tolV; rw [if_neg (show ¬ y = 0 from fun e => by rw [e] at esw; revert esw; decide), if_neg (show ¬ y = 1 from fun e => by rw [e] at esw; revert esw; decide), if_pos esw]) rfl)
  · refine A_tabIn (off := 57) (tgt := 58) dX11_told_1 (by rw [esw]; decide) (by rw [esw]; decide) (by rw [esw]; rfl) rfl ?_
    refine A_aload_n dX11_told_58 rfl 0 rfl ?_
    refine A_aload_n dX11_told_59 rfl 0 rfl ?_
    refine A_getR (b := 94) dX11_told_60 fo_RX11_9 L93 rfl ?_
    refine A_iconst (v := 0) dX11_told_63 rfl ?_
    refine A_callV (M' := MX11_sticks) [.ref 94, .int 0] [] 93 dX11_told_64 lk_RX11_221 oX11_sticks iX11_sticks rfl rfl ⟨lb rfl, lb rfl⟩ (lb rfl) ⟨lb rfl, lb rfl⟩ L93 rfl (c_sticks f 94 0 253 s k hC.rw hC.n w.2.2.2.2.1) ?_
    rintro _ g0 ⟨rfl, hg0⟩
    rw [hg0]
    refine A_if_eq (tgt := 74) dX11_told_67 rfl (fun h67 => ?_) (fun h67 => ?_)
    · refine A_iconst (v := 0) dX11_told_74 rfl ?_
      exact A_iret dX11_told_75 rfl (rti (by unfold tolV; rw [if_neg (show ¬ y = 0 from fun e => by rw [e] at esw; revert esw; decide), if_neg (show ¬ y = 1 from fun e => by rw [e] at esw; revert esw; decide), if_neg (show ¬ y = 2 from fun e => by rw [e] at esw; revert esw; decide), if_pos esw]; exact (bz_f (bz_0.mp h67)).symm) rfl)
    · refine A_iconst (v := 1) dX11_told_70 rfl ?_
      refine A_goto (tgt := 75) dX11_told_71 rfl ?_
      exact A_iret dX11_told_75 rfl (rti (by unfold tolV; rw [if_neg (show ¬ y = 0 from fun e => by rw [e] at esw; revert esw; decide), if_neg (show ¬ y = 1 from fun e => by rw [e] at esw; revert esw; decide), if_neg (show ¬ y = 2 from fun e => by rw [e] at esw; revert esw; decide), if_pos esw]; exact (bz_t (bz_n0.mp h67)).symm) rfl)
  · refine A_tabIn (off := 75) (tgt := 76) dX11_told_1 (by rw [esw]; decide) (by rw [esw]; decide) (by rw [esw]; rfl) rfl ?_
    refine A_aload_n dX11_told_76 rfl 0 rfl ?_
    refine A_aload_n dX11_told_77 rfl 0 rfl ?_
    refine A_getR (b := 94) dX11_told_78 fo_RX11_9 L93 rfl ?_
    refine A_iconst (v := 0) dX11_told_81 rfl ?_
    refine A_callV (M' := MX11_isOver) [.ref 94, .int 0] [] 93 dX11_told_82 lk_RX11_225 oX11_isOver iX11_isOver rfl rfl ⟨lb rfl, lb rfl⟩ (lb rfl) ⟨lb rfl, lb rfl⟩ L93 rfl (c_isOver f 94 0 253 s k hC.rw hC.n w.2.2.2.2.1 (fun t ht => w.s4 ht)) ?_
    rintro _ g0 ⟨rfl, hg0⟩
    rw [hg0]
    refine A_if_eq (tgt := 92) dX11_told_85 rfl (fun h85 => ?_) (fun h85 => ?_)
    · refine A_iconst (v := 0) dX11_told_92 rfl ?_
      exact A_iret dX11_told_93 rfl (rti (by unfold tolV; rw [if_neg (show ¬ y = 0 from fun e => by rw [e] at esw; revert esw; decide), if_neg (show ¬ y = 1 from fun e => by rw [e] at esw; revert esw; decide), if_neg (show ¬ y = 2 from fun e => by rw [e] at esw; revert esw; decide), if_neg (show ¬ y = 3 from fun e => by rw [e] at esw; revert esw; decide), if_pos esw]; exact (bz_f (bz_0.mp h85)).symm) rfl)
    · refine A_iconst (v := 1) dX11_told_88 rfl ?_
      refine A_goto (tgt := 93) dX11_told_89 rfl ?_
      exact A_iret dX11_told_93 rfl (rti (by unfold tolV; rw [if_neg (show ¬ y = 0 from fun e => by rw [e] at esw; revert esw; decide), if_neg (show ¬ y = 1 from fun e => by rw [e] at esw; revert esw; decide), if_neg (show ¬ y = 2 from fun e => by rw [e] at esw; revert esw; decide), if_neg (show ¬ y = 3 from fun e => by rw [e] at esw; revert esw; decide), if_pos esw]; exact (bz_t (bz_n0.mp h85)).symm) rfl)
  · refine A_tabIn (off := 93) (tgt := 94) dX11_told_1 (by rw [esw]; decide) (by rw [esw]; decide) (by rw [esw]; rfl) rfl ?_
    refine A_aload_n dX11_told_94 rfl 0 rfl ?_
    refine A_getR (b := 94) dX11_told_95 fo_RX11_9 L93 rfl ?_
    refine A_bipush (v := 56) dX11_told_98 rfl ?_
    refine A_iaload 56 dX11_told_100 L94 (rfl) (by decide) (lb rfl) ?_
    refine A_topi (lat5 (s 15 0)) (hC.la) ?_
    exact A_iret dX11_told_101 rfl (rti (by unfold tolV; rw [if_neg (show ¬ y = 0 from fun e => by rw [e] at esw; revert esw; decide), if_neg (show ¬ y = 1 from fun e => by rw [e] at esw; revert esw; decide), if_neg (show ¬ y = 2 from fun e => by rw [e] at esw; revert esw; decide), if_neg (show ¬ y = 3 from fun e => by rw [e] at esw; revert esw; decide), if_neg (show ¬ y = 4 from fun e => by rw [e] at esw; revert esw; decide), if_pos esw]) rfl)
  · refine A_tabOut (tgt := 102) dX11_told_1 esw rfl ?_
    refine A_iconst (v := -1) dX11_told_102 rfl ?_
    exact A_iret dX11_told_103 rfl (rti (by unfold tolV; rw [if_neg (show ¬ y = 0 from fun e => by rw [e] at esw; revert esw; decide), if_neg (show ¬ y = 1 from fun e => by rw [e] at esw; revert esw; decide), if_neg (show ¬ y = 2 from fun e => by rw [e] at esw; revert esw; decide), if_neg (show ¬ y = 3 from fun e => by rw [e] at esw; revert esw; decide), if_neg (show ¬ y = 4 from fun e => by rw [e] at esw; revert esw; decide), if_neg (show ¬ y = 5 from fun e => by rw [e] at esw; revert esw; decide)]) rfl)
