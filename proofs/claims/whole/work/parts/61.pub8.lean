/-! of, stands, statement -/
abbrev ofV (s : Sg) (rz lz : Ro) (t : Nat) (y : Int32) : Int32 := if y = 0 then nI (s 1 t) else if y = 1 then nI (s 0 t) else if y = 2 then nI (s 2 t) else if y = 3 then whA s t else if y = 4 then rz t else if y = 5 then lz t else if y = 6 then ownI (s 3) t 3 else -1
theorem XC.sv {f : Mem} {s : Sg} {k p rz lz : Ro} (h : XC f s k p rz lz) {t : Nat} (ht : t < 4) : f 5 t = nI (s 2 t) := by
  rw [show (5 : Nat) = 1 + 4 from rfl, h.1.2.2.1]; simp [r4, ht]
theorem XC.wh {f : Mem} {s : Sg} {k p rz lz : Ro} (h : XC f s k p rz lz) (w : wfC s k p) {t : Nat} (ht : t < 4) : C0 MX1_whereStands [.ref 1, .int (nI t)] f (rt (some (.int (whA s t))) f) := by
  have e := x_whereStands t f 1 s k (.inl rfl) ht w.1
  rw [h.1.eq] at e
  exact e
theorem XC.ob {f : Mem} {s : Sg} {k p rz lz : Ro} (h : XC f s k p rz lz) (w : wfC s k p) {t : Nat} (ht : t < 4) : C0 MX1_ownedBy [.ref 1, .int (nI t)] f (rt (some (.int (ownI (s 3) t 3))) f) := by
  have e := x_ownedBy t f 1 s k (.inl rfl) ht w.1.2.2.2.2
  rw [h.1.eq] at e
  exact e
theorem RC.pl {f : Mem} {s : Sg} {k p rz lz : Ro} (h : RC f s k p rz lz) {t : Nat} (ht : t < 4) : f 94 t = nI (s 0 t) := (h.1 _ (by omega)).trans ((gF_lo (by omega)).trans (flat_0 _ _ ht))
theorem RC.sv {f : Mem} {s : Sg} {k p rz lz : Ro} (h : RC f s k p rz lz) {t : Nat} (ht : t < 4) : f 94 (8 + t) = nI (s 2 t) := (h.1 _ (by omega)).trans ((gF_lo (by omega)).trans (flat_2 _ _ ht))
theorem x_of1 (x y : Int32) (f : Mem) (s : Sg) (k p rz lz : Ro) (hC : XC f s k p rz lz) (w : wfC s k p) (hx : ¬ inR x (s 13 0)) : C0 MX10_of [.ref 0, .int x, .int y] f (rt (some (.int (-1))) f) := by
  refine Ct.of (lv := [(0, .ref 0), (1, .int x), (2, .int y)]) (by decide) (lb rfl) rfl ?_
  refine A_aload_n dX10_of_0 rfl 0 rfl ?_
  refine A_iload_n dX10_of_1 rfl 1 rfl ?_
  refine A_callV (M' := MX10_isTask) [.int x] [] 0 dX10_of_2 lk_RX10_111 oX10_isTask iX10_isTask rfl rfl ⟨lb rfl, lb rfl⟩ (lb rfl) ⟨lb rfl, lb rfl⟩ L0 rfl (x_isTask x _ hC.n w.2.2.2.2.1) ?_
  rintro _ g0 ⟨rfl, hg0⟩
  rw [hg0]
  refine A_if_ne (tgt := 10) dX10_of_5 rfl (fun h5 => by exact absurd (bz_n0.mp h5) hx) (fun h5 => ?_)
  refine A_iconst (v := -1) dX10_of_8 rfl ?_
  exact A_iret dX10_of_9 rfl (⟨rfl, rfl⟩)
theorem c_of1 (x y : Int32) (f : Mem) (s : Sg) (k p rz lz : Ro) (hC : RC f s k p rz lz) (w : wfC s k p) (hx : ¬ inR x (s 13 0)) : C0 MX11_of [.ref 93, .int x, .int y] f (rt (some (.int (-1))) f) := by
  refine Ct.of (lv := [(0, .ref 93), (1, .int x), (2, .int y)]) (by decide) (lb rfl) rfl ?_
  refine A_aload_n dX11_of_0 rfl 0 rfl ?_
  refine A_iload_n dX11_of_1 rfl 1 rfl ?_
  refine A_callV (M' := MX11_isTask) [.int x] [] 93 dX11_of_2 lk_RX11_133 oX11_isTask iX11_isTask rfl rfl ⟨lb rfl, lb rfl⟩ (lb rfl) ⟨lb rfl, lb rfl⟩ L93 rfl (c_isTask x _ hC.n w.2.2.2.2.1) ?_
  rintro _ g0 ⟨rfl, hg0⟩
  rw [hg0]
  refine A_if_ne (tgt := 10) dX11_of_5 rfl (fun h5 => by exact absurd (bz_n0.mp h5) hx) (fun h5 => ?_)
  refine A_iconst (v := -1) dX11_of_8 rfl ?_
  exact A_iret dX11_of_9 rfl (⟨rfl, rfl⟩)
theorem x_of (t : Nat) (y : Int32) (f : Mem) (s : Sg) (k p rz lz : Ro) (hC : XC f s k p rz lz) (w : wfC s k p) (ht : t < s 13 0) : C0 MX10_of [.ref 0, .int (nI t), .int y] f (rt (some (.int (ofV s rz lz t y))) f) := by
  have h13 := w.2.2.2.2.1
  have ht4 : t < 4 := by omega
  refine Ct.of (lv := [(0, .ref 0), (1, .int (nI t)), (2, .int y)]) (by decide) (lb rfl) rfl ?_
  refine A_aload_n dX10_of_0 rfl 0 rfl ?_
  refine A_iload_n dX10_of_1 rfl 1 rfl ?_
  refine A_callV (M' := MX10_isTask) [.int (nI t)] [] 0 dX10_of_2 lk_RX10_111 oX10_isTask iX10_isTask rfl rfl ⟨lb rfl, lb rfl⟩ (lb rfl) ⟨lb rfl, lb rfl⟩ L0 rfl (x_isTask (nI t) _ hC.n w.2.2.2.2.1) ?_
  rintro _ g0 ⟨rfl, hg0⟩
  rw [hg0]
  refine A_if_ne (tgt := 10) dX10_of_5 rfl (fun h5 => ?_) (fun h5 => by exact absurd ((inR_nI (by omega)).mpr ht) (bz_0.mp h5))
  refine A_iload_n dX10_of_10 rfl 2 rfl ?_
  rcases sw_7 y with esw | esw | esw | esw | esw | esw | esw | esw
  · refine A_tabIn (off := 41) (tgt := 52) dX10_of_11 (by rw [esw]; decide) (by rw [esw]; decide) (by rw [esw]; rfl) rfl ?_
    refine A_aload_n dX10_of_52 rfl 0 rfl ?_
    refine A_getR (b := 1) dX10_of_53 fo_RX10_10 L0 rfl ?_
    refine A_getR (b := 4) dX10_of_56 fo_RX10_117 L1 rfl ?_
    refine A_iload_n dX10_of_59 rfl 1 rfl ?_
    refine A_iaload t dX10_of_60 L4 (rfl) (by omega) (lb rfl) ?_
    refine A_topi (nI (s 1 t)) (hC.st ht4) ?_
    exact A_iret dX10_of_61 rfl (rti (by unfold ofV; rw [if_pos esw]) rfl)
  · refine A_tabIn (off := 51) (tgt := 62) dX10_of_11 (by rw [esw]; decide) (by rw [esw]; decide) (by rw [esw]; rfl) rfl ?_
    refine A_aload_n dX10_of_62 rfl 0 rfl ?_
    refine A_getR (b := 1) dX10_of_63 fo_RX10_10 L0 rfl ?_
    refine A_getR (b := 3) dX10_of_66 fo_RX10_114 L1 rfl ?_
    refine A_iload_n dX10_of_69 rfl 1 rfl ?_
    refine A_iaload t dX10_of_70 L3 (rfl) (by omega) (lb rfl) ?_
    refine A_topi (nI (s 0 t)) (hC.pl ht4) ?_
    exact A_iret dX10_of_71 rfl (rti (by unfold ofV; rw [if_neg (show ¬ y = 0 from fun e => by rw [e] at esw; revert esw; decide), if_pos esw]) rfl)
  · refine A_tabIn (off := 61) (tgt := 72) dX10_of_11 (by rw [esw]; decide) (by rw [esw]; decide) (by rw [esw]; rfl) rfl ?_
    refine A_aload_n dX10_of_72 rfl 0 rfl ?_
    refine A_getR (b := 1) dX10_of_73 fo_RX10_10 L0 rfl ?_
    refine A_getR (b := 5) dX10_of_76 fo_RX10_163 L1 rfl ?_
    refine A_iload_n dX10_of_79 rfl 1 rfl ?_
    refine A_iaload t dX10_of_80 L5 (rfl) (by omega) (lb rfl) ?_
    refine A_topi (nI (s 2 t)) (hC.sv ht4) ?_
    exact A_iret dX10_of_81 rfl (rti (by unfold ofV; rw [if_neg (show ¬ y = 0 from fun e => by rw [e] at esw; revert esw; decide), if_neg (show ¬ y = 1 from fun e => by rw [e] at esw; revert esw; decide), if_pos esw]) rfl)
  · refine A_tabIn (off := 71) (tgt := 82) dX10_of_11 (by rw [esw]; decide) (by rw [esw]; decide) (by rw [esw]; rfl) rfl ?_
    refine A_aload_n dX10_of_82 rfl 0 rfl ?_
    refine A_getR (b := 1) dX10_of_83 fo_RX10_10 L0 rfl ?_
    refine A_iload_n dX10_of_86 rfl 1 rfl ?_
    refine A_callV (M' := MX1_whereStands) [.int (nI t)] [] 1 dX10_of_87 lk_RX10_166 oX1_whereStands iX1_whereStands rfl rfl ⟨lb rfl, lb rfl⟩ (lb rfl) ⟨lb rfl, lb rfl⟩ L1 rfl (hC.wh w ht4) ?_
    rintro _ g0 ⟨rfl, hg0⟩
    rw [hg0]
    exact A_iret dX10_of_90 rfl (rti (by unfold ofV; rw [if_neg (show ¬ y = 0 from fun e => by rw [e] at esw; revert esw; decide), if_neg (show ¬ y = 1 from fun e => by rw [e] at esw; revert esw; decide), if_neg (show ¬ y = 2 from fun e => by rw [e] at esw; revert esw; decide), if_pos esw]) rfl)
  · refine A_tabIn (off := 80) (tgt := 91) dX10_of_11 (by rw [esw]; decide) (by rw [esw]; decide) (by rw [esw]; rfl) rfl ?_
    refine A_aload_n dX10_of_91 rfl 0 rfl ?_
    refine A_getR (b := 1) dX10_of_92 fo_RX10_10 L0 rfl ?_
    refine A_getR (b := 6) dX10_of_95 fo_RX10_169 L1 rfl ?_
    refine A_iload_n dX10_of_98 rfl 1 rfl ?_
    refine A_iaload t dX10_of_99 L6 (rfl) (by omega) (lb rfl) ?_
    refine A_topi (rz t) ((hC.2.2.2 t ht4).1) ?_
    exact A_iret dX10_of_100 rfl (rti (by unfold ofV; rw [if_neg (show ¬ y = 0 from fun e => by rw [e] at esw; revert esw; decide), if_neg (show ¬ y = 1 from fun e => by rw [e] at esw; revert esw; decide), if_neg (show ¬ y = 2 from fun e => by rw [e] at esw; revert esw; decide), if_neg (show ¬ y = 3 from fun e => by rw [e] at esw; revert esw; decide), if_pos esw]) rfl)
  · refine A_tabIn (off := 90) (tgt := 101) dX10_of_11 (by rw [esw]; decide) (by rw [esw]; decide) (by rw [esw]; rfl) rfl ?_
    refine A_aload_n dX10_of_101 rfl 0 rfl ?_
    refine A_getR (b := 1) dX10_of_102 fo_RX10_10 L0 rfl ?_
    refine A_getR (b := 7) dX10_of_105 fo_RX10_172 L1 rfl ?_
    refine A_iload_n dX10_of_108 rfl 1 rfl ?_
    refine A_iaload t dX10_of_109 L7 (rfl) (by omega) (lb rfl) ?_
    refine A_topi (lz t) ((hC.2.2.2 t ht4).2) ?_
    exact A_iret dX10_of_110 rfl (rti (by unfold ofV; rw [if_neg (show ¬ y = 0 from fun e => by rw [e] at esw; revert esw; decide), if_neg (show ¬ y = 1 from fun e => by rw [e] at esw; revert esw; decide), if_neg (show ¬ y = 2 from fun e => by rw [e] at esw; revert esw; decide), if_neg (show ¬ y = 3 from fun e => by rw [e] at esw; revert esw; decide), if_neg (show ¬ y = 4 from fun e => by rw [e] at esw; revert esw; decide), if_pos esw]) rfl)
  · refine A_tabIn (off := 100) (tgt := 111) dX10_of_11 (by rw [esw]; decide) (by rw [esw]; decide) (by rw [esw]; rfl) rfl ?_
    refine A_aload_n dX10_of_111 rfl 0 rfl ?_
    refine A_getR (b := 1) dX10_of_112 fo_RX10_10 L0 rfl ?_
    refine A_iload_n dX10_of_115 rfl 1 rfl ?_
    refine A_callV (M' := MX1_ownedBy) [.int (nI t)] [] 1 dX10_of_116 lk_RX10_175 oX1_ownedBy iX1_ownedBy rfl rfl ⟨lb rfl, lb rfl⟩ (lb rfl) ⟨lb rfl, lb rfl⟩ L1 rfl (hC.ob w ht4) ?_
    rintro _ g0 ⟨rfl, hg0⟩
    rw [hg0]
    exact A_iret dX10_of_119 rfl (rti (by unfold ofV; rw [if_neg (show ¬ y = 0 from fun e => by rw [e] at esw; revert esw; decide), if_neg (show ¬ y = 1 from fun e => by rw [e] at esw; revert esw; decide), if_neg (show ¬ y = 2 from fun e => by rw [e] at esw; revert esw; decide), if_neg (show ¬ y = 3 from fun e => by rw [e] at esw; revert esw; decide), if_neg (show ¬ y = 4 from fun e => by rw [e] at esw; revert esw; decide), if_neg (show ¬ y = 5 from fun e => by rw [e] at esw; revert esw; decide), if_pos esw]) rfl)
  · refine A_tabOut (tgt := 120) dX10_of_11 esw rfl ?_
    refine A_iconst (v := -1) dX10_of_120 rfl ?_
    exact A_iret dX10_of_121 rfl (rti (by unfold ofV; rw [if_neg (show ¬ y = 0 from fun e => by rw [e] at esw; revert esw; decide), if_neg (show ¬ y = 1 from fun e => by rw [e] at esw; revert esw; decide), if_neg (show ¬ y = 2 from fun e => by rw [e] at esw; revert esw; decide), if_neg (show ¬ y = 3 from fun e => by rw [e] at esw; revert esw; decide), if_neg (show ¬ y = 4 from fun e => by rw [e] at esw; revert esw; decide), if_neg (show ¬ y = 5 from fun e => by rw [e] at esw; revert esw; decide), if_neg (show ¬ y = 6 from fun e => by rw [e] at esw; revert esw; decide)]) rfl)
theorem c_of (t : Nat) (y : Int32) (f : Mem) (s : Sg) (k p rz lz : Ro) (hC : RC f s k p rz lz) (w : wfC s k p) (hr : wR s rz lz) (ht : t < s 13 0) : C0 MX11_of [.ref 93, .int (nI t), .int y] f (rt (some (.int (ofV s rz lz t y))) f) := by
  have h13 := w.2.2.2.2.1
  have ht4 : t < 4 := by omega
  refine Ct.of (lv := [(0, .ref 93), (1, .int (nI t)), (2, .int y)]) (by decide) (lb rfl) rfl ?_
  refine A_aload_n dX11_of_0 rfl 0 rfl ?_
  refine A_iload_n dX11_of_1 rfl 1 rfl ?_
  refine A_callV (M' := MX11_isTask) [.int (nI t)] [] 93 dX11_of_2 lk_RX11_133 oX11_isTask iX11_isTask rfl rfl ⟨lb rfl, lb rfl⟩ (lb rfl) ⟨lb rfl, lb rfl⟩ L93 rfl (c_isTask (nI t) _ hC.n w.2.2.2.2.1) ?_
  rintro _ g0 ⟨rfl, hg0⟩
  rw [hg0]
  refine A_if_ne (tgt := 10) dX11_of_5 rfl (fun h5 => ?_) (fun h5 => by exact absurd ((inR_nI (by omega)).mpr ht) (bz_0.mp h5))
  refine A_iload_n dX11_of_10 rfl 2 rfl ?_
  rcases sw_7 y with esw | esw | esw | esw | esw | esw | esw | esw
  · refine A_tabIn (off := 41) (tgt := 52) dX11_of_11 (by rw [esw]; decide) (by rw [esw]; decide) (by rw [esw]; rfl) rfl ?_
    refine A_aload_n dX11_of_52 rfl 0 rfl ?_
    refine A_getR (b := 94) dX11_of_53 fo_RX11_9 L93 rfl ?_
    refine A_iconst (v := 4) dX11_of_56 rfl ?_
    refine A_iload_n dX11_of_57 rfl 1 rfl ?_
    refine A_iadd dX11_of_58 ?_
    refine A_iaload (4 + t) dX11_of_59 L94 (by simp only [lit, nI_add, pk_mul]) (by omega) (lb rfl) ?_
    refine A_topi (nI (s 1 t)) (hC.st ht4) ?_
    exact A_iret dX11_of_60 rfl (rti (by unfold ofV; rw [if_pos esw]) rfl)
  · refine A_tabIn (off := 50) (tgt := 61) dX11_of_11 (by rw [esw]; decide) (by rw [esw]; decide) (by rw [esw]; rfl) rfl ?_
    refine A_aload_n dX11_of_61 rfl 0 rfl ?_
    refine A_getR (b := 94) dX11_of_62 fo_RX11_9 L93 rfl ?_
    refine A_iload_n dX11_of_65 rfl 1 rfl ?_
    refine A_iaload t dX11_of_66 L94 (rfl) (by omega) (lb rfl) ?_
    refine A_topi (nI (s 0 t)) (hC.pl ht4) ?_
    exact A_iret dX11_of_67 rfl (rti (by unfold ofV; rw [if_neg (show ¬ y = 0 from fun e => by rw [e] at esw; revert esw; decide), if_pos esw]) rfl)
  · refine A_tabIn (off := 57) (tgt := 68) dX11_of_11 (by rw [esw]; decide) (by rw [esw]; decide) (by rw [esw]; rfl) rfl ?_
    refine A_aload_n dX11_of_68 rfl 0 rfl ?_
    refine A_getR (b := 94) dX11_of_69 fo_RX11_9 L93 rfl ?_
    refine A_bipush (v := 8) dX11_of_72 rfl ?_
    refine A_iload_n dX11_of_74 rfl 1 rfl ?_
    refine A_iadd dX11_of_75 ?_
    refine A_iaload (8 + t) dX11_of_76 L94 (by simp only [lit, nI_add, pk_mul]) (by omega) (lb rfl) ?_
    refine A_topi (nI (s 2 t)) (hC.sv ht4) ?_
    exact A_iret dX11_of_77 rfl (rti (by unfold ofV; rw [if_neg (show ¬ y = 0 from fun e => by rw [e] at esw; revert esw; decide), if_neg (show ¬ y = 1 from fun e => by rw [e] at esw; revert esw; decide), if_pos esw]) rfl)
  · refine A_tabIn (off := 67) (tgt := 78) dX11_of_11 (by rw [esw]; decide) (by rw [esw]; decide) (by rw [esw]; rfl) rfl ?_
    refine A_aload_n dX11_of_78 rfl 0 rfl ?_
    refine A_iload_n dX11_of_79 rfl 1 rfl ?_
    refine A_callV (M' := MX11_standsAt) [.int (nI t)] [] 93 dX11_of_80 lk_RX11_206 oX11_standsAt iX11_standsAt rfl rfl ⟨lb rfl, lb rfl⟩ (lb rfl) ⟨lb rfl, lb rfl⟩ L93 rfl (c_standsAt t f s k p rz lz hC w ht4) ?_
    rintro _ g0 ⟨rfl, hg0⟩
    rw [hg0]
    exact A_iret dX11_of_83 rfl (rti (by unfold ofV; rw [if_neg (show ¬ y = 0 from fun e => by rw [e] at esw; revert esw; decide), if_neg (show ¬ y = 1 from fun e => by rw [e] at esw; revert esw; decide), if_neg (show ¬ y = 2 from fun e => by rw [e] at esw; revert esw; decide), if_pos esw]) rfl)
  · refine A_tabIn (off := 73) (tgt := 84) dX11_of_11 (by rw [esw]; decide) (by rw [esw]; decide) (by rw [esw]; rfl) rfl ?_
    refine A_aload_n dX11_of_84 rfl 0 rfl ?_
    refine A_getR (b := 94) dX11_of_85 fo_RX11_9 L93 rfl ?_
    refine A_iconst (v := 4) dX11_of_88 rfl ?_
    refine A_iload_n dX11_of_89 rfl 1 rfl ?_
    refine A_iadd dX11_of_90 ?_
    refine A_iaload (4 + t) dX11_of_91 L94 (by simp only [lit, nI_add, pk_mul]) (by omega) (lb rfl) ?_
    refine A_topi (nI (s 1 t)) (hC.st ht4) ?_
    refine A_iconst (v := 4) dX11_of_92 rfl ?_
    refine A_icmp_ne (tgt := 105) dX11_of_93 rfl (fun h93 => ?_) (fun h93 => ?_)
    · have q4 := w.s4 ht4
      rw [show (4 : Int32) = nI 4 from rfl, nI_eq (by omega) (by omega)] at h93
      refine A_iconst (v := 0) dX11_of_105 rfl ?_
      exact A_iret dX11_of_106 rfl (rti (by unfold ofV; rw [if_neg (show ¬ y = 0 from fun e => by rw [e] at esw; revert esw; decide), if_neg (show ¬ y = 1 from fun e => by rw [e] at esw; revert esw; decide), if_neg (show ¬ y = 2 from fun e => by rw [e] at esw; revert esw; decide), if_neg (show ¬ y = 3 from fun e => by rw [e] at esw; revert esw; decide), if_pos esw]; exact ((hr t ht4).1 h93).symm) rfl)
    · have q4 := w.s4 ht4
      rw [show (4 : Int32) = nI 4 from rfl, nI_eq (by omega) (by omega)] at h93
      refine A_aload_n dX11_of_96 rfl 0 rfl ?_
      refine A_getR (b := 97) dX11_of_97 fo_RX11_19 L93 rfl ?_
      refine A_iload_n dX11_of_100 rfl 1 rfl ?_
      refine A_iaload t dX11_of_101 L97 (rfl) (by omega) (lb rfl) ?_
      refine A_topi (rz t) ((hC.2 t ht4).1 h93) ?_
      refine A_goto (tgt := 106) dX11_of_102 rfl ?_
      exact A_iret dX11_of_106 rfl (rti (by unfold ofV; rw [if_neg (show ¬ y = 0 from fun e => by rw [e] at esw; revert esw; decide), if_neg (show ¬ y = 1 from fun e => by rw [e] at esw; revert esw; decide), if_neg (show ¬ y = 2 from fun e => by rw [e] at esw; revert esw; decide), if_neg (show ¬ y = 3 from fun e => by rw [e] at esw; revert esw; decide), if_pos esw]) rfl)
  · refine A_tabIn (off := 96) (tgt := 107) dX11_of_11 (by rw [esw]; decide) (by rw [esw]; decide) (by rw [esw]; rfl) rfl ?_
    refine A_aload_n dX11_of_107 rfl 0 rfl ?_
    refine A_getR (b := 94) dX11_of_108 fo_RX11_9 L93 rfl ?_
    refine A_iconst (v := 4) dX11_of_111 rfl ?_
    refine A_iload_n dX11_of_112 rfl 1 rfl ?_
    refine A_iadd dX11_of_113 ?_
    refine A_iaload (4 + t) dX11_of_114 L94 (by simp only [lit, nI_add, pk_mul]) (by omega) (lb rfl) ?_
    refine A_topi (nI (s 1 t)) (hC.st ht4) ?_
    refine A_iconst (v := 3) dX11_of_115 rfl ?_
    refine A_icmp_ne (tgt := 128) dX11_of_116 rfl (fun h116 => ?_) (fun h116 => ?_)
    · have q4 := w.s4 ht4
      rw [show (3 : Int32) = nI 3 from rfl, nI_eq (by omega) (by omega)] at h116
      refine A_iconst (v := 0) dX11_of_128 rfl ?_
      exact A_iret dX11_of_129 rfl (rti (by unfold ofV; rw [if_neg (show ¬ y = 0 from fun e => by rw [e] at esw; revert esw; decide), if_neg (show ¬ y = 1 from fun e => by rw [e] at esw; revert esw; decide), if_neg (show ¬ y = 2 from fun e => by rw [e] at esw; revert esw; decide), if_neg (show ¬ y = 3 from fun e => by rw [e] at esw; revert esw; decide), if_neg (show ¬ y = 4 from fun e => by rw [e] at esw; revert esw; decide), if_pos esw]; exact ((hr t ht4).2 h116).symm) rfl)
    · have q4 := w.s4 ht4
      rw [show (3 : Int32) = nI 3 from rfl, nI_eq (by omega) (by omega)] at h116
      refine A_aload_n dX11_of_119 rfl 0 rfl ?_
      refine A_getR (b := 98) dX11_of_120 fo_RX11_22 L93 rfl ?_
      refine A_iload_n dX11_of_123 rfl 1 rfl ?_
      refine A_iaload t dX11_of_124 L98 (rfl) (by omega) (lb rfl) ?_
      refine A_topi (lz t) ((hC.2 t ht4).2 h116) ?_
      refine A_goto (tgt := 129) dX11_of_125 rfl ?_
      exact A_iret dX11_of_129 rfl (rti (by unfold ofV; rw [if_neg (show ¬ y = 0 from fun e => by rw [e] at esw; revert esw; decide), if_neg (show ¬ y = 1 from fun e => by rw [e] at esw; revert esw; decide), if_neg (show ¬ y = 2 from fun e => by rw [e] at esw; revert esw; decide), if_neg (show ¬ y = 3 from fun e => by rw [e] at esw; revert esw; decide), if_neg (show ¬ y = 4 from fun e => by rw [e] at esw; revert esw; decide), if_pos esw]) rfl)
  · refine A_tabIn (off := 119) (tgt := 130) dX11_of_11 (by rw [esw]; decide) (by rw [esw]; decide) (by rw [esw]; rfl) rfl ?_
    refine A_aload_n dX11_of_130 rfl 0 rfl ?_
    refine A_aload_n dX11_of_131 rfl 0 rfl ?_
    refine A_getR (b := 94) dX11_of_132 fo_RX11_9 L93 rfl ?_
    refine A_iconst (v := 0) dX11_of_135 rfl ?_
    refine A_iload_n dX11_of_136 rfl 1 rfl ?_
    refine A_callV (M' := MX11_ownedBy) [.ref 94, .int 0, .int (nI t)] [] 93 dX11_of_137 lk_RX11_209 oX11_ownedBy iX11_ownedBy rfl rfl ⟨lb rfl, lb rfl⟩ (lb rfl) ⟨lb rfl, lb rfl⟩ L93 rfl (c_ownedBy t f 94 0 253 s k hC.rw ht4 w.1.2.2.2.2) ?_
    rintro _ g0 ⟨rfl, hg0⟩
    rw [hg0]
    exact A_iret dX11_of_140 rfl (rti (by unfold ofV; rw [if_neg (show ¬ y = 0 from fun e => by rw [e] at esw; revert esw; decide), if_neg (show ¬ y = 1 from fun e => by rw [e] at esw; revert esw; decide), if_neg (show ¬ y = 2 from fun e => by rw [e] at esw; revert esw; decide), if_neg (show ¬ y = 3 from fun e => by rw [e] at esw; revert esw; decide), if_neg (show ¬ y = 4 from fun e => by rw [e] at esw; revert esw; decide), if_neg (show ¬ y = 5 from fun e => by rw [e] at esw; revert esw; decide), if_pos esw]) rfl)
  · refine A_tabOut (tgt := 141) dX11_of_11 esw rfl ?_
    refine A_iconst (v := -1) dX11_of_141 rfl ?_
    exact A_iret dX11_of_142 rfl (rti (by unfold ofV; rw [if_neg (show ¬ y = 0 from fun e => by rw [e] at esw; revert esw; decide), if_neg (show ¬ y = 1 from fun e => by rw [e] at esw; revert esw; decide), if_neg (show ¬ y = 2 from fun e => by rw [e] at esw; revert esw; decide), if_neg (show ¬ y = 3 from fun e => by rw [e] at esw; revert esw; decide), if_neg (show ¬ y = 4 from fun e => by rw [e] at esw; revert esw; decide), if_neg (show ¬ y = 5 from fun e => by rw [e] at esw; revert esw; decide), if_neg (show ¬ y = 6 from fun e => by rw [e] at esw; revert esw; decide)]) rfl)
theorem in_sz' : ∀ n, n < 13 → (nI n - 1).toInt64.toInt = (n : Int) - 1 := by decide +kernel
theorem in_sz {x : Int32} {n : Nat} (h : n ≤ 12) : (Int64.toInt 0 ≤ x.toInt64.toInt ∧ x.toInt64.toInt ≤ (nI n - 1).toInt64.toInt) ↔ inR x n := by
  rw [in_sz' n (by omega), Int32.toInt_toInt64, show Int64.toInt 0 = 0 by decide]
  unfold inR
  omega
theorem RC.sz {f : Mem} {s : Sg} {k p rz lz : Ro} (h : RC f s k p rz lz) {t : Nat} (ht : t < 4) : f 94 (57 + t) = nI (s 16 t) := (h.1 _ (by omega)).trans (gF_z _ _ _ t ht)
theorem c_statement (x y z : Int32) (f : Mem) (s : Sg) (k p rz lz : Ro) (hC : RC f s k p rz lz) (w : wfC s k p) : C0 MX11_statement [.ref 93, .int x, .int y, .int z] f (rt (some (.int (staV s p x y z))) f) := by
  have h13 := w.2.2.2.2.1
  refine Ct.of (lv := [(0, .ref 93), (1, .int x), (2, .int y), (3, .int z)]) (by decide) (lb rfl) rfl ?_
  refine A_aload_n dX11_statement_0 rfl 0 rfl ?_
  refine A_iload_n dX11_statement_1 rfl 1 rfl ?_
  refine A_callV (M' := MX11_isTask) [.int x] [] 93 dX11_statement_2 lk_RX11_133 oX11_isTask iX11_isTask rfl rfl ⟨lb rfl, lb rfl⟩ (lb rfl) ⟨lb rfl, lb rfl⟩ L93 rfl (c_isTask x _ hC.n w.2.2.2.2.1) ?_
  rintro _ g0 ⟨rfl, hg0⟩
  rw [hg0]
  refine A_if_eq (tgt := 51) dX11_statement_5 rfl (fun h5 => ?_) (fun h5 => ?_)
  · refine A_bipush (v := -100) dX11_statement_51 rfl ?_
    exact A_iret dX11_statement_53 rfl (rti (if_neg (by first | exact fun q => bz_0.mp h5 q.1 | (rw [nI_clamp (by omega)]; first | exact fun q => bz_0.mp h26 q.2.1 | exact fun q => bz_0.mp h38 q.2.2))).symm rfl)
  · obtain ⟨t, ht, rfl⟩ := inR_of (by omega) (bz_n0.mp h5)
    have ht4 : t < 4 := by omega
    refine A_iload_n dX11_statement_8 rfl 2 rfl ?_
    refine A_i2l dX11_statement_9 ?_
    refine A_lconst (v := 0) dX11_statement_10 rfl ?_
    refine A_aload_n dX11_statement_11 rfl 0 rfl ?_
    refine A_getR (b := 94) dX11_statement_12 fo_RX11_9 L93 rfl ?_
    refine A_bipush (v := 57) dX11_statement_15 rfl ?_
    refine A_iload_n dX11_statement_17 rfl 1 rfl ?_
    refine A_iadd dX11_statement_18 ?_
    refine A_iaload (57 + t) dX11_statement_19 L94 (by simp only [lit, nI_add, pk_mul]) (by omega) (lb rfl) ?_
    refine A_topi (nI (s 16 t)) (hC.sz ht4) ?_
    refine A_iconst (v := 1) dX11_statement_20 rfl ?_
    refine A_isub dX11_statement_21 ?_
    refine A_i2l dX11_statement_22 ?_
    refine A_callS (M' := MX11_in) [.long y.toInt64, .long 0, .long (((nI (s 16 t)) - 1).toInt64)] [] dX11_statement_23 lk_RX11_64 oX11_in sX11_in rfl rfl ⟨lb rfl, lb rfl⟩ (lb rfl) ⟨lb rfl, lb rfl⟩ (c_in _ _ _ _) ?_
    rintro _ g0 ⟨rfl, hg0⟩
    rw [hg0]
    refine A_topi (bz (inR y (s 16 t))) (bz_c (in_sz (w.2.1 t ht4).1)) ?_
    refine A_if_eq (tgt := 51) dX11_statement_26 rfl (fun h26 => ?_) (fun h26 => ?_)
    · refine A_bipush (v := -100) dX11_statement_51 rfl ?_
      exact A_iret dX11_statement_53 rfl (rti (if_neg (by first | exact fun q => bz_0.mp h5 q.1 | (rw [nI_clamp (by omega)]; first | exact fun q => bz_0.mp h26 q.2.1 | exact fun q => bz_0.mp h38 q.2.2))).symm rfl)
    · refine A_iload_n dX11_statement_29 rfl 3 rfl ?_
      refine A_i2l dX11_statement_30 ?_
      refine A_lconst (v := 0) dX11_statement_31 rfl ?_
      refine A_ldc2 dX11_statement_32 k_RX11_70 ?_
      refine A_callS (M' := MX11_in) [.long z.toInt64, .long 0, .long 3] [] dX11_statement_35 lk_RX11_64 oX11_in sX11_in rfl rfl ⟨lb rfl, lb rfl⟩ (lb rfl) ⟨lb rfl, lb rfl⟩ (c_in _ _ _ _) ?_
      rintro _ g0 ⟨rfl, hg0⟩
      rw [hg0]
      refine A_topi (bz (inR z 4)) (bz_c (in_4 z)) ?_
      refine A_if_eq (tgt := 51) dX11_statement_38 rfl (fun h38 => ?_) (fun h38 => ?_)
      · refine A_bipush (v := -100) dX11_statement_51 rfl ?_
        exact A_iret dX11_statement_53 rfl (rti (if_neg (by first | exact fun q => bz_0.mp h5 q.1 | (rw [nI_clamp (by omega)]; first | exact fun q => bz_0.mp h26 q.2.1 | exact fun q => bz_0.mp h38 q.2.2))).symm rfl)
      · have h12 := (w.2.1 t ht4).1
        obtain ⟨i, hi, ei⟩ := inR_of (by omega) (bz_n0.mp h26)
        obtain ⟨j, hj, ej⟩ := inR_of (by decide) (bz_n0.mp h38)
        refine A_aload_n dX11_statement_41 rfl 0 rfl ?_
        refine A_iload_n dX11_statement_42 rfl 1 rfl ?_
        refine A_iload_n dX11_statement_43 rfl 2 rfl ?_
        refine A_iload_n dX11_statement_44 rfl 3 rfl ?_
        refine A_callV (M' := MX11_field) [.int (nI t), .int y, .int z] [] 93 dX11_statement_45 lk_RX11_150 oX11_field iX11_field rfl rfl ⟨lb rfl, lb rfl⟩ (lb rfl) ⟨lb rfl, lb rfl⟩ L93 rfl (by rw [ei, ej]; exact c_field t i j f (by omega)) ?_
        rintro _ g0 ⟨rfl, hg0⟩
        rw [hg0]
        refine A_topi (p (48 * t + 4 * i + j)) (by rw [show 61 + 48 * t + 4 * i + j = 61 + (48 * t + 4 * i + j) by omega]; exact hC.gR.2.2.2 _ (by omega)) ?_
        refine A_goto (tgt := 53) dX11_statement_48 rfl ?_
        exact A_iret dX11_statement_53 rfl (rti (by unfold staV; rw [nI_clamp (by omega), if_pos ⟨(inR_nI (by omega)).mpr ht, bz_n0.mp h26, bz_n0.mp h38⟩, ei, ej, nI_clamp (by omega), nI_clamp (by omega)]) rfl)
