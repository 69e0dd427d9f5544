/-! found, schedule, outcome, under, round: the reference -/
theorem in_9 (x : Int32) : (Int64.toInt 0 ≤ x.toInt64.toInt ∧ x.toInt64.toInt ≤ Int64.toInt 8) ↔ inR x 9 := by
  rw [Int32.toInt_toInt64, show Int64.toInt 0 = 0 by decide, show Int64.toInt 8 = 8 by decide]
  unfold inR
  omega
theorem in_2w (x : Int32) : (Int64.toInt 0 ≤ x.toInt64.toInt ∧ x.toInt64.toInt ≤ Int64.toInt 1) ↔ inR x 2 := by
  rw [Int32.toInt_toInt64, show Int64.toInt 0 = 0 by decide, show Int64.toInt 1 = 1 by decide]
  unfold inR
  omega
theorem in_dp {x : Int32} {n : Nat} (hn : n < 2 ^ 31) : (Int64.toInt 0 ≤ x.toInt64.toInt ∧ x.toInt64.toInt ≤ (nI n - 1).toInt64.toInt) ↔ inR x n := by
  have e : (nI n - 1).toInt = (n : Int) - 1 := by
    rw [Int32.toInt_sub, nI_toInt hn, show (1 : Int32).toInt = 1 from rfl, Int.bmod_eq_of_le] <;> omega
  rw [Int32.toInt_toInt64, Int32.toInt_toInt64, e, show Int64.toInt 0 = 0 by decide]
  unfold inR
  omega
theorem m1_m1 (x : Int32) : -1 - (-1 - x) = x := by
  rw [Int32.sub_eq_add_neg (-1 : Int32), Int32.neg_sub, Int32.add_comm]
  exact Int32.sub_add_cancel _ _
theorem ge_t {a : Nat} (h : 0 ≤ nI a - 1) : ¬ a = 0 := fun z => by rw [z] at h; exact absurd h (by decide)
theorem ge_f {a : Nat} (ha : a ≤ 600) (h : ¬ 0 ≤ nI a - 1) : a = 0 := Classical.byContradiction (fun z => h (by rw [nI_p1 z]; exact nI_ge0 (by omega)))
theorem lt_t {a : Nat} (ha : a ≤ 600) (h : nI a - 1 < 0) : a = 0 := Classical.byContradiction (fun z => by rw [nI_p1 z] at h; exact absurd h (nI_nneg (by omega)))
theorem lt_f {a : Nat} (h : ¬ nI a - 1 < 0) : ¬ a = 0 := fun z => by rw [z] at h; exact h (by decide)
theorem c_found1 (y : Int32) (f : Mem) (hy : ¬ inR y 9) : C0 MX11_found [.ref 93, .int y] f (rt (some (.int (-1))) f) := by
  refine Ct.of (lv := [(0, .ref 93), (1, .int y)]) (by decide) (lb rfl) rfl ?_
  refine A_iload_n dX11_found_0 rfl 1 rfl ?_
  refine A_i2l dX11_found_1 ?_
  refine A_lconst (v := 0) dX11_found_2 rfl ?_
  refine A_ldc2 dX11_found_3 k_RX11_250 ?_
  refine A_callS (M' := MX11_in) [.long y.toInt64, .long 0, .long 8] [] dX11_found_6 lk_RX11_64 oX11_in sX11_in rfl rfl ⟨lb rfl, lb rfl⟩ (lb rfl) ⟨lb rfl, lb rfl⟩ (c_in _ _ _ _) ?_
  rintro _ g0 ⟨rfl, hg0⟩
  rw [hg0]
  refine A_topi (bz (inR y 9)) (bz_c (in_9 _)) ?_
  refine A_if_ne (tgt := 14) dX11_found_9 rfl (fun h9 => by exact absurd (bz_n0.mp h9) hy) (fun h9 => ?_)
  refine A_iconst (v := -1) dX11_found_12 rfl ?_
  exact A_iret dX11_found_13 rfl (⟨rfl, rfl⟩)
theorem c_found2 (y : Int32) (f : Mem) (s : Sg) (k p rz lz : Ro) (hC : RC f s k p rz lz) (w : wfC s k p) (h96 : R96 f) (d : Cd) (hNc : RNc f d.1 d.2.1 d.2.2.1 d.2.2.2) (hwN : wN d.1 d.2.1 d.2.2.1) (hy : inR y 9) : C0 MX11_found [.ref 93, .int y] f (fun r h => r = some (.int (fouV (s 13 0) d (sch p (s, k)) y)) ∧ R96 h ∧ frS f h) := by
  refine Ct.of (lv := [(0, .ref 93), (1, .int y)]) (by decide) (lb rfl) rfl ?_
  refine A_iload_n dX11_found_0 rfl 1 rfl ?_
  refine A_i2l dX11_found_1 ?_
  refine A_lconst (v := 0) dX11_found_2 rfl ?_
  refine A_ldc2 dX11_found_3 k_RX11_250 ?_
  refine A_callS (M' := MX11_in) [.long y.toInt64, .long 0, .long 8] [] dX11_found_6 lk_RX11_64 oX11_in sX11_in rfl rfl ⟨lb rfl, lb rfl⟩ (lb rfl) ⟨lb rfl, lb rfl⟩ (c_in _ _ _ _) ?_
  rintro _ g0 ⟨rfl, hg0⟩
  rw [hg0]
  refine A_topi (bz (inR y 9)) (bz_c (in_9 _)) ?_
  refine A_if_ne (tgt := 14) dX11_found_9 rfl (fun h9 => ?_) (fun h9 => by exact absurd hy (bz_0.mp h9))
  refine A_aload_n dX11_found_14 rfl 0 rfl ?_
  refine A_callV (M' := MX11_findsAll) [] [] 93 dX11_found_15 lk_RX11_252 oX11_findsAll iX11_findsAll rfl rfl ⟨lb rfl, lb rfl⟩ (lb rfl) ⟨lb rfl, lb rfl⟩ L93 rfl (c_findsAll f s k p rz lz hC w h96) ?_
  rintro _ h ⟨rfl, x, h962, hf⟩
  have hC2 : RC h s k p rz lz := hC.congr (hf.1 94 (by omega)) (hf.1 97 (by omega)) (hf.1 98 (by omega))
  have hJ := Jq_s (p := p) (u := (s, k)) w
  have hW := Jw_s (p := p) (u := (s, k)) w
  have hN2 : RNc h d.1 d.2.1 d.2.2.1 d.2.2.2 := ⟨(hf.2 26 (by decide) (by decide) (by decide) (by decide)).trans hNc.1, fun i hi => by rw [hf.1 109 (by omega)]; exact hNc.2 i hi⟩
  have h600 := hJ.2.1
  refine A_iload_n dX11_found_18 rfl 1 rfl ?_
  rcases sw_8 y with esw | esw | esw | esw | esw | esw | esw | esw | esw
  · refine A_tabIn (off := 45) (tgt := 64) dX11_found_19 (by rw [esw]; decide) (by rw [esw]; decide) (by rw [esw]; rfl) rfl ?_
    refine A_aload_n dX11_found_64 rfl 0 rfl ?_
    refine A_getI dX11_found_65 fo_RX11_231 L93 rfl ?_
    refine A_topi (nI (sch p (s, k)).1) x.1.1 ?_
    exact A_iret dX11_found_68 rfl (⟨by rw [fouV, if_pos esw], h962, hf⟩)
  · refine A_tabIn (off := 50) (tgt := 69) dX11_found_19 (by rw [esw]; decide) (by rw [esw]; decide) (by rw [esw]; rfl) rfl ?_
    refine A_aload_n dX11_found_69 rfl 0 rfl ?_
    refine A_getI dX11_found_70 fo_RX11_234 L93 rfl ?_
    refine A_topi (nI (sch p (s, k)).2.2.2.2.2) x.2.1 ?_
    refine A_if_eq (tgt := 80) dX11_found_73 rfl (fun h73 => ?_) (fun h73 => ?_)
    · refine A_iconst (v := 0) dX11_found_80 rfl ?_
      exact A_iret dX11_found_81 rfl (⟨by rw [fouV, if_neg (show ¬ y = 0 from fun e => by rw [e] at esw; revert esw; decide), if_pos esw]; exact congrArg (fun z => some (Value.int z)) (by have h1 := hJ.2.2.1; exact h73.symm), h962, hf⟩)
    · refine A_iconst (v := 1) dX11_found_76 rfl ?_
      refine A_goto (tgt := 81) dX11_found_77 rfl ?_
      exact A_iret dX11_found_81 rfl (⟨by rw [fouV, if_neg (show ¬ y = 0 from fun e => by rw [e] at esw; revert esw; decide), if_pos esw]; exact congrArg (fun z => some (Value.int z)) (by have h1 := hJ.2.2.1; rw [nI_z (by omega)] at h73; rw [show (sch p (s, k)).2.2.2.2.2 = 1 by omega]; rfl), h962, hf⟩)
  · refine A_tabIn (off := 63) (tgt := 82) dX11_found_19 (by rw [esw]; decide) (by rw [esw]; decide) (by rw [esw]; rfl) rfl ?_
    refine A_aload_n dX11_found_82 rfl 0 rfl ?_
    refine A_iload_n dX11_found_83 rfl 1 rfl ?_
    refine A_iconst (v := 2) dX11_found_84 rfl ?_
    refine A_icmp_ne (tgt := 92) dX11_found_85 rfl (fun h85 => by exact absurd esw h85) (fun h85 => ?_)
    refine A_iconst (v := 1) dX11_found_88 rfl ?_
    refine A_goto (tgt := 93) dX11_found_89 rfl ?_
    refine A_callV (M' := MX11_manyOf) [.int 1] [] 93 dX11_found_93 lk_RX11_255 oX11_manyOf iX11_manyOf rfl rfl ⟨lb rfl, lb rfl⟩ (lb rfl) ⟨lb rfl, lb rfl⟩ L93 rfl (c_many1 h s k p rz lz hC2 w (sch p (s, k)) x hJ) ?_
    rintro _ g0 ⟨rfl, hg0⟩
    rw [hg0]
    exact A_iret dX11_found_96 rfl (⟨by rw [fouV, if_neg (show ¬ y = 0 from fun e => by rw [e] at esw; revert esw; decide), if_neg (show ¬ y = 1 from fun e => by rw [e] at esw; revert esw; decide), if_pos esw], h962, hf⟩)
  · refine A_tabIn (off := 63) (tgt := 82) dX11_found_19 (by rw [esw]; decide) (by rw [esw]; decide) (by rw [esw]; rfl) rfl ?_
    refine A_aload_n dX11_found_82 rfl 0 rfl ?_
    refine A_iload_n dX11_found_83 rfl 1 rfl ?_
    refine A_iconst (v := 2) dX11_found_84 rfl ?_
    refine A_icmp_ne (tgt := 92) dX11_found_85 rfl (fun h85 => ?_) (fun h85 => by rw [h85] at esw; exact absurd esw (by decide))
    refine A_iconst (v := 0) dX11_found_92 rfl ?_
    refine A_callV (M' := MX11_manyOf) [.int 0] [] 93 dX11_found_93 lk_RX11_255 oX11_manyOf iX11_manyOf rfl rfl ⟨lb rfl, lb rfl⟩ (lb rfl) ⟨lb rfl, lb rfl⟩ L93 rfl (c_many0 h s k p rz lz hC2 w (sch p (s, k)) x hJ) ?_
    rintro _ g0 ⟨rfl, hg0⟩
    rw [hg0]
    exact A_iret dX11_found_96 rfl (⟨by rw [fouV, if_neg (show ¬ y = 0 from fun e => by rw [e] at esw; revert esw; decide), if_neg (show ¬ y = 1 from fun e => by rw [e] at esw; revert esw; decide), if_neg (show ¬ y = 2 from fun e => by rw [e] at esw; revert esw; decide), if_pos esw], h962, hf⟩)
  · refine A_tabIn (off := 78) (tgt := 97) dX11_found_19 (by rw [esw]; decide) (by rw [esw]; decide) (by rw [esw]; rfl) rfl ?_
    refine A_aload_n dX11_found_97 rfl 0 rfl ?_
    refine A_callV (M' := MX11_deepest) [] [] 93 dX11_found_98 lk_RX11_259 oX11_deepest iX11_deepest rfl rfl ⟨lb rfl, lb rfl⟩ (lb rfl) ⟨lb rfl, lb rfl⟩ L93 rfl (c_deep h s k p rz lz hC2 w (sch p (s, k)) x hJ hW) ?_
    rintro _ g0 ⟨rfl, hg0⟩
    rw [hg0]
    exact A_iret dX11_found_101 rfl (⟨by rw [fouV, if_neg (show ¬ y = 0 from fun e => by rw [e] at esw; revert esw; decide), if_neg (show ¬ y = 1 from fun e => by rw [e] at esw; revert esw; decide), if_neg (show ¬ y = 2 from fun e => by rw [e] at esw; revert esw; decide), if_neg (show ¬ y = 3 from fun e => by rw [e] at esw; revert esw; decide), if_pos esw], h962, hf⟩)
  · refine A_tabIn (off := 83) (tgt := 102) dX11_found_19 (by rw [esw]; decide) (by rw [esw]; decide) (by rw [esw]; rfl) rfl ?_
    refine A_iload_n dX11_found_102 rfl 1 rfl ?_
    refine A_iconst (v := 5) dX11_found_103 rfl ?_
    refine A_icmp_ne (tgt := 114) dX11_found_104 rfl (fun h104 => by exact absurd esw h104) (fun h104 => ?_)
    refine A_aload_n dX11_found_107 rfl 0 rfl ?_
    refine A_callV (M' := MX11_firstSticking) [] [] 93 dX11_found_108 lk_RX11_262 oX11_firstSticking iX11_firstSticking rfl rfl ⟨lb rfl, lb rfl⟩ (lb rfl) ⟨lb rfl, lb rfl⟩ L93 rfl (c_fS h s k p rz lz hC2 w (sch p (s, k)) x hJ) ?_
    rintro _ g0 ⟨rfl, hg0⟩
    rw [hg0]
    refine A_goto (tgt := 118) dX11_found_111 rfl ?_
    refine A_istore_n (lv' := [(2, .int (nI (stS (s 13 0) (sch p (s, k))) - 1)), (0, .ref 93), (1, .int y)]) dX11_found_118 rfl (lb rfl) rfl ?_
    refine A_iload_n dX11_found_119 rfl 0 rfl ?_
    refine A_if_ge (tgt := 128) dX11_found_120 rfl (fun h120 => ?_) (fun h120 => ?_)
    · have ha := ge_t h120
      have hle : (stS (s 13 0) (sch p (s, k))) ≤ (sch p (s, k)).1 := fi_le _ _
      refine A_aload_n dX11_found_128 rfl 1 rfl ?_
      refine A_getR (b := 107) dX11_found_129 fo_RX11_49 L93 rfl ?_
      refine A_iload_n dX11_found_132 rfl 0 rfl ?_
      refine A_iaload ((stS (s 13 0) (sch p (s, k))) - 1) dX11_found_133 L107 (nI_p1 ha) (by omega) (lb rfl) ?_
      refine A_topi (nI ((sch p (s, k)).2.2.2.2.1 ((stS (s 13 0) (sch p (s, k))) - 1))) (x.2.2.2 _ (by omega)) ?_
      exact A_iret dX11_found_134 rfl (⟨by rw [fouV, if_neg (show ¬ y = 0 from fun e => by rw [e] at esw; revert esw; decide), if_neg (show ¬ y = 1 from fun e => by rw [e] at esw; revert esw; decide), if_neg (show ¬ y = 2 from fun e => by rw [e] at esw; revert esw; decide), if_neg (show ¬ y = 3 from fun e => by rw [e] at esw; revert esw; decide), if_neg (show ¬ y = 4 from fun e => by rw [e] at esw; revert esw; decide), if_pos esw, dpf, if_neg ha], h962, hf⟩)
    · have hle : (stS (s 13 0) (sch p (s, k))) ≤ (sch p (s, k)).1 := fi_le _ _
      have ha := ge_f (by omega) h120
      refine A_bipush (v := -5) dX11_found_123 rfl ?_
      refine A_goto (tgt := 134) dX11_found_125 rfl ?_
      exact A_iret dX11_found_134 rfl (⟨by rw [fouV, if_neg (show ¬ y = 0 from fun e => by rw [e] at esw; revert esw; decide), if_neg (show ¬ y = 1 from fun e => by rw [e] at esw; revert esw; decide), if_neg (show ¬ y = 2 from fun e => by rw [e] at esw; revert esw; decide), if_neg (show ¬ y = 3 from fun e => by rw [e] at esw; revert esw; decide), if_neg (show ¬ y = 4 from fun e => by rw [e] at esw; revert esw; decide), if_pos esw, dpf, if_pos ha], h962, hf⟩)
  · refine A_tabIn (off := 83) (tgt := 102) dX11_found_19 (by rw [esw]; decide) (by rw [esw]; decide) (by rw [esw]; rfl) rfl ?_
    refine A_iload_n dX11_found_102 rfl 1 rfl ?_
    refine A_iconst (v := 5) dX11_found_103 rfl ?_
    refine A_icmp_ne (tgt := 114) dX11_found_104 rfl (fun h104 => ?_) (fun h104 => by rw [h104] at esw; exact absurd esw (by decide))
    refine A_aload_n dX11_found_114 rfl 0 rfl ?_
    refine A_callV (M' := MX11_firstFailing) [] [] 93 dX11_found_115 lk_RX11_265 oX11_firstFailing iX11_firstFailing rfl rfl ⟨lb rfl, lb rfl⟩ (lb rfl) ⟨lb rfl, lb rfl⟩ L93 rfl (c_fF h s k p rz lz hC2 w (sch p (s, k)) x hJ d hN2 hwN) ?_
    rintro _ g0 ⟨rfl, hg0⟩
    rw [hg0]
    refine A_istore_n (lv' := [(2, .int (nI (faS d (sch p (s, k))) - 1)), (0, .ref 93), (1, .int y)]) dX11_found_118 rfl (lb rfl) rfl ?_
    refine A_iload_n dX11_found_119 rfl 0 rfl ?_
    refine A_if_ge (tgt := 128) dX11_found_120 rfl (fun h120 => ?_) (fun h120 => ?_)
    · have ha := ge_t h120
      have hle : (faS d (sch p (s, k))) ≤ (sch p (s, k)).1 := fi_le _ _
      refine A_aload_n dX11_found_128 rfl 1 rfl ?_
      refine A_getR (b := 107) dX11_found_129 fo_RX11_49 L93 rfl ?_
      refine A_iload_n dX11_found_132 rfl 0 rfl ?_
      refine A_iaload ((faS d (sch p (s, k))) - 1) dX11_found_133 L107 (nI_p1 ha) (by omega) (lb rfl) ?_
      refine A_topi (nI ((sch p (s, k)).2.2.2.2.1 ((faS d (sch p (s, k))) - 1))) (x.2.2.2 _ (by omega)) ?_
      exact A_iret dX11_found_134 rfl (⟨by rw [fouV, if_neg (show ¬ y = 0 from fun e => by rw [e] at esw; revert esw; decide), if_neg (show ¬ y = 1 from fun e => by rw [e] at esw; revert esw; decide), if_neg (show ¬ y = 2 from fun e => by rw [e] at esw; revert esw; decide), if_neg (show ¬ y = 3 from fun e => by rw [e] at esw; revert esw; decide), if_neg (show ¬ y = 4 from fun e => by rw [e] at esw; revert esw; decide), if_neg (show ¬ y = 5 from fun e => by rw [e] at esw; revert esw; decide), if_pos esw, dpf, if_neg ha], h962, hf⟩)
    · have hle : (faS d (sch p (s, k))) ≤ (sch p (s, k)).1 := fi_le _ _
      have ha := ge_f (by omega) h120
      refine A_bipush (v := -5) dX11_found_123 rfl ?_
      refine A_goto (tgt := 134) dX11_found_125 rfl ?_
      exact A_iret dX11_found_134 rfl (⟨by rw [fouV, if_neg (show ¬ y = 0 from fun e => by rw [e] at esw; revert esw; decide), if_neg (show ¬ y = 1 from fun e => by rw [e] at esw; revert esw; decide), if_neg (show ¬ y = 2 from fun e => by rw [e] at esw; revert esw; decide), if_neg (show ¬ y = 3 from fun e => by rw [e] at esw; revert esw; decide), if_neg (show ¬ y = 4 from fun e => by rw [e] at esw; revert esw; decide), if_neg (show ¬ y = 5 from fun e => by rw [e] at esw; revert esw; decide), if_pos esw, dpf, if_pos ha], h962, hf⟩)
  · refine A_tabIn (off := 116) (tgt := 135) dX11_found_19 (by rw [esw]; decide) (by rw [esw]; decide) (by rw [esw]; rfl) rfl ?_
    refine A_iconst (v := -1) dX11_found_135 rfl ?_
    refine A_aload_n dX11_found_136 rfl 0 rfl ?_
    refine A_sipush (v := 600) dX11_found_137 rfl ?_
    refine A_callV (M' := MX11_outcomeAt) [.int 600] [.int (-1)] 93 dX11_found_140 lk_RX11_268 oX11_outcomeAt iX11_outcomeAt rfl rfl ⟨lb rfl, lb rfl⟩ (lb rfl) ⟨lb rfl, lb rfl⟩ L93 rfl (c_oa h s k p rz lz hC2 w (sch p (s, k)) x hJ 600) ?_
    rintro _ g0 ⟨rfl, hg0⟩
    rw [hg0]
    refine A_topi (-1 - nI (oL (s 13 0) (sch p (s, k)).2.1 (sch p (s, k)).1).1) (if_neg (fun z => by have z2 := z.2; have e : (600 : Int32).toInt = 600 := (by decide); have l : (oL (s 13 0) (sch p (s, k)).2.1 (sch p (s, k)).1).1 ≤ (sch p (s, k)).1 := ol_le _ _ _; omega)) ?_
    refine A_isub dX11_found_143 ?_
    exact A_iret dX11_found_144 rfl (⟨by rw [fouV, if_neg (show ¬ y = 0 from fun e => by rw [e] at esw; revert esw; decide), if_neg (show ¬ y = 1 from fun e => by rw [e] at esw; revert esw; decide), if_neg (show ¬ y = 2 from fun e => by rw [e] at esw; revert esw; decide), if_neg (show ¬ y = 3 from fun e => by rw [e] at esw; revert esw; decide), if_neg (show ¬ y = 4 from fun e => by rw [e] at esw; revert esw; decide), if_neg (show ¬ y = 5 from fun e => by rw [e] at esw; revert esw; decide), if_neg (show ¬ y = 6 from fun e => by rw [e] at esw; revert esw; decide), if_pos esw, m1_m1], h962, hf⟩)
  · refine A_tabOut (tgt := 145) dX11_found_19 esw rfl ?_
    refine A_aload_n dX11_found_145 rfl 0 rfl ?_
    refine A_callV (M' := MX11_isNested) [] [] 93 dX11_found_146 lk_RX11_271 oX11_isNested iX11_isNested rfl rfl ⟨lb rfl, lb rfl⟩ (lb rfl) ⟨lb rfl, lb rfl⟩ L93 rfl (c_nest h s k p rz lz hC2 w (sch p (s, k)) x hJ) ?_
    rintro _ g0 ⟨rfl, hg0⟩
    rw [hg0]
    refine A_if_eq (tgt := 156) dX11_found_149 rfl (fun h149 => ?_) (fun h149 => ?_)
    · refine A_iconst (v := 0) dX11_found_156 rfl ?_
      exact A_iret dX11_found_157 rfl (⟨by rw [fouV, if_neg (show ¬ y = 0 from fun e => by rw [e] at esw; revert esw; decide), if_neg (show ¬ y = 1 from fun e => by rw [e] at esw; revert esw; decide), if_neg (show ¬ y = 2 from fun e => by rw [e] at esw; revert esw; decide), if_neg (show ¬ y = 3 from fun e => by rw [e] at esw; revert esw; decide), if_neg (show ¬ y = 4 from fun e => by rw [e] at esw; revert esw; decide), if_neg (show ¬ y = 5 from fun e => by rw [e] at esw; revert esw; decide), if_neg (show ¬ y = 6 from fun e => by rw [e] at esw; revert esw; decide), if_neg (show ¬ y = 7 from fun e => by rw [e] at esw; revert esw; decide)]; exact congrArg (fun z => some (Value.int z)) (bz_f (bz_0.mp h149)).symm, h962, hf⟩)
    · refine A_iconst (v := 1) dX11_found_152 rfl ?_
      refine A_goto (tgt := 157) dX11_found_153 rfl ?_
      exact A_iret dX11_found_157 rfl (⟨by rw [fouV, if_neg (show ¬ y = 0 from fun e => by rw [e] at esw; revert esw; decide), if_neg (show ¬ y = 1 from fun e => by rw [e] at esw; revert esw; decide), if_neg (show ¬ y = 2 from fun e => by rw [e] at esw; revert esw; decide), if_neg (show ¬ y = 3 from fun e => by rw [e] at esw; revert esw; decide), if_neg (show ¬ y = 4 from fun e => by rw [e] at esw; revert esw; decide), if_neg (show ¬ y = 5 from fun e => by rw [e] at esw; revert esw; decide), if_neg (show ¬ y = 6 from fun e => by rw [e] at esw; revert esw; decide), if_neg (show ¬ y = 7 from fun e => by rw [e] at esw; revert esw; decide)]; exact congrArg (fun z => some (Value.int z)) (bz_t (bz_n0.mp h149)).symm, h962, hf⟩)
theorem c_goal (y : Int32) (f : Mem) (s : Sg) (k p rz lz : Ro) (hC : RC f s k p rz lz) (w : wfC s k p) (h96 : R96 f) (d : Cd) (hNc : RNc f d.1 d.2.1 d.2.2.1 d.2.2.2) (hwN : wN d.1 d.2.1 d.2.2.1) : C0 MX11_goal [.ref 93, .int y] f (fun r h => r = some (.int (nI (gSt (s 13 0) d (sch p (s, k)) y) - 1)) ∧ RE h (sch p (s, k)) ∧ R96 h ∧ frS f h) := by
  refine Ct.of (lv := [(0, .ref 93), (1, .int y)]) (by decide) (lb rfl) rfl ?_
  refine A_aload_n dX11_goal_0 rfl 0 rfl ?_
  refine A_callV (M' := MX11_findsAll) [] [] 93 dX11_goal_1 lk_RX11_252 oX11_findsAll iX11_findsAll rfl rfl ⟨lb rfl, lb rfl⟩ (lb rfl) ⟨lb rfl, lb rfl⟩ L93 rfl (c_findsAll f s k p rz lz hC w h96) ?_
  rintro _ h ⟨rfl, x, h962, hf⟩
  have hC2 : RC h s k p rz lz := hC.congr (hf.1 94 (by omega)) (hf.1 97 (by omega)) (hf.1 98 (by omega))
  have hJ := Jq_s (p := p) (u := (s, k)) w
  have hW := Jw_s (p := p) (u := (s, k)) w
  have hN2 : RNc h d.1 d.2.1 d.2.2.1 d.2.2.2 := ⟨(hf.2 26 (by decide) (by decide) (by decide) (by decide)).trans hNc.1, fun i hi => by rw [hf.1 109 (by omega)]; exact hNc.2 i hi⟩
  have h600 := hJ.2.1
  refine A_iload_n dX11_goal_4 rfl 1 rfl ?_
  refine A_if_ne (tgt := 15) dX11_goal_5 rfl (fun h5 => ?_) (fun h5 => ?_)
  · refine A_aload_n dX11_goal_15 rfl 0 rfl ?_
    refine A_callV (M' := MX11_firstFailing) [] [] 93 dX11_goal_16 lk_RX11_265 oX11_firstFailing iX11_firstFailing rfl rfl ⟨lb rfl, lb rfl⟩ (lb rfl) ⟨lb rfl, lb rfl⟩ L93 rfl (c_fF h s k p rz lz hC2 w (sch p (s, k)) x hJ d hN2 hwN) ?_
    rintro _ g0 ⟨rfl, hg0⟩
    rw [hg0]
    exact A_iret dX11_goal_19 rfl (⟨by rw [gSt_1 h5], x, h962, hf⟩)
  · refine A_aload_n dX11_goal_8 rfl 0 rfl ?_
    refine A_callV (M' := MX11_firstSticking) [] [] 93 dX11_goal_9 lk_RX11_262 oX11_firstSticking iX11_firstSticking rfl rfl ⟨lb rfl, lb rfl⟩ (lb rfl) ⟨lb rfl, lb rfl⟩ L93 rfl (c_fS h s k p rz lz hC2 w (sch p (s, k)) x hJ) ?_
    rintro _ g0 ⟨rfl, hg0⟩
    rw [hg0]
    refine A_goto (tgt := 19) dX11_goal_12 rfl ?_
    exact A_iret dX11_goal_19 rfl (⟨by rw [gSt_0 h5], x, h962, hf⟩)
theorem c_sched1 (y z : Int32) (f : Mem) (hy : ¬ inR y 2) : C0 MX11_schedule [.ref 93, .int y, .int z] f (rt (some (.int (-1))) f) := by
  refine Ct.of (lv := [(0, .ref 93), (1, .int y), (2, .int z)]) (by decide) (lb rfl) rfl ?_
  refine A_iload_n dX11_schedule_0 rfl 1 rfl ?_
  refine A_i2l dX11_schedule_1 ?_
  refine A_lconst (v := 0) dX11_schedule_2 rfl ?_
  refine A_lconst (v := 1) dX11_schedule_3 rfl ?_
  refine A_callS (M' := MX11_in) [.long y.toInt64, .long 0, .long 1] [] dX11_schedule_4 lk_RX11_64 oX11_in sX11_in rfl rfl ⟨lb rfl, lb rfl⟩ (lb rfl) ⟨lb rfl, lb rfl⟩ (c_in _ _ _ _) ?_
  rintro _ g0 ⟨rfl, hg0⟩
  rw [hg0]
  refine A_topi (bz (inR y 2)) (bz_c (in_2w _)) ?_
  refine A_if_eq (tgt := 18) dX11_schedule_7 rfl (fun h7 => ?_) (fun h7 => by exact absurd (bz_n0.mp h7) hy)
  refine A_iconst (v := -1) dX11_schedule_18 rfl ?_
  refine A_istore_n (lv' := [(3, .int (-1)), (0, .ref 93), (1, .int y), (2, .int z)]) dX11_schedule_19 rfl (lb rfl) rfl ?_
  refine A_iload_n dX11_schedule_20 rfl 0 rfl ?_
  refine A_if_lt (tgt := 42) dX11_schedule_21 rfl (fun h21 => ?_) (fun h21 => by exact absurd (by decide) h21)
  refine A_iconst (v := -1) dX11_schedule_42 rfl ?_
  refine A_goto (tgt := 52) dX11_schedule_43 rfl ?_
  exact A_iret dX11_schedule_52 rfl (⟨rfl, rfl⟩)
theorem c_wayG (f : Mem) (s : Sg) (k p rz lz : Ro) (hC : RC f s k p rz lz) (w : wfC s k p) (q : Sr) (x : RE f q) (hJ : Jq p (s, k) q) (hW : Jw q) (a : Nat) (z : Int32) (ha : ¬ a = 0) (hl : a ≤ q.1) (hz : inR z (q.2.2.2.2.1 (a - 1))) : C0 MX11_onWay [.ref 93, .int (nI a - 1), .int z] f (rt (some (.int (mvV q a z))) f) := by
  have h1 := hW.le (a - 1) (by omega)
  have h2 := hW.2.1
  obtain ⟨i, hi, rfl⟩ := inR_of (by omega) hz
  rw [nI_p1 ha, mv_i hW ha hl hi]
  exact c_way f s k p rz lz hC w q x hJ hW (a - 1) i (by omega) hi
theorem c_sched2 (y z : Int32) (f : Mem) (s : Sg) (k p rz lz : Ro) (hC : RC f s k p rz lz) (w : wfC s k p) (h96 : R96 f) (d : Cd) (hNc : RNc f d.1 d.2.1 d.2.2.1 d.2.2.2) (hwN : wN d.1 d.2.1 d.2.2.1) (hy : inR y 2) : C0 MX11_schedule [.ref 93, .int y, .int z] f (fun r h => r = some (.int (mvV (sch p (s, k)) (gSt (s 13 0) d (sch p (s, k)) y) z)) ∧ R96 h ∧ frS f h) := by
  refine Ct.of (lv := [(0, .ref 93), (1, .int y), (2, .int z)]) (by decide) (lb rfl) rfl ?_
  refine A_iload_n dX11_schedule_0 rfl 1 rfl ?_
  refine A_i2l dX11_schedule_1 ?_
  refine A_lconst (v := 0) dX11_schedule_2 rfl ?_
  refine A_lconst (v := 1) dX11_schedule_3 rfl ?_
  refine A_callS (M' := MX11_in) [.long y.toInt64, .long 0, .long 1] [] dX11_schedule_4 lk_RX11_64 oX11_in sX11_in rfl rfl ⟨lb rfl, lb rfl⟩ (lb rfl) ⟨lb rfl, lb rfl⟩ (c_in _ _ _ _) ?_
  rintro _ g0 ⟨rfl, hg0⟩
  rw [hg0]
  refine A_topi (bz (inR y 2)) (bz_c (in_2w _)) ?_
  refine A_if_eq (tgt := 18) dX11_schedule_7 rfl (fun h7 => by exact absurd hy (bz_0.mp h7)) (fun h7 => ?_)
  refine A_aload_n dX11_schedule_10 rfl 0 rfl ?_
  refine A_iload_n dX11_schedule_11 rfl 1 rfl ?_
  refine A_callV (M' := MX11_goal) [.int y] [] 93 dX11_schedule_12 lk_RX11_275 oX11_goal iX11_goal rfl rfl ⟨lb rfl, lb rfl⟩ (lb rfl) ⟨lb rfl, lb rfl⟩ L93 rfl (c_goal y f s k p rz lz hC w h96 d hNc hwN) ?_
  rintro _ h ⟨rfl, x, h962, hf⟩
  have hC2 : RC h s k p rz lz := hC.congr (hf.1 94 (by omega)) (hf.1 97 (by omega)) (hf.1 98 (by omega))
  have hJ := Jq_s (p := p) (u := (s, k)) w
  have hW := Jw_s (p := p) (u := (s, k)) w
  have h600 := hJ.2.1
  have hga : (gSt (s 13 0) d (sch p (s, k)) y) ≤ (sch p (s, k)).1 := by unfold gSt; split; exact fi_le _ _; exact fi_le _ _
  refine A_goto (tgt := 19) dX11_schedule_15 rfl ?_
  refine A_istore_n (lv' := [(3, .int (nI (gSt (s 13 0) d (sch p (s, k)) y) - 1)), (0, .ref 93), (1, .int y), (2, .int z)]) dX11_schedule_19 rfl (lb rfl) rfl ?_
  refine A_iload_n dX11_schedule_20 rfl 0 rfl ?_
  refine A_if_lt (tgt := 42) dX11_schedule_21 rfl (fun h21 => ?_) (fun h21 => ?_)
  · have ha := lt_t (by omega) h21
    refine A_iconst (v := -1) dX11_schedule_42 rfl ?_
    refine A_goto (tgt := 52) dX11_schedule_43 rfl ?_
    exact A_iret dX11_schedule_52 rfl (⟨by rw [mvV, if_pos (by first | exact .inl ha | exact .inr (bz_0.mp h39))], h962, hf⟩)
  · have ha := lt_f h21
    have hle := hW.le ((gSt (s 13 0) d (sch p (s, k)) y) - 1) (by omega)
    refine A_iload_n dX11_schedule_24 rfl 3 rfl ?_
    refine A_i2l dX11_schedule_25 ?_
    refine A_lconst (v := 0) dX11_schedule_26 rfl ?_
    refine A_aload_n dX11_schedule_27 rfl 1 rfl ?_
    refine A_getR (b := 107) dX11_schedule_28 fo_RX11_49 L93 rfl ?_
    refine A_iload_n dX11_schedule_31 rfl 0 rfl ?_
    refine A_iaload ((gSt (s 13 0) d (sch p (s, k)) y) - 1) dX11_schedule_32 L107 (nI_p1 ha) (by omega) (lb rfl) ?_
    refine A_topi (nI ((sch p (s, k)).2.2.2.2.1 ((gSt (s 13 0) d (sch p (s, k)) y) - 1))) (x.2.2.2 _ (by omega)) ?_
    refine A_iconst (v := 1) dX11_schedule_33 rfl ?_
    refine A_isub dX11_schedule_34 ?_
    refine A_i2l dX11_schedule_35 ?_
    refine A_callS (M' := MX11_in) [.long z.toInt64, .long 0, .long (((nI ((sch p (s, k)).2.2.2.2.1 ((gSt (s 13 0) d (sch p (s, k)) y) - 1))) - 1).toInt64)] [] dX11_schedule_36 lk_RX11_64 oX11_in sX11_in rfl rfl ⟨lb rfl, lb rfl⟩ (lb rfl) ⟨lb rfl, lb rfl⟩ (c_in _ _ _ _) ?_
    rintro _ g0 ⟨rfl, hg0⟩
    rw [hg0]
    refine A_topi (bz (inR z ((sch p (s, k)).2.2.2.2.1 ((gSt (s 13 0) d (sch p (s, k)) y) - 1)))) (bz_c (in_dp (by omega))) ?_
    refine A_if_ne (tgt := 46) dX11_schedule_39 rfl (fun h39 => ?_) (fun h39 => ?_)
    · refine A_aload_n dX11_schedule_46 rfl 1 rfl ?_
      refine A_iload_n dX11_schedule_47 rfl 0 rfl ?_
      refine A_iload_n dX11_schedule_48 rfl 3 rfl ?_
      refine A_callV (M' := MX11_onWay) [.int (nI (gSt (s 13 0) d (sch p (s, k)) y) - 1), .int z] [] 93 dX11_schedule_49 lk_RX11_278 oX11_onWay iX11_onWay rfl rfl ⟨lb rfl, lb rfl⟩ (lb rfl) ⟨lb rfl, lb rfl⟩ L93 rfl (c_wayG h s k p rz lz hC2 w (sch p (s, k)) x hJ hW (gSt (s 13 0) d (sch p (s, k)) y) z ha hga (bz_n0.mp h39)) ?_
      rintro _ g0 ⟨rfl, hg0⟩
      rw [hg0]
      exact A_iret dX11_schedule_52 rfl (⟨rfl, h962, hf⟩)
    · refine A_iconst (v := -1) dX11_schedule_42 rfl ?_
      refine A_goto (tgt := 52) dX11_schedule_43 rfl ?_
      exact A_iret dX11_schedule_52 rfl (⟨by rw [mvV, if_pos (by first | exact .inl ha | exact .inr (bz_0.mp h39))], h962, hf⟩)
theorem c_outc1 (y z : Int32) (f : Mem) (hy : ¬ (¬ y < 0 ∧ inR z 4)) : C0 MX11_outcome [.ref 93, .int y, .int z] f (rt (some (.int (-100))) f) := by
  refine Ct.of (lv := [(0, .ref 93), (1, .int y), (2, .int z)]) (by decide) (lb rfl) rfl ?_
  refine A_iload_n dX11_outcome_0 rfl 1 rfl ?_
  refine A_if_lt (tgt := 11) dX11_outcome_1 rfl (fun h1 => ?_) (fun h1 => ?_)
  · refine A_bipush (v := -100) dX11_outcome_11 rfl ?_
    exact A_iret dX11_outcome_13 rfl (⟨rfl, rfl⟩)
  · refine A_iload_n dX11_outcome_4 rfl 2 rfl ?_
    refine A_callS (M' := MX11_isCell) [.int z] [] dX11_outcome_5 lk_RX11_76 oX11_isCell sX11_isCell rfl rfl ⟨lb rfl, lb rfl⟩ (lb rfl) ⟨lb rfl, lb rfl⟩ (c_isCell z _) ?_
    rintro _ g0 ⟨rfl, hg0⟩
    rw [hg0]
    refine A_if_ne (tgt := 14) dX11_outcome_8 rfl (fun h8 => ?_) (fun h8 => ?_)
    · exact absurd ⟨h1, bz_n0.mp h8⟩ hy
    · refine A_bipush (v := -100) dX11_outcome_11 rfl ?_
      exact A_iret dX11_outcome_13 rfl (⟨rfl, rfl⟩)
theorem neg_1 {a : Nat} (h : a ≤ 600) : ¬ (0 : Int32) ≤ -1 - nI a := by
  rw [Int32.le_iff_toInt_le, Int32.toInt_sub, nI_toInt (by omega), show (-1 : Int32).toInt = -1 from rfl, show (0 : Int32).toInt = 0 from rfl, Int.bmod_eq_of_le] <;> omega
theorem c_outc2 (y : Int32) (c : Nat) (f : Mem) (s : Sg) (k p rz lz : Ro) (hC : RC f s k p rz lz) (w : wfC s k p) (h96 : R96 f) (d : Cd) (hNc : RNc f d.1 d.2.1 d.2.2.1 d.2.2.2) (hwN : wN d.1 d.2.1 d.2.2.1) (hy : ¬ y < 0) (hc : c < 4) (hy2 : inR y (oL (s 13 0) (sch p (s, k)).2.1 (sch p (s, k)).1).1) : C0 MX11_outcome [.ref 93, .int y, .int (nI c)] f (fun r h => r = some (.int (outV (s 13 0) (sch p (s, k)) y c)) ∧ R96 h ∧ frS f h) := by
  refine Ct.of (lv := [(0, .ref 93), (1, .int y), (2, .int (nI c))]) (by decide) (lb rfl) rfl ?_
  refine A_iload_n dX11_outcome_0 rfl 1 rfl ?_
  refine A_if_lt (tgt := 11) dX11_outcome_1 rfl (fun h1 => by exact absurd h1 hy) (fun h1 => ?_)
  refine A_iload_n dX11_outcome_4 rfl 2 rfl ?_
  refine A_callS (M' := MX11_isCell) [.int (nI c)] [] dX11_outcome_5 lk_RX11_76 oX11_isCell sX11_isCell rfl rfl ⟨lb rfl, lb rfl⟩ (lb rfl) ⟨lb rfl, lb rfl⟩ (c_isCell (nI c) _) ?_
  rintro _ g0 ⟨rfl, hg0⟩
  rw [hg0]
  refine A_if_ne (tgt := 14) dX11_outcome_8 rfl (fun h8 => ?_) (fun h8 => by exact absurd ((inR_nI (by omega)).mpr hc) (bz_0.mp h8))
  refine A_aload_n dX11_outcome_14 rfl 0 rfl ?_
  refine A_callV (M' := MX11_findsAll) [] [] 93 dX11_outcome_15 lk_RX11_252 oX11_findsAll iX11_findsAll rfl rfl ⟨lb rfl, lb rfl⟩ (lb rfl) ⟨lb rfl, lb rfl⟩ L93 rfl (c_findsAll f s k p rz lz hC w h96) ?_
  rintro _ h ⟨rfl, x, h962, hf⟩
  have hC2 : RC h s k p rz lz := hC.congr (hf.1 94 (by omega)) (hf.1 97 (by omega)) (hf.1 98 (by omega))
  have hJ := Jq_s (p := p) (u := (s, k)) w
  have hW := Jw_s (p := p) (u := (s, k)) w
  have hN2 : RNc h d.1 d.2.1 d.2.2.1 d.2.2.2 := ⟨(hf.2 26 (by decide) (by decide) (by decide) (by decide)).trans hNc.1, fun i hi => by rw [hf.1 109 (by omega)]; exact hNc.2 i hi⟩
  have h600 := hJ.2.1
  refine A_aload_n dX11_outcome_18 rfl 0 rfl ?_
  refine A_iload_n dX11_outcome_19 rfl 1 rfl ?_
  refine A_callV (M' := MX11_outcomeAt) [.int y] [] 93 dX11_outcome_20 lk_RX11_268 oX11_outcomeAt iX11_outcomeAt rfl rfl ⟨lb rfl, lb rfl⟩ (lb rfl) ⟨lb rfl, lb rfl⟩ L93 rfl (c_oa h s k p rz lz hC2 w (sch p (s, k)) x hJ y) ?_
  rintro _ g0 ⟨rfl, hg0⟩
  rw [hg0]
  refine A_topi (nI ((oL (s 13 0) (sch p (s, k)).2.1 (sch p (s, k)).1).2 y.toNatClampNeg)) (if_pos hy2) ?_
  have hol : (oL (s 13 0) (sch p (s, k)).2.1 (sch p (s, k)).1).1 ≤ (sch p (s, k)).1 := ol_le _ _ _
  have hk : y.toNatClampNeg < (oL (s 13 0) (sch p (s, k)).2.1 (sch p (s, k)).1).1 := by obtain ⟨jj, jl, rfl⟩ := inR_of (by omega) hy2; rw [nI_clamp (by omega)]; exact jl
  have hlt := ol_lt (fun i => ovb (s 13 0) ((sch p (s, k)).2.1 i)) (fun i => cw ((sch p (s, k)).2.1 i).2) (sch p (s, k)).1 y.toNatClampNeg hk
  have hl2 : (oL (s 13 0) (sch p (s, k)).2.1 (sch p (s, k)).1).2 y.toNatClampNeg < (sch p (s, k)).1 := hlt.1
  refine A_istore_n (lv' := [(3, .int (nI ((oL (s 13 0) (sch p (s, k)).2.1 (sch p (s, k)).1).2 y.toNatClampNeg))), (0, .ref 93), (1, .int y), (2, .int (nI c))]) dX11_outcome_23 rfl (lb rfl) rfl ?_
  refine A_iload_n dX11_outcome_24 rfl 0 rfl ?_
  refine A_if_ge (tgt := 33) dX11_outcome_25 rfl (fun h25 => ?_) (fun h25 => by exact absurd (nI_ge0 (by omega)) h25)
  refine A_aload_n dX11_outcome_33 rfl 1 rfl ?_
  refine A_getR (b := 104) dX11_outcome_34 fo_RX11_40 L93 rfl ?_
  refine A_bipush (v := 52) dX11_outcome_37 rfl ?_
  refine A_iload_n dX11_outcome_39 rfl 0 rfl ?_
  refine A_imul dX11_outcome_40 ?_
  refine A_bipush (v := 48) dX11_outcome_41 rfl ?_
  refine A_iadd dX11_outcome_43 ?_
  refine A_iload_n dX11_outcome_44 rfl 3 rfl ?_
  refine A_iadd dX11_outcome_45 ?_
  refine A_iaload (52 * (oL (s 13 0) (sch p (s, k)).2.1 (sch p (s, k)).1).2 y.toNatClampNeg + 48 + c) dX11_outcome_46 L104 (by simp only [lit, nI_add, pk_mul]) (by omega) (lb rfl) ?_
  refine A_topi (((sch p (s, k)).2.1 ((oL (s 13 0) (sch p (s, k)).2.1 (sch p (s, k)).1).2 y.toNatClampNeg)).2 c) (by rw [Nat.add_assoc, x.1.2.1 _ hlt.1 (48 + c) (by omega)]; exact flat_k _ _ hc) ?_
  exact A_iret dX11_outcome_47 rfl (⟨by rw [outV, if_pos hy2], h962, hf⟩)
theorem c_outc3 (y : Int32) (c : Nat) (f : Mem) (s : Sg) (k p rz lz : Ro) (hC : RC f s k p rz lz) (w : wfC s k p) (h96 : R96 f) (d : Cd) (hNc : RNc f d.1 d.2.1 d.2.2.1 d.2.2.2) (hwN : wN d.1 d.2.1 d.2.2.1) (hy : ¬ y < 0) (hc : c < 4) (hy2 : ¬ inR y (oL (s 13 0) (sch p (s, k)).2.1 (sch p (s, k)).1).1) : C0 MX11_outcome [.ref 93, .int y, .int (nI c)] f (fun r h => r = some (.int (outV (s 13 0) (sch p (s, k)) y c)) ∧ R96 h ∧ frS f h) := by
  refine Ct.of (lv := [(0, .ref 93), (1, .int y), (2, .int (nI c))]) (by decide) (lb rfl) rfl ?_
  refine A_iload_n dX11_outcome_0 rfl 1 rfl ?_
  refine A_if_lt (tgt := 11) dX11_outcome_1 rfl (fun h1 => by exact absurd h1 hy) (fun h1 => ?_)
  refine A_iload_n dX11_outcome_4 rfl 2 rfl ?_
  refine A_callS (M' := MX11_isCell) [.int (nI c)] [] dX11_outcome_5 lk_RX11_76 oX11_isCell sX11_isCell rfl rfl ⟨lb rfl, lb rfl⟩ (lb rfl) ⟨lb rfl, lb rfl⟩ (c_isCell (nI c) _) ?_
  rintro _ g0 ⟨rfl, hg0⟩
  rw [hg0]
  refine A_if_ne (tgt := 14) dX11_outcome_8 rfl (fun h8 => ?_) (fun h8 => by exact absurd ((inR_nI (by omega)).mpr hc) (bz_0.mp h8))
  refine A_aload_n dX11_outcome_14 rfl 0 rfl ?_
  refine A_callV (M' := MX11_findsAll) [] [] 93 dX11_outcome_15 lk_RX11_252 oX11_findsAll iX11_findsAll rfl rfl ⟨lb rfl, lb rfl⟩ (lb rfl) ⟨lb rfl, lb rfl⟩ L93 rfl (c_findsAll f s k p rz lz hC w h96) ?_
  rintro _ h ⟨rfl, x, h962, hf⟩
  have hC2 : RC h s k p rz lz := hC.congr (hf.1 94 (by omega)) (hf.1 97 (by omega)) (hf.1 98 (by omega))
  have hJ := Jq_s (p := p) (u := (s, k)) w
  have hW := Jw_s (p := p) (u := (s, k)) w
  have hN2 : RNc h d.1 d.2.1 d.2.2.1 d.2.2.2 := ⟨(hf.2 26 (by decide) (by decide) (by decide) (by decide)).trans hNc.1, fun i hi => by rw [hf.1 109 (by omega)]; exact hNc.2 i hi⟩
  have h600 := hJ.2.1
  refine A_aload_n dX11_outcome_18 rfl 0 rfl ?_
  refine A_iload_n dX11_outcome_19 rfl 1 rfl ?_
  refine A_callV (M' := MX11_outcomeAt) [.int y] [] 93 dX11_outcome_20 lk_RX11_268 oX11_outcomeAt iX11_outcomeAt rfl rfl ⟨lb rfl, lb rfl⟩ (lb rfl) ⟨lb rfl, lb rfl⟩ L93 rfl (c_oa h s k p rz lz hC2 w (sch p (s, k)) x hJ y) ?_
  rintro _ g0 ⟨rfl, hg0⟩
  rw [hg0]
  refine A_topi (-1 - nI (oL (s 13 0) (sch p (s, k)).2.1 (sch p (s, k)).1).1) (if_neg hy2) ?_
  have hol : (oL (s 13 0) (sch p (s, k)).2.1 (sch p (s, k)).1).1 ≤ (sch p (s, k)).1 := ol_le _ _ _
  refine A_istore_n (lv' := [(3, .int (-1 - nI (oL (s 13 0) (sch p (s, k)).2.1 (sch p (s, k)).1).1)), (0, .ref 93), (1, .int y), (2, .int (nI c))]) dX11_outcome_23 rfl (lb rfl) rfl ?_
  refine A_iload_n dX11_outcome_24 rfl 0 rfl ?_
  refine A_if_ge (tgt := 33) dX11_outcome_25 rfl (fun h25 => by exact absurd h25 (neg_1 (by omega))) (fun h25 => ?_)
  refine A_bipush (v := -100) dX11_outcome_28 rfl ?_
  refine A_goto (tgt := 47) dX11_outcome_30 rfl ?_
  exact A_iret dX11_outcome_47 rfl (⟨by rw [outV, if_neg hy2], h962, hf⟩)
theorem c_under1 (x : Int32) (f : Mem) (hx : ¬ inR x 3) : C0 MX11_under [.ref 93, .int x] f (rt (some (.int (-1))) f) := by
  refine Ct.of (lv := [(0, .ref 93), (1, .int x)]) (by decide) (lb rfl) rfl ?_
  refine A_iload_n dX11_under_0 rfl 1 rfl ?_
  refine A_callS (M' := MX11_isMonitor) [.int x] [] dX11_under_1 lk_RX11_72 oX11_isMonitor sX11_isMonitor rfl rfl ⟨lb rfl, lb rfl⟩ (lb rfl) ⟨lb rfl, lb rfl⟩ (c_isMonitor x _) ?_
  rintro _ g0 ⟨rfl, hg0⟩
  rw [hg0]
  refine A_if_ne (tgt := 9) dX11_under_4 rfl (fun h4 => by exact absurd (bz_n0.mp h4) hx) (fun h4 => ?_)
  refine A_iconst (v := -1) dX11_under_7 rfl ?_
  exact A_iret dX11_under_8 rfl (⟨rfl, rfl⟩)
theorem c_under2 (m : Nat) (f : Mem) (s : Sg) (k p rz lz : Ro) (hC : RC f s k p rz lz) (w : wfC s k p) (h96 : R96 f) (d : Cd) (hNc : RNc f d.1 d.2.1 d.2.2.1 d.2.2.2) (hwN : wN d.1 d.2.1 d.2.2.1) (hm : m < 3) : C0 MX11_under [.ref 93, .int (nI m)] f (fun r h => r = some (.int (un p (s 13 0) (sch p (s, k)).2.1 (sch p (s, k)).1 m)) ∧ R96 h ∧ frS f h) := by
  refine Ct.of (lv := [(0, .ref 93), (1, .int (nI m))]) (by decide) (lb rfl) rfl ?_
  refine A_iload_n dX11_under_0 rfl 1 rfl ?_
  refine A_callS (M' := MX11_isMonitor) [.int (nI m)] [] dX11_under_1 lk_RX11_72 oX11_isMonitor sX11_isMonitor rfl rfl ⟨lb rfl, lb rfl⟩ (lb rfl) ⟨lb rfl, lb rfl⟩ (c_isMonitor (nI m) _) ?_
  rintro _ g0 ⟨rfl, hg0⟩
  rw [hg0]
  refine A_if_ne (tgt := 9) dX11_under_4 rfl (fun h4 => ?_) (fun h4 => by exact absurd ((inR_nI (by omega)).mpr hm) (bz_0.mp h4))
  refine A_aload_n dX11_under_9 rfl 0 rfl ?_
  refine A_callV (M' := MX11_findsAll) [] [] 93 dX11_under_10 lk_RX11_252 oX11_findsAll iX11_findsAll rfl rfl ⟨lb rfl, lb rfl⟩ (lb rfl) ⟨lb rfl, lb rfl⟩ L93 rfl (c_findsAll f s k p rz lz hC w h96) ?_
  rintro _ h ⟨rfl, x, h962, hf⟩
  have hC2 : RC h s k p rz lz := hC.congr (hf.1 94 (by omega)) (hf.1 97 (by omega)) (hf.1 98 (by omega))
  have hJ := Jq_s (p := p) (u := (s, k)) w
  have hW := Jw_s (p := p) (u := (s, k)) w
  have hN2 : RNc h d.1 d.2.1 d.2.2.1 d.2.2.2 := ⟨(hf.2 26 (by decide) (by decide) (by decide) (by decide)).trans hNc.1, fun i hi => by rw [hf.1 109 (by omega)]; exact hNc.2 i hi⟩
  have h600 := hJ.2.1
  refine A_aload_n dX11_under_13 rfl 0 rfl ?_
  refine A_iload_n dX11_under_14 rfl 1 rfl ?_
  refine A_callV (M' := MX11_underIn) [.int (nI m)] [] 93 dX11_under_15 lk_RX11_285 oX11_underIn iX11_underIn rfl rfl ⟨lb rfl, lb rfl⟩ (lb rfl) ⟨lb rfl, lb rfl⟩ L93 rfl (c_un h s k p rz lz hC2 w (sch p (s, k)) x hJ m hm) ?_
  rintro _ g0 ⟨rfl, hg0⟩
  rw [hg0]
  exact A_iret dX11_under_18 rfl (⟨rfl, h962, hf⟩)
theorem c_round (f : Mem) (s : Sg) (k p rz lz : Ro) (hC : RC f s k p rz lz) (w : wfC s k p) (h96 : R96 f) (d : Cd) (hNc : RNc f d.1 d.2.1 d.2.2.1 d.2.2.2) (hwN : wN d.1 d.2.1 d.2.2.1) : C0 MX11_round [.ref 93] f (fun r h => r = some (.int (bz (rdP (fun m => un p (s 13 0) (sch p (s, k)).2.1 (sch p (s, k)).1 m) 3))) ∧ R96 h ∧ frS f h) := by
  refine Ct.of (lv := [(0, .ref 93)]) (by decide) (lb rfl) rfl ?_
  refine A_aload_n dX11_round_0 rfl 0 rfl ?_
  refine A_callV (M' := MX11_findsAll) [] [] 93 dX11_round_1 lk_RX11_252 oX11_findsAll iX11_findsAll rfl rfl ⟨lb rfl, lb rfl⟩ (lb rfl) ⟨lb rfl, lb rfl⟩ L93 rfl (c_findsAll f s k p rz lz hC w h96) ?_
  rintro _ h ⟨rfl, x, h962, hf⟩
  have hC2 : RC h s k p rz lz := hC.congr (hf.1 94 (by omega)) (hf.1 97 (by omega)) (hf.1 98 (by omega))
  have hJ := Jq_s (p := p) (u := (s, k)) w
  have hW := Jw_s (p := p) (u := (s, k)) w
  have hN2 : RNc h d.1 d.2.1 d.2.2.1 d.2.2.2 := ⟨(hf.2 26 (by decide) (by decide) (by decide) (by decide)).trans hNc.1, fun i hi => by rw [hf.1 109 (by omega)]; exact hNc.2 i hi⟩
  have h600 := hJ.2.1
  refine A_iconst (v := 0) dX11_round_4 rfl ?_
  refine A_istore_n (lv' := [(1, .int 0), (0, .ref 93)]) dX11_round_5 rfl (lb rfl) rfl ?_
  refine A_iconst (v := 0) dX11_round_6 rfl ?_
  refine A_istore_n (lv' := [(2, .int 0), (1, .int 0), (0, .ref 93)]) dX11_round_7 rfl (lb rfl) rfl ?_
  have r := lc_r4 h (fun m => un p (s 13 0) (sch p (s, k)).2.1 (sch p (s, k)).1 m) (fun m hm => c_un h s k p rz lz hC2 w (sch p (s, k)) x hJ m hm) (fun r g => r = some (.int (bz (rdP (fun m => un p (s 13 0) (sch p (s, k)).2.1 (sch p (s, k)).1 m) 3))) ∧ R96 g ∧ frS f g) ⟨rfl, h962, hf⟩ 0 (by omega)
  rw [show bz (rdP (fun m => un p (s 13 0) (sch p (s, k)).2.1 (sch p (s, k)).1 m) 0) = 0 from bz_f (fun ⟨i, hi, _⟩ => absurd hi (by omega))] at r
  exact r
