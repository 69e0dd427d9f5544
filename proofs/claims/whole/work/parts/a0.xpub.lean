/-! found, schedule, outcome, under: the class -/
theorem sw_8 (y : Int32) : y = 0 ∨ y = 1 ∨ y = 2 ∨ y = 3 ∨ y = 4 ∨ y = 5 ∨ y = 6 ∨ y = 7 ∨ (y.toInt < 0 ∨ 7 < y.toInt) := by
  by_cases h : inR y 8
  · obtain ⟨j, hj, e⟩ := inR_of (by decide) h
    match j, hj with
    | 0, _ => exact .inl e
    | 1, _ => exact .inr (.inl e)
    | 2, _ => exact .inr (.inr (.inl e))
    | 3, _ => exact .inr (.inr (.inr (.inl e)))
    | 4, _ => exact .inr (.inr (.inr (.inr (.inl e))))
    | 5, _ => exact .inr (.inr (.inr (.inr (.inr (.inl e)))))
    | 6, _ => exact .inr (.inr (.inr (.inr (.inr (.inr (.inl e))))))
    | 7, _ => exact .inr (.inr (.inr (.inr (.inr (.inr (.inr (.inl e)))))))
  · exact .inr (.inr (.inr (.inr (.inr (.inr (.inr (.inr (by unfold inR at h; omega))))))))
abbrev stS (n : Nat) (q : Sr) : Nat := fi (fun i => stb n (q.2.1 i)) q.1
abbrev faS (d : Cd) (q : Sr) : Nat := fi (fun i => fab d (q.2.1 i)) q.1
def gSt (n : Nat) (d : Cd) (q : Sr) (y : Int32) : Nat := if y = 0 then stS n q else faS d q
def fouV (n : Nat) (d : Cd) (q : Sr) (y : Int32) : Int32 := if y = 0 then nI q.1 else if y = 1 then nI q.2.2.2.2.2 else if y = 2 then nI (cnt (fun i => stb n (q.2.1 i)) q.1) else if y = 3 then nI (cnt (fun i => ovb n (q.2.1 i)) q.1) else if y = 4 then dpf q q.1 else if y = 5 then dpf q (stS n q) else if y = 6 then dpf q (faS d q) else if y = 7 then nI (oL n q.2.1 q.1).1 else bz (neP q.2.1 q.1)
def outV (n : Nat) (q : Sr) (y : Int32) (c : Nat) : Int32 := if inR y (oL n q.2.1 q.1).1 then (q.2.1 ((oL n q.2.1 q.1).2 y.toNatClampNeg)).2 c else -100
theorem in9_t {x : Int32} (a : ¬ x < 0) (b : x ≤ 8) : inR x 9 := by
  refine ⟨x_nn a, ?_⟩
  rw [Int32.le_iff_toInt_le] at b
  have e : (8 : Int32).toInt = 8 := by decide
  omega
theorem gSt_0 {n : Nat} {d : Cd} {q : Sr} {y : Int32} (h : y = 0) : gSt n d q y = stS n q := if_pos h
theorem gSt_1 {n : Nat} {d : Cd} {q : Sr} {y : Int32} (h : ¬ y = 0) : gSt n d q y = faS d q := if_neg h
theorem x_gd (f : Mem) (p : Ro) (d : Cd) (u : Pt) (q : Sr) (x : XE f p d u q) (hW : Jw q) : C0 MX6_greatestDepth [.ref 55] f (rt (some (.int (dpf q q.1))) f) := by
  refine Ct.of (lv := [(0, .ref 55)]) (by decide) (lb rfl) rfl ?_
  refine A_aload_n dX6_greatestDepth_0 rfl 0 rfl ?_
  refine A_aload_n dX6_greatestDepth_1 rfl 0 rfl ?_
  refine A_getR (b := 77) dX6_greatestDepth_2 fo_RX6_25 L55 rfl ?_
  refine A_getI dX6_greatestDepth_5 fo_RX6_79 L77 rfl ?_
  refine A_topi (nI q.1) x.1.1 ?_
  refine A_iconst (v := 1) dX6_greatestDepth_8 rfl ?_
  refine A_isub dX6_greatestDepth_9 ?_
  refine A_callV (M' := MX6_depthOf) [.int (nI q.1 - 1)] [] 55 dX6_greatestDepth_10 lk_RX6_144 oX6_depthOf iX6_depthOf rfl rfl ⟨lb rfl, lb rfl⟩ (lb rfl) ⟨lb rfl, lb rfl⟩ L55 rfl (x_depthOf f p d u q x hW q.1 (Nat.le_refl _)) ?_
  rintro _ g0 ⟨rfl, hg0⟩
  rw [hg0]
  exact A_iret dX6_greatestDepth_13 rfl ⟨rfl, rfl⟩
theorem x_found1 (y : Int32) (f : Mem) (hy : ¬ inR y 9) : C0 MX10_found [.ref 0, .int y] f (rt (some (.int (-1))) f) := by
  refine Ct.of (lv := [(0, .ref 0), (1, .int y)]) (by decide) (lb rfl) rfl ?_
  refine A_iload_n dX10_found_0 rfl 1 rfl ?_
  refine A_if_lt (tgt := 10) dX10_found_1 rfl (fun h1 => ?_) (fun h1 => ?_)
  · refine A_iconst (v := -1) dX10_found_10 rfl ?_
    exact A_iret dX10_found_11 rfl (⟨rfl, rfl⟩)
  · refine A_iload_n dX10_found_4 rfl 1 rfl ?_
    refine A_bipush (v := 8) dX10_found_5 rfl ?_
    refine A_icmp_le (tgt := 12) dX10_found_7 rfl (fun h7 => ?_) (fun h7 => ?_)
    · exact absurd (in9_t h1 h7) hy
    · refine A_iconst (v := -1) dX10_found_10 rfl ?_
      exact A_iret dX10_found_11 rfl (⟨rfl, rfl⟩)
theorem in9_n {y : Int32} (h : inR y 9) : ¬ y < 0 ∧ y ≤ 8 := by
  obtain ⟨j, hj, rfl⟩ := inR_of (by decide) h
  exact ⟨nI_nneg (by omega), (nI_leI (b := 8) (by omega) (by decide)).mpr (by omega)⟩
theorem in2_n {y : Int32} (h : inR y 2) : ¬ y < 0 ∧ y ≤ 1 := by
  obtain ⟨j, hj, rfl⟩ := inR_of (by decide) h
  exact ⟨nI_nneg (by omega), (nI_leI (b := 1) (by omega) (by decide)).mpr (by omega)⟩
theorem as_all {q : Sr} (h : q.2.2.2.2.2 ≤ 1) : nI q.2.2.2.2.2 = 0 ∨ nI q.2.2.2.2.2 = 1 := n01 h
theorem x_found2 (y : Int32) (f : Mem) (s : Sg) (k p rz lz : Ro) (hC : XC f s k p rz lz) (w : wfC s k p) (d : Cd) (hNc : XNc f d.1 d.2.1 d.2.2.1 d.2.2.2) (hwN : wN d.1 d.2.1 d.2.2.1) (hS : XS f p d (s, k)) (hy : inR y 9) : C0 MX10_found [.ref 0, .int y] f (fun r h => r = some (.int (fouV (s 13 0) d (sch p (s, k)) y)) ∧ XS h p d (s, k) ∧ ∀ b, b < 55 ∨ 85 < b → h b = f b) := by
  refine Ct.of (lv := [(0, .ref 0), (1, .int y)]) (by decide) (lb rfl) rfl ?_
  refine A_iload_n dX10_found_0 rfl 1 rfl ?_
  refine A_if_lt (tgt := 10) dX10_found_1 rfl (fun h1 => by exact absurd h1 (in9_n hy).1) (fun h1 => ?_)
  refine A_iload_n dX10_found_4 rfl 1 rfl ?_
  refine A_bipush (v := 8) dX10_found_5 rfl ?_
  refine A_icmp_le (tgt := 12) dX10_found_7 rfl (fun h7 => ?_) (fun h7 => by exact absurd (in9_n hy).2 h7)
  refine A_aload_n dX10_found_12 rfl 0 rfl ?_
  refine A_getR (b := 55) dX10_found_13 fo_RX10_52 L0 rfl ?_
  refine A_aload_n dX10_found_16 rfl 0 rfl ?_
  refine A_getR (b := 1) dX10_found_17 fo_RX10_10 L0 rfl ?_
  refine A_aload_n dX10_found_20 rfl 0 rfl ?_
  refine A_getR (b := 51) dX10_found_21 fo_RX10_45 L0 rfl ?_
  refine A_callV (M' := MX6_explore) [.ref 1, .ref 51] [] 55 dX10_found_24 lk_RX10_215 oX6_explore iX6_explore rfl rfl ⟨lb rfl, lb rfl⟩ (lb rfl) ⟨lb rfl, lb rfl⟩ L55 rfl (x_explore f s k p rz lz hC w d hNc hwN hS) ?_
  rintro _ h ⟨rfl, x, hS2, hb⟩
  have hW := Jw_s (p := p) (u := (s, k)) w
  refine A_iload_n dX10_found_27 rfl 1 rfl ?_
  rcases sw_8 y with esw | esw | esw | esw | esw | esw | esw | esw | esw
  · refine A_tabIn (off := 48) (tgt := 76) dX10_found_28 (by rw [esw]; decide) (by rw [esw]; decide) (by rw [esw]; rfl) rfl ?_
    refine A_aload_n dX10_found_76 rfl 0 rfl ?_
    refine A_getR (b := 55) dX10_found_77 fo_RX10_52 L0 rfl ?_
    refine A_getR (b := 77) dX10_found_80 fo_RX10_219 L55 rfl ?_
    refine A_getI dX10_found_83 fo_RX10_223 L77 rfl ?_
    refine A_topi (nI (sch p (s, k)).1) (x.1.1) ?_
    exact A_iret dX10_found_86 rfl (⟨by rw [fouV, if_pos esw], hS2, hb⟩)
  · refine A_tabIn (off := 59) (tgt := 87) dX10_found_28 (by rw [esw]; decide) (by rw [esw]; decide) (by rw [esw]; rfl) rfl ?_
    refine A_aload_n dX10_found_87 rfl 0 rfl ?_
    refine A_getR (b := 55) dX10_found_88 fo_RX10_52 L0 rfl ?_
    refine A_getI dX10_found_91 fo_RX10_226 L55 rfl ?_
    refine A_topi (nI (sch p (s, k)).2.2.2.2.2) (x.2.2.1) ?_
    refine A_callS (M' := MX10_asNumber) [.int (nI (sch p (s, k)).2.2.2.2.2)] [] dX10_found_94 lk_RX10_88 oX10_asNumber sX10_asNumber rfl rfl ⟨lb rfl, lb rfl⟩ (lb rfl) ⟨lb rfl, lb rfl⟩ (x_asNumber (nI (sch p (s, k)).2.2.2.2.2) _ (as_all (Jq_s (p := p) (u := (s, k)) w).2.2.1)) ?_
    rintro _ g0 ⟨rfl, hg0⟩
    rw [hg0]
    exact A_iret dX10_found_97 rfl (⟨by rw [fouV, if_neg (show ¬ y = 0 from fun e => by rw [e] at esw; revert esw; decide), if_pos esw], hS2, hb⟩)
  · refine A_tabIn (off := 70) (tgt := 98) dX10_found_28 (by rw [esw]; decide) (by rw [esw]; decide) (by rw [esw]; rfl) rfl ?_
    refine A_aload_n dX10_found_98 rfl 0 rfl ?_
    refine A_getR (b := 55) dX10_found_99 fo_RX10_52 L0 rfl ?_
    refine A_getI dX10_found_102 fo_RX10_229 L55 rfl ?_
    refine A_topi (nI (cnt (fun i => stb (s 13 0) ((sch p (s, k)).2.1 i)) (sch p (s, k)).1)) (x.2.1.1.1) ?_
    exact A_iret dX10_found_105 rfl (⟨by rw [fouV, if_neg (show ¬ y = 0 from fun e => by rw [e] at esw; revert esw; decide), if_neg (show ¬ y = 1 from fun e => by rw [e] at esw; revert esw; decide), if_pos esw], hS2, hb⟩)
  · refine A_tabIn (off := 78) (tgt := 106) dX10_found_28 (by rw [esw]; decide) (by rw [esw]; decide) (by rw [esw]; rfl) rfl ?_
    refine A_aload_n dX10_found_106 rfl 0 rfl ?_
    refine A_getR (b := 55) dX10_found_107 fo_RX10_52 L0 rfl ?_
    refine A_getI dX10_found_110 fo_RX10_232 L55 rfl ?_
    refine A_topi (nI (cnt (fun i => ovb (s 13 0) ((sch p (s, k)).2.1 i)) (sch p (s, k)).1)) (x.2.1.2.2.1.1) ?_
    exact A_iret dX10_found_113 rfl (⟨by rw [fouV, if_neg (show ¬ y = 0 from fun e => by rw [e] at esw; revert esw; decide), if_neg (show ¬ y = 1 from fun e => by rw [e] at esw; revert esw; decide), if_neg (show ¬ y = 2 from fun e => by rw [e] at esw; revert esw; decide), if_pos esw], hS2, hb⟩)
  · refine A_tabIn (off := 86) (tgt := 114) dX10_found_28 (by rw [esw]; decide) (by rw [esw]; decide) (by rw [esw]; rfl) rfl ?_
    refine A_aload_n dX10_found_114 rfl 0 rfl ?_
    refine A_getR (b := 55) dX10_found_115 fo_RX10_52 L0 rfl ?_
    refine A_callV (M' := MX6_greatestDepth) [] [] 55 dX10_found_118 lk_RX10_235 oX6_greatestDepth iX6_greatestDepth rfl rfl ⟨lb rfl, lb rfl⟩ (lb rfl) ⟨lb rfl, lb rfl⟩ L55 rfl (x_gd h p d (s, k) (sch p (s, k)) x hW) ?_
    rintro _ g0 ⟨rfl, hg0⟩
    rw [hg0]
    exact A_iret dX10_found_121 rfl (⟨by rw [fouV, if_neg (show ¬ y = 0 from fun e => by rw [e] at esw; revert esw; decide), if_neg (show ¬ y = 1 from fun e => by rw [e] at esw; revert esw; decide), if_neg (show ¬ y = 2 from fun e => by rw [e] at esw; revert esw; decide), if_neg (show ¬ y = 3 from fun e => by rw [e] at esw; revert esw; decide), if_pos esw], hS2, hb⟩)
  · refine A_tabIn (off := 94) (tgt := 122) dX10_found_28 (by rw [esw]; decide) (by rw [esw]; decide) (by rw [esw]; rfl) rfl ?_
    refine A_aload_n dX10_found_122 rfl 0 rfl ?_
    refine A_getR (b := 55) dX10_found_123 fo_RX10_52 L0 rfl ?_
    refine A_aload_n dX10_found_126 rfl 0 rfl ?_
    refine A_getR (b := 55) dX10_found_127 fo_RX10_52 L0 rfl ?_
    refine A_getI dX10_found_130 fo_RX10_238 L55 rfl ?_
    refine A_topi (nI (stS (s 13 0) (sch p (s, k))) - 1) (x.2.1.1.2) ?_
    refine A_callV (M' := MX6_depthOf) [.int (nI (stS (s 13 0) (sch p (s, k))) - 1)] [] 55 dX10_found_133 lk_RX10_241 oX6_depthOf iX6_depthOf rfl rfl ⟨lb rfl, lb rfl⟩ (lb rfl) ⟨lb rfl, lb rfl⟩ L55 rfl (x_depthOf h p d (s, k) (sch p (s, k)) x hW (stS (s 13 0) (sch p (s, k))) (fi_le _ _)) ?_
    rintro _ g0 ⟨rfl, hg0⟩
    rw [hg0]
    exact A_iret dX10_found_136 rfl (⟨by rw [fouV, if_neg (show ¬ y = 0 from fun e => by rw [e] at esw; revert esw; decide), if_neg (show ¬ y = 1 from fun e => by rw [e] at esw; revert esw; decide), if_neg (show ¬ y = 2 from fun e => by rw [e] at esw; revert esw; decide), if_neg (show ¬ y = 3 from fun e => by rw [e] at esw; revert esw; decide), if_neg (show ¬ y = 4 from fun e => by rw [e] at esw; revert esw; decide), if_pos esw], hS2, hb⟩)
  · refine A_tabIn (off := 109) (tgt := 137) dX10_found_28 (by rw [esw]; decide) (by rw [esw]; decide) (by rw [esw]; rfl) rfl ?_
    refine A_aload_n dX10_found_137 rfl 0 rfl ?_
    refine A_getR (b := 55) dX10_found_138 fo_RX10_52 L0 rfl ?_
    refine A_aload_n dX10_found_141 rfl 0 rfl ?_
    refine A_getR (b := 55) dX10_found_142 fo_RX10_52 L0 rfl ?_
    refine A_getI dX10_found_145 fo_RX10_244 L55 rfl ?_
    refine A_topi (nI (faS d (sch p (s, k))) - 1) (x.2.1.2.1) ?_
    refine A_callV (M' := MX6_depthOf) [.int (nI (faS d (sch p (s, k))) - 1)] [] 55 dX10_found_148 lk_RX10_241 oX6_depthOf iX6_depthOf rfl rfl ⟨lb rfl, lb rfl⟩ (lb rfl) ⟨lb rfl, lb rfl⟩ L55 rfl (x_depthOf h p d (s, k) (sch p (s, k)) x hW (faS d (sch p (s, k))) (fi_le _ _)) ?_
    rintro _ g0 ⟨rfl, hg0⟩
    rw [hg0]
    exact A_iret dX10_found_151 rfl (⟨by rw [fouV, if_neg (show ¬ y = 0 from fun e => by rw [e] at esw; revert esw; decide), if_neg (show ¬ y = 1 from fun e => by rw [e] at esw; revert esw; decide), if_neg (show ¬ y = 2 from fun e => by rw [e] at esw; revert esw; decide), if_neg (show ¬ y = 3 from fun e => by rw [e] at esw; revert esw; decide), if_neg (show ¬ y = 4 from fun e => by rw [e] at esw; revert esw; decide), if_neg (show ¬ y = 5 from fun e => by rw [e] at esw; revert esw; decide), if_pos esw], hS2, hb⟩)
  · refine A_tabIn (off := 124) (tgt := 152) dX10_found_28 (by rw [esw]; decide) (by rw [esw]; decide) (by rw [esw]; rfl) rfl ?_
    refine A_aload_n dX10_found_152 rfl 0 rfl ?_
    refine A_getR (b := 55) dX10_found_153 fo_RX10_52 L0 rfl ?_
    refine A_getI dX10_found_156 fo_RX10_247 L55 rfl ?_
    refine A_topi (nI (oL (s 13 0) (sch p (s, k)).2.1 (sch p (s, k)).1).1) (x.2.1.2.2.1.2.1) ?_
    exact A_iret dX10_found_159 rfl (⟨by rw [fouV, if_neg (show ¬ y = 0 from fun e => by rw [e] at esw; revert esw; decide), if_neg (show ¬ y = 1 from fun e => by rw [e] at esw; revert esw; decide), if_neg (show ¬ y = 2 from fun e => by rw [e] at esw; revert esw; decide), if_neg (show ¬ y = 3 from fun e => by rw [e] at esw; revert esw; decide), if_neg (show ¬ y = 4 from fun e => by rw [e] at esw; revert esw; decide), if_neg (show ¬ y = 5 from fun e => by rw [e] at esw; revert esw; decide), if_neg (show ¬ y = 6 from fun e => by rw [e] at esw; revert esw; decide), if_pos esw], hS2, hb⟩)
  · refine A_tabOut (tgt := 160) dX10_found_28 esw rfl ?_
    refine A_aload_n dX10_found_160 rfl 0 rfl ?_
    refine A_getR (b := 55) dX10_found_161 fo_RX10_52 L0 rfl ?_
    refine A_getI dX10_found_164 fo_RX10_250 L55 rfl ?_
    refine A_topi (bz (neP (sch p (s, k)).2.1 (sch p (s, k)).1)) (x.2.1.2.2.2.1) ?_
    refine A_callS (M' := MX10_asNumber) [.int (bz (neP (sch p (s, k)).2.1 (sch p (s, k)).1))] [] dX10_found_167 lk_RX10_88 oX10_asNumber sX10_asNumber rfl rfl ⟨lb rfl, lb rfl⟩ (lb rfl) ⟨lb rfl, lb rfl⟩ (x_asNumber (bz (neP (sch p (s, k)).2.1 (sch p (s, k)).1)) _ (bz_01 _)) ?_
    rintro _ g0 ⟨rfl, hg0⟩
    rw [hg0]
    exact A_iret dX10_found_170 rfl (⟨by rw [fouV, if_neg (show ¬ y = 0 from fun e => by rw [e] at esw; revert esw; decide), if_neg (show ¬ y = 1 from fun e => by rw [e] at esw; revert esw; decide), if_neg (show ¬ y = 2 from fun e => by rw [e] at esw; revert esw; decide), if_neg (show ¬ y = 3 from fun e => by rw [e] at esw; revert esw; decide), if_neg (show ¬ y = 4 from fun e => by rw [e] at esw; revert esw; decide), if_neg (show ¬ y = 5 from fun e => by rw [e] at esw; revert esw; decide), if_neg (show ¬ y = 6 from fun e => by rw [e] at esw; revert esw; decide), if_neg (show ¬ y = 7 from fun e => by rw [e] at esw; revert esw; decide)], hS2, hb⟩)
theorem x_sched1 (y z : Int32) (f : Mem) (hy : ¬ inR y 2) : C0 MX10_schedule [.ref 0, .int y, .int z] f (rt (some (.int (-1))) f) := by
  refine Ct.of (lv := [(0, .ref 0), (1, .int y), (2, .int z)]) (by decide) (lb rfl) rfl ?_
  refine A_iload_n dX10_schedule_0 rfl 1 rfl ?_
  refine A_if_lt (tgt := 9) dX10_schedule_1 rfl (fun h1 => ?_) (fun h1 => ?_)
  · refine A_iconst (v := -1) dX10_schedule_9 rfl ?_
    exact A_iret dX10_schedule_10 rfl (⟨rfl, rfl⟩)
  · refine A_iload_n dX10_schedule_4 rfl 1 rfl ?_
    refine A_iconst (v := 1) dX10_schedule_5 rfl ?_
    refine A_icmp_le (tgt := 11) dX10_schedule_6 rfl (fun h6 => ?_) (fun h6 => ?_)
    · exact absurd (in2_t h1 h6) hy
    · refine A_iconst (v := -1) dX10_schedule_9 rfl ?_
      exact A_iret dX10_schedule_10 rfl (⟨rfl, rfl⟩)
theorem x_sched2 (y z : Int32) (f : Mem) (s : Sg) (k p rz lz : Ro) (hC : XC f s k p rz lz) (w : wfC s k p) (d : Cd) (hNc : XNc f d.1 d.2.1 d.2.2.1 d.2.2.2) (hwN : wN d.1 d.2.1 d.2.2.1) (hS : XS f p d (s, k)) (hy : inR y 2) : C0 MX10_schedule [.ref 0, .int y, .int z] f (fun r h => r = some (.int (mvV (sch p (s, k)) (gSt (s 13 0) d (sch p (s, k)) y) z)) ∧ XS h p d (s, k) ∧ ∀ b, b < 55 ∨ 85 < b → h b = f b) := by
  refine Ct.of (lv := [(0, .ref 0), (1, .int y), (2, .int z)]) (by decide) (lb rfl) rfl ?_
  refine A_iload_n dX10_schedule_0 rfl 1 rfl ?_
  refine A_if_lt (tgt := 9) dX10_schedule_1 rfl (fun h1 => by exact absurd h1 (in2_n hy).1) (fun h1 => ?_)
  refine A_iload_n dX10_schedule_4 rfl 1 rfl ?_
  refine A_iconst (v := 1) dX10_schedule_5 rfl ?_
  refine A_icmp_le (tgt := 11) dX10_schedule_6 rfl (fun h6 => ?_) (fun h6 => by exact absurd (in2_n hy).2 h6)
  refine A_aload_n dX10_schedule_11 rfl 0 rfl ?_
  refine A_getR (b := 55) dX10_schedule_12 fo_RX10_52 L0 rfl ?_
  refine A_aload_n dX10_schedule_15 rfl 0 rfl ?_
  refine A_getR (b := 1) dX10_schedule_16 fo_RX10_10 L0 rfl ?_
  refine A_aload_n dX10_schedule_19 rfl 0 rfl ?_
  refine A_getR (b := 51) dX10_schedule_20 fo_RX10_45 L0 rfl ?_
  refine A_callV (M' := MX6_explore) [.ref 1, .ref 51] [] 55 dX10_schedule_23 lk_RX10_215 oX6_explore iX6_explore rfl rfl ⟨lb rfl, lb rfl⟩ (lb rfl) ⟨lb rfl, lb rfl⟩ L55 rfl (x_explore f s k p rz lz hC w d hNc hwN hS) ?_
  rintro _ h ⟨rfl, x, hS2, hb⟩
  have hW := Jw_s (p := p) (u := (s, k)) w
  refine A_aload_n dX10_schedule_26 rfl 0 rfl ?_
  refine A_getR (b := 55) dX10_schedule_27 fo_RX10_52 L0 rfl ?_
  refine A_iload_n dX10_schedule_30 rfl 1 rfl ?_
  refine A_if_ne (tgt := 44) dX10_schedule_31 rfl (fun h31 => ?_) (fun h31 => ?_)
  · refine A_aload_n dX10_schedule_44 rfl 0 rfl ?_
    refine A_getR (b := 55) dX10_schedule_45 fo_RX10_52 L0 rfl ?_
    refine A_getI dX10_schedule_48 fo_RX10_244 L55 rfl ?_
    refine A_topi (nI (faS d (sch p (s, k))) - 1) (x.2.1.2.1) ?_
    refine A_iload_n dX10_schedule_51 rfl 2 rfl ?_
    refine A_callV (M' := MX6_moverOf) [.int (nI (faS d (sch p (s, k))) - 1), .int z] [] 55 dX10_schedule_52 lk_RX10_253 oX6_moverOf iX6_moverOf rfl rfl ⟨lb rfl, lb rfl⟩ (lb rfl) ⟨lb rfl, lb rfl⟩ L55 rfl (x_moverOf h p d (s, k) (sch p (s, k)) x hW (faS d (sch p (s, k))) (fi_le _ _) z) ?_
    rintro _ g0 ⟨rfl, hg0⟩
    rw [hg0]
    refine A_istore_n (lv' := [(3, .int (mvV (sch p (s, k)) (faS d (sch p (s, k))) z)), (0, .ref 0), (1, .int y), (2, .int z)]) dX10_schedule_55 rfl (lb rfl) rfl ?_
    refine A_iload_n dX10_schedule_56 rfl 0 rfl ?_
    refine A_iconst (v := -1) dX10_schedule_57 rfl ?_
    refine A_icmp_ne (tgt := 65) dX10_schedule_58 rfl (fun h58 => ?_) (fun h58 => ?_)
    · refine A_iload_n dX10_schedule_65 rfl 0 rfl ?_
      exact A_iret dX10_schedule_66 rfl (⟨by first | rw [gSt_0 h31] | rw [gSt_1 h31], hS2, hb⟩)
    · refine A_iconst (v := -1) dX10_schedule_61 rfl ?_
      refine A_goto (tgt := 66) dX10_schedule_62 rfl ?_
      exact A_iret dX10_schedule_66 rfl (⟨by first | rw [gSt_0 h31, h58] | rw [gSt_1 h31, h58], hS2, hb⟩)
  · refine A_aload_n dX10_schedule_34 rfl 0 rfl ?_
    refine A_getR (b := 55) dX10_schedule_35 fo_RX10_52 L0 rfl ?_
    refine A_getI dX10_schedule_38 fo_RX10_238 L55 rfl ?_
    refine A_topi (nI (stS (s 13 0) (sch p (s, k))) - 1) (x.2.1.1.2) ?_
    refine A_goto (tgt := 51) dX10_schedule_41 rfl ?_
    refine A_iload_n dX10_schedule_51 rfl 2 rfl ?_
    refine A_callV (M' := MX6_moverOf) [.int (nI (stS (s 13 0) (sch p (s, k))) - 1), .int z] [] 55 dX10_schedule_52 lk_RX10_253 oX6_moverOf iX6_moverOf rfl rfl ⟨lb rfl, lb rfl⟩ (lb rfl) ⟨lb rfl, lb rfl⟩ L55 rfl (x_moverOf h p d (s, k) (sch p (s, k)) x hW (stS (s 13 0) (sch p (s, k))) (fi_le _ _) z) ?_
    rintro _ g0 ⟨rfl, hg0⟩
    rw [hg0]
    refine A_istore_n (lv' := [(3, .int (mvV (sch p (s, k)) (stS (s 13 0) (sch p (s, k))) z)), (0, .ref 0), (1, .int y), (2, .int z)]) dX10_schedule_55 rfl (lb rfl) rfl ?_
    refine A_iload_n dX10_schedule_56 rfl 0 rfl ?_
    refine A_iconst (v := -1) dX10_schedule_57 rfl ?_
    refine A_icmp_ne (tgt := 65) dX10_schedule_58 rfl (fun h58 => ?_) (fun h58 => ?_)
    · refine A_iload_n dX10_schedule_65 rfl 0 rfl ?_
      exact A_iret dX10_schedule_66 rfl (⟨by first | rw [gSt_0 h31] | rw [gSt_1 h31], hS2, hb⟩)
    · refine A_iconst (v := -1) dX10_schedule_61 rfl ?_
      refine A_goto (tgt := 66) dX10_schedule_62 rfl ?_
      exact A_iret dX10_schedule_66 rfl (⟨by first | rw [gSt_0 h31, h58] | rw [gSt_1 h31, h58], hS2, hb⟩)
theorem x_outc1 (y z : Int32) (f : Mem) (hy : ¬ (¬ y < 0 ∧ inR z 4)) : C0 MX10_outcome [.ref 0, .int y, .int z] f (rt (some (.int (-100))) f) := by
  refine Ct.of (lv := [(0, .ref 0), (1, .int y), (2, .int z)]) (by decide) (lb rfl) rfl ?_
  refine A_iload_n dX10_outcome_0 rfl 1 rfl ?_
  refine A_if_lt (tgt := 11) dX10_outcome_1 rfl (fun h1 => ?_) (fun h1 => ?_)
  · refine A_bipush (v := -100) dX10_outcome_11 rfl ?_
    exact A_iret dX10_outcome_13 rfl (⟨rfl, rfl⟩)
  · refine A_iload_n dX10_outcome_4 rfl 2 rfl ?_
    refine A_callS (M' := MX10_isCell) [.int z] [] dX10_outcome_5 lk_RX10_92 oX10_isCell sX10_isCell rfl rfl ⟨lb rfl, lb rfl⟩ (lb rfl) ⟨lb rfl, lb rfl⟩ (x_isCell z _) ?_
    rintro _ g0 ⟨rfl, hg0⟩
    rw [hg0]
    refine A_if_ne (tgt := 14) dX10_outcome_8 rfl (fun h8 => ?_) (fun h8 => ?_)
    · exact absurd ⟨h1, bz_n0.mp h8⟩ hy
    · refine A_bipush (v := -100) dX10_outcome_11 rfl ?_
      exact A_iret dX10_outcome_13 rfl (⟨rfl, rfl⟩)
theorem x_co0 (f : Mem) (p : Ro) (d : Cd) (u : Pt) (n : Nat) (q : Sr) (x : XE f p d u q) (hn : u.1 13 0 = n) (hJ : Jq p u q) (c : Nat) (y : Int32) (hy : ¬ inR y (oL n q.2.1 q.1).1) : C0 MX6_cellOfOutcome [.ref 55, .int y, .int (nI c)] f (rt (some (.int (outV n q y c))) f) := by
  subst hn
  have h600 := hJ.2.1
  have hol : (oL (u.1 13 0) q.2.1 q.1).1 ≤ q.1 := ol_le _ _ _
  refine Ct.of (lv := [(0, .ref 55), (1, .int y), (2, .int (nI c))]) (by decide) (lb rfl) rfl ?_
  refine A_iload_n dX6_cellOfOutcome_0 rfl 1 rfl ?_
  refine A_if_lt (tgt := 12) dX6_cellOfOutcome_1 rfl (fun h1 => ?_) (fun h1 => ?_)
  · refine A_bipush (v := -100) dX6_cellOfOutcome_12 rfl ?_
    refine A_goto (tgt := 27) dX6_cellOfOutcome_14 rfl ?_
    exact A_iret dX6_cellOfOutcome_27 rfl (rti (by rw [outV, if_neg hy]) rfl)
  · refine A_iload_n dX6_cellOfOutcome_4 rfl 1 rfl ?_
    refine A_aload_n dX6_cellOfOutcome_5 rfl 0 rfl ?_
    refine A_getI dX6_cellOfOutcome_6 fo_RX6_64 L55 rfl ?_
    refine A_topi (nI (oL (u.1 13 0) q.2.1 q.1).1) x.2.1.2.2.1.2.1 ?_
    refine A_icmp_lt (tgt := 17) dX6_cellOfOutcome_9 rfl (fun h9 => ?_) (fun h9 => ?_)
    · exact absurd ⟨x_nn h1, by rw [Int32.lt_iff_toInt_lt, nI_toInt (by omega)] at h9; exact h9⟩ hy
    · refine A_bipush (v := -100) dX6_cellOfOutcome_12 rfl ?_
      refine A_goto (tgt := 27) dX6_cellOfOutcome_14 rfl ?_
      exact A_iret dX6_cellOfOutcome_27 rfl (rti (by rw [outV, if_neg hy]) rfl)
theorem x_co1 (f : Mem) (p : Ro) (d : Cd) (u : Pt) (n : Nat) (q : Sr) (x : XE f p d u q) (hn : u.1 13 0 = n) (hJ : Jq p u q) (c : Nat) (hc : c < 4) (j : Nat) (hj : j < (oL n q.2.1 q.1).1) : C0 MX6_cellOfOutcome [.ref 55, .int (nI j), .int (nI c)] f (rt (some (.int (outV n q (nI j) c))) f) := by
  subst hn
  have h600 := hJ.2.1
  have hol : (oL (u.1 13 0) q.2.1 q.1).1 ≤ q.1 := ol_le _ _ _
  refine Ct.of (lv := [(0, .ref 55), (1, .int (nI j)), (2, .int (nI c))]) (by decide) (lb rfl) rfl ?_
  refine A_iload_n dX6_cellOfOutcome_0 rfl 1 rfl ?_
  refine A_if_lt (tgt := 12) dX6_cellOfOutcome_1 rfl (fun h1 => by exact absurd h1 (nI_nneg (by omega))) (fun h1 => ?_)
  refine A_iload_n dX6_cellOfOutcome_4 rfl 1 rfl ?_
  refine A_aload_n dX6_cellOfOutcome_5 rfl 0 rfl ?_
  refine A_getI dX6_cellOfOutcome_6 fo_RX6_64 L55 rfl ?_
  refine A_topi (nI (oL (u.1 13 0) q.2.1 q.1).1) x.2.1.2.2.1.2.1 ?_
  refine A_icmp_lt (tgt := 17) dX6_cellOfOutcome_9 rfl (fun h9 => ?_) (fun h9 => by exact absurd ((nI_ltI (by omega) (by omega)).mpr hj) h9)
  refine A_aload_n dX6_cellOfOutcome_17 rfl 0 rfl ?_
  refine A_getR (b := 84) dX6_cellOfOutcome_18 fo_RX6_39 L55 rfl ?_
  refine A_iload_n dX6_cellOfOutcome_21 rfl 1 rfl ?_
  refine A_iaload j dX6_cellOfOutcome_22 L84 (rfl) (by omega) (lb rfl) ?_
  refine A_topi (nI (cw (q.2.1 ((oL (u.1 13 0) q.2.1 q.1).2 j)).2)) (x.2.1.2.2.1.2.2 j hj) ?_
  refine A_iload_n dX6_cellOfOutcome_23 rfl 2 rfl ?_
  refine A_callS (M' := MX7_unpackedCell) [.int (nI (cw (q.2.1 ((oL (u.1 13 0) q.2.1 q.1).2 j)).2)), .int (nI c)] [] dX6_cellOfOutcome_24 lk_RX6_151 oX7_unpackedCell sX7_unpackedCell rfl rfl ⟨lb rfl, lb rfl⟩ (lb rfl) ⟨lb rfl, lb rfl⟩ (x_unCell f (q.2.1 ((oL (u.1 13 0) q.2.1 q.1).2 j)).2 c (hJ.2.2.2 _ (ol_lt _ _ _ j hj).1).1.2.2.1 hc) ?_
  rintro _ g0 ⟨rfl, hg0⟩
  rw [hg0]
  exact A_iret dX6_cellOfOutcome_27 rfl (rti (by rw [outV, if_pos ((inR_nI (by omega)).mpr hj), nI_clamp (by omega)]) rfl)
theorem x_co (f : Mem) (p : Ro) (d : Cd) (u : Pt) (n : Nat) (q : Sr) (x : XE f p d u q) (hn : u.1 13 0 = n) (hJ : Jq p u q) (c : Nat) (hc : c < 4) (y : Int32) : C0 MX6_cellOfOutcome [.ref 55, .int y, .int (nI c)] f (rt (some (.int (outV n q y c))) f) := by
  by_cases hy : inR y (oL n q.2.1 q.1).1
  · obtain ⟨j, hj, rfl⟩ := inR_of (by have a := hJ.2.1; have b : (oL n q.2.1 q.1).1 ≤ q.1 := ol_le _ _ _; omega) hy
    exact x_co1 f p d u n q x hn hJ c hc j hj
  · exact x_co0 f p d u n q x hn hJ c y hy
theorem x_outc2 (y : Int32) (c : Nat) (f : Mem) (s : Sg) (k p rz lz : Ro) (hC : XC f s k p rz lz) (w : wfC s k p) (d : Cd) (hNc : XNc f d.1 d.2.1 d.2.2.1 d.2.2.2) (hwN : wN d.1 d.2.1 d.2.2.1) (hS : XS f p d (s, k)) (hy : ¬ y < 0) (hc : c < 4) : C0 MX10_outcome [.ref 0, .int y, .int (nI c)] f (fun r h => r = some (.int (outV (s 13 0) (sch p (s, k)) y c)) ∧ XS h p d (s, k) ∧ ∀ b, b < 55 ∨ 85 < b → h b = f b) := by
  refine Ct.of (lv := [(0, .ref 0), (1, .int y), (2, .int (nI c))]) (by decide) (lb rfl) rfl ?_
  refine A_iload_n dX10_outcome_0 rfl 1 rfl ?_
  refine A_if_lt (tgt := 11) dX10_outcome_1 rfl (fun h1 => by exact absurd h1 hy) (fun h1 => ?_)
  refine A_iload_n dX10_outcome_4 rfl 2 rfl ?_
  refine A_callS (M' := MX10_isCell) [.int (nI c)] [] dX10_outcome_5 lk_RX10_92 oX10_isCell sX10_isCell rfl rfl ⟨lb rfl, lb rfl⟩ (lb rfl) ⟨lb rfl, lb rfl⟩ (x_isCell (nI c) _) ?_
  rintro _ g0 ⟨rfl, hg0⟩
  rw [hg0]
  refine A_if_ne (tgt := 14) dX10_outcome_8 rfl (fun h8 => ?_) (fun h8 => by exact absurd ((inR_nI (by omega)).mpr hc) (bz_0.mp h8))
  refine A_aload_n dX10_outcome_14 rfl 0 rfl ?_
  refine A_getR (b := 55) dX10_outcome_15 fo_RX10_52 L0 rfl ?_
  refine A_aload_n dX10_outcome_18 rfl 0 rfl ?_
  refine A_getR (b := 1) dX10_outcome_19 fo_RX10_10 L0 rfl ?_
  refine A_aload_n dX10_outcome_22 rfl 0 rfl ?_
  refine A_getR (b := 51) dX10_outcome_23 fo_RX10_45 L0 rfl ?_
  refine A_callV (M' := MX6_explore) [.ref 1, .ref 51] [] 55 dX10_outcome_26 lk_RX10_215 oX6_explore iX6_explore rfl rfl ⟨lb rfl, lb rfl⟩ (lb rfl) ⟨lb rfl, lb rfl⟩ L55 rfl (x_explore f s k p rz lz hC w d hNc hwN hS) ?_
  rintro _ h ⟨rfl, x, hS2, hb⟩
  have hW := Jw_s (p := p) (u := (s, k)) w
  refine A_aload_n dX10_outcome_29 rfl 0 rfl ?_
  refine A_getR (b := 55) dX10_outcome_30 fo_RX10_52 L0 rfl ?_
  refine A_iload_n dX10_outcome_33 rfl 1 rfl ?_
  refine A_iload_n dX10_outcome_34 rfl 2 rfl ?_
  refine A_callV (M' := MX6_cellOfOutcome) [.int y, .int (nI c)] [] 55 dX10_outcome_35 lk_RX10_256 oX6_cellOfOutcome iX6_cellOfOutcome rfl rfl ⟨lb rfl, lb rfl⟩ (lb rfl) ⟨lb rfl, lb rfl⟩ L55 rfl (x_co h p d (s, k) (s 13 0) (sch p (s, k)) x rfl (Jq_s (p := p) (u := (s, k)) w) c hc y) ?_
  rintro _ g0 ⟨rfl, hg0⟩
  rw [hg0]
  exact A_iret dX10_outcome_38 rfl (⟨rfl, hS2, hb⟩)
theorem x_under1 (x : Int32) (f : Mem) (hx : ¬ inR x 3) : C0 MX10_under [.ref 0, .int x] f (rt (some (.int (-1))) f) := by
  refine Ct.of (lv := [(0, .ref 0), (1, .int x)]) (by decide) (lb rfl) rfl ?_
  refine A_iload_n dX10_under_0 rfl 1 rfl ?_
  refine A_callS (M' := MX10_isMonitor) [.int x] [] dX10_under_1 lk_RX10_77 oX10_isMonitor sX10_isMonitor rfl rfl ⟨lb rfl, lb rfl⟩ (lb rfl) ⟨lb rfl, lb rfl⟩ (x_isMonitor x _) ?_
  rintro _ g0 ⟨rfl, hg0⟩
  rw [hg0]
  refine A_if_ne (tgt := 9) dX10_under_4 rfl (fun h4 => by exact absurd (bz_n0.mp h4) hx) (fun h4 => ?_)
  refine A_iconst (v := -1) dX10_under_7 rfl ?_
  exact A_iret dX10_under_8 rfl (⟨rfl, rfl⟩)
theorem x_under2 (m : Nat) (f : Mem) (s : Sg) (k p rz lz : Ro) (hC : XC f s k p rz lz) (w : wfC s k p) (d : Cd) (hNc : XNc f d.1 d.2.1 d.2.2.1 d.2.2.2) (hwN : wN d.1 d.2.1 d.2.2.1) (hS : XS f p d (s, k)) (hm : m < 3) : C0 MX10_under [.ref 0, .int (nI m)] f (fun r h => r = some (.int (un p (s 13 0) (sch p (s, k)).2.1 (sch p (s, k)).1 m)) ∧ XS h p d (s, k) ∧ ∀ b, b < 55 ∨ 85 < b → h b = f b) := by
  refine Ct.of (lv := [(0, .ref 0), (1, .int (nI m))]) (by decide) (lb rfl) rfl ?_
  refine A_iload_n dX10_under_0 rfl 1 rfl ?_
  refine A_callS (M' := MX10_isMonitor) [.int (nI m)] [] dX10_under_1 lk_RX10_77 oX10_isMonitor sX10_isMonitor rfl rfl ⟨lb rfl, lb rfl⟩ (lb rfl) ⟨lb rfl, lb rfl⟩ (x_isMonitor (nI m) _) ?_
  rintro _ g0 ⟨rfl, hg0⟩
  rw [hg0]
  refine A_if_ne (tgt := 9) dX10_under_4 rfl (fun h4 => ?_) (fun h4 => by exact absurd ((inR_nI (by omega)).mpr hm) (bz_0.mp h4))
  refine A_aload_n dX10_under_9 rfl 0 rfl ?_
  refine A_getR (b := 55) dX10_under_10 fo_RX10_52 L0 rfl ?_
  refine A_aload_n dX10_under_13 rfl 0 rfl ?_
  refine A_getR (b := 1) dX10_under_14 fo_RX10_10 L0 rfl ?_
  refine A_aload_n dX10_under_17 rfl 0 rfl ?_
  refine A_getR (b := 51) dX10_under_18 fo_RX10_45 L0 rfl ?_
  refine A_callV (M' := MX6_explore) [.ref 1, .ref 51] [] 55 dX10_under_21 lk_RX10_215 oX6_explore iX6_explore rfl rfl ⟨lb rfl, lb rfl⟩ (lb rfl) ⟨lb rfl, lb rfl⟩ L55 rfl (x_explore f s k p rz lz hC w d hNc hwN hS) ?_
  rintro _ h ⟨rfl, x, hS2, hb⟩
  have hW := Jw_s (p := p) (u := (s, k)) w
  refine A_aload_n dX10_under_24 rfl 0 rfl ?_
  refine A_getR (b := 55) dX10_under_25 fo_RX10_52 L0 rfl ?_
  refine A_getR (b := 85) dX10_under_28 fo_RX10_259 L55 rfl ?_
  refine A_iload_n dX10_under_31 rfl 1 rfl ?_
  refine A_iaload m dX10_under_32 L85 (rfl) (by omega) (lb rfl) ?_
  refine A_topi (un p (s 13 0) (sch p (s, k)).2.1 (sch p (s, k)).1 m) (x.2.1.2.2.2.2 m hm) ?_
  exact A_iret dX10_under_33 rfl (⟨rfl, hS2, hb⟩)
