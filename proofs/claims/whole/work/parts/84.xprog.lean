/-! program: the class -/
theorem x_readR (f : Mem) (tn : Nat) (c : Nat → Nat) (hT : XTp f tn c) (hc : tcW c tn) {R : Nat × Nat × Ro} (hR : prg c tn 12 0 0 z0 = R) : C0 MX4_read [.ref 43] f (rP f R) := hR ▸ x_read f tn c hT hc
theorem XC_prog {f H : Mem} {s : Sg} {k p rz lz : Ro} (hC : XC f s k p rz lz) (w : wfC s k p) {t n : Nat} {g : Ro} (ht : t < 4) (hn : n ≤ 12) (e1 : H (1 + 13 + 2 * t) 0 = nI n) (e2 : ∀ j, j < 4 * n → H (1 + 13 + 2 * t + 1) j = g j) (e3 : ∀ b, 1 ≤ b → b ≤ 21 → b ≠ 1 + 13 + 2 * t → b ≠ 1 + 13 + 2 * t + 1 → H b = f b) : XC H (s2 s 16 t n) k (nwP p t n g) rz lz := by
  obtain ⟨a, b, c, d⟩ := hC
  refine ⟨isD_hi (s2_o s (by decide)) ?_, ⟨?_, fun m hm => ?_, fun u hu => ?_, fun u hu j hj => ?_⟩, ?_, fun u hu => ?_⟩
  · obtain ⟨g2, g3, g4, g8, g9, ga, gb, gc⟩ := a
    exact ⟨(e3 _ (by omega) (by omega) (by omega) (by omega)).trans g2, (e3 _ (by omega) (by omega) (by omega) (by omega)).trans g3, (e3 _ (by omega) (by omega) (by omega) (by omega)).trans g4, (e3 _ (by omega) (by omega) (by omega) (by omega)).trans g8, (e3 _ (by omega) (by omega) (by omega) (by omega)).trans g9, (e3 _ (by omega) (by omega) (by omega) (by omega)).trans ga, (e3 _ (by omega) (by omega) (by omega) (by omega)).trans gb, (e3 _ (by omega) (by omega) (by omega) (by omega)).trans gc⟩
  · rw [e3 1 (by omega) (by omega) (by omega) (by omega), s2_c _ (by decide)]; exact b.1
  · rw [e3 _ (by omega) (by omega) (by omega) (by omega), s2_c _ (by decide)]; exact b.2.1 m hm
  · rw [s2_e]
    by_cases q : u = t
    · rw [if_pos q, q]; exact e1
    · rw [if_neg q, e3 _ (by omega) (by omega) (by omega) (by omega)]; exact b.2.2.1 u hu
  · rw [s2_e] at hj
    by_cases q : u = t
    · rw [if_pos q] at hj
      rw [q, nwP_i _ _ _ _ hj]; exact e2 j hj
    · rw [if_neg q] at hj
      rw [e3 _ (by omega) (by omega) (by omega) (by omega), nwP_o _ _ q hn (by have := (w.2.1 u hu).1; omega)]; exact b.2.2.2 u hu j hj
  · rw [e3 1 (by omega) (by omega) (by omega) (by omega), s2_c _ (by decide)]; exact c
  · rw [e3 6 (by omega) (by omega) (by omega) (by omega), e3 7 (by omega) (by omega) (by omega) (by omega)]; exact d u hu
theorem x_prog1 (x : Int32) (f : Mem) (s : Sg) (k p rz lz : Ro) (hC : XC f s k p rz lz) (w : wfC s k p) (hx : ¬ inR x (s 13 0)) : C0 MX10_program [.ref 0, .int x] f (rt (some (.int (-1))) f) := by
  refine Ct.of (lv := [(0, .ref 0), (1, .int x)]) (by decide) (lb rfl) rfl ?_
  refine A_aload_n dX10_program_0 rfl 0 rfl ?_
  refine A_iload_n dX10_program_1 rfl 1 rfl ?_
  refine A_callV (M' := MX10_isTask) [.int x] [] 0 dX10_program_2 lk_RX10_111 oX10_isTask iX10_isTask rfl rfl ⟨lb rfl, lb rfl⟩ (lb rfl) ⟨lb rfl, lb rfl⟩ L0 rfl (x_isTask x _ hC.n w.2.2.2.2.1) ?_
  rintro _ g0 ⟨rfl, hg0⟩
  rw [hg0]
  refine A_if_ne (tgt := 10) dX10_program_5 rfl (fun h5 => by exact absurd (bz_n0.mp h5) hx) (fun h5 => ?_)
  refine A_iconst (v := -1) dX10_program_8 rfl ?_
  exact A_iret dX10_program_9 rfl (⟨rfl, rfl⟩)
theorem x_prog2 (t : Nat) (f : Mem) (s : Sg) (k p rz lz : Ro) (hC : XC f s k p rz lz) (w : wfC s k p) (ht : t < s 13 0) (h0 : ¬ (s 0 t = 0 ∧ s 1 t = 0)) : C0 MX10_program [.ref 0, .int (nI t)] f (rt (some (.int (-3))) f) := by
  have h13 := w.2.2.2.2.1
  refine Ct.of (lv := [(0, .ref 0), (1, .int (nI t))]) (by decide) (lb rfl) rfl ?_
  refine A_aload_n dX10_program_0 rfl 0 rfl ?_
  refine A_iload_n dX10_program_1 rfl 1 rfl ?_
  refine A_callV (M' := MX10_isTask) [.int (nI t)] [] 0 dX10_program_2 lk_RX10_111 oX10_isTask iX10_isTask rfl rfl ⟨lb rfl, lb rfl⟩ (lb rfl) ⟨lb rfl, lb rfl⟩ L0 rfl (x_isTask (nI t) _ hC.n w.2.2.2.2.1) ?_
  rintro _ g0 ⟨rfl, hg0⟩
  rw [hg0]
  refine A_if_ne (tgt := 10) dX10_program_5 rfl (fun h5 => ?_) (fun h5 => by exact absurd ((inR_nI (by omega)).mpr ht) (bz_0.mp h5))
  refine A_aload_n dX10_program_10 rfl 0 rfl ?_
  refine A_getR (b := 1) dX10_program_11 fo_RX10_10 L0 rfl ?_
  refine A_getR (b := 3) dX10_program_14 fo_RX10_114 L1 rfl ?_
  refine A_iload_n dX10_program_17 rfl 1 rfl ?_
  refine A_iaload t dX10_program_18 L3 (rfl) (by omega) (lb rfl) ?_
  refine A_topi (nI (s 0 t)) (hC.pl (by omega)) ?_
  refine A_if_ne (tgt := 34) dX10_program_19 rfl (fun h19 => ?_) (fun h19 => ?_)
  · refine A_bipush (v := -3) dX10_program_34 rfl ?_
    exact A_iret dX10_program_36 rfl (⟨rfl, rfl⟩)
  · refine A_aload_n dX10_program_22 rfl 0 rfl ?_
    refine A_getR (b := 1) dX10_program_23 fo_RX10_10 L0 rfl ?_
    refine A_getR (b := 4) dX10_program_26 fo_RX10_117 L1 rfl ?_
    refine A_iload_n dX10_program_29 rfl 1 rfl ?_
    refine A_iaload t dX10_program_30 L4 (rfl) (by omega) (lb rfl) ?_
    refine A_topi (nI (s 1 t)) (hC.st (by omega)) ?_
    refine A_if_eq (tgt := 37) dX10_program_31 rfl (fun h31 => ?_) (fun h31 => ?_)
    · exact absurd ⟨(nI_z (by have := (w.2.1 t (by omega)).2.1; have := (w.2.1 t (by omega)).1; omega)).mp h19, (nI_z (by have := w.s4 (t := t) (by omega); omega)).mp h31⟩ h0
    · refine A_bipush (v := -3) dX10_program_34 rfl ?_
      exact A_iret dX10_program_36 rfl (⟨rfl, rfl⟩)
theorem x_prog3 (t : Nat) (f : Mem) (s : Sg) (k p rz lz : Ro) (hC : XC f s k p rz lz) (w : wfC s k p) (tn : Nat) (c : Nat → Nat) (hT : XTp f tn c) (hc : tcW c tn) (ht : t < s 13 0) (h0 : s 0 t = 0 ∧ s 1 t = 0) {R : Nat × Nat × Ro} (hR : prg c tn 12 0 0 z0 = R) {z : Nat} (hz : R.1 = z + 1) : C0 MX10_program [.ref 0, .int (nI t)] f (pX3 f t R.2.1 z) := by
  have h13 := w.2.2.2.2.1
  have h12 : R.2.1 ≤ 12 := by rw [← hR]; exact prg_le c tn 12 0 0 z0 (by omega)
  have h131 : R.1 ≤ 131 := by rw [← hR]; exact prg_z hc 12 0 0 z0 (by omega)
  refine Ct.of (lv := [(0, .ref 0), (1, .int (nI t))]) (by decide) (lb rfl) rfl ?_
  refine A_aload_n dX10_program_0 rfl 0 rfl ?_
  refine A_iload_n dX10_program_1 rfl 1 rfl ?_
  refine A_callV (M' := MX10_isTask) [.int (nI t)] [] 0 dX10_program_2 lk_RX10_111 oX10_isTask iX10_isTask rfl rfl ⟨lb rfl, lb rfl⟩ (lb rfl) ⟨lb rfl, lb rfl⟩ L0 rfl (x_isTask (nI t) _ hC.n w.2.2.2.2.1) ?_
  rintro _ g0 ⟨rfl, hg0⟩
  rw [hg0]
  refine A_if_ne (tgt := 10) dX10_program_5 rfl (fun h5 => ?_) (fun h5 => by exact absurd ((inR_nI (by omega)).mpr ht) (bz_0.mp h5))
  refine A_aload_n dX10_program_10 rfl 0 rfl ?_
  refine A_getR (b := 1) dX10_program_11 fo_RX10_10 L0 rfl ?_
  refine A_getR (b := 3) dX10_program_14 fo_RX10_114 L1 rfl ?_
  refine A_iload_n dX10_program_17 rfl 1 rfl ?_
  refine A_iaload t dX10_program_18 L3 (rfl) (by omega) (lb rfl) ?_
  refine A_topi (nI (s 0 t)) (hC.pl (by omega)) ?_
  refine A_if_ne (tgt := 34) dX10_program_19 rfl (fun h19 => by exact absurd (by rw [h0.1]; rfl) h19) (fun h19 => ?_)
  refine A_aload_n dX10_program_22 rfl 0 rfl ?_
  refine A_getR (b := 1) dX10_program_23 fo_RX10_10 L0 rfl ?_
  refine A_getR (b := 4) dX10_program_26 fo_RX10_117 L1 rfl ?_
  refine A_iload_n dX10_program_29 rfl 1 rfl ?_
  refine A_iaload t dX10_program_30 L4 (rfl) (by omega) (lb rfl) ?_
  refine A_topi (nI (s 1 t)) (hC.st (by omega)) ?_
  refine A_if_eq (tgt := 37) dX10_program_31 rfl (fun h31 => ?_) (fun h31 => by exact absurd (by rw [h0.2]; rfl) h31)
  refine A_aload_n dX10_program_37 rfl 0 rfl ?_
  refine A_getR (b := 43) dX10_program_38 fo_RX10_26 L0 rfl ?_
  refine A_callV (M' := MX4_read) [] [] 43 dX10_program_41 lk_RX10_120 oX4_read iX4_read rfl rfl ⟨lb rfl, lb rfl⟩ (lb rfl) ⟨lb rfl, lb rfl⟩ L43 rfl (x_readR f tn c hT hc hR) ?_
  rintro _ G ⟨rfl, g1, g2, g3⟩
  refine A_topi (nI z) (by rw [hz, fz_s]) ?_
  refine A_istore_n (lv' := [(2, .int (nI z)), (0, .ref 0), (1, .int (nI t))]) dX10_program_44 rfl (lb rfl) rfl ?_
  refine A_aload_n dX10_program_45 rfl 1 rfl ?_
  refine A_getR (b := 44) dX10_program_46 fo_RX10_34 L0 rfl ?_
  refine A_iconst (v := 0) dX10_program_49 rfl ?_
  refine A_putI dX10_program_50 fo_RX10_102 L44 rfl ?_
  refine A_iload_n dX10_program_53 rfl 0 rfl ?_
  refine A_iconst (v := -1) dX10_program_54 rfl ?_
  refine A_icmp_eq (tgt := 82) dX10_program_55 rfl (fun h55 => by exact absurd h55 (nI_n1 (by omega))) (fun h55 => ?_)
  refine A_aload_n dX10_program_58 rfl 1 rfl ?_
  refine A_getR (b := 48) dX10_program_59 fo_RX10_38 L0 rfl ?_
  refine A_iload_n dX10_program_62 rfl 2 rfl ?_
  refine A_aload_n dX10_program_63 rfl 1 rfl ?_
  refine A_getR (b := 43) dX10_program_64 fo_RX10_26 L0 rfl ?_
  refine A_getR (b := 46) dX10_program_67 fo_RX10_123 L43 rfl ?_
  refine A_getI dX10_program_70 fo_RX10_127 L46 rfl ?_
  refine A_topi (G 46 0) (by simp [u2, ur, upd]) ?_
  refine A_topi (nI R.2.1) (g1) ?_
  refine A_iload_n dX10_program_73 rfl 0 rfl ?_
  refine A_callV (M' := MX9_ofProgram) [.int (nI t), .int (nI R.2.1), .int (nI z)] [] 48 dX10_program_74 lk_RX10_130 oX9_ofProgram iX9_ofProgram rfl rfl ⟨lb rfl, lb rfl⟩ (lb rfl) ⟨lb rfl, lb rfl⟩ L48 rfl (x_ofProgram _ (nI t) (nI R.2.1) (nI z)) ?_
  rintro _ H ⟨rfl, q1, q2, q3, q4⟩
  refine A_bipush (v := -100) dX10_program_77 rfl ?_
  refine A_iload_n dX10_program_79 rfl 0 rfl ?_
  refine A_isub dX10_program_80 ?_
  exact A_iret dX10_program_81 rfl (⟨rfl, by rw [q4 44 (by omega)]; simp [u2, ur, upd], q1, q2, q3, fun b hb => (q4 b (by omega)).trans ((u2_n _ _ _ (by omega)).trans (g3 b (by omega) (by omega) (by omega)))⟩)
theorem x_prog4 (t : Nat) (f : Mem) (s : Sg) (k p rz lz : Ro) (hC : XC f s k p rz lz) (w : wfC s k p) (tn : Nat) (c : Nat → Nat) (hT : XTp f tn c) (hc : tcW c tn) (ht : t < s 13 0) (h0 : s 0 t = 0 ∧ s 1 t = 0) {R : Nat × Nat × Ro} (hR : prg c tn 12 0 0 z0 = R) (hz : R.1 = 0) : C0 MX10_program [.ref 0, .int (nI t)] f (pX4 f s k p rz lz t R.2.1 R.2.2) := by
  have h13 := w.2.2.2.2.1
  have h12 : R.2.1 ≤ 12 := by rw [← hR]; exact prg_le c tn 12 0 0 z0 (by omega)
  have h131 : R.1 ≤ 131 := by rw [← hR]; exact prg_z hc 12 0 0 z0 (by omega)
  refine Ct.of (lv := [(0, .ref 0), (1, .int (nI t))]) (by decide) (lb rfl) rfl ?_
  refine A_aload_n dX10_program_0 rfl 0 rfl ?_
  refine A_iload_n dX10_program_1 rfl 1 rfl ?_
  refine A_callV (M' := MX10_isTask) [.int (nI t)] [] 0 dX10_program_2 lk_RX10_111 oX10_isTask iX10_isTask rfl rfl ⟨lb rfl, lb rfl⟩ (lb rfl) ⟨lb rfl, lb rfl⟩ L0 rfl (x_isTask (nI t) _ hC.n w.2.2.2.2.1) ?_
  rintro _ g0 ⟨rfl, hg0⟩
  rw [hg0]
  refine A_if_ne (tgt := 10) dX10_program_5 rfl (fun h5 => ?_) (fun h5 => by exact absurd ((inR_nI (by omega)).mpr ht) (bz_0.mp h5))
  refine A_aload_n dX10_program_10 rfl 0 rfl ?_
  refine A_getR (b := 1) dX10_program_11 fo_RX10_10 L0 rfl ?_
  refine A_getR (b := 3) dX10_program_14 fo_RX10_114 L1 rfl ?_
  refine A_iload_n dX10_program_17 rfl 1 rfl ?_
  refine A_iaload t dX10_program_18 L3 (rfl) (by omega) (lb rfl) ?_
  refine A_topi (nI (s 0 t)) (hC.pl (by omega)) ?_
  refine A_if_ne (tgt := 34) dX10_program_19 rfl (fun h19 => by exact absurd (by rw [h0.1]; rfl) h19) (fun h19 => ?_)
  refine A_aload_n dX10_program_22 rfl 0 rfl ?_
  refine A_getR (b := 1) dX10_program_23 fo_RX10_10 L0 rfl ?_
  refine A_getR (b := 4) dX10_program_26 fo_RX10_117 L1 rfl ?_
  refine A_iload_n dX10_program_29 rfl 1 rfl ?_
  refine A_iaload t dX10_program_30 L4 (rfl) (by omega) (lb rfl) ?_
  refine A_topi (nI (s 1 t)) (hC.st (by omega)) ?_
  refine A_if_eq (tgt := 37) dX10_program_31 rfl (fun h31 => ?_) (fun h31 => by exact absurd (by rw [h0.2]; rfl) h31)
  refine A_aload_n dX10_program_37 rfl 0 rfl ?_
  refine A_getR (b := 43) dX10_program_38 fo_RX10_26 L0 rfl ?_
  refine A_callV (M' := MX4_read) [] [] 43 dX10_program_41 lk_RX10_120 oX4_read iX4_read rfl rfl ⟨lb rfl, lb rfl⟩ (lb rfl) ⟨lb rfl, lb rfl⟩ L43 rfl (x_readR f tn c hT hc hR) ?_
  rintro _ G ⟨rfl, g1, g2, g3⟩
  refine A_topi (-1) (by rw [hz, fz_0]) ?_
  refine A_istore_n (lv' := [(2, .int (-1)), (0, .ref 0), (1, .int (nI t))]) dX10_program_44 rfl (lb rfl) rfl ?_
  refine A_aload_n dX10_program_45 rfl 1 rfl ?_
  refine A_getR (b := 44) dX10_program_46 fo_RX10_34 L0 rfl ?_
  refine A_iconst (v := 0) dX10_program_49 rfl ?_
  refine A_putI dX10_program_50 fo_RX10_102 L44 rfl ?_
  refine A_iload_n dX10_program_53 rfl 0 rfl ?_
  refine A_iconst (v := -1) dX10_program_54 rfl ?_
  refine A_icmp_eq (tgt := 82) dX10_program_55 rfl (fun h55 => ?_) (fun h55 => by exact absurd rfl h55)
  refine A_aload_n dX10_program_82 rfl 1 rfl ?_
  refine A_getR (b := 55) dX10_program_83 fo_RX10_52 L0 rfl ?_
  refine A_callV (M' := MX6_forget) [] [] 55 dX10_program_86 lk_RX10_67 oX6_forget iX6_forget rfl rfl ⟨lb rfl, lb rfl⟩ (lb rfl) ⟨lb rfl, lb rfl⟩ L55 rfl (x_forget _) ?_
  rintro _ _ ⟨rfl, rfl⟩
  refine A_aload_n dX10_program_89 rfl 1 rfl ?_
  refine A_getR (b := 1) dX10_program_90 fo_RX10_10 L0 rfl ?_
  refine A_getR (b := 2) dX10_program_93 fo_RX10_134 L1 rfl ?_
  refine A_iload_n dX10_program_96 rfl 2 rfl ?_
  refine A_aaload2 (b := 1 + 13 + 2 * t) t dX10_program_97 L2 (rfl) (by omega) (lb rfl) ((isDesk.prog (d := 1) (.inl rfl) (show t < 4 by omega)).2) ?_
  refine A_aload_n dX10_program_98 rfl 1 rfl ?_
  refine A_getR (b := 43) dX10_program_99 fo_RX10_26 L0 rfl ?_
  refine A_getR (b := 46) dX10_program_102 fo_RX10_123 L43 rfl ?_
  refine A_callV (M' := MX3_copyFrom) [.ref 46] [] (1 + 13 + 2 * t) dX10_program_105 lk_RX10_138 oX3_copyFrom iX3_copyFrom rfl rfl ⟨lb rfl, lb rfl⟩ (lb rfl) ⟨lb rfl, lb rfl⟩ ((isDesk.prog (d := 1) (.inl rfl) (show t < 4 by omega)).1.1) rfl (x_pcopy _ (1 + 13 + 2 * t) 46 (isDesk.prog (d := 1) (.inl rfl) (show t < 4 by omega)).1 isProg46 (by omega)) ?_
  rintro _ H ⟨rfl, hH⟩
  have e1 : H (1 + 13 + 2 * t) 0 = nI R.2.1 := by rw [hH, ur_n _ _ (by omega), u2, ur_s, upd_s, u2_n _ _ _ (by decide), u2_n _ _ _ (by decide)]; exact g1
  have e2 : ∀ j, j < 4 * R.2.1 → H (1 + 13 + 2 * t + 1) j = R.2.2 j := fun j hj => by rw [hH, ur_s, cpR, if_pos (by omega), u2_n _ _ _ (by decide), u2_n _ _ _ (by decide)]; exact g2 j hj
  have e3 : ∀ b, b ≠ 1 + 13 + 2 * t → b ≠ 1 + 13 + 2 * t + 1 → b ≠ 44 → b ≠ 55 → H b = G b := fun b b1 b2 b3 b4 => by rw [hH, ur_n _ _ b2, u2_n _ _ _ b1, u2_n _ _ _ b4, u2_n _ _ _ b3]
  refine A_aload_n dX10_program_108 rfl 1 rfl ?_
  refine A_getR (b := 1) dX10_program_109 fo_RX10_10 L0 rfl ?_
  refine A_getR (b := 2) dX10_program_112 fo_RX10_134 L1 rfl ?_
  refine A_iload_n dX10_program_115 rfl 2 rfl ?_
  refine A_aaload2 (b := 1 + 13 + 2 * t) t dX10_program_116 L2 (rfl) (by omega) (lb rfl) ((isDesk.prog (d := 1) (.inl rfl) (show t < 4 by omega)).2) ?_
  refine A_getI dX10_program_117 fo_RX10_127 ((isDesk.prog (d := 1) (.inl rfl) (show t < 4 by omega)).1.1) rfl ?_
  refine A_topi (nI R.2.1) (e1) ?_
  exact A_iret dX10_program_120 rfl (⟨rfl, XC_prog hC w (by omega) h12 e1 e2 (fun b b1 b2 b3 b4 => (e3 b b3 b4 (by omega) (by omega)).trans (g3 b (by omega) (by omega) (by omega))), by rw [hH, ur_n _ _ (by omega), u2_n _ _ _ (by omega), u2_n _ _ _ (by decide)]; simp [u2, ur, upd], by rw [hH, ur_n _ _ (by omega), u2_n _ _ _ (by omega)]; simp [u2, ur, upd], fun b b1 b2 b3 b4 b5 b6 => (e3 b (by omega) (by omega) b2 b5).trans (g3 b b1 b3 b4)⟩)
