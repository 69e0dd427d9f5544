/-! missing, lists: both sides -/
theorem XC_miss {f : Mem} {s : Sg} {k p rz lz : Ro} (hC : XC f s k p rz lz) {m : Nat} (hm : m < 3) (z : Nat) : XC (u2 (u2 f 55 0 0) 8 m (nI z)) (s2 s 14 m z) k p rz lz := by
  obtain ⟨a, b, e, d⟩ := hC
  have hz : ∀ a, a ≠ 8 → a ≠ 55 → u2 (u2 f 55 0 0) 8 m (nI z) a = f a := fun a a1 a2 => by rw [u2_n _ _ _ a1, u2_n _ _ _ a2]
  refine ⟨isD_hi (s2_o s (by decide)) ?_, ⟨?_, fun m' hm' => ?_, fun t ht => ?_, fun t ht j hj => ?_⟩, ?_, fun t ht => ?_⟩
  · obtain ⟨g2, g3, g4, g8, g9, ga, gb, gc⟩ := a
    exact ⟨(hz _ (by omega) (by omega)).trans g2, (hz _ (by omega) (by omega)).trans g3, (hz _ (by omega) (by omega)).trans g4, (hz _ (by omega) (by omega)).trans g8, (hz _ (by omega) (by omega)).trans g9, (hz _ (by omega) (by omega)).trans ga, (hz _ (by omega) (by omega)).trans gb, (hz _ (by omega) (by omega)).trans gc⟩
  · rw [hz _ (by omega) (by omega), s2_c _ (by decide)]; exact b.1
  · rw [show 1 + 7 = 8 from rfl, u2_s, s2_e]
    by_cases q : m' = m
    · rw [q, upd_s, if_pos rfl]
    · rw [upd_n _ _ q, if_neg q, u2_n _ _ _ (by decide)]; exact b.2.1 m' hm'
  · rw [hz _ (by omega) (by omega), s2_c _ (by decide)]; exact b.2.2.1 t ht
  · rw [s2_c _ (by decide)] at hj
    rw [hz _ (by omega) (by omega)]; exact b.2.2.2 t ht j hj
  · rw [hz _ (by omega) (by omega), s2_c _ (by decide)]; exact e
  · rw [hz _ (by omega) (by omega), hz _ (by omega) (by omega)]; exact d t ht
abbrev usedP (s : Sg) (m : Nat) : Prop := ¬ s 3 m = 0 ∨ ¬ s 5 m = 0 ∨ ¬ s 5 (3 + m) = 0
theorem XC.us {f : Mem} {s : Sg} {k p rz lz : Ro} (h : XC f s k p rz lz) (w : wfC s k p) {m : Nat} (hm : m < 3) : C0 MX1_isUsed [.ref 1, .int (nI m)] f (rt (some (.int (bz (usedP s m)))) f) := by
  have e := x_isUsed m f 1 s k (.inl rfl) hm w.1
  rw [h.1.eq] at e
  exact e
theorem gF_um (s : Sg) (k p : Ro) {m : Nat} (hm : m < 3) (x : Nat) : gF (s2 s 14 m x) k p = upd (gF s k p) (53 + m) (nI x) := by
  funext j
  unfold gF upd
  dsimp only
  rw [flat_hi (s2_o s (i := m) (x := x) (show 13 ≤ 14 by decide))]
  by_cases q : j < 52
  · simp [q, show ¬ j = 53 + m by omega]
  · by_cases q2 : j = 52
    · simp [q2, s2, show ¬ 52 = 53 + m by omega]
    · by_cases q3 : j < 56
      · simp only [q, q2, q3, if_true, if_false, s2_e]
        by_cases q4 : j = 53 + m
        · rw [if_pos q4, if_pos (by omega)]
        · rw [if_neg q4, if_neg (by omega)]
      · simp [q, q2, q3, s2, show ¬ j = 53 + m by omega]
theorem x_missing1 (x z : Int32) (f : Mem) (hx : ¬ inR x 3) : C0 MX10_missing [.ref 0, .int x, .int z] f (rt (some (.int (-1))) f) := by
  refine Ct.of (lv := [(0, .ref 0), (1, .int x), (2, .int z)]) (by decide) (lb rfl) rfl ?_
  refine A_iload_n dX10_missing_0 rfl 1 rfl ?_
  refine A_callS (M' := MX10_isMonitor) [.int x] [] dX10_missing_1 lk_RX10_77 oX10_isMonitor sX10_isMonitor rfl rfl ⟨lb rfl, lb rfl⟩ (lb rfl) ⟨lb rfl, lb rfl⟩ (x_isMonitor x _) ?_
  rintro _ g0 ⟨rfl, hg0⟩
  rw [hg0]
  refine A_if_ne (tgt := 9) dX10_missing_4 rfl (fun h4 => by exact absurd (bz_n0.mp h4) hx) (fun h4 => ?_)
  refine A_iconst (v := -1) dX10_missing_7 rfl ?_
  exact A_iret dX10_missing_8 rfl (⟨rfl, rfl⟩)
theorem x_missing2 (m : Nat) (z : Int32) (f : Mem) (s : Sg) (k p rz lz : Ro) (hC : XC f s k p rz lz) (w : wfC s k p) (hm : m < 3) (hu : usedP s m) : C0 MX10_missing [.ref 0, .int (nI m), .int z] f (rt (some (.int (-3))) f) := by
  refine Ct.of (lv := [(0, .ref 0), (1, .int (nI m)), (2, .int z)]) (by decide) (lb rfl) rfl ?_
  refine A_iload_n dX10_missing_0 rfl 1 rfl ?_
  refine A_callS (M' := MX10_isMonitor) [.int (nI m)] [] dX10_missing_1 lk_RX10_77 oX10_isMonitor sX10_isMonitor rfl rfl ⟨lb rfl, lb rfl⟩ (lb rfl) ⟨lb rfl, lb rfl⟩ (x_isMonitor (nI m) _) ?_
  rintro _ g0 ⟨rfl, hg0⟩
  rw [hg0]
  refine A_if_ne (tgt := 9) dX10_missing_4 rfl (fun h4 => ?_) (fun h4 => by exact absurd ((inR_nI (by omega)).mpr hm) (bz_0.mp h4))
  refine A_aload_n dX10_missing_9 rfl 0 rfl ?_
  refine A_getR (b := 1) dX10_missing_10 fo_RX10_10 L0 rfl ?_
  refine A_iload_n dX10_missing_13 rfl 1 rfl ?_
  refine A_callV (M' := MX1_isUsed) [.int (nI m)] [] 1 dX10_missing_14 lk_RX10_81 oX1_isUsed iX1_isUsed rfl rfl ⟨lb rfl, lb rfl⟩ (lb rfl) ⟨lb rfl, lb rfl⟩ L1 rfl (hC.us w hm) ?_
  rintro _ g0 ⟨rfl, hg0⟩
  rw [hg0]
  refine A_if_eq (tgt := 23) dX10_missing_17 rfl (fun h17 => by exact absurd hu (bz_0.mp h17)) (fun h17 => ?_)
  refine A_bipush (v := -3) dX10_missing_20 rfl ?_
  exact A_iret dX10_missing_22 rfl (⟨rfl, rfl⟩)
theorem x_missing3 (m z : Nat) (f : Mem) (s : Sg) (k p rz lz : Ro) (hC : XC f s k p rz lz) (w : wfC s k p) (hm : m < 3) (hu : ¬ usedP s m) (hz1 : z ≤ 1) : C0 MX10_missing [.ref 0, .int (nI m), .int (nI z)] f (fun r h => r = some (.int (nI (s 14 m))) ∧ XC h (s2 s 14 m z) k p rz lz ∧ fC f h) := by
  have h14 := w.2.2.2.1 m hm
  have b01 : ∀ y : Nat, y ≤ 1 → nI y = 0 ∨ nI y = 1 := fun y hy => by
    rcases (show y = 0 ∨ y = 1 by omega) with e | e <;> rw [e]
    · exact .inl rfl
    · exact .inr rfl
  have h01 := b01 _ h14
  have hz := b01 _ hz1
  refine Ct.of (lv := [(0, .ref 0), (1, .int (nI m)), (2, .int (nI z))]) (by decide) (lb rfl) rfl ?_
  refine A_iload_n dX10_missing_0 rfl 1 rfl ?_
  refine A_callS (M' := MX10_isMonitor) [.int (nI m)] [] dX10_missing_1 lk_RX10_77 oX10_isMonitor sX10_isMonitor rfl rfl ⟨lb rfl, lb rfl⟩ (lb rfl) ⟨lb rfl, lb rfl⟩ (x_isMonitor (nI m) _) ?_
  rintro _ g0 ⟨rfl, hg0⟩
  rw [hg0]
  refine A_if_ne (tgt := 9) dX10_missing_4 rfl (fun h4 => ?_) (fun h4 => by exact absurd ((inR_nI (by omega)).mpr hm) (bz_0.mp h4))
  refine A_aload_n dX10_missing_9 rfl 0 rfl ?_
  refine A_getR (b := 1) dX10_missing_10 fo_RX10_10 L0 rfl ?_
  refine A_iload_n dX10_missing_13 rfl 1 rfl ?_
  refine A_callV (M' := MX1_isUsed) [.int (nI m)] [] 1 dX10_missing_14 lk_RX10_81 oX1_isUsed iX1_isUsed rfl rfl ⟨lb rfl, lb rfl⟩ (lb rfl) ⟨lb rfl, lb rfl⟩ L1 rfl (hC.us w hm) ?_
  rintro _ g0 ⟨rfl, hg0⟩
  rw [hg0]
  refine A_if_eq (tgt := 23) dX10_missing_17 rfl (fun h17 => ?_) (fun h17 => by exact absurd (bz_n0.mp h17) hu)
  refine A_aload_n dX10_missing_23 rfl 0 rfl ?_
  refine A_getR (b := 1) dX10_missing_24 fo_RX10_10 L0 rfl ?_
  refine A_getR (b := 8) dX10_missing_27 fo_RX10_84 L1 rfl ?_
  refine A_iload_n dX10_missing_30 rfl 1 rfl ?_
  refine A_zaload m dX10_missing_31 L8 (rfl) (by omega) (lb rfl) ?_
  refine A_topi (nI (s 14 m)) (hC.2.1.2.1 m hm) ?_
  refine A_istore_n (lv' := [(3, .int (nI (s 14 m))), (0, .ref 0), (1, .int (nI m)), (2, .int (nI z))]) dX10_missing_32 rfl (lb rfl) rfl ?_
  refine A_aload_n dX10_missing_33 rfl 1 rfl ?_
  refine A_getR (b := 55) dX10_missing_34 fo_RX10_52 L0 rfl ?_
  refine A_callV (M' := MX6_forget) [] [] 55 dX10_missing_37 lk_RX10_67 oX6_forget iX6_forget rfl rfl ⟨lb rfl, lb rfl⟩ (lb rfl) ⟨lb rfl, lb rfl⟩ L55 rfl (x_forget _) ?_
  rintro _ _ ⟨rfl, rfl⟩
  refine A_aload_n dX10_missing_40 rfl 1 rfl ?_
  refine A_getR (b := 1) dX10_missing_41 fo_RX10_10 L0 rfl ?_
  refine A_getR (b := 8) dX10_missing_44 fo_RX10_84 L1 rfl ?_
  refine A_iload_n dX10_missing_47 rfl 2 rfl ?_
  refine A_iload_n dX10_missing_48 rfl 3 rfl ?_
  refine A_zastore m dX10_missing_49 L8 (rfl) (by omega) (lb rfl) (hz) ?_
  refine A_iload_n dX10_missing_50 rfl 0 rfl ?_
  refine A_callS (M' := MX10_asNumber) [.int (nI (s 14 m))] [] dX10_missing_51 lk_RX10_88 oX10_asNumber sX10_asNumber rfl rfl ⟨lb rfl, lb rfl⟩ (lb rfl) ⟨lb rfl, lb rfl⟩ (x_asNumber (nI (s 14 m)) _ h01) ?_
  rintro _ _ ⟨rfl, rfl⟩
  exact A_iret dX10_missing_54 rfl (⟨rfl, XC_miss hC hm z, by rw [u2_n _ _ _ (by decide), u2_s, upd_s], fun b b1 b2 => by rw [u2_n _ _ _ (by omega), u2_n _ _ _ b2]⟩)
theorem c_missing1 (x z : Int32) (f : Mem) (hx : ¬ inR x 3) : C0 MX11_missing [.ref 93, .int x, .int z] f (rt (some (.int (-1))) f) := by
  refine Ct.of (lv := [(0, .ref 93), (1, .int x), (2, .int z)]) (by decide) (lb rfl) rfl ?_
  refine A_iload_n dX11_missing_0 rfl 1 rfl ?_
  refine A_callS (M' := MX11_isMonitor) [.int x] [] dX11_missing_1 lk_RX11_72 oX11_isMonitor sX11_isMonitor rfl rfl ⟨lb rfl, lb rfl⟩ (lb rfl) ⟨lb rfl, lb rfl⟩ (c_isMonitor x _) ?_
  rintro _ g0 ⟨rfl, hg0⟩
  rw [hg0]
  refine A_if_ne (tgt := 9) dX11_missing_4 rfl (fun h4 => by exact absurd (bz_n0.mp h4) hx) (fun h4 => ?_)
  refine A_iconst (v := -1) dX11_missing_7 rfl ?_
  exact A_iret dX11_missing_8 rfl (⟨rfl, rfl⟩)
theorem RC.ow {f : Mem} {s : Sg} {k p rz lz : Ro} (h : RC f s k p rz lz) {m : Nat} (hm : m < 3) : f 94 (12 + m) = nI (s 3 m) := (h.1 _ (by omega)).trans ((gF_lo (by omega)).trans (flat_3 _ _ hm))
theorem RC.e5 {f : Mem} {s : Sg} {k p rz lz : Ro} (h : RC f s k p rz lz) {m : Nat} (hm : m < 3) : f 94 (18 + m) = nI (s 5 m) := (h.1 _ (by omega)).trans ((gF_lo (by omega)).trans (flat_5 _ _ hm))
theorem RC.w5 {f : Mem} {s : Sg} {k p rz lz : Ro} (h : RC f s k p rz lz) {m : Nat} (hm : m < 3) : f 94 (33 + m) = nI (s 5 (3 + m)) := (h.1 _ (by omega)).trans ((gF_lo (by omega)).trans (flat_6 _ _ hm))
theorem RC.mi {f : Mem} {s : Sg} {k p rz lz : Ro} (h : RC f s k p rz lz) {m : Nat} (hm : m < 3) : f 94 (53 + m) = nI (s 14 m) := (h.1 _ (by omega)).trans (gF_m _ _ _ m hm)
theorem nI_ps {a : Nat} (h : a < 2 ^ 31) : (0 : Int32) < nI a ↔ ¬ a = 0 := by
  rw [show (0 : Int32) = nI 0 from rfl, nI_ltI (by decide) h]; omega
theorem nI_le0 {a : Nat} (h : a < 2 ^ 31) : nI a ≤ 0 ↔ a = 0 := by
  rw [show (0 : Int32) = nI 0 from rfl, nI_leI h (by decide)]; omega
theorem c_missing2 (m : Nat) (z : Int32) (f : Mem) (s : Sg) (k p rz lz : Ro) (hC : RC f s k p rz lz) (w : wfC s k p) (hm : m < 3) (hu : usedP s m) : C0 MX11_missing [.ref 93, .int (nI m), .int z] f (rt (some (.int (-3))) f) := by
  have b3 := (w.1.2.2.2.2 m hm).1
  have b5 := (w.1.1 m (by omega)).1
  have b6 := (w.1.1 (3 + m) (by omega)).1
  refine Ct.of (lv := [(0, .ref 93), (1, .int (nI m)), (2, .int z)]) (by decide) (lb rfl) rfl ?_
  refine A_iload_n dX11_missing_0 rfl 1 rfl ?_
  refine A_callS (M' := MX11_isMonitor) [.int (nI m)] [] dX11_missing_1 lk_RX11_72 oX11_isMonitor sX11_isMonitor rfl rfl ⟨lb rfl, lb rfl⟩ (lb rfl) ⟨lb rfl, lb rfl⟩ (c_isMonitor (nI m) _) ?_
  rintro _ g0 ⟨rfl, hg0⟩
  rw [hg0]
  refine A_if_ne (tgt := 9) dX11_missing_4 rfl (fun h4 => ?_) (fun h4 => by exact absurd ((inR_nI (by omega)).mpr hm) (bz_0.mp h4))
  refine A_aload_n dX11_missing_9 rfl 0 rfl ?_
  refine A_getR (b := 94) dX11_missing_10 fo_RX11_9 L93 rfl ?_
  refine A_bipush (v := 12) dX11_missing_13 rfl ?_
  refine A_iload_n dX11_missing_15 rfl 1 rfl ?_
  refine A_iadd dX11_missing_16 ?_
  refine A_iaload (12 + m) dX11_missing_17 L94 (by simp only [lit, nI_add, pk_mul]) (by omega) (lb rfl) ?_
  refine A_topi (nI (s 3 m)) (hC.ow hm) ?_
  refine A_if_gt (tgt := 45) dX11_missing_18 rfl (fun h18 => ?_) (fun h18 => ?_)
  · refine A_bipush (v := -3) dX11_missing_45 rfl ?_
    exact A_iret dX11_missing_47 rfl (⟨rfl, rfl⟩)
  · refine A_aload_n dX11_missing_21 rfl 0 rfl ?_
    refine A_getR (b := 94) dX11_missing_22 fo_RX11_9 L93 rfl ?_
    refine A_bipush (v := 18) dX11_missing_25 rfl ?_
    refine A_iload_n dX11_missing_27 rfl 1 rfl ?_
    refine A_iadd dX11_missing_28 ?_
    refine A_iaload (18 + m) dX11_missing_29 L94 (by simp only [lit, nI_add, pk_mul]) (by omega) (lb rfl) ?_
    refine A_topi (nI (s 5 m)) (hC.e5 hm) ?_
    refine A_if_gt (tgt := 45) dX11_missing_30 rfl (fun h30 => ?_) (fun h30 => ?_)
    · refine A_bipush (v := -3) dX11_missing_45 rfl ?_
      exact A_iret dX11_missing_47 rfl (⟨rfl, rfl⟩)
    · refine A_aload_n dX11_missing_33 rfl 0 rfl ?_
      refine A_getR (b := 94) dX11_missing_34 fo_RX11_9 L93 rfl ?_
      refine A_bipush (v := 33) dX11_missing_37 rfl ?_
      refine A_iload_n dX11_missing_39 rfl 1 rfl ?_
      refine A_iadd dX11_missing_40 ?_
      refine A_iaload (33 + m) dX11_missing_41 L94 (by simp only [lit, nI_add, pk_mul]) (by omega) (lb rfl) ?_
      refine A_topi (nI (s 5 (3 + m))) (hC.w5 hm) ?_
      refine A_if_le (tgt := 48) dX11_missing_42 rfl (fun h42 => ?_) (fun h42 => ?_)
      · exact absurd hu (by rw [nI_ps (by omega), Classical.not_not] at h18 h30; rw [nI_le0 (by omega)] at h42; unfold usedP; omega)
      · refine A_bipush (v := -3) dX11_missing_45 rfl ?_
        exact A_iret dX11_missing_47 rfl (⟨rfl, rfl⟩)
theorem c_missing3 (m z : Nat) (f : Mem) (s : Sg) (k p rz lz : Ro) (hC : RC f s k p rz lz) (w : wfC s k p) (hm : m < 3) (hu : ¬ usedP s m) (hz1 : z ≤ 1) : C0 MX11_missing [.ref 93, .int (nI m), .int (nI z)] f (fun r h => r = some (.int (nI (s 14 m))) ∧ RC h (s2 s 14 m z) k p rz lz ∧ fG f h) := by
  have b3 := (w.1.2.2.2.2 m hm).1
  have b5 := (w.1.1 m (by omega)).1
  have b6 := (w.1.1 (3 + m) (by omega)).1
  refine Ct.of (lv := [(0, .ref 93), (1, .int (nI m)), (2, .int (nI z))]) (by decide) (lb rfl) rfl ?_
  refine A_iload_n dX11_missing_0 rfl 1 rfl ?_
  refine A_callS (M' := MX11_isMonitor) [.int (nI m)] [] dX11_missing_1 lk_RX11_72 oX11_isMonitor sX11_isMonitor rfl rfl ⟨lb rfl, lb rfl⟩ (lb rfl) ⟨lb rfl, lb rfl⟩ (c_isMonitor (nI m) _) ?_
  rintro _ g0 ⟨rfl, hg0⟩
  rw [hg0]
  refine A_if_ne (tgt := 9) dX11_missing_4 rfl (fun h4 => ?_) (fun h4 => by exact absurd ((inR_nI (by omega)).mpr hm) (bz_0.mp h4))
  refine A_aload_n dX11_missing_9 rfl 0 rfl ?_
  refine A_getR (b := 94) dX11_missing_10 fo_RX11_9 L93 rfl ?_
  refine A_bipush (v := 12) dX11_missing_13 rfl ?_
  refine A_iload_n dX11_missing_15 rfl 1 rfl ?_
  refine A_iadd dX11_missing_16 ?_
  refine A_iaload (12 + m) dX11_missing_17 L94 (by simp only [lit, nI_add, pk_mul]) (by omega) (lb rfl) ?_
  refine A_topi (nI (s 3 m)) (hC.ow hm) ?_
  refine A_if_gt (tgt := 45) dX11_missing_18 rfl (fun h18 => by exact absurd h18 (by rw [nI_ps (by omega)]; unfold usedP at hu; omega)) (fun h18 => ?_)
  refine A_aload_n dX11_missing_21 rfl 0 rfl ?_
  refine A_getR (b := 94) dX11_missing_22 fo_RX11_9 L93 rfl ?_
  refine A_bipush (v := 18) dX11_missing_25 rfl ?_
  refine A_iload_n dX11_missing_27 rfl 1 rfl ?_
  refine A_iadd dX11_missing_28 ?_
  refine A_iaload (18 + m) dX11_missing_29 L94 (by simp only [lit, nI_add, pk_mul]) (by omega) (lb rfl) ?_
  refine A_topi (nI (s 5 m)) (hC.e5 hm) ?_
  refine A_if_gt (tgt := 45) dX11_missing_30 rfl (fun h30 => by exact absurd h30 (by rw [nI_ps (by omega)]; unfold usedP at hu; omega)) (fun h30 => ?_)
  refine A_aload_n dX11_missing_33 rfl 0 rfl ?_
  refine A_getR (b := 94) dX11_missing_34 fo_RX11_9 L93 rfl ?_
  refine A_bipush (v := 33) dX11_missing_37 rfl ?_
  refine A_iload_n dX11_missing_39 rfl 1 rfl ?_
  refine A_iadd dX11_missing_40 ?_
  refine A_iaload (33 + m) dX11_missing_41 L94 (by simp only [lit, nI_add, pk_mul]) (by omega) (lb rfl) ?_
  refine A_topi (nI (s 5 (3 + m))) (hC.w5 hm) ?_
  refine A_if_le (tgt := 48) dX11_missing_42 rfl (fun h42 => ?_) (fun h42 => by exact absurd ((nI_le0 (by omega)).mpr (by unfold usedP at hu; omega)) h42)
  refine A_aload_n dX11_missing_48 rfl 0 rfl ?_
  refine A_getR (b := 94) dX11_missing_49 fo_RX11_9 L93 rfl ?_
  refine A_bipush (v := 53) dX11_missing_52 rfl ?_
  refine A_iload_n dX11_missing_54 rfl 1 rfl ?_
  refine A_iadd dX11_missing_55 ?_
  refine A_iaload (53 + m) dX11_missing_56 L94 (by simp only [lit, nI_add, pk_mul]) (by omega) (lb rfl) ?_
  refine A_topi (nI (s 14 m)) (hC.mi hm) ?_
  refine A_istore_n (lv' := [(3, .int (nI (s 14 m))), (0, .ref 93), (1, .int (nI m)), (2, .int (nI z))]) dX11_missing_57 rfl (lb rfl) rfl ?_
  refine A_aload_n dX11_missing_58 rfl 1 rfl ?_
  refine A_getR (b := 94) dX11_missing_59 fo_RX11_9 L93 rfl ?_
  refine A_bipush (v := 53) dX11_missing_62 rfl ?_
  refine A_iload_n dX11_missing_64 rfl 2 rfl ?_
  refine A_iadd dX11_missing_65 ?_
  refine A_iload_n dX11_missing_66 rfl 3 rfl ?_
  refine A_if_eq (tgt := 74) dX11_missing_67 rfl (fun h67 => ?_) (fun h67 => ?_)
  · rw [nI_z (by omega)] at h67
    refine A_iconst (v := 0) dX11_missing_74 rfl ?_
    refine A_iastore (53 + m) dX11_missing_75 L94 (by simp only [lit, nI_add, pk_mul]) (by omega) (lb rfl) ?_
    refine A_iload_n dX11_missing_76 rfl 0 rfl ?_
    exact A_iret dX11_missing_77 rfl (⟨rfl, RC_up hC (by rw [u2_s]) (by rw [gF_um s k p hm, h67]; rfl) (u2_n _ _ _ (by decide)) (u2_n _ _ _ (by decide)) (s2_row s (by decide)), fun b hb => u2_n _ _ _ hb⟩)
  · rw [nI_z (by omega)] at h67
    refine A_iconst (v := 1) dX11_missing_70 rfl ?_
    refine A_goto (tgt := 75) dX11_missing_71 rfl ?_
    refine A_iastore (53 + m) dX11_missing_75 L94 (by simp only [lit, nI_add, pk_mul]) (by omega) (lb rfl) ?_
    refine A_iload_n dX11_missing_76 rfl 0 rfl ?_
    exact A_iret dX11_missing_77 rfl (⟨rfl, RC_up hC (by rw [u2_s]) (by rw [gF_um s k p hm, show z = 1 by omega]; rfl) (u2_n _ _ _ (by decide)) (u2_n _ _ _ (by decide)) (s2_row s (by decide)), fun b hb => u2_n _ _ _ hb⟩)
