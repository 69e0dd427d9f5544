/-! the class: task, cells, tape -/
def fC (f h : Mem) : Prop := h 55 0 = 0 ∧ ∀ b, (b = 0 ∨ 22 ≤ b) → b ≠ 55 → h b = f b
theorem XC.k4 {f : Mem} {s : Sg} {k p rz lz : Ro} (h : XC f s k p rz lz) {c : Nat} (hc : c < 4) : f 13 c = k c := by
  have e := h.1.2.2.2.2.2.2.2
  rw [show (13 : Nat) = 1 + 12 from rfl, e]; simp [rK, hc]
theorem s2_o (s : Sg) {c i x : Nat} (h : 13 ≤ c) : ∀ a, a < 13 → s2 s c i x a = s a := fun a ha => s2_row s (by omega)
theorem XC_task {f : Mem} {s : Sg} {k p rz lz : Ro} (hC : XC f s k p rz lz) (w : wfC s k p) (hn : s 13 0 < 4) : XC (u2 (u2 (u2 f 55 0 0) (1 + 13 + 2 * s 13 0) 0 0) 1 0 (nI (s 13 0) + 1)) (s2 s 13 0 (s 13 0 + 1)) k p rz lz := by
  have h16 := w.2.2.2.2.2.2.1
  obtain ⟨a, b, c, d⟩ := hC
  have hz : ∀ a, a ≠ 1 → a ≠ 1 + 13 + 2 * s 13 0 → a ≠ 55 → u2 (u2 (u2 f 55 0 0) (1 + 13 + 2 * s 13 0) 0 0) 1 0 (nI (s 13 0) + 1) a = f a := fun a a1 a2 a3 => by
    rw [u2_n _ _ _ a1, u2_n _ _ _ a2, u2_n _ _ _ a3]
  refine ⟨isD_hi (s2_o s (by decide)) ?_, ⟨?_, fun m hm => ?_, fun t ht => ?_, fun t ht j hj => ?_⟩, ?_, fun t ht => ?_⟩
  · obtain ⟨g2, g3, g4, g8, g9, ga, gb, gc⟩ := a
    exact ⟨(hz _ (by omega) (by omega) (by omega)).trans g2, (hz _ (by omega) (by omega) (by omega)).trans g3, (hz _ (by omega) (by omega) (by omega)).trans g4, (hz _ (by omega) (by omega) (by omega)).trans g8, (hz _ (by omega) (by omega) (by omega)).trans g9, (hz _ (by omega) (by omega) (by omega)).trans ga, (hz _ (by omega) (by omega) (by omega)).trans gb, (hz _ (by omega) (by omega) (by omega)).trans gc⟩
  · rw [u2_s, upd_s, s2_s]; exact nI_add _ 1
  · rw [hz _ (by omega) (by omega) (by omega), s2_c _ (by decide)]; exact b.2.1 m hm
  · rw [s2_c _ (by decide), u2_n _ _ _ (by omega)]
    by_cases e : t = s 13 0
    · rw [e, u2_s, upd_s, h16 (s 13 0) (by omega) hn]; rfl
    · rw [u2_n _ _ _ (by omega), u2_n _ _ _ (by omega)]; exact b.2.2.1 t ht
  · rw [s2_c _ (by decide)] at hj
    rw [hz _ (by omega) (by omega) (by omega)]; exact b.2.2.2 t ht j hj
  · rw [s2_c _ (by decide), u2_s, upd_n _ _ (by decide), u2_n _ _ _ (by omega), u2_n _ _ _ (by omega)]; exact c
  · rw [hz _ (by omega) (by omega) (by omega), hz _ (by omega) (by omega) (by omega)]; exact d t ht
theorem XC_put {f : Mem} {s : Sg} {k p rz lz : Ro} (hC : XC f s k p rz lz) {c : Nat} (hc : c < 4) (v : Int32) : XC (u2 (u2 f 55 0 0) 13 c v) s (upd k c v) p rz lz := by
  obtain ⟨a, b, e, d⟩ := hC
  have hz : ∀ a, a ≠ 13 → a ≠ 55 → u2 (u2 f 55 0 0) 13 c v a = f a := fun a a1 a2 => by rw [u2_n _ _ _ a1, u2_n _ _ _ a2]
  refine ⟨?_, ⟨?_, fun m hm => ?_, fun t ht => ?_, fun t ht j hj => ?_⟩, ?_, fun t ht => ?_⟩
  · obtain ⟨g2, g3, g4, g8, g9, ga, gb, gc⟩ := a
    refine ⟨(hz _ (by omega) (by omega)).trans g2, (hz _ (by omega) (by omega)).trans g3, (hz _ (by omega) (by omega)).trans g4, (hz _ (by omega) (by omega)).trans g8, (hz _ (by omega) (by omega)).trans g9, (hz _ (by omega) (by omega)).trans ga, (hz _ (by omega) (by omega)).trans gb, ?_⟩
    rw [show 1 + 12 = 13 from rfl, u2_s, u2_n _ _ _ (by omega), show (13 : Nat) = 1 + 12 from rfl, gc, rK_u _ _ hc]
  · rw [hz _ (by omega) (by omega)]; exact b.1
  · rw [hz _ (by omega) (by omega)]; exact b.2.1 m hm
  · rw [hz _ (by omega) (by omega)]; exact b.2.2.1 t ht
  · rw [hz _ (by omega) (by omega)]; exact b.2.2.2 t ht j hj
  · rw [hz _ (by omega) (by omega)]; exact e
  · rw [hz _ (by omega) (by omega), hz _ (by omega) (by omega)]; exact d t ht
theorem x_task1 (f : Mem) (s : Sg) (k p rz lz : Ro) (hC : XC f s k p rz lz) (w : wfC s k p) (hn : s 13 0 = 4) : C0 MX10_task [.ref 0] f (rt (some (.int (-4))) f) := by
  refine Ct.of (lv := [(0, .ref 0)]) (by decide) (lb rfl) rfl ?_
  refine A_aload_n dX10_task_0 rfl 0 rfl ?_
  refine A_getR (b := 1) dX10_task_1 fo_RX10_10 L0 rfl ?_
  refine A_getI dX10_task_4 fo_RX10_63 L1 rfl ?_
  refine A_topi (nI (s 13 0)) (hC.n) ?_
  refine A_iconst (v := 4) dX10_task_7 rfl ?_
  refine A_icmp_lt (tgt := 14) dX10_task_8 rfl (fun h8 => by exact absurd h8 (by rw [hn]; decide)) (fun h8 => ?_)
  refine A_bipush (v := -4) dX10_task_11 rfl ?_
  exact A_iret dX10_task_13 rfl (⟨rfl, rfl⟩)
theorem x_task2 (f : Mem) (s : Sg) (k p rz lz : Ro) (hC : XC f s k p rz lz) (w : wfC s k p) (hn : s 13 0 < 4) : C0 MX10_task [.ref 0] f (fun r h => r = some (.int (nI (s 13 0))) ∧ XC h (s2 s 13 0 (s 13 0 + 1)) k p rz lz ∧ fC f h) := by
  refine Ct.of (lv := [(0, .ref 0)]) (by decide) (lb rfl) rfl ?_
  refine A_aload_n dX10_task_0 rfl 0 rfl ?_
  refine A_getR (b := 1) dX10_task_1 fo_RX10_10 L0 rfl ?_
  refine A_getI dX10_task_4 fo_RX10_63 L1 rfl ?_
  refine A_topi (nI (s 13 0)) (hC.n) ?_
  refine A_iconst (v := 4) dX10_task_7 rfl ?_
  refine A_icmp_lt (tgt := 14) dX10_task_8 rfl (fun h8 => ?_) (fun h8 => by exact absurd ((nI_ltI (by omega) (by omega)).mpr hn) h8)
  refine A_aload_n dX10_task_14 rfl 0 rfl ?_
  refine A_getR (b := 55) dX10_task_15 fo_RX10_52 L0 rfl ?_
  refine A_callV (M' := MX6_forget) [] [] 55 dX10_task_18 lk_RX10_67 oX6_forget iX6_forget rfl rfl ⟨lb rfl, lb rfl⟩ (lb rfl) ⟨lb rfl, lb rfl⟩ L55 rfl (x_forget _) ?_
  rintro _ _ ⟨rfl, rfl⟩
  refine A_aload_n dX10_task_21 rfl 0 rfl ?_
  refine A_getR (b := 1) dX10_task_22 fo_RX10_10 L0 rfl ?_
  refine A_callV (M' := MX1_newTask) [] [] 1 dX10_task_25 lk_RX10_70 oX1_newTask iX1_newTask rfl rfl ⟨lb rfl, lb rfl⟩ (lb rfl) ⟨lb rfl, lb rfl⟩ L1 rfl (x_newTask _ 1 (s 13 0) (.inl rfl) (by rw [u2_n _ _ _ (by decide)]; exact hC.n) hn) ?_
  rintro _ h ⟨rfl, hh⟩
  exact A_iret dX10_task_28 rfl (⟨rfl, by rw [hh]; exact XC_task hC w hn, by rw [hh, u2_n _ _ _ (by decide), u2_n _ _ _ (by omega), u2_s, upd_s], fun b b1 b2 => by rw [hh, u2_n _ _ _ (by omega), u2_n _ _ _ (by omega), u2_n _ _ _ b2]⟩)
theorem x_cell (x : Int32) (f : Mem) (s : Sg) (k p rz lz : Ro) (hC : XC f s k p rz lz) (w : wfC s k p) : C0 MX10_cell [.ref 0, .int x] f (rt (some (.int (if inR x 4 then k x.toNatClampNeg else -100))) f) := by
  refine Ct.of (lv := [(0, .ref 0), (1, .int x)]) (by decide) (lb rfl) rfl ?_
  refine A_iload_n dX10_cell_0 rfl 1 rfl ?_
  refine A_callS (M' := MX10_isCell) [.int x] [] dX10_cell_1 lk_RX10_92 oX10_isCell sX10_isCell rfl rfl ⟨lb rfl, lb rfl⟩ (lb rfl) ⟨lb rfl, lb rfl⟩ (x_isCell x _) ?_
  rintro _ g0 ⟨rfl, hg0⟩
  rw [hg0]
  refine A_if_eq (tgt := 19) dX10_cell_4 rfl (fun h4 => ?_) (fun h4 => ?_)
  · refine A_bipush (v := -100) dX10_cell_19 rfl ?_
    exact A_iret dX10_cell_21 rfl (rti (if_neg (bz_0.mp h4)).symm rfl)
  · obtain ⟨c, hc, ec⟩ := inR_of (by omega) (bz_n0.mp h4)
    refine A_aload_n dX10_cell_7 rfl 0 rfl ?_
    refine A_getR (b := 1) dX10_cell_8 fo_RX10_10 L0 rfl ?_
    refine A_getR (b := 13) dX10_cell_11 fo_RX10_98 L1 rfl ?_
    refine A_iload_n dX10_cell_14 rfl 1 rfl ?_
    refine A_iaload c dX10_cell_15 L13 (ec) (hc) (lb rfl) ?_
    refine A_topi (k c) (hC.k4 hc) ?_
    refine A_goto (tgt := 21) dX10_cell_16 rfl ?_
    exact A_iret dX10_cell_21 rfl (rti (by rw [if_pos (bz_n0.mp h4), ec, nI_clamp (by omega)]) rfl)
theorem x_put1 (x v : Int32) (f : Mem) (hx : ¬ (inR x 4 ∧ inCell v)) : C0 MX10_put [.ref 0, .int x, .int v] f (rt (some (.int (-100))) f) := by
  refine Ct.of (lv := [(0, .ref 0), (1, .int x), (2, .int v)]) (by decide) (lb rfl) rfl ?_
  refine A_iload_n dX10_put_0 rfl 1 rfl ?_
  refine A_callS (M' := MX10_isCell) [.int x] [] dX10_put_1 lk_RX10_92 oX10_isCell sX10_isCell rfl rfl ⟨lb rfl, lb rfl⟩ (lb rfl) ⟨lb rfl, lb rfl⟩ (x_isCell x _) ?_
  rintro _ g0 ⟨rfl, hg0⟩
  rw [hg0]
  refine A_if_eq (tgt := 14) dX10_put_4 rfl (fun h4 => ?_) (fun h4 => ?_)
  · refine A_bipush (v := -100) dX10_put_14 rfl ?_
    exact A_iret dX10_put_16 rfl (⟨rfl, rfl⟩)
  · refine A_iload_n dX10_put_7 rfl 2 rfl ?_
    refine A_callS (M' := MX10_isCellNumber) [.int v] [] dX10_put_8 lk_RX10_95 oX10_isCellNumber sX10_isCellNumber rfl rfl ⟨lb rfl, lb rfl⟩ (lb rfl) ⟨lb rfl, lb rfl⟩ (x_isCellNumber v _) ?_
    rintro _ g0 ⟨rfl, hg0⟩
    rw [hg0]
    refine A_if_ne (tgt := 17) dX10_put_11 rfl (fun h11 => ?_) (fun h11 => ?_)
    · exact absurd ⟨bz_n0.mp h4, bz_n0.mp h11⟩ hx
    · refine A_bipush (v := -100) dX10_put_14 rfl ?_
      exact A_iret dX10_put_16 rfl (⟨rfl, rfl⟩)
theorem x_put2 (c : Nat) (v : Int32) (f : Mem) (s : Sg) (k p rz lz : Ro) (hC : XC f s k p rz lz) (w : wfC s k p) (hc : c < 4) (hv : inCell v) : C0 MX10_put [.ref 0, .int (nI c), .int v] f (fun r h => r = some (.int (k c)) ∧ XC h s (upd k c v) p rz lz ∧ fC f h) := by
  refine Ct.of (lv := [(0, .ref 0), (1, .int (nI c)), (2, .int v)]) (by decide) (lb rfl) rfl ?_
  refine A_iload_n dX10_put_0 rfl 1 rfl ?_
  refine A_callS (M' := MX10_isCell) [.int (nI c)] [] dX10_put_1 lk_RX10_92 oX10_isCell sX10_isCell rfl rfl ⟨lb rfl, lb rfl⟩ (lb rfl) ⟨lb rfl, lb rfl⟩ (x_isCell (nI c) _) ?_
  rintro _ g0 ⟨rfl, hg0⟩
  rw [hg0]
  refine A_if_eq (tgt := 14) dX10_put_4 rfl (fun h4 => by exact absurd ((inR_nI (by omega)).mpr hc) (bz_0.mp h4)) (fun h4 => ?_)
  refine A_iload_n dX10_put_7 rfl 2 rfl ?_
  refine A_callS (M' := MX10_isCellNumber) [.int v] [] dX10_put_8 lk_RX10_95 oX10_isCellNumber sX10_isCellNumber rfl rfl ⟨lb rfl, lb rfl⟩ (lb rfl) ⟨lb rfl, lb rfl⟩ (x_isCellNumber v _) ?_
  rintro _ g0 ⟨rfl, hg0⟩
  rw [hg0]
  refine A_if_ne (tgt := 17) dX10_put_11 rfl (fun h11 => ?_) (fun h11 => by exact absurd hv (bz_0.mp h11))
  refine A_aload_n dX10_put_17 rfl 0 rfl ?_
  refine A_getR (b := 1) dX10_put_18 fo_RX10_10 L0 rfl ?_
  refine A_getR (b := 13) dX10_put_21 fo_RX10_98 L1 rfl ?_
  refine A_iload_n dX10_put_24 rfl 1 rfl ?_
  refine A_iaload c dX10_put_25 L13 (rfl) (hc) (lb rfl) ?_
  refine A_topi (k c) (hC.k4 hc) ?_
  refine A_istore_n (lv' := [(3, .int (k c)), (0, .ref 0), (1, .int (nI c)), (2, .int v)]) dX10_put_26 rfl (lb rfl) rfl ?_
  refine A_aload_n dX10_put_27 rfl 1 rfl ?_
  refine A_getR (b := 55) dX10_put_28 fo_RX10_52 L0 rfl ?_
  refine A_callV (M' := MX6_forget) [] [] 55 dX10_put_31 lk_RX10_67 oX6_forget iX6_forget rfl rfl ⟨lb rfl, lb rfl⟩ (lb rfl) ⟨lb rfl, lb rfl⟩ L55 rfl (x_forget _) ?_
  rintro _ _ ⟨rfl, rfl⟩
  refine A_aload_n dX10_put_34 rfl 1 rfl ?_
  refine A_getR (b := 1) dX10_put_35 fo_RX10_10 L0 rfl ?_
  refine A_getR (b := 13) dX10_put_38 fo_RX10_98 L1 rfl ?_
  refine A_iload_n dX10_put_41 rfl 2 rfl ?_
  refine A_iload_n dX10_put_42 rfl 3 rfl ?_
  refine A_iastore c dX10_put_43 L13 (rfl) (hc) (lb rfl) ?_
  refine A_iload_n dX10_put_44 rfl 0 rfl ?_
  exact A_iret dX10_put_45 rfl (⟨rfl, XC_put hC hc v, by rw [u2_n _ _ _ (by decide), u2_s, upd_s], fun b b1 b2 => by rw [u2_n _ _ _ (by omega), u2_n _ _ _ b2]⟩)
theorem fd_in {x : Int32} (a : ¬ x < 1) (b : x ≤ 127) : 1 ≤ x.toInt ∧ x.toInt ≤ 127 := by
  rw [Int32.lt_iff_toInt_lt] at a
  rw [Int32.le_iff_toInt_le] at b
  have e1 : (1 : Int32).toInt = 1 := by decide
  have e2 : (127 : Int32).toInt = 127 := by decide
  omega
theorem x_clear (f : Mem) (tn : Nat) (tb : Nat → Nat) (hT : XTp f tn tb) : C0 MX10_clear [.ref 0] f (rt (some (.int (nI tn))) (u2 f 44 1 0)) := by
  refine Ct.of (lv := [(0, .ref 0)]) (by decide) (lb rfl) rfl ?_
  refine A_aload_n dX10_clear_0 rfl 0 rfl ?_
  refine A_getR (b := 44) dX10_clear_1 fo_RX10_34 L0 rfl ?_
  refine A_getI dX10_clear_4 fo_RX10_102 L44 rfl ?_
  refine A_topi (nI tn) (hT.1) ?_
  refine A_istore_n (lv' := [(1, .int (nI tn)), (0, .ref 0)]) dX10_clear_7 rfl (lb rfl) rfl ?_
  refine A_aload_n dX10_clear_8 rfl 1 rfl ?_
  refine A_getR (b := 44) dX10_clear_9 fo_RX10_34 L0 rfl ?_
  refine A_iconst (v := 0) dX10_clear_12 rfl ?_
  refine A_putI dX10_clear_13 fo_RX10_102 L44 rfl ?_
  refine A_iload_n dX10_clear_16 rfl 0 rfl ?_
  exact A_iret dX10_clear_17 rfl (⟨rfl, rfl⟩)
theorem x_feed3 (b : Nat) (f : Mem) (tn : Nat) (tb : Nat → Nat) (hT : XTp f tn tb) (h1 : 1 ≤ b) (h127 : b ≤ 127) (hn : tn < 120) : C0 MX10_feed [.ref 0, .int (nI b)] f (rt (some (.int (nI (tn + 1)))) (u2 (u2 f 45 tn (nI b)) 44 1 (nI tn + 1))) := by
  refine Ct.of (lv := [(0, .ref 0), (1, .int (nI b))]) (by decide) (lb rfl) rfl ?_
  refine A_iload_n dX10_feed_0 rfl 1 rfl ?_
  refine A_iconst (v := 1) dX10_feed_1 rfl ?_
  refine A_icmp_lt (tgt := 11) dX10_feed_2 rfl (fun h2 => by exact absurd h2 (fun q => by rw [show (1 : Int32) = nI 1 from rfl, nI_ltI (by omega) (by omega)] at q; omega)) (fun h2 => ?_)
  refine A_iload_n dX10_feed_5 rfl 1 rfl ?_
  refine A_bipush (v := 127) dX10_feed_6 rfl ?_
  refine A_icmp_le (tgt := 14) dX10_feed_8 rfl (fun h8 => ?_) (fun h8 => by exact absurd ((nI_leI (by omega) (by omega)).mpr (show b ≤ 127 by omega)) h8)
  refine A_aload_n dX10_feed_14 rfl 0 rfl ?_
  refine A_getR (b := 44) dX10_feed_15 fo_RX10_34 L0 rfl ?_
  refine A_getI dX10_feed_18 fo_RX10_102 L44 rfl ?_
  refine A_topi (nI tn) (hT.1) ?_
  refine A_bipush (v := 120) dX10_feed_21 rfl ?_
  refine A_icmp_lt (tgt := 29) dX10_feed_23 rfl (fun h23 => ?_) (fun h23 => by exact absurd ((nI_ltI (by omega) (by omega)).mpr (show tn < 120 by omega)) h23)
  refine A_aload_n dX10_feed_29 rfl 0 rfl ?_
  refine A_getR (b := 44) dX10_feed_30 fo_RX10_34 L0 rfl ?_
  refine A_iload_n dX10_feed_33 rfl 1 rfl ?_
  refine A_callV (M' := MX8_append) [.int (nI b)] [] 44 dX10_feed_34 lk_RX10_107 oX8_append iX8_append rfl rfl ⟨lb rfl, lb rfl⟩ (lb rfl) ⟨lb rfl, lb rfl⟩ L44 rfl (x_tapeAppend f tn (nI b) hT.1 hn) ?_
  rintro _ h ⟨rfl, hh⟩
  refine A_aload_n dX10_feed_37 rfl 0 rfl ?_
  refine A_getR (b := 44) dX10_feed_38 fo_RX10_34 L0 rfl ?_
  refine A_getI dX10_feed_41 fo_RX10_102 L44 rfl ?_
  refine A_topi (nI (tn + 1)) (by rw [hh, u2_s, upd_s]; exact nI_add tn 1) ?_
  exact A_iret dX10_feed_44 rfl (⟨rfl, hh⟩)
theorem x_feed2 (b : Nat) (f : Mem) (tn : Nat) (tb : Nat → Nat) (hT : XTp f tn tb) (h1 : 1 ≤ b) (h127 : b ≤ 127) (hn : tn = 120) : C0 MX10_feed [.ref 0, .int (nI b)] f (rt (some (.int (-4))) f) := by
  refine Ct.of (lv := [(0, .ref 0), (1, .int (nI b))]) (by decide) (lb rfl) rfl ?_
  refine A_iload_n dX10_feed_0 rfl 1 rfl ?_
  refine A_iconst (v := 1) dX10_feed_1 rfl ?_
  refine A_icmp_lt (tgt := 11) dX10_feed_2 rfl (fun h2 => by exact absurd h2 (fun q => by rw [show (1 : Int32) = nI 1 from rfl, nI_ltI (by omega) (by omega)] at q; omega)) (fun h2 => ?_)
  refine A_iload_n dX10_feed_5 rfl 1 rfl ?_
  refine A_bipush (v := 127) dX10_feed_6 rfl ?_
  refine A_icmp_le (tgt := 14) dX10_feed_8 rfl (fun h8 => ?_) (fun h8 => by exact absurd ((nI_leI (by omega) (by omega)).mpr (show b ≤ 127 by omega)) h8)
  refine A_aload_n dX10_feed_14 rfl 0 rfl ?_
  refine A_getR (b := 44) dX10_feed_15 fo_RX10_34 L0 rfl ?_
  refine A_getI dX10_feed_18 fo_RX10_102 L44 rfl ?_
  refine A_topi (nI tn) (hT.1) ?_
  refine A_bipush (v := 120) dX10_feed_21 rfl ?_
  refine A_icmp_lt (tgt := 29) dX10_feed_23 rfl (fun h23 => by exact absurd h23 (by rw [hn]; decide)) (fun h23 => ?_)
  refine A_bipush (v := -4) dX10_feed_26 rfl ?_
  exact A_iret dX10_feed_28 rfl (⟨rfl, rfl⟩)
theorem x_feed1 (x : Int32) (f : Mem) (hx : ¬ (1 ≤ x.toInt ∧ x.toInt ≤ 127)) : C0 MX10_feed [.ref 0, .int x] f (rt (some (.int (-2))) f) := by
  refine Ct.of (lv := [(0, .ref 0), (1, .int x)]) (by decide) (lb rfl) rfl ?_
  refine A_iload_n dX10_feed_0 rfl 1 rfl ?_
  refine A_iconst (v := 1) dX10_feed_1 rfl ?_
  refine A_icmp_lt (tgt := 11) dX10_feed_2 rfl (fun h2 => ?_) (fun h2 => ?_)
  · refine A_bipush (v := -2) dX10_feed_11 rfl ?_
    exact A_iret dX10_feed_13 rfl (⟨rfl, rfl⟩)
  · refine A_iload_n dX10_feed_5 rfl 1 rfl ?_
    refine A_bipush (v := 127) dX10_feed_6 rfl ?_
    refine A_icmp_le (tgt := 14) dX10_feed_8 rfl (fun h8 => ?_) (fun h8 => ?_)
    · exact absurd (fd_in h2 h8) hx
    · refine A_bipush (v := -2) dX10_feed_11 rfl ?_
      exact A_iret dX10_feed_13 rfl (⟨rfl, rfl⟩)
theorem XC.are {f : Mem} {s : Sg} {k p rz lz : Ro} (h : XC f s k p rz lz) (h4 : s 13 0 ≤ 4) (x : Int32) : C0 MX1_allThatAre [.ref 1, .int x] f (rt (some (.int (areI (s 1) x (s 13 0)))) f) := by
  have e := x_are x f 1 s k (.inl rfl) (n := s 13 0) h.2.1.1 h4
  rw [h.1.eq] at e
  exact e
theorem in5_t {x : Int32} (a : ¬ x < 0) (b : x ≤ 4) : inR x 5 := by
  refine ⟨x_nn a, ?_⟩
  rw [Int32.le_iff_toInt_le] at b
  have e : (4 : Int32).toInt = 4 := by decide
  omega
theorem in5_f {x : Int32} (b : ¬ x ≤ 4) : ¬ inR x 5 := fun q => b (by
  rw [Int32.le_iff_toInt_le]
  have e : (4 : Int32).toInt = 4 := by decide
  have := q.2
  omega)
theorem x_are5 (x : Int32) (f : Mem) (s : Sg) (k p rz lz : Ro) (hC : XC f s k p rz lz) (w : wfC s k p) : C0 MX10_are [.ref 0, .int x] f (rt (some (.int (if inR x 5 then areI (s 1) x (s 13 0) else -1))) f) := by
  refine Ct.of (lv := [(0, .ref 0), (1, .int x)]) (by decide) (lb rfl) rfl ?_
  refine A_iload_n dX10_are_0 rfl 1 rfl ?_
  refine A_if_lt (tgt := 9) dX10_are_1 rfl (fun h1 => ?_) (fun h1 => ?_)
  · refine A_iconst (v := -1) dX10_are_9 rfl ?_
    refine A_goto (tgt := 21) dX10_are_10 rfl ?_
    exact A_iret dX10_are_21 rfl (rti (if_neg (by first | exact x_ninL h1 | exact in5_f h6)).symm rfl)
  · refine A_iload_n dX10_are_4 rfl 1 rfl ?_
    refine A_iconst (v := 4) dX10_are_5 rfl ?_
    refine A_icmp_le (tgt := 13) dX10_are_6 rfl (fun h6 => ?_) (fun h6 => ?_)
    · refine A_aload_n dX10_are_13 rfl 0 rfl ?_
      refine A_getR (b := 1) dX10_are_14 fo_RX10_10 L0 rfl ?_
      refine A_iload_n dX10_are_17 rfl 1 rfl ?_
      refine A_callV (M' := MX1_allThatAre) [.int x] [] 1 dX10_are_18 lk_RX10_198 oX1_allThatAre iX1_allThatAre rfl rfl ⟨lb rfl, lb rfl⟩ (lb rfl) ⟨lb rfl, lb rfl⟩ L1 rfl (hC.are w.2.2.2.2.1 x) ?_
      rintro _ g0 ⟨rfl, hg0⟩
      rw [hg0]
      exact A_iret dX10_are_21 rfl (rti (if_pos (in5_t h1 h6)).symm rfl)
    · refine A_iconst (v := -1) dX10_are_9 rfl ?_
      refine A_goto (tgt := 21) dX10_are_10 rfl ?_
      exact A_iret dX10_are_21 rfl (rti (if_neg (by first | exact x_ninL h1 | exact in5_f h6)).symm rfl)
theorem x_holds (f : Mem) (s : Sg) (k p rz lz : Ro) (hC : XC f s k p rz lz) (w : wfC s k p) (cn : Nat) (cs ch : Nat → Nat) (cv : Ro) (hN : XNc f cn cs ch cv) (hw : wN cn cs ch) : C0 MX10_holds [.ref 0] f (rt (some (.int (bz (allS cn cs ch cv k)))) f) := by
  refine Ct.of (lv := [(0, .ref 0)]) (by decide) (lb rfl) rfl ?_
  refine A_aload_n dX10_holds_0 rfl 0 rfl ?_
  refine A_getR (b := 51) dX10_holds_1 fo_RX10_45 L0 rfl ?_
  refine A_aload_n dX10_holds_4 rfl 0 rfl ?_
  refine A_getR (b := 1) dX10_holds_5 fo_RX10_10 L0 rfl ?_
  refine A_getR (b := 13) dX10_holds_8 fo_RX10_98 L1 rfl ?_
  refine A_callV (M' := MX0_allSo) [.ref 13] [] 51 dX10_holds_11 lk_RX10_267 oX0_allSo iX0_allSo rfl rfl ⟨lb rfl, lb rfl⟩ (lb rfl) ⟨lb rfl, lb rfl⟩ L51 rfl (x_allSo 13 k f cn cs ch cv rfl (fun c hc => hC.k4 hc) hN hw) ?_
  rintro _ g0 ⟨rfl, hg0⟩
  rw [hg0]
  refine A_callS (M' := MX10_asNumber) [.int (bz (allS cn cs ch cv k))] [] dX10_holds_14 lk_RX10_88 oX10_asNumber sX10_asNumber rfl rfl ⟨lb rfl, lb rfl⟩ (lb rfl) ⟨lb rfl, lb rfl⟩ (x_asNumber (bz (allS cn cs ch cv k)) _ (bz_01 _)) ?_
  rintro _ g0 ⟨rfl, hg0⟩
  rw [hg0]
  exact A_iret dX10_holds_17 rfl (⟨rfl, rfl⟩)
