/-! the reference: task, cells, tape, conditions -/
theorem gF_u52 (s : Sg) (k p : Ro) (x : Nat) : gF (s2 s 13 0 x) k p = upd (gF s k p) 52 (nI x) := by
  funext j
  unfold gF upd
  dsimp only
  rw [flat_hi (s2_o s (i := 0) (x := x) (show 13 ≤ 13 by decide))]
  by_cases q : j < 52
  · rw [if_pos q, if_pos q, if_neg (by omega)]
  · rw [if_neg q, if_neg q]
    by_cases q2 : j = 52
    · rw [if_pos q2, if_pos q2, s2_s]
    · rw [if_neg q2, if_neg q2, if_neg q2, s2_c _ (by decide), s2_c _ (by decide), s2_c _ (by decide)]
theorem gF_uk (s : Sg) (k p : Ro) {c : Nat} (hc : c < 4) (v : Int32) : gF s (upd k c v) p = upd (gF s k p) (48 + c) v := by
  funext j
  unfold gF flat upd
  dsimp only
  by_cases q : j < 52
  · rw [if_pos q, if_pos q]
    by_cases q1 : j < 48
    · simp [q1, q, show ¬ j = 48 + c by omega]
    · rw [if_neg q1, if_neg q1, if_pos q, if_pos q]
      by_cases q2 : j = 48 + c
      · rw [if_pos q2, if_pos (by omega)]
      · rw [if_neg q2, if_neg (by omega)]
  · rw [if_neg q, if_neg q, if_neg (show ¬ j = 48 + c by omega)]
theorem RC_up {f h : Mem} {s s' : Sg} {k k' p rz lz : Ro} {i : Nat} {v : Int32} (hC : RC f s k p rz lz) (e : h 94 = upd (f 94) i v) (eg : gF s' k' p = upd (gF s k p) i v) (e97 : h 97 = f 97) (e98 : h 98 = f 98) (e1 : s' 1 = s 1) : RC h s' k' p rz lz := by
  refine ⟨fun j hj => ?_, ?_⟩
  · rw [e, eg]; unfold upd
    by_cases q : j = i
    · rw [if_pos q, if_pos q]
    · rw [if_neg q, if_neg q]; exact hC.1 j hj
  · rw [e97, e98, e1]; exact hC.2
theorem RC.k4 {f : Mem} {s : Sg} {k p rz lz : Ro} (h : RC f s k p rz lz) {c : Nat} (hc : c < 4) : f 94 (48 + c) = k c := (h.1 _ (by omega)).trans ((gF_lo (by omega)).trans (flat_k _ _ hc))
theorem RC.rw {f : Mem} {s : Sg} {k p rz lz : Ro} (h : RC f s k p rz lz) : isRw f 94 0 253 s k := ⟨rfl, by decide, by decide, fun j hj => by rw [Nat.zero_add]; exact (h.1 j (by omega)).trans (gF_lo hj)⟩
/-- only the row g of the reference changed -/
def fG (f h : Mem) : Prop := ∀ b, b ≠ 94 → h b = f b
theorem c_task1 (f : Mem) (s : Sg) (k p rz lz : Ro) (hC : RC f s k p rz lz) (w : wfC s k p) (hn : s 13 0 = 4) : C0 MX11_task [.ref 93] f (rt (some (.int (-4))) f) := by
  refine Ct.of (lv := [(0, .ref 93)]) (by decide) (lb rfl) rfl ?_
  refine A_aload_n dX11_task_0 rfl 0 rfl ?_
  refine A_getR (b := 94) dX11_task_1 fo_RX11_9 L93 rfl ?_
  refine A_bipush (v := 52) dX11_task_4 rfl ?_
  refine A_iaload 52 dX11_task_6 L94 (rfl) (by decide) (lb rfl) ?_
  refine A_topi (nI (s 13 0)) (hC.n) ?_
  refine A_iconst (v := 4) dX11_task_7 rfl ?_
  refine A_icmp_ne (tgt := 14) dX11_task_8 rfl (fun h8 => by exact absurd (by rw [hn]; rfl) h8) (fun h8 => ?_)
  refine A_bipush (v := -4) dX11_task_11 rfl ?_
  exact A_iret dX11_task_13 rfl (⟨rfl, rfl⟩)
theorem c_task2 (f : Mem) (s : Sg) (k p rz lz : Ro) (hC : RC f s k p rz lz) (w : wfC s k p) (hn : s 13 0 < 4) : C0 MX11_task [.ref 93] f (fun r h => r = some (.int (nI (s 13 0))) ∧ RC h (s2 s 13 0 (s 13 0 + 1)) k p rz lz ∧ fG f h) := by
  refine Ct.of (lv := [(0, .ref 93)]) (by decide) (lb rfl) rfl ?_
  refine A_aload_n dX11_task_0 rfl 0 rfl ?_
  refine A_getR (b := 94) dX11_task_1 fo_RX11_9 L93 rfl ?_
  refine A_bipush (v := 52) dX11_task_4 rfl ?_
  refine A_iaload 52 dX11_task_6 L94 (rfl) (by decide) (lb rfl) ?_
  refine A_topi (nI (s 13 0)) (hC.n) ?_
  refine A_iconst (v := 4) dX11_task_7 rfl ?_
  refine A_icmp_ne (tgt := 14) dX11_task_8 rfl (fun h8 => ?_) (fun h8 => by exact absurd ((nI_eq (a := s 13 0) (b := 4) (by omega) (by omega)).mp h8) (by omega))
  refine A_aload_n dX11_task_14 rfl 0 rfl ?_
  refine A_getR (b := 94) dX11_task_15 fo_RX11_9 L93 rfl ?_
  refine A_bipush (v := 52) dX11_task_18 rfl ?_
  refine A_dup2 dX11_task_20 rfl rfl ?_
  refine A_iaload 52 dX11_task_21 L94 (rfl) (by decide) (lb rfl) ?_
  refine A_topi (nI (s 13 0)) (hC.n) ?_
  refine A_iconst (v := 1) dX11_task_22 rfl ?_
  refine A_iadd dX11_task_23 ?_
  refine A_iastore 52 dX11_task_24 L94 (rfl) (by decide) (lb rfl) ?_
  refine A_aload_n dX11_task_25 rfl 0 rfl ?_
  refine A_getR (b := 94) dX11_task_26 fo_RX11_9 L93 rfl ?_
  refine A_bipush (v := 52) dX11_task_29 rfl ?_
  refine A_iaload 52 dX11_task_31 L94 (rfl) (by decide) (lb rfl) ?_
  refine A_topi ((nI (s 13 0)) + 1) (by simp [u2, ur, upd]) ?_
  refine A_iconst (v := 1) dX11_task_32 rfl ?_
  refine A_isub dX11_task_33 ?_
  exact A_iret dX11_task_34 rfl (⟨by rw [nI_sub1], RC_up hC (by rw [u2_s]) (by rw [gF_u52, ← nI_add]; rfl) (u2_n _ _ _ (by decide)) (u2_n _ _ _ (by decide)) (s2_row s (by decide)), fun b hb => u2_n _ _ _ hb⟩)
theorem c_cell (x : Int32) (f : Mem) (s : Sg) (k p rz lz : Ro) (hC : RC f s k p rz lz) (w : wfC s k p) : C0 MX11_cell [.ref 93, .int x] f (rt (some (.int (if inR x 4 then k x.toNatClampNeg else -100))) f) := by
  refine Ct.of (lv := [(0, .ref 93), (1, .int x)]) (by decide) (lb rfl) rfl ?_
  refine A_iload_n dX11_cell_0 rfl 1 rfl ?_
  refine A_callS (M' := MX11_isCell) [.int x] [] dX11_cell_1 lk_RX11_76 oX11_isCell sX11_isCell rfl rfl ⟨lb rfl, lb rfl⟩ (lb rfl) ⟨lb rfl, lb rfl⟩ (c_isCell x _) ?_
  rintro _ g0 ⟨rfl, hg0⟩
  rw [hg0]
  refine A_if_eq (tgt := 19) dX11_cell_4 rfl (fun h4 => ?_) (fun h4 => ?_)
  · refine A_bipush (v := -100) dX11_cell_19 rfl ?_
    exact A_iret dX11_cell_21 rfl (rti (if_neg (bz_0.mp h4)).symm rfl)
  · obtain ⟨c, hc, ec⟩ := inR_of (by omega) (bz_n0.mp h4)
    refine A_aload_n dX11_cell_7 rfl 0 rfl ?_
    refine A_getR (b := 94) dX11_cell_8 fo_RX11_9 L93 rfl ?_
    refine A_bipush (v := 48) dX11_cell_11 rfl ?_
    refine A_iload_n dX11_cell_13 rfl 1 rfl ?_
    refine A_iadd dX11_cell_14 ?_
    refine A_iaload (48 + c) dX11_cell_15 L94 (by rw [ec]; exact nI_add 48 c) (by omega) (lb rfl) ?_
    refine A_topi (k c) (hC.k4 hc) ?_
    refine A_goto (tgt := 21) dX11_cell_16 rfl ?_
    exact A_iret dX11_cell_21 rfl (rti (by rw [if_pos (bz_n0.mp h4), ec, nI_clamp (by omega)]) rfl)
theorem in_99 (v : Int32) : (Int64.toInt (-99) ≤ v.toInt64.toInt ∧ v.toInt64.toInt ≤ Int64.toInt 99) ↔ inCell v := by
  rw [Int32.toInt_toInt64, show Int64.toInt (-99) = -99 by decide, show Int64.toInt 99 = 99 by decide]
theorem c_put1 (x v : Int32) (f : Mem) (hx : ¬ (inR x 4 ∧ inCell v)) : C0 MX11_put [.ref 93, .int x, .int v] f (rt (some (.int (-100))) f) := by
  refine Ct.of (lv := [(0, .ref 93), (1, .int x), (2, .int v)]) (by decide) (lb rfl) rfl ?_
  refine A_iload_n dX11_put_0 rfl 1 rfl ?_
  refine A_callS (M' := MX11_isCell) [.int x] [] dX11_put_1 lk_RX11_76 oX11_isCell sX11_isCell rfl rfl ⟨lb rfl, lb rfl⟩ (lb rfl) ⟨lb rfl, lb rfl⟩ (c_isCell x _) ?_
  rintro _ g0 ⟨rfl, hg0⟩
  rw [hg0]
  refine A_if_eq (tgt := 21) dX11_put_4 rfl (fun h4 => ?_) (fun h4 => ?_)
  · refine A_bipush (v := -100) dX11_put_21 rfl ?_
    exact A_iret dX11_put_23 rfl (⟨rfl, rfl⟩)
  · refine A_iload_n dX11_put_7 rfl 2 rfl ?_
    refine A_i2l dX11_put_8 ?_
    refine A_ldc2 dX11_put_9 k_RX11_79 ?_
    refine A_ldc2 dX11_put_12 k_RX11_81 ?_
    refine A_callS (M' := MX11_in) [.long v.toInt64, .long (-99), .long 99] [] dX11_put_15 lk_RX11_64 oX11_in sX11_in rfl rfl ⟨lb rfl, lb rfl⟩ (lb rfl) ⟨lb rfl, lb rfl⟩ (c_in _ _ _ _) ?_
    rintro _ g0 ⟨rfl, hg0⟩
    rw [hg0]
    refine A_topi (bz (inCell v)) (bz_c (in_99 v)) ?_
    refine A_if_ne (tgt := 24) dX11_put_18 rfl (fun h18 => ?_) (fun h18 => ?_)
    · exact absurd ⟨bz_n0.mp h4, bz_n0.mp h18⟩ hx
    · refine A_bipush (v := -100) dX11_put_21 rfl ?_
      exact A_iret dX11_put_23 rfl (⟨rfl, rfl⟩)
theorem c_put2 (c : Nat) (v : Int32) (f : Mem) (s : Sg) (k p rz lz : Ro) (hC : RC f s k p rz lz) (w : wfC s k p) (hc : c < 4) (hv : inCell v) : C0 MX11_put [.ref 93, .int (nI c), .int v] f (fun r h => r = some (.int (k c)) ∧ RC h s (upd k c v) p rz lz ∧ fG f h) := by
  refine Ct.of (lv := [(0, .ref 93), (1, .int (nI c)), (2, .int v)]) (by decide) (lb rfl) rfl ?_
  refine A_iload_n dX11_put_0 rfl 1 rfl ?_
  refine A_callS (M' := MX11_isCell) [.int (nI c)] [] dX11_put_1 lk_RX11_76 oX11_isCell sX11_isCell rfl rfl ⟨lb rfl, lb rfl⟩ (lb rfl) ⟨lb rfl, lb rfl⟩ (c_isCell (nI c) _) ?_
  rintro _ g0 ⟨rfl, hg0⟩
  rw [hg0]
  refine A_if_eq (tgt := 21) dX11_put_4 rfl (fun h4 => by exact absurd ((inR_nI (by omega)).mpr hc) (bz_0.mp h4)) (fun h4 => ?_)
  refine A_iload_n dX11_put_7 rfl 2 rfl ?_
  refine A_i2l dX11_put_8 ?_
  refine A_ldc2 dX11_put_9 k_RX11_79 ?_
  refine A_ldc2 dX11_put_12 k_RX11_81 ?_
  refine A_callS (M' := MX11_in) [.long v.toInt64, .long (-99), .long 99] [] dX11_put_15 lk_RX11_64 oX11_in sX11_in rfl rfl ⟨lb rfl, lb rfl⟩ (lb rfl) ⟨lb rfl, lb rfl⟩ (c_in _ _ _ _) ?_
  rintro _ g0 ⟨rfl, hg0⟩
  rw [hg0]
  refine A_topi (bz (inCell v)) (bz_c (in_99 v)) ?_
  refine A_if_ne (tgt := 24) dX11_put_18 rfl (fun h18 => ?_) (fun h18 => by exact absurd hv (bz_0.mp h18))
  refine A_aload_n dX11_put_24 rfl 0 rfl ?_
  refine A_getR (b := 94) dX11_put_25 fo_RX11_9 L93 rfl ?_
  refine A_bipush (v := 48) dX11_put_28 rfl ?_
  refine A_iload_n dX11_put_30 rfl 1 rfl ?_
  refine A_iadd dX11_put_31 ?_
  refine A_iaload (48 + c) dX11_put_32 L94 (by simp only [lit, nI_add, pk_mul]) (by omega) (lb rfl) ?_
  refine A_topi (k c) (hC.k4 hc) ?_
  refine A_istore_n (lv' := [(3, .int (k c)), (0, .ref 93), (1, .int (nI c)), (2, .int v)]) dX11_put_33 rfl (lb rfl) rfl ?_
  refine A_aload_n dX11_put_34 rfl 1 rfl ?_
  refine A_getR (b := 94) dX11_put_35 fo_RX11_9 L93 rfl ?_
  refine A_bipush (v := 48) dX11_put_38 rfl ?_
  refine A_iload_n dX11_put_40 rfl 2 rfl ?_
  refine A_iadd dX11_put_41 ?_
  refine A_iload_n dX11_put_42 rfl 3 rfl ?_
  refine A_iastore (48 + c) dX11_put_43 L94 (by simp only [lit, nI_add, pk_mul]) (by omega) (lb rfl) ?_
  refine A_iload_n dX11_put_44 rfl 0 rfl ?_
  exact A_iret dX11_put_45 rfl (⟨rfl, RC_up hC (by rw [u2_s]) (gF_uk s k p hc v) (u2_n _ _ _ (by decide)) (u2_n _ _ _ (by decide)) rfl, fun b hb => u2_n _ _ _ hb⟩)
theorem c_clear (f : Mem) (tn : Nat) (tb : Nat → Nat) (hT : RTp f tn tb) : C0 MX11_clear [.ref 93] f (rt (some (.int (nI tn))) (u2 f 93 9 0)) := by
  refine Ct.of (lv := [(0, .ref 93)]) (by decide) (lb rfl) rfl ?_
  refine A_aload_n dX11_clear_0 rfl 0 rfl ?_
  refine A_getI dX11_clear_1 fo_RX11_85 L93 rfl ?_
  refine A_topi (nI tn) (hT.1) ?_
  refine A_istore_n (lv' := [(1, .int (nI tn)), (0, .ref 93)]) dX11_clear_4 rfl (lb rfl) rfl ?_
  refine A_aload_n dX11_clear_5 rfl 1 rfl ?_
  refine A_iconst (v := 0) dX11_clear_6 rfl ?_
  refine A_putI dX11_clear_7 fo_RX11_85 L93 rfl ?_
  refine A_iload_n dX11_clear_10 rfl 0 rfl ?_
  exact A_iret dX11_clear_11 rfl (⟨rfl, rfl⟩)
theorem in_127 (x : Int32) : (Int64.toInt 1 ≤ x.toInt64.toInt ∧ x.toInt64.toInt ≤ Int64.toInt 127) ↔ (1 ≤ x.toInt ∧ x.toInt ≤ 127) := by
  rw [Int32.toInt_toInt64, show Int64.toInt 1 = 1 by decide, show Int64.toInt 127 = 127 by decide]
theorem c_feed1 (x : Int32) (f : Mem) (hx : ¬ (1 ≤ x.toInt ∧ x.toInt ≤ 127)) : C0 MX11_feed [.ref 93, .int x] f (rt (some (.int (-2))) f) := by
  refine Ct.of (lv := [(0, .ref 93), (1, .int x)]) (by decide) (lb rfl) rfl ?_
  refine A_iload_n dX11_feed_0 rfl 1 rfl ?_
  refine A_i2l dX11_feed_1 ?_
  refine A_lconst (v := 1) dX11_feed_2 rfl ?_
  refine A_ldc2 dX11_feed_3 k_RX11_83 ?_
  refine A_callS (M' := MX11_in) [.long x.toInt64, .long 1, .long 127] [] dX11_feed_6 lk_RX11_64 oX11_in sX11_in rfl rfl ⟨lb rfl, lb rfl⟩ (lb rfl) ⟨lb rfl, lb rfl⟩ (c_in _ _ _ _) ?_
  rintro _ g0 ⟨rfl, hg0⟩
  rw [hg0]
  refine A_topi (bz (1 ≤ x.toInt ∧ x.toInt ≤ 127)) (bz_c (in_127 _)) ?_
  refine A_if_ne (tgt := 15) dX11_feed_9 rfl (fun h9 => by exact absurd (bz_n0.mp h9) hx) (fun h9 => ?_)
  refine A_bipush (v := -2) dX11_feed_12 rfl ?_
  exact A_iret dX11_feed_14 rfl (⟨rfl, rfl⟩)
theorem c_feed2 (b : Nat) (f : Mem) (tn : Nat) (tb : Nat → Nat) (hT : RTp f tn tb) (h1 : 1 ≤ b) (h127 : b ≤ 127) (hn : tn = 120) : C0 MX11_feed [.ref 93, .int (nI b)] f (rt (some (.int (-4))) f) := by
  refine Ct.of (lv := [(0, .ref 93), (1, .int (nI b))]) (by decide) (lb rfl) rfl ?_
  refine A_iload_n dX11_feed_0 rfl 1 rfl ?_
  refine A_i2l dX11_feed_1 ?_
  refine A_lconst (v := 1) dX11_feed_2 rfl ?_
  refine A_ldc2 dX11_feed_3 k_RX11_83 ?_
  refine A_callS (M' := MX11_in) [.long ((nI b).toInt64), .long 1, .long 127] [] dX11_feed_6 lk_RX11_64 oX11_in sX11_in rfl rfl ⟨lb rfl, lb rfl⟩ (lb rfl) ⟨lb rfl, lb rfl⟩ (c_in _ _ _ _) ?_
  rintro _ g0 ⟨rfl, hg0⟩
  rw [hg0]
  refine A_topi (bz (1 ≤ (nI b).toInt ∧ (nI b).toInt ≤ 127)) (bz_c (in_127 _)) ?_
  refine A_if_ne (tgt := 15) dX11_feed_9 rfl (fun h9 => ?_) (fun h9 => by exact absurd (show 1 ≤ (nI b).toInt ∧ (nI b).toInt ≤ 127 by rw [nI_toInt (by omega)]; omega) (bz_0.mp h9))
  refine A_aload_n dX11_feed_15 rfl 0 rfl ?_
  refine A_getI dX11_feed_16 fo_RX11_85 L93 rfl ?_
  refine A_topi (nI tn) (hT.1) ?_
  refine A_bipush (v := 120) dX11_feed_19 rfl ?_
  refine A_icmp_ne (tgt := 27) dX11_feed_21 rfl (fun h21 => by exact absurd (by rw [hn]; rfl) h21) (fun h21 => ?_)
  refine A_bipush (v := -4) dX11_feed_24 rfl ?_
  exact A_iret dX11_feed_26 rfl (⟨rfl, rfl⟩)
theorem c_feed3 (b : Nat) (f : Mem) (tn : Nat) (tb : Nat → Nat) (hT : RTp f tn tb) (h1 : 1 ≤ b) (h127 : b ≤ 127) (hn : tn < 120) : C0 MX11_feed [.ref 93, .int (nI b)] f (rt (some (.int (nI (tn + 1)))) (u2 (u2 f 99 tn (nI b)) 93 9 (nI tn + 1))) := by
  refine Ct.of (lv := [(0, .ref 93), (1, .int (nI b))]) (by decide) (lb rfl) rfl ?_
  refine A_iload_n dX11_feed_0 rfl 1 rfl ?_
  refine A_i2l dX11_feed_1 ?_
  refine A_lconst (v := 1) dX11_feed_2 rfl ?_
  refine A_ldc2 dX11_feed_3 k_RX11_83 ?_
  refine A_callS (M' := MX11_in) [.long ((nI b).toInt64), .long 1, .long 127] [] dX11_feed_6 lk_RX11_64 oX11_in sX11_in rfl rfl ⟨lb rfl, lb rfl⟩ (lb rfl) ⟨lb rfl, lb rfl⟩ (c_in _ _ _ _) ?_
  rintro _ g0 ⟨rfl, hg0⟩
  rw [hg0]
  refine A_topi (bz (1 ≤ (nI b).toInt ∧ (nI b).toInt ≤ 127)) (bz_c (in_127 _)) ?_
  refine A_if_ne (tgt := 15) dX11_feed_9 rfl (fun h9 => ?_) (fun h9 => by exact absurd (show 1 ≤ (nI b).toInt ∧ (nI b).toInt ≤ 127 by rw [nI_toInt (by omega)]; omega) (bz_0.mp h9))
  refine A_aload_n dX11_feed_15 rfl 0 rfl ?_
  refine A_getI dX11_feed_16 fo_RX11_85 L93 rfl ?_
  refine A_topi (nI tn) (hT.1) ?_
  refine A_bipush (v := 120) dX11_feed_19 rfl ?_
  refine A_icmp_ne (tgt := 27) dX11_feed_21 rfl (fun h21 => ?_) (fun h21 => by exact absurd ((nI_eq (a := tn) (b := 120) (by omega) (by omega)).mp h21) (by omega))
  refine A_aload_n dX11_feed_27 rfl 0 rfl ?_
  refine A_getR (b := 99) dX11_feed_28 fo_RX11_25 L93 rfl ?_
  refine A_aload_n dX11_feed_31 rfl 0 rfl ?_
  refine A_getI dX11_feed_32 fo_RX11_85 L93 rfl ?_
  refine A_topi (nI tn) (hT.1) ?_
  refine A_iload_n dX11_feed_35 rfl 1 rfl ?_
  refine A_iastore tn dX11_feed_36 L99 (rfl) (by omega) (lb rfl) ?_
  refine A_aload_n dX11_feed_37 rfl 0 rfl ?_
  refine A_dup dX11_feed_38 rfl ?_
  refine A_getI dX11_feed_39 fo_RX11_85 L93 rfl ?_
  refine A_topi (f 93 9) (by simp [u2, ur, upd]) ?_
  refine A_topi (nI tn) (hT.1) ?_
  refine A_iconst (v := 1) dX11_feed_42 rfl ?_
  refine A_iadd dX11_feed_43 ?_
  refine A_putI dX11_feed_44 fo_RX11_85 L93 rfl ?_
  refine A_aload_n dX11_feed_47 rfl 0 rfl ?_
  refine A_getI dX11_feed_48 fo_RX11_85 L93 rfl ?_
  refine A_topi ((nI tn) + 1) (by simp [u2, ur, upd]) ?_
  exact A_iret dX11_feed_51 rfl (rti (nI_add tn 1) rfl)
theorem in_5 (x : Int32) : (Int64.toInt 0 ≤ x.toInt64.toInt ∧ x.toInt64.toInt ≤ Int64.toInt 4) ↔ inR x 5 := by
  rw [Int32.toInt_toInt64, show Int64.toInt 0 = 0 by decide, show Int64.toInt 4 = 4 by decide]
  unfold inR
  omega
theorem c_are5 (x : Int32) (f : Mem) (s : Sg) (k p rz lz : Ro) (hC : RC f s k p rz lz) (w : wfC s k p) : C0 MX11_are [.ref 93, .int x] f (rt (some (.int (if inR x 5 then areI (s 1) x (s 13 0) else -1))) f) := by
  refine Ct.of (lv := [(0, .ref 93), (1, .int x)]) (by decide) (lb rfl) rfl ?_
  refine A_iload_n dX11_are_0 rfl 1 rfl ?_
  refine A_i2l dX11_are_1 ?_
  refine A_lconst (v := 0) dX11_are_2 rfl ?_
  refine A_ldc2 dX11_are_3 k_RX11_213 ?_
  refine A_callS (M' := MX11_in) [.long x.toInt64, .long 0, .long 4] [] dX11_are_6 lk_RX11_64 oX11_in sX11_in rfl rfl ⟨lb rfl, lb rfl⟩ (lb rfl) ⟨lb rfl, lb rfl⟩ (c_in _ _ _ _) ?_
  rintro _ g0 ⟨rfl, hg0⟩
  rw [hg0]
  refine A_topi (bz (inR x 5)) (bz_c (in_5 x)) ?_
  refine A_if_eq (tgt := 25) dX11_are_9 rfl (fun h9 => ?_) (fun h9 => ?_)
  · refine A_iconst (v := -1) dX11_are_25 rfl ?_
    exact A_iret dX11_are_26 rfl (rti (if_neg (bz_0.mp h9)).symm rfl)
  · refine A_aload_n dX11_are_12 rfl 0 rfl ?_
    refine A_aload_n dX11_are_13 rfl 0 rfl ?_
    refine A_getR (b := 94) dX11_are_14 fo_RX11_9 L93 rfl ?_
    refine A_iconst (v := 0) dX11_are_17 rfl ?_
    refine A_iload_n dX11_are_18 rfl 1 rfl ?_
    refine A_callV (M' := MX11_areIn) [.ref 94, .int 0, .int x] [] 93 dX11_are_19 lk_RX11_215 oX11_areIn iX11_areIn rfl rfl ⟨lb rfl, lb rfl⟩ (lb rfl) ⟨lb rfl, lb rfl⟩ L93 rfl (c_areIn x f 94 0 253 s k hC.rw hC.n w.2.2.2.2.1) ?_
    rintro _ g0 ⟨rfl, hg0⟩
    rw [hg0]
    refine A_goto (tgt := 26) dX11_are_22 rfl ?_
    exact A_iret dX11_are_26 rfl (rti (if_pos (bz_n0.mp h9)).symm rfl)
theorem so_0 {h : Nat} {x v : Int32} (e : h = 0) : soA h x v = (x < v) := if_pos e
theorem so_1 {h : Nat} {x v : Int32} (a : ¬ h = 0) (e : h = 1) : soA h x v = (x = v) := by unfold soA; rw [if_neg a, if_pos e]
theorem so_2 {h : Nat} {x v : Int32} (a : ¬ h = 0) (b : ¬ h = 1) (e : h = 2) : soA h x v = (v < x) := by unfold soA; rw [if_neg a, if_neg b, if_pos e]
theorem so_3 {h : Nat} {x v : Int32} (a : ¬ h = 0) (b : ¬ h = 1) (c : ¬ h = 2) : soA h x v = ¬ x = v := by unfold soA; rw [if_neg a, if_neg b, if_neg c]
theorem isRw.kk {f : Mem} {a b N : Nat} {s : Sg} {k : Ro} (h : isRw f a b N s k) {i : Nat} (hi : i < 4) : f a (b + 48 + i) = k i := by
  rw [show b + 48 + i = b + (48 + i) by omega]; exact (h.2.2.2 _ (by omega)).trans (flat_k _ _ hi)
theorem al_t {i : Nat} {cs ch : Nat → Nat} {cv k : Ro} (h : allS i cs ch cv k) (q : soA (ch i) (k (cs i)) (cv i)) : allS (i + 1) cs ch cv k := fun j hj => by
  by_cases e : j < i
  · exact h j e
  · rw [show j = i by omega]; exact q
theorem al_f {i : Nat} {cs ch : Nat → Nat} {cv k : Ro} (h : ¬ allS i cs ch cv k ∨ ¬ soA (ch i) (k (cs i)) (cv i)) : ¬ allS (i + 1) cs ch cv k := fun q =>
  h.elim (fun z => z (fun j hj => q j (by omega))) (fun z => z (q i (by omega)))
theorem lc_areSo (f : Mem) (a b N : Nat) (s : Sg) (k : Ro) (hR : isRw f a b N s k) (cn : Nat) (cs ch : Nat → Nat) (cv : Ro) (hN : RNc f cn cs ch cv) (hw : wN cn cs ch) : ∀ i, i ≤ cn → A (cM MX11_areSo 0 0 layT layT (rt (some (.int (bz (allS cn cs ch cv k)))) f)) 5 [(4, .int (nI i)), (3, .int (bz (allS i cs ch cv k))), (0, .ref 93), (1, .ref a), (2, .int (nI b))] [] f := by
  have h4 := hw.1
  refine up_ind cn (fun i hi ih => ?_)
  refine A_iload dX11_areSo_5 0 rfl ?_
  refine A_aload_n dX11_areSo_7 rfl 2 rfl ?_
  refine A_getI dX11_areSo_8 fo_RX11_218 L93 rfl ?_
  refine A_topi (nI cn) (hN.1) ?_
  refine A_icmp_ge (tgt := 128) dX11_areSo_11 rfl (fun h11 => ?_) (fun h11 => ?_)
  · rw [nI_leI (by omega) (by omega)] at h11
    have ei : i = cn := by omega
    refine A_iload_n dX11_areSo_128 rfl 1 rfl ?_
    exact A_zret dX11_areSo_129 rfl (bz_01 _) (rti (by rw [ei]) rfl)
  · rw [nI_leI (by omega) (by omega)] at h11
    have hin : i < cn := by omega
    have hch := (hw.2 i hin).2
    refine A_aload_n dX11_areSo_14 rfl 3 rfl ?_
    refine A_iload_n dX11_areSo_15 rfl 4 rfl ?_
    refine A_bipush (v := 48) dX11_areSo_16 rfl ?_
    refine A_iadd dX11_areSo_18 ?_
    refine A_aload_n dX11_areSo_19 rfl 2 rfl ?_
    refine A_getR (b := 109) dX11_areSo_20 fo_RX11_55 L93 rfl ?_
    refine A_iconst (v := 3) dX11_areSo_23 rfl ?_
    refine A_iload dX11_areSo_24 0 rfl ?_
    refine A_imul dX11_areSo_26 ?_
    refine A_iaload (3 * i) dX11_areSo_27 L109 (by simp only [lit, nI_add, pk_mul]) (by omega) (lb rfl) ?_
    refine A_topi (nI (cs i)) ((hN.2 i hin).1) ?_
    refine A_iadd dX11_areSo_28 ?_
    refine A_iaload (b + 48 + cs i) dX11_areSo_29 hR.1 (by simp only [lit, nI_add, pk_mul]) (by have := hR.2.1; have := (hw.2 i hin).1; omega) (by have := hR.2.2.1; omega) ?_
    refine A_topi (k (cs i)) (hR.kk (hw.2 i hin).1) ?_
    refine A_istore (lv' := [(5, .int (k (cs i))), (4, .int (nI i)), (3, .int (bz (allS i cs ch cv k))), (0, .ref 93), (1, .ref a), (2, .int (nI b))]) dX11_areSo_30 (lb rfl) rfl ?_
    refine A_aload_n dX11_areSo_32 rfl 3 rfl ?_
    refine A_getR (b := 109) dX11_areSo_33 fo_RX11_55 L93 rfl ?_
    refine A_iconst (v := 3) dX11_areSo_36 rfl ?_
    refine A_iload dX11_areSo_37 1 rfl ?_
    refine A_imul dX11_areSo_39 ?_
    refine A_iconst (v := 2) dX11_areSo_40 rfl ?_
    refine A_iadd dX11_areSo_41 ?_
    refine A_iaload (3 * i + 2) dX11_areSo_42 L109 (by simp only [lit, nI_add, pk_mul]) (by omega) (lb rfl) ?_
    refine A_topi (cv i) ((hN.2 i hin).2.2) ?_
    refine A_istore (lv' := [(6, .int (cv i)), (5, .int (k (cs i))), (4, .int (nI i)), (3, .int (bz (allS i cs ch cv k))), (0, .ref 93), (1, .ref a), (2, .int (nI b))]) dX11_areSo_43 (lb rfl) rfl ?_
    refine A_aload_n dX11_areSo_45 rfl 4 rfl ?_
    refine A_getR (b := 109) dX11_areSo_46 fo_RX11_55 L93 rfl ?_
    refine A_iconst (v := 3) dX11_areSo_49 rfl ?_
    refine A_iload dX11_areSo_50 2 rfl ?_
    refine A_imul dX11_areSo_52 ?_
    refine A_iconst (v := 1) dX11_areSo_53 rfl ?_
    refine A_iadd dX11_areSo_54 ?_
    refine A_iaload (3 * i + 1) dX11_areSo_55 L109 (by simp only [lit, nI_add, pk_mul]) (by omega) (lb rfl) ?_
    refine A_topi (nI (ch i)) ((hN.2 i hin).2.1) ?_
    refine A_istore (lv' := [(7, .int (nI (ch i))), (6, .int (cv i)), (5, .int (k (cs i))), (4, .int (nI i)), (3, .int (bz (allS i cs ch cv k))), (0, .ref 93), (1, .ref a), (2, .int (nI b))]) dX11_areSo_56 (lb rfl) rfl ?_
    refine A_iload_n dX11_areSo_58 rfl 4 rfl ?_
    refine A_if_eq (tgt := 120) dX11_areSo_59 rfl (fun h59 => ?_) (fun h59 => ?_)
    · refine A_iconst (v := 0) dX11_areSo_120 rfl ?_
      refine A_istore_n (lv' := [(3, .int 0), (7, .int (nI (ch i))), (6, .int (cv i)), (5, .int (k (cs i))), (4, .int (nI i)), (0, .ref 93), (1, .ref a), (2, .int (nI b))]) dX11_areSo_121 rfl (lb rfl) rfl ?_
      refine A_iinc (lv' := [(4, .int (nI (i + 1))), (3, .int 0), (7, .int (nI (ch i))), (6, .int (cv i)), (5, .int (k (cs i))), (0, .ref 93), (1, .ref a), (2, .int (nI b))]) dX11_areSo_122 4 rfl (nI_add i 1) (lb rfl) rfl ?_
      refine A_goto (tgt := 5) dX11_areSo_125 rfl ?_
      refine A_sub [0, 1, 5, 6, 7] rfl ?_
      have e := ih (i + 1) (by omega) (by omega)
      have e3 : bz (allS (i + 1) cs ch cv k) = 0 := bz_f (al_f (by first | exact .inl (bz_0.mp h59) | exact .inr (by rw [so_0 h64]; first | exact h71 | exact Int32.not_lt.mpr h71) | exact .inr (by rw [so_1 h64 h80]; exact h87) | exact .inr (by rw [so_2 h64 h80 h96]; first | exact h103 | exact Int32.not_lt.mpr h103) | exact .inr (by rw [so_3 h64 h80 h96]; exact not_not_intro h113)))
      rw [e3] at e
      exact e
    · refine A_iload dX11_areSo_62 0 rfl ?_
      refine A_if_ne (tgt := 77) dX11_areSo_64 rfl (fun h64 => ?_) (fun h64 => ?_)
      · rw [nI_z (by omega)] at h64
        refine A_iload dX11_areSo_77 0 rfl ?_
        refine A_iconst (v := 1) dX11_areSo_79 rfl ?_
        refine A_icmp_ne (tgt := 93) dX11_areSo_80 rfl (fun h80 => ?_) (fun h80 => ?_)
        · rw [show (1 : Int32) = nI 1 from rfl, nI_eq (by omega) (by omega)] at h80
          refine A_iload dX11_areSo_93 0 rfl ?_
          refine A_iconst (v := 2) dX11_areSo_95 rfl ?_
          refine A_icmp_ne (tgt := 109) dX11_areSo_96 rfl (fun h96 => ?_) (fun h96 => ?_)
          · rw [show (2 : Int32) = nI 2 from rfl, nI_eq (by omega) (by omega)] at h96
            refine A_iload dX11_areSo_109 2 rfl ?_
            refine A_iload dX11_areSo_111 1 rfl ?_
            refine A_icmp_eq (tgt := 120) dX11_areSo_113 rfl (fun h113 => ?_) (fun h113 => ?_)
            · refine A_iconst (v := 0) dX11_areSo_120 rfl ?_
              refine A_istore_n (lv' := [(3, .int 0), (7, .int (nI (ch i))), (6, .int (cv i)), (5, .int (k (cs i))), (4, .int (nI i)), (0, .ref 93), (1, .ref a), (2, .int (nI b))]) dX11_areSo_121 rfl (lb rfl) rfl ?_
              refine A_iinc (lv' := [(4, .int (nI (i + 1))), (3, .int 0), (7, .int (nI (ch i))), (6, .int (cv i)), (5, .int (k (cs i))), (0, .ref 93), (1, .ref a), (2, .int (nI b))]) dX11_areSo_122 4 rfl (nI_add i 1) (lb rfl) rfl ?_
              refine A_goto (tgt := 5) dX11_areSo_125 rfl ?_
              refine A_sub [0, 1, 5, 6, 7] rfl ?_
              have e := ih (i + 1) (by omega) (by omega)
              have e3 : bz (allS (i + 1) cs ch cv k) = 0 := bz_f (al_f (by first | exact .inl (bz_0.mp h59) | exact .inr (by rw [so_0 h64]; first | exact h71 | exact Int32.not_lt.mpr h71) | exact .inr (by rw [so_1 h64 h80]; exact h87) | exact .inr (by rw [so_2 h64 h80 h96]; first | exact h103 | exact Int32.not_lt.mpr h103) | exact .inr (by rw [so_3 h64 h80 h96]; exact not_not_intro h113)))
              rw [e3] at e
              exact e
            · refine A_iconst (v := 1) dX11_areSo_116 rfl ?_
              refine A_goto (tgt := 121) dX11_areSo_117 rfl ?_
              refine A_istore_n (lv' := [(3, .int 1), (7, .int (nI (ch i))), (6, .int (cv i)), (5, .int (k (cs i))), (4, .int (nI i)), (0, .ref 93), (1, .ref a), (2, .int (nI b))]) dX11_areSo_121 rfl (lb rfl) rfl ?_
              refine A_iinc (lv' := [(4, .int (nI (i + 1))), (3, .int 1), (7, .int (nI (ch i))), (6, .int (cv i)), (5, .int (k (cs i))), (0, .ref 93), (1, .ref a), (2, .int (nI b))]) dX11_areSo_122 4 rfl (nI_add i 1) (lb rfl) rfl ?_
              refine A_goto (tgt := 5) dX11_areSo_125 rfl ?_
              refine A_sub [0, 1, 5, 6, 7] rfl ?_
              have e := ih (i + 1) (by omega) (by omega)
              have e3 : bz (allS (i + 1) cs ch cv k) = 1 := bz_t (al_t (bz_n0.mp h59) (by first | (rw [so_0 h64]; first | exact h71 | exact Int32.not_le.mp h71) | (rw [so_1 h64 h80]; exact h87) | (rw [so_2 h64 h80 h96]; first | exact h103 | exact Int32.not_le.mp h103) | (rw [so_3 h64 h80 h96]; exact h113)))
              rw [e3] at e
              exact e
          · rw [show (2 : Int32) = nI 2 from rfl, nI_eq (by omega) (by omega)] at h96
            refine A_iload dX11_areSo_99 2 rfl ?_
            refine A_iload dX11_areSo_101 1 rfl ?_
            refine A_icmp_le (tgt := 120) dX11_areSo_103 rfl (fun h103 => ?_) (fun h103 => ?_)
            · refine A_iconst (v := 0) dX11_areSo_120 rfl ?_
              refine A_istore_n (lv' := [(3, .int 0), (7, .int (nI (ch i))), (6, .int (cv i)), (5, .int (k (cs i))), (4, .int (nI i)), (0, .ref 93), (1, .ref a), (2, .int (nI b))]) dX11_areSo_121 rfl (lb rfl) rfl ?_
              refine A_iinc (lv' := [(4, .int (nI (i + 1))), (3, .int 0), (7, .int (nI (ch i))), (6, .int (cv i)), (5, .int (k (cs i))), (0, .ref 93), (1, .ref a), (2, .int (nI b))]) dX11_areSo_122 4 rfl (nI_add i 1) (lb rfl) rfl ?_
              refine A_goto (tgt := 5) dX11_areSo_125 rfl ?_
              refine A_sub [0, 1, 5, 6, 7] rfl ?_
              have e := ih (i + 1) (by omega) (by omega)
              have e3 : bz (allS (i + 1) cs ch cv k) = 0 := bz_f (al_f (by first | exact .inl (bz_0.mp h59) | exact .inr (by rw [so_0 h64]; first | exact h71 | exact Int32.not_lt.mpr h71) | exact .inr (by rw [so_1 h64 h80]; exact h87) | exact .inr (by rw [so_2 h64 h80 h96]; first | exact h103 | exact Int32.not_lt.mpr h103) | exact .inr (by rw [so_3 h64 h80 h96]; exact not_not_intro h113)))
              rw [e3] at e
              exact e
            · refine A_goto (tgt := 116) dX11_areSo_106 rfl ?_
              refine A_iconst (v := 1) dX11_areSo_116 rfl ?_
              refine A_goto (tgt := 121) dX11_areSo_117 rfl ?_
              refine A_istore_n (lv' := [(3, .int 1), (7, .int (nI (ch i))), (6, .int (cv i)), (5, .int (k (cs i))), (4, .int (nI i)), (0, .ref 93), (1, .ref a), (2, .int (nI b))]) dX11_areSo_121 rfl (lb rfl) rfl ?_
              refine A_iinc (lv' := [(4, .int (nI (i + 1))), (3, .int 1), (7, .int (nI (ch i))), (6, .int (cv i)), (5, .int (k (cs i))), (0, .ref 93), (1, .ref a), (2, .int (nI b))]) dX11_areSo_122 4 rfl (nI_add i 1) (lb rfl) rfl ?_
              refine A_goto (tgt := 5) dX11_areSo_125 rfl ?_
              refine A_sub [0, 1, 5, 6, 7] rfl ?_
              have e := ih (i + 1) (by omega) (by omega)
              have e3 : bz (allS (i + 1) cs ch cv k) = 1 := bz_t (al_t (bz_n0.mp h59) (by first | (rw [so_0 h64]; first | exact h71 | exact Int32.not_le.mp h71) | (rw [so_1 h64 h80]; exact h87) | (rw [so_2 h64 h80 h96]; first | exact h103 | exact Int32.not_le.mp h103) | (rw [so_3 h64 h80 h96]; exact h113)))
              rw [e3] at e
              exact e
        · rw [show (1 : Int32) = nI 1 from rfl, nI_eq (by omega) (by omega)] at h80
          refine A_iload dX11_areSo_83 2 rfl ?_
          refine A_iload dX11_areSo_85 1 rfl ?_
          refine A_icmp_ne (tgt := 120) dX11_areSo_87 rfl (fun h87 => ?_) (fun h87 => ?_)
          · refine A_iconst (v := 0) dX11_areSo_120 rfl ?_
            refine A_istore_n (lv' := [(3, .int 0), (7, .int (nI (ch i))), (6, .int (cv i)), (5, .int (k (cs i))), (4, .int (nI i)), (0, .ref 93), (1, .ref a), (2, .int (nI b))]) dX11_areSo_121 rfl (lb rfl) rfl ?_
            refine A_iinc (lv' := [(4, .int (nI (i + 1))), (3, .int 0), (7, .int (nI (ch i))), (6, .int (cv i)), (5, .int (k (cs i))), (0, .ref 93), (1, .ref a), (2, .int (nI b))]) dX11_areSo_122 4 rfl (nI_add i 1) (lb rfl) rfl ?_
            refine A_goto (tgt := 5) dX11_areSo_125 rfl ?_
            refine A_sub [0, 1, 5, 6, 7] rfl ?_
            have e := ih (i + 1) (by omega) (by omega)
            have e3 : bz (allS (i + 1) cs ch cv k) = 0 := bz_f (al_f (by first | exact .inl (bz_0.mp h59) | exact .inr (by rw [so_0 h64]; first | exact h71 | exact Int32.not_lt.mpr h71) | exact .inr (by rw [so_1 h64 h80]; exact h87) | exact .inr (by rw [so_2 h64 h80 h96]; first | exact h103 | exact Int32.not_lt.mpr h103) | exact .inr (by rw [so_3 h64 h80 h96]; exact not_not_intro h113)))
            rw [e3] at e
            exact e
          · refine A_goto (tgt := 116) dX11_areSo_90 rfl ?_
            refine A_iconst (v := 1) dX11_areSo_116 rfl ?_
            refine A_goto (tgt := 121) dX11_areSo_117 rfl ?_
            refine A_istore_n (lv' := [(3, .int 1), (7, .int (nI (ch i))), (6, .int (cv i)), (5, .int (k (cs i))), (4, .int (nI i)), (0, .ref 93), (1, .ref a), (2, .int (nI b))]) dX11_areSo_121 rfl (lb rfl) rfl ?_
            refine A_iinc (lv' := [(4, .int (nI (i + 1))), (3, .int 1), (7, .int (nI (ch i))), (6, .int (cv i)), (5, .int (k (cs i))), (0, .ref 93), (1, .ref a), (2, .int (nI b))]) dX11_areSo_122 4 rfl (nI_add i 1) (lb rfl) rfl ?_
            refine A_goto (tgt := 5) dX11_areSo_125 rfl ?_
            refine A_sub [0, 1, 5, 6, 7] rfl ?_
            have e := ih (i + 1) (by omega) (by omega)
            have e3 : bz (allS (i + 1) cs ch cv k) = 1 := bz_t (al_t (bz_n0.mp h59) (by first | (rw [so_0 h64]; first | exact h71 | exact Int32.not_le.mp h71) | (rw [so_1 h64 h80]; exact h87) | (rw [so_2 h64 h80 h96]; first | exact h103 | exact Int32.not_le.mp h103) | (rw [so_3 h64 h80 h96]; exact h113)))
            rw [e3] at e
            exact e
      · rw [nI_z (by omega)] at h64
        refine A_iload dX11_areSo_67 2 rfl ?_
        refine A_iload dX11_areSo_69 1 rfl ?_
        refine A_icmp_ge (tgt := 120) dX11_areSo_71 rfl (fun h71 => ?_) (fun h71 => ?_)
        · refine A_iconst (v := 0) dX11_areSo_120 rfl ?_
          refine A_istore_n (lv' := [(3, .int 0), (7, .int (nI (ch i))), (6, .int (cv i)), (5, .int (k (cs i))), (4, .int (nI i)), (0, .ref 93), (1, .ref a), (2, .int (nI b))]) dX11_areSo_121 rfl (lb rfl) rfl ?_
          refine A_iinc (lv' := [(4, .int (nI (i + 1))), (3, .int 0), (7, .int (nI (ch i))), (6, .int (cv i)), (5, .int (k (cs i))), (0, .ref 93), (1, .ref a), (2, .int (nI b))]) dX11_areSo_122 4 rfl (nI_add i 1) (lb rfl) rfl ?_
          refine A_goto (tgt := 5) dX11_areSo_125 rfl ?_
          refine A_sub [0, 1, 5, 6, 7] rfl ?_
          have e := ih (i + 1) (by omega) (by omega)
          have e3 : bz (allS (i + 1) cs ch cv k) = 0 := bz_f (al_f (by first | exact .inl (bz_0.mp h59) | exact .inr (by rw [so_0 h64]; first | exact h71 | exact Int32.not_lt.mpr h71) | exact .inr (by rw [so_1 h64 h80]; exact h87) | exact .inr (by rw [so_2 h64 h80 h96]; first | exact h103 | exact Int32.not_lt.mpr h103) | exact .inr (by rw [so_3 h64 h80 h96]; exact not_not_intro h113)))
          rw [e3] at e
          exact e
        · refine A_goto (tgt := 116) dX11_areSo_74 rfl ?_
          refine A_iconst (v := 1) dX11_areSo_116 rfl ?_
          refine A_goto (tgt := 121) dX11_areSo_117 rfl ?_
          refine A_istore_n (lv' := [(3, .int 1), (7, .int (nI (ch i))), (6, .int (cv i)), (5, .int (k (cs i))), (4, .int (nI i)), (0, .ref 93), (1, .ref a), (2, .int (nI b))]) dX11_areSo_121 rfl (lb rfl) rfl ?_
          refine A_iinc (lv' := [(4, .int (nI (i + 1))), (3, .int 1), (7, .int (nI (ch i))), (6, .int (cv i)), (5, .int (k (cs i))), (0, .ref 93), (1, .ref a), (2, .int (nI b))]) dX11_areSo_122 4 rfl (nI_add i 1) (lb rfl) rfl ?_
          refine A_goto (tgt := 5) dX11_areSo_125 rfl ?_
          refine A_sub [0, 1, 5, 6, 7] rfl ?_
          have e := ih (i + 1) (by omega) (by omega)
          have e3 : bz (allS (i + 1) cs ch cv k) = 1 := bz_t (al_t (bz_n0.mp h59) (by first | (rw [so_0 h64]; first | exact h71 | exact Int32.not_le.mp h71) | (rw [so_1 h64 h80]; exact h87) | (rw [so_2 h64 h80 h96]; first | exact h103 | exact Int32.not_le.mp h103) | (rw [so_3 h64 h80 h96]; exact h113)))
          rw [e3] at e
          exact e
theorem c_areSo (f : Mem) (a b N : Nat) (s : Sg) (k : Ro) (hR : isRw f a b N s k) (cn : Nat) (cs ch : Nat → Nat) (cv : Ro) (hN : RNc f cn cs ch cv) (hw : wN cn cs ch) : C0 MX11_areSo [.ref 93, .ref a, .int (nI b)] f (rt (some (.int (bz (allS cn cs ch cv k)))) f) := by
  refine Ct.of (lv := [(0, .ref 93), (1, .ref a), (2, .int (nI b))]) (by decide) (lb rfl) rfl ?_
  refine A_iconst (v := 1) dX11_areSo_0 rfl ?_
  refine A_istore_n (lv' := [(3, .int 1), (0, .ref 93), (1, .ref a), (2, .int (nI b))]) dX11_areSo_1 rfl (lb rfl) rfl ?_
  refine A_iconst (v := 0) dX11_areSo_2 rfl ?_
  refine A_istore (lv' := [(4, .int 0), (3, .int 1), (0, .ref 93), (1, .ref a), (2, .int (nI b))]) dX11_areSo_3 (lb rfl) rfl ?_
  refine A_sub [0, 1, 2, 3, 4] rfl ?_
  have e := lc_areSo f a b N s k hR cn cs ch cv hN hw 0 (by omega)
  rw [show bz (allS 0 cs ch cv k) = 1 from bz_t (fun j hj => absurd hj (by omega))] at e
  exact e
theorem c_holds (f : Mem) (s : Sg) (k p rz lz : Ro) (hC : RC f s k p rz lz) (w : wfC s k p) (cn : Nat) (cs ch : Nat → Nat) (cv : Ro) (hN : RNc f cn cs ch cv) (hw : wN cn cs ch) : C0 MX11_holds [.ref 93] f (rt (some (.int (bz (allS cn cs ch cv k)))) f) := by
  refine Ct.of (lv := [(0, .ref 93)]) (by decide) (lb rfl) rfl ?_
  refine A_aload_n dX11_holds_0 rfl 0 rfl ?_
  refine A_aload_n dX11_holds_1 rfl 0 rfl ?_
  refine A_getR (b := 94) dX11_holds_2 fo_RX11_9 L93 rfl ?_
  refine A_iconst (v := 0) dX11_holds_5 rfl ?_
  refine A_callV (M' := MX11_areSo) [.ref 94, .int 0] [] 93 dX11_holds_6 lk_RX11_241 oX11_areSo iX11_areSo rfl rfl ⟨lb rfl, lb rfl⟩ (lb rfl) ⟨lb rfl, lb rfl⟩ L93 rfl (c_areSo f 94 0 253 s k hC.rw cn cs ch cv hN hw) ?_
  rintro _ g0 ⟨rfl, hg0⟩
  rw [hg0]
  refine A_if_eq (tgt := 16) dX11_holds_9 rfl (fun h9 => ?_) (fun h9 => ?_)
  · refine A_iconst (v := 0) dX11_holds_16 rfl ?_
    exact A_iret dX11_holds_17 rfl (rti (bz_f (bz_0.mp h9)).symm rfl)
  · refine A_iconst (v := 1) dX11_holds_12 rfl ?_
    refine A_goto (tgt := 17) dX11_holds_13 rfl ?_
    exact A_iret dX11_holds_17 rfl (rti (bz_t (bz_n0.mp h9)).symm rfl)
