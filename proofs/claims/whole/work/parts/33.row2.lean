theorem l_rowLen {lay : List Ly} (r : Nat → Nat) (n : Nat) (f : Mem) (h : isRow r n) : ∀ i, i ≤ 4 → A (cM MX5_length 0 0 lay lay (rt (some (.int (nI n))) f)) 4 [(2, .int (nI i)), (1, .int (nI (min i n))), (0, .int (pk r))] [] f := by
  refine up_ind 4 (fun i hi ih => ?_)
  have hn4 := h.1
  refine A_iload_n dX5_length_4 rfl 0 rfl ?_
  refine A_iconst (v := 4) dX5_length_5 rfl ?_
  refine A_icmp_ge (tgt := 29) dX5_length_6 rfl (fun h6 => ?_) (fun h6 => ?_)
  · rw [show (4 : Int32) = nI 4 from rfl, nI_leI (by omega) (by omega)] at h6
    refine A_iload_n dX5_length_29 rfl 1 rfl ?_
    exact A_iret dX5_length_30 rfl (rti (by rw [show min i n = n by have := h.1; omega]) rfl)
  · rw [show (4 : Int32) = nI 4 from rfl, nI_leI (by omega) (by omega)] at h6
    have hi2 := h.2 i (by omega)
    refine A_iload_n dX5_length_9 rfl 2 rfl ?_
    refine A_iconst (v := 3) dX5_length_10 rfl ?_
    refine A_iload_n dX5_length_11 rfl 0 rfl ?_
    refine A_imul dX5_length_12 ?_
    refine A_iushr dX5_length_13 ?_
    refine A_bipush (v := 7) dX5_length_14 rfl ?_
    refine A_iand dX5_length_16 ?_
    refine A_topi (nI (r i)) (by rw [show (3 : Int32) * nI i = nI (3 * i) from pk_mul 3 i]; exact pk_sl h.sm (by omega)) ?_
    refine A_if_eq (tgt := 23) dX5_length_17 rfl (fun h17 => ?_) (fun h17 => ?_)
    · rw [show (0 : Int32) = nI 0 from rfl, nI_eq (by have := h.sm i (by omega); omega) (by omega)] at h17
      have q : n ≤ i := by
        rcases Nat.lt_or_ge i n with q | q
        · have := (hi2.1 q).1; omega
        · exact q
      refine A_iinc (lv' := [(2, .int (nI (i + 1))), (1, .int (nI (min i n))), (0, .int (pk r))]) dX5_length_23 0 rfl (nI_add i 1) (lb rfl) rfl ?_
      refine A_goto (tgt := 4) dX5_length_26 rfl ?_
      have e := ih (i + 1) (by omega) (by omega)
      rw [show min (i + 1) n = min i n by omega] at e
      exact e
    · rw [show (0 : Int32) = nI 0 from rfl, nI_eq (by have := h.sm i (by omega); omega) (by omega)] at h17
      have q : i < n := by
        rcases Nat.lt_or_ge i n with q | q
        · exact q
        · exact absurd (hi2.2 q) h17
      refine A_iinc (lv' := [(1, .int (nI ((min i n) + 1))), (2, .int (nI i)), (0, .int (pk r))]) dX5_length_20 1 rfl (nI_add (min i n) 1) (lb rfl) rfl ?_
      refine A_iinc (lv' := [(2, .int (nI (i + 1))), (1, .int (nI ((min i n) + 1))), (0, .int (pk r))]) dX5_length_23 1 rfl (nI_add i 1) (lb rfl) rfl ?_
      refine A_goto (tgt := 4) dX5_length_26 rfl ?_
      have e := ih (i + 1) (by omega) (by omega)
      rw [show min (i + 1) n = min i n + 1 by omega] at e
      exact e
theorem c_rowLen {lay : List Ly} (r : Nat → Nat) (n : Nat) (f : Mem) (h : isRow r n) : Ct MX5_length 0 0 lay lay [.int (pk r)] f (rt (some (.int (nI n))) f) := by
  refine Ct.of (lv := [(0, .int (pk r))]) (by decide) (lb rfl) rfl ?_
  refine A_iconst (v := 0) dX5_length_0 rfl ?_
  refine A_istore_n (lv' := [(1, .int 0), (0, .int (pk r))]) dX5_length_1 rfl (lb rfl) rfl ?_
  refine A_iconst (v := 0) dX5_length_2 rfl ?_
  refine A_istore_n (lv' := [(2, .int 0), (1, .int 0), (0, .int (pk r))]) dX5_length_3 rfl (lb rfl) rfl ?_
  have e := l_rowLen (lay := lay) r n f h 0 (by omega)
  rw [show min 0 n = 0 by omega] at e
  exact e
theorem c_rowHas {lay : List Ly} (r : Nat → Nat) (t : Nat) (f : Mem) (h : sm4 r) (ht : t < 4) : Ct MX5_has 0 0 lay lay [.int (pk r), .int (nI t)] f (rt (some (.int (bz (r 0 = t + 1 ∨ r 1 = t + 1 ∨ r 2 = t + 1 ∨ r 3 = t + 1)))) f) := by
  refine Ct.of (lv := [(0, .int (pk r)), (1, .int (nI t))]) (by decide) (lb rfl) rfl ?_
  refine A_iconst (v := 0) dX5_has_0 rfl ?_
  refine A_istore_n (lv' := [(2, .int 0), (0, .int (pk r)), (1, .int (nI t))]) dX5_has_1 rfl (lb rfl) rfl ?_
  refine A_iload_n dX5_has_2 rfl 0 rfl ?_
  refine A_iconst (v := 4) dX5_has_3 rfl ?_
  refine A_icmp_ge (tgt := 29) dX5_has_4 rfl (fun h4 => absurd h4 (by decide)) (fun h4 => ?_)
  refine A_iload_n dX5_has_7 rfl 1 rfl ?_
  refine A_iconst (v := 3) dX5_has_8 rfl ?_
  refine A_iload_n dX5_has_9 rfl 0 rfl ?_
  refine A_imul dX5_has_10 ?_
  refine A_topi (0) (by decide) ?_
  refine A_iushr dX5_has_11 ?_
  refine A_bipush (v := 7) dX5_has_12 rfl ?_
  refine A_iand dX5_has_14 ?_
  refine A_topi (nI (r 0)) (ps_0 h) ?_
  refine A_iload_n dX5_has_15 rfl 2 rfl ?_
  refine A_iconst (v := 1) dX5_has_16 rfl ?_
  refine A_iadd dX5_has_17 ?_
  refine A_icmp_ne (tgt := 23) dX5_has_18 rfl (fun h18 => ?_) (fun h18 => ?_)
  · have e0 := h18
    rw [nI_1, nI_eq (by have := h 0 (by omega); omega) (by omega)] at e0
    refine A_iinc (lv' := [(2, .int 1), (0, .int (pk r)), (1, .int (nI t))]) dX5_has_23 0 rfl rfl (lb rfl) rfl ?_
    refine A_goto (tgt := 2) dX5_has_26 rfl ?_
    refine A_iload_n dX5_has_2 rfl 0 rfl ?_
    refine A_iconst (v := 4) dX5_has_3 rfl ?_
    refine A_icmp_ge (tgt := 29) dX5_has_4 rfl (fun h4 => absurd h4 (by decide)) (fun h4 => ?_)
    refine A_iload_n dX5_has_7 rfl 1 rfl ?_
    refine A_iconst (v := 3) dX5_has_8 rfl ?_
    refine A_iload_n dX5_has_9 rfl 0 rfl ?_
    refine A_imul dX5_has_10 ?_
    refine A_topi (3) (by decide) ?_
    refine A_iushr dX5_has_11 ?_
    refine A_bipush (v := 7) dX5_has_12 rfl ?_
    refine A_iand dX5_has_14 ?_
    refine A_topi (nI (r 1)) (ps_1 h) ?_
    refine A_iload_n dX5_has_15 rfl 2 rfl ?_
    refine A_iconst (v := 1) dX5_has_16 rfl ?_
    refine A_iadd dX5_has_17 ?_
    refine A_icmp_ne (tgt := 23) dX5_has_18 rfl (fun h18 => ?_) (fun h18 => ?_)
    · have e1 := h18
      rw [nI_1, nI_eq (by have := h 1 (by omega); omega) (by omega)] at e1
      refine A_iinc (lv' := [(2, .int 2), (0, .int (pk r)), (1, .int (nI t))]) dX5_has_23 0 rfl rfl (lb rfl) rfl ?_
      refine A_goto (tgt := 2) dX5_has_26 rfl ?_
      refine A_iload_n dX5_has_2 rfl 0 rfl ?_
      refine A_iconst (v := 4) dX5_has_3 rfl ?_
      refine A_icmp_ge (tgt := 29) dX5_has_4 rfl (fun h4 => absurd h4 (by decide)) (fun h4 => ?_)
      refine A_iload_n dX5_has_7 rfl 1 rfl ?_
      refine A_iconst (v := 3) dX5_has_8 rfl ?_
      refine A_iload_n dX5_has_9 rfl 0 rfl ?_
      refine A_imul dX5_has_10 ?_
      refine A_topi (6) (by decide) ?_
      refine A_iushr dX5_has_11 ?_
      refine A_bipush (v := 7) dX5_has_12 rfl ?_
      refine A_iand dX5_has_14 ?_
      refine A_topi (nI (r 2)) (ps_2 h) ?_
      refine A_iload_n dX5_has_15 rfl 2 rfl ?_
      refine A_iconst (v := 1) dX5_has_16 rfl ?_
      refine A_iadd dX5_has_17 ?_
      refine A_icmp_ne (tgt := 23) dX5_has_18 rfl (fun h18 => ?_) (fun h18 => ?_)
      · have e2 := h18
        rw [nI_1, nI_eq (by have := h 2 (by omega); omega) (by omega)] at e2
        refine A_iinc (lv' := [(2, .int 3), (0, .int (pk r)), (1, .int (nI t))]) dX5_has_23 0 rfl rfl (lb rfl) rfl ?_
        refine A_goto (tgt := 2) dX5_has_26 rfl ?_
        refine A_iload_n dX5_has_2 rfl 0 rfl ?_
        refine A_iconst (v := 4) dX5_has_3 rfl ?_
        refine A_icmp_ge (tgt := 29) dX5_has_4 rfl (fun h4 => absurd h4 (by decide)) (fun h4 => ?_)
        refine A_iload_n dX5_has_7 rfl 1 rfl ?_
        refine A_iconst (v := 3) dX5_has_8 rfl ?_
        refine A_iload_n dX5_has_9 rfl 0 rfl ?_
        refine A_imul dX5_has_10 ?_
        refine A_topi (9) (by decide) ?_
        refine A_iushr dX5_has_11 ?_
        refine A_bipush (v := 7) dX5_has_12 rfl ?_
        refine A_iand dX5_has_14 ?_
        refine A_topi (nI (r 3)) (ps_3 h) ?_
        refine A_iload_n dX5_has_15 rfl 2 rfl ?_
        refine A_iconst (v := 1) dX5_has_16 rfl ?_
        refine A_iadd dX5_has_17 ?_
        refine A_icmp_ne (tgt := 23) dX5_has_18 rfl (fun h18 => ?_) (fun h18 => ?_)
        · have e3 := h18
          rw [nI_1, nI_eq (by have := h 3 (by omega); omega) (by omega)] at e3
          refine A_iinc (lv' := [(2, .int 4), (0, .int (pk r)), (1, .int (nI t))]) dX5_has_23 0 rfl rfl (lb rfl) rfl ?_
          refine A_goto (tgt := 2) dX5_has_26 rfl ?_
          refine A_iload_n dX5_has_2 rfl 0 rfl ?_
          refine A_iconst (v := 4) dX5_has_3 rfl ?_
          refine A_icmp_ge (tgt := 29) dX5_has_4 rfl (fun h4 => ?_) (fun h4 => by exact absurd (by decide) h4)
          refine A_iconst (v := 0) dX5_has_29 rfl ?_
          exact A_zret dX5_has_30 rfl (by decide) (rti (bz_f (by omega)).symm rfl)
        · have e3 := h18
          rw [nI_1, nI_eq (by have := h 3 (by omega); omega) (by omega)] at e3
          refine A_iconst (v := 1) dX5_has_21 rfl ?_
          exact A_zret dX5_has_22 rfl (by decide) (rti (bz_t (by omega)).symm rfl)
      · have e2 := h18
        rw [nI_1, nI_eq (by have := h 2 (by omega); omega) (by omega)] at e2
        refine A_iconst (v := 1) dX5_has_21 rfl ?_
        exact A_zret dX5_has_22 rfl (by decide) (rti (bz_t (by omega)).symm rfl)
    · have e1 := h18
      rw [nI_1, nI_eq (by have := h 1 (by omega); omega) (by omega)] at e1
      refine A_iconst (v := 1) dX5_has_21 rfl ?_
      exact A_zret dX5_has_22 rfl (by decide) (rti (bz_t (by omega)).symm rfl)
  · have e0 := h18
    rw [nI_1, nI_eq (by have := h 0 (by omega); omega) (by omega)] at e0
    refine A_iconst (v := 1) dX5_has_21 rfl ?_
    exact A_zret dX5_has_22 rfl (by decide) (rti (bz_t (by omega)).symm rfl)
theorem x_isMonitor {lay : List Ly} (x : Int32) (f : Mem) : Ct MX10_isMonitor 0 0 lay lay [.int x] f (rt (some (.int (bz (inR x 3)))) f) := by
  refine Ct.of (lv := [(0, .int x)]) (by decide) (lb rfl) rfl ?_
  refine A_iload_n dX10_isMonitor_0 rfl 0 rfl ?_
  refine A_if_lt (tgt := 13) dX10_isMonitor_1 rfl (fun h1 => ?_) (fun h1 => ?_)
  · refine A_iconst (v := 0) dX10_isMonitor_13 rfl ?_
    exact A_zret dX10_isMonitor_14 rfl (by decide) (rti (bz_f (fun q => by first | (have := Int32.lt_iff_toInt_lt.mp h1; simp at this; omega) | (have := Int32.le_iff_toInt_le.mp h6; simp at this; omega))).symm rfl)
  · refine A_iload_n dX10_isMonitor_4 rfl 0 rfl ?_
    refine A_iconst (v := 3) dX10_isMonitor_5 rfl ?_
    refine A_icmp_ge (tgt := 13) dX10_isMonitor_6 rfl (fun h6 => ?_) (fun h6 => ?_)
    · refine A_iconst (v := 0) dX10_isMonitor_13 rfl ?_
      exact A_zret dX10_isMonitor_14 rfl (by decide) (rti (bz_f (fun q => by first | (have := Int32.lt_iff_toInt_lt.mp h1; simp at this; omega) | (have := Int32.le_iff_toInt_le.mp h6; simp at this; omega))).symm rfl)
    · refine A_iconst (v := 1) dX10_isMonitor_9 rfl ?_
      refine A_goto (tgt := 14) dX10_isMonitor_10 rfl ?_
      exact A_zret dX10_isMonitor_14 rfl (by decide) (rti (bz_t ⟨by have := mt Int32.lt_iff_toInt_lt.mpr h1; simp at this; omega, by have := mt Int32.le_iff_toInt_le.mpr h6; simp at this; omega⟩).symm rfl)
theorem x_isCell {lay : List Ly} (x : Int32) (f : Mem) : Ct MX10_isCell 0 0 lay lay [.int x] f (rt (some (.int (bz (inR x 4)))) f) := by
  refine Ct.of (lv := [(0, .int x)]) (by decide) (lb rfl) rfl ?_
  refine A_iload_n dX10_isCell_0 rfl 0 rfl ?_
  refine A_if_lt (tgt := 13) dX10_isCell_1 rfl (fun h1 => ?_) (fun h1 => ?_)
  · refine A_iconst (v := 0) dX10_isCell_13 rfl ?_
    exact A_zret dX10_isCell_14 rfl (by decide) (rti (bz_f (fun q => by first | (have := Int32.lt_iff_toInt_lt.mp h1; simp at this; omega) | (have := Int32.le_iff_toInt_le.mp h6; simp at this; omega))).symm rfl)
  · refine A_iload_n dX10_isCell_4 rfl 0 rfl ?_
    refine A_iconst (v := 4) dX10_isCell_5 rfl ?_
    refine A_icmp_ge (tgt := 13) dX10_isCell_6 rfl (fun h6 => ?_) (fun h6 => ?_)
    · refine A_iconst (v := 0) dX10_isCell_13 rfl ?_
      exact A_zret dX10_isCell_14 rfl (by decide) (rti (bz_f (fun q => by first | (have := Int32.lt_iff_toInt_lt.mp h1; simp at this; omega) | (have := Int32.le_iff_toInt_le.mp h6; simp at this; omega))).symm rfl)
    · refine A_iconst (v := 1) dX10_isCell_9 rfl ?_
      refine A_goto (tgt := 14) dX10_isCell_10 rfl ?_
      exact A_zret dX10_isCell_14 rfl (by decide) (rti (bz_t ⟨by have := mt Int32.lt_iff_toInt_lt.mpr h1; simp at this; omega, by have := mt Int32.le_iff_toInt_le.mpr h6; simp at this; omega⟩).symm rfl)
theorem x_isList {lay : List Ly} (x : Int32) (f : Mem) : Ct MX10_isList 0 0 lay lay [.int x] f (rt (some (.int (bz (inR x 4)))) f) := by
  refine Ct.of (lv := [(0, .int x)]) (by decide) (lb rfl) rfl ?_
  refine A_iload_n dX10_isList_0 rfl 0 rfl ?_
  refine A_if_lt (tgt := 13) dX10_isList_1 rfl (fun h1 => ?_) (fun h1 => ?_)
  · refine A_iconst (v := 0) dX10_isList_13 rfl ?_
    exact A_zret dX10_isList_14 rfl (by decide) (rti (bz_f (fun q => by first | (have := Int32.lt_iff_toInt_lt.mp h1; simp at this; omega) | (have := Int32.le_iff_toInt_le.mp h6; simp at this; omega))).symm rfl)
  · refine A_iload_n dX10_isList_4 rfl 0 rfl ?_
    refine A_iconst (v := 4) dX10_isList_5 rfl ?_
    refine A_icmp_ge (tgt := 13) dX10_isList_6 rfl (fun h6 => ?_) (fun h6 => ?_)
    · refine A_iconst (v := 0) dX10_isList_13 rfl ?_
      exact A_zret dX10_isList_14 rfl (by decide) (rti (bz_f (fun q => by first | (have := Int32.lt_iff_toInt_lt.mp h1; simp at this; omega) | (have := Int32.le_iff_toInt_le.mp h6; simp at this; omega))).symm rfl)
    · refine A_iconst (v := 1) dX10_isList_9 rfl ?_
      refine A_goto (tgt := 14) dX10_isList_10 rfl ?_
      exact A_zret dX10_isList_14 rfl (by decide) (rti (bz_t ⟨by have := mt Int32.lt_iff_toInt_lt.mpr h1; simp at this; omega, by have := mt Int32.le_iff_toInt_le.mpr h6; simp at this; omega⟩).symm rfl)
theorem x_isCellNumber {lay : List Ly} (x : Int32) (f : Mem) : Ct MX10_isCellNumber 0 0 lay lay [.int x] f (rt (some (.int (bz (inCell x)))) f) := by
  refine Ct.of (lv := [(0, .int x)]) (by decide) (lb rfl) rfl ?_
  refine A_iload_n dX10_isCellNumber_0 rfl 0 rfl ?_
  refine A_bipush (v := -99) dX10_isCellNumber_1 rfl ?_
  refine A_icmp_lt (tgt := 16) dX10_isCellNumber_3 rfl (fun h3 => ?_) (fun h3 => ?_)
  · refine A_iconst (v := 0) dX10_isCellNumber_16 rfl ?_
    exact A_zret dX10_isCellNumber_17 rfl (by decide) (rti (bz_f (fun q => by first | (have := Int32.lt_iff_toInt_lt.mp h3; simp at this; omega) | (have := Int32.lt_iff_toInt_lt.mp h9; simp at this; omega))).symm rfl)
  · refine A_iload_n dX10_isCellNumber_6 rfl 0 rfl ?_
    refine A_bipush (v := 99) dX10_isCellNumber_7 rfl ?_
    refine A_icmp_gt (tgt := 16) dX10_isCellNumber_9 rfl (fun h9 => ?_) (fun h9 => ?_)
    · refine A_iconst (v := 0) dX10_isCellNumber_16 rfl ?_
      exact A_zret dX10_isCellNumber_17 rfl (by decide) (rti (bz_f (fun q => by first | (have := Int32.lt_iff_toInt_lt.mp h3; simp at this; omega) | (have := Int32.lt_iff_toInt_lt.mp h9; simp at this; omega))).symm rfl)
    · refine A_iconst (v := 1) dX10_isCellNumber_12 rfl ?_
      refine A_goto (tgt := 17) dX10_isCellNumber_13 rfl ?_
      exact A_zret dX10_isCellNumber_17 rfl (by decide) (rti (bz_t ⟨by have := mt Int32.lt_iff_toInt_lt.mpr h3; simp at this; omega, by have := mt Int32.lt_iff_toInt_lt.mpr h9; simp at this; omega⟩).symm rfl)
theorem x_asNumber {lay : List Ly} (x : Int32) (f : Mem) (h : x = 0 ∨ x = 1) : Ct MX10_asNumber 0 0 lay lay [.int x] f (rt (some (.int x)) f) := by
  refine Ct.of (lv := [(0, .int x)]) (by decide) (lb rfl) rfl ?_
  refine A_iload_n dX10_asNumber_0 rfl 0 rfl ?_
  refine A_if_eq (tgt := 8) dX10_asNumber_1 rfl (fun h1 => ?_) (fun h1 => ?_)
  · refine A_iconst (v := 0) dX10_asNumber_8 rfl ?_
    exact A_iret dX10_asNumber_9 rfl (rti (by rcases h with rfl | rfl <;> simp_all) rfl)
  · refine A_iconst (v := 1) dX10_asNumber_4 rfl ?_
    refine A_goto (tgt := 9) dX10_asNumber_5 rfl ?_
    exact A_iret dX10_asNumber_9 rfl (rti (by rcases h with rfl | rfl <;> simp_all) rfl)
