theorem pkB {r : Nat → Nat} (h : sm4 r) : r 0 + 8 * r 1 + 64 * r 2 + 512 * r 3 < 4096 := by
  have h0 := h 0 (by omega); have h1 := h 1 (by omega); have h2 := h 2 (by omega); have h3 := h 3 (by omega)
  omega
theorem pk_0 {r : Nat → Nat} (h : sm4 r) : pk r = 0 ↔ r 0 = 0 ∧ r 1 = 0 ∧ r 2 = 0 ∧ r 3 = 0 := by
  have := pkB h
  unfold pk
  rw [show (0 : Int32) = nI 0 from rfl, nI_eq (by omega) (by omega)]
  omega
theorem pk_ext {r r' : Nat → Nat} (h : ∀ i, i < 4 → r i = r' i) : pk r = pk r' := by
  unfold pk
  rw [h 0 (by omega), h 1 (by omega), h 2 (by omega), h 3 (by omega)]
theorem pk_inj {r r' : Nat → Nat} (h : sm4 r) (h' : sm4 r') (e : pk r = pk r') : ∀ i, i < 4 → r i = r' i := by
  have a := pkB h; have b := pkB h'
  unfold pk at e
  rw [nI_eq (by omega) (by omega)] at e
  have h0 := h 0 (by omega); have h1 := h 1 (by omega); have h2 := h 2 (by omega); have h3 := h 3 (by omega)
  have g0 := h' 0 (by omega); have g1 := h' 1 (by omega); have g2 := h' 2 (by omega); have g3 := h' 3 (by omega)
  intro i hi
  match i, hi with
  | 0, _ => omega
  | 1, _ => omega
  | 2, _ => omega
  | 3, _ => omega
/-- a row as it is told: n at its front, nothing behind -/
def isRow (r : Nat → Nat) (n : Nat) : Prop := n ≤ 4 ∧ ∀ i, i < 4 → (i < n → 1 ≤ r i ∧ r i ≤ 4) ∧ (n ≤ i → r i = 0)
theorem isRow.sm {r : Nat → Nat} {n : Nat} (h : isRow r n) : sm4 r := fun i hi => by
  rcases Nat.lt_or_ge i n with q | q
  · exact ((h.2 i hi).1 q).2
  · rw [(h.2 i hi).2 q]; omega
/-- with t last -/
def rPush (r : Nat → Nat) (n t : Nat) : Nat → Nat := fun i => if i = n then t + 1 else r i
theorem ps_0 {r : Nat → Nat} (h : sm4 r) : ((pk r).toUInt32 >>> ((0 : Int32).toUInt32 &&& Int32.toUInt32 31)).toInt32 &&& 7 = nI (r 0) := by
  have e := pk_sl h (show 0 < 4 by decide)
  rw [show nI (3 * 0) = (0 : Int32) from rfl] at e
  exact e
theorem ps_1 {r : Nat → Nat} (h : sm4 r) : ((pk r).toUInt32 >>> ((3 : Int32).toUInt32 &&& Int32.toUInt32 31)).toInt32 &&& 7 = nI (r 1) := by
  have e := pk_sl h (show 1 < 4 by decide)
  rw [show nI (3 * 1) = (3 : Int32) from rfl] at e
  exact e
theorem ps_2 {r : Nat → Nat} (h : sm4 r) : ((pk r).toUInt32 >>> ((6 : Int32).toUInt32 &&& Int32.toUInt32 31)).toInt32 &&& 7 = nI (r 2) := by
  have e := pk_sl h (show 2 < 4 by decide)
  rw [show nI (3 * 2) = (6 : Int32) from rfl] at e
  exact e
theorem ps_3 {r : Nat → Nat} (h : sm4 r) : ((pk r).toUInt32 >>> ((9 : Int32).toUInt32 &&& Int32.toUInt32 31)).toInt32 &&& 7 = nI (r 3) := by
  have e := pk_sl h (show 3 < 4 by decide)
  rw [show nI (3 * 3) = (9 : Int32) from rfl] at e
  exact e
theorem rx {x : Int32} (h0 : ¬ x < 0) (h4 : x < 4) : ∃ j, j < 4 ∧ x = nI j := by
  have a := mt Int32.lt_iff_toInt_lt.mpr h0
  have b := Int32.lt_iff_toInt_lt.mp h4
  exact inR_of (by decide) ⟨by simpa using a, by simpa using b⟩
theorem c_rowAt {lay : List Ly} (r : Nat → Nat) (x : Int32) (f : Mem) (h : sm4 r) : Ct MX5_at 0 0 lay lay [.int (pk r), .int x] f (rt (some (.int (if inR x 4 then nI (r x.toNatClampNeg) - 1 else -1))) f) := by
  refine Ct.of (lv := [(0, .int (pk r)), (1, .int x)]) (by decide) (lb rfl) rfl ?_
  refine A_iload_n dX5_at_0 rfl 1 rfl ?_
  refine A_if_lt (tgt := 9) dX5_at_1 rfl (fun h1 => ?_) (fun h1 => ?_)
  · refine A_iconst (v := -1) dX5_at_9 rfl ?_
    refine A_goto (tgt := 23) dX5_at_10 rfl ?_
    exact A_iret dX5_at_23 rfl (rti (by rw [if_neg (fun q => by first | (have := Int32.lt_iff_toInt_lt.mp h1; simp at this; omega) | (have := mt Int32.lt_iff_toInt_lt.mpr h6; simp at this; omega))]) rfl)
  · refine A_iload_n dX5_at_4 rfl 1 rfl ?_
    refine A_iconst (v := 4) dX5_at_5 rfl ?_
    refine A_icmp_lt (tgt := 13) dX5_at_6 rfl (fun h6 => ?_) (fun h6 => ?_)
    · refine A_iload_n dX5_at_13 rfl 0 rfl ?_
      refine A_iconst (v := 3) dX5_at_14 rfl ?_
      refine A_iload_n dX5_at_15 rfl 1 rfl ?_
      refine A_imul dX5_at_16 ?_
      refine A_iushr dX5_at_17 ?_
      refine A_bipush (v := 7) dX5_at_18 rfl ?_
      refine A_iand dX5_at_20 ?_
      refine A_iconst (v := 1) dX5_at_21 rfl ?_
      refine A_isub dX5_at_22 ?_
      exact A_iret dX5_at_23 rfl (by obtain ⟨j, hj, rfl⟩ := rx h1 h6; exact rti (by rw [if_pos ((inR_nI (by omega)).mpr hj), nI_clamp (by omega), show (3 : Int32) * nI j = nI (3 * j) from pk_mul 3 j, pk_sl h hj]) rfl)
    · refine A_iconst (v := -1) dX5_at_9 rfl ?_
      refine A_goto (tgt := 23) dX5_at_10 rfl ?_
      exact A_iret dX5_at_23 rfl (rti (by rw [if_neg (fun q => by first | (have := Int32.lt_iff_toInt_lt.mp h1; simp at this; omega) | (have := mt Int32.lt_iff_toInt_lt.mpr h6; simp at this; omega))]) rfl)
theorem c_rowTail {lay : List Ly} (r : Nat → Nat) (f : Mem) (h : sm4 r) : Ct MX5_withoutFirst 0 0 lay lay [.int (pk r)] f (rt (some (.int (pk (fun i => if i < 3 then r (i + 1) else 0)))) f) := by
  refine Ct.of (lv := [(0, .int (pk r))]) (by decide) (lb rfl) rfl ?_
  refine A_iload_n dX5_withoutFirst_0 rfl 0 rfl ?_
  refine A_iconst (v := 3) dX5_withoutFirst_1 rfl ?_
  refine A_iushr dX5_withoutFirst_2 ?_
  exact A_iret dX5_withoutFirst_3 rfl (rti (pk_wf h) rfl)
theorem c_rowPush {lay : List Ly} (r : Nat → Nat) (n t : Nat) (f : Mem) (h : isRow r n) (hn : n ≤ 3) (ht : t < 4) : Ct MX5_withLast 0 0 lay lay [.int (pk r), .int (nI t)] f (rt (some (.int (pk (rPush r n t)))) f) := by
  refine Ct.of (lv := [(0, .int (pk r)), (1, .int (nI t))]) (by decide) (lb rfl) rfl ?_
  refine A_iconst (v := 0) dX5_withLast_0 rfl ?_
  refine A_istore_n (lv' := [(2, .int 0), (0, .int (pk r)), (1, .int (nI t))]) dX5_withLast_1 rfl (lb rfl) rfl ?_
  refine A_iload_n dX5_withLast_2 rfl 0 rfl ?_
  refine A_bipush (v := 12) dX5_withLast_3 rfl ?_
  refine A_icmp_ge (tgt := 31) dX5_withLast_5 rfl (fun h5 => absurd h5 (by decide)) (fun h5 => ?_)
  refine A_iload_n dX5_withLast_8 rfl 1 rfl ?_
  refine A_iload_n dX5_withLast_9 rfl 0 rfl ?_
  refine A_iushr dX5_withLast_10 ?_
  refine A_bipush (v := 7) dX5_withLast_11 rfl ?_
  refine A_iand dX5_withLast_13 ?_
  refine A_topi (nI (r 0)) (ps_0 h.sm) ?_
  refine A_if_ne (tgt := 25) dX5_withLast_14 rfl (fun h14 => ?_) (fun h14 => ?_)
  · rw [show (0 : Int32) = nI 0 from rfl, nI_eq (by have := h.sm 0 (by omega); omega) (by omega)] at h14
    have g0 : 0 < n := by
      rcases Nat.lt_or_ge 0 n with q | q
      · exact q
      · exact absurd ((h.2 0 (by omega)).2 q) h14
    refine A_iinc (lv' := [(2, .int 3), (0, .int (pk r)), (1, .int (nI t))]) dX5_withLast_25 0 rfl rfl (lb rfl) rfl ?_
    refine A_goto (tgt := 2) dX5_withLast_28 rfl ?_
    refine A_iload_n dX5_withLast_2 rfl 0 rfl ?_
    refine A_bipush (v := 12) dX5_withLast_3 rfl ?_
    refine A_icmp_ge (tgt := 31) dX5_withLast_5 rfl (fun h5 => absurd h5 (by decide)) (fun h5 => ?_)
    refine A_iload_n dX5_withLast_8 rfl 1 rfl ?_
    refine A_iload_n dX5_withLast_9 rfl 0 rfl ?_
    refine A_iushr dX5_withLast_10 ?_
    refine A_bipush (v := 7) dX5_withLast_11 rfl ?_
    refine A_iand dX5_withLast_13 ?_
    refine A_topi (nI (r 1)) (ps_1 h.sm) ?_
    refine A_if_ne (tgt := 25) dX5_withLast_14 rfl (fun h14 => ?_) (fun h14 => ?_)
    · rw [show (0 : Int32) = nI 0 from rfl, nI_eq (by have := h.sm 1 (by omega); omega) (by omega)] at h14
      have g1 : 1 < n := by
        rcases Nat.lt_or_ge 1 n with q | q
        · exact q
        · exact absurd ((h.2 1 (by omega)).2 q) h14
      refine A_iinc (lv' := [(2, .int 6), (0, .int (pk r)), (1, .int (nI t))]) dX5_withLast_25 0 rfl rfl (lb rfl) rfl ?_
      refine A_goto (tgt := 2) dX5_withLast_28 rfl ?_
      refine A_iload_n dX5_withLast_2 rfl 0 rfl ?_
      refine A_bipush (v := 12) dX5_withLast_3 rfl ?_
      refine A_icmp_ge (tgt := 31) dX5_withLast_5 rfl (fun h5 => absurd h5 (by decide)) (fun h5 => ?_)
      refine A_iload_n dX5_withLast_8 rfl 1 rfl ?_
      refine A_iload_n dX5_withLast_9 rfl 0 rfl ?_
      refine A_iushr dX5_withLast_10 ?_
      refine A_bipush (v := 7) dX5_withLast_11 rfl ?_
      refine A_iand dX5_withLast_13 ?_
      refine A_topi (nI (r 2)) (ps_2 h.sm) ?_
      refine A_if_ne (tgt := 25) dX5_withLast_14 rfl (fun h14 => ?_) (fun h14 => ?_)
      · rw [show (0 : Int32) = nI 0 from rfl, nI_eq (by have := h.sm 2 (by omega); omega) (by omega)] at h14
        have g2 : 2 < n := by
          rcases Nat.lt_or_ge 2 n with q | q
          · exact q
          · exact absurd ((h.2 2 (by omega)).2 q) h14
        refine A_iinc (lv' := [(2, .int 9), (0, .int (pk r)), (1, .int (nI t))]) dX5_withLast_25 0 rfl rfl (lb rfl) rfl ?_
        refine A_goto (tgt := 2) dX5_withLast_28 rfl ?_
        refine A_iload_n dX5_withLast_2 rfl 0 rfl ?_
        refine A_bipush (v := 12) dX5_withLast_3 rfl ?_
        refine A_icmp_ge (tgt := 31) dX5_withLast_5 rfl (fun h5 => absurd h5 (by decide)) (fun h5 => ?_)
        refine A_iload_n dX5_withLast_8 rfl 1 rfl ?_
        refine A_iload_n dX5_withLast_9 rfl 0 rfl ?_
        refine A_iushr dX5_withLast_10 ?_
        refine A_bipush (v := 7) dX5_withLast_11 rfl ?_
        refine A_iand dX5_withLast_13 ?_
        refine A_topi (nI (r 3)) (ps_3 h.sm) ?_
        refine A_if_ne (tgt := 25) dX5_withLast_14 rfl (fun h14 => ?_) (fun h14 => ?_)
        · rw [show (0 : Int32) = nI 0 from rfl, nI_eq (by have := h.sm 3 (by omega); omega) (by omega)] at h14
          have g3 : 3 < n := by
            rcases Nat.lt_or_ge 3 n with q | q
            · exact q
            · exact absurd ((h.2 3 (by omega)).2 q) h14
          omega
        · rw [show (0 : Int32) = nI 0 from rfl, nI_eq (by have := h.sm 3 (by omega); omega) (by omega)] at h14
          have e3 : n = 3 := by
            rcases Nat.lt_or_ge 3 n with q | q
            · have := ((h.2 3 (by omega)).1 q).1; omega
            · omega
          refine A_iload_n dX5_withLast_17 rfl 1 rfl ?_
          refine A_iload_n dX5_withLast_18 rfl 2 rfl ?_
          refine A_iconst (v := 1) dX5_withLast_19 rfl ?_
          refine A_iadd dX5_withLast_20 ?_
          refine A_iload_n dX5_withLast_21 rfl 0 rfl ?_
          refine A_ishl dX5_withLast_22 ?_
          refine A_ior dX5_withLast_23 ?_
          exact A_iret dX5_withLast_24 rfl (by have hn : n = 3 := e3; subst hn; have z3 := (h.2 3 (by omega)).2 (by omega); exact rti (by unfold pk rPush; simp only [z3]; exact pk_or3 (r 0) (by have := h.sm 0 (by omega); omega) (r 1) (by have := h.sm 1 (by omega); omega) (r 2) (by have := h.sm 2 (by omega); omega) t ht) rfl)
      · rw [show (0 : Int32) = nI 0 from rfl, nI_eq (by have := h.sm 2 (by omega); omega) (by omega)] at h14
        have e2 : n = 2 := by
          rcases Nat.lt_or_ge 2 n with q | q
          · have := ((h.2 2 (by omega)).1 q).1; omega
          · omega
        refine A_iload_n dX5_withLast_17 rfl 1 rfl ?_
        refine A_iload_n dX5_withLast_18 rfl 2 rfl ?_
        refine A_iconst (v := 1) dX5_withLast_19 rfl ?_
        refine A_iadd dX5_withLast_20 ?_
        refine A_iload_n dX5_withLast_21 rfl 0 rfl ?_
        refine A_ishl dX5_withLast_22 ?_
        refine A_ior dX5_withLast_23 ?_
        exact A_iret dX5_withLast_24 rfl (by have hn : n = 2 := e2; subst hn; have z2 := (h.2 2 (by omega)).2 (by omega); have z3 := (h.2 3 (by omega)).2 (by omega); exact rti (by unfold pk rPush; simp only [z2, z3]; exact pk_or2 (r 0) (by have := h.sm 0 (by omega); omega) (r 1) (by have := h.sm 1 (by omega); omega) t ht) rfl)
    · rw [show (0 : Int32) = nI 0 from rfl, nI_eq (by have := h.sm 1 (by omega); omega) (by omega)] at h14
      have e1 : n = 1 := by
        rcases Nat.lt_or_ge 1 n with q | q
        · have := ((h.2 1 (by omega)).1 q).1; omega
        · omega
      refine A_iload_n dX5_withLast_17 rfl 1 rfl ?_
      refine A_iload_n dX5_withLast_18 rfl 2 rfl ?_
      refine A_iconst (v := 1) dX5_withLast_19 rfl ?_
      refine A_iadd dX5_withLast_20 ?_
      refine A_iload_n dX5_withLast_21 rfl 0 rfl ?_
      refine A_ishl dX5_withLast_22 ?_
      refine A_ior dX5_withLast_23 ?_
      exact A_iret dX5_withLast_24 rfl (by have hn : n = 1 := e1; subst hn; have z1 := (h.2 1 (by omega)).2 (by omega); have z2 := (h.2 2 (by omega)).2 (by omega); have z3 := (h.2 3 (by omega)).2 (by omega); exact rti (by unfold pk rPush; simp only [z1, z2, z3]; exact pk_or1 (r 0) (by have := h.sm 0 (by omega); omega) t ht) rfl)
  · rw [show (0 : Int32) = nI 0 from rfl, nI_eq (by have := h.sm 0 (by omega); omega) (by omega)] at h14
    have e0 : n = 0 := by
      rcases Nat.lt_or_ge 0 n with q | q
      · have := ((h.2 0 (by omega)).1 q).1; omega
      · omega
    refine A_iload_n dX5_withLast_17 rfl 1 rfl ?_
    refine A_iload_n dX5_withLast_18 rfl 2 rfl ?_
    refine A_iconst (v := 1) dX5_withLast_19 rfl ?_
    refine A_iadd dX5_withLast_20 ?_
    refine A_iload_n dX5_withLast_21 rfl 0 rfl ?_
    refine A_ishl dX5_withLast_22 ?_
    refine A_ior dX5_withLast_23 ?_
    exact A_iret dX5_withLast_24 rfl (by have hn : n = 0 := e0; subst hn; have z0 := (h.2 0 (by omega)).2 (by omega); have z1 := (h.2 1 (by omega)).2 (by omega); have z2 := (h.2 2 (by omega)).2 (by omega); have z3 := (h.2 3 (by omega)).2 (by omega); exact rti (by unfold pk rPush; simp only [z0, z1, z2, z3]; exact pk_or0  t ht) rfl)
