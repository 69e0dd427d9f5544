theorem c_rowFirst {lay : List Ly} (r : Nat → Nat) (f : Mem) (h : sm4 r) : Ct MX5_at 0 0 lay lay [.int (pk r), .int 0] f (rt (some (.int (nI (r 0) - 1))) f) := by
  have e := c_rowAt (lay := lay) r 0 f h
  rw [if_pos (by decide)] at e
  exact e
theorem tk_lt {x : Nat} (h : x ≤ 4) : nI x - 1 < 0 ↔ x = 0 := by
  match x, h with
  | 0, _ => decide
  | 1, _ => decide
  | 2, _ => decide
  | 3, _ => decide
  | 4, _ => decide
theorem tk_ge {x : Nat} (h : x ≤ 4) (h1 : 1 ≤ x) : ¬ (4 : Int32) ≤ nI (x - 1) := by
  match x, h, h1 with
  | 1, _, _ => decide
  | 2, _, _ => decide
  | 3, _, _ => decide
  | 4, _, _ => decide
theorem x_free (m : Nat) (f : Mem) (d : Nat) (s : Sg) (k : Ro) (hd : isDesk d) (hm : m < 3) (hw : wf4 s) : C0 MX1_free [.ref d, .int (nI m)] (dM f d s k) (rt none (dM f d (freeA s m) k)) := by
  have hR : isRow ((s2 (s2 s 3 m 0) 4 m 0) (7 + m)) ((s2 (s2 s 3 m 0) 4 m 0) 5 m) := (wfL_c (s := s) (fun r _ => by simp [s2]) (fun r _ i _ => by simp [s2, n70, n70', n71, n71', n72, n72', n73, n73', n74, n74', n75, n75']) hw.1) m (by omega)
  have h40 : s (7 + m) 0 ≤ 4 := (wf4.row hw.1 (show m < 6 by omega)).sm 0 (by omega)
  refine Ct.of (lv := [(0, .ref d), (1, .int (nI m))]) (by decide) (lb rfl) rfl ?_
  refine A_aload_n dX1_free_0 rfl 0 rfl ?_
  refine A_getR (b := d + 8) dX1_free_1 fo_RX1_44 (LD0 hd) rfl ?_
  refine A_iload_n dX1_free_4 rfl 1 rfl ?_
  refine A_iconst (v := -1) dX1_free_5 rfl ?_
  refine A_iastore m dX1_free_6 (LD8 hd) (rfl) (by omega) (lb rfl) ?_
  refine A_eq rfl rfl (f' := dM f d (s2 s 3 m 0) k) (dM_u8 f d s k 0 (by decide) (by omega)) ?_
  refine A_aload_n dX1_free_7 rfl 0 rfl ?_
  refine A_getR (b := d + 9) dX1_free_8 fo_RX1_47 (LD0 hd) rfl ?_
  refine A_iload_n dX1_free_11 rfl 1 rfl ?_
  refine A_iconst (v := 0) dX1_free_12 rfl ?_
  refine A_iastore m dX1_free_13 (LD9 hd) (rfl) (by omega) (lb rfl) ?_
  refine A_eq rfl rfl (f' := dM f d (s2 (s2 s 3 m 0) 4 m 0) k) (dM_u9 f d (s2 s 3 m 0) k 0 (by simp only [lit, nI_add, pk_mul]) (by omega)) ?_
  refine A_aload_n dX1_free_14 rfl 0 rfl ?_
  refine A_getR (b := d + 10) dX1_free_15 fo_RX1_50 (LD0 hd) rfl ?_
  refine A_iload_n dX1_free_18 rfl 1 rfl ?_
  refine A_iaload m dX1_free_19 (LD10 hd) (rfl) (by omega) (lb rfl) ?_
  refine A_topi (pk ((s2 (s2 s 3 m 0) 4 m 0) (7 + m))) (dM_10 f d (s2 (s2 s 3 m 0) 4 m 0) k (by omega)) ?_
  refine A_iconst (v := 0) dX1_free_20 rfl ?_
  refine A_callS (M' := MX5_at) [.int (pk ((s2 (s2 s 3 m 0) 4 m 0) (7 + m))), .int 0] [] dX1_free_21 lk_RX1_117 oX5_at sX5_at rfl rfl ⟨lb rfl, lb rfl⟩ (lb rfl) ⟨lb rfl, lb rfl⟩ (c_rowFirst ((s2 (s2 s 3 m 0) 4 m 0) (7 + m)) _ (hR.sm)) ?_
  rintro _ _ ⟨rfl, rfl⟩
  refine A_topi (nI (s (7 + m) 0) - 1) (by rw [s2_row _ (by omega), s2_row _ (by omega)]) ?_
  refine A_istore_n (lv' := [(2, .int (nI (s (7 + m) 0) - 1)), (0, .ref d), (1, .int (nI m))]) dX1_free_24 rfl (lb rfl) rfl ?_
  refine A_iload_n dX1_free_25 rfl 0 rfl ?_
  refine A_if_lt (tgt := 82) dX1_free_26 rfl (fun h26 => ?_) (fun h26 => ?_)
  · rw [tk_lt (by omega)] at h26
    have h5 : s 5 m = 0 := by
      rcases Nat.eq_zero_or_pos (s 5 m) with q | q
      · exact q
      · have := (((hw.1 m (by omega)).2 0 (by omega)).1 q).1; omega
    exact A_vret dX1_free_82 rfl (⟨rfl, by rw [freeA, if_pos h5]⟩)
  · rw [tk_lt (by omega)] at h26
    have h5 : ¬ s 5 m = 0 := fun q => h26 ((hw.1 m (by omega)).2 0 (by omega) |>.2 (by omega))
    obtain ⟨a1, a2, a3, a4, a5, a6⟩ := hw.first (r := m) (by omega) h5
    refine A_eq (lv' := [(2, .int (nI (s (7 + m) 0 - 1))), (0, .ref d), (1, .int (nI m))]) (by rw [show nI (s (7 + m) 0) - 1 = nI (s (7 + m) 0 - 1) from pk_sub a1]) rfl rfl ?_
    refine A_iload_n dX1_free_29 rfl 0 rfl ?_
    refine A_iconst (v := 4) dX1_free_30 rfl ?_
    refine A_icmp_ge (tgt := 82) dX1_free_31 rfl (fun h31 => absurd h31 (tk_ge a2 a1)) (fun h31 => ?_)
    refine A_aload_n dX1_free_34 rfl 1 rfl ?_
    refine A_getR (b := d + 10) dX1_free_35 fo_RX1_50 (LD0 hd) rfl ?_
    refine A_iload_n dX1_free_38 rfl 2 rfl ?_
    refine A_aload_n dX1_free_39 rfl 1 rfl ?_
    refine A_getR (b := d + 10) dX1_free_40 fo_RX1_50 (LD0 hd) rfl ?_
    refine A_iload_n dX1_free_43 rfl 2 rfl ?_
    refine A_iaload m dX1_free_44 (LD10 hd) (rfl) (by omega) (lb rfl) ?_
    refine A_topi (pk ((s2 (s2 s 3 m 0) 4 m 0) (7 + m))) (dM_10 f d (s2 (s2 s 3 m 0) 4 m 0) k (by omega)) ?_
    refine A_callS (M' := MX5_withoutFirst) [.int (pk ((s2 (s2 s 3 m 0) 4 m 0) (7 + m)))] [.int (nI m), .ref (d + 10)] dX1_free_45 lk_RX1_120 oX5_withoutFirst sX5_withoutFirst rfl rfl ⟨lb rfl, lb rfl⟩ (lb rfl) ⟨lb rfl, lb rfl⟩ (c_rowTail ((s2 (s2 s 3 m 0) 4 m 0) (7 + m)) _ (hR.sm)) ?_
    rintro _ _ ⟨rfl, rfl⟩
    refine A_iastore m dX1_free_48 (LD10 hd) (rfl) (by omega) (lb rfl) ?_
    refine A_eq rfl rfl (f' := dM f d (leavesA (s2 (s2 s 3 m 0) 4 m 0) m) k) (dM_lE f d (s2 (s2 s 3 m 0) 4 m 0) k hm hR rfl (by simp [s2]; omega)) ?_
    refine A_aload_n dX1_free_49 rfl 1 rfl ?_
    refine A_getR (b := d + 8) dX1_free_50 fo_RX1_44 (LD0 hd) rfl ?_
    refine A_iload_n dX1_free_53 rfl 2 rfl ?_
    refine A_iload_n dX1_free_54 rfl 0 rfl ?_
    refine A_iastore m dX1_free_55 (LD8 hd) (rfl) (by omega) (lb rfl) ?_
    refine A_eq rfl rfl (f' := dM f d (s2 (leavesA (s2 (s2 s 3 m 0) 4 m 0) m) 3 m (s (7 + m) 0)) k) (dM_u8 f d (leavesA (s2 (s2 s 3 m 0) 4 m 0) m) k (s (7 + m) 0) (pk_sub a1).symm (by omega)) ?_
    refine A_aload_n dX1_free_56 rfl 1 rfl ?_
    refine A_getR (b := d + 9) dX1_free_57 fo_RX1_47 (LD0 hd) rfl ?_
    refine A_iload_n dX1_free_60 rfl 2 rfl ?_
    refine A_aload_n dX1_free_61 rfl 1 rfl ?_
    refine A_getR (b := d + 4) dX1_free_62 fo_RX1_31 (LD0 hd) rfl ?_
    refine A_iload_n dX1_free_65 rfl 0 rfl ?_
    refine A_iaload (s (7 + m) 0 - 1) dX1_free_66 (LD4 hd) (by simp only [lit, nI_add, pk_mul]) (by omega) (lb rfl) ?_
    refine A_topi (nI (s 2 (s (7 + m) 0 - 1))) (by rw [dM_4 f d (s2 (leavesA (s2 (s2 s 3 m 0) 4 m 0) m) 3 m (s (7 + m) 0)) k (by omega), s2_c _ (by decide), leaves_c _ _ _ (by omega), s2_c _ (by decide), s2_c _ (by decide)]) ?_
    refine A_iastore m dX1_free_67 (LD9 hd) (rfl) (by omega) (lb rfl) ?_
    refine A_eq rfl rfl (f' := dM f d (s2 (s2 (leavesA (s2 (s2 s 3 m 0) 4 m 0) m) 3 m (s (7 + m) 0)) 4 m (s 2 (s (7 + m) 0 - 1))) k) (dM_u9 f d (s2 (leavesA (s2 (s2 s 3 m 0) 4 m 0) m) 3 m (s (7 + m) 0)) k (s 2 (s (7 + m) 0 - 1)) (by simp only [lit, nI_add, pk_mul]) (by omega)) ?_
    refine A_aload_n dX1_free_68 rfl 1 rfl ?_
    refine A_getR (b := d + 4) dX1_free_69 fo_RX1_31 (LD0 hd) rfl ?_
    refine A_iload_n dX1_free_72 rfl 0 rfl ?_
    refine A_iconst (v := 0) dX1_free_73 rfl ?_
    refine A_iastore (s (7 + m) 0 - 1) dX1_free_74 (LD4 hd) (by simp only [lit, nI_add, pk_mul]) (by omega) (lb rfl) ?_
    refine A_eq rfl rfl (f' := dM f d (s2 (s2 (s2 (leavesA (s2 (s2 s 3 m 0) 4 m 0) m) 3 m (s (7 + m) 0)) 4 m (s 2 (s (7 + m) 0 - 1))) 2 (s (7 + m) 0 - 1) 0) k) (dM_u4 f d (s2 (s2 (leavesA (s2 (s2 s 3 m 0) 4 m 0) m) 3 m (s (7 + m) 0)) 4 m (s 2 (s (7 + m) 0 - 1))) k 0 (by simp only [lit, nI_add, pk_mul]) (by omega)) ?_
    refine A_aload_n dX1_free_75 rfl 1 rfl ?_
    refine A_getR (b := d + 3) dX1_free_76 fo_RX1_28 (LD0 hd) rfl ?_
    refine A_iload_n dX1_free_79 rfl 0 rfl ?_
    refine A_iconst (v := 0) dX1_free_80 rfl ?_
    refine A_iastore (s (7 + m) 0 - 1) dX1_free_81 (LD3 hd) (by simp only [lit, nI_add, pk_mul]) (by omega) (lb rfl) ?_
    refine A_eq rfl rfl (f' := dM f d (s2 (s2 (s2 (s2 (leavesA (s2 (s2 s 3 m 0) 4 m 0) m) 3 m (s (7 + m) 0)) 4 m (s 2 (s (7 + m) 0 - 1))) 2 (s (7 + m) 0 - 1) 0) 1 (s (7 + m) 0 - 1) 0) k) (dM_u3 f d (s2 (s2 (s2 (leavesA (s2 (s2 s 3 m 0) 4 m 0) m) 3 m (s (7 + m) 0)) 4 m (s 2 (s (7 + m) 0 - 1))) 2 (s (7 + m) 0 - 1) 0) k 0 (by simp only [lit, nI_add, pk_mul]) (by omega)) ?_
    exact A_vret dX1_free_82 rfl (⟨rfl, by rw [freeA, if_neg h5]⟩)
