theorem ow_n {x : Nat} (h : x ≤ 4) : nI x - 1 = -1 ↔ x = 0 := by
  match x, h with
  | 0, _ => decide
  | 1, _ => decide
  | 2, _ => decide
  | 3, _ => decide
  | 4, _ => decide
theorem ow_t' : ∀ x, x < 5 → ∀ t, t < 4 → (nI x - 1 = nI t ↔ x = t + 1) := by decide +kernel
theorem ow_t {x t : Nat} (h : x ≤ 4) (ht : t < 4) : nI x - 1 = nI t ↔ x = t + 1 := ow_t' x (by omega) t ht
theorem x_enter (t m : Nat) (f : Mem) (d : Nat) (s : Sg) (k : Ro) (hd : isDesk d) (ht : t < 4) (hm : m < 3) (hw : wf s) (h1 : s 1 t = 0) : C0 MX1_enter [.ref d, .int (nI t), .int (nI m)] (dM f d s k) (rt (some (.int (nI (enterA s t m).2))) (dM f d (enterA s t m).1 k)) := by
  obtain ⟨h3, h4, h34⟩ := hw.2.2.2.2 m hm
  have hR : isRow ((s2 (s2 s 1 t 1) 2 t 1) (7 + m)) ((s2 (s2 s 1 t 1) 2 t 1) 5 m) := (wfL_c (s := s) (fun r _ => by simp [s2]) (fun r _ i _ => by simp [s2, n70, n70', n71, n71', n72, n72', n73, n73', n74, n74', n75, n75']) hw.1) m (by omega)
  refine Ct.of (lv := [(0, .ref d), (1, .int (nI t)), (2, .int (nI m))]) (by decide) (lb rfl) rfl ?_
  refine A_aload_n dX1_enter_0 rfl 0 rfl ?_
  refine A_getR (b := d + 8) dX1_enter_1 fo_RX1_44 (LD0 hd) rfl ?_
  refine A_iload_n dX1_enter_4 rfl 2 rfl ?_
  refine A_iaload m dX1_enter_5 (LD8 hd) (rfl) (by omega) (lb rfl) ?_
  refine A_topi (nI (s 3 m) - 1) (by rw [dM_8 f d s k (by omega)] <;> simp [s2, n70, n70', n71, n71', n72, n72', n73, n73', n74, n74', n75, n75']) ?_
  refine A_iconst (v := -1) dX1_enter_6 rfl ?_
  refine A_icmp_ne (tgt := 27) dX1_enter_7 rfl (fun h7 => ?_) (fun h7 => ?_)
  · rw [ow_n h3] at h7
    refine A_aload_n dX1_enter_27 rfl 0 rfl ?_
    refine A_getR (b := d + 8) dX1_enter_28 fo_RX1_44 (LD0 hd) rfl ?_
    refine A_iload_n dX1_enter_31 rfl 2 rfl ?_
    refine A_iaload m dX1_enter_32 (LD8 hd) (rfl) (by omega) (lb rfl) ?_
    refine A_topi (nI (s 3 m) - 1) (by rw [dM_8 f d s k (by omega)] <;> simp [s2, n70, n70', n71, n71', n72, n72', n73, n73', n74, n74', n75, n75']) ?_
    refine A_iload_n dX1_enter_33 rfl 1 rfl ?_
    refine A_icmp_eq (tgt := 70) dX1_enter_34 rfl (fun h34 => ?_) (fun h34 => ?_)
    · rw [ow_t h3 ht] at h34
      refine A_aload_n dX1_enter_70 rfl 0 rfl ?_
      refine A_getR (b := d + 9) dX1_enter_71 fo_RX1_47 (LD0 hd) rfl ?_
      refine A_iload_n dX1_enter_74 rfl 2 rfl ?_
      refine A_iaload m dX1_enter_75 (LD9 hd) (rfl) (by omega) (lb rfl) ?_
      refine A_topi (nI (s 4 m)) (by rw [dM_9 f d s k (by omega)] <;> simp [s2, n70, n70', n71, n71', n72, n72', n73, n73', n74, n74', n75, n75']) ?_
      refine A_bipush (v := 9) dX1_enter_76 rfl ?_
      refine A_icmp_lt (tgt := 83) dX1_enter_78 rfl (fun h78 => ?_) (fun h78 => ?_)
      · rw [show (9 : Int32) = nI 9 from rfl, nI_ltI (by omega) (by omega)] at h78
        refine A_aload_n dX1_enter_83 rfl 0 rfl ?_
        refine A_getR (b := d + 9) dX1_enter_84 fo_RX1_47 (LD0 hd) rfl ?_
        refine A_iload_n dX1_enter_87 rfl 2 rfl ?_
        refine A_dup2 dX1_enter_88 rfl rfl ?_
        refine A_iaload m dX1_enter_89 (LD9 hd) (rfl) (by omega) (lb rfl) ?_
        refine A_topi (nI (s 4 m)) (by rw [dM_9 f d s k (by omega)] <;> simp [s2, n70, n70', n71, n71', n72, n72', n73, n73', n74, n74', n75, n75']) ?_
        refine A_iconst (v := 1) dX1_enter_90 rfl ?_
        refine A_iadd dX1_enter_91 ?_
        refine A_iastore m dX1_enter_92 (LD9 hd) (rfl) (by omega) (lb rfl) ?_
        refine A_eq rfl rfl (f' := dM f d (s2 s 4 m (s 4 m + 1)) k) (dM_u9 f d s k (s 4 m + 1) (by simp only [lit, nI_add, pk_mul]) (by omega)) ?_
        refine A_iconst (v := 0) dX1_enter_93 rfl ?_
        exact A_iret dX1_enter_94 rfl (rti (by rw [enterA, if_neg h7, if_pos h34, if_neg (by omega)]; rfl) (by rw [enterA, if_neg h7, if_pos h34, if_neg (by omega)]))
      · rw [show (9 : Int32) = nI 9 from rfl, nI_ltI (by omega) (by omega)] at h78
        refine A_iconst (v := 3) dX1_enter_81 rfl ?_
        exact A_iret dX1_enter_82 rfl (rti (by rw [enterA, if_neg h7, if_pos h34, if_pos (by omega)]; rfl) (by rw [enterA, if_neg h7, if_pos h34, if_pos (by omega)]))
    · rw [ow_t h3 ht] at h34
      refine A_aload_n dX1_enter_37 rfl 0 rfl ?_
      refine A_getR (b := d + 3) dX1_enter_38 fo_RX1_28 (LD0 hd) rfl ?_
      refine A_iload_n dX1_enter_41 rfl 1 rfl ?_
      refine A_iconst (v := 1) dX1_enter_42 rfl ?_
      refine A_iastore t dX1_enter_43 (LD3 hd) (rfl) (by omega) (lb rfl) ?_
      refine A_eq rfl rfl (f' := dM f d (s2 s 1 t 1) k) (dM_u3 f d s k 1 (by simp only [lit, nI_add, pk_mul]) (by omega)) ?_
      refine A_aload_n dX1_enter_44 rfl 0 rfl ?_
      refine A_getR (b := d + 4) dX1_enter_45 fo_RX1_31 (LD0 hd) rfl ?_
      refine A_iload_n dX1_enter_48 rfl 1 rfl ?_
      refine A_iconst (v := 1) dX1_enter_49 rfl ?_
      refine A_iastore t dX1_enter_50 (LD4 hd) (rfl) (by omega) (lb rfl) ?_
      refine A_eq rfl rfl (f' := dM f d (s2 (s2 s 1 t 1) 2 t 1) k) (dM_u4 f d (s2 s 1 t 1) k 1 (by simp only [lit, nI_add, pk_mul]) (by omega)) ?_
      refine A_aload_n dX1_enter_51 rfl 0 rfl ?_
      refine A_getR (b := d + 10) dX1_enter_52 fo_RX1_50 (LD0 hd) rfl ?_
      refine A_iload_n dX1_enter_55 rfl 2 rfl ?_
      refine A_aload_n dX1_enter_56 rfl 0 rfl ?_
      refine A_getR (b := d + 10) dX1_enter_57 fo_RX1_50 (LD0 hd) rfl ?_
      refine A_iload_n dX1_enter_60 rfl 2 rfl ?_
      refine A_iaload m dX1_enter_61 (LD10 hd) (rfl) (by omega) (lb rfl) ?_
      refine A_topi (pk ((s2 (s2 s 1 t 1) 2 t 1) (7 + m))) (dM_10 f d (s2 (s2 s 1 t 1) 2 t 1) k (by omega)) ?_
      refine A_iload_n dX1_enter_62 rfl 1 rfl ?_
      refine A_callS (M' := MX5_withLast) [.int (pk ((s2 (s2 s 1 t 1) 2 t 1) (7 + m))), .int (nI t)] [.int (nI m), .ref (d + 10)] dX1_enter_63 lk_RX1_109 oX5_withLast sX5_withLast rfl rfl ⟨lb rfl, lb rfl⟩ (lb rfl) ⟨lb rfl, lb rfl⟩ (c_rowPush ((s2 (s2 s 1 t 1) 2 t 1) (7 + m)) ((s2 (s2 s 1 t 1) 2 t 1) 5 m) t _ (hR) (by rw [s2_c _ (by decide), s2_c _ (by decide)]; exact row3 hw.1 hw.2.1 ht (show m < 6 by omega) (hw.nst h1)) (by omega)) ?_
      rintro _ _ ⟨rfl, rfl⟩
      refine A_iastore m dX1_enter_66 (LD10 hd) (rfl) (by omega) (lb rfl) ?_
      refine A_eq rfl rfl (f' := dM f d (comesA (s2 (s2 s 1 t 1) 2 t 1) m t) k) (dM_cE f d (s2 (s2 s 1 t 1) 2 t 1) k hm) ?_
      refine A_goto (tgt := 93) dX1_enter_67 rfl ?_
      refine A_iconst (v := 0) dX1_enter_93 rfl ?_
      exact A_iret dX1_enter_94 rfl (rti (by rw [enterA, if_neg h7, if_neg h34]; rfl) (by rw [enterA, if_neg h7, if_neg h34]))
  · rw [ow_n h3] at h7
    refine A_aload_n dX1_enter_10 rfl 0 rfl ?_
    refine A_getR (b := d + 8) dX1_enter_11 fo_RX1_44 (LD0 hd) rfl ?_
    refine A_iload_n dX1_enter_14 rfl 2 rfl ?_
    refine A_iload_n dX1_enter_15 rfl 1 rfl ?_
    refine A_iastore m dX1_enter_16 (LD8 hd) (rfl) (by omega) (lb rfl) ?_
    refine A_eq rfl rfl (f' := dM f d (s2 s 3 m (t + 1)) k) (dM_u8 f d s k (t + 1) ((nI_pred _).symm) (by omega)) ?_
    refine A_aload_n dX1_enter_17 rfl 0 rfl ?_
    refine A_getR (b := d + 9) dX1_enter_18 fo_RX1_47 (LD0 hd) rfl ?_
    refine A_iload_n dX1_enter_21 rfl 2 rfl ?_
    refine A_iconst (v := 1) dX1_enter_22 rfl ?_
    refine A_iastore m dX1_enter_23 (LD9 hd) (rfl) (by omega) (lb rfl) ?_
    refine A_eq rfl rfl (f' := dM f d (s2 (s2 s 3 m (t + 1)) 4 m 1) k) (dM_u9 f d (s2 s 3 m (t + 1)) k 1 (by simp only [lit, nI_add, pk_mul]) (by omega)) ?_
    refine A_goto (tgt := 93) dX1_enter_24 rfl ?_
    refine A_iconst (v := 0) dX1_enter_93 rfl ?_
    exact A_iret dX1_enter_94 rfl (rti (by rw [enterA, if_pos h7]; rfl) (by rw [enterA, if_pos h7]))
theorem lx_wake (m q : Nat) (f : Mem) (d : Nat) (s : Sg) (k : Ro) (hd : isDesk d) (hm : m < 3) (hw : wf s) (hq : q < 10) : ∀ j, j ≤ min q (s 5 (3 + m)) → A (cM MX1_wake 0 0 layT layT (rt none (dM f d (wakeA (min q (s 5 (3 + m))) s m) k))) 2 [(3, .int (nI j)), (0, .ref d), (1, .int (nI m)), (2, .int (nI q))] [] (dM f d (wakeA j s m) k) := by
  have h45 := (hw.1 (3 + m) (by omega)).1
  refine up_ind _ (fun j hj ih => ?_)
  have we := wf_wake j hw hm (by omega)
  have w5 := wake_5 j s hm
  have hR : isRow ((wakeA j s m) (7 + (3 + m))) ((wakeA j s m) 5 (3 + m)) := wf4.row we.1 (by omega)
  refine A_iload_n dX1_wake_2 rfl 0 rfl ?_
  refine A_iload_n dX1_wake_3 rfl 3 rfl ?_
  refine A_icmp_ge (tgt := 85) dX1_wake_4 rfl (fun h4 => ?_) (fun h4 => ?_)
  · rw [nI_leI (by omega) (by omega)] at h4
    have ej : j = min q (s 5 (3 + m)) := by omega
    exact A_vret dX1_wake_85 rfl (⟨rfl, by rw [ej]⟩)
  · rw [nI_leI (by omega) (by omega)] at h4
    refine A_aload_n dX1_wake_7 rfl 1 rfl ?_
    refine A_getR (b := d + 11) dX1_wake_8 fo_RX1_53 (LD0 hd) rfl ?_
    refine A_iload_n dX1_wake_11 rfl 2 rfl ?_
    refine A_iaload m dX1_wake_12 (LD11 hd) (rfl) (by omega) (lb rfl) ?_
    refine A_topi (pk ((wakeA j s m) (7 + (3 + m)))) (dM_11 f d (wakeA j s m) k (by omega)) ?_
    refine A_if_eq (tgt := 85) dX1_wake_13 rfl (fun h13 => ?_) (fun h13 => ?_)
    · rw [pk_0 hR.sm] at h13
      have z5 : (wakeA j s m) 5 (3 + m) = 0 := by
        rcases Nat.eq_zero_or_pos ((wakeA j s m) 5 (3 + m)) with q | q
        · exact q
        · have := ((hR.2 0 (by omega)).1 q).1; omega
      have ej : j = min q (s 5 (3 + m)) := by omega
      exact A_vret dX1_wake_85 rfl (⟨rfl, by rw [ej]⟩)
    · rw [pk_0 hR.sm] at h13
      have z5 : ¬ (wakeA j s m) 5 (3 + m) = 0 := fun z => h13 ⟨(hR.2 0 (by omega)).2 (by omega), (hR.2 1 (by omega)).2 (by omega), (hR.2 2 (by omega)).2 (by omega), (hR.2 3 (by omega)).2 (by omega)⟩
      obtain ⟨a1, a2, a3, a4, a5, a6⟩ := we.first (r := 3 + m) (by omega) z5
      obtain ⟨w2, w3⟩ := wf_lv we (r := 3 + m) (by omega) (by omega)
      have hR2 : isRow ((s2 (leavesA (wakeA j s m) (3 + m)) 1 ((wakeA j s m) (7 + (3 + m)) 0 - 1) 1) (7 + m)) ((s2 (leavesA (wakeA j s m) (3 + m)) 1 ((wakeA j s m) (7 + (3 + m)) 0 - 1) 1) 5 m) := (wfL_c (s := leavesA (wakeA j s m) (3 + m)) (fun r _ => by simp [s2]) (fun r _ i _ => by simp [s2, n70, n70', n71, n71', n72, n72', n73, n73', n74, n74', n75, n75']) w2.1) m (by omega)
      have hR3 : (s2 (leavesA (wakeA j s m) (3 + m)) 1 ((wakeA j s m) (7 + (3 + m)) 0 - 1) 1) 5 m ≤ 3 := by rw [s2_c _ (by decide)]; exact row3 w2.1 w2.2.1 (show ((wakeA j s m) (7 + (3 + m)) 0 - 1) < 4 by omega) (show m < 6 by omega) w3
      refine A_aload_n dX1_wake_16 rfl 1 rfl ?_
      refine A_getR (b := d + 11) dX1_wake_17 fo_RX1_53 (LD0 hd) rfl ?_
      refine A_iload_n dX1_wake_20 rfl 2 rfl ?_
      refine A_iaload m dX1_wake_21 (LD11 hd) (rfl) (by omega) (lb rfl) ?_
      refine A_topi (pk ((wakeA j s m) (7 + (3 + m)))) (dM_11 f d (wakeA j s m) k (by omega)) ?_
      refine A_iconst (v := 0) dX1_wake_22 rfl ?_
      refine A_callS (M' := MX5_at) [.int (pk ((wakeA j s m) (7 + (3 + m)))), .int 0] [] dX1_wake_23 lk_RX1_117 oX5_at sX5_at rfl rfl ⟨lb rfl, lb rfl⟩ (lb rfl) ⟨lb rfl, lb rfl⟩ (c_rowFirst ((wakeA j s m) (7 + (3 + m))) _ (hR.sm)) ?_
      rintro _ _ ⟨rfl, rfl⟩
      refine A_topi (nI ((wakeA j s m) (7 + (3 + m)) 0 - 1)) (pk_sub a1) ?_
      refine A_istore (lv' := [(4, .int (nI ((wakeA j s m) (7 + (3 + m)) 0 - 1))), (3, .int (nI j)), (0, .ref d), (1, .int (nI m)), (2, .int (nI q))]) dX1_wake_26 (lb rfl) rfl ?_
      refine A_aload_n dX1_wake_28 rfl 2 rfl ?_
      refine A_getR (b := d + 11) dX1_wake_29 fo_RX1_53 (LD0 hd) rfl ?_
      refine A_iload_n dX1_wake_32 rfl 3 rfl ?_
      refine A_aload_n dX1_wake_33 rfl 2 rfl ?_
      refine A_getR (b := d + 11) dX1_wake_34 fo_RX1_53 (LD0 hd) rfl ?_
      refine A_iload_n dX1_wake_37 rfl 3 rfl ?_
      refine A_iaload m dX1_wake_38 (LD11 hd) (rfl) (by omega) (lb rfl) ?_
      refine A_topi (pk ((wakeA j s m) (7 + (3 + m)))) (dM_11 f d (wakeA j s m) k (by omega)) ?_
      refine A_callS (M' := MX5_withoutFirst) [.int (pk ((wakeA j s m) (7 + (3 + m))))] [.int (nI m), .ref (d + 11)] dX1_wake_39 lk_RX1_120 oX5_withoutFirst sX5_withoutFirst rfl rfl ⟨lb rfl, lb rfl⟩ (lb rfl) ⟨lb rfl, lb rfl⟩ (c_rowTail ((wakeA j s m) (7 + (3 + m))) _ (hR.sm)) ?_
      rintro _ _ ⟨rfl, rfl⟩
      refine A_iastore m dX1_wake_42 (LD11 hd) (rfl) (by omega) (lb rfl) ?_
      refine A_eq rfl rfl (f' := dM f d (leavesA (wakeA j s m) (3 + m)) k) (dM_lW f d (wakeA j s m) k hm hR rfl (by omega)) ?_
      refine A_iload dX1_wake_43 0 rfl ?_
      refine A_if_lt (tgt := 79) dX1_wake_45 rfl (fun h45 => absurd h45 (nI_pos (by omega))) (fun h45 => ?_)
      refine A_iload dX1_wake_48 0 rfl ?_
      refine A_iconst (v := 4) dX1_wake_50 rfl ?_
      refine A_icmp_ge (tgt := 79) dX1_wake_51 rfl (fun h51 => absurd h51 (tk_ge a2 a1)) (fun h51 => ?_)
      refine A_aload_n dX1_wake_54 rfl 2 rfl ?_
      refine A_getR (b := d + 3) dX1_wake_55 fo_RX1_28 (LD0 hd) rfl ?_
      refine A_iload dX1_wake_58 0 rfl ?_
      refine A_iconst (v := 1) dX1_wake_60 rfl ?_
      refine A_iastore ((wakeA j s m) (7 + (3 + m)) 0 - 1) dX1_wake_61 (LD3 hd) (by simp only [lit, nI_add, pk_mul]) (by omega) (lb rfl) ?_
      refine A_eq rfl rfl (f' := dM f d (s2 (leavesA (wakeA j s m) (3 + m)) 1 ((wakeA j s m) (7 + (3 + m)) 0 - 1) 1) k) (dM_u3 f d (leavesA (wakeA j s m) (3 + m)) k 1 (by simp only [lit, nI_add, pk_mul]) (by omega)) ?_
      refine A_aload_n dX1_wake_62 rfl 2 rfl ?_
      refine A_getR (b := d + 10) dX1_wake_63 fo_RX1_50 (LD0 hd) rfl ?_
      refine A_iload_n dX1_wake_66 rfl 3 rfl ?_
      refine A_aload_n dX1_wake_67 rfl 2 rfl ?_
      refine A_getR (b := d + 10) dX1_wake_68 fo_RX1_50 (LD0 hd) rfl ?_
      refine A_iload_n dX1_wake_71 rfl 3 rfl ?_
      refine A_iaload m dX1_wake_72 (LD10 hd) (rfl) (by omega) (lb rfl) ?_
      refine A_topi (pk ((s2 (leavesA (wakeA j s m) (3 + m)) 1 ((wakeA j s m) (7 + (3 + m)) 0 - 1) 1) (7 + m))) (dM_10 f d (s2 (leavesA (wakeA j s m) (3 + m)) 1 ((wakeA j s m) (7 + (3 + m)) 0 - 1) 1) k (by omega)) ?_
      refine A_iload dX1_wake_73 0 rfl ?_
      refine A_callS (M' := MX5_withLast) [.int (pk ((s2 (leavesA (wakeA j s m) (3 + m)) 1 ((wakeA j s m) (7 + (3 + m)) 0 - 1) 1) (7 + m))), .int (nI ((wakeA j s m) (7 + (3 + m)) 0 - 1))] [.int (nI m), .ref (d + 10)] dX1_wake_75 lk_RX1_109 oX5_withLast sX5_withLast rfl rfl ⟨lb rfl, lb rfl⟩ (lb rfl) ⟨lb rfl, lb rfl⟩ (c_rowPush ((s2 (leavesA (wakeA j s m) (3 + m)) 1 ((wakeA j s m) (7 + (3 + m)) 0 - 1) 1) (7 + m)) ((s2 (leavesA (wakeA j s m) (3 + m)) 1 ((wakeA j s m) (7 + (3 + m)) 0 - 1) 1) 5 m) ((wakeA j s m) (7 + (3 + m)) 0 - 1) _ (hR2) (hR3) (by omega)) ?_
      rintro _ _ ⟨rfl, rfl⟩
      refine A_iastore m dX1_wake_78 (LD10 hd) (rfl) (by omega) (lb rfl) ?_
      refine A_eq rfl rfl (f' := dM f d (wake1A (wakeA j s m) m) k) (dM_cE f d (s2 (leavesA (wakeA j s m) (3 + m)) 1 ((wakeA j s m) (7 + (3 + m)) 0 - 1) 1) k hm) ?_
      refine A_iinc (lv' := [(3, .int (nI (j + 1))), (4, .int (nI ((wakeA j s m) (7 + (3 + m)) 0 - 1))), (0, .ref d), (1, .int (nI m)), (2, .int (nI q))]) dX1_wake_79 1 rfl (nI_add j 1) (lb rfl) rfl ?_
      refine A_goto (tgt := 2) dX1_wake_82 rfl ?_
      refine A_sub [0, 2, 3, 4] rfl ?_
      have e := ih (j + 1) (by omega) (by omega)
      rw [wake_succ] at e
      exact e
theorem x_wake (m q : Nat) (f : Mem) (d : Nat) (s : Sg) (k : Ro) (hd : isDesk d) (hm : m < 3) (hw : wf s) (hq : q < 10) : C0 MX1_wake [.ref d, .int (nI m), .int (nI q)] (dM f d s k) (rt none (dM f d (wakeA (min q (s 5 (3 + m))) s m) k)) := by
  refine Ct.of (lv := [(0, .ref d), (1, .int (nI m)), (2, .int (nI q))]) (by decide) (lb rfl) rfl ?_
  refine A_iconst (v := 0) dX1_wake_0 rfl ?_
  refine A_istore_n (lv' := [(3, .int 0), (0, .ref d), (1, .int (nI m)), (2, .int (nI q))]) dX1_wake_1 rfl (lb rfl) rfl ?_
  exact lx_wake m q f d s k hd hm hw hq 0 (by omega)
