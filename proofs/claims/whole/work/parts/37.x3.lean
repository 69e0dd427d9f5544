theorem x_mon (t so m : Nat) (f : Mem) (d : Nat) (s : Sg) (k : Ro) (hd : isDesk d) (ht : t < 4) (hso : so < 5) (hm : m < 3) (hw : wf s) (h1 : s 1 t = 0) (hg : f (d + 7) m = nI (s 14 m)) (h14 : s 14 m ≤ 1) : C0 MX1_doAtMonitor [.ref d, .int (nI t), .int (nI so), .int (nI m)] (dM f d s k) (rt (some (.int (nI (monA s t so m).2))) (dM f d (monA s t so m).1 k)) := by
  obtain ⟨h3, h4, h34⟩ := hw.2.2.2.2 m hm
  have h45 := (hw.1 (3 + m) (by omega)).1
  have hR : isRow ((s2 (s2 s 1 t 2) 2 t (s 4 m)) (7 + (3 + m))) ((s2 (s2 s 1 t 2) 2 t (s 4 m)) 5 (3 + m)) := (wfL_c (s := s) (fun r _ => by simp [s2]) (fun r _ i _ => by simp [s2, n70, n70', n71, n71', n72, n72', n73, n73', n74, n74', n75, n75']) hw.1) (3 + m) (by omega)
  refine Ct.of (lv := [(0, .ref d), (1, .int (nI t)), (2, .int (nI so)), (3, .int (nI m))]) (by decide) (lb rfl) rfl ?_
  refine A_iload_n dX1_doAtMonitor_0 rfl 3 rfl ?_
  refine A_callSN (M' := MX10_isMonitor) [.int (nI m)] [] dX1_doAtMonitor_1 lk_RX1_98 oX10_isMonitor sX10_isMonitor rfl rfl ⟨lb rfl, lb rfl⟩ (lb rfl) ⟨lb rfl, lb rfl⟩ (x_isMonitor (nI m) _) ?_
  rintro _ _ ⟨rfl, rfl⟩
  refine A_if_eq (tgt := 16) dX1_doAtMonitor_4 rfl (fun h4 => absurd h4 (bz_n0.mpr ((inR_nI (by omega)).mpr hm))) (fun h4 => ?_)
  refine A_aload_n dX1_doAtMonitor_7 rfl 0 rfl ?_
  refine A_getR (b := d + 7) dX1_doAtMonitor_8 fo_RX1_40 (LD0 hd) rfl ?_
  refine A_iload_n dX1_doAtMonitor_11 rfl 3 rfl ?_
  refine A_zaload m dX1_doAtMonitor_12 (LD7 hd) (rfl) (by omega) (lb rfl) ?_
  refine A_topi (f (d + 7) m) (by rw [dM_o f d s k (by omega)] <;> simp [u2, ur, upd]) ?_
  refine A_topi (nI (s 14 m)) hg ?_
  refine A_if_eq (tgt := 18) dX1_doAtMonitor_13 rfl (fun h13 => ?_) (fun h13 => ?_)
  · rw [show (0 : Int32) = nI 0 from rfl, nI_eq (by omega) (by omega)] at h13
    refine A_iload_n dX1_doAtMonitor_18 rfl 2 rfl ?_
    refine A_if_ne (tgt := 29) dX1_doAtMonitor_19 rfl (fun h19 => ?_) (fun h19 => ?_)
    · rw [show (0 : Int32) = nI 0 from rfl, nI_eq (by omega) (by omega)] at h19
      refine A_aload_n dX1_doAtMonitor_29 rfl 0 rfl ?_
      refine A_getR (b := d + 8) dX1_doAtMonitor_30 fo_RX1_44 (LD0 hd) rfl ?_
      refine A_iload_n dX1_doAtMonitor_33 rfl 3 rfl ?_
      refine A_iaload m dX1_doAtMonitor_34 (LD8 hd) (rfl) (by omega) (lb rfl) ?_
      refine A_topi (nI (s 3 m) - 1) (by rw [dM_8 f d s k (by omega)] <;> simp [s2, n70, n70', n71, n71', n72, n72', n73, n73', n74, n74', n75, n75']) ?_
      refine A_iload_n dX1_doAtMonitor_35 rfl 1 rfl ?_
      refine A_icmp_eq (tgt := 41) dX1_doAtMonitor_36 rfl (fun h36 => ?_) (fun h36 => ?_)
      · rw [ow_t h3 ht] at h36
        refine A_iload_n dX1_doAtMonitor_41 rfl 2 rfl ?_
        refine A_iconst (v := 1) dX1_doAtMonitor_42 rfl ?_
        refine A_icmp_ne (tgt := 73) dX1_doAtMonitor_43 rfl (fun h43 => ?_) (fun h43 => ?_)
        · rw [show (1 : Int32) = nI 1 from rfl, nI_eq (by omega) (by omega)] at h43
          refine A_iload_n dX1_doAtMonitor_73 rfl 2 rfl ?_
          refine A_iconst (v := 2) dX1_doAtMonitor_74 rfl ?_
          refine A_icmp_ne (tgt := 121) dX1_doAtMonitor_75 rfl (fun h75 => ?_) (fun h75 => ?_)
          · rw [show (2 : Int32) = nI 2 from rfl, nI_eq (by omega) (by omega)] at h75
            refine A_aload_n dX1_doAtMonitor_121 rfl 0 rfl ?_
            refine A_iload_n dX1_doAtMonitor_122 rfl 3 rfl ?_
            refine A_iload_n dX1_doAtMonitor_123 rfl 2 rfl ?_
            refine A_iconst (v := 3) dX1_doAtMonitor_124 rfl ?_
            refine A_icmp_ne (tgt := 132) dX1_doAtMonitor_125 rfl (fun h125 => ?_) (fun h125 => ?_)
            · rw [show (3 : Int32) = nI 3 from rfl, nI_eq (by omega) (by omega)] at h125
              refine A_iconst (v := 4) dX1_doAtMonitor_132 rfl ?_
              refine A_callV (M' := MX1_wake) [.int (nI m), .int 4] [] d dX1_doAtMonitor_133 lk_RX1_114 oX1_wake iX1_wake rfl rfl ⟨lb rfl, lb rfl⟩ (lb rfl) ⟨lb rfl, lb rfl⟩ (LD0 hd) rfl (x_wake m 4 f d s k hd hm hw (by omega)) ?_
              rintro _ _ ⟨rfl, rfl⟩
              refine A_iconst (v := 0) dX1_doAtMonitor_136 rfl ?_
              exact A_iret dX1_doAtMonitor_137 rfl (rti (by rw [monA, if_neg (by omega), if_neg h19, if_neg (not_not_intro h36), if_neg h43, if_neg h75]; rfl) (by rw [monA, if_neg (by omega), if_neg h19, if_neg (not_not_intro h36), if_neg h43, if_neg h75]; dsimp only; rw [show min 4 (s 5 (3 + m)) = if s 5 (3 + m) = 0 then 0 else if so = 4 then s 5 (3 + m) else 1 by (repeat' split) <;> omega]))
            · rw [show (3 : Int32) = nI 3 from rfl, nI_eq (by omega) (by omega)] at h125
              refine A_iconst (v := 1) dX1_doAtMonitor_128 rfl ?_
              refine A_goto (tgt := 133) dX1_doAtMonitor_129 rfl ?_
              refine A_callV (M' := MX1_wake) [.int (nI m), .int 1] [] d dX1_doAtMonitor_133 lk_RX1_114 oX1_wake iX1_wake rfl rfl ⟨lb rfl, lb rfl⟩ (lb rfl) ⟨lb rfl, lb rfl⟩ (LD0 hd) rfl (x_wake m 1 f d s k hd hm hw (by omega)) ?_
              rintro _ _ ⟨rfl, rfl⟩
              refine A_iconst (v := 0) dX1_doAtMonitor_136 rfl ?_
              exact A_iret dX1_doAtMonitor_137 rfl (rti (by rw [monA, if_neg (by omega), if_neg h19, if_neg (not_not_intro h36), if_neg h43, if_neg h75]; rfl) (by rw [monA, if_neg (by omega), if_neg h19, if_neg (not_not_intro h36), if_neg h43, if_neg h75]; dsimp only; rw [show min 1 (s 5 (3 + m)) = if s 5 (3 + m) = 0 then 0 else if so = 4 then s 5 (3 + m) else 1 by (repeat' split) <;> omega]))
          · rw [show (2 : Int32) = nI 2 from rfl, nI_eq (by omega) (by omega)] at h75
            refine A_aload_n dX1_doAtMonitor_78 rfl 0 rfl ?_
            refine A_getR (b := d + 3) dX1_doAtMonitor_79 fo_RX1_28 (LD0 hd) rfl ?_
            refine A_iload_n dX1_doAtMonitor_82 rfl 1 rfl ?_
            refine A_iconst (v := 2) dX1_doAtMonitor_83 rfl ?_
            refine A_iastore t dX1_doAtMonitor_84 (LD3 hd) (rfl) (by omega) (lb rfl) ?_
            refine A_eq rfl rfl (f' := dM f d (s2 s 1 t 2) k) (dM_u3 f d s k 2 (by simp only [lit, nI_add, pk_mul]) (by omega)) ?_
            refine A_aload_n dX1_doAtMonitor_85 rfl 0 rfl ?_
            refine A_getR (b := d + 4) dX1_doAtMonitor_86 fo_RX1_31 (LD0 hd) rfl ?_
            refine A_iload_n dX1_doAtMonitor_89 rfl 1 rfl ?_
            refine A_aload_n dX1_doAtMonitor_90 rfl 0 rfl ?_
            refine A_getR (b := d + 9) dX1_doAtMonitor_91 fo_RX1_47 (LD0 hd) rfl ?_
            refine A_iload_n dX1_doAtMonitor_94 rfl 3 rfl ?_
            refine A_iaload m dX1_doAtMonitor_95 (LD9 hd) (rfl) (by omega) (lb rfl) ?_
            refine A_topi (nI (s 4 m)) (by rw [dM_9 f d (s2 s 1 t 2) k (by omega)] <;> simp [s2, n70, n70', n71, n71', n72, n72', n73, n73', n74, n74', n75, n75']) ?_
            refine A_iastore t dX1_doAtMonitor_96 (LD4 hd) (rfl) (by omega) (lb rfl) ?_
            refine A_eq rfl rfl (f' := dM f d (s2 (s2 s 1 t 2) 2 t (s 4 m)) k) (dM_u4 f d (s2 s 1 t 2) k (s 4 m) (by simp only [lit, nI_add, pk_mul]) (by omega)) ?_
            refine A_aload_n dX1_doAtMonitor_97 rfl 0 rfl ?_
            refine A_getR (b := d + 11) dX1_doAtMonitor_98 fo_RX1_53 (LD0 hd) rfl ?_
            refine A_iload_n dX1_doAtMonitor_101 rfl 3 rfl ?_
            refine A_aload_n dX1_doAtMonitor_102 rfl 0 rfl ?_
            refine A_getR (b := d + 11) dX1_doAtMonitor_103 fo_RX1_53 (LD0 hd) rfl ?_
            refine A_iload_n dX1_doAtMonitor_106 rfl 3 rfl ?_
            refine A_iaload m dX1_doAtMonitor_107 (LD11 hd) (rfl) (by omega) (lb rfl) ?_
            refine A_topi (pk ((s2 (s2 s 1 t 2) 2 t (s 4 m)) (7 + (3 + m)))) (dM_11 f d (s2 (s2 s 1 t 2) 2 t (s 4 m)) k (by omega)) ?_
            refine A_iload_n dX1_doAtMonitor_108 rfl 1 rfl ?_
            refine A_callS (M' := MX5_withLast) [.int (pk ((s2 (s2 s 1 t 2) 2 t (s 4 m)) (7 + (3 + m)))), .int (nI t)] [.int (nI m), .ref (d + 11)] dX1_doAtMonitor_109 lk_RX1_109 oX5_withLast sX5_withLast rfl rfl ⟨lb rfl, lb rfl⟩ (lb rfl) ⟨lb rfl, lb rfl⟩ (c_rowPush ((s2 (s2 s 1 t 2) 2 t (s 4 m)) (7 + (3 + m))) ((s2 (s2 s 1 t 2) 2 t (s 4 m)) 5 (3 + m)) t _ (hR) (by rw [s2_c _ (by decide), s2_c _ (by decide)]; exact row3 hw.1 hw.2.1 ht (show 3 + m < 6 by omega) (hw.nst h1)) (by omega)) ?_
            rintro _ _ ⟨rfl, rfl⟩
            refine A_iastore m dX1_doAtMonitor_112 (LD11 hd) (rfl) (by omega) (lb rfl) ?_
            refine A_eq rfl rfl (f' := dM f d (comesA (s2 (s2 s 1 t 2) 2 t (s 4 m)) (3 + m) t) k) (dM_cW f d (s2 (s2 s 1 t 2) 2 t (s 4 m)) k hm) ?_
            refine A_aload_n dX1_doAtMonitor_113 rfl 0 rfl ?_
            refine A_iload_n dX1_doAtMonitor_114 rfl 3 rfl ?_
            refine A_callV (M' := MX1_free) [.int (nI m)] [] d dX1_doAtMonitor_115 lk_RX1_105 oX1_free iX1_free rfl rfl ⟨lb rfl, lb rfl⟩ (lb rfl) ⟨lb rfl, lb rfl⟩ (LD0 hd) rfl (x_free m f d (comesA (s2 (s2 s 1 t 2) 2 t (s 4 m)) (3 + m) t) k hd (by omega) (wf.w4 <| wf_cm (wf_12 hw (hw.nst h1) (by omega) (by omega)) ht (by omega) (nst_c (fun r _ i _ => by simp [s2, n71', n72']) (hw.nst h1)) (by simp [s2]) (by simp [s2]; have := h34 (by omega); omega))) ?_
            rintro _ _ ⟨rfl, rfl⟩
            refine A_goto (tgt := 136) dX1_doAtMonitor_118 rfl ?_
            refine A_iconst (v := 0) dX1_doAtMonitor_136 rfl ?_
            exact A_iret dX1_doAtMonitor_137 rfl (rti (by rw [monA, if_neg (by omega), if_neg h19, if_neg (not_not_intro h36), if_neg h43, if_pos h75]; rfl) (by rw [monA, if_neg (by omega), if_neg h19, if_neg (not_not_intro h36), if_neg h43, if_pos h75]))
        · rw [show (1 : Int32) = nI 1 from rfl, nI_eq (by omega) (by omega)] at h43
          refine A_aload_n dX1_doAtMonitor_46 rfl 0 rfl ?_
          refine A_getR (b := d + 9) dX1_doAtMonitor_47 fo_RX1_47 (LD0 hd) rfl ?_
          refine A_iload_n dX1_doAtMonitor_50 rfl 3 rfl ?_
          refine A_dup2 dX1_doAtMonitor_51 rfl rfl ?_
          refine A_iaload m dX1_doAtMonitor_52 (LD9 hd) (rfl) (by omega) (lb rfl) ?_
          refine A_topi (nI (s 4 m)) (by rw [dM_9 f d s k (by omega)] <;> simp [s2, n70, n70', n71, n71', n72, n72', n73, n73', n74, n74', n75, n75']) ?_
          refine A_iconst (v := 1) dX1_doAtMonitor_53 rfl ?_
          refine A_isub dX1_doAtMonitor_54 ?_
          refine A_iastore m dX1_doAtMonitor_55 (LD9 hd) (rfl) (by omega) (lb rfl) ?_
          refine A_eq rfl rfl (f' := dM f d (s2 s 4 m (s 4 m - 1)) k) (dM_u9 f d s k (s 4 m - 1) (pk_sub (by have := h34 (by omega); omega)) (by omega)) ?_
          refine A_aload_n dX1_doAtMonitor_56 rfl 0 rfl ?_
          refine A_getR (b := d + 9) dX1_doAtMonitor_57 fo_RX1_47 (LD0 hd) rfl ?_
          refine A_iload_n dX1_doAtMonitor_60 rfl 3 rfl ?_
          refine A_iaload m dX1_doAtMonitor_61 (LD9 hd) (rfl) (by omega) (lb rfl) ?_
          refine A_topi (nI (s 4 m - 1)) (by rw [dM_9 f d (s2 s 4 m (s 4 m - 1)) k (by omega)] <;> simp [s2, n70, n70', n71, n71', n72, n72', n73, n73', n74, n74', n75, n75']) ?_
          refine A_if_ne (tgt := 136) dX1_doAtMonitor_62 rfl (fun h62 => ?_) (fun h62 => ?_)
          · rw [show (0 : Int32) = nI 0 from rfl, nI_eq (by omega) (by omega)] at h62
            refine A_iconst (v := 0) dX1_doAtMonitor_136 rfl ?_
            exact A_iret dX1_doAtMonitor_137 rfl (rti (by rw [monA, if_neg (by omega), if_neg h19, if_neg (not_not_intro h36), if_pos h43, if_neg h62]; rfl) (by rw [monA, if_neg (by omega), if_neg h19, if_neg (not_not_intro h36), if_pos h43, if_neg h62]))
          · rw [show (0 : Int32) = nI 0 from rfl, nI_eq (by omega) (by omega)] at h62
            refine A_aload_n dX1_doAtMonitor_65 rfl 0 rfl ?_
            refine A_iload_n dX1_doAtMonitor_66 rfl 3 rfl ?_
            refine A_callV (M' := MX1_free) [.int (nI m)] [] d dX1_doAtMonitor_67 lk_RX1_105 oX1_free iX1_free rfl rfl ⟨lb rfl, lb rfl⟩ (lb rfl) ⟨lb rfl, lb rfl⟩ (LD0 hd) rfl (x_free m f d (s2 s 4 m (s 4 m - 1)) k hd (by omega) (hw.c4 m _)) ?_
            rintro _ _ ⟨rfl, rfl⟩
            refine A_goto (tgt := 136) dX1_doAtMonitor_70 rfl ?_
            refine A_iconst (v := 0) dX1_doAtMonitor_136 rfl ?_
            exact A_iret dX1_doAtMonitor_137 rfl (rti (by rw [monA, if_neg (by omega), if_neg h19, if_neg (not_not_intro h36), if_pos h43, if_pos h62]; rfl) (by rw [monA, if_neg (by omega), if_neg h19, if_neg (not_not_intro h36), if_pos h43, if_pos h62]))
      · rw [ow_t h3 ht] at h36
        refine A_iconst (v := 2) dX1_doAtMonitor_39 rfl ?_
        exact A_iret dX1_doAtMonitor_40 rfl (rti (by rw [monA, if_neg (by omega), if_neg h19, if_pos h36]; rfl) (by rw [monA, if_neg (by omega), if_neg h19, if_pos h36]))
    · rw [show (0 : Int32) = nI 0 from rfl, nI_eq (by omega) (by omega)] at h19
      refine A_aload_n dX1_doAtMonitor_22 rfl 0 rfl ?_
      refine A_iload_n dX1_doAtMonitor_23 rfl 1 rfl ?_
      refine A_iload_n dX1_doAtMonitor_24 rfl 3 rfl ?_
      refine A_callV (M' := MX1_enter) [.int (nI t), .int (nI m)] [] d dX1_doAtMonitor_25 lk_RX1_102 oX1_enter iX1_enter rfl rfl ⟨lb rfl, lb rfl⟩ (lb rfl) ⟨lb rfl, lb rfl⟩ (LD0 hd) rfl (x_enter t m f d s k hd ht hm hw h1) ?_
      rintro _ _ ⟨rfl, rfl⟩
      exact A_iret dX1_doAtMonitor_28 rfl (rti (by rw [monA, if_neg (by omega), if_pos h19]) (by rw [monA, if_neg (by omega), if_pos h19]))
  · rw [show (0 : Int32) = nI 0 from rfl, nI_eq (by omega) (by omega)] at h13
    refine A_iconst (v := 1) dX1_doAtMonitor_16 rfl ?_
    exact A_iret dX1_doAtMonitor_17 rfl (rti (by rw [monA, if_pos (by omega)]; rfl) (by rw [monA, if_pos (by omega)]))
theorem lx_end (t x : Nat) (f : Mem) (d : Nat) (s : Sg) (k : Ro) (hd : isDesk d) (ht : t < 4) (hx : x ≤ 4) (hw : wf s) (h1 : s 1 t = 0) : ∀ i, i ≤ 3 → A (cM MX1_end 0 0 layT layT (rt none (dM (u2 f (d + 6) t (if x = 3 then nI (endA s t x).2 else 0)) d (endA s t x).1 k))) 12 [(4, .int (nI i)), (3, .int (nI (endN s t x i).2)), (0, .ref d), (1, .int (nI t)), (2, .int (nI x))] [] (dM f d (endN s t x i).1 k) := by
  refine up_ind 3 (fun i hi ih => ?_)
  obtain ⟨we, we2, we3⟩ := wf_endN hw ht h1 hx i hi
  refine A_iload dX1_end_12 0 rfl ?_
  refine A_iconst (v := 3) dX1_end_14 rfl ?_
  refine A_icmp_ge (tgt := 44) dX1_end_15 rfl (fun h15 => ?_) (fun h15 => ?_)
  · rw [show (3 : Int32) = nI 3 from rfl, nI_leI (by omega) (by omega)] at h15
    have e3 : i = 3 := by omega
    refine A_aload_n dX1_end_44 rfl 2 rfl ?_
    refine A_getR (b := d + 6) dX1_end_45 fo_RX1_37 (LD0 hd) rfl ?_
    refine A_iload_n dX1_end_48 rfl 3 rfl ?_
    refine A_iload_n dX1_end_49 rfl 4 rfl ?_
    refine A_iconst (v := 3) dX1_end_50 rfl ?_
    refine A_icmp_ne (tgt := 58) dX1_end_51 rfl (fun h51 => ?_) (fun h51 => ?_)
    · rw [show (3 : Int32) = nI 3 from rfl, nI_eq (by omega) (by omega)] at h51
      refine A_iconst (v := 0) dX1_end_58 rfl ?_
      refine A_iastore t dX1_end_59 (LD6 hd) (rfl) (by omega) (lb rfl) ?_
      refine A_eq rfl rfl (f' := dM (u2 f (d + 6) t 0) d ((endN s t x i).1) k) (dM_uo f d ((endN s t x i).1) k (by omega)) ?_
      exact A_vret dX1_end_60 rfl (⟨rfl, by rw [if_neg h51, e3, end_3]⟩)
    · rw [show (3 : Int32) = nI 3 from rfl, nI_eq (by omega) (by omega)] at h51
      refine A_iload_n dX1_end_54 rfl 1 rfl ?_
      refine A_goto (tgt := 59) dX1_end_55 rfl ?_
      refine A_iastore t dX1_end_59 (LD6 hd) (rfl) (by omega) (lb rfl) ?_
      refine A_eq rfl rfl (f' := dM (u2 f (d + 6) t (nI (endN s t x i).2)) d ((endN s t x i).1) k) (dM_uo f d ((endN s t x i).1) k (by omega)) ?_
      exact A_vret dX1_end_60 rfl (⟨rfl, by rw [if_pos h51, e3, end_3]⟩)
  · rw [show (3 : Int32) = nI 3 from rfl, nI_leI (by omega) (by omega)] at h15
    refine A_aload_n dX1_end_18 rfl 2 rfl ?_
    refine A_getR (b := d + 8) dX1_end_19 fo_RX1_44 (LD0 hd) rfl ?_
    refine A_iload dX1_end_22 0 rfl ?_
    refine A_iaload i dX1_end_24 (LD8 hd) (rfl) (by omega) (lb rfl) ?_
    refine A_topi (nI (((endN s t x i).1) 3 i) - 1) (by rw [dM_8 f d ((endN s t x i).1) k (by omega)] <;> simp [s2, n70, n70', n71, n71', n72, n72', n73, n73', n74, n74', n75, n75']) ?_
    refine A_iload_n dX1_end_25 rfl 3 rfl ?_
    refine A_icmp_ne (tgt := 38) dX1_end_26 rfl (fun h26 => ?_) (fun h26 => ?_)
    · rw [ow_t (we.2.2.2.2 i (by omega)).1 ht] at h26
      refine A_iinc (lv' := [(4, .int (nI (i + 1))), (3, .int (nI (endN s t x i).2)), (0, .ref d), (1, .int (nI t)), (2, .int (nI x))]) dX1_end_38 0 rfl (nI_add i 1) (lb rfl) rfl ?_
      refine A_goto (tgt := 12) dX1_end_41 rfl ?_
      have e := ih (i + 1) (by omega) (by omega)
      rw [endN, end1A, if_neg h26] at e
      exact e
    · rw [ow_t (we.2.2.2.2 i (by omega)).1 ht] at h26
      refine A_aload_n dX1_end_29 rfl 2 rfl ?_
      refine A_iload dX1_end_30 0 rfl ?_
      refine A_callV (M' := MX1_free) [.int (nI i)] [] d dX1_end_32 lk_RX1_105 oX1_free iX1_free rfl rfl ⟨lb rfl, lb rfl⟩ (lb rfl) ⟨lb rfl, lb rfl⟩ (LD0 hd) rfl (x_free i f d ((endN s t x i).1) k hd (by omega) we.w4) ?_
      rintro _ _ ⟨rfl, rfl⟩
      refine A_iinc (lv' := [(3, .int (nI ((endN s t x i).2 + 1))), (4, .int (nI i)), (0, .ref d), (1, .int (nI t)), (2, .int (nI x))]) dX1_end_35 1 rfl (nI_add ((endN s t x i).2) 1) (lb rfl) rfl ?_
      refine A_iinc (lv' := [(4, .int (nI (i + 1))), (3, .int (nI ((endN s t x i).2 + 1))), (0, .ref d), (1, .int (nI t)), (2, .int (nI x))]) dX1_end_38 1 rfl (nI_add i 1) (lb rfl) rfl ?_
      refine A_goto (tgt := 12) dX1_end_41 rfl ?_
      have e := ih (i + 1) (by omega) (by omega)
      rw [endN, end1A, if_pos h26] at e
      exact e
theorem x_end (t x : Nat) (f : Mem) (d : Nat) (s : Sg) (k : Ro) (hd : isDesk d) (ht : t < 4) (hx : x ≤ 4) (hw : wf s) (h1 : s 1 t = 0) : C0 MX1_end [.ref d, .int (nI t), .int (nI x)] (dM f d s k) (rt none (dM (u2 f (d + 6) t (if x = 3 then nI (endA s t x).2 else 0)) d (endA s t x).1 k)) := by
  refine Ct.of (lv := [(0, .ref d), (1, .int (nI t)), (2, .int (nI x))]) (by decide) (lb rfl) rfl ?_
  refine A_iconst (v := 0) dX1_end_0 rfl ?_
  refine A_istore_n (lv' := [(3, .int 0), (0, .ref d), (1, .int (nI t)), (2, .int (nI x))]) dX1_end_1 rfl (lb rfl) rfl ?_
  refine A_aload_n dX1_end_2 rfl 1 rfl ?_
  refine A_getR (b := d + 3) dX1_end_3 fo_RX1_28 (LD0 hd) rfl ?_
  refine A_iload_n dX1_end_6 rfl 2 rfl ?_
  refine A_iload_n dX1_end_7 rfl 3 rfl ?_
  refine A_iastore t dX1_end_8 (LD3 hd) (rfl) (by omega) (lb rfl) ?_
  refine A_eq rfl rfl (f' := dM f d (s2 s 1 t x) k) (dM_u3 f d s k x (by simp only [lit, nI_add, pk_mul]) (by omega)) ?_
  refine A_iconst (v := 0) dX1_end_9 rfl ?_
  refine A_istore (lv' := [(4, .int 0), (3, .int 0), (0, .ref d), (1, .int (nI t)), (2, .int (nI x))]) dX1_end_10 (lb rfl) rfl ?_
  exact lx_end t x f d s k hd ht hx hw h1 0 (by omega)
theorem x_part (p : Nat) (x y : Int32) (f : Mem) {n : Nat} (hp : isProg p) (hn : f p 0 = nI n) (h12 : n ≤ 12) : C0 MX3_part [.ref p, .int x, .int y] f (rt (some (.int (if inR x n ∧ inR y 4 then f (p + 1) (4 * x.toNatClampNeg + y.toNatClampNeg) else -100))) f) := by
  refine Ct.of (lv := [(0, .ref p), (1, .int x), (2, .int y)]) (by decide) (lb rfl) rfl ?_
  refine A_iload_n dX3_part_0 rfl 1 rfl ?_
  refine A_if_lt (tgt := 21) dX3_part_1 rfl (fun h1 => ?_) (fun h1 => ?_)
  · refine A_bipush (v := -100) dX3_part_21 rfl ?_
    refine A_goto (tgt := 36) dX3_part_23 rfl ?_
    exact A_iret dX3_part_36 rfl (rti (by rw [if_neg (fun z => by first | (have := Int32.lt_iff_toInt_lt.mp h1; simp at this; omega) | (have := Int32.le_iff_toInt_le.mp h9; rw [nI_toInt (by omega)] at this; omega) | (have := Int32.lt_iff_toInt_lt.mp h13; simp at this; omega) | (have := mt Int32.lt_iff_toInt_lt.mpr h18; simp at this; omega))]) rfl)
  · refine A_iload_n dX3_part_4 rfl 1 rfl ?_
    refine A_aload_n dX3_part_5 rfl 0 rfl ?_
    refine A_getI dX3_part_6 fo_RX3_9 hp.1 rfl ?_
    refine A_topi (nI n) hn ?_
    refine A_icmp_ge (tgt := 21) dX3_part_9 rfl (fun h9 => ?_) (fun h9 => ?_)
    · refine A_bipush (v := -100) dX3_part_21 rfl ?_
      refine A_goto (tgt := 36) dX3_part_23 rfl ?_
      exact A_iret dX3_part_36 rfl (rti (by rw [if_neg (fun z => by first | (have := Int32.lt_iff_toInt_lt.mp h1; simp at this; omega) | (have := Int32.le_iff_toInt_le.mp h9; rw [nI_toInt (by omega)] at this; omega) | (have := Int32.lt_iff_toInt_lt.mp h13; simp at this; omega) | (have := mt Int32.lt_iff_toInt_lt.mpr h18; simp at this; omega))]) rfl)
    · refine A_iload_n dX3_part_12 rfl 2 rfl ?_
      refine A_if_lt (tgt := 21) dX3_part_13 rfl (fun h13 => ?_) (fun h13 => ?_)
      · refine A_bipush (v := -100) dX3_part_21 rfl ?_
        refine A_goto (tgt := 36) dX3_part_23 rfl ?_
        exact A_iret dX3_part_36 rfl (rti (by rw [if_neg (fun z => by first | (have := Int32.lt_iff_toInt_lt.mp h1; simp at this; omega) | (have := Int32.le_iff_toInt_le.mp h9; rw [nI_toInt (by omega)] at this; omega) | (have := Int32.lt_iff_toInt_lt.mp h13; simp at this; omega) | (have := mt Int32.lt_iff_toInt_lt.mpr h18; simp at this; omega))]) rfl)
      · refine A_iload_n dX3_part_16 rfl 2 rfl ?_
        refine A_iconst (v := 4) dX3_part_17 rfl ?_
        refine A_icmp_lt (tgt := 26) dX3_part_18 rfl (fun h18 => ?_) (fun h18 => ?_)
        · obtain ⟨b, hb, rfl⟩ := rx h13 h18
          obtain ⟨a, ha, rfl⟩ := nI_of h1
          rw [nI_leI (by omega) (by omega)] at h9
          refine A_aload_n dX3_part_26 rfl 0 rfl ?_
          refine A_getR (b := p + 1) dX3_part_27 fo_RX3_15 hp.1 rfl ?_
          refine A_iload_n dX3_part_30 rfl 1 rfl ?_
          refine A_iconst (v := 4) dX3_part_31 rfl ?_
          refine A_imul dX3_part_32 ?_
          refine A_iload_n dX3_part_33 rfl 2 rfl ?_
          refine A_iadd dX3_part_34 ?_
          refine A_iaload (a * 4 + b) dX3_part_35 hp.2 (by simp only [lit, nI_add, pk_mul]) (by omega) (lb rfl) ?_
          exact A_iret dX3_part_36 rfl (rti (by rw [if_pos ⟨(inR_nI (by omega)).mpr (by omega), (inR_nI (by omega)).mpr (by omega)⟩, nI_clamp (by omega), nI_clamp (by omega), Nat.mul_comm]) rfl)
        · refine A_bipush (v := -100) dX3_part_21 rfl ?_
          refine A_goto (tgt := 36) dX3_part_23 rfl ?_
          exact A_iret dX3_part_36 rfl (rti (by rw [if_neg (fun z => by first | (have := Int32.lt_iff_toInt_lt.mp h1; simp at this; omega) | (have := Int32.le_iff_toInt_le.mp h9; rw [nI_toInt (by omega)] at this; omega) | (have := Int32.lt_iff_toInt_lt.mp h13; simp at this; omega) | (have := mt Int32.lt_iff_toInt_lt.mpr h18; simp at this; omega))]) rfl)
theorem x_partIn (p i q : Nat) (f : Mem) {n : Nat} (hp : isProg p) (hn : f p 0 = nI n) (h12 : n ≤ 12) (hi : i < n) (hq : q < 4) : C0 MX3_part [.ref p, .int (nI i), .int (nI q)] f (rt (some (.int (f (p + 1) (4 * i + q)))) f) := by
  have e := x_part p (nI i) (nI q) f hp hn h12
  rw [if_pos ⟨(inR_nI (by omega)).mpr hi, (inR_nI (by omega)).mpr hq⟩, nI_clamp (by omega), nI_clamp (by omega)] at e
  exact e
