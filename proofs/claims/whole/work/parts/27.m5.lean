theorem l_ends (t x : Nat) (f : Mem) (s : Sg) (k : Ro) (ht : t < 4) (hx : x ≤ 4) (hw : wf s) (h1 : s 1 t = 0) : ∀ i, i ≤ 3 → A (cM MX11_ends 0 0 layT layT (rt none (ur (u2 f 93 17 (nI (endA s t x).2)) 96 (flat (endA s t x).1 k)))) 16 [(3, .int (nI i)), (0, .ref 93), (1, .int (nI t)), (2, .int (nI x))] [] (ur (u2 f 93 17 (nI (endN s t x i).2)) 96 (flat (endN s t x i).1 k)) := by
  refine up_ind 3 (fun i hi ih => ?_)
  obtain ⟨we, we2, we3⟩ := wf_endN hw ht h1 hx i hi
  refine A_iload_n dX11_ends_16 rfl 0 rfl ?_
  refine A_iconst (v := 3) dX11_ends_17 rfl ?_
  refine A_icmp_ge (tgt := 51) dX11_ends_18 rfl (fun h18 => ?_) (fun h18 => ?_)
  · rw [show (3 : Int32) = nI 3 from rfl, nI_leI (by omega) (by omega)] at h18
    have e3 : i = 3 := by omega
    subst e3
    exact A_vret dX11_ends_51 rfl (⟨rfl, rfl⟩)
  · rw [show (3 : Int32) = nI 3 from rfl, nI_leI (by omega) (by omega)] at h18
    refine A_aload_n dX11_ends_21 rfl 1 rfl ?_
    refine A_iload_n dX11_ends_22 rfl 2 rfl ?_
    refine A_iload_n dX11_ends_23 rfl 0 rfl ?_
    refine A_callV (M' := MX11_isOwner) [.int (nI t), .int (nI i)] [] 93 dX11_ends_24 lk_RX11_160 oX11_isOwner iX11_isOwner rfl rfl ⟨lb rfl, lb rfl⟩ (lb rfl) ⟨lb rfl, lb rfl⟩ L93 rfl (c_isOwner t i (u2 f 93 17 (nI (endN s t x i).2)) ((endN s t x i).1) k (by omega) (by omega) ((we.2.2.2.2 i (by omega)).1)) ?_
    rintro _ _ ⟨rfl, rfl⟩
    refine A_if_eq (tgt := 45) dX11_ends_27 rfl (fun h27 => ?_) (fun h27 => ?_)
    · refine A_iinc (lv' := [(3, .int (nI (i + 1))), (0, .ref 93), (1, .int (nI t)), (2, .int (nI x))]) dX11_ends_45 0 rfl (nI_add i 1) (lb rfl) rfl ?_
      refine A_goto (tgt := 16) dX11_ends_48 rfl ?_
      have e := ih (i + 1) (by omega) (by omega)
      rw [endN, end1A, if_neg (bz_0.mp h27)] at e
      exact e
    · refine A_aload_n dX11_ends_30 rfl 1 rfl ?_
      refine A_dup dX11_ends_31 rfl ?_
      refine A_getI dX11_ends_32 fo_RX11_157 L93 rfl ?_
      refine A_topi (nI (endN s t x i).2) (by simp [ur, u2, upd]) ?_
      refine A_iconst (v := 1) dX11_ends_35 rfl ?_
      refine A_iadd dX11_ends_36 ?_
      refine A_putI dX11_ends_37 fo_RX11_157 L93 rfl ?_
      refine A_eq rfl rfl (f' := ur (u2 (u2 f 93 17 (nI (endN s t x i).2)) 93 17 ((nI (endN s t x i).2) + 1)) 96 (flat ((endN s t x i).1) k)) (sm_o (u2 f 93 17 (nI (endN s t x i).2)) ((endN s t x i).1) k (by decide)) ?_
      refine A_aload_n dX11_ends_40 rfl 1 rfl ?_
      refine A_iload_n dX11_ends_41 rfl 0 rfl ?_
      refine A_callV (M' := MX11_frees) [.int (nI i)] [] 93 dX11_ends_42 lk_RX11_163 oX11_frees iX11_frees rfl rfl ⟨lb rfl, lb rfl⟩ (lb rfl) ⟨lb rfl, lb rfl⟩ L93 rfl (c_frees i (u2 (u2 f 93 17 (nI (endN s t x i).2)) 93 17 ((nI (endN s t x i).2) + 1)) ((endN s t x i).1) k (by omega) (we.w4)) ?_
      rintro _ _ ⟨rfl, rfl⟩
      refine A_iinc (lv' := [(3, .int (nI (i + 1))), (0, .ref 93), (1, .int (nI t)), (2, .int (nI x))]) dX11_ends_45 0 rfl (nI_add i 1) (lb rfl) rfl ?_
      refine A_goto (tgt := 16) dX11_ends_48 rfl ?_
      have e := ih (i + 1) (by omega) (by omega)
      rw [endN, end1A, if_pos (bz_n0.mp h27)] at e
      rw [u2_u2, nI_1]
      exact e
theorem c_ends (t x : Nat) (f : Mem) (s : Sg) (k : Ro) (ht : t < 4) (hx : x ≤ 4) (hw : wf s) (h1 : s 1 t = 0) : C0 MX11_ends [.ref 93, .int (nI t), .int (nI x)] (ur f 96 (flat s k)) (rt none (ur (u2 f 93 17 (nI (endA s t x).2)) 96 (flat (endA s t x).1 k))) := by
  refine Ct.of (lv := [(0, .ref 93), (1, .int (nI t)), (2, .int (nI x))]) (by decide) (lb rfl) rfl ?_
  refine A_aload_n dX11_ends_0 rfl 0 rfl ?_
  refine A_getR (b := 96) dX11_ends_1 fo_RX11_16 L93 rfl ?_
  refine A_iconst (v := 4) dX11_ends_4 rfl ?_
  refine A_iload_n dX11_ends_5 rfl 1 rfl ?_
  refine A_iadd dX11_ends_6 ?_
  refine A_iload_n dX11_ends_7 rfl 2 rfl ?_
  refine A_iastore (4 + t) dX11_ends_8 L96 (by simp only [lit, nI_add, pk_mul]) (by omega) (lb rfl) ?_
  refine A_eq rfl rfl (sm_u f s k x (by simp only [lit, nI_add, pk_mul]) (by omega) (f_1 t (by omega))) ?_
  refine A_aload_n dX11_ends_9 rfl 0 rfl ?_
  refine A_iconst (v := 0) dX11_ends_10 rfl ?_
  refine A_putI dX11_ends_11 fo_RX11_157 L93 rfl ?_
  refine A_eq rfl rfl (f' := ur (u2 f 93 17 0) 96 (flat (s2 s 1 t x) k)) (sm_o f (s2 s 1 t x) k (by decide)) ?_
  refine A_iconst (v := 0) dX11_ends_14 rfl ?_
  refine A_istore_n (lv' := [(3, .int 0), (0, .ref 93), (1, .int (nI t)), (2, .int (nI x))]) dX11_ends_15 rfl (lb rfl) rfl ?_
  exact l_ends t x f s k ht hx hw h1 0 (by omega)
theorem s2_selfx (s : Sg) {c k x : Nat} (h : x = s c k) : s2 s c k x = s := by rw [h, s2_self]
theorem c_enters (t m : Nat) (f : Mem) (s : Sg) (k : Ro) (ht : t < 4) (hm : m < 3) (hw : wf s) (h1 : s 1 t = 0) (h0 : f 93 16 = 0) : C0 MX11_enters [.ref 93, .int (nI t), .int (nI m)] (ur f 96 (flat s k)) (rt none (ur (u2 f 93 16 (nI (enterA s t m).2)) 96 (flat (enterA s t m).1 k))) := by
  obtain ⟨h3, h4, h34⟩ := hw.2.2.2.2 m hm
  refine Ct.of (lv := [(0, .ref 93), (1, .int (nI t)), (2, .int (nI m))]) (by decide) (lb rfl) rfl ?_
  refine A_aload_n dX11_enters_0 rfl 0 rfl ?_
  refine A_getR (b := 96) dX11_enters_1 fo_RX11_16 L93 rfl ?_
  refine A_bipush (v := 12) dX11_enters_4 rfl ?_
  refine A_iload_n dX11_enters_6 rfl 2 rfl ?_
  refine A_iadd dX11_enters_7 ?_
  refine A_iaload (12 + m) dX11_enters_8 L96 (by simp only [lit, nI_add, pk_mul]) (by omega) (lb rfl) ?_
  refine A_topi (nI (s 3 m)) (by rw [sm_r f s k (by omega) (f_3 m (by omega))] <;> simp [s2, n70, n70', n71, n71', n72, n72', n73, n73', n74, n74', n75, n75']) ?_
  refine A_if_ne (tgt := 37) dX11_enters_9 rfl (fun h9 => ?_) (fun h9 => ?_)
  · rw [show (0 : Int32) = nI 0 from rfl, nI_eq (by omega) (by omega)] at h9
    refine A_aload_n dX11_enters_37 rfl 0 rfl ?_
    refine A_iload_n dX11_enters_38 rfl 1 rfl ?_
    refine A_iload_n dX11_enters_39 rfl 2 rfl ?_
    refine A_callV (M' := MX11_isOwner) [.int (nI t), .int (nI m)] [] 93 dX11_enters_40 lk_RX11_160 oX11_isOwner iX11_isOwner rfl rfl ⟨lb rfl, lb rfl⟩ (lb rfl) ⟨lb rfl, lb rfl⟩ L93 rfl (c_isOwner t m f s k (by omega) (by omega) (h3)) ?_
    rintro _ _ ⟨rfl, rfl⟩
    refine A_if_eq (tgt := 98) dX11_enters_43 rfl (fun h43 => ?_) (fun h43 => ?_)
    · refine A_aload_n dX11_enters_98 rfl 0 rfl ?_
      refine A_getR (b := 96) dX11_enters_99 fo_RX11_16 L93 rfl ?_
      refine A_iconst (v := 4) dX11_enters_102 rfl ?_
      refine A_iload_n dX11_enters_103 rfl 1 rfl ?_
      refine A_iadd dX11_enters_104 ?_
      refine A_iconst (v := 1) dX11_enters_105 rfl ?_
      refine A_iastore (4 + t) dX11_enters_106 L96 (by simp only [lit, nI_add, pk_mul]) (by omega) (lb rfl) ?_
      refine A_eq rfl rfl (sm_u f s k 1 (by simp only [lit, nI_add, pk_mul]) (by omega) (f_1 t (by omega))) ?_
      refine A_aload_n dX11_enters_107 rfl 0 rfl ?_
      refine A_getR (b := 96) dX11_enters_108 fo_RX11_16 L93 rfl ?_
      refine A_bipush (v := 8) dX11_enters_111 rfl ?_
      refine A_iload_n dX11_enters_113 rfl 1 rfl ?_
      refine A_iadd dX11_enters_114 ?_
      refine A_iconst (v := 1) dX11_enters_115 rfl ?_
      refine A_iastore (8 + t) dX11_enters_116 L96 (by simp only [lit, nI_add, pk_mul]) (by omega) (lb rfl) ?_
      refine A_eq rfl rfl (sm_u f (s2 s 1 t 1) k 1 (by simp only [lit, nI_add, pk_mul]) (by omega) (f_2 t (by omega))) ?_
      refine A_aload_n dX11_enters_117 rfl 0 rfl ?_
      refine A_bipush (v := 18) dX11_enters_118 rfl ?_
      refine A_bipush (v := 21) dX11_enters_120 rfl ?_
      refine A_iload_n dX11_enters_122 rfl 2 rfl ?_
      refine A_iload_n dX11_enters_123 rfl 1 rfl ?_
      refine A_callV (M' := MX11_comes) [.int 18, .int 21, .int (nI m), .int (nI t)] [] 93 dX11_enters_124 lk_RX11_169 oX11_comes iX11_comes rfl rfl ⟨lb rfl, lb rfl⟩ (lb rfl) ⟨lb rfl, lb rfl⟩ L93 rfl (c_comesE m t f (s2 (s2 s 1 t 1) 2 t 1) k (by omega) (by omega) (by rw [s2_c _ (by decide), s2_c _ (by decide)]; have := row3 hw.1 hw.2.1 ht (show m < 6 by omega) (hw.nst h1); omega)) ?_
      rintro _ _ ⟨rfl, rfl⟩
      exact A_vret dX11_enters_127 rfl (⟨rfl, by rw [enterA, if_neg h9, if_neg (bz_0.mp h43)]; dsimp only; rw [show nI 0 = (0 : Int32) from rfl, u2_same f h0]⟩)
    · refine A_aload_n dX11_enters_46 rfl 0 rfl ?_
      refine A_aload_n dX11_enters_47 rfl 0 rfl ?_
      refine A_getR (b := 96) dX11_enters_48 fo_RX11_16 L93 rfl ?_
      refine A_bipush (v := 15) dX11_enters_51 rfl ?_
      refine A_iload_n dX11_enters_53 rfl 2 rfl ?_
      refine A_iadd dX11_enters_54 ?_
      refine A_iaload (15 + m) dX11_enters_55 L96 (by simp only [lit, nI_add, pk_mul]) (by omega) (lb rfl) ?_
      refine A_topi (nI (s 4 m)) (by rw [sm_r f s k (by omega) (f_4 m (by omega))] <;> simp [s2, n70, n70', n71, n71', n72, n72', n73, n73', n74, n74', n75, n75']) ?_
      refine A_iconst (v := 1) dX11_enters_56 rfl ?_
      refine A_iadd dX11_enters_57 ?_
      refine A_topi (nI (s 4 m + 1)) (nI_1 _) ?_
      refine A_bipush (v := 10) dX11_enters_58 rfl ?_
      refine A_icmp_ne (tgt := 67) dX11_enters_60 rfl (fun h60 => ?_) (fun h60 => ?_)
      · rw [show (10 : Int32) = nI 10 from rfl, nI_eq (by omega) (by omega)] at h60
        have h60 : ¬ s 4 m = 9 := by omega
        refine A_iconst (v := 0) dX11_enters_67 rfl ?_
        refine A_putI dX11_enters_68 fo_RX11_166 L93 rfl ?_
        refine A_eq rfl rfl (f' := ur (u2 f 93 16 0) 96 (flat s k)) (sm_o f s k (by decide)) ?_
        refine A_aload_n dX11_enters_71 rfl 0 rfl ?_
        refine A_getR (b := 96) dX11_enters_72 fo_RX11_16 L93 rfl ?_
        refine A_bipush (v := 15) dX11_enters_75 rfl ?_
        refine A_iload_n dX11_enters_77 rfl 2 rfl ?_
        refine A_iadd dX11_enters_78 ?_
        refine A_dup2 dX11_enters_79 rfl rfl ?_
        refine A_iaload (15 + m) dX11_enters_80 L96 (by simp only [lit, nI_add, pk_mul]) (by omega) (lb rfl) ?_
        refine A_topi (nI (s 4 m)) (by rw [sm_r (u2 f 93 16 0) s k (by omega) (f_4 m (by omega))] <;> simp [s2, n70, n70', n71, n71', n72, n72', n73, n73', n74, n74', n75, n75']) ?_
        refine A_aload_n dX11_enters_81 rfl 0 rfl ?_
        refine A_getI dX11_enters_82 fo_RX11_166 L93 rfl ?_
        refine A_topi (0) (by simp [ur, u2, upd]) ?_
        refine A_if_ne (tgt := 92) dX11_enters_85 rfl (fun h85 => by exact absurd rfl h85) (fun h85 => ?_)
        refine A_iconst (v := 1) dX11_enters_88 rfl ?_
        refine A_goto (tgt := 93) dX11_enters_89 rfl ?_
        refine A_iadd dX11_enters_93 ?_
        refine A_iastore (15 + m) dX11_enters_94 L96 (by simp only [lit, nI_add, pk_mul]) (by omega) (lb rfl) ?_
        refine A_eq rfl rfl (sm_u (u2 f 93 16 0) s k (s 4 m + 1) (by simp only [lit, nI_add, pk_mul]) (by omega) (f_4 m (by omega))) ?_
        refine A_goto (tgt := 127) dX11_enters_95 rfl ?_
        exact A_vret dX11_enters_127 rfl (⟨rfl, by rw [enterA, if_neg h9, if_pos (bz_n0.mp h43), if_neg h60]; rfl⟩)
      · rw [show (10 : Int32) = nI 10 from rfl, nI_eq (by omega) (by omega)] at h60
        have h60 : s 4 m = 9 := by omega
        refine A_iconst (v := 3) dX11_enters_63 rfl ?_
        refine A_goto (tgt := 68) dX11_enters_64 rfl ?_
        refine A_putI dX11_enters_68 fo_RX11_166 L93 rfl ?_
        refine A_eq rfl rfl (f' := ur (u2 f 93 16 3) 96 (flat s k)) (sm_o f s k (by decide)) ?_
        refine A_aload_n dX11_enters_71 rfl 0 rfl ?_
        refine A_getR (b := 96) dX11_enters_72 fo_RX11_16 L93 rfl ?_
        refine A_bipush (v := 15) dX11_enters_75 rfl ?_
        refine A_iload_n dX11_enters_77 rfl 2 rfl ?_
        refine A_iadd dX11_enters_78 ?_
        refine A_dup2 dX11_enters_79 rfl rfl ?_
        refine A_iaload (15 + m) dX11_enters_80 L96 (by simp only [lit, nI_add, pk_mul]) (by omega) (lb rfl) ?_
        refine A_topi (nI (s 4 m)) (by rw [sm_r (u2 f 93 16 3) s k (by omega) (f_4 m (by omega))] <;> simp [s2, n70, n70', n71, n71', n72, n72', n73, n73', n74, n74', n75, n75']) ?_
        refine A_aload_n dX11_enters_81 rfl 0 rfl ?_
        refine A_getI dX11_enters_82 fo_RX11_166 L93 rfl ?_
        refine A_topi (3) (by simp [ur, u2, upd]) ?_
        refine A_if_ne (tgt := 92) dX11_enters_85 rfl (fun h85 => ?_) (fun h85 => by exact absurd h85 (by decide))
        refine A_iconst (v := 0) dX11_enters_92 rfl ?_
        refine A_iadd dX11_enters_93 ?_
        refine A_iastore (15 + m) dX11_enters_94 L96 (by simp only [lit, nI_add, pk_mul]) (by omega) (lb rfl) ?_
        refine A_eq rfl rfl (sm_u (u2 f 93 16 3) s k (s 4 m + 0) (by simp only [lit, nI_add, pk_mul]) (by omega) (f_4 m (by omega))) ?_
        refine A_goto (tgt := 127) dX11_enters_95 rfl ?_
        exact A_vret dX11_enters_127 rfl (⟨rfl, by rw [enterA, if_neg h9, if_pos (bz_n0.mp h43), if_pos h60]; dsimp only; rw [s2_selfx s (by omega)]; rfl⟩)
  · rw [show (0 : Int32) = nI 0 from rfl, nI_eq (by omega) (by omega)] at h9
    refine A_aload_n dX11_enters_12 rfl 0 rfl ?_
    refine A_getR (b := 96) dX11_enters_13 fo_RX11_16 L93 rfl ?_
    refine A_bipush (v := 12) dX11_enters_16 rfl ?_
    refine A_iload_n dX11_enters_18 rfl 2 rfl ?_
    refine A_iadd dX11_enters_19 ?_
    refine A_iload_n dX11_enters_20 rfl 1 rfl ?_
    refine A_iconst (v := 1) dX11_enters_21 rfl ?_
    refine A_iadd dX11_enters_22 ?_
    refine A_iastore (12 + m) dX11_enters_23 L96 (by simp only [lit, nI_add, pk_mul]) (by omega) (lb rfl) ?_
    refine A_eq rfl rfl (sm_u f s k (t + 1) (by simp only [lit, nI_add, pk_mul]) (by omega) (f_3 m (by omega))) ?_
    refine A_aload_n dX11_enters_24 rfl 0 rfl ?_
    refine A_getR (b := 96) dX11_enters_25 fo_RX11_16 L93 rfl ?_
    refine A_bipush (v := 15) dX11_enters_28 rfl ?_
    refine A_iload_n dX11_enters_30 rfl 2 rfl ?_
    refine A_iadd dX11_enters_31 ?_
    refine A_iconst (v := 1) dX11_enters_32 rfl ?_
    refine A_iastore (15 + m) dX11_enters_33 L96 (by simp only [lit, nI_add, pk_mul]) (by omega) (lb rfl) ?_
    refine A_eq rfl rfl (sm_u f (s2 s 3 m (t + 1)) k 1 (by simp only [lit, nI_add, pk_mul]) (by omega) (f_4 m (by omega))) ?_
    refine A_goto (tgt := 127) dX11_enters_34 rfl ?_
    exact A_vret dX11_enters_127 rfl (⟨rfl, by rw [enterA, if_pos h9]; dsimp only; rw [show nI 0 = (0 : Int32) from rfl, u2_same f h0]⟩)
