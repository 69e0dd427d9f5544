theorem u2_same (f : Mem) {a j : Nat} {x : Int32} (h : f a j = x) : u2 f a j x = f := by
  funext b q
  simp only [u2, ur]
  by_cases hb : b = a
  · subst hb; simp only [if_true, upd]; split
    · rename_i e; rw [e, h]
    · rfl
  · simp [hb]
theorem u2_u2 (f : Mem) (a j : Nat) (x y : Int32) : u2 (u2 f a j x) a j y = u2 f a j y := by
  funext b q
  simp only [u2, ur]
  by_cases hb : b = a
  · subst hb; simp only [if_true, upd]; split <;> rfl
  · simp [hb]
theorem u2_cm (f : Mem) {a b : Nat} (i j : Nat) (x y : Int32) (h : a ≠ b) : u2 (u2 f a i x) b j y = u2 (u2 f b j y) a i x := by
  unfold u2
  rw [ur_n _ _ (Ne.symm h), ur_n _ _ h, ur_cm _ _ _ h]
theorem u2_ck (f : Mem) (a : Nat) {i j : Nat} (x y : Int32) (h : i ≠ j) : u2 (u2 f a i x) a j y = u2 (u2 f a j y) a i x := by
  funext b q
  simp only [u2, ur]
  by_cases hb : b = a
  · subst hb; simp only [if_true, upd]
    by_cases h1 : q = j
    · subst h1; simp [Ne.symm h]
    · by_cases h2 : q = i
      · subst h2; simp [h]
      · simp [h1, h2]
  · simp [hb]
theorem c_frees (m : Nat) (f : Mem) (s : Sg) (k : Ro) (hm : m < 3) (hw : wf4 s) : C0 MX11_frees [.ref 93, .int (nI m)] (ur f 96 (flat s k)) (rt none (ur f 96 (flat (freeA s m) k))) := by
  have hl4 := (hw.1 m (by omega)).1
  refine Ct.of (lv := [(0, .ref 93), (1, .int (nI m))]) (by decide) (lb rfl) rfl ?_
  refine A_aload_n dX11_frees_0 rfl 0 rfl ?_
  refine A_getR (b := 96) dX11_frees_1 fo_RX11_16 L93 rfl ?_
  refine A_bipush (v := 12) dX11_frees_4 rfl ?_
  refine A_iload_n dX11_frees_6 rfl 1 rfl ?_
  refine A_iadd dX11_frees_7 ?_
  refine A_iconst (v := 0) dX11_frees_8 rfl ?_
  refine A_iastore (12 + m) dX11_frees_9 L96 (by simp only [lit, nI_add, pk_mul]) (by omega) (lb rfl) ?_
  refine A_eq rfl rfl (sm_u f s k 0 (by simp only [lit, nI_add, pk_mul]) (by omega) (f_3 m (by omega))) ?_
  refine A_aload_n dX11_frees_10 rfl 0 rfl ?_
  refine A_getR (b := 96) dX11_frees_11 fo_RX11_16 L93 rfl ?_
  refine A_bipush (v := 15) dX11_frees_14 rfl ?_
  refine A_iload_n dX11_frees_16 rfl 1 rfl ?_
  refine A_iadd dX11_frees_17 ?_
  refine A_iconst (v := 0) dX11_frees_18 rfl ?_
  refine A_iastore (15 + m) dX11_frees_19 L96 (by simp only [lit, nI_add, pk_mul]) (by omega) (lb rfl) ?_
  refine A_eq rfl rfl (sm_u f (s2 s 3 m 0) k 0 (by simp only [lit, nI_add, pk_mul]) (by omega) (f_4 m (by omega))) ?_
  refine A_aload_n dX11_frees_20 rfl 0 rfl ?_
  refine A_getR (b := 96) dX11_frees_21 fo_RX11_16 L93 rfl ?_
  refine A_bipush (v := 18) dX11_frees_24 rfl ?_
  refine A_iload_n dX11_frees_26 rfl 1 rfl ?_
  refine A_iadd dX11_frees_27 ?_
  refine A_iaload (18 + m) dX11_frees_28 L96 (by simp only [lit, nI_add, pk_mul]) (by omega) (lb rfl) ?_
  refine A_topi (nI (s 5 m)) (by rw [sm_r f (s2 (s2 s 3 m 0) 4 m 0) k (by omega) (f_5 m (by omega))] <;> simp [s2, n70, n70', n71, n71', n72, n72', n73, n73', n74, n74', n75, n75']) ?_
  refine A_if_le (tgt := 91) dX11_frees_29 rfl (fun h29 => ?_) (fun h29 => ?_)
  · have h5 : s 5 m = 0 := by
      rcases Nat.eq_zero_or_pos (s 5 m) with q | q
      · exact q
      · exact absurd h29 (nI_nle q (by omega))
    exact A_vret dX11_frees_91 rfl (⟨rfl, by rw [freeA, if_pos h5]⟩)
  · have h5 : ¬ s 5 m = 0 := fun q => h29 (by rw [q]; exact (by decide : (nI 0) ≤ 0))
    obtain ⟨a1, a2, a3, a4, a5, a6⟩ := hw.first (r := m) (by omega) h5
    refine A_aload_n dX11_frees_32 rfl 0 rfl ?_
    refine A_bipush (v := 18) dX11_frees_33 rfl ?_
    refine A_bipush (v := 21) dX11_frees_35 rfl ?_
    refine A_iload_n dX11_frees_37 rfl 1 rfl ?_
    refine A_callV (M' := MX11_leaves) [.int 18, .int 21, .int (nI m)] [] 93 dX11_frees_38 lk_RX11_154 oX11_leaves iX11_leaves rfl rfl ⟨lb rfl, lb rfl⟩ (lb rfl) ⟨lb rfl, lb rfl⟩ L93 rfl (c_leavesE m f (s2 (s2 s 3 m 0) 4 m 0) k (by omega) (by rw [s2_c _ (by decide), s2_c _ (by decide)]; omega) (by rw [s2_c _ (by decide), s2_c _ (by decide)]; exact (hw.1 m (by omega)).1) (by rw [s2_c _ (by omega), s2_c _ (by omega)]; exact a1)) ?_
    rintro _ _ ⟨rfl, rfl⟩
    refine A_topi (nI (s (7 + m) 0 - 1)) (by simp [s2, n70, n70', n71, n71', n72, n72', n73, n73', n74, n74', n75, n75']) ?_
    refine A_istore_n (lv' := [(2, .int (nI (s (7 + m) 0 - 1))), (0, .ref 93), (1, .int (nI m))]) dX11_frees_41 rfl (lb rfl) rfl ?_
    refine A_aload_n dX11_frees_42 rfl 1 rfl ?_
    refine A_getR (b := 96) dX11_frees_43 fo_RX11_16 L93 rfl ?_
    refine A_bipush (v := 12) dX11_frees_46 rfl ?_
    refine A_iload_n dX11_frees_48 rfl 2 rfl ?_
    refine A_iadd dX11_frees_49 ?_
    refine A_iload_n dX11_frees_50 rfl 0 rfl ?_
    refine A_iconst (v := 1) dX11_frees_51 rfl ?_
    refine A_iadd dX11_frees_52 ?_
    refine A_iastore (12 + m) dX11_frees_53 L96 (by simp only [lit, nI_add, pk_mul]) (by omega) (lb rfl) ?_
    refine A_eq rfl rfl (sm_u f (leavesA (s2 (s2 s 3 m 0) 4 m 0) m) k (s (7 + m) 0) (by simp only [lit, nI_add]; congr 1; omega) (by omega) (f_3 m (by omega))) ?_
    refine A_aload_n dX11_frees_54 rfl 1 rfl ?_
    refine A_getR (b := 96) dX11_frees_55 fo_RX11_16 L93 rfl ?_
    refine A_bipush (v := 15) dX11_frees_58 rfl ?_
    refine A_iload_n dX11_frees_60 rfl 2 rfl ?_
    refine A_iadd dX11_frees_61 ?_
    refine A_aload_n dX11_frees_62 rfl 1 rfl ?_
    refine A_getR (b := 96) dX11_frees_63 fo_RX11_16 L93 rfl ?_
    refine A_bipush (v := 8) dX11_frees_66 rfl ?_
    refine A_iload_n dX11_frees_68 rfl 0 rfl ?_
    refine A_iadd dX11_frees_69 ?_
    refine A_iaload (8 + (s (7 + m) 0 - 1)) dX11_frees_70 L96 (by simp only [lit, nI_add, pk_mul]) (by omega) (lb rfl) ?_
    refine A_topi (nI (s 2 (s (7 + m) 0 - 1))) (by rw [sm_r f (s2 (leavesA (s2 (s2 s 3 m 0) 4 m 0) m) 3 m (s (7 + m) 0)) k (by omega) (f_2 _ (by omega)), s2_c _ (by decide), leaves_c _ _ _ (by omega), s2_c _ (by decide), s2_c _ (by decide)]) ?_
    refine A_iastore (15 + m) dX11_frees_71 L96 (by simp only [lit, nI_add, pk_mul]) (by omega) (lb rfl) ?_
    refine A_eq rfl rfl (sm_u f (s2 (leavesA (s2 (s2 s 3 m 0) 4 m 0) m) 3 m (s (7 + m) 0)) k (s 2 (s (7 + m) 0 - 1)) (by simp only [lit, nI_add, pk_mul]) (by omega) (f_4 m (by omega))) ?_
    refine A_aload_n dX11_frees_72 rfl 1 rfl ?_
    refine A_getR (b := 96) dX11_frees_73 fo_RX11_16 L93 rfl ?_
    refine A_bipush (v := 8) dX11_frees_76 rfl ?_
    refine A_iload_n dX11_frees_78 rfl 0 rfl ?_
    refine A_iadd dX11_frees_79 ?_
    refine A_iconst (v := 0) dX11_frees_80 rfl ?_
    refine A_iastore (8 + (s (7 + m) 0 - 1)) dX11_frees_81 L96 (by simp only [lit, nI_add, pk_mul]) (by omega) (lb rfl) ?_
    refine A_eq rfl rfl (sm_u f (s2 (s2 (leavesA (s2 (s2 s 3 m 0) 4 m 0) m) 3 m (s (7 + m) 0)) 4 m (s 2 (s (7 + m) 0 - 1))) k 0 (by simp only [lit, nI_add, pk_mul]) (by omega) (f_2 (s (7 + m) 0 - 1) (by omega))) ?_
    refine A_aload_n dX11_frees_82 rfl 1 rfl ?_
    refine A_getR (b := 96) dX11_frees_83 fo_RX11_16 L93 rfl ?_
    refine A_iconst (v := 4) dX11_frees_86 rfl ?_
    refine A_iload_n dX11_frees_87 rfl 0 rfl ?_
    refine A_iadd dX11_frees_88 ?_
    refine A_iconst (v := 0) dX11_frees_89 rfl ?_
    refine A_iastore (4 + (s (7 + m) 0 - 1)) dX11_frees_90 L96 (by simp only [lit, nI_add, pk_mul]) (by omega) (lb rfl) ?_
    refine A_eq rfl rfl (sm_u f (s2 (s2 (s2 (leavesA (s2 (s2 s 3 m 0) 4 m 0) m) 3 m (s (7 + m) 0)) 4 m (s 2 (s (7 + m) 0 - 1))) 2 (s (7 + m) 0 - 1) 0) k 0 (by simp only [lit, nI_add, pk_mul]) (by omega) (f_1 (s (7 + m) 0 - 1) (by omega))) ?_
    exact A_vret dX11_frees_91 rfl (⟨rfl, by rw [freeA, if_neg h5]⟩)
