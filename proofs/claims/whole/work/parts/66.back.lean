/-! back: the reference; refusals of run -/
theorem c_back2 (f : Mem) (im : Nat) (s : Sg) (k p : Ro) (hI : RI f im s k p) (h1 : im = 1) : C0 MX11_back [.ref 93] f (fun r h => r = some (.int (nI (s 13 0))) ∧ RC h s k p z0 z0 ∧ ∀ b, b ≠ 94 → b ≠ 97 → b ≠ 98 → h b = f b) := by
  refine Ct.of (lv := [(0, .ref 93)]) (by decide) (lb rfl) rfl ?_
  refine A_aload_n dX11_back_0 rfl 0 rfl ?_
  refine A_getI dX11_back_1 fo_RX11_289 L93 rfl ?_
  refine A_topi (nI im) hI.1 ?_
  refine A_if_ne (tgt := 10) dX11_back_4 rfl (fun h4 => ?_) (fun h4 => by exact absurd (by rw [h1] at h4; exact h4) (by decide))
  refine A_aload_n dX11_back_10 rfl 0 rfl ?_
  refine A_getR (b := 95) dX11_back_11 fo_RX11_13 L93 rfl ?_
  refine A_iconst (v := 0) dX11_back_14 rfl ?_
  refine A_aload_n dX11_back_15 rfl 0 rfl ?_
  refine A_getR (b := 94) dX11_back_16 fo_RX11_9 L93 rfl ?_
  refine A_iconst (v := 0) dX11_back_19 rfl ?_
  refine A_sipush (v := 253) dX11_back_20 rfl ?_
  refine A_callS (M' := MX11_copies) [.ref 95, .int 0, .ref 94, .int 0, .int 253] [] dX11_back_23 lk_RX11_146 oX11_copies sX11_copies rfl rfl ⟨lb rfl, lb rfl⟩ (lb rfl) ⟨lb rfl, lb rfl⟩ (c_copies 0 0 253 f rfl rfl (by decide) (by decide) (by decide) (by decide) (by decide)) ?_
  rintro _ F ⟨rfl, hF⟩
  have h94 : ∀ j, j < 253 → F 94 j = f 95 j := fun j hj => by rw [hF, gt_cpy, ur_s, cpy_R, cpR, if_pos hj]
  have hO : ∀ b, b ≠ 94 → F b = f b := fun b hb => by rw [hF, gt_cpy, ur_n _ _ hb]
  refine A_iconst (v := 0) dX11_back_26 rfl ?_
  refine A_istore_n (lv' := [(1, .int 0), (0, .ref 93)]) dX11_back_27 rfl (lb rfl) rfl ?_
  refine A_iload_n dX11_back_28 rfl 0 rfl ?_
  refine A_iconst (v := 4) dX11_back_29 rfl ?_
  refine A_icmp_ge (tgt := 53) dX11_back_30 rfl (fun h30 => absurd h30 (by decide)) (fun h30 => ?_)
  refine A_aload_n dX11_back_33 rfl 1 rfl ?_
  refine A_getR (b := 97) dX11_back_34 fo_RX11_19 L93 rfl ?_
  refine A_iload_n dX11_back_37 rfl 0 rfl ?_
  refine A_iconst (v := 0) dX11_back_38 rfl ?_
  refine A_iastore 0 dX11_back_39 L97 (rfl) (by decide) (lb rfl) ?_
  refine A_aload_n dX11_back_40 rfl 1 rfl ?_
  refine A_getR (b := 98) dX11_back_41 fo_RX11_22 L93 rfl ?_
  refine A_iload_n dX11_back_44 rfl 0 rfl ?_
  refine A_iconst (v := 0) dX11_back_45 rfl ?_
  refine A_iastore 0 dX11_back_46 L98 (rfl) (by decide) (lb rfl) ?_
  refine A_iinc (lv' := [(1, .int 1), (0, .ref 93)]) dX11_back_47 0 rfl rfl (lb rfl) rfl ?_
  refine A_goto (tgt := 28) dX11_back_50 rfl ?_
  refine A_iload_n dX11_back_28 rfl 0 rfl ?_
  refine A_iconst (v := 4) dX11_back_29 rfl ?_
  refine A_icmp_ge (tgt := 53) dX11_back_30 rfl (fun h30 => absurd h30 (by decide)) (fun h30 => ?_)
  refine A_aload_n dX11_back_33 rfl 1 rfl ?_
  refine A_getR (b := 97) dX11_back_34 fo_RX11_19 L93 rfl ?_
  refine A_iload_n dX11_back_37 rfl 0 rfl ?_
  refine A_iconst (v := 0) dX11_back_38 rfl ?_
  refine A_iastore 1 dX11_back_39 L97 (rfl) (by decide) (lb rfl) ?_
  refine A_aload_n dX11_back_40 rfl 1 rfl ?_
  refine A_getR (b := 98) dX11_back_41 fo_RX11_22 L93 rfl ?_
  refine A_iload_n dX11_back_44 rfl 0 rfl ?_
  refine A_iconst (v := 0) dX11_back_45 rfl ?_
  refine A_iastore 1 dX11_back_46 L98 (rfl) (by decide) (lb rfl) ?_
  refine A_iinc (lv' := [(1, .int 2), (0, .ref 93)]) dX11_back_47 0 rfl rfl (lb rfl) rfl ?_
  refine A_goto (tgt := 28) dX11_back_50 rfl ?_
  refine A_iload_n dX11_back_28 rfl 0 rfl ?_
  refine A_iconst (v := 4) dX11_back_29 rfl ?_
  refine A_icmp_ge (tgt := 53) dX11_back_30 rfl (fun h30 => absurd h30 (by decide)) (fun h30 => ?_)
  refine A_aload_n dX11_back_33 rfl 1 rfl ?_
  refine A_getR (b := 97) dX11_back_34 fo_RX11_19 L93 rfl ?_
  refine A_iload_n dX11_back_37 rfl 0 rfl ?_
  refine A_iconst (v := 0) dX11_back_38 rfl ?_
  refine A_iastore 2 dX11_back_39 L97 (rfl) (by decide) (lb rfl) ?_
  refine A_aload_n dX11_back_40 rfl 1 rfl ?_
  refine A_getR (b := 98) dX11_back_41 fo_RX11_22 L93 rfl ?_
  refine A_iload_n dX11_back_44 rfl 0 rfl ?_
  refine A_iconst (v := 0) dX11_back_45 rfl ?_
  refine A_iastore 2 dX11_back_46 L98 (rfl) (by decide) (lb rfl) ?_
  refine A_iinc (lv' := [(1, .int 3), (0, .ref 93)]) dX11_back_47 0 rfl rfl (lb rfl) rfl ?_
  refine A_goto (tgt := 28) dX11_back_50 rfl ?_
  refine A_iload_n dX11_back_28 rfl 0 rfl ?_
  refine A_iconst (v := 4) dX11_back_29 rfl ?_
  refine A_icmp_ge (tgt := 53) dX11_back_30 rfl (fun h30 => absurd h30 (by decide)) (fun h30 => ?_)
  refine A_aload_n dX11_back_33 rfl 1 rfl ?_
  refine A_getR (b := 97) dX11_back_34 fo_RX11_19 L93 rfl ?_
  refine A_iload_n dX11_back_37 rfl 0 rfl ?_
  refine A_iconst (v := 0) dX11_back_38 rfl ?_
  refine A_iastore 3 dX11_back_39 L97 (rfl) (by decide) (lb rfl) ?_
  refine A_aload_n dX11_back_40 rfl 1 rfl ?_
  refine A_getR (b := 98) dX11_back_41 fo_RX11_22 L93 rfl ?_
  refine A_iload_n dX11_back_44 rfl 0 rfl ?_
  refine A_iconst (v := 0) dX11_back_45 rfl ?_
  refine A_iastore 3 dX11_back_46 L98 (rfl) (by decide) (lb rfl) ?_
  refine A_iinc (lv' := [(1, .int 4), (0, .ref 93)]) dX11_back_47 0 rfl rfl (lb rfl) rfl ?_
  refine A_goto (tgt := 28) dX11_back_50 rfl ?_
  refine A_iload_n dX11_back_28 rfl 0 rfl ?_
  refine A_iconst (v := 4) dX11_back_29 rfl ?_
  refine A_icmp_ge (tgt := 53) dX11_back_30 rfl (fun h30 => ?_) (fun h30 => absurd (by decide) h30)
  refine A_aload_n dX11_back_53 rfl 1 rfl ?_
  refine A_getR (b := 94) dX11_back_54 fo_RX11_9 L93 rfl ?_
  refine A_bipush (v := 52) dX11_back_57 rfl ?_
  refine A_iaload 52 dX11_back_59 L94 (rfl) (by decide) (lb rfl) ?_
  refine A_topi (nI (s 13 0)) (by simp only [u2_n _ _ _ (show (94 : Nat) ≠ 97 by decide), u2_n _ _ _ (show (94 : Nat) ≠ 98 by decide)]; exact (h94 52 (by decide)).trans (hI.2 h1 52 (by decide))) ?_
  exact A_iret dX11_back_60 rfl (⟨rfl, ⟨fun j hj => by simp only [u2_n _ _ _ (show (94 : Nat) ≠ 97 by decide), u2_n _ _ _ (show (94 : Nat) ≠ 98 by decide)]; exact (h94 j hj).trans (hI.2 h1 j hj), fun t ht => ⟨fun _ => by (match t, ht with | 0, _ => simp [u2, ur, upd] | 1, _ => simp [u2, ur, upd] | 2, _ => simp [u2, ur, upd] | 3, _ => simp [u2, ur, upd]), fun _ => by (match t, ht with | 0, _ => simp [u2, ur, upd] | 1, _ => simp [u2, ur, upd] | 2, _ => simp [u2, ur, upd] | 3, _ => simp [u2, ur, upd])⟩⟩, fun b b1 b2 b3 => by rw [u2_n _ _ _ b3, u2_n _ _ _ b2, u2_n _ _ _ b3, u2_n _ _ _ b2, u2_n _ _ _ b3, u2_n _ _ _ b2, u2_n _ _ _ b3, u2_n _ _ _ b2, hO b b1]⟩)
theorem in3_t {x : Int32} (a : ¬ x < 0) (b : x ≤ 2) : inR x 3 := by
  refine ⟨x_nn a, ?_⟩
  rw [Int32.le_iff_toInt_le] at b
  have e : (2 : Int32).toInt = 2 := by decide
  omega
theorem in41_t {x : Int32} (a : ¬ x < 0) (b : x ≤ 40) : inR x 41 := by
  refine ⟨x_nn a, ?_⟩
  rw [Int32.le_iff_toInt_le] at b
  have e : (40 : Int32).toInt = 40 := by decide
  omega
theorem in_3 (x : Int32) : (Int64.toInt 0 ≤ x.toInt64.toInt ∧ x.toInt64.toInt ≤ Int64.toInt 2) ↔ inR x 3 := by
  rw [Int32.toInt_toInt64, show Int64.toInt 0 = 0 by decide, show Int64.toInt 2 = 2 by decide]
  unfold inR
  omega
theorem in_41 (x : Int32) : (Int64.toInt 0 ≤ x.toInt64.toInt ∧ x.toInt64.toInt ≤ Int64.toInt 40) ↔ inR x 41 := by
  rw [Int32.toInt_toInt64, show Int64.toInt 0 = 0 by decide, show Int64.toInt 40 = 40 by decide]
  unfold inR
  omega
theorem x_run1 (x y : Int32) (f : Mem) (hx : ¬ inR x 3) : C0 MX10_run [.ref 0, .int x, .int y] f (rt (some (.int (-1))) f) := by
  refine Ct.of (lv := [(0, .ref 0), (1, .int x), (2, .int y)]) (by decide) (lb rfl) rfl ?_
  refine A_iload_n dX10_run_0 rfl 1 rfl ?_
  refine A_if_lt (tgt := 9) dX10_run_1 rfl (fun h1 => ?_) (fun h1 => ?_)
  · refine A_iconst (v := -1) dX10_run_9 rfl ?_
    exact A_iret dX10_run_10 rfl (⟨rfl, rfl⟩)
  · refine A_iload_n dX10_run_4 rfl 1 rfl ?_
    refine A_iconst (v := 2) dX10_run_5 rfl ?_
    refine A_icmp_le (tgt := 11) dX10_run_6 rfl (fun h6 => ?_) (fun h6 => ?_)
    · exact absurd (in3_t h1 h6) hx
    · refine A_iconst (v := -1) dX10_run_9 rfl ?_
      exact A_iret dX10_run_10 rfl (⟨rfl, rfl⟩)
theorem x_run2 (j : Nat) (y : Int32) (f : Mem) (hj : j < 3) (hy : ¬ inR y 41) : C0 MX10_run [.ref 0, .int (nI j), .int y] f (rt (some (.int (-2))) f) := by
  refine Ct.of (lv := [(0, .ref 0), (1, .int (nI j)), (2, .int y)]) (by decide) (lb rfl) rfl ?_
  refine A_iload_n dX10_run_0 rfl 1 rfl ?_
  refine A_if_lt (tgt := 9) dX10_run_1 rfl (fun h1 => by exact absurd h1 (nI_nneg (by omega))) (fun h1 => ?_)
  refine A_iload_n dX10_run_4 rfl 1 rfl ?_
  refine A_iconst (v := 2) dX10_run_5 rfl ?_
  refine A_icmp_le (tgt := 11) dX10_run_6 rfl (fun h6 => ?_) (fun h6 => by exact absurd ((nI_leI (by omega) (by omega)).mpr (show j ≤ 2 by omega)) h6)
  refine A_iload_n dX10_run_11 rfl 2 rfl ?_
  refine A_if_lt (tgt := 21) dX10_run_12 rfl (fun h12 => ?_) (fun h12 => ?_)
  · refine A_bipush (v := -2) dX10_run_21 rfl ?_
    exact A_iret dX10_run_23 rfl (⟨rfl, rfl⟩)
  · refine A_iload_n dX10_run_15 rfl 2 rfl ?_
    refine A_bipush (v := 40) dX10_run_16 rfl ?_
    refine A_icmp_le (tgt := 24) dX10_run_18 rfl (fun h18 => ?_) (fun h18 => ?_)
    · exact absurd (in41_t h12 h18) hy
    · refine A_bipush (v := -2) dX10_run_21 rfl ?_
      exact A_iret dX10_run_23 rfl (⟨rfl, rfl⟩)
theorem c_run1 (x y : Int32) (f : Mem) (hx : ¬ inR x 3) : C0 MX11_run [.ref 93, .int x, .int y] f (rt (some (.int (-1))) f) := by
  refine Ct.of (lv := [(0, .ref 93), (1, .int x), (2, .int y)]) (by decide) (lb rfl) rfl ?_
  refine A_iload_n dX11_run_0 rfl 1 rfl ?_
  refine A_i2l dX11_run_1 ?_
  refine A_lconst (v := 0) dX11_run_2 rfl ?_
  refine A_ldc2 dX11_run_3 k_RX11_68 ?_
  refine A_callS (M' := MX11_in) [.long x.toInt64, .long 0, .long 2] [] dX11_run_6 lk_RX11_64 oX11_in sX11_in rfl rfl ⟨lb rfl, lb rfl⟩ (lb rfl) ⟨lb rfl, lb rfl⟩ (c_in _ _ _ _) ?_
  rintro _ g0 ⟨rfl, hg0⟩
  rw [hg0]
  refine A_topi (bz (inR x 3)) (bz_c (in_3 _)) ?_
  refine A_if_ne (tgt := 14) dX11_run_9 rfl (fun h9 => by exact absurd (bz_n0.mp h9) hx) (fun h9 => ?_)
  refine A_iconst (v := -1) dX11_run_12 rfl ?_
  exact A_iret dX11_run_13 rfl (⟨rfl, rfl⟩)
theorem c_run2 (j : Nat) (y : Int32) (f : Mem) (hj : j < 3) (hy : ¬ inR y 41) : C0 MX11_run [.ref 93, .int (nI j), .int y] f (rt (some (.int (-2))) f) := by
  refine Ct.of (lv := [(0, .ref 93), (1, .int (nI j)), (2, .int y)]) (by decide) (lb rfl) rfl ?_
  refine A_iload_n dX11_run_0 rfl 1 rfl ?_
  refine A_i2l dX11_run_1 ?_
  refine A_lconst (v := 0) dX11_run_2 rfl ?_
  refine A_ldc2 dX11_run_3 k_RX11_68 ?_
  refine A_callS (M' := MX11_in) [.long ((nI j).toInt64), .long 0, .long 2] [] dX11_run_6 lk_RX11_64 oX11_in sX11_in rfl rfl ⟨lb rfl, lb rfl⟩ (lb rfl) ⟨lb rfl, lb rfl⟩ (c_in _ _ _ _) ?_
  rintro _ g0 ⟨rfl, hg0⟩
  rw [hg0]
  refine A_topi (bz (inR (nI j) 3)) (bz_c (in_3 _)) ?_
  refine A_if_ne (tgt := 14) dX11_run_9 rfl (fun h9 => ?_) (fun h9 => by exact absurd ((inR_nI (by omega)).mpr hj) (bz_0.mp h9))
  refine A_iload_n dX11_run_14 rfl 2 rfl ?_
  refine A_i2l dX11_run_15 ?_
  refine A_lconst (v := 0) dX11_run_16 rfl ?_
  refine A_ldc2 dX11_run_17 k_RX11_197 ?_
  refine A_callS (M' := MX11_in) [.long y.toInt64, .long 0, .long 40] [] dX11_run_20 lk_RX11_64 oX11_in sX11_in rfl rfl ⟨lb rfl, lb rfl⟩ (lb rfl) ⟨lb rfl, lb rfl⟩ (c_in _ _ _ _) ?_
  rintro _ g0 ⟨rfl, hg0⟩
  rw [hg0]
  refine A_topi (bz (inR y 41)) (bz_c (in_41 _)) ?_
  refine A_if_ne (tgt := 29) dX11_run_23 rfl (fun h23 => by exact absurd (bz_n0.mp h23) hy) (fun h23 => ?_)
  refine A_bipush (v := -2) dX11_run_26 rfl ?_
  exact A_iret dX11_run_28 rfl (⟨rfl, rfl⟩)
