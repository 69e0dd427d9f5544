/-! condition: both sides -/
theorem in_4 (x : Int32) : (Int64.toInt 0 ≤ x.toInt64.toInt ∧ x.toInt64.toInt ≤ Int64.toInt 3) ↔ inR x 4 := by
  rw [Int32.toInt_toInt64, show Int64.toInt 0 = 0 by decide, show Int64.toInt 3 = 3 by decide]
  unfold inR
  omega
theorem in4_t {x : Int32} (a : ¬ x < 0) (b : x < 4) : inR x 4 := by
  refine ⟨x_nn a, ?_⟩
  rw [Int32.lt_iff_toInt_lt] at b
  have e : (4 : Int32).toInt = 4 := by decide
  omega
theorem x_cond1 (y v : Int32) (f : Mem) : C0 MX10_condition [.ref 0, .int (-1), .int y, .int v] f (rt (some (.int 0)) (u2 (u2 f 55 0 0) 51 0 0)) := by
  refine Ct.of (lv := [(0, .ref 0), (1, .int (-1)), (2, .int y), (3, .int v)]) (by decide) (lb rfl) rfl ?_
  refine A_iload_n dX10_condition_0 rfl 1 rfl ?_
  refine A_iconst (v := -1) dX10_condition_1 rfl ?_
  refine A_icmp_ne (tgt := 22) dX10_condition_2 rfl (fun h2 => by exact absurd rfl h2) (fun h2 => ?_)
  refine A_aload_n dX10_condition_5 rfl 0 rfl ?_
  refine A_getR (b := 55) dX10_condition_6 fo_RX10_52 L0 rfl ?_
  refine A_callV (M' := MX6_forget) [] [] 55 dX10_condition_9 lk_RX10_67 oX6_forget iX6_forget rfl rfl ⟨lb rfl, lb rfl⟩ (lb rfl) ⟨lb rfl, lb rfl⟩ L55 rfl (x_forget _) ?_
  rintro _ _ ⟨rfl, rfl⟩
  refine A_aload_n dX10_condition_12 rfl 0 rfl ?_
  refine A_getR (b := 51) dX10_condition_13 fo_RX10_45 L0 rfl ?_
  refine A_iconst (v := 0) dX10_condition_16 rfl ?_
  refine A_putI dX10_condition_17 fo_RX10_201 L51 rfl ?_
  refine A_iconst (v := 0) dX10_condition_20 rfl ?_
  exact A_iret dX10_condition_21 rfl (⟨rfl, rfl⟩)
theorem x_cond2 (x y v : Int32) (f : Mem) (h1 : ¬ x = -1) (hx : ¬ (inR x 4 ∧ inR y 4)) : C0 MX10_condition [.ref 0, .int x, .int y, .int v] f (rt (some (.int (-1))) f) := by
  refine Ct.of (lv := [(0, .ref 0), (1, .int x), (2, .int y), (3, .int v)]) (by decide) (lb rfl) rfl ?_
  refine A_iload_n dX10_condition_0 rfl 1 rfl ?_
  refine A_iconst (v := -1) dX10_condition_1 rfl ?_
  refine A_icmp_ne (tgt := 22) dX10_condition_2 rfl (fun h2 => ?_) (fun h2 => by exact absurd h2 h1)
  refine A_iload_n dX10_condition_22 rfl 1 rfl ?_
  refine A_callS (M' := MX10_isCell) [.int x] [] dX10_condition_23 lk_RX10_92 oX10_isCell sX10_isCell rfl rfl ⟨lb rfl, lb rfl⟩ (lb rfl) ⟨lb rfl, lb rfl⟩ (x_isCell x _) ?_
  rintro _ g0 ⟨rfl, hg0⟩
  rw [hg0]
  refine A_if_eq (tgt := 38) dX10_condition_26 rfl (fun h26 => ?_) (fun h26 => ?_)
  · refine A_iconst (v := -1) dX10_condition_38 rfl ?_
    exact A_iret dX10_condition_39 rfl (⟨rfl, rfl⟩)
  · refine A_iload_n dX10_condition_29 rfl 2 rfl ?_
    refine A_if_lt (tgt := 38) dX10_condition_30 rfl (fun h30 => ?_) (fun h30 => ?_)
    · refine A_iconst (v := -1) dX10_condition_38 rfl ?_
      exact A_iret dX10_condition_39 rfl (⟨rfl, rfl⟩)
    · refine A_iload_n dX10_condition_33 rfl 2 rfl ?_
      refine A_iconst (v := 4) dX10_condition_34 rfl ?_
      refine A_icmp_lt (tgt := 40) dX10_condition_35 rfl (fun h35 => ?_) (fun h35 => ?_)
      · exact absurd ⟨bz_n0.mp h26, in4_t h30 h35⟩ hx
      · refine A_iconst (v := -1) dX10_condition_38 rfl ?_
        exact A_iret dX10_condition_39 rfl (⟨rfl, rfl⟩)
theorem x_cond3 (c h : Nat) (v : Int32) (f : Mem) (hc : c < 4) (hh : h < 4) (hv : ¬ inCell v) : C0 MX10_condition [.ref 0, .int (nI c), .int (nI h), .int v] f (rt (some (.int (-2))) f) := by
  refine Ct.of (lv := [(0, .ref 0), (1, .int (nI c)), (2, .int (nI h)), (3, .int v)]) (by decide) (lb rfl) rfl ?_
  refine A_iload_n dX10_condition_0 rfl 1 rfl ?_
  refine A_iconst (v := -1) dX10_condition_1 rfl ?_
  refine A_icmp_ne (tgt := 22) dX10_condition_2 rfl (fun h2 => ?_) (fun h2 => by exact absurd h2 (nI_nm1 hc))
  refine A_iload_n dX10_condition_22 rfl 1 rfl ?_
  refine A_callS (M' := MX10_isCell) [.int (nI c)] [] dX10_condition_23 lk_RX10_92 oX10_isCell sX10_isCell rfl rfl ⟨lb rfl, lb rfl⟩ (lb rfl) ⟨lb rfl, lb rfl⟩ (x_isCell (nI c) _) ?_
  rintro _ g0 ⟨rfl, hg0⟩
  rw [hg0]
  refine A_if_eq (tgt := 38) dX10_condition_26 rfl (fun h26 => by exact absurd ((inR_nI (by omega)).mpr hc) (bz_0.mp h26)) (fun h26 => ?_)
  refine A_iload_n dX10_condition_29 rfl 2 rfl ?_
  refine A_if_lt (tgt := 38) dX10_condition_30 rfl (fun h30 => by exact absurd h30 (nI_nneg (by omega))) (fun h30 => ?_)
  refine A_iload_n dX10_condition_33 rfl 2 rfl ?_
  refine A_iconst (v := 4) dX10_condition_34 rfl ?_
  refine A_icmp_lt (tgt := 40) dX10_condition_35 rfl (fun h35 => ?_) (fun h35 => by exact absurd ((nI_ltI (b := 4) (by omega) (by decide)).mpr hh) h35)
  refine A_iload_n dX10_condition_40 rfl 3 rfl ?_
  refine A_callS (M' := MX10_isCellNumber) [.int v] [] dX10_condition_41 lk_RX10_95 oX10_isCellNumber sX10_isCellNumber rfl rfl ⟨lb rfl, lb rfl⟩ (lb rfl) ⟨lb rfl, lb rfl⟩ (x_isCellNumber v _) ?_
  rintro _ g0 ⟨rfl, hg0⟩
  rw [hg0]
  refine A_if_ne (tgt := 50) dX10_condition_44 rfl (fun h44 => by exact absurd (bz_n0.mp h44) hv) (fun h44 => ?_)
  refine A_bipush (v := -2) dX10_condition_47 rfl ?_
  exact A_iret dX10_condition_49 rfl (⟨rfl, rfl⟩)
theorem x_cond4 (c h : Nat) (v : Int32) (f : Mem) (cn : Nat) (cs ch : Nat → Nat) (cv : Ro) (hN : XNc f cn cs ch cv) (hc : c < 4) (hh : h < 4) (hv : inCell v) (hn : cn = 4) : C0 MX10_condition [.ref 0, .int (nI c), .int (nI h), .int v] f (rt (some (.int (-4))) f) := by
  refine Ct.of (lv := [(0, .ref 0), (1, .int (nI c)), (2, .int (nI h)), (3, .int v)]) (by decide) (lb rfl) rfl ?_
  refine A_iload_n dX10_condition_0 rfl 1 rfl ?_
  refine A_iconst (v := -1) dX10_condition_1 rfl ?_
  refine A_icmp_ne (tgt := 22) dX10_condition_2 rfl (fun h2 => ?_) (fun h2 => by exact absurd h2 (nI_nm1 hc))
  refine A_iload_n dX10_condition_22 rfl 1 rfl ?_
  refine A_callS (M' := MX10_isCell) [.int (nI c)] [] dX10_condition_23 lk_RX10_92 oX10_isCell sX10_isCell rfl rfl ⟨lb rfl, lb rfl⟩ (lb rfl) ⟨lb rfl, lb rfl⟩ (x_isCell (nI c) _) ?_
  rintro _ g0 ⟨rfl, hg0⟩
  rw [hg0]
  refine A_if_eq (tgt := 38) dX10_condition_26 rfl (fun h26 => by exact absurd ((inR_nI (by omega)).mpr hc) (bz_0.mp h26)) (fun h26 => ?_)
  refine A_iload_n dX10_condition_29 rfl 2 rfl ?_
  refine A_if_lt (tgt := 38) dX10_condition_30 rfl (fun h30 => by exact absurd h30 (nI_nneg (by omega))) (fun h30 => ?_)
  refine A_iload_n dX10_condition_33 rfl 2 rfl ?_
  refine A_iconst (v := 4) dX10_condition_34 rfl ?_
  refine A_icmp_lt (tgt := 40) dX10_condition_35 rfl (fun h35 => ?_) (fun h35 => by exact absurd ((nI_ltI (b := 4) (by omega) (by decide)).mpr hh) h35)
  refine A_iload_n dX10_condition_40 rfl 3 rfl ?_
  refine A_callS (M' := MX10_isCellNumber) [.int v] [] dX10_condition_41 lk_RX10_95 oX10_isCellNumber sX10_isCellNumber rfl rfl ⟨lb rfl, lb rfl⟩ (lb rfl) ⟨lb rfl, lb rfl⟩ (x_isCellNumber v _) ?_
  rintro _ g0 ⟨rfl, hg0⟩
  rw [hg0]
  refine A_if_ne (tgt := 50) dX10_condition_44 rfl (fun h44 => ?_) (fun h44 => by exact absurd hv (bz_0.mp h44))
  refine A_aload_n dX10_condition_50 rfl 0 rfl ?_
  refine A_getR (b := 51) dX10_condition_51 fo_RX10_45 L0 rfl ?_
  refine A_getI dX10_condition_54 fo_RX10_201 L51 rfl ?_
  refine A_topi (nI cn) (hN.1) ?_
  refine A_iconst (v := 4) dX10_condition_57 rfl ?_
  refine A_icmp_lt (tgt := 64) dX10_condition_58 rfl (fun h58 => by exact absurd h58 (by rw [hn]; decide)) (fun h58 => ?_)
  refine A_bipush (v := -4) dX10_condition_61 rfl ?_
  exact A_iret dX10_condition_63 rfl (⟨rfl, rfl⟩)
theorem x_cond5 (c h : Nat) (v : Int32) (f : Mem) (cn : Nat) (cs ch : Nat → Nat) (cv : Ro) (hN : XNc f cn cs ch cv) (hc : c < 4) (hh : h < 4) (hv : inCell v) (hn : cn < 4) : C0 MX10_condition [.ref 0, .int (nI c), .int (nI h), .int v] f (rt (some (.int (nI (cn + 1)))) (u2 (u2 (u2 (u2 (u2 f 55 0 0) 52 cn (nI c)) 53 cn (nI h)) 54 cn v) 51 0 (nI cn + 1))) := by
  refine Ct.of (lv := [(0, .ref 0), (1, .int (nI c)), (2, .int (nI h)), (3, .int v)]) (by decide) (lb rfl) rfl ?_
  refine A_iload_n dX10_condition_0 rfl 1 rfl ?_
  refine A_iconst (v := -1) dX10_condition_1 rfl ?_
  refine A_icmp_ne (tgt := 22) dX10_condition_2 rfl (fun h2 => ?_) (fun h2 => by exact absurd h2 (nI_nm1 hc))
  refine A_iload_n dX10_condition_22 rfl 1 rfl ?_
  refine A_callS (M' := MX10_isCell) [.int (nI c)] [] dX10_condition_23 lk_RX10_92 oX10_isCell sX10_isCell rfl rfl ⟨lb rfl, lb rfl⟩ (lb rfl) ⟨lb rfl, lb rfl⟩ (x_isCell (nI c) _) ?_
  rintro _ g0 ⟨rfl, hg0⟩
  rw [hg0]
  refine A_if_eq (tgt := 38) dX10_condition_26 rfl (fun h26 => by exact absurd ((inR_nI (by omega)).mpr hc) (bz_0.mp h26)) (fun h26 => ?_)
  refine A_iload_n dX10_condition_29 rfl 2 rfl ?_
  refine A_if_lt (tgt := 38) dX10_condition_30 rfl (fun h30 => by exact absurd h30 (nI_nneg (by omega))) (fun h30 => ?_)
  refine A_iload_n dX10_condition_33 rfl 2 rfl ?_
  refine A_iconst (v := 4) dX10_condition_34 rfl ?_
  refine A_icmp_lt (tgt := 40) dX10_condition_35 rfl (fun h35 => ?_) (fun h35 => by exact absurd ((nI_ltI (b := 4) (by omega) (by decide)).mpr hh) h35)
  refine A_iload_n dX10_condition_40 rfl 3 rfl ?_
  refine A_callS (M' := MX10_isCellNumber) [.int v] [] dX10_condition_41 lk_RX10_95 oX10_isCellNumber sX10_isCellNumber rfl rfl ⟨lb rfl, lb rfl⟩ (lb rfl) ⟨lb rfl, lb rfl⟩ (x_isCellNumber v _) ?_
  rintro _ g0 ⟨rfl, hg0⟩
  rw [hg0]
  refine A_if_ne (tgt := 50) dX10_condition_44 rfl (fun h44 => ?_) (fun h44 => by exact absurd hv (bz_0.mp h44))
  refine A_aload_n dX10_condition_50 rfl 0 rfl ?_
  refine A_getR (b := 51) dX10_condition_51 fo_RX10_45 L0 rfl ?_
  refine A_getI dX10_condition_54 fo_RX10_201 L51 rfl ?_
  refine A_topi (nI cn) (hN.1) ?_
  refine A_iconst (v := 4) dX10_condition_57 rfl ?_
  refine A_icmp_lt (tgt := 64) dX10_condition_58 rfl (fun h58 => ?_) (fun h58 => by exact absurd ((nI_ltI (b := 4) (by omega) (by decide)).mpr hn) h58)
  refine A_aload_n dX10_condition_64 rfl 0 rfl ?_
  refine A_getR (b := 55) dX10_condition_65 fo_RX10_52 L0 rfl ?_
  refine A_callV (M' := MX6_forget) [] [] 55 dX10_condition_68 lk_RX10_67 oX6_forget iX6_forget rfl rfl ⟨lb rfl, lb rfl⟩ (lb rfl) ⟨lb rfl, lb rfl⟩ L55 rfl (x_forget _) ?_
  rintro _ _ ⟨rfl, rfl⟩
  refine A_aload_n dX10_condition_71 rfl 0 rfl ?_
  refine A_getR (b := 51) dX10_condition_72 fo_RX10_45 L0 rfl ?_
  refine A_iload_n dX10_condition_75 rfl 1 rfl ?_
  refine A_iload_n dX10_condition_76 rfl 2 rfl ?_
  refine A_iload_n dX10_condition_77 rfl 3 rfl ?_
  refine A_callV (M' := MX0_append) [.int (nI c), .int (nI h), .int v] [] 51 dX10_condition_78 lk_RX10_265 oX0_append iX0_append rfl rfl ⟨lb rfl, lb rfl⟩ (lb rfl) ⟨lb rfl, lb rfl⟩ L51 rfl (x_coAppend _ cn (nI c) (nI h) v (by rw [u2_n _ _ _ (by decide)]; exact hN.1) hn) ?_
  rintro _ H ⟨rfl, hH⟩
  refine A_aload_n dX10_condition_81 rfl 0 rfl ?_
  refine A_getR (b := 51) dX10_condition_82 fo_RX10_45 L0 rfl ?_
  refine A_getI dX10_condition_85 fo_RX10_201 L51 rfl ?_
  refine A_topi (nI (cn + 1)) (by rw [hH, u2_s, upd_s]; exact nI_add cn 1) ?_
  exact A_iret dX10_condition_88 rfl (⟨rfl, hH⟩)
theorem c_cond1 (y v : Int32) (f : Mem) : C0 MX11_condition [.ref 93, .int (-1), .int y, .int v] f (rt (some (.int 0)) (u2 f 93 26 0)) := by
  refine Ct.of (lv := [(0, .ref 93), (1, .int (-1)), (2, .int y), (3, .int v)]) (by decide) (lb rfl) rfl ?_
  refine A_iload_n dX11_condition_0 rfl 1 rfl ?_
  refine A_iconst (v := -1) dX11_condition_1 rfl ?_
  refine A_icmp_ne (tgt := 12) dX11_condition_2 rfl (fun h2 => by exact absurd rfl h2) (fun h2 => ?_)
  refine A_aload_n dX11_condition_5 rfl 0 rfl ?_
  refine A_iconst (v := 0) dX11_condition_6 rfl ?_
  refine A_putI dX11_condition_7 fo_RX11_218 L93 rfl ?_
  refine A_iconst (v := 0) dX11_condition_10 rfl ?_
  exact A_iret dX11_condition_11 rfl (⟨rfl, rfl⟩)
theorem c_cond2 (x y v : Int32) (f : Mem) (h1 : ¬ x = -1) (hx : ¬ (inR x 4 ∧ inR y 4)) : C0 MX11_condition [.ref 93, .int x, .int y, .int v] f (rt (some (.int (-1))) f) := by
  refine Ct.of (lv := [(0, .ref 93), (1, .int x), (2, .int y), (3, .int v)]) (by decide) (lb rfl) rfl ?_
  refine A_iload_n dX11_condition_0 rfl 1 rfl ?_
  refine A_iconst (v := -1) dX11_condition_1 rfl ?_
  refine A_icmp_ne (tgt := 12) dX11_condition_2 rfl (fun h2 => ?_) (fun h2 => by exact absurd h2 h1)
  refine A_iload_n dX11_condition_12 rfl 1 rfl ?_
  refine A_callS (M' := MX11_isCell) [.int x] [] dX11_condition_13 lk_RX11_76 oX11_isCell sX11_isCell rfl rfl ⟨lb rfl, lb rfl⟩ (lb rfl) ⟨lb rfl, lb rfl⟩ (c_isCell x _) ?_
  rintro _ g0 ⟨rfl, hg0⟩
  rw [hg0]
  refine A_if_eq (tgt := 31) dX11_condition_16 rfl (fun h16 => ?_) (fun h16 => ?_)
  · refine A_iconst (v := -1) dX11_condition_31 rfl ?_
    exact A_iret dX11_condition_32 rfl (⟨rfl, rfl⟩)
  · refine A_iload_n dX11_condition_19 rfl 2 rfl ?_
    refine A_i2l dX11_condition_20 ?_
    refine A_lconst (v := 0) dX11_condition_21 rfl ?_
    refine A_ldc2 dX11_condition_22 k_RX11_70 ?_
    refine A_callS (M' := MX11_in) [.long y.toInt64, .long 0, .long 3] [] dX11_condition_25 lk_RX11_64 oX11_in sX11_in rfl rfl ⟨lb rfl, lb rfl⟩ (lb rfl) ⟨lb rfl, lb rfl⟩ (c_in _ _ _ _) ?_
    rintro _ g0 ⟨rfl, hg0⟩
    rw [hg0]
    refine A_topi (bz (inR y 4)) (bz_c (in_4 _)) ?_
    refine A_if_ne (tgt := 33) dX11_condition_28 rfl (fun h28 => ?_) (fun h28 => ?_)
    · exact absurd ⟨bz_n0.mp h16, bz_n0.mp h28⟩ hx
    · refine A_iconst (v := -1) dX11_condition_31 rfl ?_
      exact A_iret dX11_condition_32 rfl (⟨rfl, rfl⟩)
theorem c_cond3 (c h : Nat) (v : Int32) (f : Mem) (hc : c < 4) (hh : h < 4) (hv : ¬ inCell v) : C0 MX11_condition [.ref 93, .int (nI c), .int (nI h), .int v] f (rt (some (.int (-2))) f) := by
  refine Ct.of (lv := [(0, .ref 93), (1, .int (nI c)), (2, .int (nI h)), (3, .int v)]) (by decide) (lb rfl) rfl ?_
  refine A_iload_n dX11_condition_0 rfl 1 rfl ?_
  refine A_iconst (v := -1) dX11_condition_1 rfl ?_
  refine A_icmp_ne (tgt := 12) dX11_condition_2 rfl (fun h2 => ?_) (fun h2 => by exact absurd h2 (nI_nm1 hc))
  refine A_iload_n dX11_condition_12 rfl 1 rfl ?_
  refine A_callS (M' := MX11_isCell) [.int (nI c)] [] dX11_condition_13 lk_RX11_76 oX11_isCell sX11_isCell rfl rfl ⟨lb rfl, lb rfl⟩ (lb rfl) ⟨lb rfl, lb rfl⟩ (c_isCell (nI c) _) ?_
  rintro _ g0 ⟨rfl, hg0⟩
  rw [hg0]
  refine A_if_eq (tgt := 31) dX11_condition_16 rfl (fun h16 => by exact absurd ((inR_nI (by omega)).mpr hc) (bz_0.mp h16)) (fun h16 => ?_)
  refine A_iload_n dX11_condition_19 rfl 2 rfl ?_
  refine A_i2l dX11_condition_20 ?_
  refine A_lconst (v := 0) dX11_condition_21 rfl ?_
  refine A_ldc2 dX11_condition_22 k_RX11_70 ?_
  refine A_callS (M' := MX11_in) [.long ((nI h).toInt64), .long 0, .long 3] [] dX11_condition_25 lk_RX11_64 oX11_in sX11_in rfl rfl ⟨lb rfl, lb rfl⟩ (lb rfl) ⟨lb rfl, lb rfl⟩ (c_in _ _ _ _) ?_
  rintro _ g0 ⟨rfl, hg0⟩
  rw [hg0]
  refine A_topi (bz (inR (nI h) 4)) (bz_c (in_4 _)) ?_
  refine A_if_ne (tgt := 33) dX11_condition_28 rfl (fun h28 => ?_) (fun h28 => by exact absurd ((inR_nI (by omega)).mpr hh) (bz_0.mp h28))
  refine A_iload_n dX11_condition_33 rfl 3 rfl ?_
  refine A_i2l dX11_condition_34 ?_
  refine A_ldc2 dX11_condition_35 k_RX11_79 ?_
  refine A_ldc2 dX11_condition_38 k_RX11_81 ?_
  refine A_callS (M' := MX11_in) [.long v.toInt64, .long (-99), .long 99] [] dX11_condition_41 lk_RX11_64 oX11_in sX11_in rfl rfl ⟨lb rfl, lb rfl⟩ (lb rfl) ⟨lb rfl, lb rfl⟩ (c_in _ _ _ _) ?_
  rintro _ g0 ⟨rfl, hg0⟩
  rw [hg0]
  refine A_topi (bz (inCell v)) (bz_c (in_99 v)) ?_
  refine A_if_ne (tgt := 50) dX11_condition_44 rfl (fun h44 => by exact absurd (bz_n0.mp h44) hv) (fun h44 => ?_)
  refine A_bipush (v := -2) dX11_condition_47 rfl ?_
  exact A_iret dX11_condition_49 rfl (⟨rfl, rfl⟩)
theorem c_cond4 (c h : Nat) (v : Int32) (f : Mem) (cn : Nat) (cs ch : Nat → Nat) (cv : Ro) (hN : RNc f cn cs ch cv) (hc : c < 4) (hh : h < 4) (hv : inCell v) (hn : cn = 4) : C0 MX11_condition [.ref 93, .int (nI c), .int (nI h), .int v] f (rt (some (.int (-4))) f) := by
  refine Ct.of (lv := [(0, .ref 93), (1, .int (nI c)), (2, .int (nI h)), (3, .int v)]) (by decide) (lb rfl) rfl ?_
  refine A_iload_n dX11_condition_0 rfl 1 rfl ?_
  refine A_iconst (v := -1) dX11_condition_1 rfl ?_
  refine A_icmp_ne (tgt := 12) dX11_condition_2 rfl (fun h2 => ?_) (fun h2 => by exact absurd h2 (nI_nm1 hc))
  refine A_iload_n dX11_condition_12 rfl 1 rfl ?_
  refine A_callS (M' := MX11_isCell) [.int (nI c)] [] dX11_condition_13 lk_RX11_76 oX11_isCell sX11_isCell rfl rfl ⟨lb rfl, lb rfl⟩ (lb rfl) ⟨lb rfl, lb rfl⟩ (c_isCell (nI c) _) ?_
  rintro _ g0 ⟨rfl, hg0⟩
  rw [hg0]
  refine A_if_eq (tgt := 31) dX11_condition_16 rfl (fun h16 => by exact absurd ((inR_nI (by omega)).mpr hc) (bz_0.mp h16)) (fun h16 => ?_)
  refine A_iload_n dX11_condition_19 rfl 2 rfl ?_
  refine A_i2l dX11_condition_20 ?_
  refine A_lconst (v := 0) dX11_condition_21 rfl ?_
  refine A_ldc2 dX11_condition_22 k_RX11_70 ?_
  refine A_callS (M' := MX11_in) [.long ((nI h).toInt64), .long 0, .long 3] [] dX11_condition_25 lk_RX11_64 oX11_in sX11_in rfl rfl ⟨lb rfl, lb rfl⟩ (lb rfl) ⟨lb rfl, lb rfl⟩ (c_in _ _ _ _) ?_
  rintro _ g0 ⟨rfl, hg0⟩
  rw [hg0]
  refine A_topi (bz (inR (nI h) 4)) (bz_c (in_4 _)) ?_
  refine A_if_ne (tgt := 33) dX11_condition_28 rfl (fun h28 => ?_) (fun h28 => by exact absurd ((inR_nI (by omega)).mpr hh) (bz_0.mp h28))
  refine A_iload_n dX11_condition_33 rfl 3 rfl ?_
  refine A_i2l dX11_condition_34 ?_
  refine A_ldc2 dX11_condition_35 k_RX11_79 ?_
  refine A_ldc2 dX11_condition_38 k_RX11_81 ?_
  refine A_callS (M' := MX11_in) [.long v.toInt64, .long (-99), .long 99] [] dX11_condition_41 lk_RX11_64 oX11_in sX11_in rfl rfl ⟨lb rfl, lb rfl⟩ (lb rfl) ⟨lb rfl, lb rfl⟩ (c_in _ _ _ _) ?_
  rintro _ g0 ⟨rfl, hg0⟩
  rw [hg0]
  refine A_topi (bz (inCell v)) (bz_c (in_99 v)) ?_
  refine A_if_ne (tgt := 50) dX11_condition_44 rfl (fun h44 => ?_) (fun h44 => by exact absurd hv (bz_0.mp h44))
  refine A_aload_n dX11_condition_50 rfl 0 rfl ?_
  refine A_getI dX11_condition_51 fo_RX11_218 L93 rfl ?_
  refine A_topi (nI cn) (hN.1) ?_
  refine A_iconst (v := 4) dX11_condition_54 rfl ?_
  refine A_icmp_ne (tgt := 61) dX11_condition_55 rfl (fun h55 => by exact absurd (by rw [hn]; rfl) h55) (fun h55 => ?_)
  refine A_bipush (v := -4) dX11_condition_58 rfl ?_
  exact A_iret dX11_condition_60 rfl (⟨rfl, rfl⟩)
theorem c_cond5 (c h : Nat) (v : Int32) (f : Mem) (cn : Nat) (cs ch : Nat → Nat) (cv : Ro) (hN : RNc f cn cs ch cv) (hc : c < 4) (hh : h < 4) (hv : inCell v) (hn : cn < 4) : C0 MX11_condition [.ref 93, .int (nI c), .int (nI h), .int v] f (rt (some (.int (nI (cn + 1)))) (u2 (u2 (u2 (u2 f 109 (3 * cn) (nI c)) 109 (3 * cn + 1) (nI h)) 109 (3 * cn + 2) v) 93 26 (nI cn + 1))) := by
  refine Ct.of (lv := [(0, .ref 93), (1, .int (nI c)), (2, .int (nI h)), (3, .int v)]) (by decide) (lb rfl) rfl ?_
  refine A_iload_n dX11_condition_0 rfl 1 rfl ?_
  refine A_iconst (v := -1) dX11_condition_1 rfl ?_
  refine A_icmp_ne (tgt := 12) dX11_condition_2 rfl (fun h2 => ?_) (fun h2 => by exact absurd h2 (nI_nm1 hc))
  refine A_iload_n dX11_condition_12 rfl 1 rfl ?_
  refine A_callS (M' := MX11_isCell) [.int (nI c)] [] dX11_condition_13 lk_RX11_76 oX11_isCell sX11_isCell rfl rfl ⟨lb rfl, lb rfl⟩ (lb rfl) ⟨lb rfl, lb rfl⟩ (c_isCell (nI c) _) ?_
  rintro _ g0 ⟨rfl, hg0⟩
  rw [hg0]
  refine A_if_eq (tgt := 31) dX11_condition_16 rfl (fun h16 => by exact absurd ((inR_nI (by omega)).mpr hc) (bz_0.mp h16)) (fun h16 => ?_)
  refine A_iload_n dX11_condition_19 rfl 2 rfl ?_
  refine A_i2l dX11_condition_20 ?_
  refine A_lconst (v := 0) dX11_condition_21 rfl ?_
  refine A_ldc2 dX11_condition_22 k_RX11_70 ?_
  refine A_callS (M' := MX11_in) [.long ((nI h).toInt64), .long 0, .long 3] [] dX11_condition_25 lk_RX11_64 oX11_in sX11_in rfl rfl ⟨lb rfl, lb rfl⟩ (lb rfl) ⟨lb rfl, lb rfl⟩ (c_in _ _ _ _) ?_
  rintro _ g0 ⟨rfl, hg0⟩
  rw [hg0]
  refine A_topi (bz (inR (nI h) 4)) (bz_c (in_4 _)) ?_
  refine A_if_ne (tgt := 33) dX11_condition_28 rfl (fun h28 => ?_) (fun h28 => by exact absurd ((inR_nI (by omega)).mpr hh) (bz_0.mp h28))
  refine A_iload_n dX11_condition_33 rfl 3 rfl ?_
  refine A_i2l dX11_condition_34 ?_
  refine A_ldc2 dX11_condition_35 k_RX11_79 ?_
  refine A_ldc2 dX11_condition_38 k_RX11_81 ?_
  refine A_callS (M' := MX11_in) [.long v.toInt64, .long (-99), .long 99] [] dX11_condition_41 lk_RX11_64 oX11_in sX11_in rfl rfl ⟨lb rfl, lb rfl⟩ (lb rfl) ⟨lb rfl, lb rfl⟩ (c_in _ _ _ _) ?_
  rintro _ g0 ⟨rfl, hg0⟩
  rw [hg0]
  refine A_topi (bz (inCell v)) (bz_c (in_99 v)) ?_
  refine A_if_ne (tgt := 50) dX11_condition_44 rfl (fun h44 => ?_) (fun h44 => by exact absurd hv (bz_0.mp h44))
  refine A_aload_n dX11_condition_50 rfl 0 rfl ?_
  refine A_getI dX11_condition_51 fo_RX11_218 L93 rfl ?_
  refine A_topi (nI cn) (hN.1) ?_
  refine A_iconst (v := 4) dX11_condition_54 rfl ?_
  refine A_icmp_ne (tgt := 61) dX11_condition_55 rfl (fun h55 => ?_) (fun h55 => by exact absurd ((nI_eq (a := cn) (b := 4) (by omega) (by decide)).mp h55) (by omega))
  refine A_aload_n dX11_condition_61 rfl 0 rfl ?_
  refine A_getR (b := 109) dX11_condition_62 fo_RX11_55 L93 rfl ?_
  refine A_iconst (v := 3) dX11_condition_65 rfl ?_
  refine A_aload_n dX11_condition_66 rfl 0 rfl ?_
  refine A_getI dX11_condition_67 fo_RX11_218 L93 rfl ?_
  refine A_topi (nI cn) (hN.1) ?_
  refine A_imul dX11_condition_70 ?_
  refine A_iload_n dX11_condition_71 rfl 1 rfl ?_
  refine A_iastore (3 * cn) dX11_condition_72 L109 (by simp only [lit, nI_add, pk_mul]) (by omega) (lb rfl) ?_
  refine A_aload_n dX11_condition_73 rfl 0 rfl ?_
  refine A_getR (b := 109) dX11_condition_74 fo_RX11_55 L93 rfl ?_
  refine A_iconst (v := 3) dX11_condition_77 rfl ?_
  refine A_aload_n dX11_condition_78 rfl 0 rfl ?_
  refine A_getI dX11_condition_79 fo_RX11_218 L93 rfl ?_
  refine A_topi (f 93 26) (by simp [u2, ur, upd]) ?_
  refine A_topi (nI cn) (hN.1) ?_
  refine A_imul dX11_condition_82 ?_
  refine A_iconst (v := 1) dX11_condition_83 rfl ?_
  refine A_iadd dX11_condition_84 ?_
  refine A_iload_n dX11_condition_85 rfl 2 rfl ?_
  refine A_iastore (3 * cn + 1) dX11_condition_86 L109 (by simp only [lit, nI_add, pk_mul]) (by omega) (lb rfl) ?_
  refine A_aload_n dX11_condition_87 rfl 0 rfl ?_
  refine A_getR (b := 109) dX11_condition_88 fo_RX11_55 L93 rfl ?_
  refine A_iconst (v := 3) dX11_condition_91 rfl ?_
  refine A_aload_n dX11_condition_92 rfl 0 rfl ?_
  refine A_getI dX11_condition_93 fo_RX11_218 L93 rfl ?_
  refine A_topi (f 93 26) (by simp [u2, ur, upd]) ?_
  refine A_topi (nI cn) (hN.1) ?_
  refine A_imul dX11_condition_96 ?_
  refine A_iconst (v := 2) dX11_condition_97 rfl ?_
  refine A_iadd dX11_condition_98 ?_
  refine A_iload_n dX11_condition_99 rfl 3 rfl ?_
  refine A_iastore (3 * cn + 2) dX11_condition_100 L109 (by simp only [lit, nI_add, pk_mul]) (by omega) (lb rfl) ?_
  refine A_aload_n dX11_condition_101 rfl 0 rfl ?_
  refine A_dup dX11_condition_102 rfl ?_
  refine A_getI dX11_condition_103 fo_RX11_218 L93 rfl ?_
  refine A_topi (f 93 26) (by simp [u2, ur, upd]) ?_
  refine A_topi (nI cn) (hN.1) ?_
  refine A_iconst (v := 1) dX11_condition_106 rfl ?_
  refine A_iadd dX11_condition_107 ?_
  refine A_putI dX11_condition_108 fo_RX11_218 L93 rfl ?_
  refine A_aload_n dX11_condition_111 rfl 0 rfl ?_
  refine A_getI dX11_condition_112 fo_RX11_218 L93 rfl ?_
  refine A_topi ((nI cn) + 1) (by simp [u2, ur, upd]) ?_
  exact A_iret dX11_condition_115 rfl (rti (nI_add cn 1) rfl)
abbrev staV (s : Sg) (p : Ro) (x y z : Int32) : Int32 := if inR x (s 13 0) ∧ inR y (s 16 x.toNatClampNeg) ∧ inR z 4 then p (48 * x.toNatClampNeg + 4 * y.toNatClampNeg + z.toNatClampNeg) else -100
theorem st_e {f : Mem} {s : Sg} {k p rz lz : Ro} (hC : XC f s k p rz lz) (w : wfC s k p) {t : Nat} (ht : t < s 13 0) (ht4 : t < 4) {y z : Int32} : (if inR y (s 16 t) ∧ inR z 4 then f (1 + 13 + 2 * t + 1) (4 * y.toNatClampNeg + z.toNatClampNeg) else -100) = staV s p (nI t) y z := by
  have h12 := (w.2.1 t ht4).1
  unfold staV
  rw [nI_clamp (by omega)]
  by_cases q : inR y (s 16 t) ∧ inR z 4
  · obtain ⟨i, hi, ei⟩ := inR_of (by omega) q.1
    obtain ⟨j, hj, ej⟩ := inR_of (by decide) q.2
    rw [if_pos q, if_pos ⟨(inR_nI (by omega)).mpr ht, q.1, q.2⟩, ei, ej, nI_clamp (by omega), nI_clamp (by omega), hC.2.1.2.2.2 t ht4 (4 * i + j) (by omega), Nat.add_assoc]
  · rw [if_neg q, if_neg (fun z => q z.2)]
theorem x_statement (x y z : Int32) (f : Mem) (s : Sg) (k p rz lz : Ro) (hC : XC f s k p rz lz) (w : wfC s k p) : C0 MX10_statement [.ref 0, .int x, .int y, .int z] f (rt (some (.int (staV s p x y z))) f) := by
  have h13 := w.2.2.2.2.1
  refine Ct.of (lv := [(0, .ref 0), (1, .int x), (2, .int y), (3, .int z)]) (by decide) (lb rfl) rfl ?_
  refine A_aload_n dX10_statement_0 rfl 0 rfl ?_
  refine A_iload_n dX10_statement_1 rfl 1 rfl ?_
  refine A_callV (M' := MX10_isTask) [.int x] [] 0 dX10_statement_2 lk_RX10_111 oX10_isTask iX10_isTask rfl rfl ⟨lb rfl, lb rfl⟩ (lb rfl) ⟨lb rfl, lb rfl⟩ L0 rfl (x_isTask x _ hC.n w.2.2.2.2.1) ?_
  rintro _ g0 ⟨rfl, hg0⟩
  rw [hg0]
  refine A_if_eq (tgt := 25) dX10_statement_5 rfl (fun h5 => ?_) (fun h5 => ?_)
  · refine A_bipush (v := -100) dX10_statement_25 rfl ?_
    exact A_iret dX10_statement_27 rfl (rti (if_neg (fun q => bz_0.mp h5 q.1)).symm rfl)
  · obtain ⟨t, ht, rfl⟩ := inR_of (by omega) (bz_n0.mp h5)
    have ht4 : t < 4 := by omega
    refine A_aload_n dX10_statement_8 rfl 0 rfl ?_
    refine A_getR (b := 1) dX10_statement_9 fo_RX10_10 L0 rfl ?_
    refine A_getR (b := 2) dX10_statement_12 fo_RX10_134 L1 rfl ?_
    refine A_iload_n dX10_statement_15 rfl 1 rfl ?_
    refine A_aaload2 (b := 1 + 13 + 2 * t) t dX10_statement_16 L2 (rfl) (ht4) (lb rfl) ((isDesk.prog (d := 1) (.inl rfl) ht4).2) ?_
    refine A_iload_n dX10_statement_17 rfl 2 rfl ?_
    refine A_iload_n dX10_statement_18 rfl 3 rfl ?_
    refine A_callV (M' := MX3_part) [.int y, .int z] [] (1 + 13 + 2 * t) dX10_statement_19 lk_RX10_142 oX3_part iX3_part rfl rfl ⟨lb rfl, lb rfl⟩ (lb rfl) ⟨lb rfl, lb rfl⟩ ((isDesk.prog (d := 1) (.inl rfl) ht4).1.1) rfl (x_part (1 + 13 + 2 * t) y z f (isDesk.prog (d := 1) (.inl rfl) ht4).1 (hC.2.1.2.2.1 t ht4) (w.2.1 t ht4).1) ?_
    rintro _ g0 ⟨rfl, hg0⟩
    rw [hg0]
    refine A_topi (staV s p (nI t) y z) (st_e hC w ht ht4) ?_
    refine A_goto (tgt := 27) dX10_statement_22 rfl ?_
    exact A_iret dX10_statement_27 rfl (rti rfl rfl)
