/-! the reference reads numbers -/
def hV (x : Nat) : Int32 := if x = 0 then -1 else nI x
theorem hV_F : ∀ x, x < 128 → ((Int64.toInt 48 ≤ (hV x).toInt64.toInt ∧ (hV x).toInt64.toInt ≤ Int64.toInt 57) ↔ isF x) := by decide +kernel
theorem hV_L : ∀ x, x < 128 → ((Int64.toInt 97 ≤ (hV x).toInt64.toInt ∧ (hV x).toInt64.toInt ≤ Int64.toInt 122) ↔ isL x) := by decide +kernel
theorem hV_32 : ∀ x, x < 128 → (hV x = 32 ↔ x = 32) := by decide +kernel
theorem hV_45 : ∀ x, x < 128 → (hV x = 45 ↔ x = 45) := by decide +kernel
theorem hV_59 : ∀ x, x < 128 → (hV x = 59 ↔ x = 59) := by decide +kernel
theorem hV_n {x : Nat} (h : isF x) : hV x = nI x := if_neg (by omega)
theorem fig3 : ∀ x, x < 58 → 48 ≤ x → ∀ y, y < 58 → 48 ≤ y → 10 * nI (x - 48) + nI y - 48 = nI (10 * (x - 48) + (y - 48)) := by decide +kernel
theorem RTp.rd {f : Mem} {tn : Nat} {c : Nat → Nat} (h : RTp f tn c) (a : Nat) (z : Int32) : RTp (rd 93 10 11 f a z) tn c := ⟨(rd_k _ _ _ (by decide) (by decide)).trans h.1, fun i hi => (congrFun (rd_o _ _ _ (by decide)) _).trans (h.2 i hi)⟩
theorem c_here (f : Mem) (tn : Nat) (c : Nat → Nat) (hT : RTp f tn c) (hc : tcW c tn) (a : Nat) (z : Int32) (ha : a < 2 ^ 30) : C0 MX11_here [.ref 93] (rd 93 10 11 f a z) (rt (some (.int (hV (c a)))) (rd 93 10 11 f a z)) := by
  refine Ct.of (lv := [(0, .ref 93)]) (by decide) (lb rfl) rfl ?_
  refine A_aload_n dX11_here_0 rfl 0 rfl ?_
  refine A_getI dX11_here_1 fo_RX11_89 L93 rfl ?_
  refine A_topi (nI a) (rd_a f a z (by decide)) ?_
  refine A_aload_n dX11_here_4 rfl 0 rfl ?_
  refine A_getI dX11_here_5 fo_RX11_85 L93 rfl ?_
  refine A_topi (f 93 9) (rd_k f a z (by decide) (by decide)) ?_
  refine A_topi (nI tn) (hT.1) ?_
  refine A_icmp_ge (tgt := 23) dX11_here_8 rfl (fun h8 => ?_) (fun h8 => ?_)
  · rw [nI_leI (by have := hc.1; omega) (by omega)] at h8
    refine A_iconst (v := -1) dX11_here_23 rfl ?_
    exact A_iret dX11_here_24 rfl (rti (by rw [hc.2.1 a h8]; rfl) rfl)
  · rw [nI_leI (by have := hc.1; omega) (by omega)] at h8
    have h8 : a < tn := by omega
    have h120 := hc.1
    refine A_aload_n dX11_here_11 rfl 0 rfl ?_
    refine A_getR (b := 99) dX11_here_12 fo_RX11_25 L93 rfl ?_
    refine A_aload_n dX11_here_15 rfl 0 rfl ?_
    refine A_getI dX11_here_16 fo_RX11_89 L93 rfl ?_
    refine A_topi (nI a) (rd_a f a z (by decide)) ?_
    refine A_iaload a dX11_here_19 L99 (rfl) (by omega) (lb rfl) ?_
    refine A_topi (f 99 a) (congrFun (rd_o f a z (by decide)) _) ?_
    refine A_topi (nI (c a)) (hT.2 a h8) ?_
    refine A_goto (tgt := 24) dX11_here_20 rfl ?_
    exact A_iret dX11_here_24 rfl (rti (by rw [hV, if_neg (by have := hc.2.2.1 a h8; omega)]) rfl)
theorem c_must0 (f : Mem) (a : Nat) (z x p : Int32) (hz : 0 ≤ z) : C0 MX11_must [.ref 93, .int x, .int p] (rd 93 10 11 f a z) (rt none (rd 93 10 11 f a z)) := by
  refine Ct.of (lv := [(0, .ref 93), (1, .int x), (2, .int p)]) (by decide) (lb rfl) rfl ?_
  refine A_aload_n dX11_must_0 rfl 0 rfl ?_
  refine A_aload_n dX11_must_1 rfl 0 rfl ?_
  refine A_getI dX11_must_2 fo_RX11_92 L93 rfl ?_
  refine A_topi (z) (rd_z f a z) ?_
  refine A_if_ge (tgt := 16) dX11_must_5 rfl (fun h5 => ?_) (fun h5 => by exact absurd hz h5)
  refine A_aload_n dX11_must_16 rfl 0 rfl ?_
  refine A_getI dX11_must_17 fo_RX11_92 L93 rfl ?_
  refine A_topi (z) (rd_z f a z) ?_
  refine A_putI dX11_must_20 fo_RX11_92 L93 rfl ?_
  refine A_eq rfl rfl (f' := rd 93 10 11 f a z) (rd_uz f a z z) ?_
  exact A_vret dX11_must_23 rfl (⟨rfl, rfl⟩)
theorem c_must1 (f : Mem) (a : Nat) (x p : Int32) (hx : ¬ x = 0) : C0 MX11_must [.ref 93, .int x, .int p] (rd 93 10 11 f a (-1)) (rt none (rd 93 10 11 f a (-1))) := by
  refine Ct.of (lv := [(0, .ref 93), (1, .int x), (2, .int p)]) (by decide) (lb rfl) rfl ?_
  refine A_aload_n dX11_must_0 rfl 0 rfl ?_
  refine A_aload_n dX11_must_1 rfl 0 rfl ?_
  refine A_getI dX11_must_2 fo_RX11_92 L93 rfl ?_
  refine A_topi (-1) (rd_z f a (-1)) ?_
  refine A_if_ge (tgt := 16) dX11_must_5 rfl (fun h5 => by exact absurd h5 (by decide)) (fun h5 => ?_)
  refine A_iload_n dX11_must_8 rfl 1 rfl ?_
  refine A_if_ne (tgt := 16) dX11_must_9 rfl (fun h9 => ?_) (fun h9 => by exact absurd h9 hx)
  refine A_aload_n dX11_must_16 rfl 0 rfl ?_
  refine A_getI dX11_must_17 fo_RX11_92 L93 rfl ?_
  refine A_topi (-1) (rd_z f a (-1)) ?_
  refine A_putI dX11_must_20 fo_RX11_92 L93 rfl ?_
  refine A_eq rfl rfl (f' := rd 93 10 11 f a (-1)) (rd_uz f a (-1) (-1)) ?_
  exact A_vret dX11_must_23 rfl (⟨rfl, rfl⟩)
theorem c_must2 (f : Mem) (a : Nat) (x p : Int32) (hx : x = 0) : C0 MX11_must [.ref 93, .int x, .int p] (rd 93 10 11 f a (-1)) (rt none (rd 93 10 11 f a p)) := by
  refine Ct.of (lv := [(0, .ref 93), (1, .int x), (2, .int p)]) (by decide) (lb rfl) rfl ?_
  refine A_aload_n dX11_must_0 rfl 0 rfl ?_
  refine A_aload_n dX11_must_1 rfl 0 rfl ?_
  refine A_getI dX11_must_2 fo_RX11_92 L93 rfl ?_
  refine A_topi (-1) (rd_z f a (-1)) ?_
  refine A_if_ge (tgt := 16) dX11_must_5 rfl (fun h5 => by exact absurd h5 (by decide)) (fun h5 => ?_)
  refine A_iload_n dX11_must_8 rfl 1 rfl ?_
  refine A_if_ne (tgt := 16) dX11_must_9 rfl (fun h9 => by exact absurd hx h9) (fun h9 => ?_)
  refine A_iload_n dX11_must_12 rfl 2 rfl ?_
  refine A_goto (tgt := 20) dX11_must_13 rfl ?_
  refine A_putI dX11_must_20 fo_RX11_92 L93 rfl ?_
  refine A_eq rfl rfl (f' := rd 93 10 11 f a p) (rd_uz f a (-1) p) ?_
  exact A_vret dX11_must_23 rfl (⟨rfl, rfl⟩)
theorem c_takes1 (f : Mem) (tn : Nat) (c : Nat → Nat) (hT : RTp f tn c) (hc : tcW c tn) (a : Nat) (ha : a < 2 ^ 29) (h : c a = 32) : C0 MX11_takes [.ref 93, .int 32] (rd 93 10 11 f a (-1)) (rt none (rd 93 10 11 f (a + 1) (-1))) := by
  refine Ct.of (lv := [(0, .ref 93), (1, .int 32)]) (by decide) (lb rfl) rfl ?_
  refine A_aload_n dX11_takes_0 rfl 0 rfl ?_
  refine A_aload_n dX11_takes_1 rfl 0 rfl ?_
  refine A_callV (M' := MX11_here) [] [.ref 93] 93 dX11_takes_2 lk_RX11_95 oX11_here iX11_here rfl rfl ⟨lb rfl, lb rfl⟩ (lb rfl) ⟨lb rfl, lb rfl⟩ L93 rfl (c_here f tn c hT hc a (-1) (by omega)) ?_
  rintro _ g0 ⟨rfl, hg0⟩
  rw [hg0]
  refine A_iload_n dX11_takes_5 rfl 1 rfl ?_
  refine A_icmp_ne (tgt := 13) dX11_takes_6 rfl (fun h6 => by exact absurd ((hV_32 _ (by have := hc.2.2.2 a; omega)).mpr h) h6) (fun h6 => ?_)
  refine A_iconst (v := 1) dX11_takes_9 rfl ?_
  refine A_goto (tgt := 14) dX11_takes_10 rfl ?_
  refine A_aload_n dX11_takes_14 rfl 0 rfl ?_
  refine A_getI dX11_takes_15 fo_RX11_89 L93 rfl ?_
  refine A_topi (nI a) (rd_a f a (-1) (by decide)) ?_
  refine A_callV (M' := MX11_must) [.int 1, .int (nI a)] [] 93 dX11_takes_18 lk_RX11_99 oX11_must iX11_must rfl rfl ⟨lb rfl, lb rfl⟩ (lb rfl) ⟨lb rfl, lb rfl⟩ L93 rfl (c_must1 f a 1 (nI a) (by decide)) ?_
  rintro _ g0 ⟨rfl, hg0⟩
  rw [hg0]
  refine A_aload_n dX11_takes_21 rfl 0 rfl ?_
  refine A_dup dX11_takes_22 rfl ?_
  refine A_getI dX11_takes_23 fo_RX11_89 L93 rfl ?_
  refine A_topi (nI a) (rd_a f a (-1) (by decide)) ?_
  refine A_iconst (v := 1) dX11_takes_26 rfl ?_
  refine A_iadd dX11_takes_27 ?_
  refine A_putI dX11_takes_28 fo_RX11_89 L93 rfl ?_
  refine A_eq rfl rfl (f' := rd 93 10 11 f (a + 1) (-1)) (rd_ua f a (a + 1) (-1) (by decide) (by simp only [lit, nI_add, pk_mul, Nat.add_zero])) ?_
  exact A_vret dX11_takes_31 rfl (⟨rfl, rfl⟩)
theorem c_takes2 (f : Mem) (tn : Nat) (c : Nat → Nat) (hT : RTp f tn c) (hc : tcW c tn) (a : Nat) (ha : a < 2 ^ 29) (h : ¬ c a = 32) : C0 MX11_takes [.ref 93, .int 32] (rd 93 10 11 f a (-1)) (rt none (rd 93 10 11 f (a + 1) (nI a))) := by
  refine Ct.of (lv := [(0, .ref 93), (1, .int 32)]) (by decide) (lb rfl) rfl ?_
  refine A_aload_n dX11_takes_0 rfl 0 rfl ?_
  refine A_aload_n dX11_takes_1 rfl 0 rfl ?_
  refine A_callV (M' := MX11_here) [] [.ref 93] 93 dX11_takes_2 lk_RX11_95 oX11_here iX11_here rfl rfl ⟨lb rfl, lb rfl⟩ (lb rfl) ⟨lb rfl, lb rfl⟩ L93 rfl (c_here f tn c hT hc a (-1) (by omega)) ?_
  rintro _ g0 ⟨rfl, hg0⟩
  rw [hg0]
  refine A_iload_n dX11_takes_5 rfl 1 rfl ?_
  refine A_icmp_ne (tgt := 13) dX11_takes_6 rfl (fun h6 => ?_) (fun h6 => by exact absurd ((hV_32 _ (by have := hc.2.2.2 a; omega)).mp h6) h)
  refine A_iconst (v := 0) dX11_takes_13 rfl ?_
  refine A_aload_n dX11_takes_14 rfl 0 rfl ?_
  refine A_getI dX11_takes_15 fo_RX11_89 L93 rfl ?_
  refine A_topi (nI a) (rd_a f a (-1) (by decide)) ?_
  refine A_callV (M' := MX11_must) [.int 0, .int (nI a)] [] 93 dX11_takes_18 lk_RX11_99 oX11_must iX11_must rfl rfl ⟨lb rfl, lb rfl⟩ (lb rfl) ⟨lb rfl, lb rfl⟩ L93 rfl (c_must2 f a 0 (nI a) rfl) ?_
  rintro _ g0 ⟨rfl, hg0⟩
  rw [hg0]
  refine A_aload_n dX11_takes_21 rfl 0 rfl ?_
  refine A_dup dX11_takes_22 rfl ?_
  refine A_getI dX11_takes_23 fo_RX11_89 L93 rfl ?_
  refine A_topi (nI a) (rd_a f a (nI a) (by decide)) ?_
  refine A_iconst (v := 1) dX11_takes_26 rfl ?_
  refine A_iadd dX11_takes_27 ?_
  refine A_putI dX11_takes_28 fo_RX11_89 L93 rfl ?_
  refine A_eq rfl rfl (f' := rd 93 10 11 f (a + 1) (nI a)) (rd_ua f a (a + 1) (nI a) (by decide) (by simp only [lit, nI_add, pk_mul, Nat.add_zero])) ?_
  exact A_vret dX11_takes_31 rfl (⟨rfl, rfl⟩)
theorem c_n30 (f : Mem) (tn : Nat) (c : Nat → Nat) (hT : RTp f tn c) (hc : tcW c tn) (a : Nat) (ha : a < 2 ^ 28) (h : ¬ c a = 32) : C0 MX11_number [.ref 93, .int 1, .int 2, .int 0] (rd 93 10 11 f a (-1)) (fun r h => ∃ (x : Int32) (b : Nat), r = some (.int x) ∧ h = rd 93 10 11 f b (nI a)) := by
  refine Ct.of (lv := [(0, .ref 93), (1, .int 1), (2, .int 2), (3, .int 0)]) (by decide) (lb rfl) rfl ?_
  refine A_aload_n dX11_number_0 rfl 0 rfl ?_
  refine A_bipush (v := 32) dX11_number_1 rfl ?_
  refine A_callV (M' := MX11_takes) [.int 32] [] 93 dX11_number_3 lk_RX11_111 oX11_takes iX11_takes rfl rfl ⟨lb rfl, lb rfl⟩ (lb rfl) ⟨lb rfl, lb rfl⟩ L93 rfl (c_takes2 f tn c hT hc a (by omega) h) ?_
  rintro _ g0 ⟨rfl, hg0⟩
  rw [hg0]
  refine A_aload_n dX11_number_6 rfl 0 rfl ?_
  refine A_getI dX11_number_7 fo_RX11_89 L93 rfl ?_
  refine A_topi (nI (a + 1)) (rd_a f (a + 1) (nI a) (by decide)) ?_
  refine A_istore (lv' := [(4, .int (nI (a + 1))), (0, .ref 93), (1, .int 1), (2, .int 2), (3, .int 0)]) dX11_number_10 (lb rfl) rfl ?_
  refine A_iload_n dX11_number_12 rfl 4 rfl ?_
  refine A_if_eq (tgt := 29) dX11_number_13 rfl (fun h13 => ?_) (fun h13 => by exact absurd rfl h13)
  refine A_iconst (v := 0) dX11_number_29 rfl ?_
  refine A_istore (lv' := [(5, .int 0), (4, .int (nI (a + 1))), (0, .ref 93), (1, .int 1), (2, .int 2), (3, .int 0)]) dX11_number_30 (lb rfl) rfl ?_
  refine A_aload_n dX11_number_32 rfl 2 rfl ?_
  refine A_dup dX11_number_33 rfl ?_
  refine A_getI dX11_number_34 fo_RX11_89 L93 rfl ?_
  refine A_topi (nI (a + 1)) (rd_a f (a + 1) (nI a) (by decide)) ?_
  refine A_iload dX11_number_37 0 rfl ?_
  refine A_if_eq (tgt := 46) dX11_number_39 rfl (fun h39 => ?_) (fun h39 => by exact absurd rfl h39)
  refine A_iconst (v := 0) dX11_number_46 rfl ?_
  refine A_iadd dX11_number_47 ?_
  refine A_putI dX11_number_48 fo_RX11_89 L93 rfl ?_
  refine A_eq rfl rfl (f' := rd 93 10 11 f (a + 1) (nI a)) (rd_ua f (a + 1) (a + 1) (nI a) (by decide) (by simp only [lit, nI_add, pk_mul, Nat.add_zero])) ?_
  refine A_aload_n dX11_number_51 rfl 2 rfl ?_
  refine A_aload_n dX11_number_52 rfl 2 rfl ?_
  refine A_callV (M' := MX11_here) [] [.ref 93] 93 dX11_number_53 lk_RX11_95 oX11_here iX11_here rfl rfl ⟨lb rfl, lb rfl⟩ (lb rfl) ⟨lb rfl, lb rfl⟩ L93 rfl (c_here f tn c hT hc (a + 1) (nI a) (by omega)) ?_
  rintro _ g0 ⟨rfl, hg0⟩
  rw [hg0]
  refine A_i2l dX11_number_56 ?_
  refine A_ldc2 dX11_number_57 k_RX11_115 ?_
  refine A_ldc2 dX11_number_60 k_RX11_117 ?_
  refine A_callS (M' := MX11_in) [.long ((hV (c (a + 1))).toInt64), .long 48, .long 57] [.ref 93] dX11_number_63 lk_RX11_64 oX11_in sX11_in rfl rfl ⟨lb rfl, lb rfl⟩ (lb rfl) ⟨lb rfl, lb rfl⟩ (c_in _ _ _ _) ?_
  rintro _ g0 ⟨rfl, hg0⟩
  rw [hg0]
  refine A_topi (bz (isF (c (a + 1)))) (bz_c (hV_F _ (by have := hc.2.2.2 (a + 1); omega))) ?_
  refine A_aload_n dX11_number_66 rfl 2 rfl ?_
  refine A_getI dX11_number_67 fo_RX11_89 L93 rfl ?_
  refine A_topi (nI (a + 1)) (rd_a f (a + 1) (nI a) (by decide)) ?_
  refine A_callV (M' := MX11_must) [.int (bz (isF (c (a + 1)))), .int (nI (a + 1))] [] 93 dX11_number_70 lk_RX11_99 oX11_must iX11_must rfl rfl ⟨lb rfl, lb rfl⟩ (lb rfl) ⟨lb rfl, lb rfl⟩ L93 rfl (c_must0 f (a + 1) (nI a) (bz (isF (c (a + 1)))) (nI (a + 1)) (nI_ge0 (by omega))) ?_
  rintro _ g0 ⟨rfl, hg0⟩
  rw [hg0]
  refine A_iconst (v := 0) dX11_number_73 rfl ?_
  refine A_istore (lv' := [(6, .int 0), (5, .int 0), (4, .int (nI (a + 1))), (0, .ref 93), (1, .int 1), (2, .int 2), (3, .int 0)]) dX11_number_74 (lb rfl) rfl ?_
  refine A_iconst (v := 0) dX11_number_76 rfl ?_
  refine A_istore (lv' := [(7, .int 0), (6, .int 0), (5, .int 0), (4, .int (nI (a + 1))), (0, .ref 93), (1, .int 1), (2, .int 2), (3, .int 0)]) dX11_number_77 (lb rfl) rfl ?_
  refine A_iload dX11_number_79 0 rfl ?_
  refine A_iload_n dX11_number_81 rfl 5 rfl ?_
  refine A_icmp_ge (tgt := 133) dX11_number_82 rfl (fun h82 => by exact absurd h82 (by decide)) (fun h82 => ?_)
  refine A_aload_n dX11_number_85 rfl 4 rfl ?_
  refine A_callV (M' := MX11_here) [] [] 93 dX11_number_86 lk_RX11_95 oX11_here iX11_here rfl rfl ⟨lb rfl, lb rfl⟩ (lb rfl) ⟨lb rfl, lb rfl⟩ L93 rfl (c_here f tn c hT hc (a + 1) (nI a) (by omega)) ?_
  rintro _ g0 ⟨rfl, hg0⟩
  rw [hg0]
  refine A_i2l dX11_number_89 ?_
  refine A_ldc2 dX11_number_90 k_RX11_115 ?_
  refine A_ldc2 dX11_number_93 k_RX11_117 ?_
  refine A_callS (M' := MX11_in) [.long ((hV (c (a + 1))).toInt64), .long 48, .long 57] [] dX11_number_96 lk_RX11_64 oX11_in sX11_in rfl rfl ⟨lb rfl, lb rfl⟩ (lb rfl) ⟨lb rfl, lb rfl⟩ (c_in _ _ _ _) ?_
  rintro _ g0 ⟨rfl, hg0⟩
  rw [hg0]
  refine A_topi (bz (isF (c (a + 1)))) (bz_c (hV_F _ (by have := hc.2.2.2 (a + 1); omega))) ?_
  refine A_if_eq (tgt := 133) dX11_number_99 rfl (fun h99 => ?_) (fun h99 => ?_)
  · refine A_aload_n dX11_number_133 rfl 4 rfl ?_
    refine A_iload dX11_number_134 1 rfl ?_
    refine A_iload_n dX11_number_136 rfl 6 rfl ?_
    refine A_icmp_gt (tgt := 144) dX11_number_137 rfl (fun h137 => by exact absurd h137 (by decide)) (fun h137 => ?_)
    refine A_iconst (v := 1) dX11_number_140 rfl ?_
    refine A_goto (tgt := 145) dX11_number_141 rfl ?_
    refine A_iload dX11_number_145 3 rfl ?_
    refine A_callV (M' := MX11_must) [.int 1, .int (nI (a + 1))] [] 93 dX11_number_147 lk_RX11_99 oX11_must iX11_must rfl rfl ⟨lb rfl, lb rfl⟩ (lb rfl) ⟨lb rfl, lb rfl⟩ L93 rfl (c_must0 f (a + 1) (nI a) 1 (nI (a + 1)) (nI_ge0 (by omega))) ?_
    rintro _ g0 ⟨rfl, hg0⟩
    rw [hg0]
    refine A_iload dX11_number_150 2 rfl ?_
    refine A_if_eq (tgt := 161) dX11_number_152 rfl (fun h152 => ?_) (fun h152 => by exact absurd rfl h152)
    refine A_iload dX11_number_161 1 rfl ?_
    exact A_iret dX11_number_163 rfl (⟨_, _, rfl, rfl⟩)
  · have hF1 := bz_n0.mp h99
    refine A_bipush (v := 10) dX11_number_102 rfl ?_
    refine A_iload dX11_number_104 1 rfl ?_
    refine A_imul dX11_number_106 ?_
    refine A_topi (0) (by decide) ?_
    refine A_aload_n dX11_number_107 rfl 4 rfl ?_
    refine A_callV (M' := MX11_here) [] [.int 0] 93 dX11_number_108 lk_RX11_95 oX11_here iX11_here rfl rfl ⟨lb rfl, lb rfl⟩ (lb rfl) ⟨lb rfl, lb rfl⟩ L93 rfl (c_here f tn c hT hc (a + 1) (nI a) (by omega)) ?_
    rintro _ g0 ⟨rfl, hg0⟩
    rw [hg0]
    refine A_topi (nI (c (a + 1))) (hV_n (bz_n0.mp h99)) ?_
    refine A_iadd dX11_number_111 ?_
    refine A_bipush (v := 48) dX11_number_112 rfl ?_
    refine A_isub dX11_number_114 ?_
    refine A_topi (nI (c (a + 1) - 48)) (fig1 _ (by omega) (by omega)) ?_
    refine A_istore (lv' := [(6, .int (nI (c (a + 1) - 48))), (7, .int 0), (5, .int 0), (4, .int (nI (a + 1))), (0, .ref 93), (1, .int 1), (2, .int 2), (3, .int 0)]) dX11_number_115 (lb rfl) rfl ?_
    refine A_aload_n dX11_number_117 rfl 4 rfl ?_
    refine A_dup dX11_number_118 rfl ?_
    refine A_getI dX11_number_119 fo_RX11_89 L93 rfl ?_
    refine A_topi (nI (a + 1)) (rd_a f (a + 1) (nI a) (by decide)) ?_
    refine A_iconst (v := 1) dX11_number_122 rfl ?_
    refine A_iadd dX11_number_123 ?_
    refine A_putI dX11_number_124 fo_RX11_89 L93 rfl ?_
    refine A_eq rfl rfl (f' := rd 93 10 11 f (a + 1 + 1) (nI a)) (rd_ua f (a + 1) (a + 1 + 1) (nI a) (by decide) (by simp only [lit, nI_add, pk_mul, Nat.add_zero])) ?_
    refine A_iinc (lv' := [(7, .int 1), (6, .int (nI (c (a + 1) - 48))), (5, .int 0), (4, .int (nI (a + 1))), (0, .ref 93), (1, .int 1), (2, .int 2), (3, .int 0)]) dX11_number_127 1 rfl rfl (lb rfl) rfl ?_
    refine A_goto (tgt := 79) dX11_number_130 rfl ?_
    refine A_iload dX11_number_79 0 rfl ?_
    refine A_iload_n dX11_number_81 rfl 5 rfl ?_
    refine A_icmp_ge (tgt := 133) dX11_number_82 rfl (fun h82 => ?_) (fun h82 => by exact absurd (by decide) h82)
    refine A_aload_n dX11_number_133 rfl 4 rfl ?_
    refine A_iload dX11_number_134 1 rfl ?_
    refine A_iload_n dX11_number_136 rfl 6 rfl ?_
    refine A_icmp_gt (tgt := 144) dX11_number_137 rfl (fun h137 => ?_) (fun h137 => ?_)
    · refine A_iconst (v := 0) dX11_number_144 rfl ?_
      refine A_iload dX11_number_145 3 rfl ?_
      refine A_callV (M' := MX11_must) [.int 0, .int (nI (a + 1))] [] 93 dX11_number_147 lk_RX11_99 oX11_must iX11_must rfl rfl ⟨lb rfl, lb rfl⟩ (lb rfl) ⟨lb rfl, lb rfl⟩ L93 rfl (c_must0 f (a + 1 + 1) (nI a) 0 (nI (a + 1)) (nI_ge0 (by omega))) ?_
      rintro _ g0 ⟨rfl, hg0⟩
      rw [hg0]
      refine A_iload dX11_number_150 2 rfl ?_
      refine A_if_eq (tgt := 161) dX11_number_152 rfl (fun h152 => ?_) (fun h152 => by exact absurd rfl h152)
      refine A_iload dX11_number_161 1 rfl ?_
      exact A_iret dX11_number_163 rfl (⟨_, _, rfl, rfl⟩)
    · refine A_iconst (v := 1) dX11_number_140 rfl ?_
      refine A_goto (tgt := 145) dX11_number_141 rfl ?_
      refine A_iload dX11_number_145 3 rfl ?_
      refine A_callV (M' := MX11_must) [.int 1, .int (nI (a + 1))] [] 93 dX11_number_147 lk_RX11_99 oX11_must iX11_must rfl rfl ⟨lb rfl, lb rfl⟩ (lb rfl) ⟨lb rfl, lb rfl⟩ L93 rfl (c_must0 f (a + 1 + 1) (nI a) 1 (nI (a + 1)) (nI_ge0 (by omega))) ?_
      rintro _ g0 ⟨rfl, hg0⟩
      rw [hg0]
      refine A_iload dX11_number_150 2 rfl ?_
      refine A_if_eq (tgt := 161) dX11_number_152 rfl (fun h152 => ?_) (fun h152 => by exact absurd rfl h152)
      refine A_iload dX11_number_161 1 rfl ?_
      exact A_iret dX11_number_163 rfl (⟨_, _, rfl, rfl⟩)
theorem c_n31 (f : Mem) (tn : Nat) (c : Nat → Nat) (hT : RTp f tn c) (hc : tcW c tn) (a : Nat) (ha : a < 2 ^ 28) (h : c a = 32) (h1 : ¬ isF (c (a + 1))) : C0 MX11_number [.ref 93, .int 1, .int 2, .int 0] (rd 93 10 11 f a (-1)) (fun r h => ∃ (x : Int32) (b : Nat), r = some (.int x) ∧ h = rd 93 10 11 f b (nI (a + 1))) := by
  refine Ct.of (lv := [(0, .ref 93), (1, .int 1), (2, .int 2), (3, .int 0)]) (by decide) (lb rfl) rfl ?_
  refine A_aload_n dX11_number_0 rfl 0 rfl ?_
  refine A_bipush (v := 32) dX11_number_1 rfl ?_
  refine A_callV (M' := MX11_takes) [.int 32] [] 93 dX11_number_3 lk_RX11_111 oX11_takes iX11_takes rfl rfl ⟨lb rfl, lb rfl⟩ (lb rfl) ⟨lb rfl, lb rfl⟩ L93 rfl (c_takes1 f tn c hT hc a (by omega) h) ?_
  rintro _ g0 ⟨rfl, hg0⟩
  rw [hg0]
  refine A_aload_n dX11_number_6 rfl 0 rfl ?_
  refine A_getI dX11_number_7 fo_RX11_89 L93 rfl ?_
  refine A_topi (nI (a + 1)) (rd_a f (a + 1) (-1) (by decide)) ?_
  refine A_istore (lv' := [(4, .int (nI (a + 1))), (0, .ref 93), (1, .int 1), (2, .int 2), (3, .int 0)]) dX11_number_10 (lb rfl) rfl ?_
  refine A_iload_n dX11_number_12 rfl 4 rfl ?_
  refine A_if_eq (tgt := 29) dX11_number_13 rfl (fun h13 => ?_) (fun h13 => by exact absurd rfl h13)
  refine A_iconst (v := 0) dX11_number_29 rfl ?_
  refine A_istore (lv' := [(5, .int 0), (4, .int (nI (a + 1))), (0, .ref 93), (1, .int 1), (2, .int 2), (3, .int 0)]) dX11_number_30 (lb rfl) rfl ?_
  refine A_aload_n dX11_number_32 rfl 2 rfl ?_
  refine A_dup dX11_number_33 rfl ?_
  refine A_getI dX11_number_34 fo_RX11_89 L93 rfl ?_
  refine A_topi (nI (a + 1)) (rd_a f (a + 1) (-1) (by decide)) ?_
  refine A_iload dX11_number_37 0 rfl ?_
  refine A_if_eq (tgt := 46) dX11_number_39 rfl (fun h39 => ?_) (fun h39 => by exact absurd rfl h39)
  refine A_iconst (v := 0) dX11_number_46 rfl ?_
  refine A_iadd dX11_number_47 ?_
  refine A_putI dX11_number_48 fo_RX11_89 L93 rfl ?_
  refine A_eq rfl rfl (f' := rd 93 10 11 f (a + 1) (-1)) (rd_ua f (a + 1) (a + 1) (-1) (by decide) (by simp only [lit, nI_add, pk_mul, Nat.add_zero])) ?_
  refine A_aload_n dX11_number_51 rfl 2 rfl ?_
  refine A_aload_n dX11_number_52 rfl 2 rfl ?_
  refine A_callV (M' := MX11_here) [] [.ref 93] 93 dX11_number_53 lk_RX11_95 oX11_here iX11_here rfl rfl ⟨lb rfl, lb rfl⟩ (lb rfl) ⟨lb rfl, lb rfl⟩ L93 rfl (c_here f tn c hT hc (a + 1) (-1) (by omega)) ?_
  rintro _ g0 ⟨rfl, hg0⟩
  rw [hg0]
  refine A_i2l dX11_number_56 ?_
  refine A_ldc2 dX11_number_57 k_RX11_115 ?_
  refine A_ldc2 dX11_number_60 k_RX11_117 ?_
  refine A_callS (M' := MX11_in) [.long ((hV (c (a + 1))).toInt64), .long 48, .long 57] [.ref 93] dX11_number_63 lk_RX11_64 oX11_in sX11_in rfl rfl ⟨lb rfl, lb rfl⟩ (lb rfl) ⟨lb rfl, lb rfl⟩ (c_in _ _ _ _) ?_
  rintro _ g0 ⟨rfl, hg0⟩
  rw [hg0]
  refine A_topi (bz (isF (c (a + 1)))) (bz_c (hV_F _ (by have := hc.2.2.2 (a + 1); omega))) ?_
  refine A_aload_n dX11_number_66 rfl 2 rfl ?_
  refine A_getI dX11_number_67 fo_RX11_89 L93 rfl ?_
  refine A_topi (nI (a + 1)) (rd_a f (a + 1) (-1) (by decide)) ?_
  refine A_callV (M' := MX11_must) [.int (bz (isF (c (a + 1)))), .int (nI (a + 1))] [] 93 dX11_number_70 lk_RX11_99 oX11_must iX11_must rfl rfl ⟨lb rfl, lb rfl⟩ (lb rfl) ⟨lb rfl, lb rfl⟩ L93 rfl (c_must2 f (a + 1) (bz (isF (c (a + 1)))) (nI (a + 1)) (bz_0.mpr h1)) ?_
  rintro _ g0 ⟨rfl, hg0⟩
  rw [hg0]
  refine A_iconst (v := 0) dX11_number_73 rfl ?_
  refine A_istore (lv' := [(6, .int 0), (5, .int 0), (4, .int (nI (a + 1))), (0, .ref 93), (1, .int 1), (2, .int 2), (3, .int 0)]) dX11_number_74 (lb rfl) rfl ?_
  refine A_iconst (v := 0) dX11_number_76 rfl ?_
  refine A_istore (lv' := [(7, .int 0), (6, .int 0), (5, .int 0), (4, .int (nI (a + 1))), (0, .ref 93), (1, .int 1), (2, .int 2), (3, .int 0)]) dX11_number_77 (lb rfl) rfl ?_
  refine A_iload dX11_number_79 0 rfl ?_
  refine A_iload_n dX11_number_81 rfl 5 rfl ?_
  refine A_icmp_ge (tgt := 133) dX11_number_82 rfl (fun h82 => by exact absurd h82 (by decide)) (fun h82 => ?_)
  refine A_aload_n dX11_number_85 rfl 4 rfl ?_
  refine A_callV (M' := MX11_here) [] [] 93 dX11_number_86 lk_RX11_95 oX11_here iX11_here rfl rfl ⟨lb rfl, lb rfl⟩ (lb rfl) ⟨lb rfl, lb rfl⟩ L93 rfl (c_here f tn c hT hc (a + 1) (nI (a + 1)) (by omega)) ?_
  rintro _ g0 ⟨rfl, hg0⟩
  rw [hg0]
  refine A_i2l dX11_number_89 ?_
  refine A_ldc2 dX11_number_90 k_RX11_115 ?_
  refine A_ldc2 dX11_number_93 k_RX11_117 ?_
  refine A_callS (M' := MX11_in) [.long ((hV (c (a + 1))).toInt64), .long 48, .long 57] [] dX11_number_96 lk_RX11_64 oX11_in sX11_in rfl rfl ⟨lb rfl, lb rfl⟩ (lb rfl) ⟨lb rfl, lb rfl⟩ (c_in _ _ _ _) ?_
  rintro _ g0 ⟨rfl, hg0⟩
  rw [hg0]
  refine A_topi (bz (isF (c (a + 1)))) (bz_c (hV_F _ (by have := hc.2.2.2 (a + 1); omega))) ?_
  refine A_if_eq (tgt := 133) dX11_number_99 rfl (fun h99 => ?_) (fun h99 => by exact absurd (bz_n0.mp h99) h1)
  refine A_aload_n dX11_number_133 rfl 4 rfl ?_
  refine A_iload dX11_number_134 1 rfl ?_
  refine A_iload_n dX11_number_136 rfl 6 rfl ?_
  refine A_icmp_gt (tgt := 144) dX11_number_137 rfl (fun h137 => by exact absurd h137 (by decide)) (fun h137 => ?_)
  refine A_iconst (v := 1) dX11_number_140 rfl ?_
  refine A_goto (tgt := 145) dX11_number_141 rfl ?_
  refine A_iload dX11_number_145 3 rfl ?_
  refine A_callV (M' := MX11_must) [.int 1, .int (nI (a + 1))] [] 93 dX11_number_147 lk_RX11_99 oX11_must iX11_must rfl rfl ⟨lb rfl, lb rfl⟩ (lb rfl) ⟨lb rfl, lb rfl⟩ L93 rfl (c_must0 f (a + 1) (nI (a + 1)) 1 (nI (a + 1)) (nI_ge0 (by omega))) ?_
  rintro _ g0 ⟨rfl, hg0⟩
  rw [hg0]
  refine A_iload dX11_number_150 2 rfl ?_
  refine A_if_eq (tgt := 161) dX11_number_152 rfl (fun h152 => ?_) (fun h152 => by exact absurd rfl h152)
  refine A_iload dX11_number_161 1 rfl ?_
  exact A_iret dX11_number_163 rfl (⟨_, _, rfl, rfl⟩)
theorem c_n32 (f : Mem) (tn : Nat) (c : Nat → Nat) (hT : RTp f tn c) (hc : tcW c tn) (a : Nat) (ha : a < 2 ^ 28) (h : c a = 32) (h1 : isF (c (a + 1))) (hv : c (a + 1) - 48 ≤ 2) : C0 MX11_number [.ref 93, .int 1, .int 2, .int 0] (rd 93 10 11 f a (-1)) (rt (some (.int (nI (c (a + 1) - 48)))) (rd 93 10 11 f (a + 1 + 1) (-1))) := by
  refine Ct.of (lv := [(0, .ref 93), (1, .int 1), (2, .int 2), (3, .int 0)]) (by decide) (lb rfl) rfl ?_
  refine A_aload_n dX11_number_0 rfl 0 rfl ?_
  refine A_bipush (v := 32) dX11_number_1 rfl ?_
  refine A_callV (M' := MX11_takes) [.int 32] [] 93 dX11_number_3 lk_RX11_111 oX11_takes iX11_takes rfl rfl ⟨lb rfl, lb rfl⟩ (lb rfl) ⟨lb rfl, lb rfl⟩ L93 rfl (c_takes1 f tn c hT hc a (by omega) h) ?_
  rintro _ g0 ⟨rfl, hg0⟩
  rw [hg0]
  refine A_aload_n dX11_number_6 rfl 0 rfl ?_
  refine A_getI dX11_number_7 fo_RX11_89 L93 rfl ?_
  refine A_topi (nI (a + 1)) (rd_a f (a + 1) (-1) (by decide)) ?_
  refine A_istore (lv' := [(4, .int (nI (a + 1))), (0, .ref 93), (1, .int 1), (2, .int 2), (3, .int 0)]) dX11_number_10 (lb rfl) rfl ?_
  refine A_iload_n dX11_number_12 rfl 4 rfl ?_
  refine A_if_eq (tgt := 29) dX11_number_13 rfl (fun h13 => ?_) (fun h13 => by exact absurd rfl h13)
  refine A_iconst (v := 0) dX11_number_29 rfl ?_
  refine A_istore (lv' := [(5, .int 0), (4, .int (nI (a + 1))), (0, .ref 93), (1, .int 1), (2, .int 2), (3, .int 0)]) dX11_number_30 (lb rfl) rfl ?_
  refine A_aload_n dX11_number_32 rfl 2 rfl ?_
  refine A_dup dX11_number_33 rfl ?_
  refine A_getI dX11_number_34 fo_RX11_89 L93 rfl ?_
  refine A_topi (nI (a + 1)) (rd_a f (a + 1) (-1) (by decide)) ?_
  refine A_iload dX11_number_37 0 rfl ?_
  refine A_if_eq (tgt := 46) dX11_number_39 rfl (fun h39 => ?_) (fun h39 => by exact absurd rfl h39)
  refine A_iconst (v := 0) dX11_number_46 rfl ?_
  refine A_iadd dX11_number_47 ?_
  refine A_putI dX11_number_48 fo_RX11_89 L93 rfl ?_
  refine A_eq rfl rfl (f' := rd 93 10 11 f (a + 1) (-1)) (rd_ua f (a + 1) (a + 1) (-1) (by decide) (by simp only [lit, nI_add, pk_mul, Nat.add_zero])) ?_
  refine A_aload_n dX11_number_51 rfl 2 rfl ?_
  refine A_aload_n dX11_number_52 rfl 2 rfl ?_
  refine A_callV (M' := MX11_here) [] [.ref 93] 93 dX11_number_53 lk_RX11_95 oX11_here iX11_here rfl rfl ⟨lb rfl, lb rfl⟩ (lb rfl) ⟨lb rfl, lb rfl⟩ L93 rfl (c_here f tn c hT hc (a + 1) (-1) (by omega)) ?_
  rintro _ g0 ⟨rfl, hg0⟩
  rw [hg0]
  refine A_i2l dX11_number_56 ?_
  refine A_ldc2 dX11_number_57 k_RX11_115 ?_
  refine A_ldc2 dX11_number_60 k_RX11_117 ?_
  refine A_callS (M' := MX11_in) [.long ((hV (c (a + 1))).toInt64), .long 48, .long 57] [.ref 93] dX11_number_63 lk_RX11_64 oX11_in sX11_in rfl rfl ⟨lb rfl, lb rfl⟩ (lb rfl) ⟨lb rfl, lb rfl⟩ (c_in _ _ _ _) ?_
  rintro _ g0 ⟨rfl, hg0⟩
  rw [hg0]
  refine A_topi (bz (isF (c (a + 1)))) (bz_c (hV_F _ (by have := hc.2.2.2 (a + 1); omega))) ?_
  refine A_aload_n dX11_number_66 rfl 2 rfl ?_
  refine A_getI dX11_number_67 fo_RX11_89 L93 rfl ?_
  refine A_topi (nI (a + 1)) (rd_a f (a + 1) (-1) (by decide)) ?_
  refine A_callV (M' := MX11_must) [.int (bz (isF (c (a + 1)))), .int (nI (a + 1))] [] 93 dX11_number_70 lk_RX11_99 oX11_must iX11_must rfl rfl ⟨lb rfl, lb rfl⟩ (lb rfl) ⟨lb rfl, lb rfl⟩ L93 rfl (c_must1 f (a + 1) (bz (isF (c (a + 1)))) (nI (a + 1)) (bz_n0.mpr h1)) ?_
  rintro _ g0 ⟨rfl, hg0⟩
  rw [hg0]
  refine A_iconst (v := 0) dX11_number_73 rfl ?_
  refine A_istore (lv' := [(6, .int 0), (5, .int 0), (4, .int (nI (a + 1))), (0, .ref 93), (1, .int 1), (2, .int 2), (3, .int 0)]) dX11_number_74 (lb rfl) rfl ?_
  refine A_iconst (v := 0) dX11_number_76 rfl ?_
  refine A_istore (lv' := [(7, .int 0), (6, .int 0), (5, .int 0), (4, .int (nI (a + 1))), (0, .ref 93), (1, .int 1), (2, .int 2), (3, .int 0)]) dX11_number_77 (lb rfl) rfl ?_
  refine A_iload dX11_number_79 0 rfl ?_
  refine A_iload_n dX11_number_81 rfl 5 rfl ?_
  refine A_icmp_ge (tgt := 133) dX11_number_82 rfl (fun h82 => by exact absurd h82 (by decide)) (fun h82 => ?_)
  refine A_aload_n dX11_number_85 rfl 4 rfl ?_
  refine A_callV (M' := MX11_here) [] [] 93 dX11_number_86 lk_RX11_95 oX11_here iX11_here rfl rfl ⟨lb rfl, lb rfl⟩ (lb rfl) ⟨lb rfl, lb rfl⟩ L93 rfl (c_here f tn c hT hc (a + 1) (-1) (by omega)) ?_
  rintro _ g0 ⟨rfl, hg0⟩
  rw [hg0]
  refine A_i2l dX11_number_89 ?_
  refine A_ldc2 dX11_number_90 k_RX11_115 ?_
  refine A_ldc2 dX11_number_93 k_RX11_117 ?_
  refine A_callS (M' := MX11_in) [.long ((hV (c (a + 1))).toInt64), .long 48, .long 57] [] dX11_number_96 lk_RX11_64 oX11_in sX11_in rfl rfl ⟨lb rfl, lb rfl⟩ (lb rfl) ⟨lb rfl, lb rfl⟩ (c_in _ _ _ _) ?_
  rintro _ g0 ⟨rfl, hg0⟩
  rw [hg0]
  refine A_topi (bz (isF (c (a + 1)))) (bz_c (hV_F _ (by have := hc.2.2.2 (a + 1); omega))) ?_
  refine A_if_eq (tgt := 133) dX11_number_99 rfl (fun h99 => by exact absurd h1 (bz_0.mp h99)) (fun h99 => ?_)
  refine A_bipush (v := 10) dX11_number_102 rfl ?_
  refine A_iload dX11_number_104 1 rfl ?_
  refine A_imul dX11_number_106 ?_
  refine A_topi (0) (by decide) ?_
  refine A_aload_n dX11_number_107 rfl 4 rfl ?_
  refine A_callV (M' := MX11_here) [] [.int 0] 93 dX11_number_108 lk_RX11_95 oX11_here iX11_here rfl rfl ⟨lb rfl, lb rfl⟩ (lb rfl) ⟨lb rfl, lb rfl⟩ L93 rfl (c_here f tn c hT hc (a + 1) (-1) (by omega)) ?_
  rintro _ g0 ⟨rfl, hg0⟩
  rw [hg0]
  refine A_topi (nI (c (a + 1))) (hV_n h1) ?_
  refine A_iadd dX11_number_111 ?_
  refine A_bipush (v := 48) dX11_number_112 rfl ?_
  refine A_isub dX11_number_114 ?_
  refine A_topi (nI (c (a + 1) - 48)) (fig1 _ (by omega) (by omega)) ?_
  refine A_istore (lv' := [(6, .int (nI (c (a + 1) - 48))), (7, .int 0), (5, .int 0), (4, .int (nI (a + 1))), (0, .ref 93), (1, .int 1), (2, .int 2), (3, .int 0)]) dX11_number_115 (lb rfl) rfl ?_
  refine A_aload_n dX11_number_117 rfl 4 rfl ?_
  refine A_dup dX11_number_118 rfl ?_
  refine A_getI dX11_number_119 fo_RX11_89 L93 rfl ?_
  refine A_topi (nI (a + 1)) (rd_a f (a + 1) (-1) (by decide)) ?_
  refine A_iconst (v := 1) dX11_number_122 rfl ?_
  refine A_iadd dX11_number_123 ?_
  refine A_putI dX11_number_124 fo_RX11_89 L93 rfl ?_
  refine A_eq rfl rfl (f' := rd 93 10 11 f (a + 1 + 1) (-1)) (rd_ua f (a + 1) (a + 1 + 1) (-1) (by decide) (by simp only [lit, nI_add, pk_mul, Nat.add_zero])) ?_
  refine A_iinc (lv' := [(7, .int 1), (6, .int (nI (c (a + 1) - 48))), (5, .int 0), (4, .int (nI (a + 1))), (0, .ref 93), (1, .int 1), (2, .int 2), (3, .int 0)]) dX11_number_127 1 rfl rfl (lb rfl) rfl ?_
  refine A_goto (tgt := 79) dX11_number_130 rfl ?_
  refine A_iload dX11_number_79 0 rfl ?_
  refine A_iload_n dX11_number_81 rfl 5 rfl ?_
  refine A_icmp_ge (tgt := 133) dX11_number_82 rfl (fun h82 => ?_) (fun h82 => by exact absurd (by decide) h82)
  refine A_aload_n dX11_number_133 rfl 4 rfl ?_
  refine A_iload dX11_number_134 1 rfl ?_
  refine A_iload_n dX11_number_136 rfl 6 rfl ?_
  refine A_icmp_gt (tgt := 144) dX11_number_137 rfl (fun h137 => by exact absurd h137 (fun t => by rw [show (2 : Int32) = nI 2 from rfl, nI_ltI (by omega) (by omega)] at t; omega)) (fun h137 => ?_)
  refine A_iconst (v := 1) dX11_number_140 rfl ?_
  refine A_goto (tgt := 145) dX11_number_141 rfl ?_
  refine A_iload dX11_number_145 3 rfl ?_
  refine A_callV (M' := MX11_must) [.int 1, .int (nI (a + 1))] [] 93 dX11_number_147 lk_RX11_99 oX11_must iX11_must rfl rfl ⟨lb rfl, lb rfl⟩ (lb rfl) ⟨lb rfl, lb rfl⟩ L93 rfl (c_must1 f (a + 1 + 1) 1 (nI (a + 1)) (by decide)) ?_
  rintro _ g0 ⟨rfl, hg0⟩
  rw [hg0]
  refine A_iload dX11_number_150 2 rfl ?_
  refine A_if_eq (tgt := 161) dX11_number_152 rfl (fun h152 => ?_) (fun h152 => by exact absurd rfl h152)
  refine A_iload dX11_number_161 1 rfl ?_
  exact A_iret dX11_number_163 rfl (⟨rfl, rfl⟩)
theorem c_n33 (f : Mem) (tn : Nat) (c : Nat → Nat) (hT : RTp f tn c) (hc : tcW c tn) (a : Nat) (ha : a < 2 ^ 28) (h : c a = 32) (h1 : isF (c (a + 1))) (hv : ¬ c (a + 1) - 48 ≤ 2) : C0 MX11_number [.ref 93, .int 1, .int 2, .int 0] (rd 93 10 11 f a (-1)) (fun r h => ∃ (x : Int32) (b : Nat), r = some (.int x) ∧ h = rd 93 10 11 f b (nI (a + 1))) := by
  refine Ct.of (lv := [(0, .ref 93), (1, .int 1), (2, .int 2), (3, .int 0)]) (by decide) (lb rfl) rfl ?_
  refine A_aload_n dX11_number_0 rfl 0 rfl ?_
  refine A_bipush (v := 32) dX11_number_1 rfl ?_
  refine A_callV (M' := MX11_takes) [.int 32] [] 93 dX11_number_3 lk_RX11_111 oX11_takes iX11_takes rfl rfl ⟨lb rfl, lb rfl⟩ (lb rfl) ⟨lb rfl, lb rfl⟩ L93 rfl (c_takes1 f tn c hT hc a (by omega) h) ?_
  rintro _ g0 ⟨rfl, hg0⟩
  rw [hg0]
  refine A_aload_n dX11_number_6 rfl 0 rfl ?_
  refine A_getI dX11_number_7 fo_RX11_89 L93 rfl ?_
  refine A_topi (nI (a + 1)) (rd_a f (a + 1) (-1) (by decide)) ?_
  refine A_istore (lv' := [(4, .int (nI (a + 1))), (0, .ref 93), (1, .int 1), (2, .int 2), (3, .int 0)]) dX11_number_10 (lb rfl) rfl ?_
  refine A_iload_n dX11_number_12 rfl 4 rfl ?_
  refine A_if_eq (tgt := 29) dX11_number_13 rfl (fun h13 => ?_) (fun h13 => by exact absurd rfl h13)
  refine A_iconst (v := 0) dX11_number_29 rfl ?_
  refine A_istore (lv' := [(5, .int 0), (4, .int (nI (a + 1))), (0, .ref 93), (1, .int 1), (2, .int 2), (3, .int 0)]) dX11_number_30 (lb rfl) rfl ?_
  refine A_aload_n dX11_number_32 rfl 2 rfl ?_
  refine A_dup dX11_number_33 rfl ?_
  refine A_getI dX11_number_34 fo_RX11_89 L93 rfl ?_
  refine A_topi (nI (a + 1)) (rd_a f (a + 1) (-1) (by decide)) ?_
  refine A_iload dX11_number_37 0 rfl ?_
  refine A_if_eq (tgt := 46) dX11_number_39 rfl (fun h39 => ?_) (fun h39 => by exact absurd rfl h39)
  refine A_iconst (v := 0) dX11_number_46 rfl ?_
  refine A_iadd dX11_number_47 ?_
  refine A_putI dX11_number_48 fo_RX11_89 L93 rfl ?_
  refine A_eq rfl rfl (f' := rd 93 10 11 f (a + 1) (-1)) (rd_ua f (a + 1) (a + 1) (-1) (by decide) (by simp only [lit, nI_add, pk_mul, Nat.add_zero])) ?_
  refine A_aload_n dX11_number_51 rfl 2 rfl ?_
  refine A_aload_n dX11_number_52 rfl 2 rfl ?_
  refine A_callV (M' := MX11_here) [] [.ref 93] 93 dX11_number_53 lk_RX11_95 oX11_here iX11_here rfl rfl ⟨lb rfl, lb rfl⟩ (lb rfl) ⟨lb rfl, lb rfl⟩ L93 rfl (c_here f tn c hT hc (a + 1) (-1) (by omega)) ?_
  rintro _ g0 ⟨rfl, hg0⟩
  rw [hg0]
  refine A_i2l dX11_number_56 ?_
  refine A_ldc2 dX11_number_57 k_RX11_115 ?_
  refine A_ldc2 dX11_number_60 k_RX11_117 ?_
  refine A_callS (M' := MX11_in) [.long ((hV (c (a + 1))).toInt64), .long 48, .long 57] [.ref 93] dX11_number_63 lk_RX11_64 oX11_in sX11_in rfl rfl ⟨lb rfl, lb rfl⟩ (lb rfl) ⟨lb rfl, lb rfl⟩ (c_in _ _ _ _) ?_
  rintro _ g0 ⟨rfl, hg0⟩
  rw [hg0]
  refine A_topi (bz (isF (c (a + 1)))) (bz_c (hV_F _ (by have := hc.2.2.2 (a + 1); omega))) ?_
  refine A_aload_n dX11_number_66 rfl 2 rfl ?_
  refine A_getI dX11_number_67 fo_RX11_89 L93 rfl ?_
  refine A_topi (nI (a + 1)) (rd_a f (a + 1) (-1) (by decide)) ?_
  refine A_callV (M' := MX11_must) [.int (bz (isF (c (a + 1)))), .int (nI (a + 1))] [] 93 dX11_number_70 lk_RX11_99 oX11_must iX11_must rfl rfl ⟨lb rfl, lb rfl⟩ (lb rfl) ⟨lb rfl, lb rfl⟩ L93 rfl (c_must1 f (a + 1) (bz (isF (c (a + 1)))) (nI (a + 1)) (bz_n0.mpr h1)) ?_
  rintro _ g0 ⟨rfl, hg0⟩
  rw [hg0]
  refine A_iconst (v := 0) dX11_number_73 rfl ?_
  refine A_istore (lv' := [(6, .int 0), (5, .int 0), (4, .int (nI (a + 1))), (0, .ref 93), (1, .int 1), (2, .int 2), (3, .int 0)]) dX11_number_74 (lb rfl) rfl ?_
  refine A_iconst (v := 0) dX11_number_76 rfl ?_
  refine A_istore (lv' := [(7, .int 0), (6, .int 0), (5, .int 0), (4, .int (nI (a + 1))), (0, .ref 93), (1, .int 1), (2, .int 2), (3, .int 0)]) dX11_number_77 (lb rfl) rfl ?_
  refine A_iload dX11_number_79 0 rfl ?_
  refine A_iload_n dX11_number_81 rfl 5 rfl ?_
  refine A_icmp_ge (tgt := 133) dX11_number_82 rfl (fun h82 => by exact absurd h82 (by decide)) (fun h82 => ?_)
  refine A_aload_n dX11_number_85 rfl 4 rfl ?_
  refine A_callV (M' := MX11_here) [] [] 93 dX11_number_86 lk_RX11_95 oX11_here iX11_here rfl rfl ⟨lb rfl, lb rfl⟩ (lb rfl) ⟨lb rfl, lb rfl⟩ L93 rfl (c_here f tn c hT hc (a + 1) (-1) (by omega)) ?_
  rintro _ g0 ⟨rfl, hg0⟩
  rw [hg0]
  refine A_i2l dX11_number_89 ?_
  refine A_ldc2 dX11_number_90 k_RX11_115 ?_
  refine A_ldc2 dX11_number_93 k_RX11_117 ?_
  refine A_callS (M' := MX11_in) [.long ((hV (c (a + 1))).toInt64), .long 48, .long 57] [] dX11_number_96 lk_RX11_64 oX11_in sX11_in rfl rfl ⟨lb rfl, lb rfl⟩ (lb rfl) ⟨lb rfl, lb rfl⟩ (c_in _ _ _ _) ?_
  rintro _ g0 ⟨rfl, hg0⟩
  rw [hg0]
  refine A_topi (bz (isF (c (a + 1)))) (bz_c (hV_F _ (by have := hc.2.2.2 (a + 1); omega))) ?_
  refine A_if_eq (tgt := 133) dX11_number_99 rfl (fun h99 => by exact absurd h1 (bz_0.mp h99)) (fun h99 => ?_)
  refine A_bipush (v := 10) dX11_number_102 rfl ?_
  refine A_iload dX11_number_104 1 rfl ?_
  refine A_imul dX11_number_106 ?_
  refine A_topi (0) (by decide) ?_
  refine A_aload_n dX11_number_107 rfl 4 rfl ?_
  refine A_callV (M' := MX11_here) [] [.int 0] 93 dX11_number_108 lk_RX11_95 oX11_here iX11_here rfl rfl ⟨lb rfl, lb rfl⟩ (lb rfl) ⟨lb rfl, lb rfl⟩ L93 rfl (c_here f tn c hT hc (a + 1) (-1) (by omega)) ?_
  rintro _ g0 ⟨rfl, hg0⟩
  rw [hg0]
  refine A_topi (nI (c (a + 1))) (hV_n h1) ?_
  refine A_iadd dX11_number_111 ?_
  refine A_bipush (v := 48) dX11_number_112 rfl ?_
  refine A_isub dX11_number_114 ?_
  refine A_topi (nI (c (a + 1) - 48)) (fig1 _ (by omega) (by omega)) ?_
  refine A_istore (lv' := [(6, .int (nI (c (a + 1) - 48))), (7, .int 0), (5, .int 0), (4, .int (nI (a + 1))), (0, .ref 93), (1, .int 1), (2, .int 2), (3, .int 0)]) dX11_number_115 (lb rfl) rfl ?_
  refine A_aload_n dX11_number_117 rfl 4 rfl ?_
  refine A_dup dX11_number_118 rfl ?_
  refine A_getI dX11_number_119 fo_RX11_89 L93 rfl ?_
  refine A_topi (nI (a + 1)) (rd_a f (a + 1) (-1) (by decide)) ?_
  refine A_iconst (v := 1) dX11_number_122 rfl ?_
  refine A_iadd dX11_number_123 ?_
  refine A_putI dX11_number_124 fo_RX11_89 L93 rfl ?_
  refine A_eq rfl rfl (f' := rd 93 10 11 f (a + 1 + 1) (-1)) (rd_ua f (a + 1) (a + 1 + 1) (-1) (by decide) (by simp only [lit, nI_add, pk_mul, Nat.add_zero])) ?_
  refine A_iinc (lv' := [(7, .int 1), (6, .int (nI (c (a + 1) - 48))), (5, .int 0), (4, .int (nI (a + 1))), (0, .ref 93), (1, .int 1), (2, .int 2), (3, .int 0)]) dX11_number_127 1 rfl rfl (lb rfl) rfl ?_
  refine A_goto (tgt := 79) dX11_number_130 rfl ?_
  refine A_iload dX11_number_79 0 rfl ?_
  refine A_iload_n dX11_number_81 rfl 5 rfl ?_
  refine A_icmp_ge (tgt := 133) dX11_number_82 rfl (fun h82 => ?_) (fun h82 => by exact absurd (by decide) h82)
  refine A_aload_n dX11_number_133 rfl 4 rfl ?_
  refine A_iload dX11_number_134 1 rfl ?_
  refine A_iload_n dX11_number_136 rfl 6 rfl ?_
  refine A_icmp_gt (tgt := 144) dX11_number_137 rfl (fun h137 => ?_) (fun h137 => by exact absurd (by rw [show (2 : Int32) = nI 2 from rfl, nI_ltI (by omega) (by omega)]; omega) h137)
  refine A_iconst (v := 0) dX11_number_144 rfl ?_
  refine A_iload dX11_number_145 3 rfl ?_
  refine A_callV (M' := MX11_must) [.int 0, .int (nI (a + 1))] [] 93 dX11_number_147 lk_RX11_99 oX11_must iX11_must rfl rfl ⟨lb rfl, lb rfl⟩ (lb rfl) ⟨lb rfl, lb rfl⟩ L93 rfl (c_must2 f (a + 1 + 1) 0 (nI (a + 1)) rfl) ?_
  rintro _ g0 ⟨rfl, hg0⟩
  rw [hg0]
  refine A_iload dX11_number_150 2 rfl ?_
  refine A_if_eq (tgt := 161) dX11_number_152 rfl (fun h152 => ?_) (fun h152 => by exact absurd rfl h152)
  refine A_iload dX11_number_161 1 rfl ?_
  exact A_iret dX11_number_163 rfl (⟨_, _, rfl, rfl⟩)
theorem c_n40 (f : Mem) (tn : Nat) (c : Nat → Nat) (hT : RTp f tn c) (hc : tcW c tn) (a : Nat) (ha : a < 2 ^ 28) (h : ¬ c a = 32) : C0 MX11_number [.ref 93, .int 1, .int 3, .int 0] (rd 93 10 11 f a (-1)) (fun r h => ∃ (x : Int32) (b : Nat), r = some (.int x) ∧ h = rd 93 10 11 f b (nI a)) := by
  refine Ct.of (lv := [(0, .ref 93), (1, .int 1), (2, .int 3), (3, .int 0)]) (by decide) (lb rfl) rfl ?_
  refine A_aload_n dX11_number_0 rfl 0 rfl ?_
  refine A_bipush (v := 32) dX11_number_1 rfl ?_
  refine A_callV (M' := MX11_takes) [.int 32] [] 93 dX11_number_3 lk_RX11_111 oX11_takes iX11_takes rfl rfl ⟨lb rfl, lb rfl⟩ (lb rfl) ⟨lb rfl, lb rfl⟩ L93 rfl (c_takes2 f tn c hT hc a (by omega) h) ?_
  rintro _ g0 ⟨rfl, hg0⟩
  rw [hg0]
  refine A_aload_n dX11_number_6 rfl 0 rfl ?_
  refine A_getI dX11_number_7 fo_RX11_89 L93 rfl ?_
  refine A_topi (nI (a + 1)) (rd_a f (a + 1) (nI a) (by decide)) ?_
  refine A_istore (lv' := [(4, .int (nI (a + 1))), (0, .ref 93), (1, .int 1), (2, .int 3), (3, .int 0)]) dX11_number_10 (lb rfl) rfl ?_
  refine A_iload_n dX11_number_12 rfl 4 rfl ?_
  refine A_if_eq (tgt := 29) dX11_number_13 rfl (fun h13 => ?_) (fun h13 => by exact absurd rfl h13)
  refine A_iconst (v := 0) dX11_number_29 rfl ?_
  refine A_istore (lv' := [(5, .int 0), (4, .int (nI (a + 1))), (0, .ref 93), (1, .int 1), (2, .int 3), (3, .int 0)]) dX11_number_30 (lb rfl) rfl ?_
  refine A_aload_n dX11_number_32 rfl 2 rfl ?_
  refine A_dup dX11_number_33 rfl ?_
  refine A_getI dX11_number_34 fo_RX11_89 L93 rfl ?_
  refine A_topi (nI (a + 1)) (rd_a f (a + 1) (nI a) (by decide)) ?_
  refine A_iload dX11_number_37 0 rfl ?_
  refine A_if_eq (tgt := 46) dX11_number_39 rfl (fun h39 => ?_) (fun h39 => by exact absurd rfl h39)
  refine A_iconst (v := 0) dX11_number_46 rfl ?_
  refine A_iadd dX11_number_47 ?_
  refine A_putI dX11_number_48 fo_RX11_89 L93 rfl ?_
  refine A_eq rfl rfl (f' := rd 93 10 11 f (a + 1) (nI a)) (rd_ua f (a + 1) (a + 1) (nI a) (by decide) (by simp only [lit, nI_add, pk_mul, Nat.add_zero])) ?_
  refine A_aload_n dX11_number_51 rfl 2 rfl ?_
  refine A_aload_n dX11_number_52 rfl 2 rfl ?_
  refine A_callV (M' := MX11_here) [] [.ref 93] 93 dX11_number_53 lk_RX11_95 oX11_here iX11_here rfl rfl ⟨lb rfl, lb rfl⟩ (lb rfl) ⟨lb rfl, lb rfl⟩ L93 rfl (c_here f tn c hT hc (a + 1) (nI a) (by omega)) ?_
  rintro _ g0 ⟨rfl, hg0⟩
  rw [hg0]
  refine A_i2l dX11_number_56 ?_
  refine A_ldc2 dX11_number_57 k_RX11_115 ?_
  refine A_ldc2 dX11_number_60 k_RX11_117 ?_
  refine A_callS (M' := MX11_in) [.long ((hV (c (a + 1))).toInt64), .long 48, .long 57] [.ref 93] dX11_number_63 lk_RX11_64 oX11_in sX11_in rfl rfl ⟨lb rfl, lb rfl⟩ (lb rfl) ⟨lb rfl, lb rfl⟩ (c_in _ _ _ _) ?_
  rintro _ g0 ⟨rfl, hg0⟩
  rw [hg0]
  refine A_topi (bz (isF (c (a + 1)))) (bz_c (hV_F _ (by have := hc.2.2.2 (a + 1); omega))) ?_
  refine A_aload_n dX11_number_66 rfl 2 rfl ?_
  refine A_getI dX11_number_67 fo_RX11_89 L93 rfl ?_
  refine A_topi (nI (a + 1)) (rd_a f (a + 1) (nI a) (by decide)) ?_
  refine A_callV (M' := MX11_must) [.int (bz (isF (c (a + 1)))), .int (nI (a + 1))] [] 93 dX11_number_70 lk_RX11_99 oX11_must iX11_must rfl rfl ⟨lb rfl, lb rfl⟩ (lb rfl) ⟨lb rfl, lb rfl⟩ L93 rfl (c_must0 f (a + 1) (nI a) (bz (isF (c (a + 1)))) (nI (a + 1)) (nI_ge0 (by omega))) ?_
  rintro _ g0 ⟨rfl, hg0⟩
  rw [hg0]
  refine A_iconst (v := 0) dX11_number_73 rfl ?_
  refine A_istore (lv' := [(6, .int 0), (5, .int 0), (4, .int (nI (a + 1))), (0, .ref 93), (1, .int 1), (2, .int 3), (3, .int 0)]) dX11_number_74 (lb rfl) rfl ?_
  refine A_iconst (v := 0) dX11_number_76 rfl ?_
  refine A_istore (lv' := [(7, .int 0), (6, .int 0), (5, .int 0), (4, .int (nI (a + 1))), (0, .ref 93), (1, .int 1), (2, .int 3), (3, .int 0)]) dX11_number_77 (lb rfl) rfl ?_
  refine A_iload dX11_number_79 0 rfl ?_
  refine A_iload_n dX11_number_81 rfl 5 rfl ?_
  refine A_icmp_ge (tgt := 133) dX11_number_82 rfl (fun h82 => by exact absurd h82 (by decide)) (fun h82 => ?_)
  refine A_aload_n dX11_number_85 rfl 4 rfl ?_
  refine A_callV (M' := MX11_here) [] [] 93 dX11_number_86 lk_RX11_95 oX11_here iX11_here rfl rfl ⟨lb rfl, lb rfl⟩ (lb rfl) ⟨lb rfl, lb rfl⟩ L93 rfl (c_here f tn c hT hc (a + 1) (nI a) (by omega)) ?_
  rintro _ g0 ⟨rfl, hg0⟩
  rw [hg0]
  refine A_i2l dX11_number_89 ?_
  refine A_ldc2 dX11_number_90 k_RX11_115 ?_
  refine A_ldc2 dX11_number_93 k_RX11_117 ?_
  refine A_callS (M' := MX11_in) [.long ((hV (c (a + 1))).toInt64), .long 48, .long 57] [] dX11_number_96 lk_RX11_64 oX11_in sX11_in rfl rfl ⟨lb rfl, lb rfl⟩ (lb rfl) ⟨lb rfl, lb rfl⟩ (c_in _ _ _ _) ?_
  rintro _ g0 ⟨rfl, hg0⟩
  rw [hg0]
  refine A_topi (bz (isF (c (a + 1)))) (bz_c (hV_F _ (by have := hc.2.2.2 (a + 1); omega))) ?_
  refine A_if_eq (tgt := 133) dX11_number_99 rfl (fun h99 => ?_) (fun h99 => ?_)
  · refine A_aload_n dX11_number_133 rfl 4 rfl ?_
    refine A_iload dX11_number_134 1 rfl ?_
    refine A_iload_n dX11_number_136 rfl 6 rfl ?_
    refine A_icmp_gt (tgt := 144) dX11_number_137 rfl (fun h137 => by exact absurd h137 (by decide)) (fun h137 => ?_)
    refine A_iconst (v := 1) dX11_number_140 rfl ?_
    refine A_goto (tgt := 145) dX11_number_141 rfl ?_
    refine A_iload dX11_number_145 3 rfl ?_
    refine A_callV (M' := MX11_must) [.int 1, .int (nI (a + 1))] [] 93 dX11_number_147 lk_RX11_99 oX11_must iX11_must rfl rfl ⟨lb rfl, lb rfl⟩ (lb rfl) ⟨lb rfl, lb rfl⟩ L93 rfl (c_must0 f (a + 1) (nI a) 1 (nI (a + 1)) (nI_ge0 (by omega))) ?_
    rintro _ g0 ⟨rfl, hg0⟩
    rw [hg0]
    refine A_iload dX11_number_150 2 rfl ?_
    refine A_if_eq (tgt := 161) dX11_number_152 rfl (fun h152 => ?_) (fun h152 => by exact absurd rfl h152)
    refine A_iload dX11_number_161 1 rfl ?_
    exact A_iret dX11_number_163 rfl (⟨_, _, rfl, rfl⟩)
  · have hF1 := bz_n0.mp h99
    refine A_bipush (v := 10) dX11_number_102 rfl ?_
    refine A_iload dX11_number_104 1 rfl ?_
    refine A_imul dX11_number_106 ?_
    refine A_topi (0) (by decide) ?_
    refine A_aload_n dX11_number_107 rfl 4 rfl ?_
    refine A_callV (M' := MX11_here) [] [.int 0] 93 dX11_number_108 lk_RX11_95 oX11_here iX11_here rfl rfl ⟨lb rfl, lb rfl⟩ (lb rfl) ⟨lb rfl, lb rfl⟩ L93 rfl (c_here f tn c hT hc (a + 1) (nI a) (by omega)) ?_
    rintro _ g0 ⟨rfl, hg0⟩
    rw [hg0]
    refine A_topi (nI (c (a + 1))) (hV_n (bz_n0.mp h99)) ?_
    refine A_iadd dX11_number_111 ?_
    refine A_bipush (v := 48) dX11_number_112 rfl ?_
    refine A_isub dX11_number_114 ?_
    refine A_topi (nI (c (a + 1) - 48)) (fig1 _ (by omega) (by omega)) ?_
    refine A_istore (lv' := [(6, .int (nI (c (a + 1) - 48))), (7, .int 0), (5, .int 0), (4, .int (nI (a + 1))), (0, .ref 93), (1, .int 1), (2, .int 3), (3, .int 0)]) dX11_number_115 (lb rfl) rfl ?_
    refine A_aload_n dX11_number_117 rfl 4 rfl ?_
    refine A_dup dX11_number_118 rfl ?_
    refine A_getI dX11_number_119 fo_RX11_89 L93 rfl ?_
    refine A_topi (nI (a + 1)) (rd_a f (a + 1) (nI a) (by decide)) ?_
    refine A_iconst (v := 1) dX11_number_122 rfl ?_
    refine A_iadd dX11_number_123 ?_
    refine A_putI dX11_number_124 fo_RX11_89 L93 rfl ?_
    refine A_eq rfl rfl (f' := rd 93 10 11 f (a + 1 + 1) (nI a)) (rd_ua f (a + 1) (a + 1 + 1) (nI a) (by decide) (by simp only [lit, nI_add, pk_mul, Nat.add_zero])) ?_
    refine A_iinc (lv' := [(7, .int 1), (6, .int (nI (c (a + 1) - 48))), (5, .int 0), (4, .int (nI (a + 1))), (0, .ref 93), (1, .int 1), (2, .int 3), (3, .int 0)]) dX11_number_127 1 rfl rfl (lb rfl) rfl ?_
    refine A_goto (tgt := 79) dX11_number_130 rfl ?_
    refine A_iload dX11_number_79 0 rfl ?_
    refine A_iload_n dX11_number_81 rfl 5 rfl ?_
    refine A_icmp_ge (tgt := 133) dX11_number_82 rfl (fun h82 => ?_) (fun h82 => by exact absurd (by decide) h82)
    refine A_aload_n dX11_number_133 rfl 4 rfl ?_
    refine A_iload dX11_number_134 1 rfl ?_
    refine A_iload_n dX11_number_136 rfl 6 rfl ?_
    refine A_icmp_gt (tgt := 144) dX11_number_137 rfl (fun h137 => ?_) (fun h137 => ?_)
    · refine A_iconst (v := 0) dX11_number_144 rfl ?_
      refine A_iload dX11_number_145 3 rfl ?_
      refine A_callV (M' := MX11_must) [.int 0, .int (nI (a + 1))] [] 93 dX11_number_147 lk_RX11_99 oX11_must iX11_must rfl rfl ⟨lb rfl, lb rfl⟩ (lb rfl) ⟨lb rfl, lb rfl⟩ L93 rfl (c_must0 f (a + 1 + 1) (nI a) 0 (nI (a + 1)) (nI_ge0 (by omega))) ?_
      rintro _ g0 ⟨rfl, hg0⟩
      rw [hg0]
      refine A_iload dX11_number_150 2 rfl ?_
      refine A_if_eq (tgt := 161) dX11_number_152 rfl (fun h152 => ?_) (fun h152 => by exact absurd rfl h152)
      refine A_iload dX11_number_161 1 rfl ?_
      exact A_iret dX11_number_163 rfl (⟨_, _, rfl, rfl⟩)
    · refine A_iconst (v := 1) dX11_number_140 rfl ?_
      refine A_goto (tgt := 145) dX11_number_141 rfl ?_
      refine A_iload dX11_number_145 3 rfl ?_
      refine A_callV (M' := MX11_must) [.int 1, .int (nI (a + 1))] [] 93 dX11_number_147 lk_RX11_99 oX11_must iX11_must rfl rfl ⟨lb rfl, lb rfl⟩ (lb rfl) ⟨lb rfl, lb rfl⟩ L93 rfl (c_must0 f (a + 1 + 1) (nI a) 1 (nI (a + 1)) (nI_ge0 (by omega))) ?_
      rintro _ g0 ⟨rfl, hg0⟩
      rw [hg0]
      refine A_iload dX11_number_150 2 rfl ?_
      refine A_if_eq (tgt := 161) dX11_number_152 rfl (fun h152 => ?_) (fun h152 => by exact absurd rfl h152)
      refine A_iload dX11_number_161 1 rfl ?_
      exact A_iret dX11_number_163 rfl (⟨_, _, rfl, rfl⟩)
theorem c_n41 (f : Mem) (tn : Nat) (c : Nat → Nat) (hT : RTp f tn c) (hc : tcW c tn) (a : Nat) (ha : a < 2 ^ 28) (h : c a = 32) (h1 : ¬ isF (c (a + 1))) : C0 MX11_number [.ref 93, .int 1, .int 3, .int 0] (rd 93 10 11 f a (-1)) (fun r h => ∃ (x : Int32) (b : Nat), r = some (.int x) ∧ h = rd 93 10 11 f b (nI (a + 1))) := by
  refine Ct.of (lv := [(0, .ref 93), (1, .int 1), (2, .int 3), (3, .int 0)]) (by decide) (lb rfl) rfl ?_
  refine A_aload_n dX11_number_0 rfl 0 rfl ?_
  refine A_bipush (v := 32) dX11_number_1 rfl ?_
  refine A_callV (M' := MX11_takes) [.int 32] [] 93 dX11_number_3 lk_RX11_111 oX11_takes iX11_takes rfl rfl ⟨lb rfl, lb rfl⟩ (lb rfl) ⟨lb rfl, lb rfl⟩ L93 rfl (c_takes1 f tn c hT hc a (by omega) h) ?_
  rintro _ g0 ⟨rfl, hg0⟩
  rw [hg0]
  refine A_aload_n dX11_number_6 rfl 0 rfl ?_
  refine A_getI dX11_number_7 fo_RX11_89 L93 rfl ?_
  refine A_topi (nI (a + 1)) (rd_a f (a + 1) (-1) (by decide)) ?_
  refine A_istore (lv' := [(4, .int (nI (a + 1))), (0, .ref 93), (1, .int 1), (2, .int 3), (3, .int 0)]) dX11_number_10 (lb rfl) rfl ?_
  refine A_iload_n dX11_number_12 rfl 4 rfl ?_
  refine A_if_eq (tgt := 29) dX11_number_13 rfl (fun h13 => ?_) (fun h13 => by exact absurd rfl h13)
  refine A_iconst (v := 0) dX11_number_29 rfl ?_
  refine A_istore (lv' := [(5, .int 0), (4, .int (nI (a + 1))), (0, .ref 93), (1, .int 1), (2, .int 3), (3, .int 0)]) dX11_number_30 (lb rfl) rfl ?_
  refine A_aload_n dX11_number_32 rfl 2 rfl ?_
  refine A_dup dX11_number_33 rfl ?_
  refine A_getI dX11_number_34 fo_RX11_89 L93 rfl ?_
  refine A_topi (nI (a + 1)) (rd_a f (a + 1) (-1) (by decide)) ?_
  refine A_iload dX11_number_37 0 rfl ?_
  refine A_if_eq (tgt := 46) dX11_number_39 rfl (fun h39 => ?_) (fun h39 => by exact absurd rfl h39)
  refine A_iconst (v := 0) dX11_number_46 rfl ?_
  refine A_iadd dX11_number_47 ?_
  refine A_putI dX11_number_48 fo_RX11_89 L93 rfl ?_
  refine A_eq rfl rfl (f' := rd 93 10 11 f (a + 1) (-1)) (rd_ua f (a + 1) (a + 1) (-1) (by decide) (by simp only [lit, nI_add, pk_mul, Nat.add_zero])) ?_
  refine A_aload_n dX11_number_51 rfl 2 rfl ?_
  refine A_aload_n dX11_number_52 rfl 2 rfl ?_
  refine A_callV (M' := MX11_here) [] [.ref 93] 93 dX11_number_53 lk_RX11_95 oX11_here iX11_here rfl rfl ⟨lb rfl, lb rfl⟩ (lb rfl) ⟨lb rfl, lb rfl⟩ L93 rfl (c_here f tn c hT hc (a + 1) (-1) (by omega)) ?_
  rintro _ g0 ⟨rfl, hg0⟩
  rw [hg0]
  refine A_i2l dX11_number_56 ?_
  refine A_ldc2 dX11_number_57 k_RX11_115 ?_
  refine A_ldc2 dX11_number_60 k_RX11_117 ?_
  refine A_callS (M' := MX11_in) [.long ((hV (c (a + 1))).toInt64), .long 48, .long 57] [.ref 93] dX11_number_63 lk_RX11_64 oX11_in sX11_in rfl rfl ⟨lb rfl, lb rfl⟩ (lb rfl) ⟨lb rfl, lb rfl⟩ (c_in _ _ _ _) ?_
  rintro _ g0 ⟨rfl, hg0⟩
  rw [hg0]
  refine A_topi (bz (isF (c (a + 1)))) (bz_c (hV_F _ (by have := hc.2.2.2 (a + 1); omega))) ?_
  refine A_aload_n dX11_number_66 rfl 2 rfl ?_
  refine A_getI dX11_number_67 fo_RX11_89 L93 rfl ?_
  refine A_topi (nI (a + 1)) (rd_a f (a + 1) (-1) (by decide)) ?_
  refine A_callV (M' := MX11_must) [.int (bz (isF (c (a + 1)))), .int (nI (a + 1))] [] 93 dX11_number_70 lk_RX11_99 oX11_must iX11_must rfl rfl ⟨lb rfl, lb rfl⟩ (lb rfl) ⟨lb rfl, lb rfl⟩ L93 rfl (c_must2 f (a + 1) (bz (isF (c (a + 1)))) (nI (a + 1)) (bz_0.mpr h1)) ?_
  rintro _ g0 ⟨rfl, hg0⟩
  rw [hg0]
  refine A_iconst (v := 0) dX11_number_73 rfl ?_
  refine A_istore (lv' := [(6, .int 0), (5, .int 0), (4, .int (nI (a + 1))), (0, .ref 93), (1, .int 1), (2, .int 3), (3, .int 0)]) dX11_number_74 (lb rfl) rfl ?_
  refine A_iconst (v := 0) dX11_number_76 rfl ?_
  refine A_istore (lv' := [(7, .int 0), (6, .int 0), (5, .int 0), (4, .int (nI (a + 1))), (0, .ref 93), (1, .int 1), (2, .int 3), (3, .int 0)]) dX11_number_77 (lb rfl) rfl ?_
  refine A_iload dX11_number_79 0 rfl ?_
  refine A_iload_n dX11_number_81 rfl 5 rfl ?_
  refine A_icmp_ge (tgt := 133) dX11_number_82 rfl (fun h82 => by exact absurd h82 (by decide)) (fun h82 => ?_)
  refine A_aload_n dX11_number_85 rfl 4 rfl ?_
  refine A_callV (M' := MX11_here) [] [] 93 dX11_number_86 lk_RX11_95 oX11_here iX11_here rfl rfl ⟨lb rfl, lb rfl⟩ (lb rfl) ⟨lb rfl, lb rfl⟩ L93 rfl (c_here f tn c hT hc (a + 1) (nI (a + 1)) (by omega)) ?_
  rintro _ g0 ⟨rfl, hg0⟩
  rw [hg0]
  refine A_i2l dX11_number_89 ?_
  refine A_ldc2 dX11_number_90 k_RX11_115 ?_
  refine A_ldc2 dX11_number_93 k_RX11_117 ?_
  refine A_callS (M' := MX11_in) [.long ((hV (c (a + 1))).toInt64), .long 48, .long 57] [] dX11_number_96 lk_RX11_64 oX11_in sX11_in rfl rfl ⟨lb rfl, lb rfl⟩ (lb rfl) ⟨lb rfl, lb rfl⟩ (c_in _ _ _ _) ?_
  rintro _ g0 ⟨rfl, hg0⟩
  rw [hg0]
  refine A_topi (bz (isF (c (a + 1)))) (bz_c (hV_F _ (by have := hc.2.2.2 (a + 1); omega))) ?_
  refine A_if_eq (tgt := 133) dX11_number_99 rfl (fun h99 => ?_) (fun h99 => by exact absurd (bz_n0.mp h99) h1)
  refine A_aload_n dX11_number_133 rfl 4 rfl ?_
  refine A_iload dX11_number_134 1 rfl ?_
  refine A_iload_n dX11_number_136 rfl 6 rfl ?_
  refine A_icmp_gt (tgt := 144) dX11_number_137 rfl (fun h137 => by exact absurd h137 (by decide)) (fun h137 => ?_)
  refine A_iconst (v := 1) dX11_number_140 rfl ?_
  refine A_goto (tgt := 145) dX11_number_141 rfl ?_
  refine A_iload dX11_number_145 3 rfl ?_
  refine A_callV (M' := MX11_must) [.int 1, .int (nI (a + 1))] [] 93 dX11_number_147 lk_RX11_99 oX11_must iX11_must rfl rfl ⟨lb rfl, lb rfl⟩ (lb rfl) ⟨lb rfl, lb rfl⟩ L93 rfl (c_must0 f (a + 1) (nI (a + 1)) 1 (nI (a + 1)) (nI_ge0 (by omega))) ?_
  rintro _ g0 ⟨rfl, hg0⟩
  rw [hg0]
  refine A_iload dX11_number_150 2 rfl ?_
  refine A_if_eq (tgt := 161) dX11_number_152 rfl (fun h152 => ?_) (fun h152 => by exact absurd rfl h152)
  refine A_iload dX11_number_161 1 rfl ?_
  exact A_iret dX11_number_163 rfl (⟨_, _, rfl, rfl⟩)
theorem c_n42 (f : Mem) (tn : Nat) (c : Nat → Nat) (hT : RTp f tn c) (hc : tcW c tn) (a : Nat) (ha : a < 2 ^ 28) (h : c a = 32) (h1 : isF (c (a + 1))) (hv : c (a + 1) - 48 ≤ 3) : C0 MX11_number [.ref 93, .int 1, .int 3, .int 0] (rd 93 10 11 f a (-1)) (rt (some (.int (nI (c (a + 1) - 48)))) (rd 93 10 11 f (a + 1 + 1) (-1))) := by
  refine Ct.of (lv := [(0, .ref 93), (1, .int 1), (2, .int 3), (3, .int 0)]) (by decide) (lb rfl) rfl ?_
  refine A_aload_n dX11_number_0 rfl 0 rfl ?_
  refine A_bipush (v := 32) dX11_number_1 rfl ?_
  refine A_callV (M' := MX11_takes) [.int 32] [] 93 dX11_number_3 lk_RX11_111 oX11_takes iX11_takes rfl rfl ⟨lb rfl, lb rfl⟩ (lb rfl) ⟨lb rfl, lb rfl⟩ L93 rfl (c_takes1 f tn c hT hc a (by omega) h) ?_
  rintro _ g0 ⟨rfl, hg0⟩
  rw [hg0]
  refine A_aload_n dX11_number_6 rfl 0 rfl ?_
  refine A_getI dX11_number_7 fo_RX11_89 L93 rfl ?_
  refine A_topi (nI (a + 1)) (rd_a f (a + 1) (-1) (by decide)) ?_
  refine A_istore (lv' := [(4, .int (nI (a + 1))), (0, .ref 93), (1, .int 1), (2, .int 3), (3, .int 0)]) dX11_number_10 (lb rfl) rfl ?_
  refine A_iload_n dX11_number_12 rfl 4 rfl ?_
  refine A_if_eq (tgt := 29) dX11_number_13 rfl (fun h13 => ?_) (fun h13 => by exact absurd rfl h13)
  refine A_iconst (v := 0) dX11_number_29 rfl ?_
  refine A_istore (lv' := [(5, .int 0), (4, .int (nI (a + 1))), (0, .ref 93), (1, .int 1), (2, .int 3), (3, .int 0)]) dX11_number_30 (lb rfl) rfl ?_
  refine A_aload_n dX11_number_32 rfl 2 rfl ?_
  refine A_dup dX11_number_33 rfl ?_
  refine A_getI dX11_number_34 fo_RX11_89 L93 rfl ?_
  refine A_topi (nI (a + 1)) (rd_a f (a + 1) (-1) (by decide)) ?_
  refine A_iload dX11_number_37 0 rfl ?_
  refine A_if_eq (tgt := 46) dX11_number_39 rfl (fun h39 => ?_) (fun h39 => by exact absurd rfl h39)
  refine A_iconst (v := 0) dX11_number_46 rfl ?_
  refine A_iadd dX11_number_47 ?_
  refine A_putI dX11_number_48 fo_RX11_89 L93 rfl ?_
  refine A_eq rfl rfl (f' := rd 93 10 11 f (a + 1) (-1)) (rd_ua f (a + 1) (a + 1) (-1) (by decide) (by simp only [lit, nI_add, pk_mul, Nat.add_zero])) ?_
  refine A_aload_n dX11_number_51 rfl 2 rfl ?_
  refine A_aload_n dX11_number_52 rfl 2 rfl ?_
  refine A_callV (M' := MX11_here) [] [.ref 93] 93 dX11_number_53 lk_RX11_95 oX11_here iX11_here rfl rfl ⟨lb rfl, lb rfl⟩ (lb rfl) ⟨lb rfl, lb rfl⟩ L93 rfl (c_here f tn c hT hc (a + 1) (-1) (by omega)) ?_
  rintro _ g0 ⟨rfl, hg0⟩
  rw [hg0]
  refine A_i2l dX11_number_56 ?_
  refine A_ldc2 dX11_number_57 k_RX11_115 ?_
  refine A_ldc2 dX11_number_60 k_RX11_117 ?_
  refine A_callS (M' := MX11_in) [.long ((hV (c (a + 1))).toInt64), .long 48, .long 57] [.ref 93] dX11_number_63 lk_RX11_64 oX11_in sX11_in rfl rfl ⟨lb rfl, lb rfl⟩ (lb rfl) ⟨lb rfl, lb rfl⟩ (c_in _ _ _ _) ?_
  rintro _ g0 ⟨rfl, hg0⟩
  rw [hg0]
  refine A_topi (bz (isF (c (a + 1)))) (bz_c (hV_F _ (by have := hc.2.2.2 (a + 1); omega))) ?_
  refine A_aload_n dX11_number_66 rfl 2 rfl ?_
  refine A_getI dX11_number_67 fo_RX11_89 L93 rfl ?_
  refine A_topi (nI (a + 1)) (rd_a f (a + 1) (-1) (by decide)) ?_
  refine A_callV (M' := MX11_must) [.int (bz (isF (c (a + 1)))), .int (nI (a + 1))] [] 93 dX11_number_70 lk_RX11_99 oX11_must iX11_must rfl rfl ⟨lb rfl, lb rfl⟩ (lb rfl) ⟨lb rfl, lb rfl⟩ L93 rfl (c_must1 f (a + 1) (bz (isF (c (a + 1)))) (nI (a + 1)) (bz_n0.mpr h1)) ?_
  rintro _ g0 ⟨rfl, hg0⟩
  rw [hg0]
  refine A_iconst (v := 0) dX11_number_73 rfl ?_
  refine A_istore (lv' := [(6, .int 0), (5, .int 0), (4, .int (nI (a + 1))), (0, .ref 93), (1, .int 1), (2, .int 3), (3, .int 0)]) dX11_number_74 (lb rfl) rfl ?_
  refine A_iconst (v := 0) dX11_number_76 rfl ?_
  refine A_istore (lv' := [(7, .int 0), (6, .int 0), (5, .int 0), (4, .int (nI (a + 1))), (0, .ref 93), (1, .int 1), (2, .int 3), (3, .int 0)]) dX11_number_77 (lb rfl) rfl ?_
  refine A_iload dX11_number_79 0 rfl ?_
  refine A_iload_n dX11_number_81 rfl 5 rfl ?_
  refine A_icmp_ge (tgt := 133) dX11_number_82 rfl (fun h82 => by exact absurd h82 (by decide)) (fun h82 => ?_)
  refine A_aload_n dX11_number_85 rfl 4 rfl ?_
  refine A_callV (M' := MX11_here) [] [] 93 dX11_number_86 lk_RX11_95 oX11_here iX11_here rfl rfl ⟨lb rfl, lb rfl⟩ (lb rfl) ⟨lb rfl, lb rfl⟩ L93 rfl (c_here f tn c hT hc (a + 1) (-1) (by omega)) ?_
  rintro _ g0 ⟨rfl, hg0⟩
  rw [hg0]
  refine A_i2l dX11_number_89 ?_
  refine A_ldc2 dX11_number_90 k_RX11_115 ?_
  refine A_ldc2 dX11_number_93 k_RX11_117 ?_
  refine A_callS (M' := MX11_in) [.long ((hV (c (a + 1))).toInt64), .long 48, .long 57] [] dX11_number_96 lk_RX11_64 oX11_in sX11_in rfl rfl ⟨lb rfl, lb rfl⟩ (lb rfl) ⟨lb rfl, lb rfl⟩ (c_in _ _ _ _) ?_
  rintro _ g0 ⟨rfl, hg0⟩
  rw [hg0]
  refine A_topi (bz (isF (c (a + 1)))) (bz_c (hV_F _ (by have := hc.2.2.2 (a + 1); omega))) ?_
  refine A_if_eq (tgt := 133) dX11_number_99 rfl (fun h99 => by exact absurd h1 (bz_0.mp h99)) (fun h99 => ?_)
  refine A_bipush (v := 10) dX11_number_102 rfl ?_
  refine A_iload dX11_number_104 1 rfl ?_
  refine A_imul dX11_number_106 ?_
  refine A_topi (0) (by decide) ?_
  refine A_aload_n dX11_number_107 rfl 4 rfl ?_
  refine A_callV (M' := MX11_here) [] [.int 0] 93 dX11_number_108 lk_RX11_95 oX11_here iX11_here rfl rfl ⟨lb rfl, lb rfl⟩ (lb rfl) ⟨lb rfl, lb rfl⟩ L93 rfl (c_here f tn c hT hc (a + 1) (-1) (by omega)) ?_
  rintro _ g0 ⟨rfl, hg0⟩
  rw [hg0]
  refine A_topi (nI (c (a + 1))) (hV_n h1) ?_
  refine A_iadd dX11_number_111 ?_
  refine A_bipush (v := 48) dX11_number_112 rfl ?_
  refine A_isub dX11_number_114 ?_
  refine A_topi (nI (c (a + 1) - 48)) (fig1 _ (by omega) (by omega)) ?_
  refine A_istore (lv' := [(6, .int (nI (c (a + 1) - 48))), (7, .int 0), (5, .int 0), (4, .int (nI (a + 1))), (0, .ref 93), (1, .int 1), (2, .int 3), (3, .int 0)]) dX11_number_115 (lb rfl) rfl ?_
  refine A_aload_n dX11_number_117 rfl 4 rfl ?_
  refine A_dup dX11_number_118 rfl ?_
  refine A_getI dX11_number_119 fo_RX11_89 L93 rfl ?_
  refine A_topi (nI (a + 1)) (rd_a f (a + 1) (-1) (by decide)) ?_
  refine A_iconst (v := 1) dX11_number_122 rfl ?_
  refine A_iadd dX11_number_123 ?_
  refine A_putI dX11_number_124 fo_RX11_89 L93 rfl ?_
  refine A_eq rfl rfl (f' := rd 93 10 11 f (a + 1 + 1) (-1)) (rd_ua f (a + 1) (a + 1 + 1) (-1) (by decide) (by simp only [lit, nI_add, pk_mul, Nat.add_zero])) ?_
  refine A_iinc (lv' := [(7, .int 1), (6, .int (nI (c (a + 1) - 48))), (5, .int 0), (4, .int (nI (a + 1))), (0, .ref 93), (1, .int 1), (2, .int 3), (3, .int 0)]) dX11_number_127 1 rfl rfl (lb rfl) rfl ?_
  refine A_goto (tgt := 79) dX11_number_130 rfl ?_
  refine A_iload dX11_number_79 0 rfl ?_
  refine A_iload_n dX11_number_81 rfl 5 rfl ?_
  refine A_icmp_ge (tgt := 133) dX11_number_82 rfl (fun h82 => ?_) (fun h82 => by exact absurd (by decide) h82)
  refine A_aload_n dX11_number_133 rfl 4 rfl ?_
  refine A_iload dX11_number_134 1 rfl ?_
  refine A_iload_n dX11_number_136 rfl 6 rfl ?_
  refine A_icmp_gt (tgt := 144) dX11_number_137 rfl (fun h137 => by exact absurd h137 (fun t => by rw [show (3 : Int32) = nI 3 from rfl, nI_ltI (by omega) (by omega)] at t; omega)) (fun h137 => ?_)
  refine A_iconst (v := 1) dX11_number_140 rfl ?_
  refine A_goto (tgt := 145) dX11_number_141 rfl ?_
  refine A_iload dX11_number_145 3 rfl ?_
  refine A_callV (M' := MX11_must) [.int 1, .int (nI (a + 1))] [] 93 dX11_number_147 lk_RX11_99 oX11_must iX11_must rfl rfl ⟨lb rfl, lb rfl⟩ (lb rfl) ⟨lb rfl, lb rfl⟩ L93 rfl (c_must1 f (a + 1 + 1) 1 (nI (a + 1)) (by decide)) ?_
  rintro _ g0 ⟨rfl, hg0⟩
  rw [hg0]
  refine A_iload dX11_number_150 2 rfl ?_
  refine A_if_eq (tgt := 161) dX11_number_152 rfl (fun h152 => ?_) (fun h152 => by exact absurd rfl h152)
  refine A_iload dX11_number_161 1 rfl ?_
  exact A_iret dX11_number_163 rfl (⟨rfl, rfl⟩)
theorem c_n43 (f : Mem) (tn : Nat) (c : Nat → Nat) (hT : RTp f tn c) (hc : tcW c tn) (a : Nat) (ha : a < 2 ^ 28) (h : c a = 32) (h1 : isF (c (a + 1))) (hv : ¬ c (a + 1) - 48 ≤ 3) : C0 MX11_number [.ref 93, .int 1, .int 3, .int 0] (rd 93 10 11 f a (-1)) (fun r h => ∃ (x : Int32) (b : Nat), r = some (.int x) ∧ h = rd 93 10 11 f b (nI (a + 1))) := by
  refine Ct.of (lv := [(0, .ref 93), (1, .int 1), (2, .int 3), (3, .int 0)]) (by decide) (lb rfl) rfl ?_
  refine A_aload_n dX11_number_0 rfl 0 rfl ?_
  refine A_bipush (v := 32) dX11_number_1 rfl ?_
  refine A_callV (M' := MX11_takes) [.int 32] [] 93 dX11_number_3 lk_RX11_111 oX11_takes iX11_takes rfl rfl ⟨lb rfl, lb rfl⟩ (lb rfl) ⟨lb rfl, lb rfl⟩ L93 rfl (c_takes1 f tn c hT hc a (by omega) h) ?_
  rintro _ g0 ⟨rfl, hg0⟩
  rw [hg0]
  refine A_aload_n dX11_number_6 rfl 0 rfl ?_
  refine A_getI dX11_number_7 fo_RX11_89 L93 rfl ?_
  refine A_topi (nI (a + 1)) (rd_a f (a + 1) (-1) (by decide)) ?_
  refine A_istore (lv' := [(4, .int (nI (a + 1))), (0, .ref 93), (1, .int 1), (2, .int 3), (3, .int 0)]) dX11_number_10 (lb rfl) rfl ?_
  refine A_iload_n dX11_number_12 rfl 4 rfl ?_
  refine A_if_eq (tgt := 29) dX11_number_13 rfl (fun h13 => ?_) (fun h13 => by exact absurd rfl h13)
  refine A_iconst (v := 0) dX11_number_29 rfl ?_
  refine A_istore (lv' := [(5, .int 0), (4, .int (nI (a + 1))), (0, .ref 93), (1, .int 1), (2, .int 3), (3, .int 0)]) dX11_number_30 (lb rfl) rfl ?_
  refine A_aload_n dX11_number_32 rfl 2 rfl ?_
  refine A_dup dX11_number_33 rfl ?_
  refine A_getI dX11_number_34 fo_RX11_89 L93 rfl ?_
  refine A_topi (nI (a + 1)) (rd_a f (a + 1) (-1) (by decide)) ?_
  refine A_iload dX11_number_37 0 rfl ?_
  refine A_if_eq (tgt := 46) dX11_number_39 rfl (fun h39 => ?_) (fun h39 => by exact absurd rfl h39)
  refine A_iconst (v := 0) dX11_number_46 rfl ?_
  refine A_iadd dX11_number_47 ?_
  refine A_putI dX11_number_48 fo_RX11_89 L93 rfl ?_
  refine A_eq rfl rfl (f' := rd 93 10 11 f (a + 1) (-1)) (rd_ua f (a + 1) (a + 1) (-1) (by decide) (by simp only [lit, nI_add, pk_mul, Nat.add_zero])) ?_
  refine A_aload_n dX11_number_51 rfl 2 rfl ?_
  refine A_aload_n dX11_number_52 rfl 2 rfl ?_
  refine A_callV (M' := MX11_here) [] [.ref 93] 93 dX11_number_53 lk_RX11_95 oX11_here iX11_here rfl rfl ⟨lb rfl, lb rfl⟩ (lb rfl) ⟨lb rfl, lb rfl⟩ L93 rfl (c_here f tn c hT hc (a + 1) (-1) (by omega)) ?_
  rintro _ g0 ⟨rfl, hg0⟩
  rw [hg0]
  refine A_i2l dX11_number_56 ?_
  refine A_ldc2 dX11_number_57 k_RX11_115 ?_
  refine A_ldc2 dX11_number_60 k_RX11_117 ?_
  refine A_callS (M' := MX11_in) [.long ((hV (c (a + 1))).toInt64), .long 48, .long 57] [.ref 93] dX11_number_63 lk_RX11_64 oX11_in sX11_in rfl rfl ⟨lb rfl, lb rfl⟩ (lb rfl) ⟨lb rfl, lb rfl⟩ (c_in _ _ _ _) ?_
  rintro _ g0 ⟨rfl, hg0⟩
  rw [hg0]
  refine A_topi (bz (isF (c (a + 1)))) (bz_c (hV_F _ (by have := hc.2.2.2 (a + 1); omega))) ?_
  refine A_aload_n dX11_number_66 rfl 2 rfl ?_
  refine A_getI dX11_number_67 fo_RX11_89 L93 rfl ?_
  refine A_topi (nI (a + 1)) (rd_a f (a + 1) (-1) (by decide)) ?_
  refine A_callV (M' := MX11_must) [.int (bz (isF (c (a + 1)))), .int (nI (a + 1))] [] 93 dX11_number_70 lk_RX11_99 oX11_must iX11_must rfl rfl ⟨lb rfl, lb rfl⟩ (lb rfl) ⟨lb rfl, lb rfl⟩ L93 rfl (c_must1 f (a + 1) (bz (isF (c (a + 1)))) (nI (a + 1)) (bz_n0.mpr h1)) ?_
  rintro _ g0 ⟨rfl, hg0⟩
  rw [hg0]
  refine A_iconst (v := 0) dX11_number_73 rfl ?_
  refine A_istore (lv' := [(6, .int 0), (5, .int 0), (4, .int (nI (a + 1))), (0, .ref 93), (1, .int 1), (2, .int 3), (3, .int 0)]) dX11_number_74 (lb rfl) rfl ?_
  refine A_iconst (v := 0) dX11_number_76 rfl ?_
  refine A_istore (lv' := [(7, .int 0), (6, .int 0), (5, .int 0), (4, .int (nI (a + 1))), (0, .ref 93), (1, .int 1), (2, .int 3), (3, .int 0)]) dX11_number_77 (lb rfl) rfl ?_
  refine A_iload dX11_number_79 0 rfl ?_
  refine A_iload_n dX11_number_81 rfl 5 rfl ?_
  refine A_icmp_ge (tgt := 133) dX11_number_82 rfl (fun h82 => by exact absurd h82 (by decide)) (fun h82 => ?_)
  refine A_aload_n dX11_number_85 rfl 4 rfl ?_
  refine A_callV (M' := MX11_here) [] [] 93 dX11_number_86 lk_RX11_95 oX11_here iX11_here rfl rfl ⟨lb rfl, lb rfl⟩ (lb rfl) ⟨lb rfl, lb rfl⟩ L93 rfl (c_here f tn c hT hc (a + 1) (-1) (by omega)) ?_
  rintro _ g0 ⟨rfl, hg0⟩
  rw [hg0]
  refine A_i2l dX11_number_89 ?_
  refine A_ldc2 dX11_number_90 k_RX11_115 ?_
  refine A_ldc2 dX11_number_93 k_RX11_117 ?_
  refine A_callS (M' := MX11_in) [.long ((hV (c (a + 1))).toInt64), .long 48, .long 57] [] dX11_number_96 lk_RX11_64 oX11_in sX11_in rfl rfl ⟨lb rfl, lb rfl⟩ (lb rfl) ⟨lb rfl, lb rfl⟩ (c_in _ _ _ _) ?_
  rintro _ g0 ⟨rfl, hg0⟩
  rw [hg0]
  refine A_topi (bz (isF (c (a + 1)))) (bz_c (hV_F _ (by have := hc.2.2.2 (a + 1); omega))) ?_
  refine A_if_eq (tgt := 133) dX11_number_99 rfl (fun h99 => by exact absurd h1 (bz_0.mp h99)) (fun h99 => ?_)
  refine A_bipush (v := 10) dX11_number_102 rfl ?_
  refine A_iload dX11_number_104 1 rfl ?_
  refine A_imul dX11_number_106 ?_
  refine A_topi (0) (by decide) ?_
  refine A_aload_n dX11_number_107 rfl 4 rfl ?_
  refine A_callV (M' := MX11_here) [] [.int 0] 93 dX11_number_108 lk_RX11_95 oX11_here iX11_here rfl rfl ⟨lb rfl, lb rfl⟩ (lb rfl) ⟨lb rfl, lb rfl⟩ L93 rfl (c_here f tn c hT hc (a + 1) (-1) (by omega)) ?_
  rintro _ g0 ⟨rfl, hg0⟩
  rw [hg0]
  refine A_topi (nI (c (a + 1))) (hV_n h1) ?_
  refine A_iadd dX11_number_111 ?_
  refine A_bipush (v := 48) dX11_number_112 rfl ?_
  refine A_isub dX11_number_114 ?_
  refine A_topi (nI (c (a + 1) - 48)) (fig1 _ (by omega) (by omega)) ?_
  refine A_istore (lv' := [(6, .int (nI (c (a + 1) - 48))), (7, .int 0), (5, .int 0), (4, .int (nI (a + 1))), (0, .ref 93), (1, .int 1), (2, .int 3), (3, .int 0)]) dX11_number_115 (lb rfl) rfl ?_
  refine A_aload_n dX11_number_117 rfl 4 rfl ?_
  refine A_dup dX11_number_118 rfl ?_
  refine A_getI dX11_number_119 fo_RX11_89 L93 rfl ?_
  refine A_topi (nI (a + 1)) (rd_a f (a + 1) (-1) (by decide)) ?_
  refine A_iconst (v := 1) dX11_number_122 rfl ?_
  refine A_iadd dX11_number_123 ?_
  refine A_putI dX11_number_124 fo_RX11_89 L93 rfl ?_
  refine A_eq rfl rfl (f' := rd 93 10 11 f (a + 1 + 1) (-1)) (rd_ua f (a + 1) (a + 1 + 1) (-1) (by decide) (by simp only [lit, nI_add, pk_mul, Nat.add_zero])) ?_
  refine A_iinc (lv' := [(7, .int 1), (6, .int (nI (c (a + 1) - 48))), (5, .int 0), (4, .int (nI (a + 1))), (0, .ref 93), (1, .int 1), (2, .int 3), (3, .int 0)]) dX11_number_127 1 rfl rfl (lb rfl) rfl ?_
  refine A_goto (tgt := 79) dX11_number_130 rfl ?_
  refine A_iload dX11_number_79 0 rfl ?_
  refine A_iload_n dX11_number_81 rfl 5 rfl ?_
  refine A_icmp_ge (tgt := 133) dX11_number_82 rfl (fun h82 => ?_) (fun h82 => by exact absurd (by decide) h82)
  refine A_aload_n dX11_number_133 rfl 4 rfl ?_
  refine A_iload dX11_number_134 1 rfl ?_
  refine A_iload_n dX11_number_136 rfl 6 rfl ?_
  refine A_icmp_gt (tgt := 144) dX11_number_137 rfl (fun h137 => ?_) (fun h137 => by exact absurd (by rw [show (3 : Int32) = nI 3 from rfl, nI_ltI (by omega) (by omega)]; omega) h137)
  refine A_iconst (v := 0) dX11_number_144 rfl ?_
  refine A_iload dX11_number_145 3 rfl ?_
  refine A_callV (M' := MX11_must) [.int 0, .int (nI (a + 1))] [] 93 dX11_number_147 lk_RX11_99 oX11_must iX11_must rfl rfl ⟨lb rfl, lb rfl⟩ (lb rfl) ⟨lb rfl, lb rfl⟩ L93 rfl (c_must2 f (a + 1 + 1) 0 (nI (a + 1)) rfl) ?_
  rintro _ g0 ⟨rfl, hg0⟩
  rw [hg0]
  refine A_iload dX11_number_150 2 rfl ?_
  refine A_if_eq (tgt := 161) dX11_number_152 rfl (fun h152 => ?_) (fun h152 => by exact absurd rfl h152)
  refine A_iload dX11_number_161 1 rfl ?_
  exact A_iret dX11_number_163 rfl (⟨_, _, rfl, rfl⟩)
theorem c_nt0 (f : Mem) (tn : Nat) (c : Nat → Nat) (hT : RTp f tn c) (hc : tcW c tn) (a : Nat) (ha : a < 2 ^ 28) (h : ¬ c a = 32) : C0 MX11_number [.ref 93, .int 2, .int 12, .int 0] (rd 93 10 11 f a (-1)) (fun r h => ∃ (x : Int32) (b : Nat), r = some (.int x) ∧ h = rd 93 10 11 f b (nI a)) := by
  refine Ct.of (lv := [(0, .ref 93), (1, .int 2), (2, .int 12), (3, .int 0)]) (by decide) (lb rfl) rfl ?_
  refine A_aload_n dX11_number_0 rfl 0 rfl ?_
  refine A_bipush (v := 32) dX11_number_1 rfl ?_
  refine A_callV (M' := MX11_takes) [.int 32] [] 93 dX11_number_3 lk_RX11_111 oX11_takes iX11_takes rfl rfl ⟨lb rfl, lb rfl⟩ (lb rfl) ⟨lb rfl, lb rfl⟩ L93 rfl (c_takes2 f tn c hT hc a (by omega) h) ?_
  rintro _ g0 ⟨rfl, hg0⟩
  rw [hg0]
  refine A_aload_n dX11_number_6 rfl 0 rfl ?_
  refine A_getI dX11_number_7 fo_RX11_89 L93 rfl ?_
  refine A_topi (nI (a + 1)) (rd_a f (a + 1) (nI a) (by decide)) ?_
  refine A_istore (lv' := [(4, .int (nI (a + 1))), (0, .ref 93), (1, .int 2), (2, .int 12), (3, .int 0)]) dX11_number_10 (lb rfl) rfl ?_
  refine A_iload_n dX11_number_12 rfl 4 rfl ?_
  refine A_if_eq (tgt := 29) dX11_number_13 rfl (fun h13 => ?_) (fun h13 => by exact absurd rfl h13)
  refine A_iconst (v := 0) dX11_number_29 rfl ?_
  refine A_istore (lv' := [(5, .int 0), (4, .int (nI (a + 1))), (0, .ref 93), (1, .int 2), (2, .int 12), (3, .int 0)]) dX11_number_30 (lb rfl) rfl ?_
  refine A_aload_n dX11_number_32 rfl 2 rfl ?_
  refine A_dup dX11_number_33 rfl ?_
  refine A_getI dX11_number_34 fo_RX11_89 L93 rfl ?_
  refine A_topi (nI (a + 1)) (rd_a f (a + 1) (nI a) (by decide)) ?_
  refine A_iload dX11_number_37 0 rfl ?_
  refine A_if_eq (tgt := 46) dX11_number_39 rfl (fun h39 => ?_) (fun h39 => by exact absurd rfl h39)
  refine A_iconst (v := 0) dX11_number_46 rfl ?_
  refine A_iadd dX11_number_47 ?_
  refine A_putI dX11_number_48 fo_RX11_89 L93 rfl ?_
  refine A_eq rfl rfl (f' := rd 93 10 11 f (a + 1) (nI a)) (rd_ua f (a + 1) (a + 1) (nI a) (by decide) (by simp only [lit, nI_add, pk_mul, Nat.add_zero])) ?_
  refine A_aload_n dX11_number_51 rfl 2 rfl ?_
  refine A_aload_n dX11_number_52 rfl 2 rfl ?_
  refine A_callV (M' := MX11_here) [] [.ref 93] 93 dX11_number_53 lk_RX11_95 oX11_here iX11_here rfl rfl ⟨lb rfl, lb rfl⟩ (lb rfl) ⟨lb rfl, lb rfl⟩ L93 rfl (c_here f tn c hT hc (a + 1) (nI a) (by omega)) ?_
  rintro _ g0 ⟨rfl, hg0⟩
  rw [hg0]
  refine A_i2l dX11_number_56 ?_
  refine A_ldc2 dX11_number_57 k_RX11_115 ?_
  refine A_ldc2 dX11_number_60 k_RX11_117 ?_
  refine A_callS (M' := MX11_in) [.long ((hV (c (a + 1))).toInt64), .long 48, .long 57] [.ref 93] dX11_number_63 lk_RX11_64 oX11_in sX11_in rfl rfl ⟨lb rfl, lb rfl⟩ (lb rfl) ⟨lb rfl, lb rfl⟩ (c_in _ _ _ _) ?_
  rintro _ g0 ⟨rfl, hg0⟩
  rw [hg0]
  refine A_topi (bz (isF (c (a + 1)))) (bz_c (hV_F _ (by have := hc.2.2.2 (a + 1); omega))) ?_
  refine A_aload_n dX11_number_66 rfl 2 rfl ?_
  refine A_getI dX11_number_67 fo_RX11_89 L93 rfl ?_
  refine A_topi (nI (a + 1)) (rd_a f (a + 1) (nI a) (by decide)) ?_
  refine A_callV (M' := MX11_must) [.int (bz (isF (c (a + 1)))), .int (nI (a + 1))] [] 93 dX11_number_70 lk_RX11_99 oX11_must iX11_must rfl rfl ⟨lb rfl, lb rfl⟩ (lb rfl) ⟨lb rfl, lb rfl⟩ L93 rfl (c_must0 f (a + 1) (nI a) (bz (isF (c (a + 1)))) (nI (a + 1)) (nI_ge0 (by omega))) ?_
  rintro _ g0 ⟨rfl, hg0⟩
  rw [hg0]
  refine A_iconst (v := 0) dX11_number_73 rfl ?_
  refine A_istore (lv' := [(6, .int 0), (5, .int 0), (4, .int (nI (a + 1))), (0, .ref 93), (1, .int 2), (2, .int 12), (3, .int 0)]) dX11_number_74 (lb rfl) rfl ?_
  refine A_iconst (v := 0) dX11_number_76 rfl ?_
  refine A_istore (lv' := [(7, .int 0), (6, .int 0), (5, .int 0), (4, .int (nI (a + 1))), (0, .ref 93), (1, .int 2), (2, .int 12), (3, .int 0)]) dX11_number_77 (lb rfl) rfl ?_
  refine A_iload dX11_number_79 0 rfl ?_
  refine A_iload_n dX11_number_81 rfl 5 rfl ?_
  refine A_icmp_ge (tgt := 133) dX11_number_82 rfl (fun h82 => by exact absurd h82 (by decide)) (fun h82 => ?_)
  refine A_aload_n dX11_number_85 rfl 4 rfl ?_
  refine A_callV (M' := MX11_here) [] [] 93 dX11_number_86 lk_RX11_95 oX11_here iX11_here rfl rfl ⟨lb rfl, lb rfl⟩ (lb rfl) ⟨lb rfl, lb rfl⟩ L93 rfl (c_here f tn c hT hc (a + 1) (nI a) (by omega)) ?_
  rintro _ g0 ⟨rfl, hg0⟩
  rw [hg0]
  refine A_i2l dX11_number_89 ?_
  refine A_ldc2 dX11_number_90 k_RX11_115 ?_
  refine A_ldc2 dX11_number_93 k_RX11_117 ?_
  refine A_callS (M' := MX11_in) [.long ((hV (c (a + 1))).toInt64), .long 48, .long 57] [] dX11_number_96 lk_RX11_64 oX11_in sX11_in rfl rfl ⟨lb rfl, lb rfl⟩ (lb rfl) ⟨lb rfl, lb rfl⟩ (c_in _ _ _ _) ?_
  rintro _ g0 ⟨rfl, hg0⟩
  rw [hg0]
  refine A_topi (bz (isF (c (a + 1)))) (bz_c (hV_F _ (by have := hc.2.2.2 (a + 1); omega))) ?_
  refine A_if_eq (tgt := 133) dX11_number_99 rfl (fun h99 => ?_) (fun h99 => ?_)
  · refine A_aload_n dX11_number_133 rfl 4 rfl ?_
    refine A_iload dX11_number_134 1 rfl ?_
    refine A_iload_n dX11_number_136 rfl 6 rfl ?_
    refine A_icmp_gt (tgt := 144) dX11_number_137 rfl (fun h137 => by exact absurd h137 (by decide)) (fun h137 => ?_)
    refine A_iconst (v := 1) dX11_number_140 rfl ?_
    refine A_goto (tgt := 145) dX11_number_141 rfl ?_
    refine A_iload dX11_number_145 3 rfl ?_
    refine A_callV (M' := MX11_must) [.int 1, .int (nI (a + 1))] [] 93 dX11_number_147 lk_RX11_99 oX11_must iX11_must rfl rfl ⟨lb rfl, lb rfl⟩ (lb rfl) ⟨lb rfl, lb rfl⟩ L93 rfl (c_must0 f (a + 1) (nI a) 1 (nI (a + 1)) (nI_ge0 (by omega))) ?_
    rintro _ g0 ⟨rfl, hg0⟩
    rw [hg0]
    refine A_iload dX11_number_150 2 rfl ?_
    refine A_if_eq (tgt := 161) dX11_number_152 rfl (fun h152 => ?_) (fun h152 => by exact absurd rfl h152)
    refine A_iload dX11_number_161 1 rfl ?_
    exact A_iret dX11_number_163 rfl (⟨_, _, rfl, rfl⟩)
  · have hF1 := bz_n0.mp h99
    refine A_bipush (v := 10) dX11_number_102 rfl ?_
    refine A_iload dX11_number_104 1 rfl ?_
    refine A_imul dX11_number_106 ?_
    refine A_topi (0) (by decide) ?_
    refine A_aload_n dX11_number_107 rfl 4 rfl ?_
    refine A_callV (M' := MX11_here) [] [.int 0] 93 dX11_number_108 lk_RX11_95 oX11_here iX11_here rfl rfl ⟨lb rfl, lb rfl⟩ (lb rfl) ⟨lb rfl, lb rfl⟩ L93 rfl (c_here f tn c hT hc (a + 1) (nI a) (by omega)) ?_
    rintro _ g0 ⟨rfl, hg0⟩
    rw [hg0]
    refine A_topi (nI (c (a + 1))) (hV_n (bz_n0.mp h99)) ?_
    refine A_iadd dX11_number_111 ?_
    refine A_bipush (v := 48) dX11_number_112 rfl ?_
    refine A_isub dX11_number_114 ?_
    refine A_topi (nI (c (a + 1) - 48)) (fig1 _ (by omega) (by omega)) ?_
    refine A_istore (lv' := [(6, .int (nI (c (a + 1) - 48))), (7, .int 0), (5, .int 0), (4, .int (nI (a + 1))), (0, .ref 93), (1, .int 2), (2, .int 12), (3, .int 0)]) dX11_number_115 (lb rfl) rfl ?_
    refine A_aload_n dX11_number_117 rfl 4 rfl ?_
    refine A_dup dX11_number_118 rfl ?_
    refine A_getI dX11_number_119 fo_RX11_89 L93 rfl ?_
    refine A_topi (nI (a + 1)) (rd_a f (a + 1) (nI a) (by decide)) ?_
    refine A_iconst (v := 1) dX11_number_122 rfl ?_
    refine A_iadd dX11_number_123 ?_
    refine A_putI dX11_number_124 fo_RX11_89 L93 rfl ?_
    refine A_eq rfl rfl (f' := rd 93 10 11 f (a + 1 + 1) (nI a)) (rd_ua f (a + 1) (a + 1 + 1) (nI a) (by decide) (by simp only [lit, nI_add, pk_mul, Nat.add_zero])) ?_
    refine A_iinc (lv' := [(7, .int 1), (6, .int (nI (c (a + 1) - 48))), (5, .int 0), (4, .int (nI (a + 1))), (0, .ref 93), (1, .int 2), (2, .int 12), (3, .int 0)]) dX11_number_127 1 rfl rfl (lb rfl) rfl ?_
    refine A_goto (tgt := 79) dX11_number_130 rfl ?_
    refine A_iload dX11_number_79 0 rfl ?_
    refine A_iload_n dX11_number_81 rfl 5 rfl ?_
    refine A_icmp_ge (tgt := 133) dX11_number_82 rfl (fun h82 => by exact absurd h82 (by decide)) (fun h82 => ?_)
    refine A_aload_n dX11_number_85 rfl 4 rfl ?_
    refine A_callV (M' := MX11_here) [] [] 93 dX11_number_86 lk_RX11_95 oX11_here iX11_here rfl rfl ⟨lb rfl, lb rfl⟩ (lb rfl) ⟨lb rfl, lb rfl⟩ L93 rfl (c_here f tn c hT hc (a + 1 + 1) (nI a) (by omega)) ?_
    rintro _ g0 ⟨rfl, hg0⟩
    rw [hg0]
    refine A_i2l dX11_number_89 ?_
    refine A_ldc2 dX11_number_90 k_RX11_115 ?_
    refine A_ldc2 dX11_number_93 k_RX11_117 ?_
    refine A_callS (M' := MX11_in) [.long ((hV (c (a + 1 + 1))).toInt64), .long 48, .long 57] [] dX11_number_96 lk_RX11_64 oX11_in sX11_in rfl rfl ⟨lb rfl, lb rfl⟩ (lb rfl) ⟨lb rfl, lb rfl⟩ (c_in _ _ _ _) ?_
    rintro _ g0 ⟨rfl, hg0⟩
    rw [hg0]
    refine A_topi (bz (isF (c (a + 1 + 1)))) (bz_c (hV_F _ (by have := hc.2.2.2 (a + 1 + 1); omega))) ?_
    refine A_if_eq (tgt := 133) dX11_number_99 rfl (fun h99 => ?_) (fun h99 => ?_)
    · refine A_aload_n dX11_number_133 rfl 4 rfl ?_
      refine A_iload dX11_number_134 1 rfl ?_
      refine A_iload_n dX11_number_136 rfl 6 rfl ?_
      refine A_icmp_gt (tgt := 144) dX11_number_137 rfl (fun h137 => ?_) (fun h137 => ?_)
      · refine A_iconst (v := 0) dX11_number_144 rfl ?_
        refine A_iload dX11_number_145 3 rfl ?_
        refine A_callV (M' := MX11_must) [.int 0, .int (nI (a + 1))] [] 93 dX11_number_147 lk_RX11_99 oX11_must iX11_must rfl rfl ⟨lb rfl, lb rfl⟩ (lb rfl) ⟨lb rfl, lb rfl⟩ L93 rfl (c_must0 f (a + 1 + 1) (nI a) 0 (nI (a + 1)) (nI_ge0 (by omega))) ?_
        rintro _ g0 ⟨rfl, hg0⟩
        rw [hg0]
        refine A_iload dX11_number_150 2 rfl ?_
        refine A_if_eq (tgt := 161) dX11_number_152 rfl (fun h152 => ?_) (fun h152 => by exact absurd rfl h152)
        refine A_iload dX11_number_161 1 rfl ?_
        exact A_iret dX11_number_163 rfl (⟨_, _, rfl, rfl⟩)
      · refine A_iconst (v := 1) dX11_number_140 rfl ?_
        refine A_goto (tgt := 145) dX11_number_141 rfl ?_
        refine A_iload dX11_number_145 3 rfl ?_
        refine A_callV (M' := MX11_must) [.int 1, .int (nI (a + 1))] [] 93 dX11_number_147 lk_RX11_99 oX11_must iX11_must rfl rfl ⟨lb rfl, lb rfl⟩ (lb rfl) ⟨lb rfl, lb rfl⟩ L93 rfl (c_must0 f (a + 1 + 1) (nI a) 1 (nI (a + 1)) (nI_ge0 (by omega))) ?_
        rintro _ g0 ⟨rfl, hg0⟩
        rw [hg0]
        refine A_iload dX11_number_150 2 rfl ?_
        refine A_if_eq (tgt := 161) dX11_number_152 rfl (fun h152 => ?_) (fun h152 => by exact absurd rfl h152)
        refine A_iload dX11_number_161 1 rfl ?_
        exact A_iret dX11_number_163 rfl (⟨_, _, rfl, rfl⟩)
    · have hF2 := bz_n0.mp h99
      refine A_bipush (v := 10) dX11_number_102 rfl ?_
      refine A_iload dX11_number_104 1 rfl ?_
      refine A_imul dX11_number_106 ?_
      refine A_aload_n dX11_number_107 rfl 4 rfl ?_
      refine A_callV (M' := MX11_here) [] [.int (10 * (nI (c (a + 1) - 48)))] 93 dX11_number_108 lk_RX11_95 oX11_here iX11_here rfl rfl ⟨lb rfl, lb rfl⟩ (lb rfl) ⟨lb rfl, lb rfl⟩ L93 rfl (c_here f tn c hT hc (a + 1 + 1) (nI a) (by omega)) ?_
      rintro _ g0 ⟨rfl, hg0⟩
      rw [hg0]
      refine A_topi (nI (c (a + 1 + 1))) (hV_n (bz_n0.mp h99)) ?_
      refine A_iadd dX11_number_111 ?_
      refine A_bipush (v := 48) dX11_number_112 rfl ?_
      refine A_isub dX11_number_114 ?_
      refine A_topi (nI (10 * (c (a + 1) - 48) + (c (a + 1 + 1) - 48))) (fig3 _ (by omega) (by omega) _ (by omega) (by omega)) ?_
      refine A_istore (lv' := [(6, .int (nI (10 * (c (a + 1) - 48) + (c (a + 1 + 1) - 48)))), (7, .int 1), (5, .int 0), (4, .int (nI (a + 1))), (0, .ref 93), (1, .int 2), (2, .int 12), (3, .int 0)]) dX11_number_115 (lb rfl) rfl ?_
      refine A_aload_n dX11_number_117 rfl 4 rfl ?_
      refine A_dup dX11_number_118 rfl ?_
      refine A_getI dX11_number_119 fo_RX11_89 L93 rfl ?_
      refine A_topi (nI (a + 1 + 1)) (rd_a f (a + 1 + 1) (nI a) (by decide)) ?_
      refine A_iconst (v := 1) dX11_number_122 rfl ?_
      refine A_iadd dX11_number_123 ?_
      refine A_putI dX11_number_124 fo_RX11_89 L93 rfl ?_
      refine A_eq rfl rfl (f' := rd 93 10 11 f (a + 1 + 1 + 1) (nI a)) (rd_ua f (a + 1 + 1) (a + 1 + 1 + 1) (nI a) (by decide) (by simp only [lit, nI_add, pk_mul, Nat.add_zero])) ?_
      refine A_iinc (lv' := [(7, .int 2), (6, .int (nI (10 * (c (a + 1) - 48) + (c (a + 1 + 1) - 48)))), (5, .int 0), (4, .int (nI (a + 1))), (0, .ref 93), (1, .int 2), (2, .int 12), (3, .int 0)]) dX11_number_127 1 rfl rfl (lb rfl) rfl ?_
      refine A_goto (tgt := 79) dX11_number_130 rfl ?_
      refine A_iload dX11_number_79 0 rfl ?_
      refine A_iload_n dX11_number_81 rfl 5 rfl ?_
      refine A_icmp_ge (tgt := 133) dX11_number_82 rfl (fun h82 => ?_) (fun h82 => by exact absurd (by decide) h82)
      refine A_aload_n dX11_number_133 rfl 4 rfl ?_
      refine A_iload dX11_number_134 1 rfl ?_
      refine A_iload_n dX11_number_136 rfl 6 rfl ?_
      refine A_icmp_gt (tgt := 144) dX11_number_137 rfl (fun h137 => ?_) (fun h137 => ?_)
      · refine A_iconst (v := 0) dX11_number_144 rfl ?_
        refine A_iload dX11_number_145 3 rfl ?_
        refine A_callV (M' := MX11_must) [.int 0, .int (nI (a + 1))] [] 93 dX11_number_147 lk_RX11_99 oX11_must iX11_must rfl rfl ⟨lb rfl, lb rfl⟩ (lb rfl) ⟨lb rfl, lb rfl⟩ L93 rfl (c_must0 f (a + 1 + 1 + 1) (nI a) 0 (nI (a + 1)) (nI_ge0 (by omega))) ?_
        rintro _ g0 ⟨rfl, hg0⟩
        rw [hg0]
        refine A_iload dX11_number_150 2 rfl ?_
        refine A_if_eq (tgt := 161) dX11_number_152 rfl (fun h152 => ?_) (fun h152 => by exact absurd rfl h152)
        refine A_iload dX11_number_161 1 rfl ?_
        exact A_iret dX11_number_163 rfl (⟨_, _, rfl, rfl⟩)
      · refine A_iconst (v := 1) dX11_number_140 rfl ?_
        refine A_goto (tgt := 145) dX11_number_141 rfl ?_
        refine A_iload dX11_number_145 3 rfl ?_
        refine A_callV (M' := MX11_must) [.int 1, .int (nI (a + 1))] [] 93 dX11_number_147 lk_RX11_99 oX11_must iX11_must rfl rfl ⟨lb rfl, lb rfl⟩ (lb rfl) ⟨lb rfl, lb rfl⟩ L93 rfl (c_must0 f (a + 1 + 1 + 1) (nI a) 1 (nI (a + 1)) (nI_ge0 (by omega))) ?_
        rintro _ g0 ⟨rfl, hg0⟩
        rw [hg0]
        refine A_iload dX11_number_150 2 rfl ?_
        refine A_if_eq (tgt := 161) dX11_number_152 rfl (fun h152 => ?_) (fun h152 => by exact absurd rfl h152)
        refine A_iload dX11_number_161 1 rfl ?_
        exact A_iret dX11_number_163 rfl (⟨_, _, rfl, rfl⟩)
theorem c_nt1 (f : Mem) (tn : Nat) (c : Nat → Nat) (hT : RTp f tn c) (hc : tcW c tn) (a : Nat) (ha : a < 2 ^ 28) (h : c a = 32) (h1 : ¬ isF (c (a + 1))) : C0 MX11_number [.ref 93, .int 2, .int 12, .int 0] (rd 93 10 11 f a (-1)) (fun r h => ∃ (x : Int32) (b : Nat), r = some (.int x) ∧ h = rd 93 10 11 f b (nI (a + 1))) := by
  refine Ct.of (lv := [(0, .ref 93), (1, .int 2), (2, .int 12), (3, .int 0)]) (by decide) (lb rfl) rfl ?_
  refine A_aload_n dX11_number_0 rfl 0 rfl ?_
  refine A_bipush (v := 32) dX11_number_1 rfl ?_
  refine A_callV (M' := MX11_takes) [.int 32] [] 93 dX11_number_3 lk_RX11_111 oX11_takes iX11_takes rfl rfl ⟨lb rfl, lb rfl⟩ (lb rfl) ⟨lb rfl, lb rfl⟩ L93 rfl (c_takes1 f tn c hT hc a (by omega) h) ?_
  rintro _ g0 ⟨rfl, hg0⟩
  rw [hg0]
  refine A_aload_n dX11_number_6 rfl 0 rfl ?_
  refine A_getI dX11_number_7 fo_RX11_89 L93 rfl ?_
  refine A_topi (nI (a + 1)) (rd_a f (a + 1) (-1) (by decide)) ?_
  refine A_istore (lv' := [(4, .int (nI (a + 1))), (0, .ref 93), (1, .int 2), (2, .int 12), (3, .int 0)]) dX11_number_10 (lb rfl) rfl ?_
  refine A_iload_n dX11_number_12 rfl 4 rfl ?_
  refine A_if_eq (tgt := 29) dX11_number_13 rfl (fun h13 => ?_) (fun h13 => by exact absurd rfl h13)
  refine A_iconst (v := 0) dX11_number_29 rfl ?_
  refine A_istore (lv' := [(5, .int 0), (4, .int (nI (a + 1))), (0, .ref 93), (1, .int 2), (2, .int 12), (3, .int 0)]) dX11_number_30 (lb rfl) rfl ?_
  refine A_aload_n dX11_number_32 rfl 2 rfl ?_
  refine A_dup dX11_number_33 rfl ?_
  refine A_getI dX11_number_34 fo_RX11_89 L93 rfl ?_
  refine A_topi (nI (a + 1)) (rd_a f (a + 1) (-1) (by decide)) ?_
  refine A_iload dX11_number_37 0 rfl ?_
  refine A_if_eq (tgt := 46) dX11_number_39 rfl (fun h39 => ?_) (fun h39 => by exact absurd rfl h39)
  refine A_iconst (v := 0) dX11_number_46 rfl ?_
  refine A_iadd dX11_number_47 ?_
  refine A_putI dX11_number_48 fo_RX11_89 L93 rfl ?_
  refine A_eq rfl rfl (f' := rd 93 10 11 f (a + 1) (-1)) (rd_ua f (a + 1) (a + 1) (-1) (by decide) (by simp only [lit, nI_add, pk_mul, Nat.add_zero])) ?_
  refine A_aload_n dX11_number_51 rfl 2 rfl ?_
  refine A_aload_n dX11_number_52 rfl 2 rfl ?_
  refine A_callV (M' := MX11_here) [] [.ref 93] 93 dX11_number_53 lk_RX11_95 oX11_here iX11_here rfl rfl ⟨lb rfl, lb rfl⟩ (lb rfl) ⟨lb rfl, lb rfl⟩ L93 rfl (c_here f tn c hT hc (a + 1) (-1) (by omega)) ?_
  rintro _ g0 ⟨rfl, hg0⟩
  rw [hg0]
  refine A_i2l dX11_number_56 ?_
  refine A_ldc2 dX11_number_57 k_RX11_115 ?_
  refine A_ldc2 dX11_number_60 k_RX11_117 ?_
  refine A_callS (M' := MX11_in) [.long ((hV (c (a + 1))).toInt64), .long 48, .long 57] [.ref 93] dX11_number_63 lk_RX11_64 oX11_in sX11_in rfl rfl ⟨lb rfl, lb rfl⟩ (lb rfl) ⟨lb rfl, lb rfl⟩ (c_in _ _ _ _) ?_
  rintro _ g0 ⟨rfl, hg0⟩
  rw [hg0]
  refine A_topi (bz (isF (c (a + 1)))) (bz_c (hV_F _ (by have := hc.2.2.2 (a + 1); omega))) ?_
  refine A_aload_n dX11_number_66 rfl 2 rfl ?_
  refine A_getI dX11_number_67 fo_RX11_89 L93 rfl ?_
  refine A_topi (nI (a + 1)) (rd_a f (a + 1) (-1) (by decide)) ?_
  refine A_callV (M' := MX11_must) [.int (bz (isF (c (a + 1)))), .int (nI (a + 1))] [] 93 dX11_number_70 lk_RX11_99 oX11_must iX11_must rfl rfl ⟨lb rfl, lb rfl⟩ (lb rfl) ⟨lb rfl, lb rfl⟩ L93 rfl (c_must2 f (a + 1) (bz (isF (c (a + 1)))) (nI (a + 1)) (bz_0.mpr h1)) ?_
  rintro _ g0 ⟨rfl, hg0⟩
  rw [hg0]
  refine A_iconst (v := 0) dX11_number_73 rfl ?_
  refine A_istore (lv' := [(6, .int 0), (5, .int 0), (4, .int (nI (a + 1))), (0, .ref 93), (1, .int 2), (2, .int 12), (3, .int 0)]) dX11_number_74 (lb rfl) rfl ?_
  refine A_iconst (v := 0) dX11_number_76 rfl ?_
  refine A_istore (lv' := [(7, .int 0), (6, .int 0), (5, .int 0), (4, .int (nI (a + 1))), (0, .ref 93), (1, .int 2), (2, .int 12), (3, .int 0)]) dX11_number_77 (lb rfl) rfl ?_
  refine A_iload dX11_number_79 0 rfl ?_
  refine A_iload_n dX11_number_81 rfl 5 rfl ?_
  refine A_icmp_ge (tgt := 133) dX11_number_82 rfl (fun h82 => by exact absurd h82 (by decide)) (fun h82 => ?_)
  refine A_aload_n dX11_number_85 rfl 4 rfl ?_
  refine A_callV (M' := MX11_here) [] [] 93 dX11_number_86 lk_RX11_95 oX11_here iX11_here rfl rfl ⟨lb rfl, lb rfl⟩ (lb rfl) ⟨lb rfl, lb rfl⟩ L93 rfl (c_here f tn c hT hc (a + 1) (nI (a + 1)) (by omega)) ?_
  rintro _ g0 ⟨rfl, hg0⟩
  rw [hg0]
  refine A_i2l dX11_number_89 ?_
  refine A_ldc2 dX11_number_90 k_RX11_115 ?_
  refine A_ldc2 dX11_number_93 k_RX11_117 ?_
  refine A_callS (M' := MX11_in) [.long ((hV (c (a + 1))).toInt64), .long 48, .long 57] [] dX11_number_96 lk_RX11_64 oX11_in sX11_in rfl rfl ⟨lb rfl, lb rfl⟩ (lb rfl) ⟨lb rfl, lb rfl⟩ (c_in _ _ _ _) ?_
  rintro _ g0 ⟨rfl, hg0⟩
  rw [hg0]
  refine A_topi (bz (isF (c (a + 1)))) (bz_c (hV_F _ (by have := hc.2.2.2 (a + 1); omega))) ?_
  refine A_if_eq (tgt := 133) dX11_number_99 rfl (fun h99 => ?_) (fun h99 => by exact absurd (bz_n0.mp h99) h1)
  refine A_aload_n dX11_number_133 rfl 4 rfl ?_
  refine A_iload dX11_number_134 1 rfl ?_
  refine A_iload_n dX11_number_136 rfl 6 rfl ?_
  refine A_icmp_gt (tgt := 144) dX11_number_137 rfl (fun h137 => by exact absurd h137 (by decide)) (fun h137 => ?_)
  refine A_iconst (v := 1) dX11_number_140 rfl ?_
  refine A_goto (tgt := 145) dX11_number_141 rfl ?_
  refine A_iload dX11_number_145 3 rfl ?_
  refine A_callV (M' := MX11_must) [.int 1, .int (nI (a + 1))] [] 93 dX11_number_147 lk_RX11_99 oX11_must iX11_must rfl rfl ⟨lb rfl, lb rfl⟩ (lb rfl) ⟨lb rfl, lb rfl⟩ L93 rfl (c_must0 f (a + 1) (nI (a + 1)) 1 (nI (a + 1)) (nI_ge0 (by omega))) ?_
  rintro _ g0 ⟨rfl, hg0⟩
  rw [hg0]
  refine A_iload dX11_number_150 2 rfl ?_
  refine A_if_eq (tgt := 161) dX11_number_152 rfl (fun h152 => ?_) (fun h152 => by exact absurd rfl h152)
  refine A_iload dX11_number_161 1 rfl ?_
  exact A_iret dX11_number_163 rfl (⟨_, _, rfl, rfl⟩)
theorem c_nt2 (f : Mem) (tn : Nat) (c : Nat → Nat) (hT : RTp f tn c) (hc : tcW c tn) (a : Nat) (ha : a < 2 ^ 28) (h : c a = 32) (h1 : isF (c (a + 1))) (h2 : ¬ isF (c (a + 1 + 1))) : C0 MX11_number [.ref 93, .int 2, .int 12, .int 0] (rd 93 10 11 f a (-1)) (rt (some (.int (nI (c (a + 1) - 48)))) (rd 93 10 11 f (a + 1 + 1) (-1))) := by
  refine Ct.of (lv := [(0, .ref 93), (1, .int 2), (2, .int 12), (3, .int 0)]) (by decide) (lb rfl) rfl ?_
  refine A_aload_n dX11_number_0 rfl 0 rfl ?_
  refine A_bipush (v := 32) dX11_number_1 rfl ?_
  refine A_callV (M' := MX11_takes) [.int 32] [] 93 dX11_number_3 lk_RX11_111 oX11_takes iX11_takes rfl rfl ⟨lb rfl, lb rfl⟩ (lb rfl) ⟨lb rfl, lb rfl⟩ L93 rfl (c_takes1 f tn c hT hc a (by omega) h) ?_
  rintro _ g0 ⟨rfl, hg0⟩
  rw [hg0]
  refine A_aload_n dX11_number_6 rfl 0 rfl ?_
  refine A_getI dX11_number_7 fo_RX11_89 L93 rfl ?_
  refine A_topi (nI (a + 1)) (rd_a f (a + 1) (-1) (by decide)) ?_
  refine A_istore (lv' := [(4, .int (nI (a + 1))), (0, .ref 93), (1, .int 2), (2, .int 12), (3, .int 0)]) dX11_number_10 (lb rfl) rfl ?_
  refine A_iload_n dX11_number_12 rfl 4 rfl ?_
  refine A_if_eq (tgt := 29) dX11_number_13 rfl (fun h13 => ?_) (fun h13 => by exact absurd rfl h13)
  refine A_iconst (v := 0) dX11_number_29 rfl ?_
  refine A_istore (lv' := [(5, .int 0), (4, .int (nI (a + 1))), (0, .ref 93), (1, .int 2), (2, .int 12), (3, .int 0)]) dX11_number_30 (lb rfl) rfl ?_
  refine A_aload_n dX11_number_32 rfl 2 rfl ?_
  refine A_dup dX11_number_33 rfl ?_
  refine A_getI dX11_number_34 fo_RX11_89 L93 rfl ?_
  refine A_topi (nI (a + 1)) (rd_a f (a + 1) (-1) (by decide)) ?_
  refine A_iload dX11_number_37 0 rfl ?_
  refine A_if_eq (tgt := 46) dX11_number_39 rfl (fun h39 => ?_) (fun h39 => by exact absurd rfl h39)
  refine A_iconst (v := 0) dX11_number_46 rfl ?_
  refine A_iadd dX11_number_47 ?_
  refine A_putI dX11_number_48 fo_RX11_89 L93 rfl ?_
  refine A_eq rfl rfl (f' := rd 93 10 11 f (a + 1) (-1)) (rd_ua f (a + 1) (a + 1) (-1) (by decide) (by simp only [lit, nI_add, pk_mul, Nat.add_zero])) ?_
  refine A_aload_n dX11_number_51 rfl 2 rfl ?_
  refine A_aload_n dX11_number_52 rfl 2 rfl ?_
  refine A_callV (M' := MX11_here) [] [.ref 93] 93 dX11_number_53 lk_RX11_95 oX11_here iX11_here rfl rfl ⟨lb rfl, lb rfl⟩ (lb rfl) ⟨lb rfl, lb rfl⟩ L93 rfl (c_here f tn c hT hc (a + 1) (-1) (by omega)) ?_
  rintro _ g0 ⟨rfl, hg0⟩
  rw [hg0]
  refine A_i2l dX11_number_56 ?_
  refine A_ldc2 dX11_number_57 k_RX11_115 ?_
  refine A_ldc2 dX11_number_60 k_RX11_117 ?_
  refine A_callS (M' := MX11_in) [.long ((hV (c (a + 1))).toInt64), .long 48, .long 57] [.ref 93] dX11_number_63 lk_RX11_64 oX11_in sX11_in rfl rfl ⟨lb rfl, lb rfl⟩ (lb rfl) ⟨lb rfl, lb rfl⟩ (c_in _ _ _ _) ?_
  rintro _ g0 ⟨rfl, hg0⟩
  rw [hg0]
  refine A_topi (bz (isF (c (a + 1)))) (bz_c (hV_F _ (by have := hc.2.2.2 (a + 1); omega))) ?_
  refine A_aload_n dX11_number_66 rfl 2 rfl ?_
  refine A_getI dX11_number_67 fo_RX11_89 L93 rfl ?_
  refine A_topi (nI (a + 1)) (rd_a f (a + 1) (-1) (by decide)) ?_
  refine A_callV (M' := MX11_must) [.int (bz (isF (c (a + 1)))), .int (nI (a + 1))] [] 93 dX11_number_70 lk_RX11_99 oX11_must iX11_must rfl rfl ⟨lb rfl, lb rfl⟩ (lb rfl) ⟨lb rfl, lb rfl⟩ L93 rfl (c_must1 f (a + 1) (bz (isF (c (a + 1)))) (nI (a + 1)) (bz_n0.mpr h1)) ?_
  rintro _ g0 ⟨rfl, hg0⟩
  rw [hg0]
  refine A_iconst (v := 0) dX11_number_73 rfl ?_
  refine A_istore (lv' := [(6, .int 0), (5, .int 0), (4, .int (nI (a + 1))), (0, .ref 93), (1, .int 2), (2, .int 12), (3, .int 0)]) dX11_number_74 (lb rfl) rfl ?_
  refine A_iconst (v := 0) dX11_number_76 rfl ?_
  refine A_istore (lv' := [(7, .int 0), (6, .int 0), (5, .int 0), (4, .int (nI (a + 1))), (0, .ref 93), (1, .int 2), (2, .int 12), (3, .int 0)]) dX11_number_77 (lb rfl) rfl ?_
  refine A_iload dX11_number_79 0 rfl ?_
  refine A_iload_n dX11_number_81 rfl 5 rfl ?_
  refine A_icmp_ge (tgt := 133) dX11_number_82 rfl (fun h82 => by exact absurd h82 (by decide)) (fun h82 => ?_)
  refine A_aload_n dX11_number_85 rfl 4 rfl ?_
  refine A_callV (M' := MX11_here) [] [] 93 dX11_number_86 lk_RX11_95 oX11_here iX11_here rfl rfl ⟨lb rfl, lb rfl⟩ (lb rfl) ⟨lb rfl, lb rfl⟩ L93 rfl (c_here f tn c hT hc (a + 1) (-1) (by omega)) ?_
  rintro _ g0 ⟨rfl, hg0⟩
  rw [hg0]
  refine A_i2l dX11_number_89 ?_
  refine A_ldc2 dX11_number_90 k_RX11_115 ?_
  refine A_ldc2 dX11_number_93 k_RX11_117 ?_
  refine A_callS (M' := MX11_in) [.long ((hV (c (a + 1))).toInt64), .long 48, .long 57] [] dX11_number_96 lk_RX11_64 oX11_in sX11_in rfl rfl ⟨lb rfl, lb rfl⟩ (lb rfl) ⟨lb rfl, lb rfl⟩ (c_in _ _ _ _) ?_
  rintro _ g0 ⟨rfl, hg0⟩
  rw [hg0]
  refine A_topi (bz (isF (c (a + 1)))) (bz_c (hV_F _ (by have := hc.2.2.2 (a + 1); omega))) ?_
  refine A_if_eq (tgt := 133) dX11_number_99 rfl (fun h99 => by exact absurd h1 (bz_0.mp h99)) (fun h99 => ?_)
  refine A_bipush (v := 10) dX11_number_102 rfl ?_
  refine A_iload dX11_number_104 1 rfl ?_
  refine A_imul dX11_number_106 ?_
  refine A_topi (0) (by decide) ?_
  refine A_aload_n dX11_number_107 rfl 4 rfl ?_
  refine A_callV (M' := MX11_here) [] [.int 0] 93 dX11_number_108 lk_RX11_95 oX11_here iX11_here rfl rfl ⟨lb rfl, lb rfl⟩ (lb rfl) ⟨lb rfl, lb rfl⟩ L93 rfl (c_here f tn c hT hc (a + 1) (-1) (by omega)) ?_
  rintro _ g0 ⟨rfl, hg0⟩
  rw [hg0]
  refine A_topi (nI (c (a + 1))) (hV_n h1) ?_
  refine A_iadd dX11_number_111 ?_
  refine A_bipush (v := 48) dX11_number_112 rfl ?_
  refine A_isub dX11_number_114 ?_
  refine A_topi (nI (c (a + 1) - 48)) (fig1 _ (by omega) (by omega)) ?_
  refine A_istore (lv' := [(6, .int (nI (c (a + 1) - 48))), (7, .int 0), (5, .int 0), (4, .int (nI (a + 1))), (0, .ref 93), (1, .int 2), (2, .int 12), (3, .int 0)]) dX11_number_115 (lb rfl) rfl ?_
  refine A_aload_n dX11_number_117 rfl 4 rfl ?_
  refine A_dup dX11_number_118 rfl ?_
  refine A_getI dX11_number_119 fo_RX11_89 L93 rfl ?_
  refine A_topi (nI (a + 1)) (rd_a f (a + 1) (-1) (by decide)) ?_
  refine A_iconst (v := 1) dX11_number_122 rfl ?_
  refine A_iadd dX11_number_123 ?_
  refine A_putI dX11_number_124 fo_RX11_89 L93 rfl ?_
  refine A_eq rfl rfl (f' := rd 93 10 11 f (a + 1 + 1) (-1)) (rd_ua f (a + 1) (a + 1 + 1) (-1) (by decide) (by simp only [lit, nI_add, pk_mul, Nat.add_zero])) ?_
  refine A_iinc (lv' := [(7, .int 1), (6, .int (nI (c (a + 1) - 48))), (5, .int 0), (4, .int (nI (a + 1))), (0, .ref 93), (1, .int 2), (2, .int 12), (3, .int 0)]) dX11_number_127 1 rfl rfl (lb rfl) rfl ?_
  refine A_goto (tgt := 79) dX11_number_130 rfl ?_
  refine A_iload dX11_number_79 0 rfl ?_
  refine A_iload_n dX11_number_81 rfl 5 rfl ?_
  refine A_icmp_ge (tgt := 133) dX11_number_82 rfl (fun h82 => by exact absurd h82 (by decide)) (fun h82 => ?_)
  refine A_aload_n dX11_number_85 rfl 4 rfl ?_
  refine A_callV (M' := MX11_here) [] [] 93 dX11_number_86 lk_RX11_95 oX11_here iX11_here rfl rfl ⟨lb rfl, lb rfl⟩ (lb rfl) ⟨lb rfl, lb rfl⟩ L93 rfl (c_here f tn c hT hc (a + 1 + 1) (-1) (by omega)) ?_
  rintro _ g0 ⟨rfl, hg0⟩
  rw [hg0]
  refine A_i2l dX11_number_89 ?_
  refine A_ldc2 dX11_number_90 k_RX11_115 ?_
  refine A_ldc2 dX11_number_93 k_RX11_117 ?_
  refine A_callS (M' := MX11_in) [.long ((hV (c (a + 1 + 1))).toInt64), .long 48, .long 57] [] dX11_number_96 lk_RX11_64 oX11_in sX11_in rfl rfl ⟨lb rfl, lb rfl⟩ (lb rfl) ⟨lb rfl, lb rfl⟩ (c_in _ _ _ _) ?_
  rintro _ g0 ⟨rfl, hg0⟩
  rw [hg0]
  refine A_topi (bz (isF (c (a + 1 + 1)))) (bz_c (hV_F _ (by have := hc.2.2.2 (a + 1 + 1); omega))) ?_
  refine A_if_eq (tgt := 133) dX11_number_99 rfl (fun h99 => ?_) (fun h99 => by exact absurd (bz_n0.mp h99) h2)
  refine A_aload_n dX11_number_133 rfl 4 rfl ?_
  refine A_iload dX11_number_134 1 rfl ?_
  refine A_iload_n dX11_number_136 rfl 6 rfl ?_
  refine A_icmp_gt (tgt := 144) dX11_number_137 rfl (fun h137 => by exact absurd h137 (fun t => by rw [show (12 : Int32) = nI 12 from rfl, nI_ltI (by omega) (by omega)] at t; omega)) (fun h137 => ?_)
  refine A_iconst (v := 1) dX11_number_140 rfl ?_
  refine A_goto (tgt := 145) dX11_number_141 rfl ?_
  refine A_iload dX11_number_145 3 rfl ?_
  refine A_callV (M' := MX11_must) [.int 1, .int (nI (a + 1))] [] 93 dX11_number_147 lk_RX11_99 oX11_must iX11_must rfl rfl ⟨lb rfl, lb rfl⟩ (lb rfl) ⟨lb rfl, lb rfl⟩ L93 rfl (c_must1 f (a + 1 + 1) 1 (nI (a + 1)) (by decide)) ?_
  rintro _ g0 ⟨rfl, hg0⟩
  rw [hg0]
  refine A_iload dX11_number_150 2 rfl ?_
  refine A_if_eq (tgt := 161) dX11_number_152 rfl (fun h152 => ?_) (fun h152 => by exact absurd rfl h152)
  refine A_iload dX11_number_161 1 rfl ?_
  exact A_iret dX11_number_163 rfl (⟨rfl, rfl⟩)
theorem c_nt4 (f : Mem) (tn : Nat) (c : Nat → Nat) (hT : RTp f tn c) (hc : tcW c tn) (a : Nat) (ha : a < 2 ^ 28) (h : c a = 32) (h1 : isF (c (a + 1))) (h2 : isF (c (a + 1 + 1))) (hv : 10 * (c (a + 1) - 48) + (c (a + 1 + 1) - 48) ≤ 12) : C0 MX11_number [.ref 93, .int 2, .int 12, .int 0] (rd 93 10 11 f a (-1)) (rt (some (.int (nI (10 * (c (a + 1) - 48) + (c (a + 1 + 1) - 48))))) (rd 93 10 11 f (a + 1 + 1 + 1) (-1))) := by
  refine Ct.of (lv := [(0, .ref 93), (1, .int 2), (2, .int 12), (3, .int 0)]) (by decide) (lb rfl) rfl ?_
  refine A_aload_n dX11_number_0 rfl 0 rfl ?_
  refine A_bipush (v := 32) dX11_number_1 rfl ?_
  refine A_callV (M' := MX11_takes) [.int 32] [] 93 dX11_number_3 lk_RX11_111 oX11_takes iX11_takes rfl rfl ⟨lb rfl, lb rfl⟩ (lb rfl) ⟨lb rfl, lb rfl⟩ L93 rfl (c_takes1 f tn c hT hc a (by omega) h) ?_
  rintro _ g0 ⟨rfl, hg0⟩
  rw [hg0]
  refine A_aload_n dX11_number_6 rfl 0 rfl ?_
  refine A_getI dX11_number_7 fo_RX11_89 L93 rfl ?_
  refine A_topi (nI (a + 1)) (rd_a f (a + 1) (-1) (by decide)) ?_
  refine A_istore (lv' := [(4, .int (nI (a + 1))), (0, .ref 93), (1, .int 2), (2, .int 12), (3, .int 0)]) dX11_number_10 (lb rfl) rfl ?_
  refine A_iload_n dX11_number_12 rfl 4 rfl ?_
  refine A_if_eq (tgt := 29) dX11_number_13 rfl (fun h13 => ?_) (fun h13 => by exact absurd rfl h13)
  refine A_iconst (v := 0) dX11_number_29 rfl ?_
  refine A_istore (lv' := [(5, .int 0), (4, .int (nI (a + 1))), (0, .ref 93), (1, .int 2), (2, .int 12), (3, .int 0)]) dX11_number_30 (lb rfl) rfl ?_
  refine A_aload_n dX11_number_32 rfl 2 rfl ?_
  refine A_dup dX11_number_33 rfl ?_
  refine A_getI dX11_number_34 fo_RX11_89 L93 rfl ?_
  refine A_topi (nI (a + 1)) (rd_a f (a + 1) (-1) (by decide)) ?_
  refine A_iload dX11_number_37 0 rfl ?_
  refine A_if_eq (tgt := 46) dX11_number_39 rfl (fun h39 => ?_) (fun h39 => by exact absurd rfl h39)
  refine A_iconst (v := 0) dX11_number_46 rfl ?_
  refine A_iadd dX11_number_47 ?_
  refine A_putI dX11_number_48 fo_RX11_89 L93 rfl ?_
  refine A_eq rfl rfl (f' := rd 93 10 11 f (a + 1) (-1)) (rd_ua f (a + 1) (a + 1) (-1) (by decide) (by simp only [lit, nI_add, pk_mul, Nat.add_zero])) ?_
  refine A_aload_n dX11_number_51 rfl 2 rfl ?_
  refine A_aload_n dX11_number_52 rfl 2 rfl ?_
  refine A_callV (M' := MX11_here) [] [.ref 93] 93 dX11_number_53 lk_RX11_95 oX11_here iX11_here rfl rfl ⟨lb rfl, lb rfl⟩ (lb rfl) ⟨lb rfl, lb rfl⟩ L93 rfl (c_here f tn c hT hc (a + 1) (-1) (by omega)) ?_
  rintro _ g0 ⟨rfl, hg0⟩
  rw [hg0]
  refine A_i2l dX11_number_56 ?_
  refine A_ldc2 dX11_number_57 k_RX11_115 ?_
  refine A_ldc2 dX11_number_60 k_RX11_117 ?_
  refine A_callS (M' := MX11_in) [.long ((hV (c (a + 1))).toInt64), .long 48, .long 57] [.ref 93] dX11_number_63 lk_RX11_64 oX11_in sX11_in rfl rfl ⟨lb rfl, lb rfl⟩ (lb rfl) ⟨lb rfl, lb rfl⟩ (c_in _ _ _ _) ?_
  rintro _ g0 ⟨rfl, hg0⟩
  rw [hg0]
  refine A_topi (bz (isF (c (a + 1)))) (bz_c (hV_F _ (by have := hc.2.2.2 (a + 1); omega))) ?_
  refine A_aload_n dX11_number_66 rfl 2 rfl ?_
  refine A_getI dX11_number_67 fo_RX11_89 L93 rfl ?_
  refine A_topi (nI (a + 1)) (rd_a f (a + 1) (-1) (by decide)) ?_
  refine A_callV (M' := MX11_must) [.int (bz (isF (c (a + 1)))), .int (nI (a + 1))] [] 93 dX11_number_70 lk_RX11_99 oX11_must iX11_must rfl rfl ⟨lb rfl, lb rfl⟩ (lb rfl) ⟨lb rfl, lb rfl⟩ L93 rfl (c_must1 f (a + 1) (bz (isF (c (a + 1)))) (nI (a + 1)) (bz_n0.mpr h1)) ?_
  rintro _ g0 ⟨rfl, hg0⟩
  rw [hg0]
  refine A_iconst (v := 0) dX11_number_73 rfl ?_
  refine A_istore (lv' := [(6, .int 0), (5, .int 0), (4, .int (nI (a + 1))), (0, .ref 93), (1, .int 2), (2, .int 12), (3, .int 0)]) dX11_number_74 (lb rfl) rfl ?_
  refine A_iconst (v := 0) dX11_number_76 rfl ?_
  refine A_istore (lv' := [(7, .int 0), (6, .int 0), (5, .int 0), (4, .int (nI (a + 1))), (0, .ref 93), (1, .int 2), (2, .int 12), (3, .int 0)]) dX11_number_77 (lb rfl) rfl ?_
  refine A_iload dX11_number_79 0 rfl ?_
  refine A_iload_n dX11_number_81 rfl 5 rfl ?_
  refine A_icmp_ge (tgt := 133) dX11_number_82 rfl (fun h82 => by exact absurd h82 (by decide)) (fun h82 => ?_)
  refine A_aload_n dX11_number_85 rfl 4 rfl ?_
  refine A_callV (M' := MX11_here) [] [] 93 dX11_number_86 lk_RX11_95 oX11_here iX11_here rfl rfl ⟨lb rfl, lb rfl⟩ (lb rfl) ⟨lb rfl, lb rfl⟩ L93 rfl (c_here f tn c hT hc (a + 1) (-1) (by omega)) ?_
  rintro _ g0 ⟨rfl, hg0⟩
  rw [hg0]
  refine A_i2l dX11_number_89 ?_
  refine A_ldc2 dX11_number_90 k_RX11_115 ?_
  refine A_ldc2 dX11_number_93 k_RX11_117 ?_
  refine A_callS (M' := MX11_in) [.long ((hV (c (a + 1))).toInt64), .long 48, .long 57] [] dX11_number_96 lk_RX11_64 oX11_in sX11_in rfl rfl ⟨lb rfl, lb rfl⟩ (lb rfl) ⟨lb rfl, lb rfl⟩ (c_in _ _ _ _) ?_
  rintro _ g0 ⟨rfl, hg0⟩
  rw [hg0]
  refine A_topi (bz (isF (c (a + 1)))) (bz_c (hV_F _ (by have := hc.2.2.2 (a + 1); omega))) ?_
  refine A_if_eq (tgt := 133) dX11_number_99 rfl (fun h99 => by exact absurd h1 (bz_0.mp h99)) (fun h99 => ?_)
  refine A_bipush (v := 10) dX11_number_102 rfl ?_
  refine A_iload dX11_number_104 1 rfl ?_
  refine A_imul dX11_number_106 ?_
  refine A_topi (0) (by decide) ?_
  refine A_aload_n dX11_number_107 rfl 4 rfl ?_
  refine A_callV (M' := MX11_here) [] [.int 0] 93 dX11_number_108 lk_RX11_95 oX11_here iX11_here rfl rfl ⟨lb rfl, lb rfl⟩ (lb rfl) ⟨lb rfl, lb rfl⟩ L93 rfl (c_here f tn c hT hc (a + 1) (-1) (by omega)) ?_
  rintro _ g0 ⟨rfl, hg0⟩
  rw [hg0]
  refine A_topi (nI (c (a + 1))) (hV_n h1) ?_
  refine A_iadd dX11_number_111 ?_
  refine A_bipush (v := 48) dX11_number_112 rfl ?_
  refine A_isub dX11_number_114 ?_
  refine A_topi (nI (c (a + 1) - 48)) (fig1 _ (by omega) (by omega)) ?_
  refine A_istore (lv' := [(6, .int (nI (c (a + 1) - 48))), (7, .int 0), (5, .int 0), (4, .int (nI (a + 1))), (0, .ref 93), (1, .int 2), (2, .int 12), (3, .int 0)]) dX11_number_115 (lb rfl) rfl ?_
  refine A_aload_n dX11_number_117 rfl 4 rfl ?_
  refine A_dup dX11_number_118 rfl ?_
  refine A_getI dX11_number_119 fo_RX11_89 L93 rfl ?_
  refine A_topi (nI (a + 1)) (rd_a f (a + 1) (-1) (by decide)) ?_
  refine A_iconst (v := 1) dX11_number_122 rfl ?_
  refine A_iadd dX11_number_123 ?_
  refine A_putI dX11_number_124 fo_RX11_89 L93 rfl ?_
  refine A_eq rfl rfl (f' := rd 93 10 11 f (a + 1 + 1) (-1)) (rd_ua f (a + 1) (a + 1 + 1) (-1) (by decide) (by simp only [lit, nI_add, pk_mul, Nat.add_zero])) ?_
  refine A_iinc (lv' := [(7, .int 1), (6, .int (nI (c (a + 1) - 48))), (5, .int 0), (4, .int (nI (a + 1))), (0, .ref 93), (1, .int 2), (2, .int 12), (3, .int 0)]) dX11_number_127 1 rfl rfl (lb rfl) rfl ?_
  refine A_goto (tgt := 79) dX11_number_130 rfl ?_
  refine A_iload dX11_number_79 0 rfl ?_
  refine A_iload_n dX11_number_81 rfl 5 rfl ?_
  refine A_icmp_ge (tgt := 133) dX11_number_82 rfl (fun h82 => by exact absurd h82 (by decide)) (fun h82 => ?_)
  refine A_aload_n dX11_number_85 rfl 4 rfl ?_
  refine A_callV (M' := MX11_here) [] [] 93 dX11_number_86 lk_RX11_95 oX11_here iX11_here rfl rfl ⟨lb rfl, lb rfl⟩ (lb rfl) ⟨lb rfl, lb rfl⟩ L93 rfl (c_here f tn c hT hc (a + 1 + 1) (-1) (by omega)) ?_
  rintro _ g0 ⟨rfl, hg0⟩
  rw [hg0]
  refine A_i2l dX11_number_89 ?_
  refine A_ldc2 dX11_number_90 k_RX11_115 ?_
  refine A_ldc2 dX11_number_93 k_RX11_117 ?_
  refine A_callS (M' := MX11_in) [.long ((hV (c (a + 1 + 1))).toInt64), .long 48, .long 57] [] dX11_number_96 lk_RX11_64 oX11_in sX11_in rfl rfl ⟨lb rfl, lb rfl⟩ (lb rfl) ⟨lb rfl, lb rfl⟩ (c_in _ _ _ _) ?_
  rintro _ g0 ⟨rfl, hg0⟩
  rw [hg0]
  refine A_topi (bz (isF (c (a + 1 + 1)))) (bz_c (hV_F _ (by have := hc.2.2.2 (a + 1 + 1); omega))) ?_
  refine A_if_eq (tgt := 133) dX11_number_99 rfl (fun h99 => by exact absurd h2 (bz_0.mp h99)) (fun h99 => ?_)
  refine A_bipush (v := 10) dX11_number_102 rfl ?_
  refine A_iload dX11_number_104 1 rfl ?_
  refine A_imul dX11_number_106 ?_
  refine A_aload_n dX11_number_107 rfl 4 rfl ?_
  refine A_callV (M' := MX11_here) [] [.int (10 * (nI (c (a + 1) - 48)))] 93 dX11_number_108 lk_RX11_95 oX11_here iX11_here rfl rfl ⟨lb rfl, lb rfl⟩ (lb rfl) ⟨lb rfl, lb rfl⟩ L93 rfl (c_here f tn c hT hc (a + 1 + 1) (-1) (by omega)) ?_
  rintro _ g0 ⟨rfl, hg0⟩
  rw [hg0]
  refine A_topi (nI (c (a + 1 + 1))) (hV_n h2) ?_
  refine A_iadd dX11_number_111 ?_
  refine A_bipush (v := 48) dX11_number_112 rfl ?_
  refine A_isub dX11_number_114 ?_
  refine A_topi (nI (10 * (c (a + 1) - 48) + (c (a + 1 + 1) - 48))) (fig3 _ (by omega) (by omega) _ (by omega) (by omega)) ?_
  refine A_istore (lv' := [(6, .int (nI (10 * (c (a + 1) - 48) + (c (a + 1 + 1) - 48)))), (7, .int 1), (5, .int 0), (4, .int (nI (a + 1))), (0, .ref 93), (1, .int 2), (2, .int 12), (3, .int 0)]) dX11_number_115 (lb rfl) rfl ?_
  refine A_aload_n dX11_number_117 rfl 4 rfl ?_
  refine A_dup dX11_number_118 rfl ?_
  refine A_getI dX11_number_119 fo_RX11_89 L93 rfl ?_
  refine A_topi (nI (a + 1 + 1)) (rd_a f (a + 1 + 1) (-1) (by decide)) ?_
  refine A_iconst (v := 1) dX11_number_122 rfl ?_
  refine A_iadd dX11_number_123 ?_
  refine A_putI dX11_number_124 fo_RX11_89 L93 rfl ?_
  refine A_eq rfl rfl (f' := rd 93 10 11 f (a + 1 + 1 + 1) (-1)) (rd_ua f (a + 1 + 1) (a + 1 + 1 + 1) (-1) (by decide) (by simp only [lit, nI_add, pk_mul, Nat.add_zero])) ?_
  refine A_iinc (lv' := [(7, .int 2), (6, .int (nI (10 * (c (a + 1) - 48) + (c (a + 1 + 1) - 48)))), (5, .int 0), (4, .int (nI (a + 1))), (0, .ref 93), (1, .int 2), (2, .int 12), (3, .int 0)]) dX11_number_127 1 rfl rfl (lb rfl) rfl ?_
  refine A_goto (tgt := 79) dX11_number_130 rfl ?_
  refine A_iload dX11_number_79 0 rfl ?_
  refine A_iload_n dX11_number_81 rfl 5 rfl ?_
  refine A_icmp_ge (tgt := 133) dX11_number_82 rfl (fun h82 => ?_) (fun h82 => by exact absurd (by decide) h82)
  refine A_aload_n dX11_number_133 rfl 4 rfl ?_
  refine A_iload dX11_number_134 1 rfl ?_
  refine A_iload_n dX11_number_136 rfl 6 rfl ?_
  refine A_icmp_gt (tgt := 144) dX11_number_137 rfl (fun h137 => by exact absurd h137 (fun t => by rw [show (12 : Int32) = nI 12 from rfl, nI_ltI (by omega) (by omega)] at t; omega)) (fun h137 => ?_)
  refine A_iconst (v := 1) dX11_number_140 rfl ?_
  refine A_goto (tgt := 145) dX11_number_141 rfl ?_
  refine A_iload dX11_number_145 3 rfl ?_
  refine A_callV (M' := MX11_must) [.int 1, .int (nI (a + 1))] [] 93 dX11_number_147 lk_RX11_99 oX11_must iX11_must rfl rfl ⟨lb rfl, lb rfl⟩ (lb rfl) ⟨lb rfl, lb rfl⟩ L93 rfl (c_must1 f (a + 1 + 1 + 1) 1 (nI (a + 1)) (by decide)) ?_
  rintro _ g0 ⟨rfl, hg0⟩
  rw [hg0]
  refine A_iload dX11_number_150 2 rfl ?_
  refine A_if_eq (tgt := 161) dX11_number_152 rfl (fun h152 => ?_) (fun h152 => by exact absurd rfl h152)
  refine A_iload dX11_number_161 1 rfl ?_
  exact A_iret dX11_number_163 rfl (⟨rfl, rfl⟩)
theorem c_nt5 (f : Mem) (tn : Nat) (c : Nat → Nat) (hT : RTp f tn c) (hc : tcW c tn) (a : Nat) (ha : a < 2 ^ 28) (h : c a = 32) (h1 : isF (c (a + 1))) (h2 : isF (c (a + 1 + 1))) (hv : ¬ 10 * (c (a + 1) - 48) + (c (a + 1 + 1) - 48) ≤ 12) : C0 MX11_number [.ref 93, .int 2, .int 12, .int 0] (rd 93 10 11 f a (-1)) (fun r h => ∃ (x : Int32) (b : Nat), r = some (.int x) ∧ h = rd 93 10 11 f b (nI (a + 1))) := by
  refine Ct.of (lv := [(0, .ref 93), (1, .int 2), (2, .int 12), (3, .int 0)]) (by decide) (lb rfl) rfl ?_
  refine A_aload_n dX11_number_0 rfl 0 rfl ?_
  refine A_bipush (v := 32) dX11_number_1 rfl ?_
  refine A_callV (M' := MX11_takes) [.int 32] [] 93 dX11_number_3 lk_RX11_111 oX11_takes iX11_takes rfl rfl ⟨lb rfl, lb rfl⟩ (lb rfl) ⟨lb rfl, lb rfl⟩ L93 rfl (c_takes1 f tn c hT hc a (by omega) h) ?_
  rintro _ g0 ⟨rfl, hg0⟩
  rw [hg0]
  refine A_aload_n dX11_number_6 rfl 0 rfl ?_
  refine A_getI dX11_number_7 fo_RX11_89 L93 rfl ?_
  refine A_topi (nI (a + 1)) (rd_a f (a + 1) (-1) (by decide)) ?_
  refine A_istore (lv' := [(4, .int (nI (a + 1))), (0, .ref 93), (1, .int 2), (2, .int 12), (3, .int 0)]) dX11_number_10 (lb rfl) rfl ?_
  refine A_iload_n dX11_number_12 rfl 4 rfl ?_
  refine A_if_eq (tgt := 29) dX11_number_13 rfl (fun h13 => ?_) (fun h13 => by exact absurd rfl h13)
  refine A_iconst (v := 0) dX11_number_29 rfl ?_
  refine A_istore (lv' := [(5, .int 0), (4, .int (nI (a + 1))), (0, .ref 93), (1, .int 2), (2, .int 12), (3, .int 0)]) dX11_number_30 (lb rfl) rfl ?_
  refine A_aload_n dX11_number_32 rfl 2 rfl ?_
  refine A_dup dX11_number_33 rfl ?_
  refine A_getI dX11_number_34 fo_RX11_89 L93 rfl ?_
  refine A_topi (nI (a + 1)) (rd_a f (a + 1) (-1) (by decide)) ?_
  refine A_iload dX11_number_37 0 rfl ?_
  refine A_if_eq (tgt := 46) dX11_number_39 rfl (fun h39 => ?_) (fun h39 => by exact absurd rfl h39)
  refine A_iconst (v := 0) dX11_number_46 rfl ?_
  refine A_iadd dX11_number_47 ?_
  refine A_putI dX11_number_48 fo_RX11_89 L93 rfl ?_
  refine A_eq rfl rfl (f' := rd 93 10 11 f (a + 1) (-1)) (rd_ua f (a + 1) (a + 1) (-1) (by decide) (by simp only [lit, nI_add, pk_mul, Nat.add_zero])) ?_
  refine A_aload_n dX11_number_51 rfl 2 rfl ?_
  refine A_aload_n dX11_number_52 rfl 2 rfl ?_
  refine A_callV (M' := MX11_here) [] [.ref 93] 93 dX11_number_53 lk_RX11_95 oX11_here iX11_here rfl rfl ⟨lb rfl, lb rfl⟩ (lb rfl) ⟨lb rfl, lb rfl⟩ L93 rfl (c_here f tn c hT hc (a + 1) (-1) (by omega)) ?_
  rintro _ g0 ⟨rfl, hg0⟩
  rw [hg0]
  refine A_i2l dX11_number_56 ?_
  refine A_ldc2 dX11_number_57 k_RX11_115 ?_
  refine A_ldc2 dX11_number_60 k_RX11_117 ?_
  refine A_callS (M' := MX11_in) [.long ((hV (c (a + 1))).toInt64), .long 48, .long 57] [.ref 93] dX11_number_63 lk_RX11_64 oX11_in sX11_in rfl rfl ⟨lb rfl, lb rfl⟩ (lb rfl) ⟨lb rfl, lb rfl⟩ (c_in _ _ _ _) ?_
  rintro _ g0 ⟨rfl, hg0⟩
  rw [hg0]
  refine A_topi (bz (isF (c (a + 1)))) (bz_c (hV_F _ (by have := hc.2.2.2 (a + 1); omega))) ?_
  refine A_aload_n dX11_number_66 rfl 2 rfl ?_
  refine A_getI dX11_number_67 fo_RX11_89 L93 rfl ?_
  refine A_topi (nI (a + 1)) (rd_a f (a + 1) (-1) (by decide)) ?_
  refine A_callV (M' := MX11_must) [.int (bz (isF (c (a + 1)))), .int (nI (a + 1))] [] 93 dX11_number_70 lk_RX11_99 oX11_must iX11_must rfl rfl ⟨lb rfl, lb rfl⟩ (lb rfl) ⟨lb rfl, lb rfl⟩ L93 rfl (c_must1 f (a + 1) (bz (isF (c (a + 1)))) (nI (a + 1)) (bz_n0.mpr h1)) ?_
  rintro _ g0 ⟨rfl, hg0⟩
  rw [hg0]
  refine A_iconst (v := 0) dX11_number_73 rfl ?_
  refine A_istore (lv' := [(6, .int 0), (5, .int 0), (4, .int (nI (a + 1))), (0, .ref 93), (1, .int 2), (2, .int 12), (3, .int 0)]) dX11_number_74 (lb rfl) rfl ?_
  refine A_iconst (v := 0) dX11_number_76 rfl ?_
  refine A_istore (lv' := [(7, .int 0), (6, .int 0), (5, .int 0), (4, .int (nI (a + 1))), (0, .ref 93), (1, .int 2), (2, .int 12), (3, .int 0)]) dX11_number_77 (lb rfl) rfl ?_
  refine A_iload dX11_number_79 0 rfl ?_
  refine A_iload_n dX11_number_81 rfl 5 rfl ?_
  refine A_icmp_ge (tgt := 133) dX11_number_82 rfl (fun h82 => by exact absurd h82 (by decide)) (fun h82 => ?_)
  refine A_aload_n dX11_number_85 rfl 4 rfl ?_
  refine A_callV (M' := MX11_here) [] [] 93 dX11_number_86 lk_RX11_95 oX11_here iX11_here rfl rfl ⟨lb rfl, lb rfl⟩ (lb rfl) ⟨lb rfl, lb rfl⟩ L93 rfl (c_here f tn c hT hc (a + 1) (-1) (by omega)) ?_
  rintro _ g0 ⟨rfl, hg0⟩
  rw [hg0]
  refine A_i2l dX11_number_89 ?_
  refine A_ldc2 dX11_number_90 k_RX11_115 ?_
  refine A_ldc2 dX11_number_93 k_RX11_117 ?_
  refine A_callS (M' := MX11_in) [.long ((hV (c (a + 1))).toInt64), .long 48, .long 57] [] dX11_number_96 lk_RX11_64 oX11_in sX11_in rfl rfl ⟨lb rfl, lb rfl⟩ (lb rfl) ⟨lb rfl, lb rfl⟩ (c_in _ _ _ _) ?_
  rintro _ g0 ⟨rfl, hg0⟩
  rw [hg0]
  refine A_topi (bz (isF (c (a + 1)))) (bz_c (hV_F _ (by have := hc.2.2.2 (a + 1); omega))) ?_
  refine A_if_eq (tgt := 133) dX11_number_99 rfl (fun h99 => by exact absurd h1 (bz_0.mp h99)) (fun h99 => ?_)
  refine A_bipush (v := 10) dX11_number_102 rfl ?_
  refine A_iload dX11_number_104 1 rfl ?_
  refine A_imul dX11_number_106 ?_
  refine A_topi (0) (by decide) ?_
  refine A_aload_n dX11_number_107 rfl 4 rfl ?_
  refine A_callV (M' := MX11_here) [] [.int 0] 93 dX11_number_108 lk_RX11_95 oX11_here iX11_here rfl rfl ⟨lb rfl, lb rfl⟩ (lb rfl) ⟨lb rfl, lb rfl⟩ L93 rfl (c_here f tn c hT hc (a + 1) (-1) (by omega)) ?_
  rintro _ g0 ⟨rfl, hg0⟩
  rw [hg0]
  refine A_topi (nI (c (a + 1))) (hV_n h1) ?_
  refine A_iadd dX11_number_111 ?_
  refine A_bipush (v := 48) dX11_number_112 rfl ?_
  refine A_isub dX11_number_114 ?_
  refine A_topi (nI (c (a + 1) - 48)) (fig1 _ (by omega) (by omega)) ?_
  refine A_istore (lv' := [(6, .int (nI (c (a + 1) - 48))), (7, .int 0), (5, .int 0), (4, .int (nI (a + 1))), (0, .ref 93), (1, .int 2), (2, .int 12), (3, .int 0)]) dX11_number_115 (lb rfl) rfl ?_
  refine A_aload_n dX11_number_117 rfl 4 rfl ?_
  refine A_dup dX11_number_118 rfl ?_
  refine A_getI dX11_number_119 fo_RX11_89 L93 rfl ?_
  refine A_topi (nI (a + 1)) (rd_a f (a + 1) (-1) (by decide)) ?_
  refine A_iconst (v := 1) dX11_number_122 rfl ?_
  refine A_iadd dX11_number_123 ?_
  refine A_putI dX11_number_124 fo_RX11_89 L93 rfl ?_
  refine A_eq rfl rfl (f' := rd 93 10 11 f (a + 1 + 1) (-1)) (rd_ua f (a + 1) (a + 1 + 1) (-1) (by decide) (by simp only [lit, nI_add, pk_mul, Nat.add_zero])) ?_
  refine A_iinc (lv' := [(7, .int 1), (6, .int (nI (c (a + 1) - 48))), (5, .int 0), (4, .int (nI (a + 1))), (0, .ref 93), (1, .int 2), (2, .int 12), (3, .int 0)]) dX11_number_127 1 rfl rfl (lb rfl) rfl ?_
  refine A_goto (tgt := 79) dX11_number_130 rfl ?_
  refine A_iload dX11_number_79 0 rfl ?_
  refine A_iload_n dX11_number_81 rfl 5 rfl ?_
  refine A_icmp_ge (tgt := 133) dX11_number_82 rfl (fun h82 => by exact absurd h82 (by decide)) (fun h82 => ?_)
  refine A_aload_n dX11_number_85 rfl 4 rfl ?_
  refine A_callV (M' := MX11_here) [] [] 93 dX11_number_86 lk_RX11_95 oX11_here iX11_here rfl rfl ⟨lb rfl, lb rfl⟩ (lb rfl) ⟨lb rfl, lb rfl⟩ L93 rfl (c_here f tn c hT hc (a + 1 + 1) (-1) (by omega)) ?_
  rintro _ g0 ⟨rfl, hg0⟩
  rw [hg0]
  refine A_i2l dX11_number_89 ?_
  refine A_ldc2 dX11_number_90 k_RX11_115 ?_
  refine A_ldc2 dX11_number_93 k_RX11_117 ?_
  refine A_callS (M' := MX11_in) [.long ((hV (c (a + 1 + 1))).toInt64), .long 48, .long 57] [] dX11_number_96 lk_RX11_64 oX11_in sX11_in rfl rfl ⟨lb rfl, lb rfl⟩ (lb rfl) ⟨lb rfl, lb rfl⟩ (c_in _ _ _ _) ?_
  rintro _ g0 ⟨rfl, hg0⟩
  rw [hg0]
  refine A_topi (bz (isF (c (a + 1 + 1)))) (bz_c (hV_F _ (by have := hc.2.2.2 (a + 1 + 1); omega))) ?_
  refine A_if_eq (tgt := 133) dX11_number_99 rfl (fun h99 => by exact absurd h2 (bz_0.mp h99)) (fun h99 => ?_)
  refine A_bipush (v := 10) dX11_number_102 rfl ?_
  refine A_iload dX11_number_104 1 rfl ?_
  refine A_imul dX11_number_106 ?_
  refine A_aload_n dX11_number_107 rfl 4 rfl ?_
  refine A_callV (M' := MX11_here) [] [.int (10 * (nI (c (a + 1) - 48)))] 93 dX11_number_108 lk_RX11_95 oX11_here iX11_here rfl rfl ⟨lb rfl, lb rfl⟩ (lb rfl) ⟨lb rfl, lb rfl⟩ L93 rfl (c_here f tn c hT hc (a + 1 + 1) (-1) (by omega)) ?_
  rintro _ g0 ⟨rfl, hg0⟩
  rw [hg0]
  refine A_topi (nI (c (a + 1 + 1))) (hV_n h2) ?_
  refine A_iadd dX11_number_111 ?_
  refine A_bipush (v := 48) dX11_number_112 rfl ?_
  refine A_isub dX11_number_114 ?_
  refine A_topi (nI (10 * (c (a + 1) - 48) + (c (a + 1 + 1) - 48))) (fig3 _ (by omega) (by omega) _ (by omega) (by omega)) ?_
  refine A_istore (lv' := [(6, .int (nI (10 * (c (a + 1) - 48) + (c (a + 1 + 1) - 48)))), (7, .int 1), (5, .int 0), (4, .int (nI (a + 1))), (0, .ref 93), (1, .int 2), (2, .int 12), (3, .int 0)]) dX11_number_115 (lb rfl) rfl ?_
  refine A_aload_n dX11_number_117 rfl 4 rfl ?_
  refine A_dup dX11_number_118 rfl ?_
  refine A_getI dX11_number_119 fo_RX11_89 L93 rfl ?_
  refine A_topi (nI (a + 1 + 1)) (rd_a f (a + 1 + 1) (-1) (by decide)) ?_
  refine A_iconst (v := 1) dX11_number_122 rfl ?_
  refine A_iadd dX11_number_123 ?_
  refine A_putI dX11_number_124 fo_RX11_89 L93 rfl ?_
  refine A_eq rfl rfl (f' := rd 93 10 11 f (a + 1 + 1 + 1) (-1)) (rd_ua f (a + 1 + 1) (a + 1 + 1 + 1) (-1) (by decide) (by simp only [lit, nI_add, pk_mul, Nat.add_zero])) ?_
  refine A_iinc (lv' := [(7, .int 2), (6, .int (nI (10 * (c (a + 1) - 48) + (c (a + 1 + 1) - 48)))), (5, .int 0), (4, .int (nI (a + 1))), (0, .ref 93), (1, .int 2), (2, .int 12), (3, .int 0)]) dX11_number_127 1 rfl rfl (lb rfl) rfl ?_
  refine A_goto (tgt := 79) dX11_number_130 rfl ?_
  refine A_iload dX11_number_79 0 rfl ?_
  refine A_iload_n dX11_number_81 rfl 5 rfl ?_
  refine A_icmp_ge (tgt := 133) dX11_number_82 rfl (fun h82 => ?_) (fun h82 => by exact absurd (by decide) h82)
  refine A_aload_n dX11_number_133 rfl 4 rfl ?_
  refine A_iload dX11_number_134 1 rfl ?_
  refine A_iload_n dX11_number_136 rfl 6 rfl ?_
  refine A_icmp_gt (tgt := 144) dX11_number_137 rfl (fun h137 => ?_) (fun h137 => by exact absurd (by rw [show (12 : Int32) = nI 12 from rfl, nI_ltI (by omega) (by omega)]; omega) h137)
  refine A_iconst (v := 0) dX11_number_144 rfl ?_
  refine A_iload dX11_number_145 3 rfl ?_
  refine A_callV (M' := MX11_must) [.int 0, .int (nI (a + 1))] [] 93 dX11_number_147 lk_RX11_99 oX11_must iX11_must rfl rfl ⟨lb rfl, lb rfl⟩ (lb rfl) ⟨lb rfl, lb rfl⟩ L93 rfl (c_must2 f (a + 1 + 1 + 1) 0 (nI (a + 1)) rfl) ?_
  rintro _ g0 ⟨rfl, hg0⟩
  rw [hg0]
  refine A_iload dX11_number_150 2 rfl ?_
  refine A_if_eq (tgt := 161) dX11_number_152 rfl (fun h152 => ?_) (fun h152 => by exact absurd rfl h152)
  refine A_iload dX11_number_161 1 rfl ?_
  exact A_iret dX11_number_163 rfl (⟨_, _, rfl, rfl⟩)
theorem c_nS0 (f : Mem) (tn : Nat) (c : Nat → Nat) (hT : RTp f tn c) (hc : tcW c tn) (a : Nat) (ha : a < 2 ^ 28) (h : ¬ c a = 32) : C0 MX11_number [.ref 93, .int 2, .int 99, .int 1] (rd 93 10 11 f a (-1)) (fun r h => ∃ (x : Int32) (b : Nat), r = some (.int x) ∧ h = rd 93 10 11 f b (nI a)) := by
  refine Ct.of (lv := [(0, .ref 93), (1, .int 2), (2, .int 99), (3, .int 1)]) (by decide) (lb rfl) rfl ?_
  refine A_aload_n dX11_number_0 rfl 0 rfl ?_
  refine A_bipush (v := 32) dX11_number_1 rfl ?_
  refine A_callV (M' := MX11_takes) [.int 32] [] 93 dX11_number_3 lk_RX11_111 oX11_takes iX11_takes rfl rfl ⟨lb rfl, lb rfl⟩ (lb rfl) ⟨lb rfl, lb rfl⟩ L93 rfl (c_takes2 f tn c hT hc a (by omega) h) ?_
  rintro _ g0 ⟨rfl, hg0⟩
  rw [hg0]
  refine A_aload_n dX11_number_6 rfl 0 rfl ?_
  refine A_getI dX11_number_7 fo_RX11_89 L93 rfl ?_
  refine A_topi (nI (a + 1)) (rd_a f (a + 1) (nI a) (by decide)) ?_
  refine A_istore (lv' := [(4, .int (nI (a + 1))), (0, .ref 93), (1, .int 2), (2, .int 99), (3, .int 1)]) dX11_number_10 (lb rfl) rfl ?_
  refine A_iload_n dX11_number_12 rfl 4 rfl ?_
  refine A_if_eq (tgt := 29) dX11_number_13 rfl (fun h13 => by exact absurd h13 (by decide)) (fun h13 => ?_)
  refine A_aload_n dX11_number_16 rfl 1 rfl ?_
  refine A_callV (M' := MX11_here) [] [] 93 dX11_number_17 lk_RX11_95 oX11_here iX11_here rfl rfl ⟨lb rfl, lb rfl⟩ (lb rfl) ⟨lb rfl, lb rfl⟩ L93 rfl (c_here f tn c hT hc (a + 1) (nI a) (by omega)) ?_
  rintro _ g0 ⟨rfl, hg0⟩
  rw [hg0]
  refine A_bipush (v := 45) dX11_number_20 rfl ?_
  refine A_icmp_ne (tgt := 29) dX11_number_22 rfl (fun h22 => ?_) (fun h22 => ?_)
  · refine A_iconst (v := 0) dX11_number_29 rfl ?_
    refine A_istore (lv' := [(5, .int 0), (4, .int (nI (a + 1))), (0, .ref 93), (1, .int 2), (2, .int 99), (3, .int 1)]) dX11_number_30 (lb rfl) rfl ?_
    refine A_aload_n dX11_number_32 rfl 2 rfl ?_
    refine A_dup dX11_number_33 rfl ?_
    refine A_getI dX11_number_34 fo_RX11_89 L93 rfl ?_
    refine A_topi (nI (a + 1)) (rd_a f (a + 1) (nI a) (by decide)) ?_
    refine A_iload dX11_number_37 0 rfl ?_
    refine A_if_eq (tgt := 46) dX11_number_39 rfl (fun h39 => ?_) (fun h39 => by exact absurd rfl h39)
    refine A_iconst (v := 0) dX11_number_46 rfl ?_
    refine A_iadd dX11_number_47 ?_
    refine A_putI dX11_number_48 fo_RX11_89 L93 rfl ?_
    refine A_eq rfl rfl (f' := rd 93 10 11 f (a + 1) (nI a)) (rd_ua f (a + 1) (a + 1) (nI a) (by decide) (by simp only [lit, nI_add, pk_mul, Nat.add_zero])) ?_
    refine A_aload_n dX11_number_51 rfl 2 rfl ?_
    refine A_aload_n dX11_number_52 rfl 2 rfl ?_
    refine A_callV (M' := MX11_here) [] [.ref 93] 93 dX11_number_53 lk_RX11_95 oX11_here iX11_here rfl rfl ⟨lb rfl, lb rfl⟩ (lb rfl) ⟨lb rfl, lb rfl⟩ L93 rfl (c_here f tn c hT hc (a + 1) (nI a) (by omega)) ?_
    rintro _ g0 ⟨rfl, hg0⟩
    rw [hg0]
    refine A_i2l dX11_number_56 ?_
    refine A_ldc2 dX11_number_57 k_RX11_115 ?_
    refine A_ldc2 dX11_number_60 k_RX11_117 ?_
    refine A_callS (M' := MX11_in) [.long ((hV (c (a + 1))).toInt64), .long 48, .long 57] [.ref 93] dX11_number_63 lk_RX11_64 oX11_in sX11_in rfl rfl ⟨lb rfl, lb rfl⟩ (lb rfl) ⟨lb rfl, lb rfl⟩ (c_in _ _ _ _) ?_
    rintro _ g0 ⟨rfl, hg0⟩
    rw [hg0]
    refine A_topi (bz (isF (c (a + 1)))) (bz_c (hV_F _ (by have := hc.2.2.2 (a + 1); omega))) ?_
    refine A_aload_n dX11_number_66 rfl 2 rfl ?_
    refine A_getI dX11_number_67 fo_RX11_89 L93 rfl ?_
    refine A_topi (nI (a + 1)) (rd_a f (a + 1) (nI a) (by decide)) ?_
    refine A_callV (M' := MX11_must) [.int (bz (isF (c (a + 1)))), .int (nI (a + 1))] [] 93 dX11_number_70 lk_RX11_99 oX11_must iX11_must rfl rfl ⟨lb rfl, lb rfl⟩ (lb rfl) ⟨lb rfl, lb rfl⟩ L93 rfl (c_must0 f (a + 1) (nI a) (bz (isF (c (a + 1)))) (nI (a + 1)) (nI_ge0 (by omega))) ?_
    rintro _ g0 ⟨rfl, hg0⟩
    rw [hg0]
    refine A_iconst (v := 0) dX11_number_73 rfl ?_
    refine A_istore (lv' := [(6, .int 0), (5, .int 0), (4, .int (nI (a + 1))), (0, .ref 93), (1, .int 2), (2, .int 99), (3, .int 1)]) dX11_number_74 (lb rfl) rfl ?_
    refine A_iconst (v := 0) dX11_number_76 rfl ?_
    refine A_istore (lv' := [(7, .int 0), (6, .int 0), (5, .int 0), (4, .int (nI (a + 1))), (0, .ref 93), (1, .int 2), (2, .int 99), (3, .int 1)]) dX11_number_77 (lb rfl) rfl ?_
    refine A_iload dX11_number_79 0 rfl ?_
    refine A_iload_n dX11_number_81 rfl 5 rfl ?_
    refine A_icmp_ge (tgt := 133) dX11_number_82 rfl (fun h82 => by exact absurd h82 (by decide)) (fun h82 => ?_)
    refine A_aload_n dX11_number_85 rfl 4 rfl ?_
    refine A_callV (M' := MX11_here) [] [] 93 dX11_number_86 lk_RX11_95 oX11_here iX11_here rfl rfl ⟨lb rfl, lb rfl⟩ (lb rfl) ⟨lb rfl, lb rfl⟩ L93 rfl (c_here f tn c hT hc (a + 1) (nI a) (by omega)) ?_
    rintro _ g0 ⟨rfl, hg0⟩
    rw [hg0]
    refine A_i2l dX11_number_89 ?_
    refine A_ldc2 dX11_number_90 k_RX11_115 ?_
    refine A_ldc2 dX11_number_93 k_RX11_117 ?_
    refine A_callS (M' := MX11_in) [.long ((hV (c (a + 1))).toInt64), .long 48, .long 57] [] dX11_number_96 lk_RX11_64 oX11_in sX11_in rfl rfl ⟨lb rfl, lb rfl⟩ (lb rfl) ⟨lb rfl, lb rfl⟩ (c_in _ _ _ _) ?_
    rintro _ g0 ⟨rfl, hg0⟩
    rw [hg0]
    refine A_topi (bz (isF (c (a + 1)))) (bz_c (hV_F _ (by have := hc.2.2.2 (a + 1); omega))) ?_
    refine A_if_eq (tgt := 133) dX11_number_99 rfl (fun h99 => ?_) (fun h99 => ?_)
    · refine A_aload_n dX11_number_133 rfl 4 rfl ?_
      refine A_iload dX11_number_134 1 rfl ?_
      refine A_iload_n dX11_number_136 rfl 6 rfl ?_
      refine A_icmp_gt (tgt := 144) dX11_number_137 rfl (fun h137 => by exact absurd h137 (by decide)) (fun h137 => ?_)
      refine A_iconst (v := 1) dX11_number_140 rfl ?_
      refine A_goto (tgt := 145) dX11_number_141 rfl ?_
      refine A_iload dX11_number_145 3 rfl ?_
      refine A_callV (M' := MX11_must) [.int 1, .int (nI (a + 1))] [] 93 dX11_number_147 lk_RX11_99 oX11_must iX11_must rfl rfl ⟨lb rfl, lb rfl⟩ (lb rfl) ⟨lb rfl, lb rfl⟩ L93 rfl (c_must0 f (a + 1) (nI a) 1 (nI (a + 1)) (nI_ge0 (by omega))) ?_
      rintro _ g0 ⟨rfl, hg0⟩
      rw [hg0]
      refine A_iload dX11_number_150 2 rfl ?_
      refine A_if_eq (tgt := 161) dX11_number_152 rfl (fun h152 => ?_) (fun h152 => by exact absurd rfl h152)
      refine A_iload dX11_number_161 1 rfl ?_
      exact A_iret dX11_number_163 rfl (⟨_, _, rfl, rfl⟩)
    · have hF1 := bz_n0.mp h99
      refine A_bipush (v := 10) dX11_number_102 rfl ?_
      refine A_iload dX11_number_104 1 rfl ?_
      refine A_imul dX11_number_106 ?_
      refine A_topi (0) (by decide) ?_
      refine A_aload_n dX11_number_107 rfl 4 rfl ?_
      refine A_callV (M' := MX11_here) [] [.int 0] 93 dX11_number_108 lk_RX11_95 oX11_here iX11_here rfl rfl ⟨lb rfl, lb rfl⟩ (lb rfl) ⟨lb rfl, lb rfl⟩ L93 rfl (c_here f tn c hT hc (a + 1) (nI a) (by omega)) ?_
      rintro _ g0 ⟨rfl, hg0⟩
      rw [hg0]
      refine A_topi (nI (c (a + 1))) (hV_n (bz_n0.mp h99)) ?_
      refine A_iadd dX11_number_111 ?_
      refine A_bipush (v := 48) dX11_number_112 rfl ?_
      refine A_isub dX11_number_114 ?_
      refine A_topi (nI (c (a + 1) - 48)) (fig1 _ (by omega) (by omega)) ?_
      refine A_istore (lv' := [(6, .int (nI (c (a + 1) - 48))), (7, .int 0), (5, .int 0), (4, .int (nI (a + 1))), (0, .ref 93), (1, .int 2), (2, .int 99), (3, .int 1)]) dX11_number_115 (lb rfl) rfl ?_
      refine A_aload_n dX11_number_117 rfl 4 rfl ?_
      refine A_dup dX11_number_118 rfl ?_
      refine A_getI dX11_number_119 fo_RX11_89 L93 rfl ?_
      refine A_topi (nI (a + 1)) (rd_a f (a + 1) (nI a) (by decide)) ?_
      refine A_iconst (v := 1) dX11_number_122 rfl ?_
      refine A_iadd dX11_number_123 ?_
      refine A_putI dX11_number_124 fo_RX11_89 L93 rfl ?_
      refine A_eq rfl rfl (f' := rd 93 10 11 f (a + 1 + 1) (nI a)) (rd_ua f (a + 1) (a + 1 + 1) (nI a) (by decide) (by simp only [lit, nI_add, pk_mul, Nat.add_zero])) ?_
      refine A_iinc (lv' := [(7, .int 1), (6, .int (nI (c (a + 1) - 48))), (5, .int 0), (4, .int (nI (a + 1))), (0, .ref 93), (1, .int 2), (2, .int 99), (3, .int 1)]) dX11_number_127 1 rfl rfl (lb rfl) rfl ?_
      refine A_goto (tgt := 79) dX11_number_130 rfl ?_
      refine A_iload dX11_number_79 0 rfl ?_
      refine A_iload_n dX11_number_81 rfl 5 rfl ?_
      refine A_icmp_ge (tgt := 133) dX11_number_82 rfl (fun h82 => by exact absurd h82 (by decide)) (fun h82 => ?_)
      refine A_aload_n dX11_number_85 rfl 4 rfl ?_
      refine A_callV (M' := MX11_here) [] [] 93 dX11_number_86 lk_RX11_95 oX11_here iX11_here rfl rfl ⟨lb rfl, lb rfl⟩ (lb rfl) ⟨lb rfl, lb rfl⟩ L93 rfl (c_here f tn c hT hc (a + 1 + 1) (nI a) (by omega)) ?_
      rintro _ g0 ⟨rfl, hg0⟩
      rw [hg0]
      refine A_i2l dX11_number_89 ?_
      refine A_ldc2 dX11_number_90 k_RX11_115 ?_
      refine A_ldc2 dX11_number_93 k_RX11_117 ?_
      refine A_callS (M' := MX11_in) [.long ((hV (c (a + 1 + 1))).toInt64), .long 48, .long 57] [] dX11_number_96 lk_RX11_64 oX11_in sX11_in rfl rfl ⟨lb rfl, lb rfl⟩ (lb rfl) ⟨lb rfl, lb rfl⟩ (c_in _ _ _ _) ?_
      rintro _ g0 ⟨rfl, hg0⟩
      rw [hg0]
      refine A_topi (bz (isF (c (a + 1 + 1)))) (bz_c (hV_F _ (by have := hc.2.2.2 (a + 1 + 1); omega))) ?_
      refine A_if_eq (tgt := 133) dX11_number_99 rfl (fun h99 => ?_) (fun h99 => ?_)
      · refine A_aload_n dX11_number_133 rfl 4 rfl ?_
        refine A_iload dX11_number_134 1 rfl ?_
        refine A_iload_n dX11_number_136 rfl 6 rfl ?_
        refine A_icmp_gt (tgt := 144) dX11_number_137 rfl (fun h137 => ?_) (fun h137 => ?_)
        · refine A_iconst (v := 0) dX11_number_144 rfl ?_
          refine A_iload dX11_number_145 3 rfl ?_
          refine A_callV (M' := MX11_must) [.int 0, .int (nI (a + 1))] [] 93 dX11_number_147 lk_RX11_99 oX11_must iX11_must rfl rfl ⟨lb rfl, lb rfl⟩ (lb rfl) ⟨lb rfl, lb rfl⟩ L93 rfl (c_must0 f (a + 1 + 1) (nI a) 0 (nI (a + 1)) (nI_ge0 (by omega))) ?_
          rintro _ g0 ⟨rfl, hg0⟩
          rw [hg0]
          refine A_iload dX11_number_150 2 rfl ?_
          refine A_if_eq (tgt := 161) dX11_number_152 rfl (fun h152 => ?_) (fun h152 => by exact absurd rfl h152)
          refine A_iload dX11_number_161 1 rfl ?_
          exact A_iret dX11_number_163 rfl (⟨_, _, rfl, rfl⟩)
        · refine A_iconst (v := 1) dX11_number_140 rfl ?_
          refine A_goto (tgt := 145) dX11_number_141 rfl ?_
          refine A_iload dX11_number_145 3 rfl ?_
          refine A_callV (M' := MX11_must) [.int 1, .int (nI (a + 1))] [] 93 dX11_number_147 lk_RX11_99 oX11_must iX11_must rfl rfl ⟨lb rfl, lb rfl⟩ (lb rfl) ⟨lb rfl, lb rfl⟩ L93 rfl (c_must0 f (a + 1 + 1) (nI a) 1 (nI (a + 1)) (nI_ge0 (by omega))) ?_
          rintro _ g0 ⟨rfl, hg0⟩
          rw [hg0]
          refine A_iload dX11_number_150 2 rfl ?_
          refine A_if_eq (tgt := 161) dX11_number_152 rfl (fun h152 => ?_) (fun h152 => by exact absurd rfl h152)
          refine A_iload dX11_number_161 1 rfl ?_
          exact A_iret dX11_number_163 rfl (⟨_, _, rfl, rfl⟩)
      · have hF2 := bz_n0.mp h99
        refine A_bipush (v := 10) dX11_number_102 rfl ?_
        refine A_iload dX11_number_104 1 rfl ?_
        refine A_imul dX11_number_106 ?_
        refine A_aload_n dX11_number_107 rfl 4 rfl ?_
        refine A_callV (M' := MX11_here) [] [.int (10 * (nI (c (a + 1) - 48)))] 93 dX11_number_108 lk_RX11_95 oX11_here iX11_here rfl rfl ⟨lb rfl, lb rfl⟩ (lb rfl) ⟨lb rfl, lb rfl⟩ L93 rfl (c_here f tn c hT hc (a + 1 + 1) (nI a) (by omega)) ?_
        rintro _ g0 ⟨rfl, hg0⟩
        rw [hg0]
        refine A_topi (nI (c (a + 1 + 1))) (hV_n (bz_n0.mp h99)) ?_
        refine A_iadd dX11_number_111 ?_
        refine A_bipush (v := 48) dX11_number_112 rfl ?_
        refine A_isub dX11_number_114 ?_
        refine A_topi (nI (10 * (c (a + 1) - 48) + (c (a + 1 + 1) - 48))) (fig3 _ (by omega) (by omega) _ (by omega) (by omega)) ?_
        refine A_istore (lv' := [(6, .int (nI (10 * (c (a + 1) - 48) + (c (a + 1 + 1) - 48)))), (7, .int 1), (5, .int 0), (4, .int (nI (a + 1))), (0, .ref 93), (1, .int 2), (2, .int 99), (3, .int 1)]) dX11_number_115 (lb rfl) rfl ?_
        refine A_aload_n dX11_number_117 rfl 4 rfl ?_
        refine A_dup dX11_number_118 rfl ?_
        refine A_getI dX11_number_119 fo_RX11_89 L93 rfl ?_
        refine A_topi (nI (a + 1 + 1)) (rd_a f (a + 1 + 1) (nI a) (by decide)) ?_
        refine A_iconst (v := 1) dX11_number_122 rfl ?_
        refine A_iadd dX11_number_123 ?_
        refine A_putI dX11_number_124 fo_RX11_89 L93 rfl ?_
        refine A_eq rfl rfl (f' := rd 93 10 11 f (a + 1 + 1 + 1) (nI a)) (rd_ua f (a + 1 + 1) (a + 1 + 1 + 1) (nI a) (by decide) (by simp only [lit, nI_add, pk_mul, Nat.add_zero])) ?_
        refine A_iinc (lv' := [(7, .int 2), (6, .int (nI (10 * (c (a + 1) - 48) + (c (a + 1 + 1) - 48)))), (5, .int 0), (4, .int (nI (a + 1))), (0, .ref 93), (1, .int 2), (2, .int 99), (3, .int 1)]) dX11_number_127 1 rfl rfl (lb rfl) rfl ?_
        refine A_goto (tgt := 79) dX11_number_130 rfl ?_
        refine A_iload dX11_number_79 0 rfl ?_
        refine A_iload_n dX11_number_81 rfl 5 rfl ?_
        refine A_icmp_ge (tgt := 133) dX11_number_82 rfl (fun h82 => ?_) (fun h82 => by exact absurd (by decide) h82)
        refine A_aload_n dX11_number_133 rfl 4 rfl ?_
        refine A_iload dX11_number_134 1 rfl ?_
        refine A_iload_n dX11_number_136 rfl 6 rfl ?_
        refine A_icmp_gt (tgt := 144) dX11_number_137 rfl (fun h137 => ?_) (fun h137 => ?_)
        · refine A_iconst (v := 0) dX11_number_144 rfl ?_
          refine A_iload dX11_number_145 3 rfl ?_
          refine A_callV (M' := MX11_must) [.int 0, .int (nI (a + 1))] [] 93 dX11_number_147 lk_RX11_99 oX11_must iX11_must rfl rfl ⟨lb rfl, lb rfl⟩ (lb rfl) ⟨lb rfl, lb rfl⟩ L93 rfl (c_must0 f (a + 1 + 1 + 1) (nI a) 0 (nI (a + 1)) (nI_ge0 (by omega))) ?_
          rintro _ g0 ⟨rfl, hg0⟩
          rw [hg0]
          refine A_iload dX11_number_150 2 rfl ?_
          refine A_if_eq (tgt := 161) dX11_number_152 rfl (fun h152 => ?_) (fun h152 => by exact absurd rfl h152)
          refine A_iload dX11_number_161 1 rfl ?_
          exact A_iret dX11_number_163 rfl (⟨_, _, rfl, rfl⟩)
        · refine A_iconst (v := 1) dX11_number_140 rfl ?_
          refine A_goto (tgt := 145) dX11_number_141 rfl ?_
          refine A_iload dX11_number_145 3 rfl ?_
          refine A_callV (M' := MX11_must) [.int 1, .int (nI (a + 1))] [] 93 dX11_number_147 lk_RX11_99 oX11_must iX11_must rfl rfl ⟨lb rfl, lb rfl⟩ (lb rfl) ⟨lb rfl, lb rfl⟩ L93 rfl (c_must0 f (a + 1 + 1 + 1) (nI a) 1 (nI (a + 1)) (nI_ge0 (by omega))) ?_
          rintro _ g0 ⟨rfl, hg0⟩
          rw [hg0]
          refine A_iload dX11_number_150 2 rfl ?_
          refine A_if_eq (tgt := 161) dX11_number_152 rfl (fun h152 => ?_) (fun h152 => by exact absurd rfl h152)
          refine A_iload dX11_number_161 1 rfl ?_
          exact A_iret dX11_number_163 rfl (⟨_, _, rfl, rfl⟩)
  · refine A_iconst (v := 1) dX11_number_25 rfl ?_
    refine A_goto (tgt := 30) dX11_number_26 rfl ?_
    refine A_istore (lv' := [(5, .int 1), (4, .int (nI (a + 1))), (0, .ref 93), (1, .int 2), (2, .int 99), (3, .int 1)]) dX11_number_30 (lb rfl) rfl ?_
    refine A_aload_n dX11_number_32 rfl 2 rfl ?_
    refine A_dup dX11_number_33 rfl ?_
    refine A_getI dX11_number_34 fo_RX11_89 L93 rfl ?_
    refine A_topi (nI (a + 1)) (rd_a f (a + 1) (nI a) (by decide)) ?_
    refine A_iload dX11_number_37 0 rfl ?_
    refine A_if_eq (tgt := 46) dX11_number_39 rfl (fun h39 => by exact absurd h39 (by decide)) (fun h39 => ?_)
    refine A_iconst (v := 1) dX11_number_42 rfl ?_
    refine A_goto (tgt := 47) dX11_number_43 rfl ?_
    refine A_iadd dX11_number_47 ?_
    refine A_putI dX11_number_48 fo_RX11_89 L93 rfl ?_
    refine A_eq rfl rfl (f' := rd 93 10 11 f (a + 1 + 1) (nI a)) (rd_ua f (a + 1) (a + 1 + 1) (nI a) (by decide) (by simp only [lit, nI_add, pk_mul, Nat.add_zero])) ?_
    refine A_aload_n dX11_number_51 rfl 2 rfl ?_
    refine A_aload_n dX11_number_52 rfl 2 rfl ?_
    refine A_callV (M' := MX11_here) [] [.ref 93] 93 dX11_number_53 lk_RX11_95 oX11_here iX11_here rfl rfl ⟨lb rfl, lb rfl⟩ (lb rfl) ⟨lb rfl, lb rfl⟩ L93 rfl (c_here f tn c hT hc (a + 1 + 1) (nI a) (by omega)) ?_
    rintro _ g0 ⟨rfl, hg0⟩
    rw [hg0]
    refine A_i2l dX11_number_56 ?_
    refine A_ldc2 dX11_number_57 k_RX11_115 ?_
    refine A_ldc2 dX11_number_60 k_RX11_117 ?_
    refine A_callS (M' := MX11_in) [.long ((hV (c (a + 1 + 1))).toInt64), .long 48, .long 57] [.ref 93] dX11_number_63 lk_RX11_64 oX11_in sX11_in rfl rfl ⟨lb rfl, lb rfl⟩ (lb rfl) ⟨lb rfl, lb rfl⟩ (c_in _ _ _ _) ?_
    rintro _ g0 ⟨rfl, hg0⟩
    rw [hg0]
    refine A_topi (bz (isF (c (a + 1 + 1)))) (bz_c (hV_F _ (by have := hc.2.2.2 (a + 1 + 1); omega))) ?_
    refine A_aload_n dX11_number_66 rfl 2 rfl ?_
    refine A_getI dX11_number_67 fo_RX11_89 L93 rfl ?_
    refine A_topi (nI (a + 1 + 1)) (rd_a f (a + 1 + 1) (nI a) (by decide)) ?_
    refine A_callV (M' := MX11_must) [.int (bz (isF (c (a + 1 + 1)))), .int (nI (a + 1 + 1))] [] 93 dX11_number_70 lk_RX11_99 oX11_must iX11_must rfl rfl ⟨lb rfl, lb rfl⟩ (lb rfl) ⟨lb rfl, lb rfl⟩ L93 rfl (c_must0 f (a + 1 + 1) (nI a) (bz (isF (c (a + 1 + 1)))) (nI (a + 1 + 1)) (nI_ge0 (by omega))) ?_
    rintro _ g0 ⟨rfl, hg0⟩
    rw [hg0]
    refine A_iconst (v := 0) dX11_number_73 rfl ?_
    refine A_istore (lv' := [(6, .int 0), (5, .int 1), (4, .int (nI (a + 1))), (0, .ref 93), (1, .int 2), (2, .int 99), (3, .int 1)]) dX11_number_74 (lb rfl) rfl ?_
    refine A_iconst (v := 0) dX11_number_76 rfl ?_
    refine A_istore (lv' := [(7, .int 0), (6, .int 0), (5, .int 1), (4, .int (nI (a + 1))), (0, .ref 93), (1, .int 2), (2, .int 99), (3, .int 1)]) dX11_number_77 (lb rfl) rfl ?_
    refine A_iload dX11_number_79 0 rfl ?_
    refine A_iload_n dX11_number_81 rfl 5 rfl ?_
    refine A_icmp_ge (tgt := 133) dX11_number_82 rfl (fun h82 => by exact absurd h82 (by decide)) (fun h82 => ?_)
    refine A_aload_n dX11_number_85 rfl 4 rfl ?_
    refine A_callV (M' := MX11_here) [] [] 93 dX11_number_86 lk_RX11_95 oX11_here iX11_here rfl rfl ⟨lb rfl, lb rfl⟩ (lb rfl) ⟨lb rfl, lb rfl⟩ L93 rfl (c_here f tn c hT hc (a + 1 + 1) (nI a) (by omega)) ?_
    rintro _ g0 ⟨rfl, hg0⟩
    rw [hg0]
    refine A_i2l dX11_number_89 ?_
    refine A_ldc2 dX11_number_90 k_RX11_115 ?_
    refine A_ldc2 dX11_number_93 k_RX11_117 ?_
    refine A_callS (M' := MX11_in) [.long ((hV (c (a + 1 + 1))).toInt64), .long 48, .long 57] [] dX11_number_96 lk_RX11_64 oX11_in sX11_in rfl rfl ⟨lb rfl, lb rfl⟩ (lb rfl) ⟨lb rfl, lb rfl⟩ (c_in _ _ _ _) ?_
    rintro _ g0 ⟨rfl, hg0⟩
    rw [hg0]
    refine A_topi (bz (isF (c (a + 1 + 1)))) (bz_c (hV_F _ (by have := hc.2.2.2 (a + 1 + 1); omega))) ?_
    refine A_if_eq (tgt := 133) dX11_number_99 rfl (fun h99 => ?_) (fun h99 => ?_)
    · refine A_aload_n dX11_number_133 rfl 4 rfl ?_
      refine A_iload dX11_number_134 1 rfl ?_
      refine A_iload_n dX11_number_136 rfl 6 rfl ?_
      refine A_icmp_gt (tgt := 144) dX11_number_137 rfl (fun h137 => by exact absurd h137 (by decide)) (fun h137 => ?_)
      refine A_iconst (v := 1) dX11_number_140 rfl ?_
      refine A_goto (tgt := 145) dX11_number_141 rfl ?_
      refine A_iload dX11_number_145 3 rfl ?_
      refine A_callV (M' := MX11_must) [.int 1, .int (nI (a + 1))] [] 93 dX11_number_147 lk_RX11_99 oX11_must iX11_must rfl rfl ⟨lb rfl, lb rfl⟩ (lb rfl) ⟨lb rfl, lb rfl⟩ L93 rfl (c_must0 f (a + 1 + 1) (nI a) 1 (nI (a + 1)) (nI_ge0 (by omega))) ?_
      rintro _ g0 ⟨rfl, hg0⟩
      rw [hg0]
      refine A_iload dX11_number_150 2 rfl ?_
      refine A_if_eq (tgt := 161) dX11_number_152 rfl (fun h152 => by exact absurd h152 (by decide)) (fun h152 => ?_)
      refine A_iload dX11_number_155 1 rfl ?_
      refine A_ineg dX11_number_157 ?_
      refine A_goto (tgt := 163) dX11_number_158 rfl ?_
      exact A_iret dX11_number_163 rfl (⟨_, _, rfl, rfl⟩)
    · have hF2 := bz_n0.mp h99
      refine A_bipush (v := 10) dX11_number_102 rfl ?_
      refine A_iload dX11_number_104 1 rfl ?_
      refine A_imul dX11_number_106 ?_
      refine A_topi (0) (by decide) ?_
      refine A_aload_n dX11_number_107 rfl 4 rfl ?_
      refine A_callV (M' := MX11_here) [] [.int 0] 93 dX11_number_108 lk_RX11_95 oX11_here iX11_here rfl rfl ⟨lb rfl, lb rfl⟩ (lb rfl) ⟨lb rfl, lb rfl⟩ L93 rfl (c_here f tn c hT hc (a + 1 + 1) (nI a) (by omega)) ?_
      rintro _ g0 ⟨rfl, hg0⟩
      rw [hg0]
      refine A_topi (nI (c (a + 1 + 1))) (hV_n (bz_n0.mp h99)) ?_
      refine A_iadd dX11_number_111 ?_
      refine A_bipush (v := 48) dX11_number_112 rfl ?_
      refine A_isub dX11_number_114 ?_
      refine A_topi (nI (c (a + 1 + 1) - 48)) (fig1 _ (by omega) (by omega)) ?_
      refine A_istore (lv' := [(6, .int (nI (c (a + 1 + 1) - 48))), (7, .int 0), (5, .int 1), (4, .int (nI (a + 1))), (0, .ref 93), (1, .int 2), (2, .int 99), (3, .int 1)]) dX11_number_115 (lb rfl) rfl ?_
      refine A_aload_n dX11_number_117 rfl 4 rfl ?_
      refine A_dup dX11_number_118 rfl ?_
      refine A_getI dX11_number_119 fo_RX11_89 L93 rfl ?_
      refine A_topi (nI (a + 1 + 1)) (rd_a f (a + 1 + 1) (nI a) (by decide)) ?_
      refine A_iconst (v := 1) dX11_number_122 rfl ?_
      refine A_iadd dX11_number_123 ?_
      refine A_putI dX11_number_124 fo_RX11_89 L93 rfl ?_
      refine A_eq rfl rfl (f' := rd 93 10 11 f (a + 1 + 1 + 1) (nI a)) (rd_ua f (a + 1 + 1) (a + 1 + 1 + 1) (nI a) (by decide) (by simp only [lit, nI_add, pk_mul, Nat.add_zero])) ?_
      refine A_iinc (lv' := [(7, .int 1), (6, .int (nI (c (a + 1 + 1) - 48))), (5, .int 1), (4, .int (nI (a + 1))), (0, .ref 93), (1, .int 2), (2, .int 99), (3, .int 1)]) dX11_number_127 1 rfl rfl (lb rfl) rfl ?_
      refine A_goto (tgt := 79) dX11_number_130 rfl ?_
      refine A_iload dX11_number_79 0 rfl ?_
      refine A_iload_n dX11_number_81 rfl 5 rfl ?_
      refine A_icmp_ge (tgt := 133) dX11_number_82 rfl (fun h82 => by exact absurd h82 (by decide)) (fun h82 => ?_)
      refine A_aload_n dX11_number_85 rfl 4 rfl ?_
      refine A_callV (M' := MX11_here) [] [] 93 dX11_number_86 lk_RX11_95 oX11_here iX11_here rfl rfl ⟨lb rfl, lb rfl⟩ (lb rfl) ⟨lb rfl, lb rfl⟩ L93 rfl (c_here f tn c hT hc (a + 1 + 1 + 1) (nI a) (by omega)) ?_
      rintro _ g0 ⟨rfl, hg0⟩
      rw [hg0]
      refine A_i2l dX11_number_89 ?_
      refine A_ldc2 dX11_number_90 k_RX11_115 ?_
      refine A_ldc2 dX11_number_93 k_RX11_117 ?_
      refine A_callS (M' := MX11_in) [.long ((hV (c (a + 1 + 1 + 1))).toInt64), .long 48, .long 57] [] dX11_number_96 lk_RX11_64 oX11_in sX11_in rfl rfl ⟨lb rfl, lb rfl⟩ (lb rfl) ⟨lb rfl, lb rfl⟩ (c_in _ _ _ _) ?_
      rintro _ g0 ⟨rfl, hg0⟩
      rw [hg0]
      refine A_topi (bz (isF (c (a + 1 + 1 + 1)))) (bz_c (hV_F _ (by have := hc.2.2.2 (a + 1 + 1 + 1); omega))) ?_
      refine A_if_eq (tgt := 133) dX11_number_99 rfl (fun h99 => ?_) (fun h99 => ?_)
      · refine A_aload_n dX11_number_133 rfl 4 rfl ?_
        refine A_iload dX11_number_134 1 rfl ?_
        refine A_iload_n dX11_number_136 rfl 6 rfl ?_
        refine A_icmp_gt (tgt := 144) dX11_number_137 rfl (fun h137 => ?_) (fun h137 => ?_)
        · refine A_iconst (v := 0) dX11_number_144 rfl ?_
          refine A_iload dX11_number_145 3 rfl ?_
          refine A_callV (M' := MX11_must) [.int 0, .int (nI (a + 1))] [] 93 dX11_number_147 lk_RX11_99 oX11_must iX11_must rfl rfl ⟨lb rfl, lb rfl⟩ (lb rfl) ⟨lb rfl, lb rfl⟩ L93 rfl (c_must0 f (a + 1 + 1 + 1) (nI a) 0 (nI (a + 1)) (nI_ge0 (by omega))) ?_
          rintro _ g0 ⟨rfl, hg0⟩
          rw [hg0]
          refine A_iload dX11_number_150 2 rfl ?_
          refine A_if_eq (tgt := 161) dX11_number_152 rfl (fun h152 => by exact absurd h152 (by decide)) (fun h152 => ?_)
          refine A_iload dX11_number_155 1 rfl ?_
          refine A_ineg dX11_number_157 ?_
          refine A_goto (tgt := 163) dX11_number_158 rfl ?_
          exact A_iret dX11_number_163 rfl (⟨_, _, rfl, rfl⟩)
        · refine A_iconst (v := 1) dX11_number_140 rfl ?_
          refine A_goto (tgt := 145) dX11_number_141 rfl ?_
          refine A_iload dX11_number_145 3 rfl ?_
          refine A_callV (M' := MX11_must) [.int 1, .int (nI (a + 1))] [] 93 dX11_number_147 lk_RX11_99 oX11_must iX11_must rfl rfl ⟨lb rfl, lb rfl⟩ (lb rfl) ⟨lb rfl, lb rfl⟩ L93 rfl (c_must0 f (a + 1 + 1 + 1) (nI a) 1 (nI (a + 1)) (nI_ge0 (by omega))) ?_
          rintro _ g0 ⟨rfl, hg0⟩
          rw [hg0]
          refine A_iload dX11_number_150 2 rfl ?_
          refine A_if_eq (tgt := 161) dX11_number_152 rfl (fun h152 => by exact absurd h152 (by decide)) (fun h152 => ?_)
          refine A_iload dX11_number_155 1 rfl ?_
          refine A_ineg dX11_number_157 ?_
          refine A_goto (tgt := 163) dX11_number_158 rfl ?_
          exact A_iret dX11_number_163 rfl (⟨_, _, rfl, rfl⟩)
      · have hF3 := bz_n0.mp h99
        refine A_bipush (v := 10) dX11_number_102 rfl ?_
        refine A_iload dX11_number_104 1 rfl ?_
        refine A_imul dX11_number_106 ?_
        refine A_aload_n dX11_number_107 rfl 4 rfl ?_
        refine A_callV (M' := MX11_here) [] [.int (10 * (nI (c (a + 1 + 1) - 48)))] 93 dX11_number_108 lk_RX11_95 oX11_here iX11_here rfl rfl ⟨lb rfl, lb rfl⟩ (lb rfl) ⟨lb rfl, lb rfl⟩ L93 rfl (c_here f tn c hT hc (a + 1 + 1 + 1) (nI a) (by omega)) ?_
        rintro _ g0 ⟨rfl, hg0⟩
        rw [hg0]
        refine A_topi (nI (c (a + 1 + 1 + 1))) (hV_n (bz_n0.mp h99)) ?_
        refine A_iadd dX11_number_111 ?_
        refine A_bipush (v := 48) dX11_number_112 rfl ?_
        refine A_isub dX11_number_114 ?_
        refine A_topi (nI (10 * (c (a + 1 + 1) - 48) + (c (a + 1 + 1 + 1) - 48))) (fig3 _ (by omega) (by omega) _ (by omega) (by omega)) ?_
        refine A_istore (lv' := [(6, .int (nI (10 * (c (a + 1 + 1) - 48) + (c (a + 1 + 1 + 1) - 48)))), (7, .int 1), (5, .int 1), (4, .int (nI (a + 1))), (0, .ref 93), (1, .int 2), (2, .int 99), (3, .int 1)]) dX11_number_115 (lb rfl) rfl ?_
        refine A_aload_n dX11_number_117 rfl 4 rfl ?_
        refine A_dup dX11_number_118 rfl ?_
        refine A_getI dX11_number_119 fo_RX11_89 L93 rfl ?_
        refine A_topi (nI (a + 1 + 1 + 1)) (rd_a f (a + 1 + 1 + 1) (nI a) (by decide)) ?_
        refine A_iconst (v := 1) dX11_number_122 rfl ?_
        refine A_iadd dX11_number_123 ?_
        refine A_putI dX11_number_124 fo_RX11_89 L93 rfl ?_
        refine A_eq rfl rfl (f' := rd 93 10 11 f (a + 1 + 1 + 1 + 1) (nI a)) (rd_ua f (a + 1 + 1 + 1) (a + 1 + 1 + 1 + 1) (nI a) (by decide) (by simp only [lit, nI_add, pk_mul, Nat.add_zero])) ?_
        refine A_iinc (lv' := [(7, .int 2), (6, .int (nI (10 * (c (a + 1 + 1) - 48) + (c (a + 1 + 1 + 1) - 48)))), (5, .int 1), (4, .int (nI (a + 1))), (0, .ref 93), (1, .int 2), (2, .int 99), (3, .int 1)]) dX11_number_127 1 rfl rfl (lb rfl) rfl ?_
        refine A_goto (tgt := 79) dX11_number_130 rfl ?_
        refine A_iload dX11_number_79 0 rfl ?_
        refine A_iload_n dX11_number_81 rfl 5 rfl ?_
        refine A_icmp_ge (tgt := 133) dX11_number_82 rfl (fun h82 => ?_) (fun h82 => by exact absurd (by decide) h82)
        refine A_aload_n dX11_number_133 rfl 4 rfl ?_
        refine A_iload dX11_number_134 1 rfl ?_
        refine A_iload_n dX11_number_136 rfl 6 rfl ?_
        refine A_icmp_gt (tgt := 144) dX11_number_137 rfl (fun h137 => ?_) (fun h137 => ?_)
        · refine A_iconst (v := 0) dX11_number_144 rfl ?_
          refine A_iload dX11_number_145 3 rfl ?_
          refine A_callV (M' := MX11_must) [.int 0, .int (nI (a + 1))] [] 93 dX11_number_147 lk_RX11_99 oX11_must iX11_must rfl rfl ⟨lb rfl, lb rfl⟩ (lb rfl) ⟨lb rfl, lb rfl⟩ L93 rfl (c_must0 f (a + 1 + 1 + 1 + 1) (nI a) 0 (nI (a + 1)) (nI_ge0 (by omega))) ?_
          rintro _ g0 ⟨rfl, hg0⟩
          rw [hg0]
          refine A_iload dX11_number_150 2 rfl ?_
          refine A_if_eq (tgt := 161) dX11_number_152 rfl (fun h152 => by exact absurd h152 (by decide)) (fun h152 => ?_)
          refine A_iload dX11_number_155 1 rfl ?_
          refine A_ineg dX11_number_157 ?_
          refine A_goto (tgt := 163) dX11_number_158 rfl ?_
          exact A_iret dX11_number_163 rfl (⟨_, _, rfl, rfl⟩)
        · refine A_iconst (v := 1) dX11_number_140 rfl ?_
          refine A_goto (tgt := 145) dX11_number_141 rfl ?_
          refine A_iload dX11_number_145 3 rfl ?_
          refine A_callV (M' := MX11_must) [.int 1, .int (nI (a + 1))] [] 93 dX11_number_147 lk_RX11_99 oX11_must iX11_must rfl rfl ⟨lb rfl, lb rfl⟩ (lb rfl) ⟨lb rfl, lb rfl⟩ L93 rfl (c_must0 f (a + 1 + 1 + 1 + 1) (nI a) 1 (nI (a + 1)) (nI_ge0 (by omega))) ?_
          rintro _ g0 ⟨rfl, hg0⟩
          rw [hg0]
          refine A_iload dX11_number_150 2 rfl ?_
          refine A_if_eq (tgt := 161) dX11_number_152 rfl (fun h152 => by exact absurd h152 (by decide)) (fun h152 => ?_)
          refine A_iload dX11_number_155 1 rfl ?_
          refine A_ineg dX11_number_157 ?_
          refine A_goto (tgt := 163) dX11_number_158 rfl ?_
          exact A_iret dX11_number_163 rfl (⟨_, _, rfl, rfl⟩)
theorem c_nSy1 (f : Mem) (tn : Nat) (c : Nat → Nat) (hT : RTp f tn c) (hc : tcW c tn) (a : Nat) (ha : a < 2 ^ 28) (h : c a = 32) (hs : c (a + 1) = 45) (h1 : ¬ isF (c (a + 1 + 1))) : C0 MX11_number [.ref 93, .int 2, .int 99, .int 1] (rd 93 10 11 f a (-1)) (fun r h => ∃ (x : Int32) (b : Nat), r = some (.int x) ∧ h = rd 93 10 11 f b (nI (a + 1 + 1))) := by
  refine Ct.of (lv := [(0, .ref 93), (1, .int 2), (2, .int 99), (3, .int 1)]) (by decide) (lb rfl) rfl ?_
  refine A_aload_n dX11_number_0 rfl 0 rfl ?_
  refine A_bipush (v := 32) dX11_number_1 rfl ?_
  refine A_callV (M' := MX11_takes) [.int 32] [] 93 dX11_number_3 lk_RX11_111 oX11_takes iX11_takes rfl rfl ⟨lb rfl, lb rfl⟩ (lb rfl) ⟨lb rfl, lb rfl⟩ L93 rfl (c_takes1 f tn c hT hc a (by omega) h) ?_
  rintro _ g0 ⟨rfl, hg0⟩
  rw [hg0]
  refine A_aload_n dX11_number_6 rfl 0 rfl ?_
  refine A_getI dX11_number_7 fo_RX11_89 L93 rfl ?_
  refine A_topi (nI (a + 1)) (rd_a f (a + 1) (-1) (by decide)) ?_
  refine A_istore (lv' := [(4, .int (nI (a + 1))), (0, .ref 93), (1, .int 2), (2, .int 99), (3, .int 1)]) dX11_number_10 (lb rfl) rfl ?_
  refine A_iload_n dX11_number_12 rfl 4 rfl ?_
  refine A_if_eq (tgt := 29) dX11_number_13 rfl (fun h13 => by exact absurd h13 (by decide)) (fun h13 => ?_)
  refine A_aload_n dX11_number_16 rfl 1 rfl ?_
  refine A_callV (M' := MX11_here) [] [] 93 dX11_number_17 lk_RX11_95 oX11_here iX11_here rfl rfl ⟨lb rfl, lb rfl⟩ (lb rfl) ⟨lb rfl, lb rfl⟩ L93 rfl (c_here f tn c hT hc (a + 1) (-1) (by omega)) ?_
  rintro _ g0 ⟨rfl, hg0⟩
  rw [hg0]
  refine A_bipush (v := 45) dX11_number_20 rfl ?_
  refine A_icmp_ne (tgt := 29) dX11_number_22 rfl (fun h22 => by exact absurd ((hV_45 _ (by have := hc.2.2.2 (a + 1); omega)).mpr hs) h22) (fun h22 => ?_)
  refine A_iconst (v := 1) dX11_number_25 rfl ?_
  refine A_goto (tgt := 30) dX11_number_26 rfl ?_
  refine A_istore (lv' := [(5, .int 1), (4, .int (nI (a + 1))), (0, .ref 93), (1, .int 2), (2, .int 99), (3, .int 1)]) dX11_number_30 (lb rfl) rfl ?_
  refine A_aload_n dX11_number_32 rfl 2 rfl ?_
  refine A_dup dX11_number_33 rfl ?_
  refine A_getI dX11_number_34 fo_RX11_89 L93 rfl ?_
  refine A_topi (nI (a + 1)) (rd_a f (a + 1) (-1) (by decide)) ?_
  refine A_iload dX11_number_37 0 rfl ?_
  refine A_if_eq (tgt := 46) dX11_number_39 rfl (fun h39 => by exact absurd h39 (by decide)) (fun h39 => ?_)
  refine A_iconst (v := 1) dX11_number_42 rfl ?_
  refine A_goto (tgt := 47) dX11_number_43 rfl ?_
  refine A_iadd dX11_number_47 ?_
  refine A_putI dX11_number_48 fo_RX11_89 L93 rfl ?_
  refine A_eq rfl rfl (f' := rd 93 10 11 f (a + 1 + 1) (-1)) (rd_ua f (a + 1) (a + 1 + 1) (-1) (by decide) (by simp only [lit, nI_add, pk_mul, Nat.add_zero])) ?_
  refine A_aload_n dX11_number_51 rfl 2 rfl ?_
  refine A_aload_n dX11_number_52 rfl 2 rfl ?_
  refine A_callV (M' := MX11_here) [] [.ref 93] 93 dX11_number_53 lk_RX11_95 oX11_here iX11_here rfl rfl ⟨lb rfl, lb rfl⟩ (lb rfl) ⟨lb rfl, lb rfl⟩ L93 rfl (c_here f tn c hT hc (a + 1 + 1) (-1) (by omega)) ?_
  rintro _ g0 ⟨rfl, hg0⟩
  rw [hg0]
  refine A_i2l dX11_number_56 ?_
  refine A_ldc2 dX11_number_57 k_RX11_115 ?_
  refine A_ldc2 dX11_number_60 k_RX11_117 ?_
  refine A_callS (M' := MX11_in) [.long ((hV (c (a + 1 + 1))).toInt64), .long 48, .long 57] [.ref 93] dX11_number_63 lk_RX11_64 oX11_in sX11_in rfl rfl ⟨lb rfl, lb rfl⟩ (lb rfl) ⟨lb rfl, lb rfl⟩ (c_in _ _ _ _) ?_
  rintro _ g0 ⟨rfl, hg0⟩
  rw [hg0]
  refine A_topi (bz (isF (c (a + 1 + 1)))) (bz_c (hV_F _ (by have := hc.2.2.2 (a + 1 + 1); omega))) ?_
  refine A_aload_n dX11_number_66 rfl 2 rfl ?_
  refine A_getI dX11_number_67 fo_RX11_89 L93 rfl ?_
  refine A_topi (nI (a + 1 + 1)) (rd_a f (a + 1 + 1) (-1) (by decide)) ?_
  refine A_callV (M' := MX11_must) [.int (bz (isF (c (a + 1 + 1)))), .int (nI (a + 1 + 1))] [] 93 dX11_number_70 lk_RX11_99 oX11_must iX11_must rfl rfl ⟨lb rfl, lb rfl⟩ (lb rfl) ⟨lb rfl, lb rfl⟩ L93 rfl (c_must2 f (a + 1 + 1) (bz (isF (c (a + 1 + 1)))) (nI (a + 1 + 1)) (bz_0.mpr h1)) ?_
  rintro _ g0 ⟨rfl, hg0⟩
  rw [hg0]
  refine A_iconst (v := 0) dX11_number_73 rfl ?_
  refine A_istore (lv' := [(6, .int 0), (5, .int 1), (4, .int (nI (a + 1))), (0, .ref 93), (1, .int 2), (2, .int 99), (3, .int 1)]) dX11_number_74 (lb rfl) rfl ?_
  refine A_iconst (v := 0) dX11_number_76 rfl ?_
  refine A_istore (lv' := [(7, .int 0), (6, .int 0), (5, .int 1), (4, .int (nI (a + 1))), (0, .ref 93), (1, .int 2), (2, .int 99), (3, .int 1)]) dX11_number_77 (lb rfl) rfl ?_
  refine A_iload dX11_number_79 0 rfl ?_
  refine A_iload_n dX11_number_81 rfl 5 rfl ?_
  refine A_icmp_ge (tgt := 133) dX11_number_82 rfl (fun h82 => by exact absurd h82 (by decide)) (fun h82 => ?_)
  refine A_aload_n dX11_number_85 rfl 4 rfl ?_
  refine A_callV (M' := MX11_here) [] [] 93 dX11_number_86 lk_RX11_95 oX11_here iX11_here rfl rfl ⟨lb rfl, lb rfl⟩ (lb rfl) ⟨lb rfl, lb rfl⟩ L93 rfl (c_here f tn c hT hc (a + 1 + 1) (nI (a + 1 + 1)) (by omega)) ?_
  rintro _ g0 ⟨rfl, hg0⟩
  rw [hg0]
  refine A_i2l dX11_number_89 ?_
  refine A_ldc2 dX11_number_90 k_RX11_115 ?_
  refine A_ldc2 dX11_number_93 k_RX11_117 ?_
  refine A_callS (M' := MX11_in) [.long ((hV (c (a + 1 + 1))).toInt64), .long 48, .long 57] [] dX11_number_96 lk_RX11_64 oX11_in sX11_in rfl rfl ⟨lb rfl, lb rfl⟩ (lb rfl) ⟨lb rfl, lb rfl⟩ (c_in _ _ _ _) ?_
  rintro _ g0 ⟨rfl, hg0⟩
  rw [hg0]
  refine A_topi (bz (isF (c (a + 1 + 1)))) (bz_c (hV_F _ (by have := hc.2.2.2 (a + 1 + 1); omega))) ?_
  refine A_if_eq (tgt := 133) dX11_number_99 rfl (fun h99 => ?_) (fun h99 => by exact absurd (bz_n0.mp h99) h1)
  refine A_aload_n dX11_number_133 rfl 4 rfl ?_
  refine A_iload dX11_number_134 1 rfl ?_
  refine A_iload_n dX11_number_136 rfl 6 rfl ?_
  refine A_icmp_gt (tgt := 144) dX11_number_137 rfl (fun h137 => by exact absurd h137 (by decide)) (fun h137 => ?_)
  refine A_iconst (v := 1) dX11_number_140 rfl ?_
  refine A_goto (tgt := 145) dX11_number_141 rfl ?_
  refine A_iload dX11_number_145 3 rfl ?_
  refine A_callV (M' := MX11_must) [.int 1, .int (nI (a + 1))] [] 93 dX11_number_147 lk_RX11_99 oX11_must iX11_must rfl rfl ⟨lb rfl, lb rfl⟩ (lb rfl) ⟨lb rfl, lb rfl⟩ L93 rfl (c_must0 f (a + 1 + 1) (nI (a + 1 + 1)) 1 (nI (a + 1)) (nI_ge0 (by omega))) ?_
  rintro _ g0 ⟨rfl, hg0⟩
  rw [hg0]
  refine A_iload dX11_number_150 2 rfl ?_
  refine A_if_eq (tgt := 161) dX11_number_152 rfl (fun h152 => by exact absurd h152 (by decide)) (fun h152 => ?_)
  refine A_iload dX11_number_155 1 rfl ?_
  refine A_ineg dX11_number_157 ?_
  refine A_goto (tgt := 163) dX11_number_158 rfl ?_
  exact A_iret dX11_number_163 rfl (⟨_, _, rfl, rfl⟩)
theorem c_nSy2 (f : Mem) (tn : Nat) (c : Nat → Nat) (hT : RTp f tn c) (hc : tcW c tn) (a : Nat) (ha : a < 2 ^ 28) (h : c a = 32) (hs : c (a + 1) = 45) (h1 : isF (c (a + 1 + 1))) (h2 : ¬ isF (c (a + 1 + 1 + 1))) : C0 MX11_number [.ref 93, .int 2, .int 99, .int 1] (rd 93 10 11 f a (-1)) (rt (some (.int (-nI (c (a + 1 + 1) - 48)))) (rd 93 10 11 f (a + 1 + 1 + 1) (-1))) := by
  refine Ct.of (lv := [(0, .ref 93), (1, .int 2), (2, .int 99), (3, .int 1)]) (by decide) (lb rfl) rfl ?_
  refine A_aload_n dX11_number_0 rfl 0 rfl ?_
  refine A_bipush (v := 32) dX11_number_1 rfl ?_
  refine A_callV (M' := MX11_takes) [.int 32] [] 93 dX11_number_3 lk_RX11_111 oX11_takes iX11_takes rfl rfl ⟨lb rfl, lb rfl⟩ (lb rfl) ⟨lb rfl, lb rfl⟩ L93 rfl (c_takes1 f tn c hT hc a (by omega) h) ?_
  rintro _ g0 ⟨rfl, hg0⟩
  rw [hg0]
  refine A_aload_n dX11_number_6 rfl 0 rfl ?_
  refine A_getI dX11_number_7 fo_RX11_89 L93 rfl ?_
  refine A_topi (nI (a + 1)) (rd_a f (a + 1) (-1) (by decide)) ?_
  refine A_istore (lv' := [(4, .int (nI (a + 1))), (0, .ref 93), (1, .int 2), (2, .int 99), (3, .int 1)]) dX11_number_10 (lb rfl) rfl ?_
  refine A_iload_n dX11_number_12 rfl 4 rfl ?_
  refine A_if_eq (tgt := 29) dX11_number_13 rfl (fun h13 => by exact absurd h13 (by decide)) (fun h13 => ?_)
  refine A_aload_n dX11_number_16 rfl 1 rfl ?_
  refine A_callV (M' := MX11_here) [] [] 93 dX11_number_17 lk_RX11_95 oX11_here iX11_here rfl rfl ⟨lb rfl, lb rfl⟩ (lb rfl) ⟨lb rfl, lb rfl⟩ L93 rfl (c_here f tn c hT hc (a + 1) (-1) (by omega)) ?_
  rintro _ g0 ⟨rfl, hg0⟩
  rw [hg0]
  refine A_bipush (v := 45) dX11_number_20 rfl ?_
  refine A_icmp_ne (tgt := 29) dX11_number_22 rfl (fun h22 => by exact absurd ((hV_45 _ (by have := hc.2.2.2 (a + 1); omega)).mpr hs) h22) (fun h22 => ?_)
  refine A_iconst (v := 1) dX11_number_25 rfl ?_
  refine A_goto (tgt := 30) dX11_number_26 rfl ?_
  refine A_istore (lv' := [(5, .int 1), (4, .int (nI (a + 1))), (0, .ref 93), (1, .int 2), (2, .int 99), (3, .int 1)]) dX11_number_30 (lb rfl) rfl ?_
  refine A_aload_n dX11_number_32 rfl 2 rfl ?_
  refine A_dup dX11_number_33 rfl ?_
  refine A_getI dX11_number_34 fo_RX11_89 L93 rfl ?_
  refine A_topi (nI (a + 1)) (rd_a f (a + 1) (-1) (by decide)) ?_
  refine A_iload dX11_number_37 0 rfl ?_
  refine A_if_eq (tgt := 46) dX11_number_39 rfl (fun h39 => by exact absurd h39 (by decide)) (fun h39 => ?_)
  refine A_iconst (v := 1) dX11_number_42 rfl ?_
  refine A_goto (tgt := 47) dX11_number_43 rfl ?_
  refine A_iadd dX11_number_47 ?_
  refine A_putI dX11_number_48 fo_RX11_89 L93 rfl ?_
  refine A_eq rfl rfl (f' := rd 93 10 11 f (a + 1 + 1) (-1)) (rd_ua f (a + 1) (a + 1 + 1) (-1) (by decide) (by simp only [lit, nI_add, pk_mul, Nat.add_zero])) ?_
  refine A_aload_n dX11_number_51 rfl 2 rfl ?_
  refine A_aload_n dX11_number_52 rfl 2 rfl ?_
  refine A_callV (M' := MX11_here) [] [.ref 93] 93 dX11_number_53 lk_RX11_95 oX11_here iX11_here rfl rfl ⟨lb rfl, lb rfl⟩ (lb rfl) ⟨lb rfl, lb rfl⟩ L93 rfl (c_here f tn c hT hc (a + 1 + 1) (-1) (by omega)) ?_
  rintro _ g0 ⟨rfl, hg0⟩
  rw [hg0]
  refine A_i2l dX11_number_56 ?_
  refine A_ldc2 dX11_number_57 k_RX11_115 ?_
  refine A_ldc2 dX11_number_60 k_RX11_117 ?_
  refine A_callS (M' := MX11_in) [.long ((hV (c (a + 1 + 1))).toInt64), .long 48, .long 57] [.ref 93] dX11_number_63 lk_RX11_64 oX11_in sX11_in rfl rfl ⟨lb rfl, lb rfl⟩ (lb rfl) ⟨lb rfl, lb rfl⟩ (c_in _ _ _ _) ?_
  rintro _ g0 ⟨rfl, hg0⟩
  rw [hg0]
  refine A_topi (bz (isF (c (a + 1 + 1)))) (bz_c (hV_F _ (by have := hc.2.2.2 (a + 1 + 1); omega))) ?_
  refine A_aload_n dX11_number_66 rfl 2 rfl ?_
  refine A_getI dX11_number_67 fo_RX11_89 L93 rfl ?_
  refine A_topi (nI (a + 1 + 1)) (rd_a f (a + 1 + 1) (-1) (by decide)) ?_
  refine A_callV (M' := MX11_must) [.int (bz (isF (c (a + 1 + 1)))), .int (nI (a + 1 + 1))] [] 93 dX11_number_70 lk_RX11_99 oX11_must iX11_must rfl rfl ⟨lb rfl, lb rfl⟩ (lb rfl) ⟨lb rfl, lb rfl⟩ L93 rfl (c_must1 f (a + 1 + 1) (bz (isF (c (a + 1 + 1)))) (nI (a + 1 + 1)) (bz_n0.mpr h1)) ?_
  rintro _ g0 ⟨rfl, hg0⟩
  rw [hg0]
  refine A_iconst (v := 0) dX11_number_73 rfl ?_
  refine A_istore (lv' := [(6, .int 0), (5, .int 1), (4, .int (nI (a + 1))), (0, .ref 93), (1, .int 2), (2, .int 99), (3, .int 1)]) dX11_number_74 (lb rfl) rfl ?_
  refine A_iconst (v := 0) dX11_number_76 rfl ?_
  refine A_istore (lv' := [(7, .int 0), (6, .int 0), (5, .int 1), (4, .int (nI (a + 1))), (0, .ref 93), (1, .int 2), (2, .int 99), (3, .int 1)]) dX11_number_77 (lb rfl) rfl ?_
  refine A_iload dX11_number_79 0 rfl ?_
  refine A_iload_n dX11_number_81 rfl 5 rfl ?_
  refine A_icmp_ge (tgt := 133) dX11_number_82 rfl (fun h82 => by exact absurd h82 (by decide)) (fun h82 => ?_)
  refine A_aload_n dX11_number_85 rfl 4 rfl ?_
  refine A_callV (M' := MX11_here) [] [] 93 dX11_number_86 lk_RX11_95 oX11_here iX11_here rfl rfl ⟨lb rfl, lb rfl⟩ (lb rfl) ⟨lb rfl, lb rfl⟩ L93 rfl (c_here f tn c hT hc (a + 1 + 1) (-1) (by omega)) ?_
  rintro _ g0 ⟨rfl, hg0⟩
  rw [hg0]
  refine A_i2l dX11_number_89 ?_
  refine A_ldc2 dX11_number_90 k_RX11_115 ?_
  refine A_ldc2 dX11_number_93 k_RX11_117 ?_
  refine A_callS (M' := MX11_in) [.long ((hV (c (a + 1 + 1))).toInt64), .long 48, .long 57] [] dX11_number_96 lk_RX11_64 oX11_in sX11_in rfl rfl ⟨lb rfl, lb rfl⟩ (lb rfl) ⟨lb rfl, lb rfl⟩ (c_in _ _ _ _) ?_
  rintro _ g0 ⟨rfl, hg0⟩
  rw [hg0]
  refine A_topi (bz (isF (c (a + 1 + 1)))) (bz_c (hV_F _ (by have := hc.2.2.2 (a + 1 + 1); omega))) ?_
  refine A_if_eq (tgt := 133) dX11_number_99 rfl (fun h99 => by exact absurd h1 (bz_0.mp h99)) (fun h99 => ?_)
  refine A_bipush (v := 10) dX11_number_102 rfl ?_
  refine A_iload dX11_number_104 1 rfl ?_
  refine A_imul dX11_number_106 ?_
  refine A_topi (0) (by decide) ?_
  refine A_aload_n dX11_number_107 rfl 4 rfl ?_
  refine A_callV (M' := MX11_here) [] [.int 0] 93 dX11_number_108 lk_RX11_95 oX11_here iX11_here rfl rfl ⟨lb rfl, lb rfl⟩ (lb rfl) ⟨lb rfl, lb rfl⟩ L93 rfl (c_here f tn c hT hc (a + 1 + 1) (-1) (by omega)) ?_
  rintro _ g0 ⟨rfl, hg0⟩
  rw [hg0]
  refine A_topi (nI (c (a + 1 + 1))) (hV_n h1) ?_
  refine A_iadd dX11_number_111 ?_
  refine A_bipush (v := 48) dX11_number_112 rfl ?_
  refine A_isub dX11_number_114 ?_
  refine A_topi (nI (c (a + 1 + 1) - 48)) (fig1 _ (by omega) (by omega)) ?_
  refine A_istore (lv' := [(6, .int (nI (c (a + 1 + 1) - 48))), (7, .int 0), (5, .int 1), (4, .int (nI (a + 1))), (0, .ref 93), (1, .int 2), (2, .int 99), (3, .int 1)]) dX11_number_115 (lb rfl) rfl ?_
  refine A_aload_n dX11_number_117 rfl 4 rfl ?_
  refine A_dup dX11_number_118 rfl ?_
  refine A_getI dX11_number_119 fo_RX11_89 L93 rfl ?_
  refine A_topi (nI (a + 1 + 1)) (rd_a f (a + 1 + 1) (-1) (by decide)) ?_
  refine A_iconst (v := 1) dX11_number_122 rfl ?_
  refine A_iadd dX11_number_123 ?_
  refine A_putI dX11_number_124 fo_RX11_89 L93 rfl ?_
  refine A_eq rfl rfl (f' := rd 93 10 11 f (a + 1 + 1 + 1) (-1)) (rd_ua f (a + 1 + 1) (a + 1 + 1 + 1) (-1) (by decide) (by simp only [lit, nI_add, pk_mul, Nat.add_zero])) ?_
  refine A_iinc (lv' := [(7, .int 1), (6, .int (nI (c (a + 1 + 1) - 48))), (5, .int 1), (4, .int (nI (a + 1))), (0, .ref 93), (1, .int 2), (2, .int 99), (3, .int 1)]) dX11_number_127 1 rfl rfl (lb rfl) rfl ?_
  refine A_goto (tgt := 79) dX11_number_130 rfl ?_
  refine A_iload dX11_number_79 0 rfl ?_
  refine A_iload_n dX11_number_81 rfl 5 rfl ?_
  refine A_icmp_ge (tgt := 133) dX11_number_82 rfl (fun h82 => by exact absurd h82 (by decide)) (fun h82 => ?_)
  refine A_aload_n dX11_number_85 rfl 4 rfl ?_
  refine A_callV (M' := MX11_here) [] [] 93 dX11_number_86 lk_RX11_95 oX11_here iX11_here rfl rfl ⟨lb rfl, lb rfl⟩ (lb rfl) ⟨lb rfl, lb rfl⟩ L93 rfl (c_here f tn c hT hc (a + 1 + 1 + 1) (-1) (by omega)) ?_
  rintro _ g0 ⟨rfl, hg0⟩
  rw [hg0]
  refine A_i2l dX11_number_89 ?_
  refine A_ldc2 dX11_number_90 k_RX11_115 ?_
  refine A_ldc2 dX11_number_93 k_RX11_117 ?_
  refine A_callS (M' := MX11_in) [.long ((hV (c (a + 1 + 1 + 1))).toInt64), .long 48, .long 57] [] dX11_number_96 lk_RX11_64 oX11_in sX11_in rfl rfl ⟨lb rfl, lb rfl⟩ (lb rfl) ⟨lb rfl, lb rfl⟩ (c_in _ _ _ _) ?_
  rintro _ g0 ⟨rfl, hg0⟩
  rw [hg0]
  refine A_topi (bz (isF (c (a + 1 + 1 + 1)))) (bz_c (hV_F _ (by have := hc.2.2.2 (a + 1 + 1 + 1); omega))) ?_
  refine A_if_eq (tgt := 133) dX11_number_99 rfl (fun h99 => ?_) (fun h99 => by exact absurd (bz_n0.mp h99) h2)
  refine A_aload_n dX11_number_133 rfl 4 rfl ?_
  refine A_iload dX11_number_134 1 rfl ?_
  refine A_iload_n dX11_number_136 rfl 6 rfl ?_
  refine A_icmp_gt (tgt := 144) dX11_number_137 rfl (fun h137 => by exact absurd h137 (fun t => by rw [show (99 : Int32) = nI 99 from rfl, nI_ltI (by omega) (by omega)] at t; omega)) (fun h137 => ?_)
  refine A_iconst (v := 1) dX11_number_140 rfl ?_
  refine A_goto (tgt := 145) dX11_number_141 rfl ?_
  refine A_iload dX11_number_145 3 rfl ?_
  refine A_callV (M' := MX11_must) [.int 1, .int (nI (a + 1))] [] 93 dX11_number_147 lk_RX11_99 oX11_must iX11_must rfl rfl ⟨lb rfl, lb rfl⟩ (lb rfl) ⟨lb rfl, lb rfl⟩ L93 rfl (c_must1 f (a + 1 + 1 + 1) 1 (nI (a + 1)) (by decide)) ?_
  rintro _ g0 ⟨rfl, hg0⟩
  rw [hg0]
  refine A_iload dX11_number_150 2 rfl ?_
  refine A_if_eq (tgt := 161) dX11_number_152 rfl (fun h152 => by exact absurd h152 (by decide)) (fun h152 => ?_)
  refine A_iload dX11_number_155 1 rfl ?_
  refine A_ineg dX11_number_157 ?_
  refine A_goto (tgt := 163) dX11_number_158 rfl ?_
  exact A_iret dX11_number_163 rfl (⟨rfl, rfl⟩)
theorem c_nSy4 (f : Mem) (tn : Nat) (c : Nat → Nat) (hT : RTp f tn c) (hc : tcW c tn) (a : Nat) (ha : a < 2 ^ 28) (h : c a = 32) (hs : c (a + 1) = 45) (h1 : isF (c (a + 1 + 1))) (h2 : isF (c (a + 1 + 1 + 1))) : C0 MX11_number [.ref 93, .int 2, .int 99, .int 1] (rd 93 10 11 f a (-1)) (rt (some (.int (-nI (10 * (c (a + 1 + 1) - 48) + (c (a + 1 + 1 + 1) - 48))))) (rd 93 10 11 f (a + 1 + 1 + 1 + 1) (-1))) := by
  refine Ct.of (lv := [(0, .ref 93), (1, .int 2), (2, .int 99), (3, .int 1)]) (by decide) (lb rfl) rfl ?_
  refine A_aload_n dX11_number_0 rfl 0 rfl ?_
  refine A_bipush (v := 32) dX11_number_1 rfl ?_
  refine A_callV (M' := MX11_takes) [.int 32] [] 93 dX11_number_3 lk_RX11_111 oX11_takes iX11_takes rfl rfl ⟨lb rfl, lb rfl⟩ (lb rfl) ⟨lb rfl, lb rfl⟩ L93 rfl (c_takes1 f tn c hT hc a (by omega) h) ?_
  rintro _ g0 ⟨rfl, hg0⟩
  rw [hg0]
  refine A_aload_n dX11_number_6 rfl 0 rfl ?_
  refine A_getI dX11_number_7 fo_RX11_89 L93 rfl ?_
  refine A_topi (nI (a + 1)) (rd_a f (a + 1) (-1) (by decide)) ?_
  refine A_istore (lv' := [(4, .int (nI (a + 1))), (0, .ref 93), (1, .int 2), (2, .int 99), (3, .int 1)]) dX11_number_10 (lb rfl) rfl ?_
  refine A_iload_n dX11_number_12 rfl 4 rfl ?_
  refine A_if_eq (tgt := 29) dX11_number_13 rfl (fun h13 => by exact absurd h13 (by decide)) (fun h13 => ?_)
  refine A_aload_n dX11_number_16 rfl 1 rfl ?_
  refine A_callV (M' := MX11_here) [] [] 93 dX11_number_17 lk_RX11_95 oX11_here iX11_here rfl rfl ⟨lb rfl, lb rfl⟩ (lb rfl) ⟨lb rfl, lb rfl⟩ L93 rfl (c_here f tn c hT hc (a + 1) (-1) (by omega)) ?_
  rintro _ g0 ⟨rfl, hg0⟩
  rw [hg0]
  refine A_bipush (v := 45) dX11_number_20 rfl ?_
  refine A_icmp_ne (tgt := 29) dX11_number_22 rfl (fun h22 => by exact absurd ((hV_45 _ (by have := hc.2.2.2 (a + 1); omega)).mpr hs) h22) (fun h22 => ?_)
  refine A_iconst (v := 1) dX11_number_25 rfl ?_
  refine A_goto (tgt := 30) dX11_number_26 rfl ?_
  refine A_istore (lv' := [(5, .int 1), (4, .int (nI (a + 1))), (0, .ref 93), (1, .int 2), (2, .int 99), (3, .int 1)]) dX11_number_30 (lb rfl) rfl ?_
  refine A_aload_n dX11_number_32 rfl 2 rfl ?_
  refine A_dup dX11_number_33 rfl ?_
  refine A_getI dX11_number_34 fo_RX11_89 L93 rfl ?_
  refine A_topi (nI (a + 1)) (rd_a f (a + 1) (-1) (by decide)) ?_
  refine A_iload dX11_number_37 0 rfl ?_
  refine A_if_eq (tgt := 46) dX11_number_39 rfl (fun h39 => by exact absurd h39 (by decide)) (fun h39 => ?_)
  refine A_iconst (v := 1) dX11_number_42 rfl ?_
  refine A_goto (tgt := 47) dX11_number_43 rfl ?_
  refine A_iadd dX11_number_47 ?_
  refine A_putI dX11_number_48 fo_RX11_89 L93 rfl ?_
  refine A_eq rfl rfl (f' := rd 93 10 11 f (a + 1 + 1) (-1)) (rd_ua f (a + 1) (a + 1 + 1) (-1) (by decide) (by simp only [lit, nI_add, pk_mul, Nat.add_zero])) ?_
  refine A_aload_n dX11_number_51 rfl 2 rfl ?_
  refine A_aload_n dX11_number_52 rfl 2 rfl ?_
  refine A_callV (M' := MX11_here) [] [.ref 93] 93 dX11_number_53 lk_RX11_95 oX11_here iX11_here rfl rfl ⟨lb rfl, lb rfl⟩ (lb rfl) ⟨lb rfl, lb rfl⟩ L93 rfl (c_here f tn c hT hc (a + 1 + 1) (-1) (by omega)) ?_
  rintro _ g0 ⟨rfl, hg0⟩
  rw [hg0]
  refine A_i2l dX11_number_56 ?_
  refine A_ldc2 dX11_number_57 k_RX11_115 ?_
  refine A_ldc2 dX11_number_60 k_RX11_117 ?_
  refine A_callS (M' := MX11_in) [.long ((hV (c (a + 1 + 1))).toInt64), .long 48, .long 57] [.ref 93] dX11_number_63 lk_RX11_64 oX11_in sX11_in rfl rfl ⟨lb rfl, lb rfl⟩ (lb rfl) ⟨lb rfl, lb rfl⟩ (c_in _ _ _ _) ?_
  rintro _ g0 ⟨rfl, hg0⟩
  rw [hg0]
  refine A_topi (bz (isF (c (a + 1 + 1)))) (bz_c (hV_F _ (by have := hc.2.2.2 (a + 1 + 1); omega))) ?_
  refine A_aload_n dX11_number_66 rfl 2 rfl ?_
  refine A_getI dX11_number_67 fo_RX11_89 L93 rfl ?_
  refine A_topi (nI (a + 1 + 1)) (rd_a f (a + 1 + 1) (-1) (by decide)) ?_
  refine A_callV (M' := MX11_must) [.int (bz (isF (c (a + 1 + 1)))), .int (nI (a + 1 + 1))] [] 93 dX11_number_70 lk_RX11_99 oX11_must iX11_must rfl rfl ⟨lb rfl, lb rfl⟩ (lb rfl) ⟨lb rfl, lb rfl⟩ L93 rfl (c_must1 f (a + 1 + 1) (bz (isF (c (a + 1 + 1)))) (nI (a + 1 + 1)) (bz_n0.mpr h1)) ?_
  rintro _ g0 ⟨rfl, hg0⟩
  rw [hg0]
  refine A_iconst (v := 0) dX11_number_73 rfl ?_
  refine A_istore (lv' := [(6, .int 0), (5, .int 1), (4, .int (nI (a + 1))), (0, .ref 93), (1, .int 2), (2, .int 99), (3, .int 1)]) dX11_number_74 (lb rfl) rfl ?_
  refine A_iconst (v := 0) dX11_number_76 rfl ?_
  refine A_istore (lv' := [(7, .int 0), (6, .int 0), (5, .int 1), (4, .int (nI (a + 1))), (0, .ref 93), (1, .int 2), (2, .int 99), (3, .int 1)]) dX11_number_77 (lb rfl) rfl ?_
  refine A_iload dX11_number_79 0 rfl ?_
  refine A_iload_n dX11_number_81 rfl 5 rfl ?_
  refine A_icmp_ge (tgt := 133) dX11_number_82 rfl (fun h82 => by exact absurd h82 (by decide)) (fun h82 => ?_)
  refine A_aload_n dX11_number_85 rfl 4 rfl ?_
  refine A_callV (M' := MX11_here) [] [] 93 dX11_number_86 lk_RX11_95 oX11_here iX11_here rfl rfl ⟨lb rfl, lb rfl⟩ (lb rfl) ⟨lb rfl, lb rfl⟩ L93 rfl (c_here f tn c hT hc (a + 1 + 1) (-1) (by omega)) ?_
  rintro _ g0 ⟨rfl, hg0⟩
  rw [hg0]
  refine A_i2l dX11_number_89 ?_
  refine A_ldc2 dX11_number_90 k_RX11_115 ?_
  refine A_ldc2 dX11_number_93 k_RX11_117 ?_
  refine A_callS (M' := MX11_in) [.long ((hV (c (a + 1 + 1))).toInt64), .long 48, .long 57] [] dX11_number_96 lk_RX11_64 oX11_in sX11_in rfl rfl ⟨lb rfl, lb rfl⟩ (lb rfl) ⟨lb rfl, lb rfl⟩ (c_in _ _ _ _) ?_
  rintro _ g0 ⟨rfl, hg0⟩
  rw [hg0]
  refine A_topi (bz (isF (c (a + 1 + 1)))) (bz_c (hV_F _ (by have := hc.2.2.2 (a + 1 + 1); omega))) ?_
  refine A_if_eq (tgt := 133) dX11_number_99 rfl (fun h99 => by exact absurd h1 (bz_0.mp h99)) (fun h99 => ?_)
  refine A_bipush (v := 10) dX11_number_102 rfl ?_
  refine A_iload dX11_number_104 1 rfl ?_
  refine A_imul dX11_number_106 ?_
  refine A_topi (0) (by decide) ?_
  refine A_aload_n dX11_number_107 rfl 4 rfl ?_
  refine A_callV (M' := MX11_here) [] [.int 0] 93 dX11_number_108 lk_RX11_95 oX11_here iX11_here rfl rfl ⟨lb rfl, lb rfl⟩ (lb rfl) ⟨lb rfl, lb rfl⟩ L93 rfl (c_here f tn c hT hc (a + 1 + 1) (-1) (by omega)) ?_
  rintro _ g0 ⟨rfl, hg0⟩
  rw [hg0]
  refine A_topi (nI (c (a + 1 + 1))) (hV_n h1) ?_
  refine A_iadd dX11_number_111 ?_
  refine A_bipush (v := 48) dX11_number_112 rfl ?_
  refine A_isub dX11_number_114 ?_
  refine A_topi (nI (c (a + 1 + 1) - 48)) (fig1 _ (by omega) (by omega)) ?_
  refine A_istore (lv' := [(6, .int (nI (c (a + 1 + 1) - 48))), (7, .int 0), (5, .int 1), (4, .int (nI (a + 1))), (0, .ref 93), (1, .int 2), (2, .int 99), (3, .int 1)]) dX11_number_115 (lb rfl) rfl ?_
  refine A_aload_n dX11_number_117 rfl 4 rfl ?_
  refine A_dup dX11_number_118 rfl ?_
  refine A_getI dX11_number_119 fo_RX11_89 L93 rfl ?_
  refine A_topi (nI (a + 1 + 1)) (rd_a f (a + 1 + 1) (-1) (by decide)) ?_
  refine A_iconst (v := 1) dX11_number_122 rfl ?_
  refine A_iadd dX11_number_123 ?_
  refine A_putI dX11_number_124 fo_RX11_89 L93 rfl ?_
  refine A_eq rfl rfl (f' := rd 93 10 11 f (a + 1 + 1 + 1) (-1)) (rd_ua f (a + 1 + 1) (a + 1 + 1 + 1) (-1) (by decide) (by simp only [lit, nI_add, pk_mul, Nat.add_zero])) ?_
  refine A_iinc (lv' := [(7, .int 1), (6, .int (nI (c (a + 1 + 1) - 48))), (5, .int 1), (4, .int (nI (a + 1))), (0, .ref 93), (1, .int 2), (2, .int 99), (3, .int 1)]) dX11_number_127 1 rfl rfl (lb rfl) rfl ?_
  refine A_goto (tgt := 79) dX11_number_130 rfl ?_
  refine A_iload dX11_number_79 0 rfl ?_
  refine A_iload_n dX11_number_81 rfl 5 rfl ?_
  refine A_icmp_ge (tgt := 133) dX11_number_82 rfl (fun h82 => by exact absurd h82 (by decide)) (fun h82 => ?_)
  refine A_aload_n dX11_number_85 rfl 4 rfl ?_
  refine A_callV (M' := MX11_here) [] [] 93 dX11_number_86 lk_RX11_95 oX11_here iX11_here rfl rfl ⟨lb rfl, lb rfl⟩ (lb rfl) ⟨lb rfl, lb rfl⟩ L93 rfl (c_here f tn c hT hc (a + 1 + 1 + 1) (-1) (by omega)) ?_
  rintro _ g0 ⟨rfl, hg0⟩
  rw [hg0]
  refine A_i2l dX11_number_89 ?_
  refine A_ldc2 dX11_number_90 k_RX11_115 ?_
  refine A_ldc2 dX11_number_93 k_RX11_117 ?_
  refine A_callS (M' := MX11_in) [.long ((hV (c (a + 1 + 1 + 1))).toInt64), .long 48, .long 57] [] dX11_number_96 lk_RX11_64 oX11_in sX11_in rfl rfl ⟨lb rfl, lb rfl⟩ (lb rfl) ⟨lb rfl, lb rfl⟩ (c_in _ _ _ _) ?_
  rintro _ g0 ⟨rfl, hg0⟩
  rw [hg0]
  refine A_topi (bz (isF (c (a + 1 + 1 + 1)))) (bz_c (hV_F _ (by have := hc.2.2.2 (a + 1 + 1 + 1); omega))) ?_
  refine A_if_eq (tgt := 133) dX11_number_99 rfl (fun h99 => by exact absurd h2 (bz_0.mp h99)) (fun h99 => ?_)
  refine A_bipush (v := 10) dX11_number_102 rfl ?_
  refine A_iload dX11_number_104 1 rfl ?_
  refine A_imul dX11_number_106 ?_
  refine A_aload_n dX11_number_107 rfl 4 rfl ?_
  refine A_callV (M' := MX11_here) [] [.int (10 * (nI (c (a + 1 + 1) - 48)))] 93 dX11_number_108 lk_RX11_95 oX11_here iX11_here rfl rfl ⟨lb rfl, lb rfl⟩ (lb rfl) ⟨lb rfl, lb rfl⟩ L93 rfl (c_here f tn c hT hc (a + 1 + 1 + 1) (-1) (by omega)) ?_
  rintro _ g0 ⟨rfl, hg0⟩
  rw [hg0]
  refine A_topi (nI (c (a + 1 + 1 + 1))) (hV_n h2) ?_
  refine A_iadd dX11_number_111 ?_
  refine A_bipush (v := 48) dX11_number_112 rfl ?_
  refine A_isub dX11_number_114 ?_
  refine A_topi (nI (10 * (c (a + 1 + 1) - 48) + (c (a + 1 + 1 + 1) - 48))) (fig3 _ (by omega) (by omega) _ (by omega) (by omega)) ?_
  refine A_istore (lv' := [(6, .int (nI (10 * (c (a + 1 + 1) - 48) + (c (a + 1 + 1 + 1) - 48)))), (7, .int 1), (5, .int 1), (4, .int (nI (a + 1))), (0, .ref 93), (1, .int 2), (2, .int 99), (3, .int 1)]) dX11_number_115 (lb rfl) rfl ?_
  refine A_aload_n dX11_number_117 rfl 4 rfl ?_
  refine A_dup dX11_number_118 rfl ?_
  refine A_getI dX11_number_119 fo_RX11_89 L93 rfl ?_
  refine A_topi (nI (a + 1 + 1 + 1)) (rd_a f (a + 1 + 1 + 1) (-1) (by decide)) ?_
  refine A_iconst (v := 1) dX11_number_122 rfl ?_
  refine A_iadd dX11_number_123 ?_
  refine A_putI dX11_number_124 fo_RX11_89 L93 rfl ?_
  refine A_eq rfl rfl (f' := rd 93 10 11 f (a + 1 + 1 + 1 + 1) (-1)) (rd_ua f (a + 1 + 1 + 1) (a + 1 + 1 + 1 + 1) (-1) (by decide) (by simp only [lit, nI_add, pk_mul, Nat.add_zero])) ?_
  refine A_iinc (lv' := [(7, .int 2), (6, .int (nI (10 * (c (a + 1 + 1) - 48) + (c (a + 1 + 1 + 1) - 48)))), (5, .int 1), (4, .int (nI (a + 1))), (0, .ref 93), (1, .int 2), (2, .int 99), (3, .int 1)]) dX11_number_127 1 rfl rfl (lb rfl) rfl ?_
  refine A_goto (tgt := 79) dX11_number_130 rfl ?_
  refine A_iload dX11_number_79 0 rfl ?_
  refine A_iload_n dX11_number_81 rfl 5 rfl ?_
  refine A_icmp_ge (tgt := 133) dX11_number_82 rfl (fun h82 => ?_) (fun h82 => by exact absurd (by decide) h82)
  refine A_aload_n dX11_number_133 rfl 4 rfl ?_
  refine A_iload dX11_number_134 1 rfl ?_
  refine A_iload_n dX11_number_136 rfl 6 rfl ?_
  refine A_icmp_gt (tgt := 144) dX11_number_137 rfl (fun h137 => by exact absurd h137 (fun t => by rw [show (99 : Int32) = nI 99 from rfl, nI_ltI (by omega) (by omega)] at t; omega)) (fun h137 => ?_)
  refine A_iconst (v := 1) dX11_number_140 rfl ?_
  refine A_goto (tgt := 145) dX11_number_141 rfl ?_
  refine A_iload dX11_number_145 3 rfl ?_
  refine A_callV (M' := MX11_must) [.int 1, .int (nI (a + 1))] [] 93 dX11_number_147 lk_RX11_99 oX11_must iX11_must rfl rfl ⟨lb rfl, lb rfl⟩ (lb rfl) ⟨lb rfl, lb rfl⟩ L93 rfl (c_must1 f (a + 1 + 1 + 1 + 1) 1 (nI (a + 1)) (by decide)) ?_
  rintro _ g0 ⟨rfl, hg0⟩
  rw [hg0]
  refine A_iload dX11_number_150 2 rfl ?_
  refine A_if_eq (tgt := 161) dX11_number_152 rfl (fun h152 => by exact absurd h152 (by decide)) (fun h152 => ?_)
  refine A_iload dX11_number_155 1 rfl ?_
  refine A_ineg dX11_number_157 ?_
  refine A_goto (tgt := 163) dX11_number_158 rfl ?_
  exact A_iret dX11_number_163 rfl (⟨rfl, rfl⟩)
theorem c_nSn1 (f : Mem) (tn : Nat) (c : Nat → Nat) (hT : RTp f tn c) (hc : tcW c tn) (a : Nat) (ha : a < 2 ^ 28) (h : c a = 32) (hs : ¬ c (a + 1) = 45) (h1 : ¬ isF (c (a + 1))) : C0 MX11_number [.ref 93, .int 2, .int 99, .int 1] (rd 93 10 11 f a (-1)) (fun r h => ∃ (x : Int32) (b : Nat), r = some (.int x) ∧ h = rd 93 10 11 f b (nI (a + 1))) := by
  refine Ct.of (lv := [(0, .ref 93), (1, .int 2), (2, .int 99), (3, .int 1)]) (by decide) (lb rfl) rfl ?_
  refine A_aload_n dX11_number_0 rfl 0 rfl ?_
  refine A_bipush (v := 32) dX11_number_1 rfl ?_
  refine A_callV (M' := MX11_takes) [.int 32] [] 93 dX11_number_3 lk_RX11_111 oX11_takes iX11_takes rfl rfl ⟨lb rfl, lb rfl⟩ (lb rfl) ⟨lb rfl, lb rfl⟩ L93 rfl (c_takes1 f tn c hT hc a (by omega) h) ?_
  rintro _ g0 ⟨rfl, hg0⟩
  rw [hg0]
  refine A_aload_n dX11_number_6 rfl 0 rfl ?_
  refine A_getI dX11_number_7 fo_RX11_89 L93 rfl ?_
  refine A_topi (nI (a + 1)) (rd_a f (a + 1) (-1) (by decide)) ?_
  refine A_istore (lv' := [(4, .int (nI (a + 1))), (0, .ref 93), (1, .int 2), (2, .int 99), (3, .int 1)]) dX11_number_10 (lb rfl) rfl ?_
  refine A_iload_n dX11_number_12 rfl 4 rfl ?_
  refine A_if_eq (tgt := 29) dX11_number_13 rfl (fun h13 => by exact absurd h13 (by decide)) (fun h13 => ?_)
  refine A_aload_n dX11_number_16 rfl 1 rfl ?_
  refine A_callV (M' := MX11_here) [] [] 93 dX11_number_17 lk_RX11_95 oX11_here iX11_here rfl rfl ⟨lb rfl, lb rfl⟩ (lb rfl) ⟨lb rfl, lb rfl⟩ L93 rfl (c_here f tn c hT hc (a + 1) (-1) (by omega)) ?_
  rintro _ g0 ⟨rfl, hg0⟩
  rw [hg0]
  refine A_bipush (v := 45) dX11_number_20 rfl ?_
  refine A_icmp_ne (tgt := 29) dX11_number_22 rfl (fun h22 => ?_) (fun h22 => by exact absurd ((hV_45 _ (by have := hc.2.2.2 (a + 1); omega)).mp h22) hs)
  refine A_iconst (v := 0) dX11_number_29 rfl ?_
  refine A_istore (lv' := [(5, .int 0), (4, .int (nI (a + 1))), (0, .ref 93), (1, .int 2), (2, .int 99), (3, .int 1)]) dX11_number_30 (lb rfl) rfl ?_
  refine A_aload_n dX11_number_32 rfl 2 rfl ?_
  refine A_dup dX11_number_33 rfl ?_
  refine A_getI dX11_number_34 fo_RX11_89 L93 rfl ?_
  refine A_topi (nI (a + 1)) (rd_a f (a + 1) (-1) (by decide)) ?_
  refine A_iload dX11_number_37 0 rfl ?_
  refine A_if_eq (tgt := 46) dX11_number_39 rfl (fun h39 => ?_) (fun h39 => by exact absurd rfl h39)
  refine A_iconst (v := 0) dX11_number_46 rfl ?_
  refine A_iadd dX11_number_47 ?_
  refine A_putI dX11_number_48 fo_RX11_89 L93 rfl ?_
  refine A_eq rfl rfl (f' := rd 93 10 11 f (a + 1) (-1)) (rd_ua f (a + 1) (a + 1) (-1) (by decide) (by simp only [lit, nI_add, pk_mul, Nat.add_zero])) ?_
  refine A_aload_n dX11_number_51 rfl 2 rfl ?_
  refine A_aload_n dX11_number_52 rfl 2 rfl ?_
  refine A_callV (M' := MX11_here) [] [.ref 93] 93 dX11_number_53 lk_RX11_95 oX11_here iX11_here rfl rfl ⟨lb rfl, lb rfl⟩ (lb rfl) ⟨lb rfl, lb rfl⟩ L93 rfl (c_here f tn c hT hc (a + 1) (-1) (by omega)) ?_
  rintro _ g0 ⟨rfl, hg0⟩
  rw [hg0]
  refine A_i2l dX11_number_56 ?_
  refine A_ldc2 dX11_number_57 k_RX11_115 ?_
  refine A_ldc2 dX11_number_60 k_RX11_117 ?_
  refine A_callS (M' := MX11_in) [.long ((hV (c (a + 1))).toInt64), .long 48, .long 57] [.ref 93] dX11_number_63 lk_RX11_64 oX11_in sX11_in rfl rfl ⟨lb rfl, lb rfl⟩ (lb rfl) ⟨lb rfl, lb rfl⟩ (c_in _ _ _ _) ?_
  rintro _ g0 ⟨rfl, hg0⟩
  rw [hg0]
  refine A_topi (bz (isF (c (a + 1)))) (bz_c (hV_F _ (by have := hc.2.2.2 (a + 1); omega))) ?_
  refine A_aload_n dX11_number_66 rfl 2 rfl ?_
  refine A_getI dX11_number_67 fo_RX11_89 L93 rfl ?_
  refine A_topi (nI (a + 1)) (rd_a f (a + 1) (-1) (by decide)) ?_
  refine A_callV (M' := MX11_must) [.int (bz (isF (c (a + 1)))), .int (nI (a + 1))] [] 93 dX11_number_70 lk_RX11_99 oX11_must iX11_must rfl rfl ⟨lb rfl, lb rfl⟩ (lb rfl) ⟨lb rfl, lb rfl⟩ L93 rfl (c_must2 f (a + 1) (bz (isF (c (a + 1)))) (nI (a + 1)) (bz_0.mpr h1)) ?_
  rintro _ g0 ⟨rfl, hg0⟩
  rw [hg0]
  refine A_iconst (v := 0) dX11_number_73 rfl ?_
  refine A_istore (lv' := [(6, .int 0), (5, .int 0), (4, .int (nI (a + 1))), (0, .ref 93), (1, .int 2), (2, .int 99), (3, .int 1)]) dX11_number_74 (lb rfl) rfl ?_
  refine A_iconst (v := 0) dX11_number_76 rfl ?_
  refine A_istore (lv' := [(7, .int 0), (6, .int 0), (5, .int 0), (4, .int (nI (a + 1))), (0, .ref 93), (1, .int 2), (2, .int 99), (3, .int 1)]) dX11_number_77 (lb rfl) rfl ?_
  refine A_iload dX11_number_79 0 rfl ?_
  refine A_iload_n dX11_number_81 rfl 5 rfl ?_
  refine A_icmp_ge (tgt := 133) dX11_number_82 rfl (fun h82 => by exact absurd h82 (by decide)) (fun h82 => ?_)
  refine A_aload_n dX11_number_85 rfl 4 rfl ?_
  refine A_callV (M' := MX11_here) [] [] 93 dX11_number_86 lk_RX11_95 oX11_here iX11_here rfl rfl ⟨lb rfl, lb rfl⟩ (lb rfl) ⟨lb rfl, lb rfl⟩ L93 rfl (c_here f tn c hT hc (a + 1) (nI (a + 1)) (by omega)) ?_
  rintro _ g0 ⟨rfl, hg0⟩
  rw [hg0]
  refine A_i2l dX11_number_89 ?_
  refine A_ldc2 dX11_number_90 k_RX11_115 ?_
  refine A_ldc2 dX11_number_93 k_RX11_117 ?_
  refine A_callS (M' := MX11_in) [.long ((hV (c (a + 1))).toInt64), .long 48, .long 57] [] dX11_number_96 lk_RX11_64 oX11_in sX11_in rfl rfl ⟨lb rfl, lb rfl⟩ (lb rfl) ⟨lb rfl, lb rfl⟩ (c_in _ _ _ _) ?_
  rintro _ g0 ⟨rfl, hg0⟩
  rw [hg0]
  refine A_topi (bz (isF (c (a + 1)))) (bz_c (hV_F _ (by have := hc.2.2.2 (a + 1); omega))) ?_
  refine A_if_eq (tgt := 133) dX11_number_99 rfl (fun h99 => ?_) (fun h99 => by exact absurd (bz_n0.mp h99) h1)
  refine A_aload_n dX11_number_133 rfl 4 rfl ?_
  refine A_iload dX11_number_134 1 rfl ?_
  refine A_iload_n dX11_number_136 rfl 6 rfl ?_
  refine A_icmp_gt (tgt := 144) dX11_number_137 rfl (fun h137 => by exact absurd h137 (by decide)) (fun h137 => ?_)
  refine A_iconst (v := 1) dX11_number_140 rfl ?_
  refine A_goto (tgt := 145) dX11_number_141 rfl ?_
  refine A_iload dX11_number_145 3 rfl ?_
  refine A_callV (M' := MX11_must) [.int 1, .int (nI (a + 1))] [] 93 dX11_number_147 lk_RX11_99 oX11_must iX11_must rfl rfl ⟨lb rfl, lb rfl⟩ (lb rfl) ⟨lb rfl, lb rfl⟩ L93 rfl (c_must0 f (a + 1) (nI (a + 1)) 1 (nI (a + 1)) (nI_ge0 (by omega))) ?_
  rintro _ g0 ⟨rfl, hg0⟩
  rw [hg0]
  refine A_iload dX11_number_150 2 rfl ?_
  refine A_if_eq (tgt := 161) dX11_number_152 rfl (fun h152 => ?_) (fun h152 => by exact absurd rfl h152)
  refine A_iload dX11_number_161 1 rfl ?_
  exact A_iret dX11_number_163 rfl (⟨_, _, rfl, rfl⟩)
theorem c_nSn2 (f : Mem) (tn : Nat) (c : Nat → Nat) (hT : RTp f tn c) (hc : tcW c tn) (a : Nat) (ha : a < 2 ^ 28) (h : c a = 32) (hs : ¬ c (a + 1) = 45) (h1 : isF (c (a + 1))) (h2 : ¬ isF (c (a + 1 + 1))) : C0 MX11_number [.ref 93, .int 2, .int 99, .int 1] (rd 93 10 11 f a (-1)) (rt (some (.int (nI (c (a + 1) - 48)))) (rd 93 10 11 f (a + 1 + 1) (-1))) := by
  refine Ct.of (lv := [(0, .ref 93), (1, .int 2), (2, .int 99), (3, .int 1)]) (by decide) (lb rfl) rfl ?_
  refine A_aload_n dX11_number_0 rfl 0 rfl ?_
  refine A_bipush (v := 32) dX11_number_1 rfl ?_
  refine A_callV (M' := MX11_takes) [.int 32] [] 93 dX11_number_3 lk_RX11_111 oX11_takes iX11_takes rfl rfl ⟨lb rfl, lb rfl⟩ (lb rfl) ⟨lb rfl, lb rfl⟩ L93 rfl (c_takes1 f tn c hT hc a (by omega) h) ?_
  rintro _ g0 ⟨rfl, hg0⟩
  rw [hg0]
  refine A_aload_n dX11_number_6 rfl 0 rfl ?_
  refine A_getI dX11_number_7 fo_RX11_89 L93 rfl ?_
  refine A_topi (nI (a + 1)) (rd_a f (a + 1) (-1) (by decide)) ?_
  refine A_istore (lv' := [(4, .int (nI (a + 1))), (0, .ref 93), (1, .int 2), (2, .int 99), (3, .int 1)]) dX11_number_10 (lb rfl) rfl ?_
  refine A_iload_n dX11_number_12 rfl 4 rfl ?_
  refine A_if_eq (tgt := 29) dX11_number_13 rfl (fun h13 => by exact absurd h13 (by decide)) (fun h13 => ?_)
  refine A_aload_n dX11_number_16 rfl 1 rfl ?_
  refine A_callV (M' := MX11_here) [] [] 93 dX11_number_17 lk_RX11_95 oX11_here iX11_here rfl rfl ⟨lb rfl, lb rfl⟩ (lb rfl) ⟨lb rfl, lb rfl⟩ L93 rfl (c_here f tn c hT hc (a + 1) (-1) (by omega)) ?_
  rintro _ g0 ⟨rfl, hg0⟩
  rw [hg0]
  refine A_bipush (v := 45) dX11_number_20 rfl ?_
  refine A_icmp_ne (tgt := 29) dX11_number_22 rfl (fun h22 => ?_) (fun h22 => by exact absurd ((hV_45 _ (by have := hc.2.2.2 (a + 1); omega)).mp h22) hs)
  refine A_iconst (v := 0) dX11_number_29 rfl ?_
  refine A_istore (lv' := [(5, .int 0), (4, .int (nI (a + 1))), (0, .ref 93), (1, .int 2), (2, .int 99), (3, .int 1)]) dX11_number_30 (lb rfl) rfl ?_
  refine A_aload_n dX11_number_32 rfl 2 rfl ?_
  refine A_dup dX11_number_33 rfl ?_
  refine A_getI dX11_number_34 fo_RX11_89 L93 rfl ?_
  refine A_topi (nI (a + 1)) (rd_a f (a + 1) (-1) (by decide)) ?_
  refine A_iload dX11_number_37 0 rfl ?_
  refine A_if_eq (tgt := 46) dX11_number_39 rfl (fun h39 => ?_) (fun h39 => by exact absurd rfl h39)
  refine A_iconst (v := 0) dX11_number_46 rfl ?_
  refine A_iadd dX11_number_47 ?_
  refine A_putI dX11_number_48 fo_RX11_89 L93 rfl ?_
  refine A_eq rfl rfl (f' := rd 93 10 11 f (a + 1) (-1)) (rd_ua f (a + 1) (a + 1) (-1) (by decide) (by simp only [lit, nI_add, pk_mul, Nat.add_zero])) ?_
  refine A_aload_n dX11_number_51 rfl 2 rfl ?_
  refine A_aload_n dX11_number_52 rfl 2 rfl ?_
  refine A_callV (M' := MX11_here) [] [.ref 93] 93 dX11_number_53 lk_RX11_95 oX11_here iX11_here rfl rfl ⟨lb rfl, lb rfl⟩ (lb rfl) ⟨lb rfl, lb rfl⟩ L93 rfl (c_here f tn c hT hc (a + 1) (-1) (by omega)) ?_
  rintro _ g0 ⟨rfl, hg0⟩
  rw [hg0]
  refine A_i2l dX11_number_56 ?_
  refine A_ldc2 dX11_number_57 k_RX11_115 ?_
  refine A_ldc2 dX11_number_60 k_RX11_117 ?_
  refine A_callS (M' := MX11_in) [.long ((hV (c (a + 1))).toInt64), .long 48, .long 57] [.ref 93] dX11_number_63 lk_RX11_64 oX11_in sX11_in rfl rfl ⟨lb rfl, lb rfl⟩ (lb rfl) ⟨lb rfl, lb rfl⟩ (c_in _ _ _ _) ?_
  rintro _ g0 ⟨rfl, hg0⟩
  rw [hg0]
  refine A_topi (bz (isF (c (a + 1)))) (bz_c (hV_F _ (by have := hc.2.2.2 (a + 1); omega))) ?_
  refine A_aload_n dX11_number_66 rfl 2 rfl ?_
  refine A_getI dX11_number_67 fo_RX11_89 L93 rfl ?_
  refine A_topi (nI (a + 1)) (rd_a f (a + 1) (-1) (by decide)) ?_
  refine A_callV (M' := MX11_must) [.int (bz (isF (c (a + 1)))), .int (nI (a + 1))] [] 93 dX11_number_70 lk_RX11_99 oX11_must iX11_must rfl rfl ⟨lb rfl, lb rfl⟩ (lb rfl) ⟨lb rfl, lb rfl⟩ L93 rfl (c_must1 f (a + 1) (bz (isF (c (a + 1)))) (nI (a + 1)) (bz_n0.mpr h1)) ?_
  rintro _ g0 ⟨rfl, hg0⟩
  rw [hg0]
  refine A_iconst (v := 0) dX11_number_73 rfl ?_
  refine A_istore (lv' := [(6, .int 0), (5, .int 0), (4, .int (nI (a + 1))), (0, .ref 93), (1, .int 2), (2, .int 99), (3, .int 1)]) dX11_number_74 (lb rfl) rfl ?_
  refine A_iconst (v := 0) dX11_number_76 rfl ?_
  refine A_istore (lv' := [(7, .int 0), (6, .int 0), (5, .int 0), (4, .int (nI (a + 1))), (0, .ref 93), (1, .int 2), (2, .int 99), (3, .int 1)]) dX11_number_77 (lb rfl) rfl ?_
  refine A_iload dX11_number_79 0 rfl ?_
  refine A_iload_n dX11_number_81 rfl 5 rfl ?_
  refine A_icmp_ge (tgt := 133) dX11_number_82 rfl (fun h82 => by exact absurd h82 (by decide)) (fun h82 => ?_)
  refine A_aload_n dX11_number_85 rfl 4 rfl ?_
  refine A_callV (M' := MX11_here) [] [] 93 dX11_number_86 lk_RX11_95 oX11_here iX11_here rfl rfl ⟨lb rfl, lb rfl⟩ (lb rfl) ⟨lb rfl, lb rfl⟩ L93 rfl (c_here f tn c hT hc (a + 1) (-1) (by omega)) ?_
  rintro _ g0 ⟨rfl, hg0⟩
  rw [hg0]
  refine A_i2l dX11_number_89 ?_
  refine A_ldc2 dX11_number_90 k_RX11_115 ?_
  refine A_ldc2 dX11_number_93 k_RX11_117 ?_
  refine A_callS (M' := MX11_in) [.long ((hV (c (a + 1))).toInt64), .long 48, .long 57] [] dX11_number_96 lk_RX11_64 oX11_in sX11_in rfl rfl ⟨lb rfl, lb rfl⟩ (lb rfl) ⟨lb rfl, lb rfl⟩ (c_in _ _ _ _) ?_
  rintro _ g0 ⟨rfl, hg0⟩
  rw [hg0]
  refine A_topi (bz (isF (c (a + 1)))) (bz_c (hV_F _ (by have := hc.2.2.2 (a + 1); omega))) ?_
  refine A_if_eq (tgt := 133) dX11_number_99 rfl (fun h99 => by exact absurd h1 (bz_0.mp h99)) (fun h99 => ?_)
  refine A_bipush (v := 10) dX11_number_102 rfl ?_
  refine A_iload dX11_number_104 1 rfl ?_
  refine A_imul dX11_number_106 ?_
  refine A_topi (0) (by decide) ?_
  refine A_aload_n dX11_number_107 rfl 4 rfl ?_
  refine A_callV (M' := MX11_here) [] [.int 0] 93 dX11_number_108 lk_RX11_95 oX11_here iX11_here rfl rfl ⟨lb rfl, lb rfl⟩ (lb rfl) ⟨lb rfl, lb rfl⟩ L93 rfl (c_here f tn c hT hc (a + 1) (-1) (by omega)) ?_
  rintro _ g0 ⟨rfl, hg0⟩
  rw [hg0]
  refine A_topi (nI (c (a + 1))) (hV_n h1) ?_
  refine A_iadd dX11_number_111 ?_
  refine A_bipush (v := 48) dX11_number_112 rfl ?_
  refine A_isub dX11_number_114 ?_
  refine A_topi (nI (c (a + 1) - 48)) (fig1 _ (by omega) (by omega)) ?_
  refine A_istore (lv' := [(6, .int (nI (c (a + 1) - 48))), (7, .int 0), (5, .int 0), (4, .int (nI (a + 1))), (0, .ref 93), (1, .int 2), (2, .int 99), (3, .int 1)]) dX11_number_115 (lb rfl) rfl ?_
  refine A_aload_n dX11_number_117 rfl 4 rfl ?_
  refine A_dup dX11_number_118 rfl ?_
  refine A_getI dX11_number_119 fo_RX11_89 L93 rfl ?_
  refine A_topi (nI (a + 1)) (rd_a f (a + 1) (-1) (by decide)) ?_
  refine A_iconst (v := 1) dX11_number_122 rfl ?_
  refine A_iadd dX11_number_123 ?_
  refine A_putI dX11_number_124 fo_RX11_89 L93 rfl ?_
  refine A_eq rfl rfl (f' := rd 93 10 11 f (a + 1 + 1) (-1)) (rd_ua f (a + 1) (a + 1 + 1) (-1) (by decide) (by simp only [lit, nI_add, pk_mul, Nat.add_zero])) ?_
  refine A_iinc (lv' := [(7, .int 1), (6, .int (nI (c (a + 1) - 48))), (5, .int 0), (4, .int (nI (a + 1))), (0, .ref 93), (1, .int 2), (2, .int 99), (3, .int 1)]) dX11_number_127 1 rfl rfl (lb rfl) rfl ?_
  refine A_goto (tgt := 79) dX11_number_130 rfl ?_
  refine A_iload dX11_number_79 0 rfl ?_
  refine A_iload_n dX11_number_81 rfl 5 rfl ?_
  refine A_icmp_ge (tgt := 133) dX11_number_82 rfl (fun h82 => by exact absurd h82 (by decide)) (fun h82 => ?_)
  refine A_aload_n dX11_number_85 rfl 4 rfl ?_
  refine A_callV (M' := MX11_here) [] [] 93 dX11_number_86 lk_RX11_95 oX11_here iX11_here rfl rfl ⟨lb rfl, lb rfl⟩ (lb rfl) ⟨lb rfl, lb rfl⟩ L93 rfl (c_here f tn c hT hc (a + 1 + 1) (-1) (by omega)) ?_
  rintro _ g0 ⟨rfl, hg0⟩
  rw [hg0]
  refine A_i2l dX11_number_89 ?_
  refine A_ldc2 dX11_number_90 k_RX11_115 ?_
  refine A_ldc2 dX11_number_93 k_RX11_117 ?_
  refine A_callS (M' := MX11_in) [.long ((hV (c (a + 1 + 1))).toInt64), .long 48, .long 57] [] dX11_number_96 lk_RX11_64 oX11_in sX11_in rfl rfl ⟨lb rfl, lb rfl⟩ (lb rfl) ⟨lb rfl, lb rfl⟩ (c_in _ _ _ _) ?_
  rintro _ g0 ⟨rfl, hg0⟩
  rw [hg0]
  refine A_topi (bz (isF (c (a + 1 + 1)))) (bz_c (hV_F _ (by have := hc.2.2.2 (a + 1 + 1); omega))) ?_
  refine A_if_eq (tgt := 133) dX11_number_99 rfl (fun h99 => ?_) (fun h99 => by exact absurd (bz_n0.mp h99) h2)
  refine A_aload_n dX11_number_133 rfl 4 rfl ?_
  refine A_iload dX11_number_134 1 rfl ?_
  refine A_iload_n dX11_number_136 rfl 6 rfl ?_
  refine A_icmp_gt (tgt := 144) dX11_number_137 rfl (fun h137 => by exact absurd h137 (fun t => by rw [show (99 : Int32) = nI 99 from rfl, nI_ltI (by omega) (by omega)] at t; omega)) (fun h137 => ?_)
  refine A_iconst (v := 1) dX11_number_140 rfl ?_
  refine A_goto (tgt := 145) dX11_number_141 rfl ?_
  refine A_iload dX11_number_145 3 rfl ?_
  refine A_callV (M' := MX11_must) [.int 1, .int (nI (a + 1))] [] 93 dX11_number_147 lk_RX11_99 oX11_must iX11_must rfl rfl ⟨lb rfl, lb rfl⟩ (lb rfl) ⟨lb rfl, lb rfl⟩ L93 rfl (c_must1 f (a + 1 + 1) 1 (nI (a + 1)) (by decide)) ?_
  rintro _ g0 ⟨rfl, hg0⟩
  rw [hg0]
  refine A_iload dX11_number_150 2 rfl ?_
  refine A_if_eq (tgt := 161) dX11_number_152 rfl (fun h152 => ?_) (fun h152 => by exact absurd rfl h152)
  refine A_iload dX11_number_161 1 rfl ?_
  exact A_iret dX11_number_163 rfl (⟨rfl, rfl⟩)
theorem c_nSn4 (f : Mem) (tn : Nat) (c : Nat → Nat) (hT : RTp f tn c) (hc : tcW c tn) (a : Nat) (ha : a < 2 ^ 28) (h : c a = 32) (hs : ¬ c (a + 1) = 45) (h1 : isF (c (a + 1))) (h2 : isF (c (a + 1 + 1))) : C0 MX11_number [.ref 93, .int 2, .int 99, .int 1] (rd 93 10 11 f a (-1)) (rt (some (.int (nI (10 * (c (a + 1) - 48) + (c (a + 1 + 1) - 48))))) (rd 93 10 11 f (a + 1 + 1 + 1) (-1))) := by
  refine Ct.of (lv := [(0, .ref 93), (1, .int 2), (2, .int 99), (3, .int 1)]) (by decide) (lb rfl) rfl ?_
  refine A_aload_n dX11_number_0 rfl 0 rfl ?_
  refine A_bipush (v := 32) dX11_number_1 rfl ?_
  refine A_callV (M' := MX11_takes) [.int 32] [] 93 dX11_number_3 lk_RX11_111 oX11_takes iX11_takes rfl rfl ⟨lb rfl, lb rfl⟩ (lb rfl) ⟨lb rfl, lb rfl⟩ L93 rfl (c_takes1 f tn c hT hc a (by omega) h) ?_
  rintro _ g0 ⟨rfl, hg0⟩
  rw [hg0]
  refine A_aload_n dX11_number_6 rfl 0 rfl ?_
  refine A_getI dX11_number_7 fo_RX11_89 L93 rfl ?_
  refine A_topi (nI (a + 1)) (rd_a f (a + 1) (-1) (by decide)) ?_
  refine A_istore (lv' := [(4, .int (nI (a + 1))), (0, .ref 93), (1, .int 2), (2, .int 99), (3, .int 1)]) dX11_number_10 (lb rfl) rfl ?_
  refine A_iload_n dX11_number_12 rfl 4 rfl ?_
  refine A_if_eq (tgt := 29) dX11_number_13 rfl (fun h13 => by exact absurd h13 (by decide)) (fun h13 => ?_)
  refine A_aload_n dX11_number_16 rfl 1 rfl ?_
  refine A_callV (M' := MX11_here) [] [] 93 dX11_number_17 lk_RX11_95 oX11_here iX11_here rfl rfl ⟨lb rfl, lb rfl⟩ (lb rfl) ⟨lb rfl, lb rfl⟩ L93 rfl (c_here f tn c hT hc (a + 1) (-1) (by omega)) ?_
  rintro _ g0 ⟨rfl, hg0⟩
  rw [hg0]
  refine A_bipush (v := 45) dX11_number_20 rfl ?_
  refine A_icmp_ne (tgt := 29) dX11_number_22 rfl (fun h22 => ?_) (fun h22 => by exact absurd ((hV_45 _ (by have := hc.2.2.2 (a + 1); omega)).mp h22) hs)
  refine A_iconst (v := 0) dX11_number_29 rfl ?_
  refine A_istore (lv' := [(5, .int 0), (4, .int (nI (a + 1))), (0, .ref 93), (1, .int 2), (2, .int 99), (3, .int 1)]) dX11_number_30 (lb rfl) rfl ?_
  refine A_aload_n dX11_number_32 rfl 2 rfl ?_
  refine A_dup dX11_number_33 rfl ?_
  refine A_getI dX11_number_34 fo_RX11_89 L93 rfl ?_
  refine A_topi (nI (a + 1)) (rd_a f (a + 1) (-1) (by decide)) ?_
  refine A_iload dX11_number_37 0 rfl ?_
  refine A_if_eq (tgt := 46) dX11_number_39 rfl (fun h39 => ?_) (fun h39 => by exact absurd rfl h39)
  refine A_iconst (v := 0) dX11_number_46 rfl ?_
  refine A_iadd dX11_number_47 ?_
  refine A_putI dX11_number_48 fo_RX11_89 L93 rfl ?_
  refine A_eq rfl rfl (f' := rd 93 10 11 f (a + 1) (-1)) (rd_ua f (a + 1) (a + 1) (-1) (by decide) (by simp only [lit, nI_add, pk_mul, Nat.add_zero])) ?_
  refine A_aload_n dX11_number_51 rfl 2 rfl ?_
  refine A_aload_n dX11_number_52 rfl 2 rfl ?_
  refine A_callV (M' := MX11_here) [] [.ref 93] 93 dX11_number_53 lk_RX11_95 oX11_here iX11_here rfl rfl ⟨lb rfl, lb rfl⟩ (lb rfl) ⟨lb rfl, lb rfl⟩ L93 rfl (c_here f tn c hT hc (a + 1) (-1) (by omega)) ?_
  rintro _ g0 ⟨rfl, hg0⟩
  rw [hg0]
  refine A_i2l dX11_number_56 ?_
  refine A_ldc2 dX11_number_57 k_RX11_115 ?_
  refine A_ldc2 dX11_number_60 k_RX11_117 ?_
  refine A_callS (M' := MX11_in) [.long ((hV (c (a + 1))).toInt64), .long 48, .long 57] [.ref 93] dX11_number_63 lk_RX11_64 oX11_in sX11_in rfl rfl ⟨lb rfl, lb rfl⟩ (lb rfl) ⟨lb rfl, lb rfl⟩ (c_in _ _ _ _) ?_
  rintro _ g0 ⟨rfl, hg0⟩
  rw [hg0]
  refine A_topi (bz (isF (c (a + 1)))) (bz_c (hV_F _ (by have := hc.2.2.2 (a + 1); omega))) ?_
  refine A_aload_n dX11_number_66 rfl 2 rfl ?_
  refine A_getI dX11_number_67 fo_RX11_89 L93 rfl ?_
  refine A_topi (nI (a + 1)) (rd_a f (a + 1) (-1) (by decide)) ?_
  refine A_callV (M' := MX11_must) [.int (bz (isF (c (a + 1)))), .int (nI (a + 1))] [] 93 dX11_number_70 lk_RX11_99 oX11_must iX11_must rfl rfl ⟨lb rfl, lb rfl⟩ (lb rfl) ⟨lb rfl, lb rfl⟩ L93 rfl (c_must1 f (a + 1) (bz (isF (c (a + 1)))) (nI (a + 1)) (bz_n0.mpr h1)) ?_
  rintro _ g0 ⟨rfl, hg0⟩
  rw [hg0]
  refine A_iconst (v := 0) dX11_number_73 rfl ?_
  refine A_istore (lv' := [(6, .int 0), (5, .int 0), (4, .int (nI (a + 1))), (0, .ref 93), (1, .int 2), (2, .int 99), (3, .int 1)]) dX11_number_74 (lb rfl) rfl ?_
  refine A_iconst (v := 0) dX11_number_76 rfl ?_
  refine A_istore (lv' := [(7, .int 0), (6, .int 0), (5, .int 0), (4, .int (nI (a + 1))), (0, .ref 93), (1, .int 2), (2, .int 99), (3, .int 1)]) dX11_number_77 (lb rfl) rfl ?_
  refine A_iload dX11_number_79 0 rfl ?_
  refine A_iload_n dX11_number_81 rfl 5 rfl ?_
  refine A_icmp_ge (tgt := 133) dX11_number_82 rfl (fun h82 => by exact absurd h82 (by decide)) (fun h82 => ?_)
  refine A_aload_n dX11_number_85 rfl 4 rfl ?_
  refine A_callV (M' := MX11_here) [] [] 93 dX11_number_86 lk_RX11_95 oX11_here iX11_here rfl rfl ⟨lb rfl, lb rfl⟩ (lb rfl) ⟨lb rfl, lb rfl⟩ L93 rfl (c_here f tn c hT hc (a + 1) (-1) (by omega)) ?_
  rintro _ g0 ⟨rfl, hg0⟩
  rw [hg0]
  refine A_i2l dX11_number_89 ?_
  refine A_ldc2 dX11_number_90 k_RX11_115 ?_
  refine A_ldc2 dX11_number_93 k_RX11_117 ?_
  refine A_callS (M' := MX11_in) [.long ((hV (c (a + 1))).toInt64), .long 48, .long 57] [] dX11_number_96 lk_RX11_64 oX11_in sX11_in rfl rfl ⟨lb rfl, lb rfl⟩ (lb rfl) ⟨lb rfl, lb rfl⟩ (c_in _ _ _ _) ?_
  rintro _ g0 ⟨rfl, hg0⟩
  rw [hg0]
  refine A_topi (bz (isF (c (a + 1)))) (bz_c (hV_F _ (by have := hc.2.2.2 (a + 1); omega))) ?_
  refine A_if_eq (tgt := 133) dX11_number_99 rfl (fun h99 => by exact absurd h1 (bz_0.mp h99)) (fun h99 => ?_)
  refine A_bipush (v := 10) dX11_number_102 rfl ?_
  refine A_iload dX11_number_104 1 rfl ?_
  refine A_imul dX11_number_106 ?_
  refine A_topi (0) (by decide) ?_
  refine A_aload_n dX11_number_107 rfl 4 rfl ?_
  refine A_callV (M' := MX11_here) [] [.int 0] 93 dX11_number_108 lk_RX11_95 oX11_here iX11_here rfl rfl ⟨lb rfl, lb rfl⟩ (lb rfl) ⟨lb rfl, lb rfl⟩ L93 rfl (c_here f tn c hT hc (a + 1) (-1) (by omega)) ?_
  rintro _ g0 ⟨rfl, hg0⟩
  rw [hg0]
  refine A_topi (nI (c (a + 1))) (hV_n h1) ?_
  refine A_iadd dX11_number_111 ?_
  refine A_bipush (v := 48) dX11_number_112 rfl ?_
  refine A_isub dX11_number_114 ?_
  refine A_topi (nI (c (a + 1) - 48)) (fig1 _ (by omega) (by omega)) ?_
  refine A_istore (lv' := [(6, .int (nI (c (a + 1) - 48))), (7, .int 0), (5, .int 0), (4, .int (nI (a + 1))), (0, .ref 93), (1, .int 2), (2, .int 99), (3, .int 1)]) dX11_number_115 (lb rfl) rfl ?_
  refine A_aload_n dX11_number_117 rfl 4 rfl ?_
  refine A_dup dX11_number_118 rfl ?_
  refine A_getI dX11_number_119 fo_RX11_89 L93 rfl ?_
  refine A_topi (nI (a + 1)) (rd_a f (a + 1) (-1) (by decide)) ?_
  refine A_iconst (v := 1) dX11_number_122 rfl ?_
  refine A_iadd dX11_number_123 ?_
  refine A_putI dX11_number_124 fo_RX11_89 L93 rfl ?_
  refine A_eq rfl rfl (f' := rd 93 10 11 f (a + 1 + 1) (-1)) (rd_ua f (a + 1) (a + 1 + 1) (-1) (by decide) (by simp only [lit, nI_add, pk_mul, Nat.add_zero])) ?_
  refine A_iinc (lv' := [(7, .int 1), (6, .int (nI (c (a + 1) - 48))), (5, .int 0), (4, .int (nI (a + 1))), (0, .ref 93), (1, .int 2), (2, .int 99), (3, .int 1)]) dX11_number_127 1 rfl rfl (lb rfl) rfl ?_
  refine A_goto (tgt := 79) dX11_number_130 rfl ?_
  refine A_iload dX11_number_79 0 rfl ?_
  refine A_iload_n dX11_number_81 rfl 5 rfl ?_
  refine A_icmp_ge (tgt := 133) dX11_number_82 rfl (fun h82 => by exact absurd h82 (by decide)) (fun h82 => ?_)
  refine A_aload_n dX11_number_85 rfl 4 rfl ?_
  refine A_callV (M' := MX11_here) [] [] 93 dX11_number_86 lk_RX11_95 oX11_here iX11_here rfl rfl ⟨lb rfl, lb rfl⟩ (lb rfl) ⟨lb rfl, lb rfl⟩ L93 rfl (c_here f tn c hT hc (a + 1 + 1) (-1) (by omega)) ?_
  rintro _ g0 ⟨rfl, hg0⟩
  rw [hg0]
  refine A_i2l dX11_number_89 ?_
  refine A_ldc2 dX11_number_90 k_RX11_115 ?_
  refine A_ldc2 dX11_number_93 k_RX11_117 ?_
  refine A_callS (M' := MX11_in) [.long ((hV (c (a + 1 + 1))).toInt64), .long 48, .long 57] [] dX11_number_96 lk_RX11_64 oX11_in sX11_in rfl rfl ⟨lb rfl, lb rfl⟩ (lb rfl) ⟨lb rfl, lb rfl⟩ (c_in _ _ _ _) ?_
  rintro _ g0 ⟨rfl, hg0⟩
  rw [hg0]
  refine A_topi (bz (isF (c (a + 1 + 1)))) (bz_c (hV_F _ (by have := hc.2.2.2 (a + 1 + 1); omega))) ?_
  refine A_if_eq (tgt := 133) dX11_number_99 rfl (fun h99 => by exact absurd h2 (bz_0.mp h99)) (fun h99 => ?_)
  refine A_bipush (v := 10) dX11_number_102 rfl ?_
  refine A_iload dX11_number_104 1 rfl ?_
  refine A_imul dX11_number_106 ?_
  refine A_aload_n dX11_number_107 rfl 4 rfl ?_
  refine A_callV (M' := MX11_here) [] [.int (10 * (nI (c (a + 1) - 48)))] 93 dX11_number_108 lk_RX11_95 oX11_here iX11_here rfl rfl ⟨lb rfl, lb rfl⟩ (lb rfl) ⟨lb rfl, lb rfl⟩ L93 rfl (c_here f tn c hT hc (a + 1 + 1) (-1) (by omega)) ?_
  rintro _ g0 ⟨rfl, hg0⟩
  rw [hg0]
  refine A_topi (nI (c (a + 1 + 1))) (hV_n h2) ?_
  refine A_iadd dX11_number_111 ?_
  refine A_bipush (v := 48) dX11_number_112 rfl ?_
  refine A_isub dX11_number_114 ?_
  refine A_topi (nI (10 * (c (a + 1) - 48) + (c (a + 1 + 1) - 48))) (fig3 _ (by omega) (by omega) _ (by omega) (by omega)) ?_
  refine A_istore (lv' := [(6, .int (nI (10 * (c (a + 1) - 48) + (c (a + 1 + 1) - 48)))), (7, .int 1), (5, .int 0), (4, .int (nI (a + 1))), (0, .ref 93), (1, .int 2), (2, .int 99), (3, .int 1)]) dX11_number_115 (lb rfl) rfl ?_
  refine A_aload_n dX11_number_117 rfl 4 rfl ?_
  refine A_dup dX11_number_118 rfl ?_
  refine A_getI dX11_number_119 fo_RX11_89 L93 rfl ?_
  refine A_topi (nI (a + 1 + 1)) (rd_a f (a + 1 + 1) (-1) (by decide)) ?_
  refine A_iconst (v := 1) dX11_number_122 rfl ?_
  refine A_iadd dX11_number_123 ?_
  refine A_putI dX11_number_124 fo_RX11_89 L93 rfl ?_
  refine A_eq rfl rfl (f' := rd 93 10 11 f (a + 1 + 1 + 1) (-1)) (rd_ua f (a + 1 + 1) (a + 1 + 1 + 1) (-1) (by decide) (by simp only [lit, nI_add, pk_mul, Nat.add_zero])) ?_
  refine A_iinc (lv' := [(7, .int 2), (6, .int (nI (10 * (c (a + 1) - 48) + (c (a + 1 + 1) - 48)))), (5, .int 0), (4, .int (nI (a + 1))), (0, .ref 93), (1, .int 2), (2, .int 99), (3, .int 1)]) dX11_number_127 1 rfl rfl (lb rfl) rfl ?_
  refine A_goto (tgt := 79) dX11_number_130 rfl ?_
  refine A_iload dX11_number_79 0 rfl ?_
  refine A_iload_n dX11_number_81 rfl 5 rfl ?_
  refine A_icmp_ge (tgt := 133) dX11_number_82 rfl (fun h82 => ?_) (fun h82 => by exact absurd (by decide) h82)
  refine A_aload_n dX11_number_133 rfl 4 rfl ?_
  refine A_iload dX11_number_134 1 rfl ?_
  refine A_iload_n dX11_number_136 rfl 6 rfl ?_
  refine A_icmp_gt (tgt := 144) dX11_number_137 rfl (fun h137 => by exact absurd h137 (fun t => by rw [show (99 : Int32) = nI 99 from rfl, nI_ltI (by omega) (by omega)] at t; omega)) (fun h137 => ?_)
  refine A_iconst (v := 1) dX11_number_140 rfl ?_
  refine A_goto (tgt := 145) dX11_number_141 rfl ?_
  refine A_iload dX11_number_145 3 rfl ?_
  refine A_callV (M' := MX11_must) [.int 1, .int (nI (a + 1))] [] 93 dX11_number_147 lk_RX11_99 oX11_must iX11_must rfl rfl ⟨lb rfl, lb rfl⟩ (lb rfl) ⟨lb rfl, lb rfl⟩ L93 rfl (c_must1 f (a + 1 + 1 + 1) 1 (nI (a + 1)) (by decide)) ?_
  rintro _ g0 ⟨rfl, hg0⟩
  rw [hg0]
  refine A_iload dX11_number_150 2 rfl ?_
  refine A_if_eq (tgt := 161) dX11_number_152 rfl (fun h152 => ?_) (fun h152 => by exact absurd rfl h152)
  refine A_iload dX11_number_161 1 rfl ?_
  exact A_iret dX11_number_163 rfl (⟨rfl, rfl⟩)
theorem c_n3 (f : Mem) (tn : Nat) (c : Nat → Nat) (hT : RTp f tn c) (hc : tcW c tn) (a : Nat) (ha : a < 2 ^ 28) : C0 MX11_number [.ref 93, .int 1, .int 2, .int 0] (rd 93 10 11 f a (-1)) (oR 93 10 11 f (nu 1 2 c a)) := by
  unfold nu
  by_cases h : c a = 32
  · rw [if_pos h]
    unfold fg
    by_cases h1 : isF (c (a + 1))
    · rw [if_pos h1, if_neg (fun q => absurd q.1 (by decide))]
      dsimp only
      by_cases hv : c (a + 1) - 48 ≤ 2
      · rw [if_pos hv]; exact c_n32 f tn c hT hc a ha h h1 hv
      · rw [if_neg hv]; exact c_n33 f tn c hT hc a ha h h1 hv
    · rw [if_neg h1]; exact c_n31 f tn c hT hc a ha h h1
  · rw [if_neg h]; exact c_n30 f tn c hT hc a ha h
theorem c_n4 (f : Mem) (tn : Nat) (c : Nat → Nat) (hT : RTp f tn c) (hc : tcW c tn) (a : Nat) (ha : a < 2 ^ 28) : C0 MX11_number [.ref 93, .int 1, .int 3, .int 0] (rd 93 10 11 f a (-1)) (oR 93 10 11 f (nu 1 3 c a)) := by
  unfold nu
  by_cases h : c a = 32
  · rw [if_pos h]
    unfold fg
    by_cases h1 : isF (c (a + 1))
    · rw [if_pos h1, if_neg (fun q => absurd q.1 (by decide))]
      dsimp only
      by_cases hv : c (a + 1) - 48 ≤ 3
      · rw [if_pos hv]; exact c_n42 f tn c hT hc a ha h h1 hv
      · rw [if_neg hv]; exact c_n43 f tn c hT hc a ha h h1 hv
    · rw [if_neg h1]; exact c_n41 f tn c hT hc a ha h h1
  · rw [if_neg h]; exact c_n40 f tn c hT hc a ha h
theorem c_nt (f : Mem) (tn : Nat) (c : Nat → Nat) (hT : RTp f tn c) (hc : tcW c tn) (a : Nat) (ha : a < 2 ^ 28) : C0 MX11_number [.ref 93, .int 2, .int 12, .int 0] (rd 93 10 11 f a (-1)) (oR 93 10 11 f (nu 2 12 c a)) := by
  unfold nu
  by_cases h : c a = 32
  · rw [if_pos h]
    unfold fg
    by_cases h1 : isF (c (a + 1))
    · rw [if_pos h1]
      by_cases h2 : isF (c (a + 1 + 1))
      · rw [if_pos ⟨rfl, h2⟩]
        dsimp only
        by_cases hv : 10 * (c (a + 1) - 48) + (c (a + 1 + 1) - 48) ≤ 12
        · rw [if_pos hv]; exact c_nt4 f tn c hT hc a ha h h1 h2 hv
        · rw [if_neg hv]; exact c_nt5 f tn c hT hc a ha h h1 h2 hv
      · rw [if_neg (fun q => h2 q.2)]
        dsimp only
        rw [if_pos (by omega)]; exact c_nt2 f tn c hT hc a ha h h1 h2
    · rw [if_neg h1]; exact c_nt1 f tn c hT hc a ha h h1
  · rw [if_neg h]; exact c_nt0 f tn c hT hc a ha h
theorem c_nS (f : Mem) (tn : Nat) (c : Nat → Nat) (hT : RTp f tn c) (hc : tcW c tn) (a : Nat) (ha : a < 2 ^ 28) : C0 MX11_number [.ref 93, .int 2, .int 99, .int 1] (rd 93 10 11 f a (-1)) (oR 93 10 11 f (nuS c a)) := by
  unfold nuS
  by_cases h : c a = 32
  · rw [if_pos h]
    by_cases hs : c (a + 1) = 45
    · rw [if_pos hs]
      unfold fg
      by_cases h1 : isF (c (a + 2))
      · rw [if_pos h1]
        by_cases h2 : isF (c (a + 2 + 1))
        · rw [if_pos ⟨rfl, h2⟩]; exact c_nSy4 f tn c hT hc a ha h hs h1 h2
        · rw [if_neg (fun q => h2 q.2)]; exact c_nSy2 f tn c hT hc a ha h hs h1 h2
      · rw [if_neg h1]; exact c_nSy1 f tn c hT hc a ha h hs h1
    · rw [if_neg hs]
      unfold fg
      by_cases h1 : isF (c (a + 1))
      · rw [if_pos h1]
        by_cases h2 : isF (c (a + 1 + 1))
        · rw [if_pos ⟨rfl, h2⟩]; exact c_nSn4 f tn c hT hc a ha h hs h1 h2
        · rw [if_neg (fun q => h2 q.2)]; exact c_nSn2 f tn c hT hc a ha h hs h1 h2
      · rw [if_neg h1]; exact c_nSn1 f tn c hT hc a ha h hs h1
  · rw [if_neg h]; exact c_nS0 f tn c hT hc a ha h
