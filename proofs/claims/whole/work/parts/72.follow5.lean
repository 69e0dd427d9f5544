/-! follow: the steps -/
theorem x_follow4 (l i0 n : Nat) (p : Ro) (q : Kt) (f : Mem) (ln : Nat → Nat) (li : Nat → Ro) (hL : XL f ln li) (hw : wL ln) (hl : l < 4) (h0 : ¬ ln l = 0) (hb : i0 + n ≤ ln l - 1) (hX : XK f p q) (hW : WK p q) : C0 MX10_follow [.ref 0, .int (nI l), .int (nI i0), .int (nI n)] f (fun r h => r = some (.int (nI (runK p (chL (li l) i0) n 0 q).2)) ∧ XK h p (runK p (chL (li l) i0) n 0 q).1 ∧ frK f h q (runK p (chL (li l) i0) n 0 q).1) := by
  have h41 := hw l hl
  refine Ct.of (lv := [(0, .ref 0), (1, .int (nI l)), (2, .int (nI i0)), (3, .int (nI n))]) (by decide) (lb rfl) rfl ?_
  refine A_aload_n dX10_follow_0 rfl 0 rfl ?_
  refine A_getR (b := 86) dX10_follow_1 fo_RX10_59 L0 rfl ?_
  refine A_iload_n dX10_follow_4 rfl 1 rfl ?_
  refine A_callV (M' := MX2_refusalOf) [.int (nI l)] [] 86 dX10_follow_5 lk_RX10_153 oX2_refusalOf iX2_refusalOf rfl rfl ⟨lb rfl, lb rfl⟩ (lb rfl) ⟨lb rfl, lb rfl⟩ L86 rfl (x_refusalOf (nI l) f ln li hL hw) ?_
  rintro _ g0 ⟨rfl, hg0⟩
  rw [hg0]
  refine A_topi (0) (by rw [if_pos ((inR_nI (by omega)).mpr hl), nI_clamp (by omega), if_neg h0]) ?_
  refine A_istore (lv' := [(4, .int 0), (0, .ref 0), (1, .int (nI l)), (2, .int (nI i0)), (3, .int (nI n))]) dX10_follow_8 (lb rfl) rfl ?_
  refine A_iload dX10_follow_10 0 rfl ?_
  refine A_if_eq (tgt := 18) dX10_follow_12 rfl (fun h12 => ?_) (fun h12 => by exact absurd rfl h12)
  refine A_iload_n dX10_follow_18 rfl 3 rfl ?_
  refine A_if_lt (tgt := 41) dX10_follow_19 rfl (fun h19 => by exact absurd h19 (nI_nneg (by omega))) (fun h19 => ?_)
  refine A_iload_n dX10_follow_22 rfl 4 rfl ?_
  refine A_if_lt (tgt := 41) dX10_follow_23 rfl (fun h23 => by exact absurd h23 (nI_nneg (by omega))) (fun h23 => ?_)
  refine A_iload_n dX10_follow_26 rfl 4 rfl ?_
  refine A_aload_n dX10_follow_27 rfl 1 rfl ?_
  refine A_getR (b := 86) dX10_follow_28 fo_RX10_59 L0 rfl ?_
  refine A_getR (b := 87) dX10_follow_31 fo_RX10_156 L86 rfl ?_
  refine A_iload_n dX10_follow_34 rfl 2 rfl ?_
  refine A_iaload l dX10_follow_35 L87 (rfl) (by omega) (lb rfl) ?_
  refine A_topi (nI (ln l - 1)) ((hL.1 l hl).trans (if_neg h0)) ?_
  refine A_iload_n dX10_follow_36 rfl 3 rfl ?_
  refine A_isub dX10_follow_37 ?_
  refine A_icmp_le (tgt := 44) dX10_follow_38 rfl (fun h38 => ?_) (fun h38 => by exact absurd ((beyond_x (by omega) h19).mpr (by rw [nI_toInt (by omega), nI_toInt (by omega)]; omega)) h38)
  refine A_iconst (v := 0) dX10_follow_44 rfl ?_
  refine A_istore (lv' := [(5, .int 0), (4, .int 0), (0, .ref 0), (1, .int (nI l)), (2, .int (nI i0)), (3, .int (nI n))]) dX10_follow_45 (lb rfl) rfl ?_
  refine A_sub [0, 2, 3, 4, 5] rfl ?_
  exact lx_follow f q (runK p (chL (li l) i0) n 0 q).1 p (runK p (chL (li l) i0) n 0 q).2 n l i0 ln li hL hl (by omega) n 0 f q (by omega) rfl (by omega) hX hW (.inl ⟨rfl, rfl⟩)
theorem c_follow4 (l i0 n : Nat) (p : Ro) (q : Kt) (f : Mem) (ln : Nat → Nat) (li : Nat → Ro) (hL : RLi f ln li) (hw : wL ln) (hl : l < 4) (h0 : ¬ ln l = 0) (hb : i0 + n ≤ ln l - 1) (hX : RK f p q) (hW : WK p q) : C0 MX11_follow [.ref 93, .int (nI l), .int (nI i0), .int (nI n)] f (fun r h => r = some (.int (nI (runK p (chL (li l) i0) n 0 q).2)) ∧ RK h p (runK p (chL (li l) i0) n 0 q).1 ∧ fT f h) := by
  have h41 := hw l hl
  refine Ct.of (lv := [(0, .ref 93), (1, .int (nI l)), (2, .int (nI i0)), (3, .int (nI n))]) (by decide) (lb rfl) rfl ?_
  refine A_iload_n dX11_follow_0 rfl 1 rfl ?_
  refine A_callS (M' := MX11_isList) [.int (nI l)] [] dX11_follow_1 lk_RX11_203 oX11_isList sX11_isList rfl rfl ⟨lb rfl, lb rfl⟩ (lb rfl) ⟨lb rfl, lb rfl⟩ (c_isList (nI l) _) ?_
  rintro _ g0 ⟨rfl, hg0⟩
  rw [hg0]
  refine A_if_ne (tgt := 9) dX11_follow_4 rfl (fun h4 => ?_) (fun h4 => by exact absurd ((inR_nI (by omega)).mpr hl) (bz_0.mp h4))
  refine A_aload_n dX11_follow_9 rfl 0 rfl ?_
  refine A_getR (b := 110) dX11_follow_10 fo_RX11_58 L93 rfl ?_
  refine A_iload_n dX11_follow_13 rfl 1 rfl ?_
  refine A_iaload l dX11_follow_14 L110 (rfl) (by omega) (lb rfl) ?_
  refine A_topi (nI (ln l - 1)) ((hL.1 l hl).trans (if_neg h0)) ?_
  refine A_if_ge (tgt := 21) dX11_follow_15 rfl (fun h15 => ?_) (fun h15 => by exact absurd (nI_ge0 (by omega)) h15)
  refine A_iload_n dX11_follow_21 rfl 3 rfl ?_
  refine A_if_lt (tgt := 41) dX11_follow_22 rfl (fun h22 => by exact absurd h22 (nI_nneg (by omega))) (fun h22 => ?_)
  refine A_iload_n dX11_follow_25 rfl 2 rfl ?_
  refine A_if_lt (tgt := 41) dX11_follow_26 rfl (fun h26 => by exact absurd h26 (nI_nneg (by omega))) (fun h26 => ?_)
  refine A_iload_n dX11_follow_29 rfl 2 rfl ?_
  refine A_aload_n dX11_follow_30 rfl 0 rfl ?_
  refine A_getR (b := 110) dX11_follow_31 fo_RX11_58 L93 rfl ?_
  refine A_iload_n dX11_follow_34 rfl 1 rfl ?_
  refine A_iaload l dX11_follow_35 L110 (rfl) (by omega) (lb rfl) ?_
  refine A_topi (nI (ln l - 1)) ((hL.1 l hl).trans (if_neg h0)) ?_
  refine A_iload_n dX11_follow_36 rfl 3 rfl ?_
  refine A_isub dX11_follow_37 ?_
  refine A_icmp_le (tgt := 44) dX11_follow_38 rfl (fun h38 => ?_) (fun h38 => by exact absurd ((beyond_x (by omega) h22).mpr (by rw [nI_toInt (by omega), nI_toInt (by omega)]; omega)) h38)
  refine A_iconst (v := 0) dX11_follow_44 rfl ?_
  refine A_istore (lv' := [(4, .int 0), (0, .ref 93), (1, .int (nI l)), (2, .int (nI i0)), (3, .int (nI n))]) dX11_follow_45 (lb rfl) rfl ?_
  refine A_sub [0, 1, 2, 3, 4] rfl ?_
  exact lc_follow f (runK p (chL (li l) i0) n 0 q).1 p (runK p (chL (li l) i0) n 0 q).2 n l i0 ln li hL hl (by omega) n 0 f q (by omega) rfl (by omega) hX hW (fT.rfl' f)
