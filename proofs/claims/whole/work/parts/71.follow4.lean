/-! follow: beyond -/
theorem sub_i {a : Nat} {x : Int32} (ha : a ≤ 40) (hx : 0 ≤ x.toInt) : (nI a - x).toInt = (a : Int) - x.toInt := by
  have h1 := x.toInt_lt
  rw [Int32.toInt_sub, nI_toInt (by omega)]
  exact Int.bmod_eq_of_le (by omega) (by omega)
theorem beyond_x {a : Nat} {i n : Int32} (ha : a ≤ 40) (hi : ¬ i < 0) : n ≤ nI a - i ↔ i.toInt + n.toInt ≤ (a : Int) := by
  rw [Int32.le_iff_toInt_le, sub_i ha (x_nn hi)]; omega
theorem x_follow3 (l : Nat) (y v : Int32) (f : Mem) (ln : Nat → Nat) (li : Nat → Ro) (hL : XL f ln li) (hw : wL ln) (hl : l < 4) (h0 : ¬ ln l = 0) (hb : ¬ (0 ≤ y.toInt ∧ 0 ≤ v.toInt ∧ y.toInt + v.toInt ≤ ((ln l - 1 : Nat) : Int))) : C0 MX10_follow [.ref 0, .int (nI l), .int y, .int v] f (rt (some (.int (-13))) f) := by
  refine Ct.of (lv := [(0, .ref 0), (1, .int (nI l)), (2, .int y), (3, .int v)]) (by decide) (lb rfl) rfl ?_
  refine A_aload_n dX10_follow_0 rfl 0 rfl ?_
  refine A_getR (b := 86) dX10_follow_1 fo_RX10_59 L0 rfl ?_
  refine A_iload_n dX10_follow_4 rfl 1 rfl ?_
  refine A_callV (M' := MX2_refusalOf) [.int (nI l)] [] 86 dX10_follow_5 lk_RX10_153 oX2_refusalOf iX2_refusalOf rfl rfl ⟨lb rfl, lb rfl⟩ (lb rfl) ⟨lb rfl, lb rfl⟩ L86 rfl (x_refusalOf (nI l) f ln li hL hw) ?_
  rintro _ g0 ⟨rfl, hg0⟩
  rw [hg0]
  refine A_topi (0) (by rw [if_pos ((inR_nI (by omega)).mpr hl), nI_clamp (by omega), if_neg h0]) ?_
  refine A_istore (lv' := [(4, .int 0), (0, .ref 0), (1, .int (nI l)), (2, .int y), (3, .int v)]) dX10_follow_8 (lb rfl) rfl ?_
  refine A_iload dX10_follow_10 0 rfl ?_
  refine A_if_eq (tgt := 18) dX10_follow_12 rfl (fun h12 => ?_) (fun h12 => by exact absurd rfl h12)
  refine A_iload_n dX10_follow_18 rfl 3 rfl ?_
  refine A_if_lt (tgt := 41) dX10_follow_19 rfl (fun h19 => ?_) (fun h19 => ?_)
  · refine A_bipush (v := -13) dX10_follow_41 rfl ?_
    exact A_iret dX10_follow_43 rfl (⟨rfl, rfl⟩)
  · refine A_iload_n dX10_follow_22 rfl 4 rfl ?_
    refine A_if_lt (tgt := 41) dX10_follow_23 rfl (fun h23 => ?_) (fun h23 => ?_)
    · refine A_bipush (v := -13) dX10_follow_41 rfl ?_
      exact A_iret dX10_follow_43 rfl (⟨rfl, rfl⟩)
    · refine A_iload_n dX10_follow_26 rfl 4 rfl ?_
      refine A_aload_n dX10_follow_27 rfl 1 rfl ?_
      refine A_getR (b := 86) dX10_follow_28 fo_RX10_59 L0 rfl ?_
      refine A_getR (b := 87) dX10_follow_31 fo_RX10_156 L86 rfl ?_
      refine A_iload_n dX10_follow_34 rfl 2 rfl ?_
      refine A_iaload l dX10_follow_35 L87 (rfl) (by omega) (lb rfl) ?_
      refine A_topi (nI (ln l - 1)) ((hL.1 l hl).trans (if_neg h0)) ?_
      refine A_iload_n dX10_follow_36 rfl 3 rfl ?_
      refine A_isub dX10_follow_37 ?_
      refine A_icmp_le (tgt := 44) dX10_follow_38 rfl (fun h38 => ?_) (fun h38 => ?_)
      · exact absurd ⟨x_nn h19, x_nn h23, (beyond_x (by have := hw l hl; omega) h19).mp h38⟩ hb
      · refine A_bipush (v := -13) dX10_follow_41 rfl ?_
        exact A_iret dX10_follow_43 rfl (⟨rfl, rfl⟩)
theorem c_follow3 (l : Nat) (y v : Int32) (f : Mem) (ln : Nat → Nat) (li : Nat → Ro) (hL : RLi f ln li) (hw : wL ln) (hl : l < 4) (h0 : ¬ ln l = 0) (hb : ¬ (0 ≤ y.toInt ∧ 0 ≤ v.toInt ∧ y.toInt + v.toInt ≤ ((ln l - 1 : Nat) : Int))) : C0 MX11_follow [.ref 93, .int (nI l), .int y, .int v] f (rt (some (.int (-13))) f) := by
  refine Ct.of (lv := [(0, .ref 93), (1, .int (nI l)), (2, .int y), (3, .int v)]) (by decide) (lb rfl) rfl ?_
  refine A_iload_n dX11_follow_0 rfl 1 rfl ?_
  refine A_callS (M' := MX11_isList) [.int (nI l)] [] dX11_follow_1 lk_RX11_203 oX11_isList sX11_isList rfl rfl ⟨lb rfl, lb rfl⟩ (lb rfl) ⟨lb rfl, lb rfl⟩ (c_isList (nI l) _) ?_
  rintro _ g0 ⟨rfl, hg0⟩
  rw [hg0]
  refine A_if_ne (tgt := 9) dX11_follow_4 rfl (fun h4 => ?_) (fun h4 => by exact absurd ((inR_nI (by omega)).mpr hl) (bz_0.mp h4))
  refine A_aload_n dX11_follow_9 rfl 0 rfl ?_
  refine A_getR (b := 110) dX11_follow_10 fo_RX11_58 L93 rfl ?_
  refine A_iload_n dX11_follow_13 rfl 1 rfl ?_
  refine A_iaload l dX11_follow_14 L110 (rfl) (by omega) (lb rfl) ?_
  refine A_topi (nI (ln l - 1)) ((hL.1 l hl).trans (if_neg h0)) ?_
  refine A_if_ge (tgt := 21) dX11_follow_15 rfl (fun h15 => ?_) (fun h15 => by exact absurd (nI_ge0 (by have := hw l hl; omega)) h15)
  refine A_iload_n dX11_follow_21 rfl 3 rfl ?_
  refine A_if_lt (tgt := 41) dX11_follow_22 rfl (fun h22 => ?_) (fun h22 => ?_)
  · refine A_bipush (v := -13) dX11_follow_41 rfl ?_
    exact A_iret dX11_follow_43 rfl (⟨rfl, rfl⟩)
  · refine A_iload_n dX11_follow_25 rfl 2 rfl ?_
    refine A_if_lt (tgt := 41) dX11_follow_26 rfl (fun h26 => ?_) (fun h26 => ?_)
    · refine A_bipush (v := -13) dX11_follow_41 rfl ?_
      exact A_iret dX11_follow_43 rfl (⟨rfl, rfl⟩)
    · refine A_iload_n dX11_follow_29 rfl 2 rfl ?_
      refine A_aload_n dX11_follow_30 rfl 0 rfl ?_
      refine A_getR (b := 110) dX11_follow_31 fo_RX11_58 L93 rfl ?_
      refine A_iload_n dX11_follow_34 rfl 1 rfl ?_
      refine A_iaload l dX11_follow_35 L110 (rfl) (by omega) (lb rfl) ?_
      refine A_topi (nI (ln l - 1)) ((hL.1 l hl).trans (if_neg h0)) ?_
      refine A_iload_n dX11_follow_36 rfl 3 rfl ?_
      refine A_isub dX11_follow_37 ?_
      refine A_icmp_le (tgt := 44) dX11_follow_38 rfl (fun h38 => ?_) (fun h38 => ?_)
      · exact absurd ⟨x_nn h26, x_nn h22, by have q := (beyond_x (by have := hw l hl; omega) h22).mp h38; omega⟩ hb
      · refine A_bipush (v := -13) dX11_follow_41 rfl ?_
        exact A_iret dX11_follow_43 rfl (⟨rfl, rfl⟩)
