/-! follow: refusals -/
theorem x_follow1 (x y v : Int32) (f : Mem) (ln : Nat → Nat) (li : Nat → Ro) (hL : XL f ln li) (hw : wL ln) (hx : ¬ inR x 4) : C0 MX10_follow [.ref 0, .int x, .int y, .int v] f (rt (some (.int (-1))) f) := by
  refine Ct.of (lv := [(0, .ref 0), (1, .int x), (2, .int y), (3, .int v)]) (by decide) (lb rfl) rfl ?_
  refine A_aload_n dX10_follow_0 rfl 0 rfl ?_
  refine A_getR (b := 86) dX10_follow_1 fo_RX10_59 L0 rfl ?_
  refine A_iload_n dX10_follow_4 rfl 1 rfl ?_
  refine A_callV (M' := MX2_refusalOf) [.int x] [] 86 dX10_follow_5 lk_RX10_153 oX2_refusalOf iX2_refusalOf rfl rfl ⟨lb rfl, lb rfl⟩ (lb rfl) ⟨lb rfl, lb rfl⟩ L86 rfl (x_refusalOf x f ln li hL hw) ?_
  rintro _ g0 ⟨rfl, hg0⟩
  rw [hg0]
  refine A_topi (-1) (if_neg hx) ?_
  refine A_istore (lv' := [(4, .int (-1)), (0, .ref 0), (1, .int x), (2, .int y), (3, .int v)]) dX10_follow_8 (lb rfl) rfl ?_
  refine A_iload dX10_follow_10 0 rfl ?_
  refine A_if_eq (tgt := 18) dX10_follow_12 rfl (fun h12 => by exact absurd h12 (by decide)) (fun h12 => ?_)
  refine A_iload dX10_follow_15 0 rfl ?_
  exact A_iret dX10_follow_17 rfl (⟨rfl, rfl⟩)
theorem x_follow2 (l : Nat) (y v : Int32) (f : Mem) (ln : Nat → Nat) (li : Nat → Ro) (hL : XL f ln li) (hw : wL ln) (hl : l < 4) (h0 : ln l = 0) : C0 MX10_follow [.ref 0, .int (nI l), .int y, .int v] f (rt (some (.int (-11))) f) := by
  refine Ct.of (lv := [(0, .ref 0), (1, .int (nI l)), (2, .int y), (3, .int v)]) (by decide) (lb rfl) rfl ?_
  refine A_aload_n dX10_follow_0 rfl 0 rfl ?_
  refine A_getR (b := 86) dX10_follow_1 fo_RX10_59 L0 rfl ?_
  refine A_iload_n dX10_follow_4 rfl 1 rfl ?_
  refine A_callV (M' := MX2_refusalOf) [.int (nI l)] [] 86 dX10_follow_5 lk_RX10_153 oX2_refusalOf iX2_refusalOf rfl rfl ⟨lb rfl, lb rfl⟩ (lb rfl) ⟨lb rfl, lb rfl⟩ L86 rfl (x_refusalOf (nI l) f ln li hL hw) ?_
  rintro _ g0 ⟨rfl, hg0⟩
  rw [hg0]
  refine A_topi (-11) (by rw [if_pos ((inR_nI (by omega)).mpr hl), nI_clamp (by omega), if_pos h0]) ?_
  refine A_istore (lv' := [(4, .int (-11)), (0, .ref 0), (1, .int (nI l)), (2, .int y), (3, .int v)]) dX10_follow_8 (lb rfl) rfl ?_
  refine A_iload dX10_follow_10 0 rfl ?_
  refine A_if_eq (tgt := 18) dX10_follow_12 rfl (fun h12 => by exact absurd h12 (by decide)) (fun h12 => ?_)
  refine A_iload dX10_follow_15 0 rfl ?_
  exact A_iret dX10_follow_17 rfl (⟨rfl, rfl⟩)
theorem c_follow1 (x y v : Int32) (f : Mem) (ln : Nat → Nat) (li : Nat → Ro) (hL : RLi f ln li) (hw : wL ln) (hx : ¬ inR x 4) : C0 MX11_follow [.ref 93, .int x, .int y, .int v] f (rt (some (.int (-1))) f) := by
  refine Ct.of (lv := [(0, .ref 93), (1, .int x), (2, .int y), (3, .int v)]) (by decide) (lb rfl) rfl ?_
  refine A_iload_n dX11_follow_0 rfl 1 rfl ?_
  refine A_callS (M' := MX11_isList) [.int x] [] dX11_follow_1 lk_RX11_203 oX11_isList sX11_isList rfl rfl ⟨lb rfl, lb rfl⟩ (lb rfl) ⟨lb rfl, lb rfl⟩ (c_isList x _) ?_
  rintro _ g0 ⟨rfl, hg0⟩
  rw [hg0]
  refine A_if_ne (tgt := 9) dX11_follow_4 rfl (fun h4 => by exact absurd (bz_n0.mp h4) hx) (fun h4 => ?_)
  refine A_iconst (v := -1) dX11_follow_7 rfl ?_
  exact A_iret dX11_follow_8 rfl (⟨rfl, rfl⟩)
theorem c_follow2 (l : Nat) (y v : Int32) (f : Mem) (ln : Nat → Nat) (li : Nat → Ro) (hL : RLi f ln li) (hw : wL ln) (hl : l < 4) (h0 : ln l = 0) : C0 MX11_follow [.ref 93, .int (nI l), .int y, .int v] f (rt (some (.int (-11))) f) := by
  refine Ct.of (lv := [(0, .ref 93), (1, .int (nI l)), (2, .int y), (3, .int v)]) (by decide) (lb rfl) rfl ?_
  refine A_iload_n dX11_follow_0 rfl 1 rfl ?_
  refine A_callS (M' := MX11_isList) [.int (nI l)] [] dX11_follow_1 lk_RX11_203 oX11_isList sX11_isList rfl rfl ⟨lb rfl, lb rfl⟩ (lb rfl) ⟨lb rfl, lb rfl⟩ (c_isList (nI l) _) ?_
  rintro _ g0 ⟨rfl, hg0⟩
  rw [hg0]
  refine A_if_ne (tgt := 9) dX11_follow_4 rfl (fun h4 => ?_) (fun h4 => by exact absurd ((inR_nI (by omega)).mpr hl) (bz_0.mp h4))
  refine A_aload_n dX11_follow_9 rfl 0 rfl ?_
  refine A_getR (b := 110) dX11_follow_10 fo_RX11_58 L93 rfl ?_
  refine A_iload_n dX11_follow_13 rfl 1 rfl ?_
  refine A_iaload l dX11_follow_14 L110 (rfl) (by omega) (lb rfl) ?_
  refine A_topi (if ln l = 0 then -1 else nI (ln l - 1)) (hL.1 l hl) ?_
  refine A_if_ge (tgt := 21) dX11_follow_15 rfl (fun h15 => by exact absurd ((ln_r (hw l hl)).mpr h0) (Int32.not_lt.mpr h15)) (fun h15 => ?_)
  refine A_bipush (v := -11) dX11_follow_18 rfl ?_
  exact A_iret dX11_follow_20 rfl (⟨rfl, rfl⟩)
