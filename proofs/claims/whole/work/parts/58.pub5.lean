/-! get, cause, condition: both sides -/
abbrev getV (ln : Nat → Nat) (li : Nat → Ro) (x y : Int32) : Int32 := if inR x 4 ∧ inR y (ln x.toNatClampNeg - 1) then li x.toNatClampNeg y.toNatClampNeg else -1000000
theorem x_get (x y : Int32) (f : Mem) (ln : Nat → Nat) (li : Nat → Ro) (hL : XL f ln li) (hw : wL ln) : C0 MX10_get [.ref 0, .int x, .int y] f (rt (some (.int (getV ln li x y))) f) := by
  refine Ct.of (lv := [(0, .ref 0), (1, .int x), (2, .int y)]) (by decide) (lb rfl) rfl ?_
  refine A_iload_n dX10_get_0 rfl 1 rfl ?_
  refine A_callS (M' := MX10_isList) [.int x] [] dX10_get_1 lk_RX10_271 oX10_isList sX10_isList rfl rfl ⟨lb rfl, lb rfl⟩ (lb rfl) ⟨lb rfl, lb rfl⟩ (x_isList x _) ?_
  rintro _ g0 ⟨rfl, hg0⟩
  rw [hg0]
  refine A_if_eq (tgt := 33) dX10_get_4 rfl (fun h4 => ?_) (fun h4 => ?_)
  · refine A_ldcw dX10_get_33 k_RX10_282 ?_
    exact A_iret dX10_get_36 rfl (rti (if_neg (by first | exact fun q => bz_0.mp h4 q.1 | (rw [nI_clamp (by omega)]; exact fun q => bz_0.mp h16 q.2))).symm rfl)
  · obtain ⟨l, hl, rfl⟩ := inR_of (by omega) (bz_n0.mp h4)
    refine A_aload_n dX10_get_7 rfl 0 rfl ?_
    refine A_getR (b := 86) dX10_get_8 fo_RX10_59 L0 rfl ?_
    refine A_iload_n dX10_get_11 rfl 1 rfl ?_
    refine A_iload_n dX10_get_12 rfl 2 rfl ?_
    refine A_callV (M' := MX2_hasPlace) [.int (nI l), .int y] [] 86 dX10_get_13 lk_RX10_278 oX2_hasPlace iX2_hasPlace rfl rfl ⟨lb rfl, lb rfl⟩ (lb rfl) ⟨lb rfl, lb rfl⟩ L86 rfl (x_hasPlace l y f ln li hL hw hl) ?_
    rintro _ g0 ⟨rfl, hg0⟩
    rw [hg0]
    refine A_if_eq (tgt := 33) dX10_get_16 rfl (fun h16 => ?_) (fun h16 => ?_)
    · refine A_ldcw dX10_get_33 k_RX10_282 ?_
      exact A_iret dX10_get_36 rfl (rti (if_neg (by first | exact fun q => bz_0.mp h4 q.1 | (rw [nI_clamp (by omega)]; exact fun q => bz_0.mp h16 q.2))).symm rfl)
    · obtain ⟨j, hj, rfl⟩ := inR_of (by have := hw l hl; omega) (bz_n0.mp h16)
      refine A_aload_n dX10_get_19 rfl 0 rfl ?_
      refine A_getR (b := 86) dX10_get_20 fo_RX10_59 L0 rfl ?_
      refine A_getR (b := 88) dX10_get_23 fo_RX10_159 L86 rfl ?_
      refine A_iload_n dX10_get_26 rfl 1 rfl ?_
      refine A_aaload3 (b := 89 + l) l dX10_get_27 L88 (rfl) (by omega) (lb rfl) ((lay89 l hl).2) ?_
      refine A_iload_n dX10_get_28 rfl 2 rfl ?_
      refine A_iaload j dX10_get_29 ((lay89 l hl).1) (rfl) (by have := hw l hl; omega) (lb rfl) ?_
      refine A_topi (li l j) (hL.2 l hl j (by have := hw l hl; omega)) ?_
      refine A_goto (tgt := 36) dX10_get_30 rfl ?_
      exact A_iret dX10_get_36 rfl (rti (by unfold getV; rw [if_pos ⟨(inR_nI (by omega)).mpr hl, by rw [nI_clamp (by omega)]; exact (inR_nI (by have := hw l hl; omega)).mpr hj⟩, nI_clamp (by omega), nI_clamp (by have := hw l hl; omega)]) rfl)
theorem c_get (x y : Int32) (f : Mem) (ln : Nat → Nat) (li : Nat → Ro) (hL : RLi f ln li) (hw : wL ln) : C0 MX11_get [.ref 93, .int x, .int y] f (rt (some (.int (getV ln li x y))) f) := by
  refine Ct.of (lv := [(0, .ref 93), (1, .int x), (2, .int y)]) (by decide) (lb rfl) rfl ?_
  refine A_iload_n dX11_get_0 rfl 1 rfl ?_
  refine A_callS (M' := MX11_isList) [.int x] [] dX11_get_1 lk_RX11_203 oX11_isList sX11_isList rfl rfl ⟨lb rfl, lb rfl⟩ (lb rfl) ⟨lb rfl, lb rfl⟩ (c_isList x _) ?_
  rintro _ g0 ⟨rfl, hg0⟩
  rw [hg0]
  refine A_if_eq (tgt := 39) dX11_get_4 rfl (fun h4 => ?_) (fun h4 => ?_)
  · refine A_ldcw dX11_get_39 k_RX11_288 ?_
    exact A_iret dX11_get_42 rfl (rti (if_neg (by first | exact fun q => bz_0.mp h4 q.1 | (rw [nI_clamp (by omega)]; exact fun q => bz_0.mp h22 q.2))).symm rfl)
  · obtain ⟨l, hl, rfl⟩ := inR_of (by omega) (bz_n0.mp h4)
    refine A_iload_n dX11_get_7 rfl 2 rfl ?_
    refine A_i2l dX11_get_8 ?_
    refine A_lconst (v := 0) dX11_get_9 rfl ?_
    refine A_aload_n dX11_get_10 rfl 0 rfl ?_
    refine A_getR (b := 110) dX11_get_11 fo_RX11_58 L93 rfl ?_
    refine A_iload_n dX11_get_14 rfl 1 rfl ?_
    refine A_iaload l dX11_get_15 L110 (rfl) (by omega) (lb rfl) ?_
    refine A_topi (if ln l = 0 then -1 else nI (ln l - 1)) (hL.1 l hl) ?_
    refine A_iconst (v := 1) dX11_get_16 rfl ?_
    refine A_isub dX11_get_17 ?_
    refine A_i2l dX11_get_18 ?_
    refine A_callS (M' := MX11_in) [.long y.toInt64, .long 0, .long (((if ln l = 0 then -1 else nI (ln l - 1)) - 1).toInt64)] [] dX11_get_19 lk_RX11_64 oX11_in sX11_in rfl rfl ⟨lb rfl, lb rfl⟩ (lb rfl) ⟨lb rfl, lb rfl⟩ (c_in _ _ _ _) ?_
    rintro _ g0 ⟨rfl, hg0⟩
    rw [hg0]
    refine A_topi (bz (inR y (ln l - 1))) (bz_c (in_pl (hw l hl))) ?_
    refine A_if_eq (tgt := 39) dX11_get_22 rfl (fun h22 => ?_) (fun h22 => ?_)
    · refine A_ldcw dX11_get_39 k_RX11_288 ?_
      exact A_iret dX11_get_42 rfl (rti (if_neg (by first | exact fun q => bz_0.mp h4 q.1 | (rw [nI_clamp (by omega)]; exact fun q => bz_0.mp h22 q.2))).symm rfl)
    · obtain ⟨j, hj, rfl⟩ := inR_of (by have := hw l hl; omega) (bz_n0.mp h22)
      refine A_aload_n dX11_get_25 rfl 0 rfl ?_
      refine A_getR (b := 111) dX11_get_26 fo_RX11_61 L93 rfl ?_
      refine A_bipush (v := 40) dX11_get_29 rfl ?_
      refine A_iload_n dX11_get_31 rfl 1 rfl ?_
      refine A_imul dX11_get_32 ?_
      refine A_iload_n dX11_get_33 rfl 2 rfl ?_
      refine A_iadd dX11_get_34 ?_
      refine A_iaload (40 * l + j) dX11_get_35 L111 (by simp only [lit, nI_add, pk_mul]) (by have := hw l hl; omega) (lb rfl) ?_
      refine A_topi (li l j) (hL.2 l hl j (by have := hw l hl; omega)) ?_
      refine A_goto (tgt := 42) dX11_get_36 rfl ?_
      exact A_iret dX11_get_42 rfl (rti (by unfold getV; rw [if_pos ⟨(inR_nI (by omega)).mpr hl, by rw [nI_clamp (by omega)]; exact (inR_nI (by have := hw l hl; omega)).mpr hj⟩, nI_clamp (by omega), nI_clamp (by have := hw l hl; omega)]) rfl)
abbrev cauV (tq : Nat) (qs qn : Ro) (x y : Int32) : Int32 := if x < 0 ∨ ¬ inR y 2 then -1 else if inR x tq then (if y = 0 then qs x.toNatClampNeg else qn x.toNatClampNeg) else -5
theorem in_2' (y : Int32) : (Int64.toInt 0 ≤ y.toInt64.toInt ∧ y.toInt64.toInt ≤ Int64.toInt 1) ↔ inR y 2 := by
  rw [Int32.toInt_toInt64, show Int64.toInt 0 = 0 by decide, show Int64.toInt 1 = 1 by decide]
  unfold inR
  omega
theorem in2_t {x : Int32} (a : ¬ x < 0) (b : x ≤ 1) : inR x 2 := by
  refine ⟨x_nn a, ?_⟩
  rw [Int32.le_iff_toInt_le] at b
  have e : (1 : Int32).toInt = 1 := by decide
  omega
theorem in2_f {x : Int32} (b : ¬ x ≤ 1) : ¬ inR x 2 := fun q => b (by
  rw [Int32.le_iff_toInt_le]
  have e : (1 : Int32).toInt = 1 := by decide
  have := q.2
  omega)
theorem x_cause (x y : Int32) (f : Mem) (tq : Nat) (qs qn : Ro) (hQ : XQ f tq qs qn) (h3 : tq ≤ 3) : C0 MX10_cause [.ref 0, .int x, .int y] f (rt (some (.int (cauV tq qs qn x y))) f) := by
  have hlk : (if inR x tq then (if y = 0 then f 49 x.toNatClampNeg else f 50 x.toNatClampNeg) else -5) = (if inR x tq then (if y = 0 then qs x.toNatClampNeg else qn x.toNatClampNeg) else -5) := by
    by_cases q : inR x tq
    · obtain ⟨j, hj, e⟩ := inR_of (by omega) q
      rw [if_pos q, if_pos q, e, nI_clamp (by omega), (hQ.2 j hj).1, (hQ.2 j hj).2]
    · rw [if_neg q, if_neg q]
  refine Ct.of (lv := [(0, .ref 0), (1, .int x), (2, .int y)]) (by decide) (lb rfl) rfl ?_
  refine A_iload_n dX10_cause_0 rfl 1 rfl ?_
  refine A_if_lt (tgt := 13) dX10_cause_1 rfl (fun h1 => ?_) (fun h1 => ?_)
  · refine A_iconst (v := -1) dX10_cause_13 rfl ?_
    refine A_goto (tgt := 26) dX10_cause_14 rfl ?_
    exact A_iret dX10_cause_26 rfl (rti (if_pos (by first | exact .inl h1 | exact .inr (x_ninL h5) | exact .inr (in2_f h10))).symm rfl)
  · refine A_iload_n dX10_cause_4 rfl 2 rfl ?_
    refine A_if_lt (tgt := 13) dX10_cause_5 rfl (fun h5 => ?_) (fun h5 => ?_)
    · refine A_iconst (v := -1) dX10_cause_13 rfl ?_
      refine A_goto (tgt := 26) dX10_cause_14 rfl ?_
      exact A_iret dX10_cause_26 rfl (rti (if_pos (by first | exact .inl h1 | exact .inr (x_ninL h5) | exact .inr (in2_f h10))).symm rfl)
    · refine A_iload_n dX10_cause_8 rfl 2 rfl ?_
      refine A_iconst (v := 1) dX10_cause_9 rfl ?_
      refine A_icmp_le (tgt := 17) dX10_cause_10 rfl (fun h10 => ?_) (fun h10 => ?_)
      · refine A_aload_n dX10_cause_17 rfl 0 rfl ?_
        refine A_getR (b := 48) dX10_cause_18 fo_RX10_38 L0 rfl ?_
        refine A_iload_n dX10_cause_21 rfl 1 rfl ?_
        refine A_iload_n dX10_cause_22 rfl 2 rfl ?_
        refine A_callV (M' := MX9_link) [.int x, .int y] [] 48 dX10_cause_23 lk_RX10_212 oX9_link iX9_link rfl rfl ⟨lb rfl, lb rfl⟩ (lb rfl) ⟨lb rfl, lb rfl⟩ L48 rfl (x_link f tq x y hQ.1 h3) ?_
        rintro _ g0 ⟨rfl, hg0⟩
        rw [hg0]
        refine A_topi (if inR x tq then (if y = 0 then qs x.toNatClampNeg else qn x.toNatClampNeg) else -5) (hlk) ?_
        exact A_iret dX10_cause_26 rfl (rti (if_neg (fun q => q.elim h1 (fun z => z (in2_t h5 h10)))).symm rfl)
      · refine A_iconst (v := -1) dX10_cause_13 rfl ?_
        refine A_goto (tgt := 26) dX10_cause_14 rfl ?_
        exact A_iret dX10_cause_26 rfl (rti (if_pos (by first | exact .inl h1 | exact .inr (x_ninL h5) | exact .inr (in2_f h10))).symm rfl)
theorem c_cause (x y : Int32) (f : Mem) (tq : Nat) (qs qn : Ro) (hQ : RQ f tq qs qn) (h3 : tq ≤ 3) : C0 MX11_cause [.ref 93, .int x, .int y] f (rt (some (.int (cauV tq qs qn x y))) f) := by
  refine Ct.of (lv := [(0, .ref 93), (1, .int x), (2, .int y)]) (by decide) (lb rfl) rfl ?_
  refine A_iload_n dX11_cause_0 rfl 1 rfl ?_
  refine A_if_lt (tgt := 14) dX11_cause_1 rfl (fun h1 => ?_) (fun h1 => ?_)
  · refine A_iconst (v := -1) dX11_cause_14 rfl ?_
    exact A_iret dX11_cause_15 rfl (rti (if_pos (by first | exact .inl h1 | exact .inr (bz_0.mp h11))).symm rfl)
  · refine A_iload_n dX11_cause_4 rfl 2 rfl ?_
    refine A_i2l dX11_cause_5 ?_
    refine A_lconst (v := 0) dX11_cause_6 rfl ?_
    refine A_lconst (v := 1) dX11_cause_7 rfl ?_
    refine A_callS (M' := MX11_in) [.long y.toInt64, .long 0, .long 1] [] dX11_cause_8 lk_RX11_64 oX11_in sX11_in rfl rfl ⟨lb rfl, lb rfl⟩ (lb rfl) ⟨lb rfl, lb rfl⟩ (c_in _ _ _ _) ?_
    rintro _ g0 ⟨rfl, hg0⟩
    rw [hg0]
    refine A_topi (bz (inR y 2)) (bz_c (in_2' y)) ?_
    refine A_if_ne (tgt := 16) dX11_cause_11 rfl (fun h11 => ?_) (fun h11 => ?_)
    · refine A_iload_n dX11_cause_16 rfl 1 rfl ?_
      refine A_aload_n dX11_cause_17 rfl 0 rfl ?_
      refine A_getI dX11_cause_18 fo_RX11_130 L93 rfl ?_
      refine A_topi (nI tq) (hQ.1) ?_
      refine A_icmp_lt (tgt := 29) dX11_cause_21 rfl (fun h21 => ?_) (fun h21 => ?_)
      · obtain ⟨j, hj, rfl⟩ := x_ltn (x_nn h1) (by omega) h21
        refine A_iload_n dX11_cause_29 rfl 2 rfl ?_
        refine A_if_ne (tgt := 42) dX11_cause_30 rfl (fun h30 => ?_) (fun h30 => ?_)
        · refine A_aload_n dX11_cause_42 rfl 0 rfl ?_
          refine A_getR (b := 103) dX11_cause_43 fo_RX11_37 L93 rfl ?_
          refine A_iload_n dX11_cause_46 rfl 1 rfl ?_
          refine A_iaload j dX11_cause_47 L103 (rfl) (by omega) (lb rfl) ?_
          refine A_topi (qn j) ((hQ.2 j hj).2) ?_
          exact A_iret dX11_cause_48 rfl (rti (by unfold cauV; rw [if_neg (fun q => q.elim h1 (fun z => z (bz_n0.mp h11))), if_pos ((inR_nI (by omega)).mpr hj), if_neg h30, nI_clamp (by omega)]) rfl)
        · refine A_aload_n dX11_cause_33 rfl 0 rfl ?_
          refine A_getR (b := 102) dX11_cause_34 fo_RX11_34 L93 rfl ?_
          refine A_iload_n dX11_cause_37 rfl 1 rfl ?_
          refine A_iaload j dX11_cause_38 L102 (rfl) (by omega) (lb rfl) ?_
          refine A_topi (qs j) ((hQ.2 j hj).1) ?_
          refine A_goto (tgt := 48) dX11_cause_39 rfl ?_
          exact A_iret dX11_cause_48 rfl (rti (by unfold cauV; rw [if_neg (fun q => q.elim h1 (fun z => z (bz_n0.mp h11))), if_pos ((inR_nI (by omega)).mpr hj), if_pos h30, nI_clamp (by omega)]) rfl)
      · refine A_bipush (v := -5) dX11_cause_24 rfl ?_
        refine A_goto (tgt := 48) dX11_cause_26 rfl ?_
        exact A_iret dX11_cause_48 rfl (rti (by unfold cauV; rw [if_neg (fun q => q.elim h1 (fun z => z (bz_n0.mp h11))), if_neg (x_ninR (by omega) h21)]) rfl)
    · refine A_iconst (v := -1) dX11_cause_14 rfl ?_
      exact A_iret dX11_cause_15 rfl (rti (if_pos (by first | exact .inl h1 | exact .inr (bz_0.mp h11))).symm rfl)
