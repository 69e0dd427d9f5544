/-! the class: tape, trouble, conditions, lists -/
theorem x_tapeAppend (f : Mem) (n : Nat) (x : Int32) (hn : f 44 1 = nI n) (h120 : n < 120) : C0 MX8_append [.ref 44, .int x] f (rt none (u2 (u2 f 45 n x) 44 1 (nI n + 1))) := by
  refine Ct.of (lv := [(0, .ref 44), (1, .int x)]) (by decide) (lb rfl) rfl ?_
  refine A_aload_n dX8_append_0 rfl 0 rfl ?_
  refine A_getI dX8_append_1 fo_RX8_15 L44 rfl ?_
  refine A_topi (nI n) (hn) ?_
  refine A_bipush (v := 120) dX8_append_4 rfl ?_
  refine A_icmp_ge (tgt := 29) dX8_append_6 rfl (fun h6 => by exact absurd h6 (fun q => by rw [show (120 : Int32) = nI 120 from rfl, nI_leI (by omega) (by omega)] at q; omega)) (fun h6 => ?_)
  refine A_aload_n dX8_append_9 rfl 0 rfl ?_
  refine A_getR (b := 45) dX8_append_10 fo_RX8_9 L44 rfl ?_
  refine A_aload_n dX8_append_13 rfl 0 rfl ?_
  refine A_getI dX8_append_14 fo_RX8_15 L44 rfl ?_
  refine A_topi (nI n) (hn) ?_
  refine A_iload_n dX8_append_17 rfl 1 rfl ?_
  refine A_iastore n dX8_append_18 L45 (rfl) (by omega) (lb rfl) ?_
  refine A_aload_n dX8_append_19 rfl 0 rfl ?_
  refine A_dup dX8_append_20 rfl ?_
  refine A_getI dX8_append_21 fo_RX8_15 L44 rfl ?_
  refine A_topi (f 44 1) (by simp [u2, ur, upd]) ?_
  refine A_topi (nI n) (hn) ?_
  refine A_iconst (v := 1) dX8_append_24 rfl ?_
  refine A_iadd dX8_append_25 ?_
  refine A_putI dX8_append_26 fo_RX8_15 L44 rfl ?_
  exact A_vret dX8_append_29 rfl (⟨rfl, rfl⟩)
theorem nI_nneg {i : Nat} (h : i < 2 ^ 31) : ¬ nI i < 0 := by
  rw [show (0 : Int32) = nI 0 from rfl, nI_ltI h (by omega)]; omega
theorem x_tapeAt (f : Mem) (n i : Nat) (hn : f 44 1 = nI n) (h120 : n ≤ 120) (hi : i < 2 ^ 31) : C0 MX8_at [.ref 44, .int (nI i)] f (rt (some (.int (if i < n then f 45 i else 0))) f) := by
  refine Ct.of (lv := [(0, .ref 44), (1, .int (nI i))]) (by decide) (lb rfl) rfl ?_
  refine A_iload_n dX8_at_0 rfl 1 rfl ?_
  refine A_if_lt (tgt := 12) dX8_at_1 rfl (fun h1 => by exact absurd h1 (nI_nneg (by omega))) (fun h1 => ?_)
  refine A_iload_n dX8_at_4 rfl 1 rfl ?_
  refine A_aload_n dX8_at_5 rfl 0 rfl ?_
  refine A_getI dX8_at_6 fo_RX8_15 L44 rfl ?_
  refine A_topi (nI n) (hn) ?_
  refine A_icmp_lt (tgt := 16) dX8_at_9 rfl (fun h9 => ?_) (fun h9 => ?_)
  · rw [nI_ltI (by omega) (by omega)] at h9
    refine A_aload_n dX8_at_16 rfl 0 rfl ?_
    refine A_getR (b := 45) dX8_at_17 fo_RX8_9 L44 rfl ?_
    refine A_iload_n dX8_at_20 rfl 1 rfl ?_
    refine A_iaload i dX8_at_21 L45 (rfl) (by omega) (lb rfl) ?_
    exact A_iret dX8_at_22 rfl (rti (if_pos h9).symm rfl)
  · rw [nI_ltI (by omega) (by omega)] at h9
    refine A_iconst (v := 0) dX8_at_12 rfl ?_
    refine A_goto (tgt := 22) dX8_at_13 rfl ?_
    exact A_iret dX8_at_22 rfl (rti (if_neg h9).symm rfl)
theorem x_trAppend (f : Mem) (j : Nat) (x y : Int32) (hj : f 48 0 = nI j) (h3 : j < 3) : C0 MX9_append [.ref 48, .int x, .int y] f (rt none (u2 (u2 (u2 f 49 j x) 50 j y) 48 0 (nI j + 1))) := by
  refine Ct.of (lv := [(0, .ref 48), (1, .int x), (2, .int y)]) (by decide) (lb rfl) rfl ?_
  refine A_aload_n dX9_append_0 rfl 0 rfl ?_
  refine A_getI dX9_append_1 fo_RX9_9 L48 rfl ?_
  refine A_topi (nI j) (hj) ?_
  refine A_aload_n dX9_append_4 rfl 0 rfl ?_
  refine A_getR (b := 49) dX9_append_5 fo_RX9_15 L48 rfl ?_
  refine A_alen dX9_append_8 L49 ?_
  refine A_icmp_ge (tgt := 42) dX9_append_9 rfl (fun h9 => by exact absurd h9 (fun q => by rw [nI_leI (by omega) (by omega)] at q; omega)) (fun h9 => ?_)
  refine A_aload_n dX9_append_12 rfl 0 rfl ?_
  refine A_getR (b := 49) dX9_append_13 fo_RX9_15 L48 rfl ?_
  refine A_aload_n dX9_append_16 rfl 0 rfl ?_
  refine A_getI dX9_append_17 fo_RX9_9 L48 rfl ?_
  refine A_topi (nI j) (hj) ?_
  refine A_iload_n dX9_append_20 rfl 1 rfl ?_
  refine A_iastore j dX9_append_21 L49 (rfl) (by omega) (lb rfl) ?_
  refine A_aload_n dX9_append_22 rfl 0 rfl ?_
  refine A_getR (b := 50) dX9_append_23 fo_RX9_19 L48 rfl ?_
  refine A_aload_n dX9_append_26 rfl 0 rfl ?_
  refine A_getI dX9_append_27 fo_RX9_9 L48 rfl ?_
  refine A_topi (f 48 0) (by simp [u2, ur, upd]) ?_
  refine A_topi (nI j) (hj) ?_
  refine A_iload_n dX9_append_30 rfl 2 rfl ?_
  refine A_iastore j dX9_append_31 L50 (rfl) (by omega) (lb rfl) ?_
  refine A_aload_n dX9_append_32 rfl 0 rfl ?_
  refine A_dup dX9_append_33 rfl ?_
  refine A_getI dX9_append_34 fo_RX9_9 L48 rfl ?_
  refine A_topi (f 48 0) (by simp [u2, ur, upd]) ?_
  refine A_topi (nI j) (hj) ?_
  refine A_iconst (v := 1) dX9_append_37 rfl ?_
  refine A_iadd dX9_append_38 ?_
  refine A_putI dX9_append_39 fo_RX9_9 L48 rfl ?_
  exact A_vret dX9_append_42 rfl (⟨rfl, rfl⟩)
def qP (f h : Mem) (a b c x y z : Int32) : Prop := h 48 0 = 3 ∧ (h 49 0 = a ∧ h 49 1 = b ∧ h 49 2 = c) ∧ (h 50 0 = x ∧ h 50 1 = y ∧ h 50 2 = z) ∧ ∀ i, (i < 48 ∨ 50 < i) → h i = f i
theorem x_ofProgram (f : Mem) (x y z : Int32) : C0 MX9_ofProgram [.ref 48, .int x, .int y, .int z] f (fun r h => r = none ∧ qP f h 1 2 3 x y z) := by
  refine Ct.of (lv := [(0, .ref 48), (1, .int x), (2, .int y), (3, .int z)]) (by decide) (lb rfl) rfl ?_
  refine A_aload_n dX9_ofProgram_0 rfl 0 rfl ?_
  refine A_iconst (v := 0) dX9_ofProgram_1 rfl ?_
  refine A_putI dX9_ofProgram_2 fo_RX9_9 L48 rfl ?_
  refine A_aload_n dX9_ofProgram_5 rfl 0 rfl ?_
  refine A_iconst (v := 1) dX9_ofProgram_6 rfl ?_
  refine A_iload_n dX9_ofProgram_7 rfl 1 rfl ?_
  refine A_callV (M' := MX9_append) [.int 1, .int x] [] 48 dX9_ofProgram_8 lk_RX9_22 oX9_append iX9_append rfl rfl ⟨lb rfl, lb rfl⟩ (lb rfl) ⟨lb rfl, lb rfl⟩ L48 rfl (x_trAppend _ 0 1 x (by simp [u2, ur, upd]; rfl) (by decide)) ?_
  rintro _ _ ⟨rfl, rfl⟩
  refine A_aload_n dX9_ofProgram_11 rfl 0 rfl ?_
  refine A_iconst (v := 2) dX9_ofProgram_12 rfl ?_
  refine A_iload_n dX9_ofProgram_13 rfl 2 rfl ?_
  refine A_callV (M' := MX9_append) [.int 2, .int y] [] 48 dX9_ofProgram_14 lk_RX9_22 oX9_append iX9_append rfl rfl ⟨lb rfl, lb rfl⟩ (lb rfl) ⟨lb rfl, lb rfl⟩ L48 rfl (x_trAppend _ 1 2 y (by simp only [u2, ur_s, upd_s]; rfl) (by decide)) ?_
  rintro _ _ ⟨rfl, rfl⟩
  refine A_aload_n dX9_ofProgram_17 rfl 0 rfl ?_
  refine A_iconst (v := 3) dX9_ofProgram_18 rfl ?_
  refine A_iload_n dX9_ofProgram_19 rfl 3 rfl ?_
  refine A_callV (M' := MX9_append) [.int 3, .int z] [] 48 dX9_ofProgram_20 lk_RX9_22 oX9_append iX9_append rfl rfl ⟨lb rfl, lb rfl⟩ (lb rfl) ⟨lb rfl, lb rfl⟩ L48 rfl (x_trAppend _ 2 3 z (by simp only [u2, ur_s, upd_s]; rfl) (by decide)) ?_
  rintro _ _ ⟨rfl, rfl⟩
  exact A_vret dX9_ofProgram_23 rfl (⟨rfl, ⟨by simp [u2, ur, upd]; decide, ⟨by simp [u2, ur, upd], by simp [u2, ur, upd], by simp [u2, ur, upd]⟩, ⟨by simp [u2, ur, upd], by simp [u2, ur, upd], by simp [u2, ur, upd]⟩, fun i hi => by rw [u2_n _ _ _ (by omega), u2_n _ _ _ (by omega), u2_n _ _ _ (by omega), u2_n _ _ _ (by omega), u2_n _ _ _ (by omega), u2_n _ _ _ (by omega), u2_n _ _ _ (by omega), u2_n _ _ _ (by omega), u2_n _ _ _ (by omega), u2_n _ _ _ (by omega)]⟩⟩)
theorem x_ofStep (f : Mem) (x y r z : Int32) : C0 MX9_ofStep [.ref 48, .int x, .int y, .int r, .int z] f (fun o h => o = none ∧ qP f h 4 5 (if 2 < r then 7 else 6) x y z) := by
  refine Ct.of (lv := [(0, .ref 48), (1, .int x), (2, .int y), (3, .int r), (4, .int z)]) (by decide) (lb rfl) rfl ?_
  refine A_aload_n dX9_ofStep_0 rfl 0 rfl ?_
  refine A_iconst (v := 0) dX9_ofStep_1 rfl ?_
  refine A_putI dX9_ofStep_2 fo_RX9_9 L48 rfl ?_
  refine A_aload_n dX9_ofStep_5 rfl 0 rfl ?_
  refine A_iconst (v := 4) dX9_ofStep_6 rfl ?_
  refine A_iload_n dX9_ofStep_7 rfl 1 rfl ?_
  refine A_callV (M' := MX9_append) [.int 4, .int x] [] 48 dX9_ofStep_8 lk_RX9_22 oX9_append iX9_append rfl rfl ⟨lb rfl, lb rfl⟩ (lb rfl) ⟨lb rfl, lb rfl⟩ L48 rfl (x_trAppend _ 0 4 x (by simp [u2, ur, upd]; rfl) (by decide)) ?_
  rintro _ _ ⟨rfl, rfl⟩
  refine A_aload_n dX9_ofStep_11 rfl 0 rfl ?_
  refine A_iconst (v := 5) dX9_ofStep_12 rfl ?_
  refine A_iload_n dX9_ofStep_13 rfl 2 rfl ?_
  refine A_callV (M' := MX9_append) [.int 5, .int y] [] 48 dX9_ofStep_14 lk_RX9_22 oX9_append iX9_append rfl rfl ⟨lb rfl, lb rfl⟩ (lb rfl) ⟨lb rfl, lb rfl⟩ L48 rfl (x_trAppend _ 1 5 y (by simp only [u2, ur_s, upd_s]; rfl) (by decide)) ?_
  rintro _ _ ⟨rfl, rfl⟩
  refine A_aload_n dX9_ofStep_17 rfl 0 rfl ?_
  refine A_iload_n dX9_ofStep_18 rfl 3 rfl ?_
  refine A_iconst (v := 2) dX9_ofStep_19 rfl ?_
  refine A_icmp_gt (tgt := 28) dX9_ofStep_20 rfl (fun h20 => ?_) (fun h20 => ?_)
  · refine A_bipush (v := 7) dX9_ofStep_28 rfl ?_
    refine A_iload dX9_ofStep_30 4 rfl ?_
    refine A_callV (M' := MX9_append) [.int 7, .int z] [] 48 dX9_ofStep_32 lk_RX9_22 oX9_append iX9_append rfl rfl ⟨lb rfl, lb rfl⟩ (lb rfl) ⟨lb rfl, lb rfl⟩ L48 rfl (x_trAppend _ 2 7 z (by simp only [u2, ur_s, upd_s]; rfl) (by decide)) ?_
    rintro _ _ ⟨rfl, rfl⟩
    exact A_vret dX9_ofStep_35 rfl (⟨rfl, (show qP f _ 4 5 (if 2 < r then 7 else 6) x y z by rw [if_pos h20]; exact ⟨by simp [u2, ur, upd]; decide, ⟨by simp [u2, ur, upd], by simp [u2, ur, upd], by simp [u2, ur, upd]⟩, ⟨by simp [u2, ur, upd], by simp [u2, ur, upd], by simp [u2, ur, upd]⟩, fun i hi => by rw [u2_n _ _ _ (by omega), u2_n _ _ _ (by omega), u2_n _ _ _ (by omega), u2_n _ _ _ (by omega), u2_n _ _ _ (by omega), u2_n _ _ _ (by omega), u2_n _ _ _ (by omega), u2_n _ _ _ (by omega), u2_n _ _ _ (by omega), u2_n _ _ _ (by omega)]⟩)⟩)
  · refine A_bipush (v := 6) dX9_ofStep_23 rfl ?_
    refine A_goto (tgt := 30) dX9_ofStep_25 rfl ?_
    refine A_iload dX9_ofStep_30 4 rfl ?_
    refine A_callV (M' := MX9_append) [.int 6, .int z] [] 48 dX9_ofStep_32 lk_RX9_22 oX9_append iX9_append rfl rfl ⟨lb rfl, lb rfl⟩ (lb rfl) ⟨lb rfl, lb rfl⟩ L48 rfl (x_trAppend _ 2 6 z (by simp only [u2, ur_s, upd_s]; rfl) (by decide)) ?_
    rintro _ _ ⟨rfl, rfl⟩
    exact A_vret dX9_ofStep_35 rfl (⟨rfl, (show qP f _ 4 5 (if 2 < r then 7 else 6) x y z by rw [if_neg h20]; exact ⟨by simp [u2, ur, upd]; decide, ⟨by simp [u2, ur, upd], by simp [u2, ur, upd], by simp [u2, ur, upd]⟩, ⟨by simp [u2, ur, upd], by simp [u2, ur, upd], by simp [u2, ur, upd]⟩, fun i hi => by rw [u2_n _ _ _ (by omega), u2_n _ _ _ (by omega), u2_n _ _ _ (by omega), u2_n _ _ _ (by omega), u2_n _ _ _ (by omega), u2_n _ _ _ (by omega), u2_n _ _ _ (by omega), u2_n _ _ _ (by omega), u2_n _ _ _ (by omega), u2_n _ _ _ (by omega)]⟩)⟩)
theorem x_nn {x : Int32} (h : ¬ x < 0) : 0 ≤ x.toInt := by
  rw [Int32.lt_iff_toInt_lt] at h
  have e : (0 : Int32).toInt = 0 := by decide
  omega
theorem x_ltn {x : Int32} {n : Nat} (h : 0 ≤ x.toInt) (hn : n < 2 ^ 31) (hx : x < nI n) : ∃ j, j < n ∧ x = nI j := by
  rw [Int32.lt_iff_toInt_lt, nI_toInt hn] at hx
  exact inR_of hn ⟨h, hx⟩
theorem x_ninR {x : Int32} {n : Nat} (hn : n < 2 ^ 31) (hx : ¬ x < nI n) : ¬ inR x n := by
  rw [Int32.lt_iff_toInt_lt, nI_toInt hn] at hx
  exact fun q => hx q.2
theorem x_ninL {x : Int32} {n : Nat} (hx : x < 0) : ¬ inR x n := by
  rw [Int32.lt_iff_toInt_lt] at hx
  have e : (0 : Int32).toInt = 0 := by decide
  exact fun q => by have := q.1; omega
theorem x_link (f : Mem) (n : Nat) (x y : Int32) (hn : f 48 0 = nI n) (h3 : n ≤ 3) : C0 MX9_link [.ref 48, .int x, .int y] f (rt (some (.int (if inR x n then (if y = 0 then f 49 x.toNatClampNeg else f 50 x.toNatClampNeg) else -5))) f) := by
  refine Ct.of (lv := [(0, .ref 48), (1, .int x), (2, .int y)]) (by decide) (lb rfl) rfl ?_
  refine A_iload_n dX9_link_0 rfl 1 rfl ?_
  refine A_if_lt (tgt := 12) dX9_link_1 rfl (fun h1 => ?_) (fun h1 => ?_)
  · refine A_bipush (v := -5) dX9_link_12 rfl ?_
    exact A_iret dX9_link_14 rfl (rti (if_neg (by first | exact x_ninL h1 | exact x_ninR (by omega) h9)).symm rfl)
  · have a1 : 0 ≤ x.toInt := x_nn h1
    refine A_iload_n dX9_link_4 rfl 1 rfl ?_
    refine A_aload_n dX9_link_5 rfl 0 rfl ?_
    refine A_getI dX9_link_6 fo_RX9_9 L48 rfl ?_
    refine A_topi (nI n) (hn) ?_
    refine A_icmp_lt (tgt := 15) dX9_link_9 rfl (fun h9 => ?_) (fun h9 => ?_)
    · obtain ⟨j, hj, rfl⟩ := x_ltn a1 (by omega) h9
      refine A_iload_n dX9_link_15 rfl 2 rfl ?_
      refine A_if_ne (tgt := 28) dX9_link_16 rfl (fun h16 => ?_) (fun h16 => ?_)
      · refine A_aload_n dX9_link_28 rfl 0 rfl ?_
        refine A_getR (b := 50) dX9_link_29 fo_RX9_19 L48 rfl ?_
        refine A_iload_n dX9_link_32 rfl 1 rfl ?_
        refine A_iaload j dX9_link_33 L50 (rfl) (by omega) (lb rfl) ?_
        exact A_iret dX9_link_34 rfl (rti (by rw [if_pos ((inR_nI (by omega)).mpr hj), if_neg h16, nI_clamp (by omega)]) rfl)
      · refine A_aload_n dX9_link_19 rfl 0 rfl ?_
        refine A_getR (b := 49) dX9_link_20 fo_RX9_15 L48 rfl ?_
        refine A_iload_n dX9_link_23 rfl 1 rfl ?_
        refine A_iaload j dX9_link_24 L49 (rfl) (by omega) (lb rfl) ?_
        refine A_goto (tgt := 34) dX9_link_25 rfl ?_
        exact A_iret dX9_link_34 rfl (rti (by rw [if_pos ((inR_nI (by omega)).mpr hj), if_pos h16, nI_clamp (by omega)]) rfl)
    · refine A_bipush (v := -5) dX9_link_12 rfl ?_
      exact A_iret dX9_link_14 rfl (rti (if_neg (by first | exact x_ninL h1 | exact x_ninR (by omega) h9)).symm rfl)
theorem x_coAppend (f : Mem) (n : Nat) (x y z : Int32) (hn : f 51 0 = nI n) (h4 : n < 4) : C0 MX0_append [.ref 51, .int x, .int y, .int z] f (rt none (u2 (u2 (u2 (u2 f 52 n x) 53 n y) 54 n z) 51 0 (nI n + 1))) := by
  refine Ct.of (lv := [(0, .ref 51), (1, .int x), (2, .int y), (3, .int z)]) (by decide) (lb rfl) rfl ?_
  refine A_aload_n dX0_append_0 rfl 0 rfl ?_
  refine A_getI dX0_append_1 fo_RX0_9 L51 rfl ?_
  refine A_topi (nI n) (hn) ?_
  refine A_iconst (v := 4) dX0_append_4 rfl ?_
  refine A_icmp_ge (tgt := 48) dX0_append_5 rfl (fun h5 => by exact absurd h5 (fun q => by rw [show (4 : Int32) = nI 4 from rfl, nI_leI (by omega) (by omega)] at q; omega)) (fun h5 => ?_)
  refine A_aload_n dX0_append_8 rfl 0 rfl ?_
  refine A_getR (b := 52) dX0_append_9 fo_RX0_15 L51 rfl ?_
  refine A_aload_n dX0_append_12 rfl 0 rfl ?_
  refine A_getI dX0_append_13 fo_RX0_9 L51 rfl ?_
  refine A_topi (nI n) (hn) ?_
  refine A_iload_n dX0_append_16 rfl 1 rfl ?_
  refine A_iastore n dX0_append_17 L52 (rfl) (by omega) (lb rfl) ?_
  refine A_aload_n dX0_append_18 rfl 0 rfl ?_
  refine A_getR (b := 53) dX0_append_19 fo_RX0_19 L51 rfl ?_
  refine A_aload_n dX0_append_22 rfl 0 rfl ?_
  refine A_getI dX0_append_23 fo_RX0_9 L51 rfl ?_
  refine A_topi (f 51 0) (by simp [u2, ur, upd]) ?_
  refine A_topi (nI n) (hn) ?_
  refine A_iload_n dX0_append_26 rfl 2 rfl ?_
  refine A_iastore n dX0_append_27 L53 (rfl) (by omega) (lb rfl) ?_
  refine A_aload_n dX0_append_28 rfl 0 rfl ?_
  refine A_getR (b := 54) dX0_append_29 fo_RX0_22 L51 rfl ?_
  refine A_aload_n dX0_append_32 rfl 0 rfl ?_
  refine A_getI dX0_append_33 fo_RX0_9 L51 rfl ?_
  refine A_topi (f 51 0) (by simp [u2, ur, upd]) ?_
  refine A_topi (nI n) (hn) ?_
  refine A_iload_n dX0_append_36 rfl 3 rfl ?_
  refine A_iastore n dX0_append_37 L54 (rfl) (by omega) (lb rfl) ?_
  refine A_aload_n dX0_append_38 rfl 0 rfl ?_
  refine A_dup dX0_append_39 rfl ?_
  refine A_getI dX0_append_40 fo_RX0_9 L51 rfl ?_
  refine A_topi (f 51 0) (by simp [u2, ur, upd]) ?_
  refine A_topi (nI n) (hn) ?_
  refine A_iconst (v := 1) dX0_append_43 rfl ?_
  refine A_iadd dX0_append_44 ?_
  refine A_putI dX0_append_45 fo_RX0_9 L51 rfl ?_
  exact A_vret dX0_append_48 rfl (⟨rfl, rfl⟩)
abbrev soA (h : Nat) (x v : Int32) : Prop := if h = 0 then x < v else if h = 1 then x = v else if h = 2 then v < x else ¬ x = v
abbrev allS (cn : Nat) (cs ch : Nat → Nat) (cv k : Ro) : Prop := ∀ i, i < cn → soA (ch i) (k (cs i)) (cv i)
theorem x_isSo {lay : List Ly} (h : Nat) (x v : Int32) (f : Mem) (h4 : h < 4) : Ct MX0_isSo 0 0 lay lay [.int (nI h), .int x, .int v] f (rt (some (.int (bz (soA h x v)))) f) := by
  refine Ct.of (lv := [(0, .int (nI h)), (1, .int x), (2, .int v)]) (by decide) (lb rfl) rfl ?_
  refine A_iload_n dX0_isSo_0 rfl 0 rfl ?_
  rcases (show h = 0 ∨ h = 1 ∨ h = 2 ∨ h = 3 by omega) with esw | esw | esw | esw
  · refine A_tabIn (off := 27) (tgt := 28) dX0_isSo_1 (by rw [esw]; decide) (by rw [esw]; decide) (by rw [esw]; rfl) rfl ?_
    refine A_iload_n dX0_isSo_28 rfl 1 rfl ?_
    refine A_iload_n dX0_isSo_29 rfl 2 rfl ?_
    refine A_icmp_ge (tgt := 37) dX0_isSo_30 rfl (fun h30 => ?_) (fun h30 => ?_)
    · refine A_iconst (v := 0) dX0_isSo_37 rfl ?_
      exact A_zret dX0_isSo_38 rfl (by decide) (rti (by rw [bz_f]; simp only [soA, esw]; first | exact h30 | (simpa using h30)) rfl)
    · refine A_iconst (v := 1) dX0_isSo_33 rfl ?_
      refine A_goto (tgt := 38) dX0_isSo_34 rfl ?_
      exact A_zret dX0_isSo_38 rfl (by decide) (rti (by rw [bz_t]; simp only [soA, esw]; first | exact h30 | (simpa using h30)) rfl)
  · refine A_tabIn (off := 38) (tgt := 39) dX0_isSo_1 (by rw [esw]; decide) (by rw [esw]; decide) (by rw [esw]; rfl) rfl ?_
    refine A_iload_n dX0_isSo_39 rfl 1 rfl ?_
    refine A_iload_n dX0_isSo_40 rfl 2 rfl ?_
    refine A_icmp_ne (tgt := 48) dX0_isSo_41 rfl (fun h41 => ?_) (fun h41 => ?_)
    · refine A_iconst (v := 0) dX0_isSo_48 rfl ?_
      exact A_zret dX0_isSo_49 rfl (by decide) (rti (by rw [bz_f]; simp only [soA, esw]; first | exact h41 | (simpa using h41)) rfl)
    · refine A_iconst (v := 1) dX0_isSo_44 rfl ?_
      refine A_goto (tgt := 49) dX0_isSo_45 rfl ?_
      exact A_zret dX0_isSo_49 rfl (by decide) (rti (by rw [bz_t]; simp only [soA, esw]; first | exact h41 | (simpa using h41)) rfl)
  · refine A_tabIn (off := 49) (tgt := 50) dX0_isSo_1 (by rw [esw]; decide) (by rw [esw]; decide) (by rw [esw]; rfl) rfl ?_
    refine A_iload_n dX0_isSo_50 rfl 1 rfl ?_
    refine A_iload_n dX0_isSo_51 rfl 2 rfl ?_
    refine A_icmp_le (tgt := 59) dX0_isSo_52 rfl (fun h52 => ?_) (fun h52 => ?_)
    · refine A_iconst (v := 0) dX0_isSo_59 rfl ?_
      exact A_zret dX0_isSo_60 rfl (by decide) (rti (by rw [bz_f]; simp only [soA, esw]; first | exact h52 | (simpa using h52)) rfl)
    · refine A_iconst (v := 1) dX0_isSo_55 rfl ?_
      refine A_goto (tgt := 60) dX0_isSo_56 rfl ?_
      exact A_zret dX0_isSo_60 rfl (by decide) (rti (by rw [bz_t]; simp only [soA, esw]; first | exact h52 | (simpa using h52)) rfl)
  · refine A_tabOut (tgt := 61) dX0_isSo_1 (by rw [esw]; decide) rfl ?_
    refine A_iload_n dX0_isSo_61 rfl 1 rfl ?_
    refine A_iload_n dX0_isSo_62 rfl 2 rfl ?_
    refine A_icmp_eq (tgt := 70) dX0_isSo_63 rfl (fun h63 => ?_) (fun h63 => ?_)
    · refine A_iconst (v := 0) dX0_isSo_70 rfl ?_
      exact A_zret dX0_isSo_71 rfl (by decide) (rti (by rw [bz_f]; simp only [soA, esw]; first | exact h63 | (simpa using h63)) rfl)
    · refine A_iconst (v := 1) dX0_isSo_66 rfl ?_
      refine A_goto (tgt := 71) dX0_isSo_67 rfl ?_
      exact A_zret dX0_isSo_71 rfl (by decide) (rti (by rw [bz_t]; simp only [soA, esw]; first | exact h63 | (simpa using h63)) rfl)
theorem lx_allSo (a : Nat) (k : Ro) (f : Mem) (cn : Nat) (cs ch : Nat → Nat) (cv : Ro) (ha : layT[a]? = some (0, 4, [])) (hk : ∀ c, c < 4 → f a c = k c) (hn : XNc f cn cs ch cv) (hw : wN cn cs ch) : ∀ i, i ≤ cn → (∀ j, j < i → soA (ch j) (k (cs j)) (cv j)) → A (cM MX0_allSo 0 0 layT layT (rt (some (.int (bz (allS cn cs ch cv k)))) f)) 2 [(2, .int (nI i)), (0, .ref 51), (1, .ref a)] [] f := by
  have h4 := hw.1
  refine up_ind cn (fun i hi ih hc => ?_)
  refine A_iload_n dX0_allSo_2 rfl 0 rfl ?_
  refine A_aload_n dX0_allSo_3 rfl 1 rfl ?_
  refine A_getI dX0_allSo_4 fo_RX0_9 L51 rfl ?_
  refine A_topi (nI cn) (hn.1) ?_
  refine A_icmp_ge (tgt := 56) dX0_allSo_7 rfl (fun h7 => ?_) (fun h7 => ?_)
  · rw [nI_leI (by omega) (by omega)] at h7
    refine A_iconst (v := 1) dX0_allSo_56 rfl ?_
    exact A_zret dX0_allSo_57 rfl (by decide) (rti (bz_t (fun j hj => hc j (by omega))).symm rfl)
  · rw [nI_leI (by omega) (by omega)] at h7
    have hin : i < cn := by omega
    have hc4 : cs i < 4 := (hw.2 i hin).1
    refine A_aload_n dX0_allSo_10 rfl 1 rfl ?_
    refine A_getR (b := 52) dX0_allSo_11 fo_RX0_15 L51 rfl ?_
    refine A_iload_n dX0_allSo_14 rfl 0 rfl ?_
    refine A_iaload i dX0_allSo_15 L52 (rfl) (by omega) (lb rfl) ?_
    refine A_topi (nI (cs i)) ((hn.2 i hin).1) ?_
    refine A_callSN (M' := MX10_isCell) [.int (nI (cs i))] [] dX0_allSo_16 lk_RX0_25 oX10_isCell sX10_isCell rfl rfl ⟨lb rfl, lb rfl⟩ (lb rfl) ⟨lb rfl, lb rfl⟩ (x_isCell (nI (cs i)) _) ?_
    rintro _ _ ⟨rfl, rfl⟩
    refine A_if_eq (tgt := 50) dX0_allSo_19 rfl (fun h19 => absurd h19 (bz_n0.mpr ((inR_nI (by omega)).mpr hc4))) (fun h19 => ?_)
    refine A_aload_n dX0_allSo_22 rfl 1 rfl ?_
    refine A_getR (b := 53) dX0_allSo_23 fo_RX0_19 L51 rfl ?_
    refine A_iload_n dX0_allSo_26 rfl 0 rfl ?_
    refine A_iaload i dX0_allSo_27 L53 (rfl) (by omega) (lb rfl) ?_
    refine A_topi (nI (ch i)) ((hn.2 i hin).2.1) ?_
    refine A_aload_n dX0_allSo_28 rfl 2 rfl ?_
    refine A_aload_n dX0_allSo_29 rfl 1 rfl ?_
    refine A_getR (b := 52) dX0_allSo_30 fo_RX0_15 L51 rfl ?_
    refine A_iload_n dX0_allSo_33 rfl 0 rfl ?_
    refine A_iaload i dX0_allSo_34 L52 (rfl) (by omega) (lb rfl) ?_
    refine A_topi (nI (cs i)) ((hn.2 i hin).1) ?_
    refine A_iaload (cs i) dX0_allSo_35 ha (rfl) ((hw.2 i hin).1) (lb rfl) ?_
    refine A_topi (k (cs i)) (hk _ (hw.2 i hin).1) ?_
    refine A_aload_n dX0_allSo_36 rfl 1 rfl ?_
    refine A_getR (b := 54) dX0_allSo_37 fo_RX0_22 L51 rfl ?_
    refine A_iload_n dX0_allSo_40 rfl 0 rfl ?_
    refine A_iaload i dX0_allSo_41 L54 (rfl) (by omega) (lb rfl) ?_
    refine A_topi (cv i) ((hn.2 i hin).2.2) ?_
    refine A_callS (M' := MX0_isSo) [.int (nI (ch i)), .int (k (cs i)), .int (cv i)] [] dX0_allSo_42 lk_RX0_29 oX0_isSo sX0_isSo rfl rfl ⟨lb rfl, lb rfl⟩ (lb rfl) ⟨lb rfl, lb rfl⟩ (x_isSo (ch i) (k (cs i)) (cv i) _ (hw.2 i hin).2) ?_
    rintro _ _ ⟨rfl, rfl⟩
    refine A_if_ne (tgt := 50) dX0_allSo_45 rfl (fun h45 => ?_) (fun h45 => ?_)
    · refine A_iinc (lv' := [(2, .int (nI (i + 1))), (0, .ref 51), (1, .ref a)]) dX0_allSo_50 0 rfl (nI_add i 1) (lb rfl) rfl ?_
      refine A_goto (tgt := 2) dX0_allSo_53 rfl ?_
      exact ih (i + 1) (by omega) (by omega) (fun j hj => by
        by_cases q : j < i
        · exact hc j q
        · rw [show j = i by omega]; exact bz_n0.mp h45)
    · refine A_iconst (v := 0) dX0_allSo_48 rfl ?_
      exact A_zret dX0_allSo_49 rfl (by decide) (rti (bz_f (fun q => bz_0.mp h45 (q i hin))).symm rfl)
theorem x_allSo (a : Nat) (k : Ro) (f : Mem) (cn : Nat) (cs ch : Nat → Nat) (cv : Ro) (ha : layT[a]? = some (0, 4, [])) (hk : ∀ c, c < 4 → f a c = k c) (hn : XNc f cn cs ch cv) (hw : wN cn cs ch) : C0 MX0_allSo [.ref 51, .ref a] f (rt (some (.int (bz (allS cn cs ch cv k)))) f) := by
  refine Ct.of (lv := [(0, .ref 51), (1, .ref a)]) (by decide) (lb rfl) rfl ?_
  refine A_iconst (v := 0) dX0_allSo_0 rfl ?_
  refine A_istore_n (lv' := [(2, .int 0), (0, .ref 51), (1, .ref a)]) dX0_allSo_1 rfl (lb rfl) rfl ?_
  exact lx_allSo a k f cn cs ch cv ha hk hn hw 0 (by omega) (fun j hj => absurd hj (by omega))
theorem ln_neg {n : Nat} (h : n ≤ 41) : (if n = 0 then (-11 : Int32) else nI (n - 1)) < 0 ↔ n = 0 := by
  by_cases z : n = 0
  · rw [if_pos z]; exact ⟨fun _ => z, fun _ => by decide⟩
  · rw [if_neg z]; exact ⟨fun q => absurd q (nI_nneg (by omega)), fun q => absurd q z⟩
def lay89 : ∀ l, l < 4 → layT[89 + l]? = some (0, 40, []) ∧ [91, 92, 93, 94][l]? = some (89 + l + 2)
  | 0, _ => ⟨rfl, rfl⟩
  | 1, _ => ⟨rfl, rfl⟩
  | 2, _ => ⟨rfl, rfl⟩
  | 3, _ => ⟨rfl, rfl⟩
theorem x_refusalOf (x : Int32) (f : Mem) (ln : Nat → Nat) (li : Nat → Ro) (hL : XL f ln li) (hw : wL ln) : C0 MX2_refusalOf [.ref 86, .int x] f (rt (some (.int (if inR x 4 then (if ln x.toNatClampNeg = 0 then -11 else 0) else -1))) f) := by
  refine Ct.of (lv := [(0, .ref 86), (1, .int x)]) (by decide) (lb rfl) rfl ?_
  refine A_iload_n dX2_refusalOf_0 rfl 1 rfl ?_
  refine A_callSN (M' := MX10_isList) [.int x] [] dX2_refusalOf_1 lk_RX2_26 oX10_isList sX10_isList rfl rfl ⟨lb rfl, lb rfl⟩ (lb rfl) ⟨lb rfl, lb rfl⟩ (x_isList x _) ?_
  rintro _ _ ⟨rfl, rfl⟩
  refine A_if_ne (tgt := 9) dX2_refusalOf_4 rfl (fun h4 => ?_) (fun h4 => ?_)
  · obtain ⟨l, hl, el⟩ := inR_of (by omega) (bz_n0.mp h4)
    refine A_aload_n dX2_refusalOf_9 rfl 0 rfl ?_
    refine A_getR (b := 87) dX2_refusalOf_10 fo_RX2_9 L86 rfl ?_
    refine A_iload_n dX2_refusalOf_13 rfl 1 rfl ?_
    refine A_iaload l dX2_refusalOf_14 L87 (el) (hl) (lb rfl) ?_
    refine A_topi (if ln l = 0 then -11 else nI (ln l - 1)) (hL.1 l hl) ?_
    refine A_if_ge (tgt := 23) dX2_refusalOf_15 rfl (fun h15 => ?_) (fun h15 => ?_)
    · have hq := ln_neg (hw l hl)
      refine A_iconst (v := 0) dX2_refusalOf_23 rfl ?_
      exact A_iret dX2_refusalOf_24 rfl (rti (by rw [if_pos (bz_n0.mp h4), el, nI_clamp (by omega), if_neg (fun z => absurd (hq.mpr z) (by simpa using h15))]) rfl)
    · have hq := ln_neg (hw l hl)
      refine A_bipush (v := -11) dX2_refusalOf_18 rfl ?_
      refine A_goto (tgt := 24) dX2_refusalOf_20 rfl ?_
      exact A_iret dX2_refusalOf_24 rfl (rti (by rw [if_pos (bz_n0.mp h4), el, nI_clamp (by omega), if_pos (hq.mp (by simpa using h15))]) rfl)
  · refine A_iconst (v := -1) dX2_refusalOf_7 rfl ?_
    exact A_iret dX2_refusalOf_8 rfl (rti (if_neg (bz_0.mp h4)).symm rfl)
theorem hp_1 {n : Nat} {x : Int32} (h : n ≤ 41) (a : 0 ≤ x.toInt) (q : x < if n = 0 then (-11 : Int32) else nI (n - 1)) : inR x (n - 1) := by
  by_cases z : n = 0
  · rw [if_pos z, Int32.lt_iff_toInt_lt, show (-11 : Int32).toInt = -11 by decide] at q; omega
  · rw [if_neg z, Int32.lt_iff_toInt_lt, nI_toInt (by omega)] at q; exact ⟨a, q⟩
theorem hp_0 {n : Nat} {x : Int32} (h : n ≤ 41) (q : ¬ x < if n = 0 then (-11 : Int32) else nI (n - 1)) : ¬ inR x (n - 1) := by
  by_cases z : n = 0
  · intro w; have := w.1; have := w.2; rw [z] at this; omega
  · rw [if_neg z] at q; exact x_ninR (by omega) q
theorem x_hasPlace (l : Nat) (x : Int32) (f : Mem) (ln : Nat → Nat) (li : Nat → Ro) (hL : XL f ln li) (hw : wL ln) (hl : l < 4) : C0 MX2_hasPlace [.ref 86, .int (nI l), .int x] f (rt (some (.int (bz (inR x (ln l - 1))))) f) := by
  refine Ct.of (lv := [(0, .ref 86), (1, .int (nI l)), (2, .int x)]) (by decide) (lb rfl) rfl ?_
  refine A_iload_n dX2_hasPlace_0 rfl 2 rfl ?_
  refine A_if_lt (tgt := 18) dX2_hasPlace_1 rfl (fun h1 => ?_) (fun h1 => ?_)
  · refine A_iconst (v := 0) dX2_hasPlace_18 rfl ?_
    exact A_zret dX2_hasPlace_19 rfl (by decide) (rti (bz_f (by first | exact x_ninL h1 | exact hp_0 (hw l hl) (by simpa using h11))).symm rfl)
  · have a1 := x_nn h1
    refine A_iload_n dX2_hasPlace_4 rfl 2 rfl ?_
    refine A_aload_n dX2_hasPlace_5 rfl 0 rfl ?_
    refine A_getR (b := 87) dX2_hasPlace_6 fo_RX2_9 L86 rfl ?_
    refine A_iload_n dX2_hasPlace_9 rfl 1 rfl ?_
    refine A_iaload l dX2_hasPlace_10 L87 (rfl) (by omega) (lb rfl) ?_
    refine A_topi (if ln l = 0 then -11 else nI (ln l - 1)) (hL.1 l hl) ?_
    refine A_icmp_ge (tgt := 18) dX2_hasPlace_11 rfl (fun h11 => ?_) (fun h11 => ?_)
    · refine A_iconst (v := 0) dX2_hasPlace_18 rfl ?_
      exact A_zret dX2_hasPlace_19 rfl (by decide) (rti (bz_f (by first | exact x_ninL h1 | exact hp_0 (hw l hl) (by simpa using h11))).symm rfl)
    · refine A_iconst (v := 1) dX2_hasPlace_14 rfl ?_
      refine A_goto (tgt := 19) dX2_hasPlace_15 rfl ?_
      exact A_zret dX2_hasPlace_19 rfl (by decide) (rti (bz_t (hp_1 (hw l hl) a1 (by simpa using h11))).symm rfl)
theorem x_beginList (l : Nat) (x : Int32) (f : Mem) (hl : l < 4) : C0 MX2_begin [.ref 86, .int (nI l), .int x] f (rt none (ur (u2 f 87 l x) (89 + l) (cpR 40 (fun _ => 0) (f (89 + l))))) := by
  refine Ct.of (lv := [(0, .ref 86), (1, .int (nI l)), (2, .int x)]) (by decide) (lb rfl) rfl ?_
  refine A_aload_n dX2_begin_0 rfl 0 rfl ?_
  refine A_getR (b := 87) dX2_begin_1 fo_RX2_9 L86 rfl ?_
  refine A_iload_n dX2_begin_4 rfl 1 rfl ?_
  refine A_iload_n dX2_begin_5 rfl 2 rfl ?_
  refine A_iastore l dX2_begin_6 L87 (rfl) (by omega) (lb rfl) ?_
  refine A_aload_n dX2_begin_7 rfl 0 rfl ?_
  refine A_getR (b := 88) dX2_begin_8 fo_RX2_17 L86 rfl ?_
  refine A_iload_n dX2_begin_11 rfl 1 rfl ?_
  refine A_aaload3 (b := 89 + l) l dX2_begin_12 L88 (rfl) (by omega) (lb rfl) ((lay89 l hl).2) ?_
  refine A_iconst (v := 0) dX2_begin_13 rfl ?_
  refine A_callS (M' := MJ7_fill_53178) [.ref (89 + l), .int 0] [] dX2_begin_14 lk_RX2_20 oJ7_fill_53178 sJ7_fill_53178 rfl rfl ⟨lb rfl, lb rfl⟩ (lb rfl) ⟨lb rfl, lb rfl⟩ (c_fill (89 + l) 40 0 _ (lay89 l hl).1 (lb rfl)) ?_
  rintro _ _ ⟨rfl, rfl⟩
  exact A_vret dX2_begin_17 rfl (⟨rfl, by rw [u2_n _ _ _ (by omega)]⟩)
theorem x_isTask (x : Int32) (f : Mem) {n : Nat} (hn : f 1 0 = nI n) (h4 : n ≤ 4) : C0 MX10_isTask [.ref 0, .int x] f (rt (some (.int (bz (inR x n)))) f) := by
  refine Ct.of (lv := [(0, .ref 0), (1, .int x)]) (by decide) (lb rfl) rfl ?_
  refine A_iload_n dX10_isTask_0 rfl 1 rfl ?_
  refine A_if_lt (tgt := 19) dX10_isTask_1 rfl (fun h1 => ?_) (fun h1 => ?_)
  · refine A_iconst (v := 0) dX10_isTask_19 rfl ?_
    exact A_zret dX10_isTask_20 rfl (by decide) (rti (bz_f (by first | exact x_ninL h1 | exact x_ninR (by omega) (by simpa using h12))).symm rfl)
  · have a1 := x_nn h1
    refine A_iload_n dX10_isTask_4 rfl 1 rfl ?_
    refine A_aload_n dX10_isTask_5 rfl 0 rfl ?_
    refine A_getR (b := 1) dX10_isTask_6 fo_RX10_10 L0 rfl ?_
    refine A_getI dX10_isTask_9 fo_RX10_63 L1 rfl ?_
    refine A_topi (nI n) (hn) ?_
    refine A_icmp_ge (tgt := 19) dX10_isTask_12 rfl (fun h12 => ?_) (fun h12 => ?_)
    · refine A_iconst (v := 0) dX10_isTask_19 rfl ?_
      exact A_zret dX10_isTask_20 rfl (by decide) (rti (bz_f (by first | exact x_ninL h1 | exact x_ninR (by omega) (by simpa using h12))).symm rfl)
    · refine A_iconst (v := 1) dX10_isTask_15 rfl ?_
      refine A_goto (tgt := 20) dX10_isTask_16 rfl ?_
      exact A_zret dX10_isTask_20 rfl (by decide) (rti (bz_t ⟨a1, by have q := Classical.not_not.mp (show ¬ ¬ x < nI n by simpa using h12); rw [Int32.lt_iff_toInt_lt, nI_toInt (by omega)] at q; exact q⟩).symm rfl)
