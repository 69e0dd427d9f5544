/-! the class reads words -/
theorem Lt_0 : ∀ w, w < 9 → ∀ k, k < 6 → (Lt w k = 0 ↔ gt_len.getD w 0 ≤ k) := by decide +kernel
theorem Lt_len : ∀ w, w < 9 → gt_len.getD w 0 ≤ 6 := by decide +kernel
theorem Lt_byt : ∀ w, w < 9 → ∀ k, k < gt_len.getD w 0 → (gt_byt.getD w []).getD k 0 = nI (Lt w k) ∧ Lt w k ≤ 127 := by decide +kernel
theorem mW_len {c : Nat → Nat} {b e w : Nat} (hw : w < 9) (hb : b ≤ e) (hl : ∀ i, b ≤ i → i < e → isL (c i)) : mW c b e w ↔ (e - b = gt_len.getD w 0 ∧ ∀ i, i < gt_len.getD w 0 → c (b + i) = Lt w i) := by
  have h6 := Lt_len w hw
  constructor
  · intro h
    have hn : e - b = gt_len.getD w 0 := by
      rcases Nat.lt_trichotomy (e - b) (gt_len.getD w 0) with q | q | q
      · have h1 := h.2 (e - b) (by omega)
        rw [if_neg (by omega)] at h1
        have := (Lt_0 w hw (e - b) (by omega)).mp h1
        omega
      · exact q
      · have h1 := h.2 (gt_len.getD w 0) (by have := h.1; omega)
        rw [if_pos (by omega), (Lt_0 w hw (gt_len.getD w 0) (by have := h.1; omega)).mpr (Nat.le_refl _)] at h1
        have := hl (b + gt_len.getD w 0) (by omega) (by omega)
        omega
    refine ⟨hn, fun i hi => ?_⟩
    have h1 := h.2 i (by omega)
    rw [if_pos (by omega)] at h1
    exact h1.symm
  · rintro ⟨h1, h2⟩
    refine ⟨by omega, fun k hk => ?_⟩
    by_cases q : b + k < e
    · rw [if_pos q]; exact (h2 k (by omega)).symm
    · rw [if_neg q]; exact (Lt_0 w hw k hk).mpr (by omega)
theorem nI_subN {a b : Nat} (h : b ≤ a) : nI a - nI b = nI (a - b) := by
  have e : nI a = nI (a - b) + nI b := by rw [nI_add]; congr 1; omega
  rw [e]
  exact Int32.add_sub_cancel _ _
theorem lx_isWord (f : Mem) (tn : Nat) (c : Nat → Nat) (hT : XTp f tn c) (hc : tcW c tn) (w b e : Nat) (z : Int32) (hw : w < 9) (hb : b ≤ e) (he : e < 2 ^ 29) (hl : ∀ i, b ≤ i → i < e → isL (c i)) (hE : e - b = (gt_len.getD w 0)) : ∀ i, i ≤ (gt_len.getD w 0) → (∀ k, k < i → c (b + k) = Lt w k) → A (cM MX4_isWord 0 0 layT layT (rt (some (.int (bz (mW c b e w)))) (rd 43 2 3 f e z))) 17 [(3, .int (nI i)), (0, .ref 43), (1, .ref (1000 + w)), (2, .int (nI b))] [] (rd 43 2 3 f e z) := by
  have hlen := Lt_len w hw
  refine up_ind (gt_len.getD w 0) (fun i hi ih hi2 => ?_)
  refine A_iload_n dX4_isWord_17 rfl 0 rfl ?_
  refine A_aload_n dX4_isWord_18 rfl 2 rfl ?_
  refine A_callVS (M' := MJ0_length_8abf5) [] [.int (nI i)] hw dX4_isWord_19 lk_RX4_67 oJ0_length_8abf5 iJ0_length_8abf5 rfl rfl rfl ⟨lb rfl, lb rfl⟩ (lb rfl) ⟨lb rfl, lb rfl⟩ (j_length w hw _) ?_
  rintro _ g0 ⟨rfl, hg0⟩
  rw [hg0]
  refine A_icmp_ge (tgt := 51) dX4_isWord_22 rfl (fun h22 => ?_) (fun h22 => ?_)
  · rw [nI_leI (by have := Lt_len w hw; omega) (by have := Lt_len w hw; omega)] at h22
    refine A_iconst (v := 1) dX4_isWord_51 rfl ?_
    exact A_zret dX4_isWord_52 rfl (by decide) (rti (bz_t ((mW_len hw hb hl).mpr ⟨hE, fun k hk => hi2 k (by omega)⟩)).symm rfl)
  · rw [nI_leI (by have := Lt_len w hw; omega) (by have := Lt_len w hw; omega)] at h22
    refine A_aload_n dX4_isWord_25 rfl 1 rfl ?_
    refine A_getR (b := 44) dX4_isWord_26 fo_RX4_12 L43 rfl ?_
    refine A_iload_n dX4_isWord_29 rfl 3 rfl ?_
    refine A_iload_n dX4_isWord_30 rfl 0 rfl ?_
    refine A_iadd dX4_isWord_31 ?_
    refine A_topi (nI (b + i)) (nI_add b i) ?_
    refine A_callV (M' := MX8_at) [.int (nI (b + i))] [] 44 dX4_isWord_32 lk_RX4_38 oX8_at iX8_at rfl rfl ⟨lb rfl, lb rfl⟩ (lb rfl) ⟨lb rfl, lb rfl⟩ L44 rfl (x_at _ (hT.rd e z) hc (b + i) (by omega)) ?_
    rintro _ g0 ⟨rfl, hg0⟩
    rw [hg0]
    refine A_aload_n dX4_isWord_35 rfl 2 rfl ?_
    refine A_iload_n dX4_isWord_36 rfl 0 rfl ?_
    refine A_callVS (M' := MJ0_charAt_5068e) [.int (nI i)] [.int (nI (c (b + i)))] hw dX4_isWord_37 lk_RX4_72 oJ0_charAt_5068e iJ0_charAt_5068e rfl rfl rfl ⟨lb rfl, lb rfl⟩ (lb rfl) ⟨lb rfl, lb rfl⟩ (j_charAt w i hw (by omega) _) ?_
    rintro _ g0 ⟨rfl, hg0⟩
    rw [hg0]
    refine A_topi (nI (Lt w i)) (Lt_byt w hw i (by omega)).1 ?_
    refine A_icmp_eq (tgt := 45) dX4_isWord_40 rfl (fun h40 => ?_) (fun h40 => ?_)
    · rw [nI_eq (by have := hc.2.2.2 (b + i); omega) (by have := (Lt_byt w hw i (by omega)).2; omega)] at h40
      refine A_iinc (lv' := [(3, .int (nI (i + 1))), (0, .ref 43), (1, .ref (1000 + w)), (2, .int (nI b))]) dX4_isWord_45 0 rfl (nI_add i 1) (lb rfl) rfl ?_
      refine A_goto (tgt := 17) dX4_isWord_48 rfl ?_
      exact ih (i + 1) (by omega) (by omega) (fun k hk => by rcases Nat.lt_or_ge k i with q | q; exact hi2 k q; rw [show k = i by omega]; exact h40)
    · rw [nI_eq (by have := hc.2.2.2 (b + i); omega) (by have := (Lt_byt w hw i (by omega)).2; omega)] at h40
      refine A_iconst (v := 0) dX4_isWord_43 rfl ?_
      exact A_zret dX4_isWord_44 rfl (by decide) (rti (bz_f (fun q => h40 (((mW_len hw hb hl).mp q).2 i (by omega)))).symm rfl)
theorem x_isWord (f : Mem) (tn : Nat) (c : Nat → Nat) (hT : XTp f tn c) (hc : tcW c tn) (w b e : Nat) (z : Int32) (hw : w < 9) (hb : b ≤ e) (he : e < 2 ^ 29) (hl : ∀ i, b ≤ i → i < e → isL (c i)) : C0 MX4_isWord [.ref 43, .ref (1000 + w), .int (nI b)] (rd 43 2 3 f e z) (rt (some (.int (bz (mW c b e w)))) (rd 43 2 3 f e z)) := by
  have hlen := Lt_len w hw
  refine Ct.of (lv := [(0, .ref 43), (1, .ref (1000 + w)), (2, .int (nI b))]) (by decide) (lb rfl) rfl ?_
  refine A_aload_n dX4_isWord_0 rfl 0 rfl ?_
  refine A_getI dX4_isWord_1 fo_RX4_25 L43 rfl ?_
  refine A_topi (nI e) (rd_a f e z (by decide)) ?_
  refine A_iload_n dX4_isWord_4 rfl 2 rfl ?_
  refine A_isub dX4_isWord_5 ?_
  refine A_topi (nI (e - b)) (nI_subN hb) ?_
  refine A_aload_n dX4_isWord_6 rfl 1 rfl ?_
  refine A_callVS (M' := MJ0_length_8abf5) [] [.int (nI (e - b))] hw dX4_isWord_7 lk_RX4_67 oJ0_length_8abf5 iJ0_length_8abf5 rfl rfl rfl ⟨lb rfl, lb rfl⟩ (lb rfl) ⟨lb rfl, lb rfl⟩ (j_length w hw _) ?_
  rintro _ g0 ⟨rfl, hg0⟩
  rw [hg0]
  refine A_icmp_eq (tgt := 15) dX4_isWord_10 rfl (fun h10 => ?_) (fun h10 => ?_)
  · rw [nI_eq (by omega) (by have := Lt_len w hw; omega)] at h10
    refine A_iconst (v := 0) dX4_isWord_15 rfl ?_
    refine A_istore_n (lv' := [(3, .int 0), (0, .ref 43), (1, .ref (1000 + w)), (2, .int (nI b))]) dX4_isWord_16 rfl (lb rfl) rfl ?_
    exact lx_isWord f tn c hT hc w b e z hw hb he hl h10 0 (by omega) (fun k hk => by omega)
  · rw [nI_eq (by omega) (by have := Lt_len w hw; omega)] at h10
    refine A_iconst (v := 0) dX4_isWord_13 rfl ?_
    exact A_zret dX4_isWord_14 rfl (by decide) (rti (bz_f (fun q => h10 ((mW_len hw hb hl).mp q).1)).symm rfl)
def wP (f : Mem) (c : Nat → Nat) (a : Nat) (A i j : Nat) : Option Value → Mem → Prop := fun r h => if (wD c a (wE c 120 a) 9) = 9 then r = some (.int (-1)) ∧ h = rd A i j f (wE c 120 a) (nI a) else r = some (.int (nI (wD c a (wE c 120 a) 9))) ∧ h = rd A i j f (wE c 120 a) (-1)
theorem L_lo {x : Nat} (h : isL x) : ¬ nI x < 97 := by rw [show (97 : Int32) = nI 97 from rfl, nI_ltI (by omega) (by omega)]; omega
theorem L_no1 {x : Nat} (hx : x ≤ 127) (h : nI x < 97) : ¬ isL x := fun q => L_lo q h
theorem L_no2 {x : Nat} (hx : x ≤ 127) (h : 122 < nI x) : ¬ isL x := fun q => by
  rw [show (122 : Int32) = nI 122 from rfl, nI_ltI (by omega) (by omega)] at h; omega
theorem L_of {x : Nat} (hx : x ≤ 127) (h1 : ¬ nI x < 97) (h2 : ¬ 122 < nI x) : isL x := by
  rw [show (97 : Int32) = nI 97 from rfl, nI_ltI (by omega) (by omega)] at h1
  rw [show (122 : Int32) = nI 122 from rfl, nI_ltI (by omega) (by omega)] at h2
  omega
theorem mW_le {c : Nat → Nat} {tn a : Nat} (hc : tcW c tn) (ha : a < 2 ^ 28) : a ≤ (wE c 120 a) ∧ (wE c 120 a) < 2 ^ 29 := by
  have h := hc.wE a
  refine ⟨h.1, ?_⟩
  rcases hc.wL h with q | q
  · have := hc.1; omega
  · omega
theorem lx_readWord2 (f : Mem) (tn : Nat) (c : Nat → Nat) (hT : XTp f tn c) (hc : tcW c tn) (a : Nat) (ha : a < 2 ^ 28) : ∀ i, i ≤ 9 → (∀ v, v < i → ¬ mW c a (wE c 120 a) v) → A (cM MX4_readWord 0 0 layT layT (wP f c a 43 2 3)) 63 [(2, .int (nI i)), (1, .int (nI a)), (0, .ref 43)] [] (rd 43 2 3 f (wE c 120 a) (-1)) := by
  refine up_ind 9 (fun i hi ih hi2 => ?_)
  refine A_iload_n dX4_readWord_63 rfl 0 rfl ?_
  refine A_bipush (v := 9) dX4_readWord_64 rfl ?_
  refine A_icmp_ge (tgt := 89) dX4_readWord_66 rfl (fun h66 => ?_) (fun h66 => ?_)
  · rw [show (9 : Int32) = nI 9 from rfl, nI_leI (by omega) (by omega)] at h66
    refine A_aload_n dX4_readWord_89 rfl 2 rfl ?_
    refine A_iload_n dX4_readWord_90 rfl 1 rfl ?_
    refine A_putI dX4_readWord_91 fo_RX4_29 L43 rfl ?_
    refine A_eq rfl rfl (f' := rd 43 2 3 f (wE c 120 a) (nI a)) (rd_uz f (wE c 120 a) (-1) (nI a)) ?_
    refine A_iconst (v := -1) dX4_readWord_94 rfl ?_
    exact A_iret dX4_readWord_95 rfl (by unfold wP; rw [wD_no 9 (fun v hv => hi2 v (by omega)), if_pos rfl]; exact ⟨rfl, rfl⟩)
  · rw [show (9 : Int32) = nI 9 from rfl, nI_leI (by omega) (by omega)] at h66
    refine A_aload_n dX4_readWord_69 rfl 2 rfl ?_
    refine A_iload_n dX4_readWord_70 rfl 0 rfl ?_
    refine A_callS (M' := MX4_wordOf) [.int (nI i)] [.ref 43] dX4_readWord_71 lk_RX4_59 oX4_wordOf sX4_wordOf rfl rfl ⟨lb rfl, lb rfl⟩ (lb rfl) ⟨lb rfl, lb rfl⟩ (x_wordOf i (by omega) _) ?_
    rintro _ g0 ⟨rfl, hg0⟩
    rw [hg0]
    refine A_iload_n dX4_readWord_74 rfl 1 rfl ?_
    refine A_callV (M' := MX4_isWord) [.ref (1000 + i), .int (nI a)] [] 43 dX4_readWord_75 lk_RX4_63 oX4_isWord iX4_isWord rfl rfl ⟨lb rfl, lb rfl⟩ (lb rfl) ⟨lb rfl, lb rfl⟩ L43 rfl (x_isWord f tn c hT hc i a (wE c 120 a) (-1) (by omega) (hc.wE a).1 (mW_le hc ha).2 (hc.wE a).2.1) ?_
    rintro _ g0 ⟨rfl, hg0⟩
    rw [hg0]
    refine A_if_eq (tgt := 83) dX4_readWord_78 rfl (fun h78 => ?_) (fun h78 => ?_)
    · refine A_iinc (lv' := [(2, .int (nI (i + 1))), (1, .int (nI a)), (0, .ref 43)]) dX4_readWord_83 0 rfl (nI_add i 1) (lb rfl) rfl ?_
      refine A_goto (tgt := 63) dX4_readWord_86 rfl ?_
      exact ih (i + 1) (by omega) (by omega) (fun v hv => by rcases Nat.lt_or_ge v i with q | q; exact hi2 v q; rw [show v = i by omega]; exact bz_0.mp h78)
    · refine A_iload_n dX4_readWord_81 rfl 0 rfl ?_
      exact A_iret dX4_readWord_82 rfl (by unfold wP; rw [wD_yes (bz_n0.mp h78) (by omega) 9 (by omega) (by omega), if_neg (by omega)]; exact ⟨rfl, rfl⟩)
theorem lx_readWord1 (f : Mem) (tn : Nat) (c : Nat → Nat) (hT : XTp f tn c) (hc : tcW c tn) (a : Nat) (ha : a < 2 ^ 28) : ∀ i, i ≤ 120 → (∀ k, a ≤ k → k < a + i → isL (c k)) → A (cM MX4_readWord 0 0 layT layT (wP f c a 43 2 3)) 7 [(2, .int (nI i)), (1, .int (nI a)), (0, .ref 43)] [] (rd 43 2 3 f (a + i) (-1)) := by
  refine up_ind 120 (fun i hi ih hi2 => ?_)
  refine A_iload_n dX4_readWord_7 rfl 0 rfl ?_
  refine A_bipush (v := 120) dX4_readWord_8 rfl ?_
  refine A_icmp_ge (tgt := 61) dX4_readWord_10 rfl (fun h10 => ?_) (fun h10 => ?_)
  · have hno : ¬ isL (c (a + i)) := by rw [show (120 : Int32) = nI 120 from rfl, nI_leI (by omega) (by omega)] at h10; rw [hc.2.1 _ (by have := hc.1; omega)]; decide
    have hE : a + i = wE c 120 a := isWE.uni ⟨by omega, hi2, hno⟩ (hc.wE a)
    rw [hE]
    refine A_iconst (v := 0) dX4_readWord_61 rfl ?_
    refine A_istore_n (lv' := [(2, .int 0), (1, .int (nI a)), (0, .ref 43)]) dX4_readWord_62 rfl (lb rfl) rfl ?_
    exact lx_readWord2 f tn c hT hc a ha 0 (by omega) (fun v hv => by omega)
  · rw [show (120 : Int32) = nI 120 from rfl, nI_leI (by omega) (by omega)] at h10
    refine A_aload_n dX4_readWord_13 rfl 2 rfl ?_
    refine A_getR (b := 44) dX4_readWord_14 fo_RX4_12 L43 rfl ?_
    refine A_aload_n dX4_readWord_17 rfl 2 rfl ?_
    refine A_getI dX4_readWord_18 fo_RX4_25 L43 rfl ?_
    refine A_topi (nI (a + i)) (rd_a f (a + i) (-1) (by decide)) ?_
    refine A_callV (M' := MX8_at) [.int (nI (a + i))] [] 44 dX4_readWord_21 lk_RX4_38 oX8_at iX8_at rfl rfl ⟨lb rfl, lb rfl⟩ (lb rfl) ⟨lb rfl, lb rfl⟩ L44 rfl (x_at _ (hT.rd (a + i) (-1)) hc (a + i) (by omega)) ?_
    rintro _ g0 ⟨rfl, hg0⟩
    rw [hg0]
    refine A_bipush (v := 97) dX4_readWord_24 rfl ?_
    refine A_icmp_lt (tgt := 61) dX4_readWord_26 rfl (fun h26 => ?_) (fun h26 => ?_)
    · have hno : ¬ isL (c (a + i)) := L_no1 (hc.2.2.2 _) h26
      have hE : a + i = wE c 120 a := isWE.uni ⟨by omega, hi2, hno⟩ (hc.wE a)
      rw [hE]
      refine A_iconst (v := 0) dX4_readWord_61 rfl ?_
      refine A_istore_n (lv' := [(2, .int 0), (1, .int (nI a)), (0, .ref 43)]) dX4_readWord_62 rfl (lb rfl) rfl ?_
      exact lx_readWord2 f tn c hT hc a ha 0 (by omega) (fun v hv => by omega)
    · refine A_aload_n dX4_readWord_29 rfl 2 rfl ?_
      refine A_getR (b := 44) dX4_readWord_30 fo_RX4_12 L43 rfl ?_
      refine A_aload_n dX4_readWord_33 rfl 2 rfl ?_
      refine A_getI dX4_readWord_34 fo_RX4_25 L43 rfl ?_
      refine A_topi (nI (a + i)) (rd_a f (a + i) (-1) (by decide)) ?_
      refine A_callV (M' := MX8_at) [.int (nI (a + i))] [] 44 dX4_readWord_37 lk_RX4_38 oX8_at iX8_at rfl rfl ⟨lb rfl, lb rfl⟩ (lb rfl) ⟨lb rfl, lb rfl⟩ L44 rfl (x_at _ (hT.rd (a + i) (-1)) hc (a + i) (by omega)) ?_
      rintro _ g0 ⟨rfl, hg0⟩
      rw [hg0]
      refine A_bipush (v := 122) dX4_readWord_40 rfl ?_
      refine A_icmp_gt (tgt := 61) dX4_readWord_42 rfl (fun h42 => ?_) (fun h42 => ?_)
      · have hno : ¬ isL (c (a + i)) := L_no2 (hc.2.2.2 _) h42
        have hE : a + i = wE c 120 a := isWE.uni ⟨by omega, hi2, hno⟩ (hc.wE a)
        rw [hE]
        refine A_iconst (v := 0) dX4_readWord_61 rfl ?_
        refine A_istore_n (lv' := [(2, .int 0), (1, .int (nI a)), (0, .ref 43)]) dX4_readWord_62 rfl (lb rfl) rfl ?_
        exact lx_readWord2 f tn c hT hc a ha 0 (by omega) (fun v hv => by omega)
      · refine A_aload_n dX4_readWord_45 rfl 2 rfl ?_
        refine A_dup dX4_readWord_46 rfl ?_
        refine A_getI dX4_readWord_47 fo_RX4_25 L43 rfl ?_
        refine A_topi (nI (a + i)) (rd_a f (a + i) (-1) (by decide)) ?_
        refine A_iconst (v := 1) dX4_readWord_50 rfl ?_
        refine A_iadd dX4_readWord_51 ?_
        refine A_putI dX4_readWord_52 fo_RX4_25 L43 rfl ?_
        refine A_eq rfl rfl (f' := rd 43 2 3 f (a + i + 1) (-1)) (rd_ua f (a + i) (a + i + 1) (-1) (by decide) (by simp only [lit, nI_add, pk_mul, Nat.add_zero])) ?_
        refine A_iinc (lv' := [(2, .int (nI (i + 1))), (1, .int (nI a)), (0, .ref 43)]) dX4_readWord_55 0 rfl (nI_add i 1) (lb rfl) rfl ?_
        refine A_goto (tgt := 7) dX4_readWord_58 rfl ?_
        exact ih (i + 1) (by omega) (by omega) (fun k h1 h2 => by rcases Nat.lt_or_ge k (a + i) with q | q; exact hi2 k h1 q; rw [show k = a + i by omega]; exact L_of (hc.2.2.2 _) h26 h42)
theorem x_readWord (f : Mem) (tn : Nat) (c : Nat → Nat) (hT : XTp f tn c) (hc : tcW c tn) (a : Nat) (ha : a < 2 ^ 28) : C0 MX4_readWord [.ref 43] (rd 43 2 3 f a (-1)) (wP f c a 43 2 3) := by
  refine Ct.of (lv := [(0, .ref 43)]) (by decide) (lb rfl) rfl ?_
  refine A_aload_n dX4_readWord_0 rfl 0 rfl ?_
  refine A_getI dX4_readWord_1 fo_RX4_25 L43 rfl ?_
  refine A_topi (nI a) (rd_a f a (-1) (by decide)) ?_
  refine A_istore_n (lv' := [(1, .int (nI a)), (0, .ref 43)]) dX4_readWord_4 rfl (lb rfl) rfl ?_
  refine A_iconst (v := 0) dX4_readWord_5 rfl ?_
  refine A_istore_n (lv' := [(2, .int 0), (1, .int (nI a)), (0, .ref 43)]) dX4_readWord_6 rfl (lb rfl) rfl ?_
  exact lx_readWord1 f tn c hT hc a ha 0 (by omega) (fun k h1 h2 => by omega)
