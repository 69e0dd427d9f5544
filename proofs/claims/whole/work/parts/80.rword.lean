/-! the reference reads words -/
abbrev mWk (c : Nat → Nat) (b e w n : Nat) : Prop := e ≤ b + 6 ∧ ∀ k, k < n → Lt w k = if b + k < e then c (b + k) else 0
theorem mWk_s {c : Nat → Nat} {b e w n : Nat} (h : mWk c b e w n) : mWk c b e w (n + 1) ↔ Lt w n = if b + n < e then c (b + n) else 0 := by
  refine ⟨fun q => q.2 n (by omega), fun q => ⟨h.1, fun k hk => ?_⟩⟩
  rcases Nat.lt_or_ge k n with g | g
  · exact h.2 k g
  · rw [show k = n by omega]; exact q
theorem mWk_6 {c : Nat → Nat} {b e w n : Nat} (h : ¬ mWk c b e w n) (hn : n ≤ 6) : ¬ mW c b e w := fun q => h ⟨q.1, fun k hk => q.2 k (by omega)⟩
theorem L_tn {c : Nat → Nat} {tn i : Nat} (hc : tcW c tn) (h : isL (c i)) : i < tn := by
  refine Nat.not_le.mp (fun q => ?_)
  rw [hc.2.1 i q] at h
  exact absurd h (by decide)
theorem Lt_b : ∀ w, w < 9 → ∀ k, k < 6 → Lt w k ≤ 127 := by decide +kernel
theorem lc_isWord (f : Mem) (tn : Nat) (c : Nat → Nat) (hT : RTp f tn c) (hc : tcW c tn) (hA : RA f) (w b e : Nat) (z : Int32) (hw : w < 9) (hb : b ≤ e) (he : e < 2 ^ 29) (hl : ∀ i, b ≤ i → i < e → isL (c i)) : ∀ k, k ≤ 6 → A (cM MX11_isWord 0 0 layT layT (rt (some (.int (bz (mW c b e w)))) (rd 93 10 11 f e z))) 20 [(4, .int (nI k)), (3, .int (bz (mWk c b e w k))), (0, .ref 93), (1, .int (nI w)), (2, .int (nI b))] [] (rd 93 10 11 f e z) := by
  refine up_ind 6 (fun k hi ih => ?_)
  refine A_iload dX11_isWord_20 0 rfl ?_
  refine A_bipush (v := 6) dX11_isWord_22 rfl ?_
  refine A_icmp_ge (tgt := 82) dX11_isWord_24 rfl (fun h24 => ?_) (fun h24 => ?_)
  · rw [show (6 : Int32) = nI 6 from rfl, nI_leI (by omega) (by omega)] at h24
    refine A_iload_n dX11_isWord_82 rfl 1 rfl ?_
    exact A_zret dX11_isWord_83 rfl (bz_01 _) (rti (by first | exact (show _ = _ from by rw [show k = 6 by omega]) | exact (bz_0.mpr (bz_0.mp h28)).trans (bz_f (mWk_6 (bz_0.mp h28) (by omega))).symm) rfl)
  · rw [show (6 : Int32) = nI 6 from rfl, nI_leI (by omega) (by omega)] at h24
    refine A_iload_n dX11_isWord_27 rfl 1 rfl ?_
    refine A_if_eq (tgt := 82) dX11_isWord_28 rfl (fun h28 => ?_) (fun h28 => ?_)
    · refine A_iload_n dX11_isWord_82 rfl 1 rfl ?_
      exact A_zret dX11_isWord_83 rfl (bz_01 _) (rti (by first | exact (show _ = _ from by rw [show k = 6 by omega]) | exact (bz_0.mpr (bz_0.mp h28)).trans (bz_f (mWk_6 (bz_0.mp h28) (by omega))).symm) rfl)
    · refine A_aload_n dX11_isWord_31 rfl 2 rfl ?_
      refine A_getR (b := 101) dX11_isWord_32 fo_RX11_31 L93 rfl ?_
      refine A_bipush (v := 6) dX11_isWord_35 rfl ?_
      refine A_iload_n dX11_isWord_37 rfl 3 rfl ?_
      refine A_imul dX11_isWord_38 ?_
      refine A_iload dX11_isWord_39 0 rfl ?_
      refine A_iadd dX11_isWord_41 ?_
      refine A_iaload (6 * w + k) dX11_isWord_42 L101 (by simp only [lit, nI_add, pk_mul]) (by have := hc.1; omega) (lb rfl) ?_
      refine A_topi (f 101 (6 * w + k)) (congrFun (rd_o f e z (by decide)) _) ?_
      refine A_topi (nI (Lt w k)) (hA _ (by omega)) ?_
      refine A_iload_n dX11_isWord_43 rfl 4 rfl ?_
      refine A_iload dX11_isWord_44 0 rfl ?_
      refine A_iadd dX11_isWord_46 ?_
      refine A_topi (nI (b + k)) (nI_add b k) ?_
      refine A_aload_n dX11_isWord_47 rfl 2 rfl ?_
      refine A_getI dX11_isWord_48 fo_RX11_89 L93 rfl ?_
      refine A_topi (nI e) (rd_a f e z (by decide)) ?_
      refine A_icmp_ge (tgt := 66) dX11_isWord_51 rfl (fun h51 => ?_) (fun h51 => ?_)
      · rw [nI_leI (by omega) (by omega)] at h51
        refine A_iconst (v := 0) dX11_isWord_66 rfl ?_
        refine A_icmp_ne (tgt := 74) dX11_isWord_67 rfl (fun h67 => ?_) (fun h67 => ?_)
        · first
            | rw [show (0 : Int32) = nI 0 from rfl, nI_eq (by have := Lt_b w hw k (by omega); omega) (by decide)] at h67
            | rw [nI_eq (by have := Lt_b w hw k (by omega); omega) (by have := hc.2.2.2 (b + k); omega)] at h67
          refine A_iconst (v := 0) dX11_isWord_74 rfl ?_
          refine A_istore_n (lv' := [(3, .int 0), (4, .int (nI k)), (0, .ref 93), (1, .int (nI w)), (2, .int (nI b))]) dX11_isWord_75 rfl (lb rfl) rfl ?_
          refine A_iinc (lv' := [(4, .int (nI (k + 1))), (3, .int 0), (0, .ref 93), (1, .int (nI w)), (2, .int (nI b))]) dX11_isWord_76 1 rfl (nI_add k 1) (lb rfl) rfl ?_
          refine A_goto (tgt := 20) dX11_isWord_79 rfl ?_
          have hs : ¬ mWk c b e w (k + 1) := fun q => h67 (by have q2 := (mWk_s (bz_n0.mp h28)).mp q; first | (rw [if_neg (by omega)] at q2; exact q2) | (rw [if_pos (by omega)] at q2; exact q2))
          have r := ih (k + 1) (by omega) (by omega)
          rw [bz_f hs] at r
          refine A_sub [0, 1, 2, 3, 4] rfl ?_
          exact r
        · first
            | rw [show (0 : Int32) = nI 0 from rfl, nI_eq (by have := Lt_b w hw k (by omega); omega) (by decide)] at h67
            | rw [nI_eq (by have := Lt_b w hw k (by omega); omega) (by have := hc.2.2.2 (b + k); omega)] at h67
          refine A_iconst (v := 1) dX11_isWord_70 rfl ?_
          refine A_goto (tgt := 75) dX11_isWord_71 rfl ?_
          refine A_istore_n (lv' := [(3, .int 1), (4, .int (nI k)), (0, .ref 93), (1, .int (nI w)), (2, .int (nI b))]) dX11_isWord_75 rfl (lb rfl) rfl ?_
          refine A_iinc (lv' := [(4, .int (nI (k + 1))), (3, .int 1), (0, .ref 93), (1, .int (nI w)), (2, .int (nI b))]) dX11_isWord_76 1 rfl (nI_add k 1) (lb rfl) rfl ?_
          refine A_goto (tgt := 20) dX11_isWord_79 rfl ?_
          have hs : mWk c b e w (k + 1) := (mWk_s (bz_n0.mp h28)).mpr (by first | (rw [if_neg (by omega)]; exact h67) | (rw [if_pos (by omega)]; exact h67))
          have r := ih (k + 1) (by omega) (by omega)
          rw [bz_t hs] at r
          refine A_sub [0, 1, 2, 3, 4] rfl ?_
          exact r
      · rw [nI_leI (by omega) (by omega)] at h51
        have htn : b + k < tn := L_tn hc (hl (b + k) (by omega) (by omega))
        refine A_aload_n dX11_isWord_54 rfl 2 rfl ?_
        refine A_getR (b := 99) dX11_isWord_55 fo_RX11_25 L93 rfl ?_
        refine A_iload_n dX11_isWord_58 rfl 4 rfl ?_
        refine A_iload dX11_isWord_59 0 rfl ?_
        refine A_iadd dX11_isWord_61 ?_
        refine A_iaload (b + k) dX11_isWord_62 L99 (by simp only [lit, nI_add, pk_mul]) (by have := hc.1; omega) (lb rfl) ?_
        refine A_topi (f 99 (b + k)) (congrFun (rd_o f e z (by decide)) _) ?_
        refine A_topi (nI (c (b + k))) (hT.2 _ htn) ?_
        refine A_goto (tgt := 67) dX11_isWord_63 rfl ?_
        refine A_icmp_ne (tgt := 74) dX11_isWord_67 rfl (fun h67 => ?_) (fun h67 => ?_)
        · first
            | rw [show (0 : Int32) = nI 0 from rfl, nI_eq (by have := Lt_b w hw k (by omega); omega) (by decide)] at h67
            | rw [nI_eq (by have := Lt_b w hw k (by omega); omega) (by have := hc.2.2.2 (b + k); omega)] at h67
          refine A_iconst (v := 0) dX11_isWord_74 rfl ?_
          refine A_istore_n (lv' := [(3, .int 0), (4, .int (nI k)), (0, .ref 93), (1, .int (nI w)), (2, .int (nI b))]) dX11_isWord_75 rfl (lb rfl) rfl ?_
          refine A_iinc (lv' := [(4, .int (nI (k + 1))), (3, .int 0), (0, .ref 93), (1, .int (nI w)), (2, .int (nI b))]) dX11_isWord_76 1 rfl (nI_add k 1) (lb rfl) rfl ?_
          refine A_goto (tgt := 20) dX11_isWord_79 rfl ?_
          have hs : ¬ mWk c b e w (k + 1) := fun q => h67 (by have q2 := (mWk_s (bz_n0.mp h28)).mp q; first | (rw [if_neg (by omega)] at q2; exact q2) | (rw [if_pos (by omega)] at q2; exact q2))
          have r := ih (k + 1) (by omega) (by omega)
          rw [bz_f hs] at r
          refine A_sub [0, 1, 2, 3, 4] rfl ?_
          exact r
        · first
            | rw [show (0 : Int32) = nI 0 from rfl, nI_eq (by have := Lt_b w hw k (by omega); omega) (by decide)] at h67
            | rw [nI_eq (by have := Lt_b w hw k (by omega); omega) (by have := hc.2.2.2 (b + k); omega)] at h67
          refine A_iconst (v := 1) dX11_isWord_70 rfl ?_
          refine A_goto (tgt := 75) dX11_isWord_71 rfl ?_
          refine A_istore_n (lv' := [(3, .int 1), (4, .int (nI k)), (0, .ref 93), (1, .int (nI w)), (2, .int (nI b))]) dX11_isWord_75 rfl (lb rfl) rfl ?_
          refine A_iinc (lv' := [(4, .int (nI (k + 1))), (3, .int 1), (0, .ref 93), (1, .int (nI w)), (2, .int (nI b))]) dX11_isWord_76 1 rfl (nI_add k 1) (lb rfl) rfl ?_
          refine A_goto (tgt := 20) dX11_isWord_79 rfl ?_
          have hs : mWk c b e w (k + 1) := (mWk_s (bz_n0.mp h28)).mpr (by first | (rw [if_neg (by omega)]; exact h67) | (rw [if_pos (by omega)]; exact h67))
          have r := ih (k + 1) (by omega) (by omega)
          rw [bz_t hs] at r
          refine A_sub [0, 1, 2, 3, 4] rfl ?_
          exact r
theorem c_isWord (f : Mem) (tn : Nat) (c : Nat → Nat) (hT : RTp f tn c) (hc : tcW c tn) (hA : RA f) (w b e : Nat) (z : Int32) (hw : w < 9) (hb : b ≤ e) (he : e < 2 ^ 29) (hl : ∀ i, b ≤ i → i < e → isL (c i)) : C0 MX11_isWord [.ref 93, .int (nI w), .int (nI b)] (rd 93 10 11 f e z) (rt (some (.int (bz (mW c b e w)))) (rd 93 10 11 f e z)) := by
  refine Ct.of (lv := [(0, .ref 93), (1, .int (nI w)), (2, .int (nI b))]) (by decide) (lb rfl) rfl ?_
  refine A_aload_n dX11_isWord_0 rfl 0 rfl ?_
  refine A_getI dX11_isWord_1 fo_RX11_89 L93 rfl ?_
  refine A_topi (nI e) (rd_a f e z (by decide)) ?_
  refine A_iload_n dX11_isWord_4 rfl 2 rfl ?_
  refine A_isub dX11_isWord_5 ?_
  refine A_topi (nI (e - b)) (nI_subN hb) ?_
  refine A_bipush (v := 6) dX11_isWord_6 rfl ?_
  refine A_icmp_gt (tgt := 15) dX11_isWord_8 rfl (fun h8 => ?_) (fun h8 => ?_)
  · rw [show (6 : Int32) = nI 6 from rfl, nI_ltI (by omega) (by omega)] at h8
    refine A_iconst (v := 0) dX11_isWord_15 rfl ?_
    refine A_istore_n (lv' := [(3, .int 0), (0, .ref 93), (1, .int (nI w)), (2, .int (nI b))]) dX11_isWord_16 rfl (lb rfl) rfl ?_
    refine A_iconst (v := 0) dX11_isWord_17 rfl ?_
    refine A_istore (lv' := [(4, .int 0), (3, .int 0), (0, .ref 93), (1, .int (nI w)), (2, .int (nI b))]) dX11_isWord_18 (lb rfl) rfl ?_
    have r := lc_isWord f tn c hT hc hA w b e z hw hb he hl 0 (by omega)
    rw [show bz (mWk c b e w 0) = 0 from bz_f (fun q => by have := q.1; omega)] at r
    refine A_sub [0, 1, 2, 3, 4] rfl ?_
    exact r
  · rw [show (6 : Int32) = nI 6 from rfl, nI_ltI (by omega) (by omega)] at h8
    refine A_iconst (v := 1) dX11_isWord_11 rfl ?_
    refine A_goto (tgt := 16) dX11_isWord_12 rfl ?_
    refine A_istore_n (lv' := [(3, .int 1), (0, .ref 93), (1, .int (nI w)), (2, .int (nI b))]) dX11_isWord_16 rfl (lb rfl) rfl ?_
    refine A_iconst (v := 0) dX11_isWord_17 rfl ?_
    refine A_istore (lv' := [(4, .int 0), (3, .int 1), (0, .ref 93), (1, .int (nI w)), (2, .int (nI b))]) dX11_isWord_18 (lb rfl) rfl ?_
    have r := lc_isWord f tn c hT hc hA w b e z hw hb he hl 0 (by omega)
    rw [show bz (mWk c b e w 0) = 1 from bz_t ⟨by omega, fun k hk => absurd hk (by omega)⟩] at r
    refine A_sub [0, 1, 2, 3, 4] rfl ?_
    exact r
def fd (w : Nat) : Int32 := if w = 9 then -1 else nI w
theorem wD_s (c : Nat → Nat) (b e i : Nat) : wD c b e (i + 1) = if mW c b e i then i else wD c b e i := rfl
theorem fd_n {w : Nat} (h : w ≤ 9) : fd w < 0 ↔ w = 9 := by
  unfold fd
  by_cases q : w = 9
  · rw [if_pos q]; exact ⟨fun _ => q, fun _ => by decide⟩
  · rw [if_neg q]; exact ⟨fun h => absurd h (nI_nneg (by omega)), fun h => absurd h q⟩
theorem lc_word2 (f : Mem) (tn : Nat) (c : Nat → Nat) (hT : RTp f tn c) (hc : tcW c tn) (hA : RA f) (a : Nat) (ha : a < 2 ^ 28) : ∀ i, i ≤ 9 → A (cM MX11_word 0 0 layT layT (wP f c a 93 10 11)) 39 [(3, .int (nI i)), (2, .int (fd (wD c a (wE c 120 a) i))), (1, .int (nI a)), (0, .ref 93)] [] (rd 93 10 11 f (wE c 120 a) (-1)) := by
  refine up_ind 9 (fun i hi ih => ?_)
  refine A_iload_n dX11_word_39 rfl 0 rfl ?_
  refine A_bipush (v := 9) dX11_word_40 rfl ?_
  refine A_icmp_ge (tgt := 66) dX11_word_42 rfl (fun h42 => ?_) (fun h42 => ?_)
  · rw [show (9 : Int32) = nI 9 from rfl, nI_leI (by omega) (by omega)] at h42
    have ei : i = 9 := by omega
    subst ei
    refine A_aload_n dX11_word_66 rfl 3 rfl ?_
    refine A_iload_n dX11_word_67 rfl 1 rfl ?_
    refine A_if_lt (tgt := 75) dX11_word_68 rfl (fun h68 => ?_) (fun h68 => ?_)
    · rw [fd_n (wD_lt 9 (Nat.le_refl _))] at h68
      refine A_iconst (v := 0) dX11_word_75 rfl ?_
      refine A_iload_n dX11_word_76 rfl 2 rfl ?_
      refine A_callV (M' := MX11_must) [.int 0, .int (nI a)] [] 93 dX11_word_77 lk_RX11_99 oX11_must iX11_must rfl rfl ⟨lb rfl, lb rfl⟩ (lb rfl) ⟨lb rfl, lb rfl⟩ L93 rfl (c_must2 f (wE c 120 a) 0 (nI a) rfl) ?_
      rintro _ g0 ⟨rfl, hg0⟩
      rw [hg0]
      refine A_iload_n dX11_word_80 rfl 1 rfl ?_
      exact A_iret dX11_word_81 rfl (by unfold wP; first | (rw [if_pos h68]; exact ⟨by rw [fd, if_pos h68], rfl⟩) | (rw [if_neg h68]; exact ⟨by rw [fd, if_neg h68], rfl⟩))
    · rw [fd_n (wD_lt 9 (Nat.le_refl _))] at h68
      refine A_iconst (v := 1) dX11_word_71 rfl ?_
      refine A_goto (tgt := 76) dX11_word_72 rfl ?_
      refine A_iload_n dX11_word_76 rfl 2 rfl ?_
      refine A_callV (M' := MX11_must) [.int 1, .int (nI a)] [] 93 dX11_word_77 lk_RX11_99 oX11_must iX11_must rfl rfl ⟨lb rfl, lb rfl⟩ (lb rfl) ⟨lb rfl, lb rfl⟩ L93 rfl (c_must1 f (wE c 120 a) 1 (nI a) (by decide)) ?_
      rintro _ g0 ⟨rfl, hg0⟩
      rw [hg0]
      refine A_iload_n dX11_word_80 rfl 1 rfl ?_
      exact A_iret dX11_word_81 rfl (by unfold wP; first | (rw [if_pos h68]; exact ⟨by rw [fd, if_pos h68], rfl⟩) | (rw [if_neg h68]; exact ⟨by rw [fd, if_neg h68], rfl⟩))
  · rw [show (9 : Int32) = nI 9 from rfl, nI_leI (by omega) (by omega)] at h42
    refine A_aload_n dX11_word_45 rfl 3 rfl ?_
    refine A_iload_n dX11_word_46 rfl 0 rfl ?_
    refine A_iload_n dX11_word_47 rfl 2 rfl ?_
    refine A_callV (M' := MX11_isWord) [.int (nI i), .int (nI a)] [] 93 dX11_word_48 lk_RX11_107 oX11_isWord iX11_isWord rfl rfl ⟨lb rfl, lb rfl⟩ (lb rfl) ⟨lb rfl, lb rfl⟩ L93 rfl (c_isWord f tn c hT hc hA i a (wE c 120 a) (-1) (by omega) (hc.wE a).1 (mW_le hc ha).2 (hc.wE a).2.1) ?_
    rintro _ g0 ⟨rfl, hg0⟩
    rw [hg0]
    refine A_if_eq (tgt := 58) dX11_word_51 rfl (fun h51 => ?_) (fun h51 => ?_)
    · refine A_iload_n dX11_word_58 rfl 1 rfl ?_
      refine A_istore_n (lv' := [(2, .int (fd (wD c a (wE c 120 a) i))), (3, .int (nI i)), (1, .int (nI a)), (0, .ref 93)]) dX11_word_59 rfl (lb rfl) rfl ?_
      refine A_iinc (lv' := [(3, .int (nI (i + 1))), (2, .int (fd (wD c a (wE c 120 a) i))), (1, .int (nI a)), (0, .ref 93)]) dX11_word_60 1 rfl (nI_add i 1) (lb rfl) rfl ?_
      refine A_goto (tgt := 39) dX11_word_63 rfl ?_
      have r := ih (i + 1) (by omega) (by omega)
      rw [wD_s, if_neg (bz_0.mp h51)] at r
      refine A_sub [0, 1, 2, 3] rfl ?_
      exact r
    · refine A_iload_n dX11_word_54 rfl 0 rfl ?_
      refine A_goto (tgt := 59) dX11_word_55 rfl ?_
      refine A_istore_n (lv' := [(2, .int (nI i)), (3, .int (nI i)), (1, .int (nI a)), (0, .ref 93)]) dX11_word_59 rfl (lb rfl) rfl ?_
      refine A_iinc (lv' := [(3, .int (nI (i + 1))), (2, .int (nI i)), (1, .int (nI a)), (0, .ref 93)]) dX11_word_60 1 rfl (nI_add i 1) (lb rfl) rfl ?_
      refine A_goto (tgt := 39) dX11_word_63 rfl ?_
      have r := ih (i + 1) (by omega) (by omega)
      rw [wD_s, if_pos (bz_n0.mp h51), fd, if_neg (by omega)] at r
      refine A_sub [0, 1, 2, 3] rfl ?_
      exact r
theorem lc_word1 (f : Mem) (tn : Nat) (c : Nat → Nat) (hT : RTp f tn c) (hc : tcW c tn) (hA : RA f) (a : Nat) (ha : a < 2 ^ 28) : ∀ i, i ≤ 121 → (∀ k, a ≤ k → k < a + i → isL (c k)) → A (cM MX11_word 0 0 layT layT (wP f c a 93 10 11)) 5 [(1, .int (nI a)), (0, .ref 93)] [] (rd 93 10 11 f (a + i) (-1)) := by
  refine up_ind 121 (fun i hi ih hi2 => ?_)
  refine A_aload_n dX11_word_5 rfl 1 rfl ?_
  refine A_callV (M' := MX11_here) [] [] 93 dX11_word_6 lk_RX11_95 oX11_here iX11_here rfl rfl ⟨lb rfl, lb rfl⟩ (lb rfl) ⟨lb rfl, lb rfl⟩ L93 rfl (c_here f tn c hT hc (a + i) (-1) (by omega)) ?_
  rintro _ g0 ⟨rfl, hg0⟩
  rw [hg0]
  refine A_i2l dX11_word_9 ?_
  refine A_ldc2 dX11_word_10 k_RX11_103 ?_
  refine A_ldc2 dX11_word_13 k_RX11_105 ?_
  refine A_callS (M' := MX11_in) [.long ((hV (c (a + i))).toInt64), .long 97, .long 122] [] dX11_word_16 lk_RX11_64 oX11_in sX11_in rfl rfl ⟨lb rfl, lb rfl⟩ (lb rfl) ⟨lb rfl, lb rfl⟩ (c_in _ _ _ _) ?_
  rintro _ g0 ⟨rfl, hg0⟩
  rw [hg0]
  refine A_topi (bz (isL (c (a + i)))) (bz_c (hV_L _ (by have := hc.2.2.2 (a + i); omega))) ?_
  refine A_if_eq (tgt := 35) dX11_word_19 rfl (fun h19 => ?_) (fun h19 => ?_)
  · have hE : a + i = wE c 120 a := isWE.uni ⟨by omega, hi2, bz_0.mp h19⟩ (hc.wE a)
    rw [hE]
    refine A_iconst (v := -1) dX11_word_35 rfl ?_
    refine A_istore_n (lv' := [(2, .int (-1)), (1, .int (nI a)), (0, .ref 93)]) dX11_word_36 rfl (lb rfl) rfl ?_
    refine A_iconst (v := 0) dX11_word_37 rfl ?_
    refine A_istore_n (lv' := [(3, .int 0), (2, .int (-1)), (1, .int (nI a)), (0, .ref 93)]) dX11_word_38 rfl (lb rfl) rfl ?_
    exact lc_word2 f tn c hT hc hA a ha 0 (by omega)
  · have hL := bz_n0.mp h19
    have htn := L_tn hc hL
    have h120 := hc.1
    refine A_aload_n dX11_word_22 rfl 1 rfl ?_
    refine A_dup dX11_word_23 rfl ?_
    refine A_getI dX11_word_24 fo_RX11_89 L93 rfl ?_
    refine A_topi (nI (a + i)) (rd_a f (a + i) (-1) (by decide)) ?_
    refine A_iconst (v := 1) dX11_word_27 rfl ?_
    refine A_iadd dX11_word_28 ?_
    refine A_putI dX11_word_29 fo_RX11_89 L93 rfl ?_
    refine A_eq rfl rfl (f' := rd 93 10 11 f (a + i + 1) (-1)) (rd_ua f (a + i) (a + i + 1) (-1) (by decide) (by simp only [lit, nI_add, pk_mul, Nat.add_zero])) ?_
    refine A_goto (tgt := 5) dX11_word_32 rfl ?_
    exact ih (i + 1) (by omega) (by omega) (fun k h1 h2 => by rcases Nat.lt_or_ge k (a + i) with q | q; exact hi2 k h1 q; rw [show k = a + i by omega]; exact hL)
theorem c_word (f : Mem) (tn : Nat) (c : Nat → Nat) (hT : RTp f tn c) (hc : tcW c tn) (hA : RA f) (a : Nat) (ha : a < 2 ^ 28) : C0 MX11_word [.ref 93] (rd 93 10 11 f a (-1)) (wP f c a 93 10 11) := by
  refine Ct.of (lv := [(0, .ref 93)]) (by decide) (lb rfl) rfl ?_
  refine A_aload_n dX11_word_0 rfl 0 rfl ?_
  refine A_getI dX11_word_1 fo_RX11_89 L93 rfl ?_
  refine A_topi (nI a) (rd_a f a (-1) (by decide)) ?_
  refine A_istore_n (lv' := [(1, .int (nI a)), (0, .ref 93)]) dX11_word_4 rfl (lb rfl) rfl ?_
  exact lc_word1 f tn c hT hc hA a ha 0 (by omega) (fun k h1 h2 => by omega)
