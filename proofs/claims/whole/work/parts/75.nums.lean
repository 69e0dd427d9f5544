/-! the class reads numbers -/
theorem x_tf2r (f : Mem) (tn : Nat) (c : Nat → Nat) (hT : XTp f tn c) (hc : tcW c tn) {v q : Nat} (a : Nat) (ha : a < 2 ^ 30) (e : fg 2 c a = .inr (v, q)) : C0 MX4_takeFigures [.ref 43, .int 2] (rd 43 2 3 f a (-1)) (rt (some (.int (nI v))) (rd 43 2 3 f q (-1))) := by
  have h := x_tf 2 (.inr rfl) f tn c hT hc a ha
  rw [e] at h
  exact h
theorem x_tf1r (f : Mem) (tn : Nat) (c : Nat → Nat) (hT : XTp f tn c) (hc : tcW c tn) {v q : Nat} (a : Nat) (ha : a < 2 ^ 30) (e : fg 1 c a = .inr (v, q)) : C0 MX4_takeFigures [.ref 43, .int 1] (rd 43 2 3 f a (-1)) (rt (some (.int (nI v))) (rd 43 2 3 f q (-1))) := by
  have h := x_tf 1 (.inl rfl) f tn c hT hc a ha
  rw [e] at h
  exact h
theorem x_tf2l (f : Mem) (tn : Nat) (c : Nat → Nat) (hT : XTp f tn c) (hc : tcW c tn) {z : Nat} (a : Nat) (ha : a < 2 ^ 30) (e : fg 2 c a = .inl z) : C0 MX4_takeFigures [.ref 43, .int 2] (rd 43 2 3 f a (-1)) (rt (some (.int 0)) (rd 43 2 3 f a (nI a))) := by
  have h := x_tf 2 (.inr rfl) f tn c hT hc a ha
  rw [e] at h
  exact h
theorem x_tf1l (f : Mem) (tn : Nat) (c : Nat → Nat) (hT : XTp f tn c) (hc : tcW c tn) {z : Nat} (a : Nat) (ha : a < 2 ^ 30) (e : fg 1 c a = .inl z) : C0 MX4_takeFigures [.ref 43, .int 1] (rd 43 2 3 f a (-1)) (rt (some (.int 0)) (rd 43 2 3 f a (nI a))) := by
  have h := x_tf 1 (.inl rfl) f tn c hT hc a ha
  rw [e] at h
  exact h
theorem fg_1 {c : Nat → Nat} {a v q : Nat} (e : fg 1 c a = .inr (v, q)) : q = a + 1 := by
  obtain ⟨_, ⟨h, _⟩ | ⟨_, _, h⟩⟩ := fg_r e
  · exact absurd h (by decide)
  · exact h
theorem nI_suc (a : Nat) : nI (a + 1) - 1 = nI a := nI_pred a
theorem x_rf3z (f : Mem) (a : Nat) (z : Int32) (hz : ¬ z = -1) : C0 MX4_readFigureBelow [.ref 43, .int 3] (rd 43 2 3 f a z) (rt (some (.int 0)) (rd 43 2 3 f a z)) := by
  refine Ct.of (lv := [(0, .ref 43), (1, .int 3)]) (by decide) (lb rfl) rfl ?_
  refine A_aload_n dX4_readFigureBelow_0 rfl 0 rfl ?_
  refine A_callV (M' := MX4_readBlank) [] [] 43 dX4_readFigureBelow_1 lk_RX4_94 oX4_readBlank iX4_readBlank rfl rfl ⟨lb rfl, lb rfl⟩ (lb rfl) ⟨lb rfl, lb rfl⟩ L43 rfl (x_rb0 f a z hz) ?_
  rintro _ g0 ⟨rfl, hg0⟩
  rw [hg0]
  refine A_aload_n dX4_readFigureBelow_4 rfl 0 rfl ?_
  refine A_iconst (v := 1) dX4_readFigureBelow_5 rfl ?_
  refine A_callV (M' := MX4_takeFigures) [.int 1] [] 43 dX4_readFigureBelow_6 lk_RX4_97 oX4_takeFigures iX4_takeFigures rfl rfl ⟨lb rfl, lb rfl⟩ (lb rfl) ⟨lb rfl, lb rfl⟩ L43 rfl (x_tf1z f a z hz) ?_
  rintro _ g0 ⟨rfl, hg0⟩
  rw [hg0]
  refine A_istore_n (lv' := [(2, .int 0), (0, .ref 43), (1, .int 3)]) dX4_readFigureBelow_9 rfl (lb rfl) rfl ?_
  refine A_aload_n dX4_readFigureBelow_10 rfl 1 rfl ?_
  refine A_iload_n dX4_readFigureBelow_11 rfl 0 rfl ?_
  refine A_iload_n dX4_readFigureBelow_12 rfl 2 rfl ?_
  refine A_iconst (v := 1) dX4_readFigureBelow_13 rfl ?_
  refine A_isub dX4_readFigureBelow_14 ?_
  refine A_topi (2) (by decide) ?_
  refine A_aload_n dX4_readFigureBelow_15 rfl 1 rfl ?_
  refine A_getI dX4_readFigureBelow_16 fo_RX4_25 L43 rfl ?_
  refine A_topi (nI a) (rd_a f a z (by decide)) ?_
  refine A_iconst (v := 1) dX4_readFigureBelow_19 rfl ?_
  refine A_isub dX4_readFigureBelow_20 ?_
  refine A_callV (M' := MX4_allowed) [.int 0, .int 2, .int ((nI a) - 1)] [] 43 dX4_readFigureBelow_21 lk_RX4_100 oX4_allowed iX4_allowed rfl rfl ⟨lb rfl, lb rfl⟩ (lb rfl) ⟨lb rfl, lb rfl⟩ L43 rfl (x_al0 f a z 0 2 ((nI a) - 1) hz) ?_
  rintro _ g0 ⟨rfl, hg0⟩
  rw [hg0]
  exact A_iret dX4_readFigureBelow_24 rfl (⟨rfl, rfl⟩)
theorem x_rf31 (f : Mem) (tn : Nat) (c : Nat → Nat) (hT : XTp f tn c) (hc : tcW c tn) (a : Nat) (ha : a < 2 ^ 29) (h : ¬ c a = 32) : C0 MX4_readFigureBelow [.ref 43, .int 3] (rd 43 2 3 f a (-1)) (rt (some (.int 0)) (rd 43 2 3 f a (nI a))) := by
  refine Ct.of (lv := [(0, .ref 43), (1, .int 3)]) (by decide) (lb rfl) rfl ?_
  refine A_aload_n dX4_readFigureBelow_0 rfl 0 rfl ?_
  refine A_callV (M' := MX4_readBlank) [] [] 43 dX4_readFigureBelow_1 lk_RX4_94 oX4_readBlank iX4_readBlank rfl rfl ⟨lb rfl, lb rfl⟩ (lb rfl) ⟨lb rfl, lb rfl⟩ L43 rfl (x_rb2 f tn c hT hc a (by omega) h) ?_
  rintro _ g0 ⟨rfl, hg0⟩
  rw [hg0]
  refine A_aload_n dX4_readFigureBelow_4 rfl 0 rfl ?_
  refine A_iconst (v := 1) dX4_readFigureBelow_5 rfl ?_
  refine A_callV (M' := MX4_takeFigures) [.int 1] [] 43 dX4_readFigureBelow_6 lk_RX4_97 oX4_takeFigures iX4_takeFigures rfl rfl ⟨lb rfl, lb rfl⟩ (lb rfl) ⟨lb rfl, lb rfl⟩ L43 rfl (x_tf1z f a (nI a) (nI_n1 (by omega))) ?_
  rintro _ g0 ⟨rfl, hg0⟩
  rw [hg0]
  refine A_istore_n (lv' := [(2, .int 0), (0, .ref 43), (1, .int 3)]) dX4_readFigureBelow_9 rfl (lb rfl) rfl ?_
  refine A_aload_n dX4_readFigureBelow_10 rfl 1 rfl ?_
  refine A_iload_n dX4_readFigureBelow_11 rfl 0 rfl ?_
  refine A_iload_n dX4_readFigureBelow_12 rfl 2 rfl ?_
  refine A_iconst (v := 1) dX4_readFigureBelow_13 rfl ?_
  refine A_isub dX4_readFigureBelow_14 ?_
  refine A_topi (2) (by decide) ?_
  refine A_aload_n dX4_readFigureBelow_15 rfl 1 rfl ?_
  refine A_getI dX4_readFigureBelow_16 fo_RX4_25 L43 rfl ?_
  refine A_topi (nI a) (rd_a f a (nI a) (by decide)) ?_
  refine A_iconst (v := 1) dX4_readFigureBelow_19 rfl ?_
  refine A_isub dX4_readFigureBelow_20 ?_
  refine A_callV (M' := MX4_allowed) [.int 0, .int 2, .int ((nI a) - 1)] [] 43 dX4_readFigureBelow_21 lk_RX4_100 oX4_allowed iX4_allowed rfl rfl ⟨lb rfl, lb rfl⟩ (lb rfl) ⟨lb rfl, lb rfl⟩ L43 rfl (x_al0 f a (nI a) 0 2 ((nI a) - 1) (nI_n1 (by omega))) ?_
  rintro _ g0 ⟨rfl, hg0⟩
  rw [hg0]
  exact A_iret dX4_readFigureBelow_24 rfl (⟨rfl, rfl⟩)
theorem x_rf32 (f : Mem) (tn : Nat) (c : Nat → Nat) (hT : XTp f tn c) (hc : tcW c tn) (a : Nat) (ha : a < 2 ^ 29) (h : c a = 32) {z : Nat} (e : fg 1 c (a + 1) = .inl z) : C0 MX4_readFigureBelow [.ref 43, .int 3] (rd 43 2 3 f a (-1)) (rt (some (.int 0)) (rd 43 2 3 f (a + 1) (nI (a + 1)))) := by
  refine Ct.of (lv := [(0, .ref 43), (1, .int 3)]) (by decide) (lb rfl) rfl ?_
  refine A_aload_n dX4_readFigureBelow_0 rfl 0 rfl ?_
  refine A_callV (M' := MX4_readBlank) [] [] 43 dX4_readFigureBelow_1 lk_RX4_94 oX4_readBlank iX4_readBlank rfl rfl ⟨lb rfl, lb rfl⟩ (lb rfl) ⟨lb rfl, lb rfl⟩ L43 rfl (x_rb1 f tn c hT hc a (by omega) h) ?_
  rintro _ g0 ⟨rfl, hg0⟩
  rw [hg0]
  refine A_aload_n dX4_readFigureBelow_4 rfl 0 rfl ?_
  refine A_iconst (v := 1) dX4_readFigureBelow_5 rfl ?_
  refine A_callV (M' := MX4_takeFigures) [.int 1] [] 43 dX4_readFigureBelow_6 lk_RX4_97 oX4_takeFigures iX4_takeFigures rfl rfl ⟨lb rfl, lb rfl⟩ (lb rfl) ⟨lb rfl, lb rfl⟩ L43 rfl (x_tf1l f tn c hT hc (a + 1) (by omega) e) ?_
  rintro _ g0 ⟨rfl, hg0⟩
  rw [hg0]
  refine A_istore_n (lv' := [(2, .int 0), (0, .ref 43), (1, .int 3)]) dX4_readFigureBelow_9 rfl (lb rfl) rfl ?_
  refine A_aload_n dX4_readFigureBelow_10 rfl 1 rfl ?_
  refine A_iload_n dX4_readFigureBelow_11 rfl 0 rfl ?_
  refine A_iload_n dX4_readFigureBelow_12 rfl 2 rfl ?_
  refine A_iconst (v := 1) dX4_readFigureBelow_13 rfl ?_
  refine A_isub dX4_readFigureBelow_14 ?_
  refine A_topi (2) (by decide) ?_
  refine A_aload_n dX4_readFigureBelow_15 rfl 1 rfl ?_
  refine A_getI dX4_readFigureBelow_16 fo_RX4_25 L43 rfl ?_
  refine A_topi (nI (a + 1)) (rd_a f (a + 1) (nI (a + 1)) (by decide)) ?_
  refine A_iconst (v := 1) dX4_readFigureBelow_19 rfl ?_
  refine A_isub dX4_readFigureBelow_20 ?_
  refine A_callV (M' := MX4_allowed) [.int 0, .int 2, .int ((nI (a + 1)) - 1)] [] 43 dX4_readFigureBelow_21 lk_RX4_100 oX4_allowed iX4_allowed rfl rfl ⟨lb rfl, lb rfl⟩ (lb rfl) ⟨lb rfl, lb rfl⟩ L43 rfl (x_al0 f (a + 1) (nI (a + 1)) 0 2 ((nI (a + 1)) - 1) (nI_n1 (by omega))) ?_
  rintro _ g0 ⟨rfl, hg0⟩
  rw [hg0]
  exact A_iret dX4_readFigureBelow_24 rfl (⟨rfl, rfl⟩)
theorem x_rf33 (f : Mem) (tn : Nat) (c : Nat → Nat) (hT : XTp f tn c) (hc : tcW c tn) (a : Nat) (ha : a < 2 ^ 29) (h : c a = 32) {v q : Nat} (e : fg 1 c (a + 1) = .inr (v, q)) (hv : v ≤ 2) : C0 MX4_readFigureBelow [.ref 43, .int 3] (rd 43 2 3 f a (-1)) (rt (some (.int (nI v))) (rd 43 2 3 f q (-1))) := by
  have hb := fg_b e
  refine Ct.of (lv := [(0, .ref 43), (1, .int 3)]) (by decide) (lb rfl) rfl ?_
  refine A_aload_n dX4_readFigureBelow_0 rfl 0 rfl ?_
  refine A_callV (M' := MX4_readBlank) [] [] 43 dX4_readFigureBelow_1 lk_RX4_94 oX4_readBlank iX4_readBlank rfl rfl ⟨lb rfl, lb rfl⟩ (lb rfl) ⟨lb rfl, lb rfl⟩ L43 rfl (x_rb1 f tn c hT hc a (by omega) h) ?_
  rintro _ g0 ⟨rfl, hg0⟩
  rw [hg0]
  refine A_aload_n dX4_readFigureBelow_4 rfl 0 rfl ?_
  refine A_iconst (v := 1) dX4_readFigureBelow_5 rfl ?_
  refine A_callV (M' := MX4_takeFigures) [.int 1] [] 43 dX4_readFigureBelow_6 lk_RX4_97 oX4_takeFigures iX4_takeFigures rfl rfl ⟨lb rfl, lb rfl⟩ (lb rfl) ⟨lb rfl, lb rfl⟩ L43 rfl (x_tf1r f tn c hT hc (a + 1) (by omega) e) ?_
  rintro _ g0 ⟨rfl, hg0⟩
  rw [hg0]
  refine A_istore_n (lv' := [(2, .int (nI v)), (0, .ref 43), (1, .int 3)]) dX4_readFigureBelow_9 rfl (lb rfl) rfl ?_
  refine A_aload_n dX4_readFigureBelow_10 rfl 1 rfl ?_
  refine A_iload_n dX4_readFigureBelow_11 rfl 0 rfl ?_
  refine A_iload_n dX4_readFigureBelow_12 rfl 2 rfl ?_
  refine A_iconst (v := 1) dX4_readFigureBelow_13 rfl ?_
  refine A_isub dX4_readFigureBelow_14 ?_
  refine A_topi (2) (by decide) ?_
  refine A_aload_n dX4_readFigureBelow_15 rfl 1 rfl ?_
  refine A_getI dX4_readFigureBelow_16 fo_RX4_25 L43 rfl ?_
  refine A_topi (nI q) (rd_a f q (-1) (by decide)) ?_
  refine A_iconst (v := 1) dX4_readFigureBelow_19 rfl ?_
  refine A_isub dX4_readFigureBelow_20 ?_
  refine A_callV (M' := MX4_allowed) [.int (nI v), .int 2, .int ((nI q) - 1)] [] 43 dX4_readFigureBelow_21 lk_RX4_100 oX4_allowed iX4_allowed rfl rfl ⟨lb rfl, lb rfl⟩ (lb rfl) ⟨lb rfl, lb rfl⟩ L43 rfl (x_al1 f q (nI v) 2 ((nI q) - 1) ((nI_leI (b := 2) (by omega) (by decide)).mpr hv)) ?_
  rintro _ g0 ⟨rfl, hg0⟩
  rw [hg0]
  exact A_iret dX4_readFigureBelow_24 rfl (⟨rfl, rfl⟩)
theorem x_rf34 (f : Mem) (tn : Nat) (c : Nat → Nat) (hT : XTp f tn c) (hc : tcW c tn) (a : Nat) (ha : a < 2 ^ 29) (h : c a = 32) {v q : Nat} (e : fg 1 c (a + 1) = .inr (v, q)) (hv : ¬ v ≤ 2) : C0 MX4_readFigureBelow [.ref 43, .int 3] (rd 43 2 3 f a (-1)) (rt (some (.int (nI v))) (rd 43 2 3 f q (nI (a + 1)))) := by
  have hb := fg_b e
  refine Ct.of (lv := [(0, .ref 43), (1, .int 3)]) (by decide) (lb rfl) rfl ?_
  refine A_aload_n dX4_readFigureBelow_0 rfl 0 rfl ?_
  refine A_callV (M' := MX4_readBlank) [] [] 43 dX4_readFigureBelow_1 lk_RX4_94 oX4_readBlank iX4_readBlank rfl rfl ⟨lb rfl, lb rfl⟩ (lb rfl) ⟨lb rfl, lb rfl⟩ L43 rfl (x_rb1 f tn c hT hc a (by omega) h) ?_
  rintro _ g0 ⟨rfl, hg0⟩
  rw [hg0]
  refine A_aload_n dX4_readFigureBelow_4 rfl 0 rfl ?_
  refine A_iconst (v := 1) dX4_readFigureBelow_5 rfl ?_
  refine A_callV (M' := MX4_takeFigures) [.int 1] [] 43 dX4_readFigureBelow_6 lk_RX4_97 oX4_takeFigures iX4_takeFigures rfl rfl ⟨lb rfl, lb rfl⟩ (lb rfl) ⟨lb rfl, lb rfl⟩ L43 rfl (x_tf1r f tn c hT hc (a + 1) (by omega) e) ?_
  rintro _ g0 ⟨rfl, hg0⟩
  rw [hg0]
  refine A_istore_n (lv' := [(2, .int (nI v)), (0, .ref 43), (1, .int 3)]) dX4_readFigureBelow_9 rfl (lb rfl) rfl ?_
  refine A_aload_n dX4_readFigureBelow_10 rfl 1 rfl ?_
  refine A_iload_n dX4_readFigureBelow_11 rfl 0 rfl ?_
  refine A_iload_n dX4_readFigureBelow_12 rfl 2 rfl ?_
  refine A_iconst (v := 1) dX4_readFigureBelow_13 rfl ?_
  refine A_isub dX4_readFigureBelow_14 ?_
  refine A_topi (2) (by decide) ?_
  refine A_aload_n dX4_readFigureBelow_15 rfl 1 rfl ?_
  refine A_getI dX4_readFigureBelow_16 fo_RX4_25 L43 rfl ?_
  refine A_topi (nI q) (rd_a f q (-1) (by decide)) ?_
  refine A_iconst (v := 1) dX4_readFigureBelow_19 rfl ?_
  refine A_isub dX4_readFigureBelow_20 ?_
  refine A_callV (M' := MX4_allowed) [.int (nI v), .int 2, .int ((nI q) - 1)] [] 43 dX4_readFigureBelow_21 lk_RX4_100 oX4_allowed iX4_allowed rfl rfl ⟨lb rfl, lb rfl⟩ (lb rfl) ⟨lb rfl, lb rfl⟩ L43 rfl (x_al2 f q (nI v) 2 ((nI q) - 1) (fun q => hv ((nI_leI (b := 2) (by omega) (by decide)).mp q))) ?_
  rintro _ g0 ⟨rfl, hg0⟩
  rw [hg0]
  exact A_iret dX4_readFigureBelow_24 rfl (rti rfl (by rw [fg_1 e, nI_suc]))
theorem x_rf3 (f : Mem) (tn : Nat) (c : Nat → Nat) (hT : XTp f tn c) (hc : tcW c tn) (a : Nat) (ha : a < 2 ^ 29) : C0 MX4_readFigureBelow [.ref 43, .int 3] (rd 43 2 3 f a (-1)) (oR 43 2 3 f (nu 1 2 c a)) := by
  unfold nu
  by_cases h : c a = 32
  · rw [if_pos h]
    cases e : fg 1 c (a + 1) with
    | inl z => exact (x_rf32 f tn c hT hc a ha h e).mono (fun r g q => ⟨_, _, q.1, by rw [(fg_l e).1]; exact q.2⟩)
    | inr q =>
      obtain ⟨v, q⟩ := q
      dsimp only
      by_cases hv : v ≤ 2
      · rw [if_pos hv]; exact x_rf33 f tn c hT hc a ha h e hv
      · rw [if_neg hv]; exact (x_rf34 f tn c hT hc a ha h e hv).mono (fun r g q => ⟨_, _, q.1, q.2⟩)
  · rw [if_neg h]; exact (x_rf31 f tn c hT hc a ha h).mono (fun r g q => ⟨_, _, q.1, q.2⟩)
theorem x_rf4z (f : Mem) (a : Nat) (z : Int32) (hz : ¬ z = -1) : C0 MX4_readFigureBelow [.ref 43, .int 4] (rd 43 2 3 f a z) (rt (some (.int 0)) (rd 43 2 3 f a z)) := by
  refine Ct.of (lv := [(0, .ref 43), (1, .int 4)]) (by decide) (lb rfl) rfl ?_
  refine A_aload_n dX4_readFigureBelow_0 rfl 0 rfl ?_
  refine A_callV (M' := MX4_readBlank) [] [] 43 dX4_readFigureBelow_1 lk_RX4_94 oX4_readBlank iX4_readBlank rfl rfl ⟨lb rfl, lb rfl⟩ (lb rfl) ⟨lb rfl, lb rfl⟩ L43 rfl (x_rb0 f a z hz) ?_
  rintro _ g0 ⟨rfl, hg0⟩
  rw [hg0]
  refine A_aload_n dX4_readFigureBelow_4 rfl 0 rfl ?_
  refine A_iconst (v := 1) dX4_readFigureBelow_5 rfl ?_
  refine A_callV (M' := MX4_takeFigures) [.int 1] [] 43 dX4_readFigureBelow_6 lk_RX4_97 oX4_takeFigures iX4_takeFigures rfl rfl ⟨lb rfl, lb rfl⟩ (lb rfl) ⟨lb rfl, lb rfl⟩ L43 rfl (x_tf1z f a z hz) ?_
  rintro _ g0 ⟨rfl, hg0⟩
  rw [hg0]
  refine A_istore_n (lv' := [(2, .int 0), (0, .ref 43), (1, .int 4)]) dX4_readFigureBelow_9 rfl (lb rfl) rfl ?_
  refine A_aload_n dX4_readFigureBelow_10 rfl 1 rfl ?_
  refine A_iload_n dX4_readFigureBelow_11 rfl 0 rfl ?_
  refine A_iload_n dX4_readFigureBelow_12 rfl 2 rfl ?_
  refine A_iconst (v := 1) dX4_readFigureBelow_13 rfl ?_
  refine A_isub dX4_readFigureBelow_14 ?_
  refine A_topi (3) (by decide) ?_
  refine A_aload_n dX4_readFigureBelow_15 rfl 1 rfl ?_
  refine A_getI dX4_readFigureBelow_16 fo_RX4_25 L43 rfl ?_
  refine A_topi (nI a) (rd_a f a z (by decide)) ?_
  refine A_iconst (v := 1) dX4_readFigureBelow_19 rfl ?_
  refine A_isub dX4_readFigureBelow_20 ?_
  refine A_callV (M' := MX4_allowed) [.int 0, .int 3, .int ((nI a) - 1)] [] 43 dX4_readFigureBelow_21 lk_RX4_100 oX4_allowed iX4_allowed rfl rfl ⟨lb rfl, lb rfl⟩ (lb rfl) ⟨lb rfl, lb rfl⟩ L43 rfl (x_al0 f a z 0 3 ((nI a) - 1) hz) ?_
  rintro _ g0 ⟨rfl, hg0⟩
  rw [hg0]
  exact A_iret dX4_readFigureBelow_24 rfl (⟨rfl, rfl⟩)
theorem x_rf41 (f : Mem) (tn : Nat) (c : Nat → Nat) (hT : XTp f tn c) (hc : tcW c tn) (a : Nat) (ha : a < 2 ^ 29) (h : ¬ c a = 32) : C0 MX4_readFigureBelow [.ref 43, .int 4] (rd 43 2 3 f a (-1)) (rt (some (.int 0)) (rd 43 2 3 f a (nI a))) := by
  refine Ct.of (lv := [(0, .ref 43), (1, .int 4)]) (by decide) (lb rfl) rfl ?_
  refine A_aload_n dX4_readFigureBelow_0 rfl 0 rfl ?_
  refine A_callV (M' := MX4_readBlank) [] [] 43 dX4_readFigureBelow_1 lk_RX4_94 oX4_readBlank iX4_readBlank rfl rfl ⟨lb rfl, lb rfl⟩ (lb rfl) ⟨lb rfl, lb rfl⟩ L43 rfl (x_rb2 f tn c hT hc a (by omega) h) ?_
  rintro _ g0 ⟨rfl, hg0⟩
  rw [hg0]
  refine A_aload_n dX4_readFigureBelow_4 rfl 0 rfl ?_
  refine A_iconst (v := 1) dX4_readFigureBelow_5 rfl ?_
  refine A_callV (M' := MX4_takeFigures) [.int 1] [] 43 dX4_readFigureBelow_6 lk_RX4_97 oX4_takeFigures iX4_takeFigures rfl rfl ⟨lb rfl, lb rfl⟩ (lb rfl) ⟨lb rfl, lb rfl⟩ L43 rfl (x_tf1z f a (nI a) (nI_n1 (by omega))) ?_
  rintro _ g0 ⟨rfl, hg0⟩
  rw [hg0]
  refine A_istore_n (lv' := [(2, .int 0), (0, .ref 43), (1, .int 4)]) dX4_readFigureBelow_9 rfl (lb rfl) rfl ?_
  refine A_aload_n dX4_readFigureBelow_10 rfl 1 rfl ?_
  refine A_iload_n dX4_readFigureBelow_11 rfl 0 rfl ?_
  refine A_iload_n dX4_readFigureBelow_12 rfl 2 rfl ?_
  refine A_iconst (v := 1) dX4_readFigureBelow_13 rfl ?_
  refine A_isub dX4_readFigureBelow_14 ?_
  refine A_topi (3) (by decide) ?_
  refine A_aload_n dX4_readFigureBelow_15 rfl 1 rfl ?_
  refine A_getI dX4_readFigureBelow_16 fo_RX4_25 L43 rfl ?_
  refine A_topi (nI a) (rd_a f a (nI a) (by decide)) ?_
  refine A_iconst (v := 1) dX4_readFigureBelow_19 rfl ?_
  refine A_isub dX4_readFigureBelow_20 ?_
  refine A_callV (M' := MX4_allowed) [.int 0, .int 3, .int ((nI a) - 1)] [] 43 dX4_readFigureBelow_21 lk_RX4_100 oX4_allowed iX4_allowed rfl rfl ⟨lb rfl, lb rfl⟩ (lb rfl) ⟨lb rfl, lb rfl⟩ L43 rfl (x_al0 f a (nI a) 0 3 ((nI a) - 1) (nI_n1 (by omega))) ?_
  rintro _ g0 ⟨rfl, hg0⟩
  rw [hg0]
  exact A_iret dX4_readFigureBelow_24 rfl (⟨rfl, rfl⟩)
theorem x_rf42 (f : Mem) (tn : Nat) (c : Nat → Nat) (hT : XTp f tn c) (hc : tcW c tn) (a : Nat) (ha : a < 2 ^ 29) (h : c a = 32) {z : Nat} (e : fg 1 c (a + 1) = .inl z) : C0 MX4_readFigureBelow [.ref 43, .int 4] (rd 43 2 3 f a (-1)) (rt (some (.int 0)) (rd 43 2 3 f (a + 1) (nI (a + 1)))) := by
  refine Ct.of (lv := [(0, .ref 43), (1, .int 4)]) (by decide) (lb rfl) rfl ?_
  refine A_aload_n dX4_readFigureBelow_0 rfl 0 rfl ?_
  refine A_callV (M' := MX4_readBlank) [] [] 43 dX4_readFigureBelow_1 lk_RX4_94 oX4_readBlank iX4_readBlank rfl rfl ⟨lb rfl, lb rfl⟩ (lb rfl) ⟨lb rfl, lb rfl⟩ L43 rfl (x_rb1 f tn c hT hc a (by omega) h) ?_
  rintro _ g0 ⟨rfl, hg0⟩
  rw [hg0]
  refine A_aload_n dX4_readFigureBelow_4 rfl 0 rfl ?_
  refine A_iconst (v := 1) dX4_readFigureBelow_5 rfl ?_
  refine A_callV (M' := MX4_takeFigures) [.int 1] [] 43 dX4_readFigureBelow_6 lk_RX4_97 oX4_takeFigures iX4_takeFigures rfl rfl ⟨lb rfl, lb rfl⟩ (lb rfl) ⟨lb rfl, lb rfl⟩ L43 rfl (x_tf1l f tn c hT hc (a + 1) (by omega) e) ?_
  rintro _ g0 ⟨rfl, hg0⟩
  rw [hg0]
  refine A_istore_n (lv' := [(2, .int 0), (0, .ref 43), (1, .int 4)]) dX4_readFigureBelow_9 rfl (lb rfl) rfl ?_
  refine A_aload_n dX4_readFigureBelow_10 rfl 1 rfl ?_
  refine A_iload_n dX4_readFigureBelow_11 rfl 0 rfl ?_
  refine A_iload_n dX4_readFigureBelow_12 rfl 2 rfl ?_
  refine A_iconst (v := 1) dX4_readFigureBelow_13 rfl ?_
  refine A_isub dX4_readFigureBelow_14 ?_
  refine A_topi (3) (by decide) ?_
  refine A_aload_n dX4_readFigureBelow_15 rfl 1 rfl ?_
  refine A_getI dX4_readFigureBelow_16 fo_RX4_25 L43 rfl ?_
  refine A_topi (nI (a + 1)) (rd_a f (a + 1) (nI (a + 1)) (by decide)) ?_
  refine A_iconst (v := 1) dX4_readFigureBelow_19 rfl ?_
  refine A_isub dX4_readFigureBelow_20 ?_
  refine A_callV (M' := MX4_allowed) [.int 0, .int 3, .int ((nI (a + 1)) - 1)] [] 43 dX4_readFigureBelow_21 lk_RX4_100 oX4_allowed iX4_allowed rfl rfl ⟨lb rfl, lb rfl⟩ (lb rfl) ⟨lb rfl, lb rfl⟩ L43 rfl (x_al0 f (a + 1) (nI (a + 1)) 0 3 ((nI (a + 1)) - 1) (nI_n1 (by omega))) ?_
  rintro _ g0 ⟨rfl, hg0⟩
  rw [hg0]
  exact A_iret dX4_readFigureBelow_24 rfl (⟨rfl, rfl⟩)
theorem x_rf43 (f : Mem) (tn : Nat) (c : Nat → Nat) (hT : XTp f tn c) (hc : tcW c tn) (a : Nat) (ha : a < 2 ^ 29) (h : c a = 32) {v q : Nat} (e : fg 1 c (a + 1) = .inr (v, q)) (hv : v ≤ 3) : C0 MX4_readFigureBelow [.ref 43, .int 4] (rd 43 2 3 f a (-1)) (rt (some (.int (nI v))) (rd 43 2 3 f q (-1))) := by
  have hb := fg_b e
  refine Ct.of (lv := [(0, .ref 43), (1, .int 4)]) (by decide) (lb rfl) rfl ?_
  refine A_aload_n dX4_readFigureBelow_0 rfl 0 rfl ?_
  refine A_callV (M' := MX4_readBlank) [] [] 43 dX4_readFigureBelow_1 lk_RX4_94 oX4_readBlank iX4_readBlank rfl rfl ⟨lb rfl, lb rfl⟩ (lb rfl) ⟨lb rfl, lb rfl⟩ L43 rfl (x_rb1 f tn c hT hc a (by omega) h) ?_
  rintro _ g0 ⟨rfl, hg0⟩
  rw [hg0]
  refine A_aload_n dX4_readFigureBelow_4 rfl 0 rfl ?_
  refine A_iconst (v := 1) dX4_readFigureBelow_5 rfl ?_
  refine A_callV (M' := MX4_takeFigures) [.int 1] [] 43 dX4_readFigureBelow_6 lk_RX4_97 oX4_takeFigures iX4_takeFigures rfl rfl ⟨lb rfl, lb rfl⟩ (lb rfl) ⟨lb rfl, lb rfl⟩ L43 rfl (x_tf1r f tn c hT hc (a + 1) (by omega) e) ?_
  rintro _ g0 ⟨rfl, hg0⟩
  rw [hg0]
  refine A_istore_n (lv' := [(2, .int (nI v)), (0, .ref 43), (1, .int 4)]) dX4_readFigureBelow_9 rfl (lb rfl) rfl ?_
  refine A_aload_n dX4_readFigureBelow_10 rfl 1 rfl ?_
  refine A_iload_n dX4_readFigureBelow_11 rfl 0 rfl ?_
  refine A_iload_n dX4_readFigureBelow_12 rfl 2 rfl ?_
  refine A_iconst (v := 1) dX4_readFigureBelow_13 rfl ?_
  refine A_isub dX4_readFigureBelow_14 ?_
  refine A_topi (3) (by decide) ?_
  refine A_aload_n dX4_readFigureBelow_15 rfl 1 rfl ?_
  refine A_getI dX4_readFigureBelow_16 fo_RX4_25 L43 rfl ?_
  refine A_topi (nI q) (rd_a f q (-1) (by decide)) ?_
  refine A_iconst (v := 1) dX4_readFigureBelow_19 rfl ?_
  refine A_isub dX4_readFigureBelow_20 ?_
  refine A_callV (M' := MX4_allowed) [.int (nI v), .int 3, .int ((nI q) - 1)] [] 43 dX4_readFigureBelow_21 lk_RX4_100 oX4_allowed iX4_allowed rfl rfl ⟨lb rfl, lb rfl⟩ (lb rfl) ⟨lb rfl, lb rfl⟩ L43 rfl (x_al1 f q (nI v) 3 ((nI q) - 1) ((nI_leI (b := 3) (by omega) (by decide)).mpr hv)) ?_
  rintro _ g0 ⟨rfl, hg0⟩
  rw [hg0]
  exact A_iret dX4_readFigureBelow_24 rfl (⟨rfl, rfl⟩)
theorem x_rf44 (f : Mem) (tn : Nat) (c : Nat → Nat) (hT : XTp f tn c) (hc : tcW c tn) (a : Nat) (ha : a < 2 ^ 29) (h : c a = 32) {v q : Nat} (e : fg 1 c (a + 1) = .inr (v, q)) (hv : ¬ v ≤ 3) : C0 MX4_readFigureBelow [.ref 43, .int 4] (rd 43 2 3 f a (-1)) (rt (some (.int (nI v))) (rd 43 2 3 f q (nI (a + 1)))) := by
  have hb := fg_b e
  refine Ct.of (lv := [(0, .ref 43), (1, .int 4)]) (by decide) (lb rfl) rfl ?_
  refine A_aload_n dX4_readFigureBelow_0 rfl 0 rfl ?_
  refine A_callV (M' := MX4_readBlank) [] [] 43 dX4_readFigureBelow_1 lk_RX4_94 oX4_readBlank iX4_readBlank rfl rfl ⟨lb rfl, lb rfl⟩ (lb rfl) ⟨lb rfl, lb rfl⟩ L43 rfl (x_rb1 f tn c hT hc a (by omega) h) ?_
  rintro _ g0 ⟨rfl, hg0⟩
  rw [hg0]
  refine A_aload_n dX4_readFigureBelow_4 rfl 0 rfl ?_
  refine A_iconst (v := 1) dX4_readFigureBelow_5 rfl ?_
  refine A_callV (M' := MX4_takeFigures) [.int 1] [] 43 dX4_readFigureBelow_6 lk_RX4_97 oX4_takeFigures iX4_takeFigures rfl rfl ⟨lb rfl, lb rfl⟩ (lb rfl) ⟨lb rfl, lb rfl⟩ L43 rfl (x_tf1r f tn c hT hc (a + 1) (by omega) e) ?_
  rintro _ g0 ⟨rfl, hg0⟩
  rw [hg0]
  refine A_istore_n (lv' := [(2, .int (nI v)), (0, .ref 43), (1, .int 4)]) dX4_readFigureBelow_9 rfl (lb rfl) rfl ?_
  refine A_aload_n dX4_readFigureBelow_10 rfl 1 rfl ?_
  refine A_iload_n dX4_readFigureBelow_11 rfl 0 rfl ?_
  refine A_iload_n dX4_readFigureBelow_12 rfl 2 rfl ?_
  refine A_iconst (v := 1) dX4_readFigureBelow_13 rfl ?_
  refine A_isub dX4_readFigureBelow_14 ?_
  refine A_topi (3) (by decide) ?_
  refine A_aload_n dX4_readFigureBelow_15 rfl 1 rfl ?_
  refine A_getI dX4_readFigureBelow_16 fo_RX4_25 L43 rfl ?_
  refine A_topi (nI q) (rd_a f q (-1) (by decide)) ?_
  refine A_iconst (v := 1) dX4_readFigureBelow_19 rfl ?_
  refine A_isub dX4_readFigureBelow_20 ?_
  refine A_callV (M' := MX4_allowed) [.int (nI v), .int 3, .int ((nI q) - 1)] [] 43 dX4_readFigureBelow_21 lk_RX4_100 oX4_allowed iX4_allowed rfl rfl ⟨lb rfl, lb rfl⟩ (lb rfl) ⟨lb rfl, lb rfl⟩ L43 rfl (x_al2 f q (nI v) 3 ((nI q) - 1) (fun q => hv ((nI_leI (b := 3) (by omega) (by decide)).mp q))) ?_
  rintro _ g0 ⟨rfl, hg0⟩
  rw [hg0]
  exact A_iret dX4_readFigureBelow_24 rfl (rti rfl (by rw [fg_1 e, nI_suc]))
theorem x_rf4 (f : Mem) (tn : Nat) (c : Nat → Nat) (hT : XTp f tn c) (hc : tcW c tn) (a : Nat) (ha : a < 2 ^ 29) : C0 MX4_readFigureBelow [.ref 43, .int 4] (rd 43 2 3 f a (-1)) (oR 43 2 3 f (nu 1 3 c a)) := by
  unfold nu
  by_cases h : c a = 32
  · rw [if_pos h]
    cases e : fg 1 c (a + 1) with
    | inl z => exact (x_rf42 f tn c hT hc a ha h e).mono (fun r g q => ⟨_, _, q.1, by rw [(fg_l e).1]; exact q.2⟩)
    | inr q =>
      obtain ⟨v, q⟩ := q
      dsimp only
      by_cases hv : v ≤ 3
      · rw [if_pos hv]; exact x_rf43 f tn c hT hc a ha h e hv
      · rw [if_neg hv]; exact (x_rf44 f tn c hT hc a ha h e hv).mono (fun r g q => ⟨_, _, q.1, q.2⟩)
  · rw [if_neg h]; exact (x_rf41 f tn c hT hc a ha h).mono (fun r g q => ⟨_, _, q.1, q.2⟩)
theorem x_rtz (f : Mem) (a : Nat) (z : Int32) (hz : ¬ z = -1) : C0 MX4_readTarget [.ref 43] (rd 43 2 3 f a z) (rt (some (.int 0)) (rd 43 2 3 f a z)) := by
  refine Ct.of (lv := [(0, .ref 43)]) (by decide) (lb rfl) rfl ?_
  refine A_aload_n dX4_readTarget_0 rfl 0 rfl ?_
  refine A_callV (M' := MX4_readBlank) [] [] 43 dX4_readTarget_1 lk_RX4_94 oX4_readBlank iX4_readBlank rfl rfl ⟨lb rfl, lb rfl⟩ (lb rfl) ⟨lb rfl, lb rfl⟩ L43 rfl (x_rb0 f a z hz) ?_
  rintro _ g0 ⟨rfl, hg0⟩
  rw [hg0]
  refine A_aload_n dX4_readTarget_4 rfl 0 rfl ?_
  refine A_getI dX4_readTarget_5 fo_RX4_25 L43 rfl ?_
  refine A_topi (nI a) (rd_a f a z (by decide)) ?_
  refine A_istore_n (lv' := [(1, .int (nI a)), (0, .ref 43)]) dX4_readTarget_8 rfl (lb rfl) rfl ?_
  refine A_aload_n dX4_readTarget_9 rfl 1 rfl ?_
  refine A_iconst (v := 2) dX4_readTarget_10 rfl ?_
  refine A_callV (M' := MX4_takeFigures) [.int 2] [] 43 dX4_readTarget_11 lk_RX4_97 oX4_takeFigures iX4_takeFigures rfl rfl ⟨lb rfl, lb rfl⟩ (lb rfl) ⟨lb rfl, lb rfl⟩ L43 rfl (x_tf2z f a z hz) ?_
  rintro _ g0 ⟨rfl, hg0⟩
  rw [hg0]
  refine A_istore_n (lv' := [(2, .int 0), (1, .int (nI a)), (0, .ref 43)]) dX4_readTarget_14 rfl (lb rfl) rfl ?_
  refine A_aload_n dX4_readTarget_15 rfl 2 rfl ?_
  refine A_iload_n dX4_readTarget_16 rfl 0 rfl ?_
  refine A_bipush (v := 12) dX4_readTarget_17 rfl ?_
  refine A_iload_n dX4_readTarget_19 rfl 1 rfl ?_
  refine A_callV (M' := MX4_allowed) [.int 0, .int 12, .int (nI a)] [] 43 dX4_readTarget_20 lk_RX4_100 oX4_allowed iX4_allowed rfl rfl ⟨lb rfl, lb rfl⟩ (lb rfl) ⟨lb rfl, lb rfl⟩ L43 rfl (x_al0 f a z 0 12 (nI a) hz) ?_
  rintro _ g0 ⟨rfl, hg0⟩
  rw [hg0]
  exact A_iret dX4_readTarget_23 rfl (⟨rfl, rfl⟩)
theorem x_rt1 (f : Mem) (tn : Nat) (c : Nat → Nat) (hT : XTp f tn c) (hc : tcW c tn) (a : Nat) (ha : a < 2 ^ 29) (h : ¬ c a = 32) : C0 MX4_readTarget [.ref 43] (rd 43 2 3 f a (-1)) (rt (some (.int 0)) (rd 43 2 3 f a (nI a))) := by
  refine Ct.of (lv := [(0, .ref 43)]) (by decide) (lb rfl) rfl ?_
  refine A_aload_n dX4_readTarget_0 rfl 0 rfl ?_
  refine A_callV (M' := MX4_readBlank) [] [] 43 dX4_readTarget_1 lk_RX4_94 oX4_readBlank iX4_readBlank rfl rfl ⟨lb rfl, lb rfl⟩ (lb rfl) ⟨lb rfl, lb rfl⟩ L43 rfl (x_rb2 f tn c hT hc a (by omega) h) ?_
  rintro _ g0 ⟨rfl, hg0⟩
  rw [hg0]
  refine A_aload_n dX4_readTarget_4 rfl 0 rfl ?_
  refine A_getI dX4_readTarget_5 fo_RX4_25 L43 rfl ?_
  refine A_topi (nI a) (rd_a f a (nI a) (by decide)) ?_
  refine A_istore_n (lv' := [(1, .int (nI a)), (0, .ref 43)]) dX4_readTarget_8 rfl (lb rfl) rfl ?_
  refine A_aload_n dX4_readTarget_9 rfl 1 rfl ?_
  refine A_iconst (v := 2) dX4_readTarget_10 rfl ?_
  refine A_callV (M' := MX4_takeFigures) [.int 2] [] 43 dX4_readTarget_11 lk_RX4_97 oX4_takeFigures iX4_takeFigures rfl rfl ⟨lb rfl, lb rfl⟩ (lb rfl) ⟨lb rfl, lb rfl⟩ L43 rfl (x_tf2z f a (nI a) (nI_n1 (by omega))) ?_
  rintro _ g0 ⟨rfl, hg0⟩
  rw [hg0]
  refine A_istore_n (lv' := [(2, .int 0), (1, .int (nI a)), (0, .ref 43)]) dX4_readTarget_14 rfl (lb rfl) rfl ?_
  refine A_aload_n dX4_readTarget_15 rfl 2 rfl ?_
  refine A_iload_n dX4_readTarget_16 rfl 0 rfl ?_
  refine A_bipush (v := 12) dX4_readTarget_17 rfl ?_
  refine A_iload_n dX4_readTarget_19 rfl 1 rfl ?_
  refine A_callV (M' := MX4_allowed) [.int 0, .int 12, .int (nI a)] [] 43 dX4_readTarget_20 lk_RX4_100 oX4_allowed iX4_allowed rfl rfl ⟨lb rfl, lb rfl⟩ (lb rfl) ⟨lb rfl, lb rfl⟩ L43 rfl (x_al0 f a (nI a) 0 12 (nI a) (nI_n1 (by omega))) ?_
  rintro _ g0 ⟨rfl, hg0⟩
  rw [hg0]
  exact A_iret dX4_readTarget_23 rfl (⟨rfl, rfl⟩)
theorem x_rt2 (f : Mem) (tn : Nat) (c : Nat → Nat) (hT : XTp f tn c) (hc : tcW c tn) (a : Nat) (ha : a < 2 ^ 29) (h : c a = 32) {z : Nat} (e : fg 2 c (a + 1) = .inl z) : C0 MX4_readTarget [.ref 43] (rd 43 2 3 f a (-1)) (rt (some (.int 0)) (rd 43 2 3 f (a + 1) (nI (a + 1)))) := by
  refine Ct.of (lv := [(0, .ref 43)]) (by decide) (lb rfl) rfl ?_
  refine A_aload_n dX4_readTarget_0 rfl 0 rfl ?_
  refine A_callV (M' := MX4_readBlank) [] [] 43 dX4_readTarget_1 lk_RX4_94 oX4_readBlank iX4_readBlank rfl rfl ⟨lb rfl, lb rfl⟩ (lb rfl) ⟨lb rfl, lb rfl⟩ L43 rfl (x_rb1 f tn c hT hc a (by omega) h) ?_
  rintro _ g0 ⟨rfl, hg0⟩
  rw [hg0]
  refine A_aload_n dX4_readTarget_4 rfl 0 rfl ?_
  refine A_getI dX4_readTarget_5 fo_RX4_25 L43 rfl ?_
  refine A_topi (nI (a + 1)) (rd_a f (a + 1) (-1) (by decide)) ?_
  refine A_istore_n (lv' := [(1, .int (nI (a + 1))), (0, .ref 43)]) dX4_readTarget_8 rfl (lb rfl) rfl ?_
  refine A_aload_n dX4_readTarget_9 rfl 1 rfl ?_
  refine A_iconst (v := 2) dX4_readTarget_10 rfl ?_
  refine A_callV (M' := MX4_takeFigures) [.int 2] [] 43 dX4_readTarget_11 lk_RX4_97 oX4_takeFigures iX4_takeFigures rfl rfl ⟨lb rfl, lb rfl⟩ (lb rfl) ⟨lb rfl, lb rfl⟩ L43 rfl (x_tf2l f tn c hT hc (a + 1) (by omega) e) ?_
  rintro _ g0 ⟨rfl, hg0⟩
  rw [hg0]
  refine A_istore_n (lv' := [(2, .int 0), (1, .int (nI (a + 1))), (0, .ref 43)]) dX4_readTarget_14 rfl (lb rfl) rfl ?_
  refine A_aload_n dX4_readTarget_15 rfl 2 rfl ?_
  refine A_iload_n dX4_readTarget_16 rfl 0 rfl ?_
  refine A_bipush (v := 12) dX4_readTarget_17 rfl ?_
  refine A_iload_n dX4_readTarget_19 rfl 1 rfl ?_
  refine A_callV (M' := MX4_allowed) [.int 0, .int 12, .int (nI (a + 1))] [] 43 dX4_readTarget_20 lk_RX4_100 oX4_allowed iX4_allowed rfl rfl ⟨lb rfl, lb rfl⟩ (lb rfl) ⟨lb rfl, lb rfl⟩ L43 rfl (x_al0 f (a + 1) (nI (a + 1)) 0 12 (nI (a + 1)) (nI_n1 (by omega))) ?_
  rintro _ g0 ⟨rfl, hg0⟩
  rw [hg0]
  exact A_iret dX4_readTarget_23 rfl (⟨rfl, rfl⟩)
theorem x_rt3 (f : Mem) (tn : Nat) (c : Nat → Nat) (hT : XTp f tn c) (hc : tcW c tn) (a : Nat) (ha : a < 2 ^ 29) (h : c a = 32) {v q : Nat} (e : fg 2 c (a + 1) = .inr (v, q)) (hv : v ≤ 12) : C0 MX4_readTarget [.ref 43] (rd 43 2 3 f a (-1)) (rt (some (.int (nI v))) (rd 43 2 3 f q (-1))) := by
  have hb := fg_b e
  refine Ct.of (lv := [(0, .ref 43)]) (by decide) (lb rfl) rfl ?_
  refine A_aload_n dX4_readTarget_0 rfl 0 rfl ?_
  refine A_callV (M' := MX4_readBlank) [] [] 43 dX4_readTarget_1 lk_RX4_94 oX4_readBlank iX4_readBlank rfl rfl ⟨lb rfl, lb rfl⟩ (lb rfl) ⟨lb rfl, lb rfl⟩ L43 rfl (x_rb1 f tn c hT hc a (by omega) h) ?_
  rintro _ g0 ⟨rfl, hg0⟩
  rw [hg0]
  refine A_aload_n dX4_readTarget_4 rfl 0 rfl ?_
  refine A_getI dX4_readTarget_5 fo_RX4_25 L43 rfl ?_
  refine A_topi (nI (a + 1)) (rd_a f (a + 1) (-1) (by decide)) ?_
  refine A_istore_n (lv' := [(1, .int (nI (a + 1))), (0, .ref 43)]) dX4_readTarget_8 rfl (lb rfl) rfl ?_
  refine A_aload_n dX4_readTarget_9 rfl 1 rfl ?_
  refine A_iconst (v := 2) dX4_readTarget_10 rfl ?_
  refine A_callV (M' := MX4_takeFigures) [.int 2] [] 43 dX4_readTarget_11 lk_RX4_97 oX4_takeFigures iX4_takeFigures rfl rfl ⟨lb rfl, lb rfl⟩ (lb rfl) ⟨lb rfl, lb rfl⟩ L43 rfl (x_tf2r f tn c hT hc (a + 1) (by omega) e) ?_
  rintro _ g0 ⟨rfl, hg0⟩
  rw [hg0]
  refine A_istore_n (lv' := [(2, .int (nI v)), (1, .int (nI (a + 1))), (0, .ref 43)]) dX4_readTarget_14 rfl (lb rfl) rfl ?_
  refine A_aload_n dX4_readTarget_15 rfl 2 rfl ?_
  refine A_iload_n dX4_readTarget_16 rfl 0 rfl ?_
  refine A_bipush (v := 12) dX4_readTarget_17 rfl ?_
  refine A_iload_n dX4_readTarget_19 rfl 1 rfl ?_
  refine A_callV (M' := MX4_allowed) [.int (nI v), .int 12, .int (nI (a + 1))] [] 43 dX4_readTarget_20 lk_RX4_100 oX4_allowed iX4_allowed rfl rfl ⟨lb rfl, lb rfl⟩ (lb rfl) ⟨lb rfl, lb rfl⟩ L43 rfl (x_al1 f q (nI v) 12 (nI (a + 1)) ((nI_leI (b := 12) (by omega) (by decide)).mpr hv)) ?_
  rintro _ g0 ⟨rfl, hg0⟩
  rw [hg0]
  exact A_iret dX4_readTarget_23 rfl (⟨rfl, rfl⟩)
theorem x_rt4 (f : Mem) (tn : Nat) (c : Nat → Nat) (hT : XTp f tn c) (hc : tcW c tn) (a : Nat) (ha : a < 2 ^ 29) (h : c a = 32) {v q : Nat} (e : fg 2 c (a + 1) = .inr (v, q)) (hv : ¬ v ≤ 12) : C0 MX4_readTarget [.ref 43] (rd 43 2 3 f a (-1)) (rt (some (.int (nI v))) (rd 43 2 3 f q (nI (a + 1)))) := by
  have hb := fg_b e
  refine Ct.of (lv := [(0, .ref 43)]) (by decide) (lb rfl) rfl ?_
  refine A_aload_n dX4_readTarget_0 rfl 0 rfl ?_
  refine A_callV (M' := MX4_readBlank) [] [] 43 dX4_readTarget_1 lk_RX4_94 oX4_readBlank iX4_readBlank rfl rfl ⟨lb rfl, lb rfl⟩ (lb rfl) ⟨lb rfl, lb rfl⟩ L43 rfl (x_rb1 f tn c hT hc a (by omega) h) ?_
  rintro _ g0 ⟨rfl, hg0⟩
  rw [hg0]
  refine A_aload_n dX4_readTarget_4 rfl 0 rfl ?_
  refine A_getI dX4_readTarget_5 fo_RX4_25 L43 rfl ?_
  refine A_topi (nI (a + 1)) (rd_a f (a + 1) (-1) (by decide)) ?_
  refine A_istore_n (lv' := [(1, .int (nI (a + 1))), (0, .ref 43)]) dX4_readTarget_8 rfl (lb rfl) rfl ?_
  refine A_aload_n dX4_readTarget_9 rfl 1 rfl ?_
  refine A_iconst (v := 2) dX4_readTarget_10 rfl ?_
  refine A_callV (M' := MX4_takeFigures) [.int 2] [] 43 dX4_readTarget_11 lk_RX4_97 oX4_takeFigures iX4_takeFigures rfl rfl ⟨lb rfl, lb rfl⟩ (lb rfl) ⟨lb rfl, lb rfl⟩ L43 rfl (x_tf2r f tn c hT hc (a + 1) (by omega) e) ?_
  rintro _ g0 ⟨rfl, hg0⟩
  rw [hg0]
  refine A_istore_n (lv' := [(2, .int (nI v)), (1, .int (nI (a + 1))), (0, .ref 43)]) dX4_readTarget_14 rfl (lb rfl) rfl ?_
  refine A_aload_n dX4_readTarget_15 rfl 2 rfl ?_
  refine A_iload_n dX4_readTarget_16 rfl 0 rfl ?_
  refine A_bipush (v := 12) dX4_readTarget_17 rfl ?_
  refine A_iload_n dX4_readTarget_19 rfl 1 rfl ?_
  refine A_callV (M' := MX4_allowed) [.int (nI v), .int 12, .int (nI (a + 1))] [] 43 dX4_readTarget_20 lk_RX4_100 oX4_allowed iX4_allowed rfl rfl ⟨lb rfl, lb rfl⟩ (lb rfl) ⟨lb rfl, lb rfl⟩ L43 rfl (x_al2 f q (nI v) 12 (nI (a + 1)) (fun q => hv ((nI_leI (b := 12) (by omega) (by decide)).mp q))) ?_
  rintro _ g0 ⟨rfl, hg0⟩
  rw [hg0]
  exact A_iret dX4_readTarget_23 rfl (⟨rfl, rfl⟩)
theorem x_rt (f : Mem) (tn : Nat) (c : Nat → Nat) (hT : XTp f tn c) (hc : tcW c tn) (a : Nat) (ha : a < 2 ^ 29) : C0 MX4_readTarget [.ref 43] (rd 43 2 3 f a (-1)) (oR 43 2 3 f (nu 2 12 c a)) := by
  unfold nu
  by_cases h : c a = 32
  · rw [if_pos h]
    cases e : fg 2 c (a + 1) with
    | inl z => exact (x_rt2 f tn c hT hc a ha h e).mono (fun r g q => ⟨_, _, q.1, by rw [(fg_l e).1]; exact q.2⟩)
    | inr q =>
      obtain ⟨v, q⟩ := q
      dsimp only
      by_cases hv : v ≤ 12
      · rw [if_pos hv]; exact x_rt3 f tn c hT hc a ha h e hv
      · rw [if_neg hv]; exact (x_rt4 f tn c hT hc a ha h e hv).mono (fun r g q => ⟨_, _, q.1, q.2⟩)
  · rw [if_neg h]; exact (x_rt1 f tn c hT hc a ha h).mono (fun r g q => ⟨_, _, q.1, q.2⟩)
theorem x_rnz (f : Mem) (a : Nat) (z : Int32) (hz : ¬ z = -1) : C0 MX4_readNumber [.ref 43] (rd 43 2 3 f a z) (rt (some (.int 0)) (rd 43 2 3 f a z)) := by
  refine Ct.of (lv := [(0, .ref 43)]) (by decide) (lb rfl) rfl ?_
  refine A_aload_n dX4_readNumber_0 rfl 0 rfl ?_
  refine A_callV (M' := MX4_readBlank) [] [] 43 dX4_readNumber_1 lk_RX4_94 oX4_readBlank iX4_readBlank rfl rfl ⟨lb rfl, lb rfl⟩ (lb rfl) ⟨lb rfl, lb rfl⟩ L43 rfl (x_rb0 f a z hz) ?_
  rintro _ g0 ⟨rfl, hg0⟩
  rw [hg0]
  refine A_aload_n dX4_readNumber_4 rfl 0 rfl ?_
  refine A_getI dX4_readNumber_5 fo_RX4_29 L43 rfl ?_
  refine A_topi (z) (rd_z f a z) ?_
  refine A_iconst (v := -1) dX4_readNumber_8 rfl ?_
  refine A_icmp_ne (tgt := 32) dX4_readNumber_9 rfl (fun h9 => ?_) (fun h9 => by exact absurd h9 hz)
  refine A_iconst (v := 0) dX4_readNumber_32 rfl ?_
  refine A_istore_n (lv' := [(1, .int 0), (0, .ref 43)]) dX4_readNumber_33 rfl (lb rfl) rfl ?_
  refine A_iload_n dX4_readNumber_34 rfl 0 rfl ?_
  refine A_if_eq (tgt := 48) dX4_readNumber_35 rfl (fun h35 => ?_) (fun h35 => by exact absurd rfl h35)
  refine A_aload_n dX4_readNumber_48 rfl 1 rfl ?_
  refine A_iconst (v := 2) dX4_readNumber_49 rfl ?_
  refine A_callV (M' := MX4_takeFigures) [.int 2] [] 43 dX4_readNumber_50 lk_RX4_97 oX4_takeFigures iX4_takeFigures rfl rfl ⟨lb rfl, lb rfl⟩ (lb rfl) ⟨lb rfl, lb rfl⟩ L43 rfl (x_tf2z f a z hz) ?_
  rintro _ g0 ⟨rfl, hg0⟩
  rw [hg0]
  refine A_istore_n (lv' := [(2, .int 0), (1, .int 0), (0, .ref 43)]) dX4_readNumber_53 rfl (lb rfl) rfl ?_
  refine A_iload_n dX4_readNumber_54 rfl 1 rfl ?_
  refine A_if_eq (tgt := 63) dX4_readNumber_55 rfl (fun h55 => ?_) (fun h55 => by exact absurd rfl h55)
  refine A_iload_n dX4_readNumber_63 rfl 0 rfl ?_
  exact A_iret dX4_readNumber_64 rfl (⟨rfl, rfl⟩)
theorem x_rn1 (f : Mem) (tn : Nat) (c : Nat → Nat) (hT : XTp f tn c) (hc : tcW c tn) (a : Nat) (ha : a < 2 ^ 29) (h : ¬ c a = 32) : C0 MX4_readNumber [.ref 43] (rd 43 2 3 f a (-1)) (rt (some (.int 0)) (rd 43 2 3 f a (nI a))) := by
  refine Ct.of (lv := [(0, .ref 43)]) (by decide) (lb rfl) rfl ?_
  refine A_aload_n dX4_readNumber_0 rfl 0 rfl ?_
  refine A_callV (M' := MX4_readBlank) [] [] 43 dX4_readNumber_1 lk_RX4_94 oX4_readBlank iX4_readBlank rfl rfl ⟨lb rfl, lb rfl⟩ (lb rfl) ⟨lb rfl, lb rfl⟩ L43 rfl (x_rb2 f tn c hT hc a (by omega) h) ?_
  rintro _ g0 ⟨rfl, hg0⟩
  rw [hg0]
  refine A_aload_n dX4_readNumber_4 rfl 0 rfl ?_
  refine A_getI dX4_readNumber_5 fo_RX4_29 L43 rfl ?_
  refine A_topi (nI a) (rd_z f a (nI a)) ?_
  refine A_iconst (v := -1) dX4_readNumber_8 rfl ?_
  refine A_icmp_ne (tgt := 32) dX4_readNumber_9 rfl (fun h9 => ?_) (fun h9 => by exact absurd h9 (nI_n1 (by omega)))
  refine A_iconst (v := 0) dX4_readNumber_32 rfl ?_
  refine A_istore_n (lv' := [(1, .int 0), (0, .ref 43)]) dX4_readNumber_33 rfl (lb rfl) rfl ?_
  refine A_iload_n dX4_readNumber_34 rfl 0 rfl ?_
  refine A_if_eq (tgt := 48) dX4_readNumber_35 rfl (fun h35 => ?_) (fun h35 => by exact absurd rfl h35)
  refine A_aload_n dX4_readNumber_48 rfl 1 rfl ?_
  refine A_iconst (v := 2) dX4_readNumber_49 rfl ?_
  refine A_callV (M' := MX4_takeFigures) [.int 2] [] 43 dX4_readNumber_50 lk_RX4_97 oX4_takeFigures iX4_takeFigures rfl rfl ⟨lb rfl, lb rfl⟩ (lb rfl) ⟨lb rfl, lb rfl⟩ L43 rfl (x_tf2z f a (nI a) (nI_n1 (by omega))) ?_
  rintro _ g0 ⟨rfl, hg0⟩
  rw [hg0]
  refine A_istore_n (lv' := [(2, .int 0), (1, .int 0), (0, .ref 43)]) dX4_readNumber_53 rfl (lb rfl) rfl ?_
  refine A_iload_n dX4_readNumber_54 rfl 1 rfl ?_
  refine A_if_eq (tgt := 63) dX4_readNumber_55 rfl (fun h55 => ?_) (fun h55 => by exact absurd rfl h55)
  refine A_iload_n dX4_readNumber_63 rfl 0 rfl ?_
  exact A_iret dX4_readNumber_64 rfl (⟨rfl, rfl⟩)
theorem x_rn1l (f : Mem) (tn : Nat) (c : Nat → Nat) (hT : XTp f tn c) (hc : tcW c tn) (a : Nat) (ha : a < 2 ^ 29) (h : c a = 32) (hs : c (a + 1) = 45) {z : Nat} (e : fg 2 c (a + 1 + 1) = .inl z) : C0 MX4_readNumber [.ref 43] (rd 43 2 3 f a (-1)) (rt (some (.int 0)) (rd 43 2 3 f (a + 1 + 1) (nI (a + 1 + 1)))) := by
  refine Ct.of (lv := [(0, .ref 43)]) (by decide) (lb rfl) rfl ?_
  refine A_aload_n dX4_readNumber_0 rfl 0 rfl ?_
  refine A_callV (M' := MX4_readBlank) [] [] 43 dX4_readNumber_1 lk_RX4_94 oX4_readBlank iX4_readBlank rfl rfl ⟨lb rfl, lb rfl⟩ (lb rfl) ⟨lb rfl, lb rfl⟩ L43 rfl (x_rb1 f tn c hT hc a (by omega) h) ?_
  rintro _ g0 ⟨rfl, hg0⟩
  rw [hg0]
  refine A_aload_n dX4_readNumber_4 rfl 0 rfl ?_
  refine A_getI dX4_readNumber_5 fo_RX4_29 L43 rfl ?_
  refine A_topi (-1) (rd_z f (a + 1) (-1)) ?_
  refine A_iconst (v := -1) dX4_readNumber_8 rfl ?_
  refine A_icmp_ne (tgt := 32) dX4_readNumber_9 rfl (fun h9 => by exact absurd rfl h9) (fun h9 => ?_)
  refine A_aload_n dX4_readNumber_12 rfl 0 rfl ?_
  refine A_getR (b := 44) dX4_readNumber_13 fo_RX4_12 L43 rfl ?_
  refine A_aload_n dX4_readNumber_16 rfl 0 rfl ?_
  refine A_getI dX4_readNumber_17 fo_RX4_25 L43 rfl ?_
  refine A_topi (nI (a + 1)) (rd_a f (a + 1) (-1) (by decide)) ?_
  refine A_callV (M' := MX8_at) [.int (nI (a + 1))] [] 44 dX4_readNumber_20 lk_RX4_38 oX8_at iX8_at rfl rfl ⟨lb rfl, lb rfl⟩ (lb rfl) ⟨lb rfl, lb rfl⟩ L44 rfl (x_at _ (hT.rd (a + 1) (-1)) hc (a + 1) (by omega)) ?_
  rintro _ g0 ⟨rfl, hg0⟩
  rw [hg0]
  refine A_bipush (v := 45) dX4_readNumber_23 rfl ?_
  refine A_icmp_ne (tgt := 32) dX4_readNumber_25 rfl (fun h25 => by exact absurd (by rw [hs]; rfl) h25) (fun h25 => ?_)
  refine A_iconst (v := 1) dX4_readNumber_28 rfl ?_
  refine A_goto (tgt := 33) dX4_readNumber_29 rfl ?_
  refine A_istore_n (lv' := [(1, .int 1), (0, .ref 43)]) dX4_readNumber_33 rfl (lb rfl) rfl ?_
  refine A_iload_n dX4_readNumber_34 rfl 0 rfl ?_
  refine A_if_eq (tgt := 48) dX4_readNumber_35 rfl (fun h35 => by exact absurd h35 (by decide)) (fun h35 => ?_)
  refine A_aload_n dX4_readNumber_38 rfl 1 rfl ?_
  refine A_dup dX4_readNumber_39 rfl ?_
  refine A_getI dX4_readNumber_40 fo_RX4_25 L43 rfl ?_
  refine A_topi (nI (a + 1)) (rd_a f (a + 1) (-1) (by decide)) ?_
  refine A_iconst (v := 1) dX4_readNumber_43 rfl ?_
  refine A_iadd dX4_readNumber_44 ?_
  refine A_putI dX4_readNumber_45 fo_RX4_25 L43 rfl ?_
  refine A_eq rfl rfl (f' := rd 43 2 3 f (a + 1 + 1) (-1)) (rd_ua f (a + 1) (a + 1 + 1) (-1) (by decide) (by simp only [lit, nI_add, pk_mul, Nat.add_zero])) ?_
  refine A_aload_n dX4_readNumber_48 rfl 1 rfl ?_
  refine A_iconst (v := 2) dX4_readNumber_49 rfl ?_
  refine A_callV (M' := MX4_takeFigures) [.int 2] [] 43 dX4_readNumber_50 lk_RX4_97 oX4_takeFigures iX4_takeFigures rfl rfl ⟨lb rfl, lb rfl⟩ (lb rfl) ⟨lb rfl, lb rfl⟩ L43 rfl (x_tf2l f tn c hT hc (a + 1 + 1) (by omega) e) ?_
  rintro _ g0 ⟨rfl, hg0⟩
  rw [hg0]
  refine A_istore_n (lv' := [(2, .int 0), (1, .int 1), (0, .ref 43)]) dX4_readNumber_53 rfl (lb rfl) rfl ?_
  refine A_iload_n dX4_readNumber_54 rfl 1 rfl ?_
  refine A_if_eq (tgt := 63) dX4_readNumber_55 rfl (fun h55 => by exact absurd h55 (by decide)) (fun h55 => ?_)
  refine A_iload_n dX4_readNumber_58 rfl 0 rfl ?_
  refine A_ineg dX4_readNumber_59 ?_
  refine A_goto (tgt := 64) dX4_readNumber_60 rfl ?_
  exact A_iret dX4_readNumber_64 rfl (rti (by decide) rfl)
theorem x_rn1r (f : Mem) (tn : Nat) (c : Nat → Nat) (hT : XTp f tn c) (hc : tcW c tn) (a : Nat) (ha : a < 2 ^ 29) (h : c a = 32) (hs : c (a + 1) = 45) {v q : Nat} (e : fg 2 c (a + 1 + 1) = .inr (v, q)) : C0 MX4_readNumber [.ref 43] (rd 43 2 3 f a (-1)) (rt (some (.int (-nI v))) (rd 43 2 3 f q (-1))) := by
  have hb := fg_b e
  refine Ct.of (lv := [(0, .ref 43)]) (by decide) (lb rfl) rfl ?_
  refine A_aload_n dX4_readNumber_0 rfl 0 rfl ?_
  refine A_callV (M' := MX4_readBlank) [] [] 43 dX4_readNumber_1 lk_RX4_94 oX4_readBlank iX4_readBlank rfl rfl ⟨lb rfl, lb rfl⟩ (lb rfl) ⟨lb rfl, lb rfl⟩ L43 rfl (x_rb1 f tn c hT hc a (by omega) h) ?_
  rintro _ g0 ⟨rfl, hg0⟩
  rw [hg0]
  refine A_aload_n dX4_readNumber_4 rfl 0 rfl ?_
  refine A_getI dX4_readNumber_5 fo_RX4_29 L43 rfl ?_
  refine A_topi (-1) (rd_z f (a + 1) (-1)) ?_
  refine A_iconst (v := -1) dX4_readNumber_8 rfl ?_
  refine A_icmp_ne (tgt := 32) dX4_readNumber_9 rfl (fun h9 => by exact absurd rfl h9) (fun h9 => ?_)
  refine A_aload_n dX4_readNumber_12 rfl 0 rfl ?_
  refine A_getR (b := 44) dX4_readNumber_13 fo_RX4_12 L43 rfl ?_
  refine A_aload_n dX4_readNumber_16 rfl 0 rfl ?_
  refine A_getI dX4_readNumber_17 fo_RX4_25 L43 rfl ?_
  refine A_topi (nI (a + 1)) (rd_a f (a + 1) (-1) (by decide)) ?_
  refine A_callV (M' := MX8_at) [.int (nI (a + 1))] [] 44 dX4_readNumber_20 lk_RX4_38 oX8_at iX8_at rfl rfl ⟨lb rfl, lb rfl⟩ (lb rfl) ⟨lb rfl, lb rfl⟩ L44 rfl (x_at _ (hT.rd (a + 1) (-1)) hc (a + 1) (by omega)) ?_
  rintro _ g0 ⟨rfl, hg0⟩
  rw [hg0]
  refine A_bipush (v := 45) dX4_readNumber_23 rfl ?_
  refine A_icmp_ne (tgt := 32) dX4_readNumber_25 rfl (fun h25 => by exact absurd (by rw [hs]; rfl) h25) (fun h25 => ?_)
  refine A_iconst (v := 1) dX4_readNumber_28 rfl ?_
  refine A_goto (tgt := 33) dX4_readNumber_29 rfl ?_
  refine A_istore_n (lv' := [(1, .int 1), (0, .ref 43)]) dX4_readNumber_33 rfl (lb rfl) rfl ?_
  refine A_iload_n dX4_readNumber_34 rfl 0 rfl ?_
  refine A_if_eq (tgt := 48) dX4_readNumber_35 rfl (fun h35 => by exact absurd h35 (by decide)) (fun h35 => ?_)
  refine A_aload_n dX4_readNumber_38 rfl 1 rfl ?_
  refine A_dup dX4_readNumber_39 rfl ?_
  refine A_getI dX4_readNumber_40 fo_RX4_25 L43 rfl ?_
  refine A_topi (nI (a + 1)) (rd_a f (a + 1) (-1) (by decide)) ?_
  refine A_iconst (v := 1) dX4_readNumber_43 rfl ?_
  refine A_iadd dX4_readNumber_44 ?_
  refine A_putI dX4_readNumber_45 fo_RX4_25 L43 rfl ?_
  refine A_eq rfl rfl (f' := rd 43 2 3 f (a + 1 + 1) (-1)) (rd_ua f (a + 1) (a + 1 + 1) (-1) (by decide) (by simp only [lit, nI_add, pk_mul, Nat.add_zero])) ?_
  refine A_aload_n dX4_readNumber_48 rfl 1 rfl ?_
  refine A_iconst (v := 2) dX4_readNumber_49 rfl ?_
  refine A_callV (M' := MX4_takeFigures) [.int 2] [] 43 dX4_readNumber_50 lk_RX4_97 oX4_takeFigures iX4_takeFigures rfl rfl ⟨lb rfl, lb rfl⟩ (lb rfl) ⟨lb rfl, lb rfl⟩ L43 rfl (x_tf2r f tn c hT hc (a + 1 + 1) (by omega) e) ?_
  rintro _ g0 ⟨rfl, hg0⟩
  rw [hg0]
  refine A_istore_n (lv' := [(2, .int (nI v)), (1, .int 1), (0, .ref 43)]) dX4_readNumber_53 rfl (lb rfl) rfl ?_
  refine A_iload_n dX4_readNumber_54 rfl 1 rfl ?_
  refine A_if_eq (tgt := 63) dX4_readNumber_55 rfl (fun h55 => by exact absurd h55 (by decide)) (fun h55 => ?_)
  refine A_iload_n dX4_readNumber_58 rfl 0 rfl ?_
  refine A_ineg dX4_readNumber_59 ?_
  refine A_goto (tgt := 64) dX4_readNumber_60 rfl ?_
  exact A_iret dX4_readNumber_64 rfl (⟨rfl, rfl⟩)
theorem x_rn0l (f : Mem) (tn : Nat) (c : Nat → Nat) (hT : XTp f tn c) (hc : tcW c tn) (a : Nat) (ha : a < 2 ^ 29) (h : c a = 32) (hs : ¬ c (a + 1) = 45) {z : Nat} (e : fg 2 c (a + 1) = .inl z) : C0 MX4_readNumber [.ref 43] (rd 43 2 3 f a (-1)) (rt (some (.int 0)) (rd 43 2 3 f (a + 1) (nI (a + 1)))) := by
  refine Ct.of (lv := [(0, .ref 43)]) (by decide) (lb rfl) rfl ?_
  refine A_aload_n dX4_readNumber_0 rfl 0 rfl ?_
  refine A_callV (M' := MX4_readBlank) [] [] 43 dX4_readNumber_1 lk_RX4_94 oX4_readBlank iX4_readBlank rfl rfl ⟨lb rfl, lb rfl⟩ (lb rfl) ⟨lb rfl, lb rfl⟩ L43 rfl (x_rb1 f tn c hT hc a (by omega) h) ?_
  rintro _ g0 ⟨rfl, hg0⟩
  rw [hg0]
  refine A_aload_n dX4_readNumber_4 rfl 0 rfl ?_
  refine A_getI dX4_readNumber_5 fo_RX4_29 L43 rfl ?_
  refine A_topi (-1) (rd_z f (a + 1) (-1)) ?_
  refine A_iconst (v := -1) dX4_readNumber_8 rfl ?_
  refine A_icmp_ne (tgt := 32) dX4_readNumber_9 rfl (fun h9 => by exact absurd rfl h9) (fun h9 => ?_)
  refine A_aload_n dX4_readNumber_12 rfl 0 rfl ?_
  refine A_getR (b := 44) dX4_readNumber_13 fo_RX4_12 L43 rfl ?_
  refine A_aload_n dX4_readNumber_16 rfl 0 rfl ?_
  refine A_getI dX4_readNumber_17 fo_RX4_25 L43 rfl ?_
  refine A_topi (nI (a + 1)) (rd_a f (a + 1) (-1) (by decide)) ?_
  refine A_callV (M' := MX8_at) [.int (nI (a + 1))] [] 44 dX4_readNumber_20 lk_RX4_38 oX8_at iX8_at rfl rfl ⟨lb rfl, lb rfl⟩ (lb rfl) ⟨lb rfl, lb rfl⟩ L44 rfl (x_at _ (hT.rd (a + 1) (-1)) hc (a + 1) (by omega)) ?_
  rintro _ g0 ⟨rfl, hg0⟩
  rw [hg0]
  refine A_bipush (v := 45) dX4_readNumber_23 rfl ?_
  refine A_icmp_ne (tgt := 32) dX4_readNumber_25 rfl (fun h25 => ?_) (fun h25 => by exact absurd ((nI_eq (by have := hc.2.2.2 (a + 1); omega) (by decide)).mp h25) hs)
  refine A_iconst (v := 0) dX4_readNumber_32 rfl ?_
  refine A_istore_n (lv' := [(1, .int 0), (0, .ref 43)]) dX4_readNumber_33 rfl (lb rfl) rfl ?_
  refine A_iload_n dX4_readNumber_34 rfl 0 rfl ?_
  refine A_if_eq (tgt := 48) dX4_readNumber_35 rfl (fun h35 => ?_) (fun h35 => by exact absurd rfl h35)
  refine A_aload_n dX4_readNumber_48 rfl 1 rfl ?_
  refine A_iconst (v := 2) dX4_readNumber_49 rfl ?_
  refine A_callV (M' := MX4_takeFigures) [.int 2] [] 43 dX4_readNumber_50 lk_RX4_97 oX4_takeFigures iX4_takeFigures rfl rfl ⟨lb rfl, lb rfl⟩ (lb rfl) ⟨lb rfl, lb rfl⟩ L43 rfl (x_tf2l f tn c hT hc (a + 1) (by omega) e) ?_
  rintro _ g0 ⟨rfl, hg0⟩
  rw [hg0]
  refine A_istore_n (lv' := [(2, .int 0), (1, .int 0), (0, .ref 43)]) dX4_readNumber_53 rfl (lb rfl) rfl ?_
  refine A_iload_n dX4_readNumber_54 rfl 1 rfl ?_
  refine A_if_eq (tgt := 63) dX4_readNumber_55 rfl (fun h55 => ?_) (fun h55 => by exact absurd rfl h55)
  refine A_iload_n dX4_readNumber_63 rfl 0 rfl ?_
  exact A_iret dX4_readNumber_64 rfl (⟨rfl, rfl⟩)
theorem x_rn0r (f : Mem) (tn : Nat) (c : Nat → Nat) (hT : XTp f tn c) (hc : tcW c tn) (a : Nat) (ha : a < 2 ^ 29) (h : c a = 32) (hs : ¬ c (a + 1) = 45) {v q : Nat} (e : fg 2 c (a + 1) = .inr (v, q)) : C0 MX4_readNumber [.ref 43] (rd 43 2 3 f a (-1)) (rt (some (.int (nI v))) (rd 43 2 3 f q (-1))) := by
  have hb := fg_b e
  refine Ct.of (lv := [(0, .ref 43)]) (by decide) (lb rfl) rfl ?_
  refine A_aload_n dX4_readNumber_0 rfl 0 rfl ?_
  refine A_callV (M' := MX4_readBlank) [] [] 43 dX4_readNumber_1 lk_RX4_94 oX4_readBlank iX4_readBlank rfl rfl ⟨lb rfl, lb rfl⟩ (lb rfl) ⟨lb rfl, lb rfl⟩ L43 rfl (x_rb1 f tn c hT hc a (by omega) h) ?_
  rintro _ g0 ⟨rfl, hg0⟩
  rw [hg0]
  refine A_aload_n dX4_readNumber_4 rfl 0 rfl ?_
  refine A_getI dX4_readNumber_5 fo_RX4_29 L43 rfl ?_
  refine A_topi (-1) (rd_z f (a + 1) (-1)) ?_
  refine A_iconst (v := -1) dX4_readNumber_8 rfl ?_
  refine A_icmp_ne (tgt := 32) dX4_readNumber_9 rfl (fun h9 => by exact absurd rfl h9) (fun h9 => ?_)
  refine A_aload_n dX4_readNumber_12 rfl 0 rfl ?_
  refine A_getR (b := 44) dX4_readNumber_13 fo_RX4_12 L43 rfl ?_
  refine A_aload_n dX4_readNumber_16 rfl 0 rfl ?_
  refine A_getI dX4_readNumber_17 fo_RX4_25 L43 rfl ?_
  refine A_topi (nI (a + 1)) (rd_a f (a + 1) (-1) (by decide)) ?_
  refine A_callV (M' := MX8_at) [.int (nI (a + 1))] [] 44 dX4_readNumber_20 lk_RX4_38 oX8_at iX8_at rfl rfl ⟨lb rfl, lb rfl⟩ (lb rfl) ⟨lb rfl, lb rfl⟩ L44 rfl (x_at _ (hT.rd (a + 1) (-1)) hc (a + 1) (by omega)) ?_
  rintro _ g0 ⟨rfl, hg0⟩
  rw [hg0]
  refine A_bipush (v := 45) dX4_readNumber_23 rfl ?_
  refine A_icmp_ne (tgt := 32) dX4_readNumber_25 rfl (fun h25 => ?_) (fun h25 => by exact absurd ((nI_eq (by have := hc.2.2.2 (a + 1); omega) (by decide)).mp h25) hs)
  refine A_iconst (v := 0) dX4_readNumber_32 rfl ?_
  refine A_istore_n (lv' := [(1, .int 0), (0, .ref 43)]) dX4_readNumber_33 rfl (lb rfl) rfl ?_
  refine A_iload_n dX4_readNumber_34 rfl 0 rfl ?_
  refine A_if_eq (tgt := 48) dX4_readNumber_35 rfl (fun h35 => ?_) (fun h35 => by exact absurd rfl h35)
  refine A_aload_n dX4_readNumber_48 rfl 1 rfl ?_
  refine A_iconst (v := 2) dX4_readNumber_49 rfl ?_
  refine A_callV (M' := MX4_takeFigures) [.int 2] [] 43 dX4_readNumber_50 lk_RX4_97 oX4_takeFigures iX4_takeFigures rfl rfl ⟨lb rfl, lb rfl⟩ (lb rfl) ⟨lb rfl, lb rfl⟩ L43 rfl (x_tf2r f tn c hT hc (a + 1) (by omega) e) ?_
  rintro _ g0 ⟨rfl, hg0⟩
  rw [hg0]
  refine A_istore_n (lv' := [(2, .int (nI v)), (1, .int 0), (0, .ref 43)]) dX4_readNumber_53 rfl (lb rfl) rfl ?_
  refine A_iload_n dX4_readNumber_54 rfl 1 rfl ?_
  refine A_if_eq (tgt := 63) dX4_readNumber_55 rfl (fun h55 => ?_) (fun h55 => by exact absurd rfl h55)
  refine A_iload_n dX4_readNumber_63 rfl 0 rfl ?_
  exact A_iret dX4_readNumber_64 rfl (⟨rfl, rfl⟩)
theorem x_rn (f : Mem) (tn : Nat) (c : Nat → Nat) (hT : XTp f tn c) (hc : tcW c tn) (a : Nat) (ha : a < 2 ^ 29) : C0 MX4_readNumber [.ref 43] (rd 43 2 3 f a (-1)) (oR 43 2 3 f (nuS c a)) := by
  unfold nuS
  by_cases h : c a = 32
  · rw [if_pos h]
    by_cases hs : c (a + 1) = 45
    · rw [if_pos hs]
      cases e : fg 2 c (a + 2) with
      | inl z => exact (x_rn1l f tn c hT hc a ha h hs e).mono (fun r g q => ⟨_, _, q.1, by rw [(fg_l e).1]; exact q.2⟩)
      | inr q => obtain ⟨v, q⟩ := q; exact x_rn1r f tn c hT hc a ha h hs e
    · rw [if_neg hs]
      cases e : fg 2 c (a + 1) with
      | inl z => exact (x_rn0l f tn c hT hc a ha h hs e).mono (fun r g q => ⟨_, _, q.1, by rw [(fg_l e).1]; exact q.2⟩)
      | inr q => obtain ⟨v, q⟩ := q; exact x_rn0r f tn c hT hc a ha h hs e
  · rw [if_neg h]; exact (x_rn1 f tn c hT hc a ha h).mono (fun r g q => ⟨_, _, q.1, q.2⟩)
def apM (f : Mem) (n : Nat) (x0 x1 x2 x3 : Int32) : Mem := u2 (u2 (u2 (u2 (u2 f 47 (n * 4 + 0) x0) 47 (n * 4 + 1) x1) 47 (n * 4 + 2) x2) 47 (n * 4 + 3) x3) 46 0 (nI (n + 1))
theorem apM_rd (f : Mem) (n a : Nat) (z x0 x1 x2 x3 : Int32) : apM (rd 43 2 3 f a z) n x0 x1 x2 x3 = rd 43 2 3 (apM f n x0 x1 x2 x3) a z := by
  unfold apM
  rw [rd_uo _ _ _ _ (by decide), rd_uo _ _ _ _ (by decide), rd_uo _ _ _ _ (by decide), rd_uo _ _ _ _ (by decide), rd_uo _ _ _ _ (by decide)]
theorem x_pap (f : Mem) (n : Nat) (x0 x1 x2 x3 : Int32) (hn : f 46 0 = nI n) (h12 : n < 12) : C0 MX3_append [.ref 46, .int x0, .int x1, .int x2, .int x3] f (rt none (apM f n x0 x1 x2 x3)) := by
  refine Ct.of (lv := [(0, .ref 46), (1, .int x0), (2, .int x1), (3, .int x2), (4, .int x3)]) (by decide) (lb rfl) rfl ?_
  refine A_aload_n dX3_append_0 rfl 0 rfl ?_
  refine A_getI dX3_append_1 fo_RX3_9 L46 rfl ?_
  refine A_topi (nI n) (hn) ?_
  refine A_bipush (v := 12) dX3_append_4 rfl ?_
  refine A_icmp_ge (tgt := 68) dX3_append_6 rfl (fun h6 => by exact absurd h6 (fun q => by rw [show (12 : Int32) = nI 12 from rfl, nI_leI (by omega) (by omega)] at q; omega)) (fun h6 => ?_)
  refine A_aload_n dX3_append_9 rfl 0 rfl ?_
  refine A_getI dX3_append_10 fo_RX3_9 L46 rfl ?_
  refine A_topi (nI n) (hn) ?_
  refine A_iconst (v := 4) dX3_append_13 rfl ?_
  refine A_imul dX3_append_14 ?_
  refine A_istore (lv' := [(5, .int ((nI n) * 4)), (0, .ref 46), (1, .int x0), (2, .int x1), (3, .int x2), (4, .int x3)]) dX3_append_15 (lb rfl) rfl ?_
  refine A_aload_n dX3_append_17 rfl 1 rfl ?_
  refine A_getR (b := 47) dX3_append_18 fo_RX3_15 L46 rfl ?_
  refine A_iload dX3_append_21 0 rfl ?_
  refine A_iconst (v := 0) dX3_append_23 rfl ?_
  refine A_iadd dX3_append_24 ?_
  refine A_iload_n dX3_append_25 rfl 2 rfl ?_
  refine A_iastore (n * 4 + 0) dX3_append_26 L47 (by simp only [lit, nI_add, pk_mul]) (by omega) (lb rfl) ?_
  refine A_aload_n dX3_append_27 rfl 1 rfl ?_
  refine A_getR (b := 47) dX3_append_28 fo_RX3_15 L46 rfl ?_
  refine A_iload dX3_append_31 0 rfl ?_
  refine A_iconst (v := 1) dX3_append_33 rfl ?_
  refine A_iadd dX3_append_34 ?_
  refine A_iload_n dX3_append_35 rfl 3 rfl ?_
  refine A_iastore (n * 4 + 1) dX3_append_36 L47 (by simp only [lit, nI_add, pk_mul]) (by omega) (lb rfl) ?_
  refine A_aload_n dX3_append_37 rfl 1 rfl ?_
  refine A_getR (b := 47) dX3_append_38 fo_RX3_15 L46 rfl ?_
  refine A_iload dX3_append_41 0 rfl ?_
  refine A_iconst (v := 2) dX3_append_43 rfl ?_
  refine A_iadd dX3_append_44 ?_
  refine A_iload_n dX3_append_45 rfl 4 rfl ?_
  refine A_iastore (n * 4 + 2) dX3_append_46 L47 (by simp only [lit, nI_add, pk_mul]) (by omega) (lb rfl) ?_
  refine A_aload_n dX3_append_47 rfl 1 rfl ?_
  refine A_getR (b := 47) dX3_append_48 fo_RX3_15 L46 rfl ?_
  refine A_iload dX3_append_51 0 rfl ?_
  refine A_iconst (v := 3) dX3_append_53 rfl ?_
  refine A_iadd dX3_append_54 ?_
  refine A_iload dX3_append_55 5 rfl ?_
  refine A_iastore (n * 4 + 3) dX3_append_57 L47 (by simp only [lit, nI_add, pk_mul]) (by omega) (lb rfl) ?_
  refine A_aload_n dX3_append_58 rfl 1 rfl ?_
  refine A_dup dX3_append_59 rfl ?_
  refine A_getI dX3_append_60 fo_RX3_9 L46 rfl ?_
  refine A_topi (f 46 0) (by simp [u2, ur, upd]) ?_
  refine A_topi (nI n) (hn) ?_
  refine A_iconst (v := 1) dX3_append_63 rfl ?_
  refine A_iadd dX3_append_64 ?_
  refine A_putI dX3_append_65 fo_RX3_9 L46 rfl ?_
  exact A_vret dX3_append_68 rfl (⟨rfl, by unfold apM; rw [nI_succ]⟩)
theorem x_wordOf (w : Nat) (hw : w < 9) (f : Mem) : C0 MX4_wordOf [.int (nI w)] f (rt (some (.ref (1000 + w))) f) := by
  refine Ct.of (lv := [(0, .int (nI w))]) (by decide) (lb rfl) rfl ?_
  refine A_iload_n dX4_wordOf_0 rfl 0 rfl ?_
  match w, hw with
  | 0, _ => exact A_tabIn (off := 47) (tgt := 48) dX4_wordOf_1 (by decide) (by decide) rfl rfl (A_ldcS 0 dX4_wordOf_48 rfl (lb rfl) rfl (A_aret dX4_wordOf_50 rfl ⟨rfl, rfl⟩))
  | 1, _ => exact A_tabIn (off := 50) (tgt := 51) dX4_wordOf_1 (by decide) (by decide) rfl rfl (A_ldcS 1 dX4_wordOf_51 rfl (lb rfl) rfl (A_aret dX4_wordOf_53 rfl ⟨rfl, rfl⟩))
  | 2, _ => exact A_tabIn (off := 53) (tgt := 54) dX4_wordOf_1 (by decide) (by decide) rfl rfl (A_ldcS 2 dX4_wordOf_54 rfl (lb rfl) rfl (A_aret dX4_wordOf_56 rfl ⟨rfl, rfl⟩))
  | 3, _ => exact A_tabIn (off := 56) (tgt := 57) dX4_wordOf_1 (by decide) (by decide) rfl rfl (A_ldcS 3 dX4_wordOf_57 rfl (lb rfl) rfl (A_aret dX4_wordOf_59 rfl ⟨rfl, rfl⟩))
  | 4, _ => exact A_tabIn (off := 59) (tgt := 60) dX4_wordOf_1 (by decide) (by decide) rfl rfl (A_ldcS 4 dX4_wordOf_60 rfl (lb rfl) rfl (A_aret dX4_wordOf_62 rfl ⟨rfl, rfl⟩))
  | 5, _ => exact A_tabIn (off := 62) (tgt := 63) dX4_wordOf_1 (by decide) (by decide) rfl rfl (A_ldcS 5 dX4_wordOf_63 rfl (lb rfl) rfl (A_aret dX4_wordOf_65 rfl ⟨rfl, rfl⟩))
  | 6, _ => exact A_tabIn (off := 65) (tgt := 66) dX4_wordOf_1 (by decide) (by decide) rfl rfl (A_ldcS 6 dX4_wordOf_66 rfl (lb rfl) rfl (A_aret dX4_wordOf_68 rfl ⟨rfl, rfl⟩))
  | 7, _ => exact A_tabIn (off := 68) (tgt := 69) dX4_wordOf_1 (by decide) (by decide) rfl rfl (A_ldcS 7 dX4_wordOf_69 rfl (lb rfl) rfl (A_aret dX4_wordOf_71 rfl ⟨rfl, rfl⟩))
  | 8, _ => exact A_tabOut (tgt := 72) dX4_wordOf_1 (by decide) rfl (A_ldcS 8 dX4_wordOf_72 rfl (lb rfl) rfl (A_aret dX4_wordOf_74 rfl ⟨rfl, rfl⟩))
