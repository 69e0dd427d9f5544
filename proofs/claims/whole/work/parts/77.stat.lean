/-! the class reads a statement -/
theorem mW_le2 {c : Nat → Nat} {tn a : Nat} (hc : tcW c tn) (ha : a < 2 ^ 28) : wE c 120 a < 2 ^ 28 + 200 := by
  rcases hc.wL (hc.wE a) with q | q
  · have := hc.1; omega
  · omega
theorem nu_l {m B : Nat} {c : Nat → Nat} {a z : Nat} (h : nu m B c a = .inl z) : z ≤ a + 1 := by
  unfold nu at h
  by_cases q : c a = 32
  · rw [if_pos q] at h
    cases e : fg m c (a + 1) with
    | inl y => rw [e] at h; cases h; have := (fg_l e).1; omega
    | inr y =>
      rw [e] at h; dsimp only at h
      split at h
      · cases h
      · cases h; omega
  · rw [if_neg q] at h; cases h; omega
theorem nu_r {m B : Nat} {c : Nat → Nat} {a : Nat} {q : Int32 × Nat} (h : nu m B c a = .inr q) : c a = 32 ∧ ∃ v, fg m c (a + 1) = .inr (v, q.2) ∧ v ≤ B ∧ q.1 = nI v := by
  unfold nu at h
  by_cases g : c a = 32
  · rw [if_pos g] at h
    cases e : fg m c (a + 1) with
    | inl y => rw [e] at h; cases h
    | inr y =>
      rw [e] at h; dsimp only at h
      split at h
      · rename_i hv; cases h; exact ⟨g, y.1, rfl, hv, rfl⟩
      · cases h
  · rw [if_neg g] at h; cases h
theorem nu_b {m B : Nat} {c : Nat → Nat} {a : Nat} {q : Int32 × Nat} (h : nu m B c a = .inr q) : a < q.2 ∧ q.2 ≤ a + 3 := by
  obtain ⟨_, v, e, _, _⟩ := nu_r h
  have := fg_b e
  omega
theorem nuS_l {c : Nat → Nat} {a z : Nat} (h : nuS c a = .inl z) : z ≤ a + 2 := by
  unfold nuS at h
  by_cases q : c a = 32
  · rw [if_pos q] at h
    by_cases g : c (a + 1) = 45
    · rw [if_pos g] at h
      cases e : fg 2 c (a + 2) with
      | inl y => rw [e] at h; cases h; have := (fg_l e).1; omega
      | inr y => rw [e] at h; cases h
    · rw [if_neg g] at h
      cases e : fg 2 c (a + 1) with
      | inl y => rw [e] at h; cases h; have := (fg_l e).1; omega
      | inr y => rw [e] at h; cases h
  · rw [if_neg q] at h; cases h; omega
theorem nuS_r {c : Nat → Nat} {a : Nat} {q : Int32 × Nat} (h : nuS c a = .inr q) : c a = 32 ∧ ∃ v b, fg 2 c b = .inr (v, q.2) ∧ a < b ∧ b ≤ a + 2 ∧ (q.1 = nI v ∨ q.1 = -nI v) := by
  unfold nuS at h
  by_cases g : c a = 32
  · rw [if_pos g] at h
    by_cases s : c (a + 1) = 45
    · rw [if_pos s] at h
      cases e : fg 2 c (a + 2) with
      | inl y => rw [e] at h; cases h
      | inr y => rw [e] at h; cases h; exact ⟨g, y.1, a + 2, e, by omega, by omega, .inr rfl⟩
    · rw [if_neg s] at h
      cases e : fg 2 c (a + 1) with
      | inl y => rw [e] at h; cases h
      | inr y => rw [e] at h; cases h; exact ⟨g, y.1, a + 1, e, by omega, by omega, .inl rfl⟩
  · rw [if_neg g] at h; cases h
theorem nuS_b {c : Nat → Nat} {a : Nat} {q : Int32 × Nat} (h : nuS c a = .inr q) : a < q.2 ∧ q.2 ≤ a + 4 := by
  obtain ⟨_, v, b, e, _, _, _⟩ := nuS_r h
  have := fg_b e
  omega
theorem x_rf3L (f : Mem) (tn : Nat) (c : Nat → Nat) (hT : XTp f tn c) (hc : tcW c tn) (a : Nat) (ha : a < 2 ^ 29) {z : Nat} (e : nu 1 2 c a = .inl z) : C0 MX4_readFigureBelow [.ref 43, .int 3] (rd 43 2 3 f a (-1)) (fun r h => ∃ (x : Int32) (b : Nat), r = some (.int x) ∧ h = rd 43 2 3 f b (nI z)) := by
  have t := x_rf3 f tn c hT hc a ha
  rw [e] at t
  exact t
theorem x_rf3R (f : Mem) (tn : Nat) (c : Nat → Nat) (hT : XTp f tn c) (hc : tcW c tn) (a : Nat) (ha : a < 2 ^ 29) {q : Int32 × Nat} (e : nu 1 2 c a = .inr q) : C0 MX4_readFigureBelow [.ref 43, .int 3] (rd 43 2 3 f a (-1)) (rt (some (.int q.1)) (rd 43 2 3 f q.2 (-1))) := by
  have t := x_rf3 f tn c hT hc a ha
  rw [e] at t
  exact t
theorem x_rf4L (f : Mem) (tn : Nat) (c : Nat → Nat) (hT : XTp f tn c) (hc : tcW c tn) (a : Nat) (ha : a < 2 ^ 29) {z : Nat} (e : nu 1 3 c a = .inl z) : C0 MX4_readFigureBelow [.ref 43, .int 4] (rd 43 2 3 f a (-1)) (fun r h => ∃ (x : Int32) (b : Nat), r = some (.int x) ∧ h = rd 43 2 3 f b (nI z)) := by
  have t := x_rf4 f tn c hT hc a ha
  rw [e] at t
  exact t
theorem x_rf4R (f : Mem) (tn : Nat) (c : Nat → Nat) (hT : XTp f tn c) (hc : tcW c tn) (a : Nat) (ha : a < 2 ^ 29) {q : Int32 × Nat} (e : nu 1 3 c a = .inr q) : C0 MX4_readFigureBelow [.ref 43, .int 4] (rd 43 2 3 f a (-1)) (rt (some (.int q.1)) (rd 43 2 3 f q.2 (-1))) := by
  have t := x_rf4 f tn c hT hc a ha
  rw [e] at t
  exact t
theorem x_rtL (f : Mem) (tn : Nat) (c : Nat → Nat) (hT : XTp f tn c) (hc : tcW c tn) (a : Nat) (ha : a < 2 ^ 29) {z : Nat} (e : nu 2 12 c a = .inl z) : C0 MX4_readTarget [.ref 43] (rd 43 2 3 f a (-1)) (fun r h => ∃ (x : Int32) (b : Nat), r = some (.int x) ∧ h = rd 43 2 3 f b (nI z)) := by
  have t := x_rt f tn c hT hc a ha
  rw [e] at t
  exact t
theorem x_rtR (f : Mem) (tn : Nat) (c : Nat → Nat) (hT : XTp f tn c) (hc : tcW c tn) (a : Nat) (ha : a < 2 ^ 29) {q : Int32 × Nat} (e : nu 2 12 c a = .inr q) : C0 MX4_readTarget [.ref 43] (rd 43 2 3 f a (-1)) (rt (some (.int q.1)) (rd 43 2 3 f q.2 (-1))) := by
  have t := x_rt f tn c hT hc a ha
  rw [e] at t
  exact t
theorem x_rnL (f : Mem) (tn : Nat) (c : Nat → Nat) (hT : XTp f tn c) (hc : tcW c tn) (a : Nat) (ha : a < 2 ^ 29) {z : Nat} (e : nuS c a = .inl z) : C0 MX4_readNumber [.ref 43] (rd 43 2 3 f a (-1)) (fun r h => ∃ (x : Int32) (b : Nat), r = some (.int x) ∧ h = rd 43 2 3 f b (nI z)) := by
  have t := x_rn f tn c hT hc a ha
  rw [e] at t
  exact t
theorem x_rnR (f : Mem) (tn : Nat) (c : Nat → Nat) (hT : XTp f tn c) (hc : tcW c tn) (a : Nat) (ha : a < 2 ^ 29) {q : Int32 × Nat} (e : nuS c a = .inr q) : C0 MX4_readNumber [.ref 43] (rd 43 2 3 f a (-1)) (rt (some (.int q.1)) (rd 43 2 3 f q.2 (-1))) := by
  have t := x_rn f tn c hT hc a ha
  rw [e] at t
  exact t
theorem x_rs9 (f : Mem) (tn : Nat) (c : Nat → Nat) (hT : XTp f tn c) (hc : tcW c tn) (a n W E : Nat) (ha : a < 2 ^ 28) (hE : E < 2 ^ 28 + 200) (hn : f 46 0 = nI n) (h12 : n < 12) (hR : C0 MX4_readWord [.ref 43] (rd 43 2 3 f a (-1)) (rt (some (.int (-1))) (rd 43 2 3 f E (nI a)))) : C0 MX4_readStatement [.ref 43] (rd 43 2 3 f a (-1)) (rt none (rd 43 2 3 f E (nI a))) := by
  refine Ct.of (lv := [(0, .ref 43)]) (by decide) (lb rfl) rfl ?_
  refine A_aload_n dX4_readStatement_0 rfl 0 rfl ?_
  refine A_callV (M' := MX4_readWord) [] [] 43 dX4_readStatement_1 lk_RX4_42 oX4_readWord iX4_readWord rfl rfl ⟨lb rfl, lb rfl⟩ (lb rfl) ⟨lb rfl, lb rfl⟩ L43 rfl (hR) ?_
  rintro _ g0 ⟨rfl, hg0⟩
  rw [hg0]
  refine A_istore_n (lv' := [(1, .int (-1)), (0, .ref 43)]) dX4_readStatement_4 rfl (lb rfl) rfl ?_
  refine A_iload_n dX4_readStatement_5 rfl 0 rfl ?_
  refine A_bipush (v := 8) dX4_readStatement_6 rfl ?_
  refine A_icmp_ne (tgt := 18) dX4_readStatement_8 rfl (fun h8 => ?_) (fun h8 => by exact absurd h8 (by decide))
  refine A_aload_n dX4_readStatement_18 rfl 1 rfl ?_
  refine A_iload_n dX4_readStatement_19 rfl 0 rfl ?_
  refine A_iconst (v := 4) dX4_readStatement_20 rfl ?_
  refine A_icmp_gt (tgt := 28) dX4_readStatement_21 rfl (fun h21 => by exact absurd h21 (by decide)) (fun h21 => ?_)
  refine A_iconst (v := 3) dX4_readStatement_24 rfl ?_
  refine A_goto (tgt := 29) dX4_readStatement_25 rfl ?_
  refine A_callV (M' := MX4_readFigureBelow) [.int 3] [] 43 dX4_readStatement_29 lk_RX4_49 oX4_readFigureBelow iX4_readFigureBelow rfl rfl ⟨lb rfl, lb rfl⟩ (lb rfl) ⟨lb rfl, lb rfl⟩ L43 rfl (x_rf3z f E (nI a) (nI_n1 (by omega))) ?_
  rintro _ g0 ⟨rfl, hg0⟩
  rw [hg0]
  refine A_istore_n (lv' := [(2, .int 0), (1, .int (-1)), (0, .ref 43)]) dX4_readStatement_32 rfl (lb rfl) rfl ?_
  refine A_iload_n dX4_readStatement_33 rfl 1 rfl ?_
  refine A_iconst (v := 5) dX4_readStatement_34 rfl ?_
  refine A_icmp_eq (tgt := 50) dX4_readStatement_35 rfl (fun h35 => by exact absurd h35 (by decide)) (fun h35 => ?_)
  refine A_iload_n dX4_readStatement_38 rfl 1 rfl ?_
  refine A_bipush (v := 6) dX4_readStatement_39 rfl ?_
  refine A_icmp_eq (tgt := 50) dX4_readStatement_41 rfl (fun h41 => by exact absurd h41 (by decide)) (fun h41 => ?_)
  refine A_iload_n dX4_readStatement_44 rfl 1 rfl ?_
  refine A_bipush (v := 7) dX4_readStatement_45 rfl ?_
  refine A_icmp_ne (tgt := 57) dX4_readStatement_47 rfl (fun h47 => ?_) (fun h47 => by exact absurd h47 (by decide))
  refine A_iconst (v := 0) dX4_readStatement_57 rfl ?_
  refine A_istore_n (lv' := [(3, .int 0), (2, .int 0), (1, .int (-1)), (0, .ref 43)]) dX4_readStatement_58 rfl (lb rfl) rfl ?_
  refine A_iload_n dX4_readStatement_59 rfl 2 rfl ?_
  refine A_bipush (v := 7) dX4_readStatement_60 rfl ?_
  refine A_icmp_ne (tgt := 72) dX4_readStatement_62 rfl (fun h62 => ?_) (fun h62 => by exact absurd h62 (by decide))
  refine A_iconst (v := 0) dX4_readStatement_72 rfl ?_
  refine A_istore (lv' := [(4, .int 0), (3, .int 0), (2, .int 0), (1, .int (-1)), (0, .ref 43)]) dX4_readStatement_73 (lb rfl) rfl ?_
  refine A_aload_n dX4_readStatement_75 rfl 4 rfl ?_
  refine A_getI dX4_readStatement_76 fo_RX4_29 L43 rfl ?_
  refine A_topi (nI a) (rd_z f E (nI a)) ?_
  refine A_iconst (v := -1) dX4_readStatement_79 rfl ?_
  refine A_icmp_ne (tgt := 95) dX4_readStatement_80 rfl (fun h80 => ?_) (fun h80 => by exact absurd h80 (nI_n1 (by omega)))
  exact A_vret dX4_readStatement_95 rfl (⟨rfl, rfl⟩)
theorem x_rs8l (f : Mem) (tn : Nat) (c : Nat → Nat) (hT : XTp f tn c) (hc : tcW c tn) (a n W E : Nat) (ha : a < 2 ^ 28) (hE : E < 2 ^ 28 + 200) (hn : f 46 0 = nI n) (h12 : n < 12) (hR : C0 MX4_readWord [.ref 43] (rd 43 2 3 f a (-1)) (rt (some (.int 8)) (rd 43 2 3 f E (-1)))) {z : Nat} (e1 : nu 2 12 c E = .inl z) : C0 MX4_readStatement [.ref 43] (rd 43 2 3 f a (-1)) (fun r h => r = none ∧ ∃ b, h = rd 43 2 3 f b (nI z)) := by
  have hz := nu_l e1
  refine Ct.of (lv := [(0, .ref 43)]) (by decide) (lb rfl) rfl ?_
  refine A_aload_n dX4_readStatement_0 rfl 0 rfl ?_
  refine A_callV (M' := MX4_readWord) [] [] 43 dX4_readStatement_1 lk_RX4_42 oX4_readWord iX4_readWord rfl rfl ⟨lb rfl, lb rfl⟩ (lb rfl) ⟨lb rfl, lb rfl⟩ L43 rfl (hR) ?_
  rintro _ g0 ⟨rfl, hg0⟩
  rw [hg0]
  refine A_istore_n (lv' := [(1, .int 8), (0, .ref 43)]) dX4_readStatement_4 rfl (lb rfl) rfl ?_
  refine A_iload_n dX4_readStatement_5 rfl 0 rfl ?_
  refine A_bipush (v := 8) dX4_readStatement_6 rfl ?_
  refine A_icmp_ne (tgt := 18) dX4_readStatement_8 rfl (fun h8 => by exact absurd rfl h8) (fun h8 => ?_)
  refine A_aload_n dX4_readStatement_11 rfl 1 rfl ?_
  refine A_callV (M' := MX4_readTarget) [] [] 43 dX4_readStatement_12 lk_RX4_46 oX4_readTarget iX4_readTarget rfl rfl ⟨lb rfl, lb rfl⟩ (lb rfl) ⟨lb rfl, lb rfl⟩ L43 rfl (x_rtL f tn c hT hc E (by omega) e1) ?_
  rintro _ g0 ⟨xz, bz, rfl, hg0⟩
  rw [hg0]
  refine A_goto (tgt := 32) dX4_readStatement_15 rfl ?_
  refine A_istore_n (lv' := [(2, .int xz), (1, .int 8), (0, .ref 43)]) dX4_readStatement_32 rfl (lb rfl) rfl ?_
  refine A_iload_n dX4_readStatement_33 rfl 1 rfl ?_
  refine A_iconst (v := 5) dX4_readStatement_34 rfl ?_
  refine A_icmp_eq (tgt := 50) dX4_readStatement_35 rfl (fun h35 => by exact absurd h35 (by decide)) (fun h35 => ?_)
  refine A_iload_n dX4_readStatement_38 rfl 1 rfl ?_
  refine A_bipush (v := 6) dX4_readStatement_39 rfl ?_
  refine A_icmp_eq (tgt := 50) dX4_readStatement_41 rfl (fun h41 => by exact absurd h41 (by decide)) (fun h41 => ?_)
  refine A_iload_n dX4_readStatement_44 rfl 1 rfl ?_
  refine A_bipush (v := 7) dX4_readStatement_45 rfl ?_
  refine A_icmp_ne (tgt := 57) dX4_readStatement_47 rfl (fun h47 => ?_) (fun h47 => by exact absurd h47 (by decide))
  refine A_iconst (v := 0) dX4_readStatement_57 rfl ?_
  refine A_istore_n (lv' := [(3, .int 0), (2, .int xz), (1, .int 8), (0, .ref 43)]) dX4_readStatement_58 rfl (lb rfl) rfl ?_
  refine A_iload_n dX4_readStatement_59 rfl 2 rfl ?_
  refine A_bipush (v := 7) dX4_readStatement_60 rfl ?_
  refine A_icmp_ne (tgt := 72) dX4_readStatement_62 rfl (fun h62 => ?_) (fun h62 => by exact absurd h62 (by decide))
  refine A_iconst (v := 0) dX4_readStatement_72 rfl ?_
  refine A_istore (lv' := [(4, .int 0), (3, .int 0), (2, .int xz), (1, .int 8), (0, .ref 43)]) dX4_readStatement_73 (lb rfl) rfl ?_
  refine A_aload_n dX4_readStatement_75 rfl 4 rfl ?_
  refine A_getI dX4_readStatement_76 fo_RX4_29 L43 rfl ?_
  refine A_topi (nI z) (rd_z f bz (nI z)) ?_
  refine A_iconst (v := -1) dX4_readStatement_79 rfl ?_
  refine A_icmp_ne (tgt := 95) dX4_readStatement_80 rfl (fun h80 => ?_) (fun h80 => by exact absurd h80 (nI_n1 (by omega)))
  exact A_vret dX4_readStatement_95 rfl (⟨rfl, _, rfl⟩)
theorem x_rs8r (f : Mem) (tn : Nat) (c : Nat → Nat) (hT : XTp f tn c) (hc : tcW c tn) (a n W E : Nat) (ha : a < 2 ^ 28) (hE : E < 2 ^ 28 + 200) (hn : f 46 0 = nI n) (h12 : n < 12) (hR : C0 MX4_readWord [.ref 43] (rd 43 2 3 f a (-1)) (rt (some (.int 8)) (rd 43 2 3 f E (-1)))) {q : Int32 × Nat} (e1 : nu 2 12 c E = .inr q) : C0 MX4_readStatement [.ref 43] (rd 43 2 3 f a (-1)) (rt none (rd 43 2 3 (apM f n 8 q.1 0 0) q.2 (-1))) := by
  have hb := nu_b e1
  refine Ct.of (lv := [(0, .ref 43)]) (by decide) (lb rfl) rfl ?_
  refine A_aload_n dX4_readStatement_0 rfl 0 rfl ?_
  refine A_callV (M' := MX4_readWord) [] [] 43 dX4_readStatement_1 lk_RX4_42 oX4_readWord iX4_readWord rfl rfl ⟨lb rfl, lb rfl⟩ (lb rfl) ⟨lb rfl, lb rfl⟩ L43 rfl (hR) ?_
  rintro _ g0 ⟨rfl, hg0⟩
  rw [hg0]
  refine A_istore_n (lv' := [(1, .int 8), (0, .ref 43)]) dX4_readStatement_4 rfl (lb rfl) rfl ?_
  refine A_iload_n dX4_readStatement_5 rfl 0 rfl ?_
  refine A_bipush (v := 8) dX4_readStatement_6 rfl ?_
  refine A_icmp_ne (tgt := 18) dX4_readStatement_8 rfl (fun h8 => by exact absurd rfl h8) (fun h8 => ?_)
  refine A_aload_n dX4_readStatement_11 rfl 1 rfl ?_
  refine A_callV (M' := MX4_readTarget) [] [] 43 dX4_readStatement_12 lk_RX4_46 oX4_readTarget iX4_readTarget rfl rfl ⟨lb rfl, lb rfl⟩ (lb rfl) ⟨lb rfl, lb rfl⟩ L43 rfl (x_rtR f tn c hT hc E (by omega) e1) ?_
  rintro _ g0 ⟨rfl, hg0⟩
  rw [hg0]
  refine A_goto (tgt := 32) dX4_readStatement_15 rfl ?_
  refine A_istore_n (lv' := [(2, .int q.1), (1, .int 8), (0, .ref 43)]) dX4_readStatement_32 rfl (lb rfl) rfl ?_
  refine A_iload_n dX4_readStatement_33 rfl 1 rfl ?_
  refine A_iconst (v := 5) dX4_readStatement_34 rfl ?_
  refine A_icmp_eq (tgt := 50) dX4_readStatement_35 rfl (fun h35 => by exact absurd h35 (by decide)) (fun h35 => ?_)
  refine A_iload_n dX4_readStatement_38 rfl 1 rfl ?_
  refine A_bipush (v := 6) dX4_readStatement_39 rfl ?_
  refine A_icmp_eq (tgt := 50) dX4_readStatement_41 rfl (fun h41 => by exact absurd h41 (by decide)) (fun h41 => ?_)
  refine A_iload_n dX4_readStatement_44 rfl 1 rfl ?_
  refine A_bipush (v := 7) dX4_readStatement_45 rfl ?_
  refine A_icmp_ne (tgt := 57) dX4_readStatement_47 rfl (fun h47 => ?_) (fun h47 => by exact absurd h47 (by decide))
  refine A_iconst (v := 0) dX4_readStatement_57 rfl ?_
  refine A_istore_n (lv' := [(3, .int 0), (2, .int q.1), (1, .int 8), (0, .ref 43)]) dX4_readStatement_58 rfl (lb rfl) rfl ?_
  refine A_iload_n dX4_readStatement_59 rfl 2 rfl ?_
  refine A_bipush (v := 7) dX4_readStatement_60 rfl ?_
  refine A_icmp_ne (tgt := 72) dX4_readStatement_62 rfl (fun h62 => ?_) (fun h62 => by exact absurd h62 (by decide))
  refine A_iconst (v := 0) dX4_readStatement_72 rfl ?_
  refine A_istore (lv' := [(4, .int 0), (3, .int 0), (2, .int q.1), (1, .int 8), (0, .ref 43)]) dX4_readStatement_73 (lb rfl) rfl ?_
  refine A_aload_n dX4_readStatement_75 rfl 4 rfl ?_
  refine A_getI dX4_readStatement_76 fo_RX4_29 L43 rfl ?_
  refine A_topi (-1) (rd_z f q.2 (-1)) ?_
  refine A_iconst (v := -1) dX4_readStatement_79 rfl ?_
  refine A_icmp_ne (tgt := 95) dX4_readStatement_80 rfl (fun h80 => by exact absurd rfl h80) (fun h80 => ?_)
  refine A_aload_n dX4_readStatement_83 rfl 4 rfl ?_
  refine A_getR (b := 46) dX4_readStatement_84 fo_RX4_21 L43 rfl ?_
  refine A_iload_n dX4_readStatement_87 rfl 3 rfl ?_
  refine A_iload_n dX4_readStatement_88 rfl 2 rfl ?_
  refine A_iload_n dX4_readStatement_89 rfl 1 rfl ?_
  refine A_iload dX4_readStatement_90 0 rfl ?_
  refine A_callV (M' := MX3_append) [.int 8, .int q.1, .int 0, .int 0] [] 46 dX4_readStatement_92 lk_RX4_55 oX3_append iX3_append rfl rfl ⟨lb rfl, lb rfl⟩ (lb rfl) ⟨lb rfl, lb rfl⟩ L46 rfl (x_pap _ n 8 q.1 0 0 ((congrFun (rd_o f q.2 (-1) (by decide)) _).trans hn) h12) ?_
  rintro _ g0 ⟨rfl, hg0⟩
  rw [hg0, apM_rd f n q.2 (-1) 8 q.1 0 0]
  exact A_vret dX4_readStatement_95 rfl (⟨rfl, rfl⟩)
theorem x_rs5l (f : Mem) (tn : Nat) (c : Nat → Nat) (hT : XTp f tn c) (hc : tcW c tn) (a n W E : Nat) (ha : a < 2 ^ 28) (hE : E < 2 ^ 28 + 200) (hn : f 46 0 = nI n) (h12 : n < 12) (hR : C0 MX4_readWord [.ref 43] (rd 43 2 3 f a (-1)) (rt (some (.int (nI W))) (rd 43 2 3 f E (-1)))) (hW : W < 5) {z : Nat} (e1 : nu 1 2 c E = .inl z) : C0 MX4_readStatement [.ref 43] (rd 43 2 3 f a (-1)) (fun r h => r = none ∧ ∃ b, h = rd 43 2 3 f b (nI z)) := by
  have hz := nu_l e1
  refine Ct.of (lv := [(0, .ref 43)]) (by decide) (lb rfl) rfl ?_
  refine A_aload_n dX4_readStatement_0 rfl 0 rfl ?_
  refine A_callV (M' := MX4_readWord) [] [] 43 dX4_readStatement_1 lk_RX4_42 oX4_readWord iX4_readWord rfl rfl ⟨lb rfl, lb rfl⟩ (lb rfl) ⟨lb rfl, lb rfl⟩ L43 rfl (hR) ?_
  rintro _ g0 ⟨rfl, hg0⟩
  rw [hg0]
  refine A_istore_n (lv' := [(1, .int (nI W)), (0, .ref 43)]) dX4_readStatement_4 rfl (lb rfl) rfl ?_
  refine A_iload_n dX4_readStatement_5 rfl 0 rfl ?_
  refine A_bipush (v := 8) dX4_readStatement_6 rfl ?_
  refine A_icmp_ne (tgt := 18) dX4_readStatement_8 rfl (fun h8 => ?_) (fun h8 => by exact absurd ((nI_eq (by omega) (by decide)).mp (show nI W = nI 8 from h8)) (by omega))
  refine A_aload_n dX4_readStatement_18 rfl 1 rfl ?_
  refine A_iload_n dX4_readStatement_19 rfl 0 rfl ?_
  refine A_iconst (v := 4) dX4_readStatement_20 rfl ?_
  refine A_icmp_gt (tgt := 28) dX4_readStatement_21 rfl (fun h21 => by exact absurd h21 (fun q => by rw [show (4 : Int32) = nI 4 from rfl, nI_ltI (by omega) (by omega)] at q; omega)) (fun h21 => ?_)
  refine A_iconst (v := 3) dX4_readStatement_24 rfl ?_
  refine A_goto (tgt := 29) dX4_readStatement_25 rfl ?_
  refine A_callV (M' := MX4_readFigureBelow) [.int 3] [] 43 dX4_readStatement_29 lk_RX4_49 oX4_readFigureBelow iX4_readFigureBelow rfl rfl ⟨lb rfl, lb rfl⟩ (lb rfl) ⟨lb rfl, lb rfl⟩ L43 rfl (x_rf3L f tn c hT hc E (by omega) e1) ?_
  rintro _ g0 ⟨xz, bz, rfl, hg0⟩
  rw [hg0]
  refine A_istore_n (lv' := [(2, .int xz), (1, .int (nI W)), (0, .ref 43)]) dX4_readStatement_32 rfl (lb rfl) rfl ?_
  refine A_iload_n dX4_readStatement_33 rfl 1 rfl ?_
  refine A_iconst (v := 5) dX4_readStatement_34 rfl ?_
  refine A_icmp_eq (tgt := 50) dX4_readStatement_35 rfl (fun h35 => by exact absurd ((nI_eq (by omega) (by decide)).mp (show nI W = nI 5 from h35)) (by omega)) (fun h35 => ?_)
  refine A_iload_n dX4_readStatement_38 rfl 1 rfl ?_
  refine A_bipush (v := 6) dX4_readStatement_39 rfl ?_
  refine A_icmp_eq (tgt := 50) dX4_readStatement_41 rfl (fun h41 => by exact absurd ((nI_eq (by omega) (by decide)).mp (show nI W = nI 6 from h41)) (by omega)) (fun h41 => ?_)
  refine A_iload_n dX4_readStatement_44 rfl 1 rfl ?_
  refine A_bipush (v := 7) dX4_readStatement_45 rfl ?_
  refine A_icmp_ne (tgt := 57) dX4_readStatement_47 rfl (fun h47 => ?_) (fun h47 => by exact absurd ((nI_eq (by omega) (by decide)).mp (show nI W = nI 7 from h47)) (by omega))
  refine A_iconst (v := 0) dX4_readStatement_57 rfl ?_
  refine A_istore_n (lv' := [(3, .int 0), (2, .int xz), (1, .int (nI W)), (0, .ref 43)]) dX4_readStatement_58 rfl (lb rfl) rfl ?_
  refine A_iload_n dX4_readStatement_59 rfl 2 rfl ?_
  refine A_bipush (v := 7) dX4_readStatement_60 rfl ?_
  refine A_icmp_ne (tgt := 72) dX4_readStatement_62 rfl (fun h62 => ?_) (fun h62 => by exact absurd ((nI_eq (by omega) (by decide)).mp (show nI W = nI 7 from h62)) (by omega))
  refine A_iconst (v := 0) dX4_readStatement_72 rfl ?_
  refine A_istore (lv' := [(4, .int 0), (3, .int 0), (2, .int xz), (1, .int (nI W)), (0, .ref 43)]) dX4_readStatement_73 (lb rfl) rfl ?_
  refine A_aload_n dX4_readStatement_75 rfl 4 rfl ?_
  refine A_getI dX4_readStatement_76 fo_RX4_29 L43 rfl ?_
  refine A_topi (nI z) (rd_z f bz (nI z)) ?_
  refine A_iconst (v := -1) dX4_readStatement_79 rfl ?_
  refine A_icmp_ne (tgt := 95) dX4_readStatement_80 rfl (fun h80 => ?_) (fun h80 => by exact absurd h80 (nI_n1 (by omega)))
  exact A_vret dX4_readStatement_95 rfl (⟨rfl, _, rfl⟩)
theorem x_rs5r (f : Mem) (tn : Nat) (c : Nat → Nat) (hT : XTp f tn c) (hc : tcW c tn) (a n W E : Nat) (ha : a < 2 ^ 28) (hE : E < 2 ^ 28 + 200) (hn : f 46 0 = nI n) (h12 : n < 12) (hR : C0 MX4_readWord [.ref 43] (rd 43 2 3 f a (-1)) (rt (some (.int (nI W))) (rd 43 2 3 f E (-1)))) (hW : W < 5) {q : Int32 × Nat} (e1 : nu 1 2 c E = .inr q) : C0 MX4_readStatement [.ref 43] (rd 43 2 3 f a (-1)) (rt none (rd 43 2 3 (apM f n (nI W) q.1 0 0) q.2 (-1))) := by
  have hb := nu_b e1
  refine Ct.of (lv := [(0, .ref 43)]) (by decide) (lb rfl) rfl ?_
  refine A_aload_n dX4_readStatement_0 rfl 0 rfl ?_
  refine A_callV (M' := MX4_readWord) [] [] 43 dX4_readStatement_1 lk_RX4_42 oX4_readWord iX4_readWord rfl rfl ⟨lb rfl, lb rfl⟩ (lb rfl) ⟨lb rfl, lb rfl⟩ L43 rfl (hR) ?_
  rintro _ g0 ⟨rfl, hg0⟩
  rw [hg0]
  refine A_istore_n (lv' := [(1, .int (nI W)), (0, .ref 43)]) dX4_readStatement_4 rfl (lb rfl) rfl ?_
  refine A_iload_n dX4_readStatement_5 rfl 0 rfl ?_
  refine A_bipush (v := 8) dX4_readStatement_6 rfl ?_
  refine A_icmp_ne (tgt := 18) dX4_readStatement_8 rfl (fun h8 => ?_) (fun h8 => by exact absurd ((nI_eq (by omega) (by decide)).mp (show nI W = nI 8 from h8)) (by omega))
  refine A_aload_n dX4_readStatement_18 rfl 1 rfl ?_
  refine A_iload_n dX4_readStatement_19 rfl 0 rfl ?_
  refine A_iconst (v := 4) dX4_readStatement_20 rfl ?_
  refine A_icmp_gt (tgt := 28) dX4_readStatement_21 rfl (fun h21 => by exact absurd h21 (fun q => by rw [show (4 : Int32) = nI 4 from rfl, nI_ltI (by omega) (by omega)] at q; omega)) (fun h21 => ?_)
  refine A_iconst (v := 3) dX4_readStatement_24 rfl ?_
  refine A_goto (tgt := 29) dX4_readStatement_25 rfl ?_
  refine A_callV (M' := MX4_readFigureBelow) [.int 3] [] 43 dX4_readStatement_29 lk_RX4_49 oX4_readFigureBelow iX4_readFigureBelow rfl rfl ⟨lb rfl, lb rfl⟩ (lb rfl) ⟨lb rfl, lb rfl⟩ L43 rfl (x_rf3R f tn c hT hc E (by omega) e1) ?_
  rintro _ g0 ⟨rfl, hg0⟩
  rw [hg0]
  refine A_istore_n (lv' := [(2, .int q.1), (1, .int (nI W)), (0, .ref 43)]) dX4_readStatement_32 rfl (lb rfl) rfl ?_
  refine A_iload_n dX4_readStatement_33 rfl 1 rfl ?_
  refine A_iconst (v := 5) dX4_readStatement_34 rfl ?_
  refine A_icmp_eq (tgt := 50) dX4_readStatement_35 rfl (fun h35 => by exact absurd ((nI_eq (by omega) (by decide)).mp (show nI W = nI 5 from h35)) (by omega)) (fun h35 => ?_)
  refine A_iload_n dX4_readStatement_38 rfl 1 rfl ?_
  refine A_bipush (v := 6) dX4_readStatement_39 rfl ?_
  refine A_icmp_eq (tgt := 50) dX4_readStatement_41 rfl (fun h41 => by exact absurd ((nI_eq (by omega) (by decide)).mp (show nI W = nI 6 from h41)) (by omega)) (fun h41 => ?_)
  refine A_iload_n dX4_readStatement_44 rfl 1 rfl ?_
  refine A_bipush (v := 7) dX4_readStatement_45 rfl ?_
  refine A_icmp_ne (tgt := 57) dX4_readStatement_47 rfl (fun h47 => ?_) (fun h47 => by exact absurd ((nI_eq (by omega) (by decide)).mp (show nI W = nI 7 from h47)) (by omega))
  refine A_iconst (v := 0) dX4_readStatement_57 rfl ?_
  refine A_istore_n (lv' := [(3, .int 0), (2, .int q.1), (1, .int (nI W)), (0, .ref 43)]) dX4_readStatement_58 rfl (lb rfl) rfl ?_
  refine A_iload_n dX4_readStatement_59 rfl 2 rfl ?_
  refine A_bipush (v := 7) dX4_readStatement_60 rfl ?_
  refine A_icmp_ne (tgt := 72) dX4_readStatement_62 rfl (fun h62 => ?_) (fun h62 => by exact absurd ((nI_eq (by omega) (by decide)).mp (show nI W = nI 7 from h62)) (by omega))
  refine A_iconst (v := 0) dX4_readStatement_72 rfl ?_
  refine A_istore (lv' := [(4, .int 0), (3, .int 0), (2, .int q.1), (1, .int (nI W)), (0, .ref 43)]) dX4_readStatement_73 (lb rfl) rfl ?_
  refine A_aload_n dX4_readStatement_75 rfl 4 rfl ?_
  refine A_getI dX4_readStatement_76 fo_RX4_29 L43 rfl ?_
  refine A_topi (-1) (rd_z f q.2 (-1)) ?_
  refine A_iconst (v := -1) dX4_readStatement_79 rfl ?_
  refine A_icmp_ne (tgt := 95) dX4_readStatement_80 rfl (fun h80 => by exact absurd rfl h80) (fun h80 => ?_)
  refine A_aload_n dX4_readStatement_83 rfl 4 rfl ?_
  refine A_getR (b := 46) dX4_readStatement_84 fo_RX4_21 L43 rfl ?_
  refine A_iload_n dX4_readStatement_87 rfl 3 rfl ?_
  refine A_iload_n dX4_readStatement_88 rfl 2 rfl ?_
  refine A_iload_n dX4_readStatement_89 rfl 1 rfl ?_
  refine A_iload dX4_readStatement_90 0 rfl ?_
  refine A_callV (M' := MX3_append) [.int (nI W), .int q.1, .int 0, .int 0] [] 46 dX4_readStatement_92 lk_RX4_55 oX3_append iX3_append rfl rfl ⟨lb rfl, lb rfl⟩ (lb rfl) ⟨lb rfl, lb rfl⟩ L46 rfl (x_pap _ n (nI W) q.1 0 0 ((congrFun (rd_o f q.2 (-1) (by decide)) _).trans hn) h12) ?_
  rintro _ g0 ⟨rfl, hg0⟩
  rw [hg0, apM_rd f n q.2 (-1) (nI W) q.1 0 0]
  exact A_vret dX4_readStatement_95 rfl (⟨rfl, rfl⟩)
theorem x_rs7l (f : Mem) (tn : Nat) (c : Nat → Nat) (hT : XTp f tn c) (hc : tcW c tn) (a n W E : Nat) (ha : a < 2 ^ 28) (hE : E < 2 ^ 28 + 200) (hn : f 46 0 = nI n) (h12 : n < 12) (hR : C0 MX4_readWord [.ref 43] (rd 43 2 3 f a (-1)) (rt (some (.int (nI W))) (rd 43 2 3 f E (-1)))) (hW : 5 ≤ W ∧ W < 8) {z : Nat} (e1 : nu 1 3 c E = .inl z) : C0 MX4_readStatement [.ref 43] (rd 43 2 3 f a (-1)) (fun r h => r = none ∧ ∃ b, h = rd 43 2 3 f b (nI z)) := by
  have hz := nu_l e1
  refine Ct.of (lv := [(0, .ref 43)]) (by decide) (lb rfl) rfl ?_
  refine A_aload_n dX4_readStatement_0 rfl 0 rfl ?_
  refine A_callV (M' := MX4_readWord) [] [] 43 dX4_readStatement_1 lk_RX4_42 oX4_readWord iX4_readWord rfl rfl ⟨lb rfl, lb rfl⟩ (lb rfl) ⟨lb rfl, lb rfl⟩ L43 rfl (hR) ?_
  rintro _ g0 ⟨rfl, hg0⟩
  rw [hg0]
  refine A_istore_n (lv' := [(1, .int (nI W)), (0, .ref 43)]) dX4_readStatement_4 rfl (lb rfl) rfl ?_
  refine A_iload_n dX4_readStatement_5 rfl 0 rfl ?_
  refine A_bipush (v := 8) dX4_readStatement_6 rfl ?_
  refine A_icmp_ne (tgt := 18) dX4_readStatement_8 rfl (fun h8 => ?_) (fun h8 => by exact absurd ((nI_eq (by omega) (by decide)).mp (show nI W = nI 8 from h8)) (by omega))
  refine A_aload_n dX4_readStatement_18 rfl 1 rfl ?_
  refine A_iload_n dX4_readStatement_19 rfl 0 rfl ?_
  refine A_iconst (v := 4) dX4_readStatement_20 rfl ?_
  refine A_icmp_gt (tgt := 28) dX4_readStatement_21 rfl (fun h21 => ?_) (fun h21 => by exact absurd (by rw [show (4 : Int32) = nI 4 from rfl, nI_ltI (by omega) (by omega)]; omega) h21)
  refine A_iconst (v := 4) dX4_readStatement_28 rfl ?_
  refine A_callV (M' := MX4_readFigureBelow) [.int 4] [] 43 dX4_readStatement_29 lk_RX4_49 oX4_readFigureBelow iX4_readFigureBelow rfl rfl ⟨lb rfl, lb rfl⟩ (lb rfl) ⟨lb rfl, lb rfl⟩ L43 rfl (x_rf4L f tn c hT hc E (by omega) e1) ?_
  rintro _ g0 ⟨xz, bz, rfl, hg0⟩
  rw [hg0]
  refine A_istore_n (lv' := [(2, .int xz), (1, .int (nI W)), (0, .ref 43)]) dX4_readStatement_32 rfl (lb rfl) rfl ?_
  refine A_iload_n dX4_readStatement_33 rfl 1 rfl ?_
  refine A_iconst (v := 5) dX4_readStatement_34 rfl ?_
  refine A_icmp_eq (tgt := 50) dX4_readStatement_35 rfl (fun h35 => ?_) (fun h35 => ?_)
  · refine A_aload_n dX4_readStatement_50 rfl 2 rfl ?_
    refine A_callV (M' := MX4_readNumber) [] [] 43 dX4_readStatement_51 lk_RX4_52 oX4_readNumber iX4_readNumber rfl rfl ⟨lb rfl, lb rfl⟩ (lb rfl) ⟨lb rfl, lb rfl⟩ L43 rfl (x_rnz f bz (nI z) (nI_n1 (by omega))) ?_
    rintro _ g0 ⟨rfl, hg0⟩
    rw [hg0]
    refine A_goto (tgt := 58) dX4_readStatement_54 rfl ?_
    refine A_istore_n (lv' := [(3, .int 0), (2, .int xz), (1, .int (nI W)), (0, .ref 43)]) dX4_readStatement_58 rfl (lb rfl) rfl ?_
    refine A_iload_n dX4_readStatement_59 rfl 2 rfl ?_
    refine A_bipush (v := 7) dX4_readStatement_60 rfl ?_
    refine A_icmp_ne (tgt := 72) dX4_readStatement_62 rfl (fun h62 => ?_) (fun h62 => ?_)
    · refine A_iconst (v := 0) dX4_readStatement_72 rfl ?_
      refine A_istore (lv' := [(4, .int 0), (3, .int 0), (2, .int xz), (1, .int (nI W)), (0, .ref 43)]) dX4_readStatement_73 (lb rfl) rfl ?_
      refine A_aload_n dX4_readStatement_75 rfl 4 rfl ?_
      refine A_getI dX4_readStatement_76 fo_RX4_29 L43 rfl ?_
      refine A_topi (nI z) (rd_z f bz (nI z)) ?_
      refine A_iconst (v := -1) dX4_readStatement_79 rfl ?_
      refine A_icmp_ne (tgt := 95) dX4_readStatement_80 rfl (fun h80 => ?_) (fun h80 => by exact absurd h80 (nI_n1 (by omega)))
      exact A_vret dX4_readStatement_95 rfl (⟨rfl, _, rfl⟩)
    · refine A_aload_n dX4_readStatement_65 rfl 3 rfl ?_
      refine A_callV (M' := MX4_readTarget) [] [] 43 dX4_readStatement_66 lk_RX4_46 oX4_readTarget iX4_readTarget rfl rfl ⟨lb rfl, lb rfl⟩ (lb rfl) ⟨lb rfl, lb rfl⟩ L43 rfl (x_rtz f bz (nI z) (nI_n1 (by omega))) ?_
      rintro _ g0 ⟨rfl, hg0⟩
      rw [hg0]
      refine A_goto (tgt := 73) dX4_readStatement_69 rfl ?_
      refine A_istore (lv' := [(4, .int 0), (3, .int 0), (2, .int xz), (1, .int (nI W)), (0, .ref 43)]) dX4_readStatement_73 (lb rfl) rfl ?_
      refine A_aload_n dX4_readStatement_75 rfl 4 rfl ?_
      refine A_getI dX4_readStatement_76 fo_RX4_29 L43 rfl ?_
      refine A_topi (nI z) (rd_z f bz (nI z)) ?_
      refine A_iconst (v := -1) dX4_readStatement_79 rfl ?_
      refine A_icmp_ne (tgt := 95) dX4_readStatement_80 rfl (fun h80 => ?_) (fun h80 => by exact absurd h80 (nI_n1 (by omega)))
      exact A_vret dX4_readStatement_95 rfl (⟨rfl, _, rfl⟩)
  · refine A_iload_n dX4_readStatement_38 rfl 1 rfl ?_
    refine A_bipush (v := 6) dX4_readStatement_39 rfl ?_
    refine A_icmp_eq (tgt := 50) dX4_readStatement_41 rfl (fun h41 => ?_) (fun h41 => ?_)
    · refine A_aload_n dX4_readStatement_50 rfl 2 rfl ?_
      refine A_callV (M' := MX4_readNumber) [] [] 43 dX4_readStatement_51 lk_RX4_52 oX4_readNumber iX4_readNumber rfl rfl ⟨lb rfl, lb rfl⟩ (lb rfl) ⟨lb rfl, lb rfl⟩ L43 rfl (x_rnz f bz (nI z) (nI_n1 (by omega))) ?_
      rintro _ g0 ⟨rfl, hg0⟩
      rw [hg0]
      refine A_goto (tgt := 58) dX4_readStatement_54 rfl ?_
      refine A_istore_n (lv' := [(3, .int 0), (2, .int xz), (1, .int (nI W)), (0, .ref 43)]) dX4_readStatement_58 rfl (lb rfl) rfl ?_
      refine A_iload_n dX4_readStatement_59 rfl 2 rfl ?_
      refine A_bipush (v := 7) dX4_readStatement_60 rfl ?_
      refine A_icmp_ne (tgt := 72) dX4_readStatement_62 rfl (fun h62 => ?_) (fun h62 => ?_)
      · refine A_iconst (v := 0) dX4_readStatement_72 rfl ?_
        refine A_istore (lv' := [(4, .int 0), (3, .int 0), (2, .int xz), (1, .int (nI W)), (0, .ref 43)]) dX4_readStatement_73 (lb rfl) rfl ?_
        refine A_aload_n dX4_readStatement_75 rfl 4 rfl ?_
        refine A_getI dX4_readStatement_76 fo_RX4_29 L43 rfl ?_
        refine A_topi (nI z) (rd_z f bz (nI z)) ?_
        refine A_iconst (v := -1) dX4_readStatement_79 rfl ?_
        refine A_icmp_ne (tgt := 95) dX4_readStatement_80 rfl (fun h80 => ?_) (fun h80 => by exact absurd h80 (nI_n1 (by omega)))
        exact A_vret dX4_readStatement_95 rfl (⟨rfl, _, rfl⟩)
      · refine A_aload_n dX4_readStatement_65 rfl 3 rfl ?_
        refine A_callV (M' := MX4_readTarget) [] [] 43 dX4_readStatement_66 lk_RX4_46 oX4_readTarget iX4_readTarget rfl rfl ⟨lb rfl, lb rfl⟩ (lb rfl) ⟨lb rfl, lb rfl⟩ L43 rfl (x_rtz f bz (nI z) (nI_n1 (by omega))) ?_
        rintro _ g0 ⟨rfl, hg0⟩
        rw [hg0]
        refine A_goto (tgt := 73) dX4_readStatement_69 rfl ?_
        refine A_istore (lv' := [(4, .int 0), (3, .int 0), (2, .int xz), (1, .int (nI W)), (0, .ref 43)]) dX4_readStatement_73 (lb rfl) rfl ?_
        refine A_aload_n dX4_readStatement_75 rfl 4 rfl ?_
        refine A_getI dX4_readStatement_76 fo_RX4_29 L43 rfl ?_
        refine A_topi (nI z) (rd_z f bz (nI z)) ?_
        refine A_iconst (v := -1) dX4_readStatement_79 rfl ?_
        refine A_icmp_ne (tgt := 95) dX4_readStatement_80 rfl (fun h80 => ?_) (fun h80 => by exact absurd h80 (nI_n1 (by omega)))
        exact A_vret dX4_readStatement_95 rfl (⟨rfl, _, rfl⟩)
    · refine A_iload_n dX4_readStatement_44 rfl 1 rfl ?_
      refine A_bipush (v := 7) dX4_readStatement_45 rfl ?_
      refine A_icmp_ne (tgt := 57) dX4_readStatement_47 rfl (fun h47 => by exact absurd (show W < 8 from hW.2) (by have a1 : W ≠ 5 := fun q => h35 (by rw [q]; rfl); have a2 : W ≠ 6 := fun q => h41 (by rw [q]; rfl); have a3 : W ≠ 7 := fun q => h47 (by rw [q]; rfl); omega)) (fun h47 => ?_)
      refine A_aload_n dX4_readStatement_50 rfl 2 rfl ?_
      refine A_callV (M' := MX4_readNumber) [] [] 43 dX4_readStatement_51 lk_RX4_52 oX4_readNumber iX4_readNumber rfl rfl ⟨lb rfl, lb rfl⟩ (lb rfl) ⟨lb rfl, lb rfl⟩ L43 rfl (x_rnz f bz (nI z) (nI_n1 (by omega))) ?_
      rintro _ g0 ⟨rfl, hg0⟩
      rw [hg0]
      refine A_goto (tgt := 58) dX4_readStatement_54 rfl ?_
      refine A_istore_n (lv' := [(3, .int 0), (2, .int xz), (1, .int (nI W)), (0, .ref 43)]) dX4_readStatement_58 rfl (lb rfl) rfl ?_
      refine A_iload_n dX4_readStatement_59 rfl 2 rfl ?_
      refine A_bipush (v := 7) dX4_readStatement_60 rfl ?_
      refine A_icmp_ne (tgt := 72) dX4_readStatement_62 rfl (fun h62 => ?_) (fun h62 => ?_)
      · refine A_iconst (v := 0) dX4_readStatement_72 rfl ?_
        refine A_istore (lv' := [(4, .int 0), (3, .int 0), (2, .int xz), (1, .int (nI W)), (0, .ref 43)]) dX4_readStatement_73 (lb rfl) rfl ?_
        refine A_aload_n dX4_readStatement_75 rfl 4 rfl ?_
        refine A_getI dX4_readStatement_76 fo_RX4_29 L43 rfl ?_
        refine A_topi (nI z) (rd_z f bz (nI z)) ?_
        refine A_iconst (v := -1) dX4_readStatement_79 rfl ?_
        refine A_icmp_ne (tgt := 95) dX4_readStatement_80 rfl (fun h80 => ?_) (fun h80 => by exact absurd h80 (nI_n1 (by omega)))
        exact A_vret dX4_readStatement_95 rfl (⟨rfl, _, rfl⟩)
      · refine A_aload_n dX4_readStatement_65 rfl 3 rfl ?_
        refine A_callV (M' := MX4_readTarget) [] [] 43 dX4_readStatement_66 lk_RX4_46 oX4_readTarget iX4_readTarget rfl rfl ⟨lb rfl, lb rfl⟩ (lb rfl) ⟨lb rfl, lb rfl⟩ L43 rfl (x_rtz f bz (nI z) (nI_n1 (by omega))) ?_
        rintro _ g0 ⟨rfl, hg0⟩
        rw [hg0]
        refine A_goto (tgt := 73) dX4_readStatement_69 rfl ?_
        refine A_istore (lv' := [(4, .int 0), (3, .int 0), (2, .int xz), (1, .int (nI W)), (0, .ref 43)]) dX4_readStatement_73 (lb rfl) rfl ?_
        refine A_aload_n dX4_readStatement_75 rfl 4 rfl ?_
        refine A_getI dX4_readStatement_76 fo_RX4_29 L43 rfl ?_
        refine A_topi (nI z) (rd_z f bz (nI z)) ?_
        refine A_iconst (v := -1) dX4_readStatement_79 rfl ?_
        refine A_icmp_ne (tgt := 95) dX4_readStatement_80 rfl (fun h80 => ?_) (fun h80 => by exact absurd h80 (nI_n1 (by omega)))
        exact A_vret dX4_readStatement_95 rfl (⟨rfl, _, rfl⟩)
theorem x_rs7m (f : Mem) (tn : Nat) (c : Nat → Nat) (hT : XTp f tn c) (hc : tcW c tn) (a n W E : Nat) (ha : a < 2 ^ 28) (hE : E < 2 ^ 28 + 200) (hn : f 46 0 = nI n) (h12 : n < 12) (hR : C0 MX4_readWord [.ref 43] (rd 43 2 3 f a (-1)) (rt (some (.int (nI W))) (rd 43 2 3 f E (-1)))) (hW : 5 ≤ W ∧ W < 8) {q : Int32 × Nat} (e1 : nu 1 3 c E = .inr q) {z : Nat} (e2 : nuS c q.2 = .inl z) : C0 MX4_readStatement [.ref 43] (rd 43 2 3 f a (-1)) (fun r h => r = none ∧ ∃ b, h = rd 43 2 3 f b (nI z)) := by
  have hb := nu_b e1
  have hz := nuS_l e2
  refine Ct.of (lv := [(0, .ref 43)]) (by decide) (lb rfl) rfl ?_
  refine A_aload_n dX4_readStatement_0 rfl 0 rfl ?_
  refine A_callV (M' := MX4_readWord) [] [] 43 dX4_readStatement_1 lk_RX4_42 oX4_readWord iX4_readWord rfl rfl ⟨lb rfl, lb rfl⟩ (lb rfl) ⟨lb rfl, lb rfl⟩ L43 rfl (hR) ?_
  rintro _ g0 ⟨rfl, hg0⟩
  rw [hg0]
  refine A_istore_n (lv' := [(1, .int (nI W)), (0, .ref 43)]) dX4_readStatement_4 rfl (lb rfl) rfl ?_
  refine A_iload_n dX4_readStatement_5 rfl 0 rfl ?_
  refine A_bipush (v := 8) dX4_readStatement_6 rfl ?_
  refine A_icmp_ne (tgt := 18) dX4_readStatement_8 rfl (fun h8 => ?_) (fun h8 => by exact absurd ((nI_eq (by omega) (by decide)).mp (show nI W = nI 8 from h8)) (by omega))
  refine A_aload_n dX4_readStatement_18 rfl 1 rfl ?_
  refine A_iload_n dX4_readStatement_19 rfl 0 rfl ?_
  refine A_iconst (v := 4) dX4_readStatement_20 rfl ?_
  refine A_icmp_gt (tgt := 28) dX4_readStatement_21 rfl (fun h21 => ?_) (fun h21 => by exact absurd (by rw [show (4 : Int32) = nI 4 from rfl, nI_ltI (by omega) (by omega)]; omega) h21)
  refine A_iconst (v := 4) dX4_readStatement_28 rfl ?_
  refine A_callV (M' := MX4_readFigureBelow) [.int 4] [] 43 dX4_readStatement_29 lk_RX4_49 oX4_readFigureBelow iX4_readFigureBelow rfl rfl ⟨lb rfl, lb rfl⟩ (lb rfl) ⟨lb rfl, lb rfl⟩ L43 rfl (x_rf4R f tn c hT hc E (by omega) e1) ?_
  rintro _ g0 ⟨rfl, hg0⟩
  rw [hg0]
  refine A_istore_n (lv' := [(2, .int q.1), (1, .int (nI W)), (0, .ref 43)]) dX4_readStatement_32 rfl (lb rfl) rfl ?_
  refine A_iload_n dX4_readStatement_33 rfl 1 rfl ?_
  refine A_iconst (v := 5) dX4_readStatement_34 rfl ?_
  refine A_icmp_eq (tgt := 50) dX4_readStatement_35 rfl (fun h35 => ?_) (fun h35 => ?_)
  · refine A_aload_n dX4_readStatement_50 rfl 2 rfl ?_
    refine A_callV (M' := MX4_readNumber) [] [] 43 dX4_readStatement_51 lk_RX4_52 oX4_readNumber iX4_readNumber rfl rfl ⟨lb rfl, lb rfl⟩ (lb rfl) ⟨lb rfl, lb rfl⟩ L43 rfl (x_rnL f tn c hT hc q.2 (by omega) e2) ?_
    rintro _ g0 ⟨xz, bz, rfl, hg0⟩
    rw [hg0]
    refine A_goto (tgt := 58) dX4_readStatement_54 rfl ?_
    refine A_istore_n (lv' := [(3, .int xz), (2, .int q.1), (1, .int (nI W)), (0, .ref 43)]) dX4_readStatement_58 rfl (lb rfl) rfl ?_
    refine A_iload_n dX4_readStatement_59 rfl 2 rfl ?_
    refine A_bipush (v := 7) dX4_readStatement_60 rfl ?_
    refine A_icmp_ne (tgt := 72) dX4_readStatement_62 rfl (fun h62 => ?_) (fun h62 => ?_)
    · refine A_iconst (v := 0) dX4_readStatement_72 rfl ?_
      refine A_istore (lv' := [(4, .int 0), (3, .int xz), (2, .int q.1), (1, .int (nI W)), (0, .ref 43)]) dX4_readStatement_73 (lb rfl) rfl ?_
      refine A_aload_n dX4_readStatement_75 rfl 4 rfl ?_
      refine A_getI dX4_readStatement_76 fo_RX4_29 L43 rfl ?_
      refine A_topi (nI z) (rd_z f bz (nI z)) ?_
      refine A_iconst (v := -1) dX4_readStatement_79 rfl ?_
      refine A_icmp_ne (tgt := 95) dX4_readStatement_80 rfl (fun h80 => ?_) (fun h80 => by exact absurd h80 (nI_n1 (by omega)))
      exact A_vret dX4_readStatement_95 rfl (⟨rfl, _, rfl⟩)
    · refine A_aload_n dX4_readStatement_65 rfl 3 rfl ?_
      refine A_callV (M' := MX4_readTarget) [] [] 43 dX4_readStatement_66 lk_RX4_46 oX4_readTarget iX4_readTarget rfl rfl ⟨lb rfl, lb rfl⟩ (lb rfl) ⟨lb rfl, lb rfl⟩ L43 rfl (x_rtz f bz (nI z) (nI_n1 (by omega))) ?_
      rintro _ g0 ⟨rfl, hg0⟩
      rw [hg0]
      refine A_goto (tgt := 73) dX4_readStatement_69 rfl ?_
      refine A_istore (lv' := [(4, .int 0), (3, .int xz), (2, .int q.1), (1, .int (nI W)), (0, .ref 43)]) dX4_readStatement_73 (lb rfl) rfl ?_
      refine A_aload_n dX4_readStatement_75 rfl 4 rfl ?_
      refine A_getI dX4_readStatement_76 fo_RX4_29 L43 rfl ?_
      refine A_topi (nI z) (rd_z f bz (nI z)) ?_
      refine A_iconst (v := -1) dX4_readStatement_79 rfl ?_
      refine A_icmp_ne (tgt := 95) dX4_readStatement_80 rfl (fun h80 => ?_) (fun h80 => by exact absurd h80 (nI_n1 (by omega)))
      exact A_vret dX4_readStatement_95 rfl (⟨rfl, _, rfl⟩)
  · refine A_iload_n dX4_readStatement_38 rfl 1 rfl ?_
    refine A_bipush (v := 6) dX4_readStatement_39 rfl ?_
    refine A_icmp_eq (tgt := 50) dX4_readStatement_41 rfl (fun h41 => ?_) (fun h41 => ?_)
    · refine A_aload_n dX4_readStatement_50 rfl 2 rfl ?_
      refine A_callV (M' := MX4_readNumber) [] [] 43 dX4_readStatement_51 lk_RX4_52 oX4_readNumber iX4_readNumber rfl rfl ⟨lb rfl, lb rfl⟩ (lb rfl) ⟨lb rfl, lb rfl⟩ L43 rfl (x_rnL f tn c hT hc q.2 (by omega) e2) ?_
      rintro _ g0 ⟨xz, bz, rfl, hg0⟩
      rw [hg0]
      refine A_goto (tgt := 58) dX4_readStatement_54 rfl ?_
      refine A_istore_n (lv' := [(3, .int xz), (2, .int q.1), (1, .int (nI W)), (0, .ref 43)]) dX4_readStatement_58 rfl (lb rfl) rfl ?_
      refine A_iload_n dX4_readStatement_59 rfl 2 rfl ?_
      refine A_bipush (v := 7) dX4_readStatement_60 rfl ?_
      refine A_icmp_ne (tgt := 72) dX4_readStatement_62 rfl (fun h62 => ?_) (fun h62 => ?_)
      · refine A_iconst (v := 0) dX4_readStatement_72 rfl ?_
        refine A_istore (lv' := [(4, .int 0), (3, .int xz), (2, .int q.1), (1, .int (nI W)), (0, .ref 43)]) dX4_readStatement_73 (lb rfl) rfl ?_
        refine A_aload_n dX4_readStatement_75 rfl 4 rfl ?_
        refine A_getI dX4_readStatement_76 fo_RX4_29 L43 rfl ?_
        refine A_topi (nI z) (rd_z f bz (nI z)) ?_
        refine A_iconst (v := -1) dX4_readStatement_79 rfl ?_
        refine A_icmp_ne (tgt := 95) dX4_readStatement_80 rfl (fun h80 => ?_) (fun h80 => by exact absurd h80 (nI_n1 (by omega)))
        exact A_vret dX4_readStatement_95 rfl (⟨rfl, _, rfl⟩)
      · refine A_aload_n dX4_readStatement_65 rfl 3 rfl ?_
        refine A_callV (M' := MX4_readTarget) [] [] 43 dX4_readStatement_66 lk_RX4_46 oX4_readTarget iX4_readTarget rfl rfl ⟨lb rfl, lb rfl⟩ (lb rfl) ⟨lb rfl, lb rfl⟩ L43 rfl (x_rtz f bz (nI z) (nI_n1 (by omega))) ?_
        rintro _ g0 ⟨rfl, hg0⟩
        rw [hg0]
        refine A_goto (tgt := 73) dX4_readStatement_69 rfl ?_
        refine A_istore (lv' := [(4, .int 0), (3, .int xz), (2, .int q.1), (1, .int (nI W)), (0, .ref 43)]) dX4_readStatement_73 (lb rfl) rfl ?_
        refine A_aload_n dX4_readStatement_75 rfl 4 rfl ?_
        refine A_getI dX4_readStatement_76 fo_RX4_29 L43 rfl ?_
        refine A_topi (nI z) (rd_z f bz (nI z)) ?_
        refine A_iconst (v := -1) dX4_readStatement_79 rfl ?_
        refine A_icmp_ne (tgt := 95) dX4_readStatement_80 rfl (fun h80 => ?_) (fun h80 => by exact absurd h80 (nI_n1 (by omega)))
        exact A_vret dX4_readStatement_95 rfl (⟨rfl, _, rfl⟩)
    · refine A_iload_n dX4_readStatement_44 rfl 1 rfl ?_
      refine A_bipush (v := 7) dX4_readStatement_45 rfl ?_
      refine A_icmp_ne (tgt := 57) dX4_readStatement_47 rfl (fun h47 => by exact absurd (show W < 8 from hW.2) (by have a1 : W ≠ 5 := fun q => h35 (by rw [q]; rfl); have a2 : W ≠ 6 := fun q => h41 (by rw [q]; rfl); have a3 : W ≠ 7 := fun q => h47 (by rw [q]; rfl); omega)) (fun h47 => ?_)
      refine A_aload_n dX4_readStatement_50 rfl 2 rfl ?_
      refine A_callV (M' := MX4_readNumber) [] [] 43 dX4_readStatement_51 lk_RX4_52 oX4_readNumber iX4_readNumber rfl rfl ⟨lb rfl, lb rfl⟩ (lb rfl) ⟨lb rfl, lb rfl⟩ L43 rfl (x_rnL f tn c hT hc q.2 (by omega) e2) ?_
      rintro _ g0 ⟨xz, bz, rfl, hg0⟩
      rw [hg0]
      refine A_goto (tgt := 58) dX4_readStatement_54 rfl ?_
      refine A_istore_n (lv' := [(3, .int xz), (2, .int q.1), (1, .int (nI W)), (0, .ref 43)]) dX4_readStatement_58 rfl (lb rfl) rfl ?_
      refine A_iload_n dX4_readStatement_59 rfl 2 rfl ?_
      refine A_bipush (v := 7) dX4_readStatement_60 rfl ?_
      refine A_icmp_ne (tgt := 72) dX4_readStatement_62 rfl (fun h62 => ?_) (fun h62 => ?_)
      · refine A_iconst (v := 0) dX4_readStatement_72 rfl ?_
        refine A_istore (lv' := [(4, .int 0), (3, .int xz), (2, .int q.1), (1, .int (nI W)), (0, .ref 43)]) dX4_readStatement_73 (lb rfl) rfl ?_
        refine A_aload_n dX4_readStatement_75 rfl 4 rfl ?_
        refine A_getI dX4_readStatement_76 fo_RX4_29 L43 rfl ?_
        refine A_topi (nI z) (rd_z f bz (nI z)) ?_
        refine A_iconst (v := -1) dX4_readStatement_79 rfl ?_
        refine A_icmp_ne (tgt := 95) dX4_readStatement_80 rfl (fun h80 => ?_) (fun h80 => by exact absurd h80 (nI_n1 (by omega)))
        exact A_vret dX4_readStatement_95 rfl (⟨rfl, _, rfl⟩)
      · refine A_aload_n dX4_readStatement_65 rfl 3 rfl ?_
        refine A_callV (M' := MX4_readTarget) [] [] 43 dX4_readStatement_66 lk_RX4_46 oX4_readTarget iX4_readTarget rfl rfl ⟨lb rfl, lb rfl⟩ (lb rfl) ⟨lb rfl, lb rfl⟩ L43 rfl (x_rtz f bz (nI z) (nI_n1 (by omega))) ?_
        rintro _ g0 ⟨rfl, hg0⟩
        rw [hg0]
        refine A_goto (tgt := 73) dX4_readStatement_69 rfl ?_
        refine A_istore (lv' := [(4, .int 0), (3, .int xz), (2, .int q.1), (1, .int (nI W)), (0, .ref 43)]) dX4_readStatement_73 (lb rfl) rfl ?_
        refine A_aload_n dX4_readStatement_75 rfl 4 rfl ?_
        refine A_getI dX4_readStatement_76 fo_RX4_29 L43 rfl ?_
        refine A_topi (nI z) (rd_z f bz (nI z)) ?_
        refine A_iconst (v := -1) dX4_readStatement_79 rfl ?_
        refine A_icmp_ne (tgt := 95) dX4_readStatement_80 rfl (fun h80 => ?_) (fun h80 => by exact absurd h80 (nI_n1 (by omega)))
        exact A_vret dX4_readStatement_95 rfl (⟨rfl, _, rfl⟩)
theorem x_rs7r (f : Mem) (tn : Nat) (c : Nat → Nat) (hT : XTp f tn c) (hc : tcW c tn) (a n W E : Nat) (ha : a < 2 ^ 28) (hE : E < 2 ^ 28 + 200) (hn : f 46 0 = nI n) (h12 : n < 12) (hR : C0 MX4_readWord [.ref 43] (rd 43 2 3 f a (-1)) (rt (some (.int (nI W))) (rd 43 2 3 f E (-1)))) (hW : 5 ≤ W ∧ W < 8) {q : Int32 × Nat} (e1 : nu 1 3 c E = .inr q) {r : Int32 × Nat} (e2 : nuS c q.2 = .inr r) (h7 : ¬ W = 7) : C0 MX4_readStatement [.ref 43] (rd 43 2 3 f a (-1)) (rt none (rd 43 2 3 (apM f n (nI W) q.1 r.1 0) r.2 (-1))) := by
  have hb := nu_b e1
  have hb2 := nuS_b e2
  refine Ct.of (lv := [(0, .ref 43)]) (by decide) (lb rfl) rfl ?_
  refine A_aload_n dX4_readStatement_0 rfl 0 rfl ?_
  refine A_callV (M' := MX4_readWord) [] [] 43 dX4_readStatement_1 lk_RX4_42 oX4_readWord iX4_readWord rfl rfl ⟨lb rfl, lb rfl⟩ (lb rfl) ⟨lb rfl, lb rfl⟩ L43 rfl (hR) ?_
  rintro _ g0 ⟨rfl, hg0⟩
  rw [hg0]
  refine A_istore_n (lv' := [(1, .int (nI W)), (0, .ref 43)]) dX4_readStatement_4 rfl (lb rfl) rfl ?_
  refine A_iload_n dX4_readStatement_5 rfl 0 rfl ?_
  refine A_bipush (v := 8) dX4_readStatement_6 rfl ?_
  refine A_icmp_ne (tgt := 18) dX4_readStatement_8 rfl (fun h8 => ?_) (fun h8 => by exact absurd ((nI_eq (by omega) (by decide)).mp (show nI W = nI 8 from h8)) (by omega))
  refine A_aload_n dX4_readStatement_18 rfl 1 rfl ?_
  refine A_iload_n dX4_readStatement_19 rfl 0 rfl ?_
  refine A_iconst (v := 4) dX4_readStatement_20 rfl ?_
  refine A_icmp_gt (tgt := 28) dX4_readStatement_21 rfl (fun h21 => ?_) (fun h21 => by exact absurd (by rw [show (4 : Int32) = nI 4 from rfl, nI_ltI (by omega) (by omega)]; omega) h21)
  refine A_iconst (v := 4) dX4_readStatement_28 rfl ?_
  refine A_callV (M' := MX4_readFigureBelow) [.int 4] [] 43 dX4_readStatement_29 lk_RX4_49 oX4_readFigureBelow iX4_readFigureBelow rfl rfl ⟨lb rfl, lb rfl⟩ (lb rfl) ⟨lb rfl, lb rfl⟩ L43 rfl (x_rf4R f tn c hT hc E (by omega) e1) ?_
  rintro _ g0 ⟨rfl, hg0⟩
  rw [hg0]
  refine A_istore_n (lv' := [(2, .int q.1), (1, .int (nI W)), (0, .ref 43)]) dX4_readStatement_32 rfl (lb rfl) rfl ?_
  refine A_iload_n dX4_readStatement_33 rfl 1 rfl ?_
  refine A_iconst (v := 5) dX4_readStatement_34 rfl ?_
  refine A_icmp_eq (tgt := 50) dX4_readStatement_35 rfl (fun h35 => ?_) (fun h35 => ?_)
  · refine A_aload_n dX4_readStatement_50 rfl 2 rfl ?_
    refine A_callV (M' := MX4_readNumber) [] [] 43 dX4_readStatement_51 lk_RX4_52 oX4_readNumber iX4_readNumber rfl rfl ⟨lb rfl, lb rfl⟩ (lb rfl) ⟨lb rfl, lb rfl⟩ L43 rfl (x_rnR f tn c hT hc q.2 (by omega) e2) ?_
    rintro _ g0 ⟨rfl, hg0⟩
    rw [hg0]
    refine A_goto (tgt := 58) dX4_readStatement_54 rfl ?_
    refine A_istore_n (lv' := [(3, .int r.1), (2, .int q.1), (1, .int (nI W)), (0, .ref 43)]) dX4_readStatement_58 rfl (lb rfl) rfl ?_
    refine A_iload_n dX4_readStatement_59 rfl 2 rfl ?_
    refine A_bipush (v := 7) dX4_readStatement_60 rfl ?_
    refine A_icmp_ne (tgt := 72) dX4_readStatement_62 rfl (fun h62 => ?_) (fun h62 => by exact absurd ((nI_eq (by omega) (by decide)).mp (show nI W = nI 7 from h62)) (by omega))
    refine A_iconst (v := 0) dX4_readStatement_72 rfl ?_
    refine A_istore (lv' := [(4, .int 0), (3, .int r.1), (2, .int q.1), (1, .int (nI W)), (0, .ref 43)]) dX4_readStatement_73 (lb rfl) rfl ?_
    refine A_aload_n dX4_readStatement_75 rfl 4 rfl ?_
    refine A_getI dX4_readStatement_76 fo_RX4_29 L43 rfl ?_
    refine A_topi (-1) (rd_z f r.2 (-1)) ?_
    refine A_iconst (v := -1) dX4_readStatement_79 rfl ?_
    refine A_icmp_ne (tgt := 95) dX4_readStatement_80 rfl (fun h80 => by exact absurd rfl h80) (fun h80 => ?_)
    refine A_aload_n dX4_readStatement_83 rfl 4 rfl ?_
    refine A_getR (b := 46) dX4_readStatement_84 fo_RX4_21 L43 rfl ?_
    refine A_iload_n dX4_readStatement_87 rfl 3 rfl ?_
    refine A_iload_n dX4_readStatement_88 rfl 2 rfl ?_
    refine A_iload_n dX4_readStatement_89 rfl 1 rfl ?_
    refine A_iload dX4_readStatement_90 0 rfl ?_
    refine A_callV (M' := MX3_append) [.int (nI W), .int q.1, .int r.1, .int 0] [] 46 dX4_readStatement_92 lk_RX4_55 oX3_append iX3_append rfl rfl ⟨lb rfl, lb rfl⟩ (lb rfl) ⟨lb rfl, lb rfl⟩ L46 rfl (x_pap _ n (nI W) q.1 r.1 0 ((congrFun (rd_o f r.2 (-1) (by decide)) _).trans hn) h12) ?_
    rintro _ g0 ⟨rfl, hg0⟩
    rw [hg0, apM_rd f n r.2 (-1) (nI W) q.1 r.1 0]
    exact A_vret dX4_readStatement_95 rfl (⟨rfl, rfl⟩)
  · refine A_iload_n dX4_readStatement_38 rfl 1 rfl ?_
    refine A_bipush (v := 6) dX4_readStatement_39 rfl ?_
    refine A_icmp_eq (tgt := 50) dX4_readStatement_41 rfl (fun h41 => ?_) (fun h41 => ?_)
    · refine A_aload_n dX4_readStatement_50 rfl 2 rfl ?_
      refine A_callV (M' := MX4_readNumber) [] [] 43 dX4_readStatement_51 lk_RX4_52 oX4_readNumber iX4_readNumber rfl rfl ⟨lb rfl, lb rfl⟩ (lb rfl) ⟨lb rfl, lb rfl⟩ L43 rfl (x_rnR f tn c hT hc q.2 (by omega) e2) ?_
      rintro _ g0 ⟨rfl, hg0⟩
      rw [hg0]
      refine A_goto (tgt := 58) dX4_readStatement_54 rfl ?_
      refine A_istore_n (lv' := [(3, .int r.1), (2, .int q.1), (1, .int (nI W)), (0, .ref 43)]) dX4_readStatement_58 rfl (lb rfl) rfl ?_
      refine A_iload_n dX4_readStatement_59 rfl 2 rfl ?_
      refine A_bipush (v := 7) dX4_readStatement_60 rfl ?_
      refine A_icmp_ne (tgt := 72) dX4_readStatement_62 rfl (fun h62 => ?_) (fun h62 => by exact absurd ((nI_eq (by omega) (by decide)).mp (show nI W = nI 7 from h62)) (by omega))
      refine A_iconst (v := 0) dX4_readStatement_72 rfl ?_
      refine A_istore (lv' := [(4, .int 0), (3, .int r.1), (2, .int q.1), (1, .int (nI W)), (0, .ref 43)]) dX4_readStatement_73 (lb rfl) rfl ?_
      refine A_aload_n dX4_readStatement_75 rfl 4 rfl ?_
      refine A_getI dX4_readStatement_76 fo_RX4_29 L43 rfl ?_
      refine A_topi (-1) (rd_z f r.2 (-1)) ?_
      refine A_iconst (v := -1) dX4_readStatement_79 rfl ?_
      refine A_icmp_ne (tgt := 95) dX4_readStatement_80 rfl (fun h80 => by exact absurd rfl h80) (fun h80 => ?_)
      refine A_aload_n dX4_readStatement_83 rfl 4 rfl ?_
      refine A_getR (b := 46) dX4_readStatement_84 fo_RX4_21 L43 rfl ?_
      refine A_iload_n dX4_readStatement_87 rfl 3 rfl ?_
      refine A_iload_n dX4_readStatement_88 rfl 2 rfl ?_
      refine A_iload_n dX4_readStatement_89 rfl 1 rfl ?_
      refine A_iload dX4_readStatement_90 0 rfl ?_
      refine A_callV (M' := MX3_append) [.int (nI W), .int q.1, .int r.1, .int 0] [] 46 dX4_readStatement_92 lk_RX4_55 oX3_append iX3_append rfl rfl ⟨lb rfl, lb rfl⟩ (lb rfl) ⟨lb rfl, lb rfl⟩ L46 rfl (x_pap _ n (nI W) q.1 r.1 0 ((congrFun (rd_o f r.2 (-1) (by decide)) _).trans hn) h12) ?_
      rintro _ g0 ⟨rfl, hg0⟩
      rw [hg0, apM_rd f n r.2 (-1) (nI W) q.1 r.1 0]
      exact A_vret dX4_readStatement_95 rfl (⟨rfl, rfl⟩)
    · refine A_iload_n dX4_readStatement_44 rfl 1 rfl ?_
      refine A_bipush (v := 7) dX4_readStatement_45 rfl ?_
      refine A_icmp_ne (tgt := 57) dX4_readStatement_47 rfl (fun h47 => by exact absurd (show W < 8 from hW.2) (by have a1 : W ≠ 5 := fun q => h35 (by rw [q]; rfl); have a2 : W ≠ 6 := fun q => h41 (by rw [q]; rfl); have a3 : W ≠ 7 := fun q => h47 (by rw [q]; rfl); omega)) (fun h47 => ?_)
      refine A_aload_n dX4_readStatement_50 rfl 2 rfl ?_
      refine A_callV (M' := MX4_readNumber) [] [] 43 dX4_readStatement_51 lk_RX4_52 oX4_readNumber iX4_readNumber rfl rfl ⟨lb rfl, lb rfl⟩ (lb rfl) ⟨lb rfl, lb rfl⟩ L43 rfl (x_rnR f tn c hT hc q.2 (by omega) e2) ?_
      rintro _ g0 ⟨rfl, hg0⟩
      rw [hg0]
      refine A_goto (tgt := 58) dX4_readStatement_54 rfl ?_
      refine A_istore_n (lv' := [(3, .int r.1), (2, .int q.1), (1, .int (nI W)), (0, .ref 43)]) dX4_readStatement_58 rfl (lb rfl) rfl ?_
      refine A_iload_n dX4_readStatement_59 rfl 2 rfl ?_
      refine A_bipush (v := 7) dX4_readStatement_60 rfl ?_
      refine A_icmp_ne (tgt := 72) dX4_readStatement_62 rfl (fun h62 => ?_) (fun h62 => by exact absurd ((nI_eq (by omega) (by decide)).mp (show nI W = nI 7 from h62)) (by omega))
      refine A_iconst (v := 0) dX4_readStatement_72 rfl ?_
      refine A_istore (lv' := [(4, .int 0), (3, .int r.1), (2, .int q.1), (1, .int (nI W)), (0, .ref 43)]) dX4_readStatement_73 (lb rfl) rfl ?_
      refine A_aload_n dX4_readStatement_75 rfl 4 rfl ?_
      refine A_getI dX4_readStatement_76 fo_RX4_29 L43 rfl ?_
      refine A_topi (-1) (rd_z f r.2 (-1)) ?_
      refine A_iconst (v := -1) dX4_readStatement_79 rfl ?_
      refine A_icmp_ne (tgt := 95) dX4_readStatement_80 rfl (fun h80 => by exact absurd rfl h80) (fun h80 => ?_)
      refine A_aload_n dX4_readStatement_83 rfl 4 rfl ?_
      refine A_getR (b := 46) dX4_readStatement_84 fo_RX4_21 L43 rfl ?_
      refine A_iload_n dX4_readStatement_87 rfl 3 rfl ?_
      refine A_iload_n dX4_readStatement_88 rfl 2 rfl ?_
      refine A_iload_n dX4_readStatement_89 rfl 1 rfl ?_
      refine A_iload dX4_readStatement_90 0 rfl ?_
      refine A_callV (M' := MX3_append) [.int (nI W), .int q.1, .int r.1, .int 0] [] 46 dX4_readStatement_92 lk_RX4_55 oX3_append iX3_append rfl rfl ⟨lb rfl, lb rfl⟩ (lb rfl) ⟨lb rfl, lb rfl⟩ L46 rfl (x_pap _ n (nI W) q.1 r.1 0 ((congrFun (rd_o f r.2 (-1) (by decide)) _).trans hn) h12) ?_
      rintro _ g0 ⟨rfl, hg0⟩
      rw [hg0, apM_rd f n r.2 (-1) (nI W) q.1 r.1 0]
      exact A_vret dX4_readStatement_95 rfl (⟨rfl, rfl⟩)
theorem x_rs7t (f : Mem) (tn : Nat) (c : Nat → Nat) (hT : XTp f tn c) (hc : tcW c tn) (a n W E : Nat) (ha : a < 2 ^ 28) (hE : E < 2 ^ 28 + 200) (hn : f 46 0 = nI n) (h12 : n < 12) (hR : C0 MX4_readWord [.ref 43] (rd 43 2 3 f a (-1)) (rt (some (.int (nI W))) (rd 43 2 3 f E (-1)))) (hW : 5 ≤ W ∧ W < 8) {q : Int32 × Nat} (e1 : nu 1 3 c E = .inr q) {r : Int32 × Nat} (e2 : nuS c q.2 = .inr r) (h7 : W = 7) {z : Nat} (e3 : nu 2 12 c r.2 = .inl z) : C0 MX4_readStatement [.ref 43] (rd 43 2 3 f a (-1)) (fun r h => r = none ∧ ∃ b, h = rd 43 2 3 f b (nI z)) := by
  have hb := nu_b e1
  have hb2 := nuS_b e2
  have hz := nu_l e3
  refine Ct.of (lv := [(0, .ref 43)]) (by decide) (lb rfl) rfl ?_
  refine A_aload_n dX4_readStatement_0 rfl 0 rfl ?_
  refine A_callV (M' := MX4_readWord) [] [] 43 dX4_readStatement_1 lk_RX4_42 oX4_readWord iX4_readWord rfl rfl ⟨lb rfl, lb rfl⟩ (lb rfl) ⟨lb rfl, lb rfl⟩ L43 rfl (hR) ?_
  rintro _ g0 ⟨rfl, hg0⟩
  rw [hg0]
  refine A_istore_n (lv' := [(1, .int (nI W)), (0, .ref 43)]) dX4_readStatement_4 rfl (lb rfl) rfl ?_
  refine A_iload_n dX4_readStatement_5 rfl 0 rfl ?_
  refine A_bipush (v := 8) dX4_readStatement_6 rfl ?_
  refine A_icmp_ne (tgt := 18) dX4_readStatement_8 rfl (fun h8 => ?_) (fun h8 => by exact absurd ((nI_eq (by omega) (by decide)).mp (show nI W = nI 8 from h8)) (by omega))
  refine A_aload_n dX4_readStatement_18 rfl 1 rfl ?_
  refine A_iload_n dX4_readStatement_19 rfl 0 rfl ?_
  refine A_iconst (v := 4) dX4_readStatement_20 rfl ?_
  refine A_icmp_gt (tgt := 28) dX4_readStatement_21 rfl (fun h21 => ?_) (fun h21 => by exact absurd (by rw [show (4 : Int32) = nI 4 from rfl, nI_ltI (by omega) (by omega)]; omega) h21)
  refine A_iconst (v := 4) dX4_readStatement_28 rfl ?_
  refine A_callV (M' := MX4_readFigureBelow) [.int 4] [] 43 dX4_readStatement_29 lk_RX4_49 oX4_readFigureBelow iX4_readFigureBelow rfl rfl ⟨lb rfl, lb rfl⟩ (lb rfl) ⟨lb rfl, lb rfl⟩ L43 rfl (x_rf4R f tn c hT hc E (by omega) e1) ?_
  rintro _ g0 ⟨rfl, hg0⟩
  rw [hg0]
  refine A_istore_n (lv' := [(2, .int q.1), (1, .int (nI W)), (0, .ref 43)]) dX4_readStatement_32 rfl (lb rfl) rfl ?_
  refine A_iload_n dX4_readStatement_33 rfl 1 rfl ?_
  refine A_iconst (v := 5) dX4_readStatement_34 rfl ?_
  refine A_icmp_eq (tgt := 50) dX4_readStatement_35 rfl (fun h35 => ?_) (fun h35 => ?_)
  · refine A_aload_n dX4_readStatement_50 rfl 2 rfl ?_
    refine A_callV (M' := MX4_readNumber) [] [] 43 dX4_readStatement_51 lk_RX4_52 oX4_readNumber iX4_readNumber rfl rfl ⟨lb rfl, lb rfl⟩ (lb rfl) ⟨lb rfl, lb rfl⟩ L43 rfl (x_rnR f tn c hT hc q.2 (by omega) e2) ?_
    rintro _ g0 ⟨rfl, hg0⟩
    rw [hg0]
    refine A_goto (tgt := 58) dX4_readStatement_54 rfl ?_
    refine A_istore_n (lv' := [(3, .int r.1), (2, .int q.1), (1, .int (nI W)), (0, .ref 43)]) dX4_readStatement_58 rfl (lb rfl) rfl ?_
    refine A_iload_n dX4_readStatement_59 rfl 2 rfl ?_
    refine A_bipush (v := 7) dX4_readStatement_60 rfl ?_
    refine A_icmp_ne (tgt := 72) dX4_readStatement_62 rfl (fun h62 => by exact absurd (by rw [h7]; rfl) h62) (fun h62 => ?_)
    refine A_aload_n dX4_readStatement_65 rfl 3 rfl ?_
    refine A_callV (M' := MX4_readTarget) [] [] 43 dX4_readStatement_66 lk_RX4_46 oX4_readTarget iX4_readTarget rfl rfl ⟨lb rfl, lb rfl⟩ (lb rfl) ⟨lb rfl, lb rfl⟩ L43 rfl (x_rtL f tn c hT hc r.2 (by omega) e3) ?_
    rintro _ g0 ⟨xz, bz, rfl, hg0⟩
    rw [hg0]
    refine A_goto (tgt := 73) dX4_readStatement_69 rfl ?_
    refine A_istore (lv' := [(4, .int xz), (3, .int r.1), (2, .int q.1), (1, .int (nI W)), (0, .ref 43)]) dX4_readStatement_73 (lb rfl) rfl ?_
    refine A_aload_n dX4_readStatement_75 rfl 4 rfl ?_
    refine A_getI dX4_readStatement_76 fo_RX4_29 L43 rfl ?_
    refine A_topi (nI z) (rd_z f bz (nI z)) ?_
    refine A_iconst (v := -1) dX4_readStatement_79 rfl ?_
    refine A_icmp_ne (tgt := 95) dX4_readStatement_80 rfl (fun h80 => ?_) (fun h80 => by exact absurd h80 (nI_n1 (by omega)))
    exact A_vret dX4_readStatement_95 rfl (⟨rfl, _, rfl⟩)
  · refine A_iload_n dX4_readStatement_38 rfl 1 rfl ?_
    refine A_bipush (v := 6) dX4_readStatement_39 rfl ?_
    refine A_icmp_eq (tgt := 50) dX4_readStatement_41 rfl (fun h41 => ?_) (fun h41 => ?_)
    · refine A_aload_n dX4_readStatement_50 rfl 2 rfl ?_
      refine A_callV (M' := MX4_readNumber) [] [] 43 dX4_readStatement_51 lk_RX4_52 oX4_readNumber iX4_readNumber rfl rfl ⟨lb rfl, lb rfl⟩ (lb rfl) ⟨lb rfl, lb rfl⟩ L43 rfl (x_rnR f tn c hT hc q.2 (by omega) e2) ?_
      rintro _ g0 ⟨rfl, hg0⟩
      rw [hg0]
      refine A_goto (tgt := 58) dX4_readStatement_54 rfl ?_
      refine A_istore_n (lv' := [(3, .int r.1), (2, .int q.1), (1, .int (nI W)), (0, .ref 43)]) dX4_readStatement_58 rfl (lb rfl) rfl ?_
      refine A_iload_n dX4_readStatement_59 rfl 2 rfl ?_
      refine A_bipush (v := 7) dX4_readStatement_60 rfl ?_
      refine A_icmp_ne (tgt := 72) dX4_readStatement_62 rfl (fun h62 => by exact absurd (by rw [h7]; rfl) h62) (fun h62 => ?_)
      refine A_aload_n dX4_readStatement_65 rfl 3 rfl ?_
      refine A_callV (M' := MX4_readTarget) [] [] 43 dX4_readStatement_66 lk_RX4_46 oX4_readTarget iX4_readTarget rfl rfl ⟨lb rfl, lb rfl⟩ (lb rfl) ⟨lb rfl, lb rfl⟩ L43 rfl (x_rtL f tn c hT hc r.2 (by omega) e3) ?_
      rintro _ g0 ⟨xz, bz, rfl, hg0⟩
      rw [hg0]
      refine A_goto (tgt := 73) dX4_readStatement_69 rfl ?_
      refine A_istore (lv' := [(4, .int xz), (3, .int r.1), (2, .int q.1), (1, .int (nI W)), (0, .ref 43)]) dX4_readStatement_73 (lb rfl) rfl ?_
      refine A_aload_n dX4_readStatement_75 rfl 4 rfl ?_
      refine A_getI dX4_readStatement_76 fo_RX4_29 L43 rfl ?_
      refine A_topi (nI z) (rd_z f bz (nI z)) ?_
      refine A_iconst (v := -1) dX4_readStatement_79 rfl ?_
      refine A_icmp_ne (tgt := 95) dX4_readStatement_80 rfl (fun h80 => ?_) (fun h80 => by exact absurd h80 (nI_n1 (by omega)))
      exact A_vret dX4_readStatement_95 rfl (⟨rfl, _, rfl⟩)
    · refine A_iload_n dX4_readStatement_44 rfl 1 rfl ?_
      refine A_bipush (v := 7) dX4_readStatement_45 rfl ?_
      refine A_icmp_ne (tgt := 57) dX4_readStatement_47 rfl (fun h47 => by exact absurd (show W < 8 from hW.2) (by have a1 : W ≠ 5 := fun q => h35 (by rw [q]; rfl); have a2 : W ≠ 6 := fun q => h41 (by rw [q]; rfl); have a3 : W ≠ 7 := fun q => h47 (by rw [q]; rfl); omega)) (fun h47 => ?_)
      refine A_aload_n dX4_readStatement_50 rfl 2 rfl ?_
      refine A_callV (M' := MX4_readNumber) [] [] 43 dX4_readStatement_51 lk_RX4_52 oX4_readNumber iX4_readNumber rfl rfl ⟨lb rfl, lb rfl⟩ (lb rfl) ⟨lb rfl, lb rfl⟩ L43 rfl (x_rnR f tn c hT hc q.2 (by omega) e2) ?_
      rintro _ g0 ⟨rfl, hg0⟩
      rw [hg0]
      refine A_goto (tgt := 58) dX4_readStatement_54 rfl ?_
      refine A_istore_n (lv' := [(3, .int r.1), (2, .int q.1), (1, .int (nI W)), (0, .ref 43)]) dX4_readStatement_58 rfl (lb rfl) rfl ?_
      refine A_iload_n dX4_readStatement_59 rfl 2 rfl ?_
      refine A_bipush (v := 7) dX4_readStatement_60 rfl ?_
      refine A_icmp_ne (tgt := 72) dX4_readStatement_62 rfl (fun h62 => by exact absurd (by rw [h7]; rfl) h62) (fun h62 => ?_)
      refine A_aload_n dX4_readStatement_65 rfl 3 rfl ?_
      refine A_callV (M' := MX4_readTarget) [] [] 43 dX4_readStatement_66 lk_RX4_46 oX4_readTarget iX4_readTarget rfl rfl ⟨lb rfl, lb rfl⟩ (lb rfl) ⟨lb rfl, lb rfl⟩ L43 rfl (x_rtL f tn c hT hc r.2 (by omega) e3) ?_
      rintro _ g0 ⟨xz, bz, rfl, hg0⟩
      rw [hg0]
      refine A_goto (tgt := 73) dX4_readStatement_69 rfl ?_
      refine A_istore (lv' := [(4, .int xz), (3, .int r.1), (2, .int q.1), (1, .int (nI W)), (0, .ref 43)]) dX4_readStatement_73 (lb rfl) rfl ?_
      refine A_aload_n dX4_readStatement_75 rfl 4 rfl ?_
      refine A_getI dX4_readStatement_76 fo_RX4_29 L43 rfl ?_
      refine A_topi (nI z) (rd_z f bz (nI z)) ?_
      refine A_iconst (v := -1) dX4_readStatement_79 rfl ?_
      refine A_icmp_ne (tgt := 95) dX4_readStatement_80 rfl (fun h80 => ?_) (fun h80 => by exact absurd h80 (nI_n1 (by omega)))
      exact A_vret dX4_readStatement_95 rfl (⟨rfl, _, rfl⟩)
theorem x_rs7u (f : Mem) (tn : Nat) (c : Nat → Nat) (hT : XTp f tn c) (hc : tcW c tn) (a n W E : Nat) (ha : a < 2 ^ 28) (hE : E < 2 ^ 28 + 200) (hn : f 46 0 = nI n) (h12 : n < 12) (hR : C0 MX4_readWord [.ref 43] (rd 43 2 3 f a (-1)) (rt (some (.int (nI W))) (rd 43 2 3 f E (-1)))) (hW : 5 ≤ W ∧ W < 8) {q : Int32 × Nat} (e1 : nu 1 3 c E = .inr q) {r : Int32 × Nat} (e2 : nuS c q.2 = .inr r) (h7 : W = 7) {u : Int32 × Nat} (e3 : nu 2 12 c r.2 = .inr u) : C0 MX4_readStatement [.ref 43] (rd 43 2 3 f a (-1)) (rt none (rd 43 2 3 (apM f n (nI W) q.1 r.1 u.1) u.2 (-1))) := by
  have hb := nu_b e1
  have hb2 := nuS_b e2
  have hb3 := nu_b e3
  refine Ct.of (lv := [(0, .ref 43)]) (by decide) (lb rfl) rfl ?_
  refine A_aload_n dX4_readStatement_0 rfl 0 rfl ?_
  refine A_callV (M' := MX4_readWord) [] [] 43 dX4_readStatement_1 lk_RX4_42 oX4_readWord iX4_readWord rfl rfl ⟨lb rfl, lb rfl⟩ (lb rfl) ⟨lb rfl, lb rfl⟩ L43 rfl (hR) ?_
  rintro _ g0 ⟨rfl, hg0⟩
  rw [hg0]
  refine A_istore_n (lv' := [(1, .int (nI W)), (0, .ref 43)]) dX4_readStatement_4 rfl (lb rfl) rfl ?_
  refine A_iload_n dX4_readStatement_5 rfl 0 rfl ?_
  refine A_bipush (v := 8) dX4_readStatement_6 rfl ?_
  refine A_icmp_ne (tgt := 18) dX4_readStatement_8 rfl (fun h8 => ?_) (fun h8 => by exact absurd ((nI_eq (by omega) (by decide)).mp (show nI W = nI 8 from h8)) (by omega))
  refine A_aload_n dX4_readStatement_18 rfl 1 rfl ?_
  refine A_iload_n dX4_readStatement_19 rfl 0 rfl ?_
  refine A_iconst (v := 4) dX4_readStatement_20 rfl ?_
  refine A_icmp_gt (tgt := 28) dX4_readStatement_21 rfl (fun h21 => ?_) (fun h21 => by exact absurd (by rw [show (4 : Int32) = nI 4 from rfl, nI_ltI (by omega) (by omega)]; omega) h21)
  refine A_iconst (v := 4) dX4_readStatement_28 rfl ?_
  refine A_callV (M' := MX4_readFigureBelow) [.int 4] [] 43 dX4_readStatement_29 lk_RX4_49 oX4_readFigureBelow iX4_readFigureBelow rfl rfl ⟨lb rfl, lb rfl⟩ (lb rfl) ⟨lb rfl, lb rfl⟩ L43 rfl (x_rf4R f tn c hT hc E (by omega) e1) ?_
  rintro _ g0 ⟨rfl, hg0⟩
  rw [hg0]
  refine A_istore_n (lv' := [(2, .int q.1), (1, .int (nI W)), (0, .ref 43)]) dX4_readStatement_32 rfl (lb rfl) rfl ?_
  refine A_iload_n dX4_readStatement_33 rfl 1 rfl ?_
  refine A_iconst (v := 5) dX4_readStatement_34 rfl ?_
  refine A_icmp_eq (tgt := 50) dX4_readStatement_35 rfl (fun h35 => ?_) (fun h35 => ?_)
  · refine A_aload_n dX4_readStatement_50 rfl 2 rfl ?_
    refine A_callV (M' := MX4_readNumber) [] [] 43 dX4_readStatement_51 lk_RX4_52 oX4_readNumber iX4_readNumber rfl rfl ⟨lb rfl, lb rfl⟩ (lb rfl) ⟨lb rfl, lb rfl⟩ L43 rfl (x_rnR f tn c hT hc q.2 (by omega) e2) ?_
    rintro _ g0 ⟨rfl, hg0⟩
    rw [hg0]
    refine A_goto (tgt := 58) dX4_readStatement_54 rfl ?_
    refine A_istore_n (lv' := [(3, .int r.1), (2, .int q.1), (1, .int (nI W)), (0, .ref 43)]) dX4_readStatement_58 rfl (lb rfl) rfl ?_
    refine A_iload_n dX4_readStatement_59 rfl 2 rfl ?_
    refine A_bipush (v := 7) dX4_readStatement_60 rfl ?_
    refine A_icmp_ne (tgt := 72) dX4_readStatement_62 rfl (fun h62 => by exact absurd (by rw [h7]; rfl) h62) (fun h62 => ?_)
    refine A_aload_n dX4_readStatement_65 rfl 3 rfl ?_
    refine A_callV (M' := MX4_readTarget) [] [] 43 dX4_readStatement_66 lk_RX4_46 oX4_readTarget iX4_readTarget rfl rfl ⟨lb rfl, lb rfl⟩ (lb rfl) ⟨lb rfl, lb rfl⟩ L43 rfl (x_rtR f tn c hT hc r.2 (by omega) e3) ?_
    rintro _ g0 ⟨rfl, hg0⟩
    rw [hg0]
    refine A_goto (tgt := 73) dX4_readStatement_69 rfl ?_
    refine A_istore (lv' := [(4, .int u.1), (3, .int r.1), (2, .int q.1), (1, .int (nI W)), (0, .ref 43)]) dX4_readStatement_73 (lb rfl) rfl ?_
    refine A_aload_n dX4_readStatement_75 rfl 4 rfl ?_
    refine A_getI dX4_readStatement_76 fo_RX4_29 L43 rfl ?_
    refine A_topi (-1) (rd_z f u.2 (-1)) ?_
    refine A_iconst (v := -1) dX4_readStatement_79 rfl ?_
    refine A_icmp_ne (tgt := 95) dX4_readStatement_80 rfl (fun h80 => by exact absurd rfl h80) (fun h80 => ?_)
    refine A_aload_n dX4_readStatement_83 rfl 4 rfl ?_
    refine A_getR (b := 46) dX4_readStatement_84 fo_RX4_21 L43 rfl ?_
    refine A_iload_n dX4_readStatement_87 rfl 3 rfl ?_
    refine A_iload_n dX4_readStatement_88 rfl 2 rfl ?_
    refine A_iload_n dX4_readStatement_89 rfl 1 rfl ?_
    refine A_iload dX4_readStatement_90 0 rfl ?_
    refine A_callV (M' := MX3_append) [.int (nI W), .int q.1, .int r.1, .int u.1] [] 46 dX4_readStatement_92 lk_RX4_55 oX3_append iX3_append rfl rfl ⟨lb rfl, lb rfl⟩ (lb rfl) ⟨lb rfl, lb rfl⟩ L46 rfl (x_pap _ n (nI W) q.1 r.1 u.1 ((congrFun (rd_o f u.2 (-1) (by decide)) _).trans hn) h12) ?_
    rintro _ g0 ⟨rfl, hg0⟩
    rw [hg0, apM_rd f n u.2 (-1) (nI W) q.1 r.1 u.1]
    exact A_vret dX4_readStatement_95 rfl (⟨rfl, rfl⟩)
  · refine A_iload_n dX4_readStatement_38 rfl 1 rfl ?_
    refine A_bipush (v := 6) dX4_readStatement_39 rfl ?_
    refine A_icmp_eq (tgt := 50) dX4_readStatement_41 rfl (fun h41 => ?_) (fun h41 => ?_)
    · refine A_aload_n dX4_readStatement_50 rfl 2 rfl ?_
      refine A_callV (M' := MX4_readNumber) [] [] 43 dX4_readStatement_51 lk_RX4_52 oX4_readNumber iX4_readNumber rfl rfl ⟨lb rfl, lb rfl⟩ (lb rfl) ⟨lb rfl, lb rfl⟩ L43 rfl (x_rnR f tn c hT hc q.2 (by omega) e2) ?_
      rintro _ g0 ⟨rfl, hg0⟩
      rw [hg0]
      refine A_goto (tgt := 58) dX4_readStatement_54 rfl ?_
      refine A_istore_n (lv' := [(3, .int r.1), (2, .int q.1), (1, .int (nI W)), (0, .ref 43)]) dX4_readStatement_58 rfl (lb rfl) rfl ?_
      refine A_iload_n dX4_readStatement_59 rfl 2 rfl ?_
      refine A_bipush (v := 7) dX4_readStatement_60 rfl ?_
      refine A_icmp_ne (tgt := 72) dX4_readStatement_62 rfl (fun h62 => by exact absurd (by rw [h7]; rfl) h62) (fun h62 => ?_)
      refine A_aload_n dX4_readStatement_65 rfl 3 rfl ?_
      refine A_callV (M' := MX4_readTarget) [] [] 43 dX4_readStatement_66 lk_RX4_46 oX4_readTarget iX4_readTarget rfl rfl ⟨lb rfl, lb rfl⟩ (lb rfl) ⟨lb rfl, lb rfl⟩ L43 rfl (x_rtR f tn c hT hc r.2 (by omega) e3) ?_
      rintro _ g0 ⟨rfl, hg0⟩
      rw [hg0]
      refine A_goto (tgt := 73) dX4_readStatement_69 rfl ?_
      refine A_istore (lv' := [(4, .int u.1), (3, .int r.1), (2, .int q.1), (1, .int (nI W)), (0, .ref 43)]) dX4_readStatement_73 (lb rfl) rfl ?_
      refine A_aload_n dX4_readStatement_75 rfl 4 rfl ?_
      refine A_getI dX4_readStatement_76 fo_RX4_29 L43 rfl ?_
      refine A_topi (-1) (rd_z f u.2 (-1)) ?_
      refine A_iconst (v := -1) dX4_readStatement_79 rfl ?_
      refine A_icmp_ne (tgt := 95) dX4_readStatement_80 rfl (fun h80 => by exact absurd rfl h80) (fun h80 => ?_)
      refine A_aload_n dX4_readStatement_83 rfl 4 rfl ?_
      refine A_getR (b := 46) dX4_readStatement_84 fo_RX4_21 L43 rfl ?_
      refine A_iload_n dX4_readStatement_87 rfl 3 rfl ?_
      refine A_iload_n dX4_readStatement_88 rfl 2 rfl ?_
      refine A_iload_n dX4_readStatement_89 rfl 1 rfl ?_
      refine A_iload dX4_readStatement_90 0 rfl ?_
      refine A_callV (M' := MX3_append) [.int (nI W), .int q.1, .int r.1, .int u.1] [] 46 dX4_readStatement_92 lk_RX4_55 oX3_append iX3_append rfl rfl ⟨lb rfl, lb rfl⟩ (lb rfl) ⟨lb rfl, lb rfl⟩ L46 rfl (x_pap _ n (nI W) q.1 r.1 u.1 ((congrFun (rd_o f u.2 (-1) (by decide)) _).trans hn) h12) ?_
      rintro _ g0 ⟨rfl, hg0⟩
      rw [hg0, apM_rd f n u.2 (-1) (nI W) q.1 r.1 u.1]
      exact A_vret dX4_readStatement_95 rfl (⟨rfl, rfl⟩)
    · refine A_iload_n dX4_readStatement_44 rfl 1 rfl ?_
      refine A_bipush (v := 7) dX4_readStatement_45 rfl ?_
      refine A_icmp_ne (tgt := 57) dX4_readStatement_47 rfl (fun h47 => by exact absurd (show W < 8 from hW.2) (by have a1 : W ≠ 5 := fun q => h35 (by rw [q]; rfl); have a2 : W ≠ 6 := fun q => h41 (by rw [q]; rfl); have a3 : W ≠ 7 := fun q => h47 (by rw [q]; rfl); omega)) (fun h47 => ?_)
      refine A_aload_n dX4_readStatement_50 rfl 2 rfl ?_
      refine A_callV (M' := MX4_readNumber) [] [] 43 dX4_readStatement_51 lk_RX4_52 oX4_readNumber iX4_readNumber rfl rfl ⟨lb rfl, lb rfl⟩ (lb rfl) ⟨lb rfl, lb rfl⟩ L43 rfl (x_rnR f tn c hT hc q.2 (by omega) e2) ?_
      rintro _ g0 ⟨rfl, hg0⟩
      rw [hg0]
      refine A_goto (tgt := 58) dX4_readStatement_54 rfl ?_
      refine A_istore_n (lv' := [(3, .int r.1), (2, .int q.1), (1, .int (nI W)), (0, .ref 43)]) dX4_readStatement_58 rfl (lb rfl) rfl ?_
      refine A_iload_n dX4_readStatement_59 rfl 2 rfl ?_
      refine A_bipush (v := 7) dX4_readStatement_60 rfl ?_
      refine A_icmp_ne (tgt := 72) dX4_readStatement_62 rfl (fun h62 => by exact absurd (by rw [h7]; rfl) h62) (fun h62 => ?_)
      refine A_aload_n dX4_readStatement_65 rfl 3 rfl ?_
      refine A_callV (M' := MX4_readTarget) [] [] 43 dX4_readStatement_66 lk_RX4_46 oX4_readTarget iX4_readTarget rfl rfl ⟨lb rfl, lb rfl⟩ (lb rfl) ⟨lb rfl, lb rfl⟩ L43 rfl (x_rtR f tn c hT hc r.2 (by omega) e3) ?_
      rintro _ g0 ⟨rfl, hg0⟩
      rw [hg0]
      refine A_goto (tgt := 73) dX4_readStatement_69 rfl ?_
      refine A_istore (lv' := [(4, .int u.1), (3, .int r.1), (2, .int q.1), (1, .int (nI W)), (0, .ref 43)]) dX4_readStatement_73 (lb rfl) rfl ?_
      refine A_aload_n dX4_readStatement_75 rfl 4 rfl ?_
      refine A_getI dX4_readStatement_76 fo_RX4_29 L43 rfl ?_
      refine A_topi (-1) (rd_z f u.2 (-1)) ?_
      refine A_iconst (v := -1) dX4_readStatement_79 rfl ?_
      refine A_icmp_ne (tgt := 95) dX4_readStatement_80 rfl (fun h80 => by exact absurd rfl h80) (fun h80 => ?_)
      refine A_aload_n dX4_readStatement_83 rfl 4 rfl ?_
      refine A_getR (b := 46) dX4_readStatement_84 fo_RX4_21 L43 rfl ?_
      refine A_iload_n dX4_readStatement_87 rfl 3 rfl ?_
      refine A_iload_n dX4_readStatement_88 rfl 2 rfl ?_
      refine A_iload_n dX4_readStatement_89 rfl 1 rfl ?_
      refine A_iload dX4_readStatement_90 0 rfl ?_
      refine A_callV (M' := MX3_append) [.int (nI W), .int q.1, .int r.1, .int u.1] [] 46 dX4_readStatement_92 lk_RX4_55 oX3_append iX3_append rfl rfl ⟨lb rfl, lb rfl⟩ (lb rfl) ⟨lb rfl, lb rfl⟩ L46 rfl (x_pap _ n (nI W) q.1 r.1 u.1 ((congrFun (rd_o f u.2 (-1) (by decide)) _).trans hn) h12) ?_
      rintro _ g0 ⟨rfl, hg0⟩
      rw [hg0, apM_rd f n u.2 (-1) (nI W) q.1 r.1 u.1]
      exact A_vret dX4_readStatement_95 rfl (⟨rfl, rfl⟩)
theorem x_rs (f : Mem) (tn : Nat) (c : Nat → Nat) (hT : XTp f tn c) (hc : tcW c tn) (a n : Nat) (ha : a < 2 ^ 28) (hn : f 46 0 = nI n) (h12 : n < 12) : C0 MX4_readStatement [.ref 43] (rd 43 2 3 f a (-1)) (fun r h => r = none ∧ match stm c a with | .inl z => ∃ b, h = rd 43 2 3 f b (nI z) | .inr q => h = rd 43 2 3 (apM f n (nI q.1) q.2.1 q.2.2.1 q.2.2.2.1) q.2.2.2.2 (-1)) := by
  have hR := x_readWord f tn c hT hc a ha
  have hE := mW_le2 hc ha
  have hW9 := wD_lt (c := c) (b := a) (e := wE c 120 a) 9 (Nat.le_refl _)
  unfold wP at hR
  unfold stm
  generalize wE c 120 a = E at hR hE hW9 ⊢
  generalize wD c a E 9 = W at hR hW9 ⊢
  by_cases h9 : W = 9
  · simp only [if_pos h9] at hR
    rw [if_pos h9]
    exact (x_rs9 f tn c hT hc a n W E ha hE hn h12 hR).mono (fun r g q => ⟨q.1, _, q.2⟩)
  · simp only [if_neg h9] at hR
    rw [if_neg h9]
    by_cases h8 : W = 8
    · rw [if_pos h8]
      rw [h8] at hR
      cases e1 : nu 2 12 c E with
      | inl z => exact x_rs8l f tn c hT hc a n W E ha hE hn h12 hR e1
      | inr q => exact x_rs8r f tn c hT hc a n W E ha hE hn h12 hR e1
    · rw [if_neg h8]
      by_cases h5 : W < 5
      · rw [if_pos h5]
        cases e1 : nu 1 2 c E with
        | inl z => exact x_rs5l f tn c hT hc a n W E ha hE hn h12 hR h5 e1
        | inr q => dsimp only; rw [if_pos h5]; exact x_rs5r f tn c hT hc a n W E ha hE hn h12 hR h5 e1
      · rw [if_neg h5]
        have hW : 5 ≤ W ∧ W < 8 := by omega
        cases e1 : nu 1 3 c E with
        | inl z => exact x_rs7l f tn c hT hc a n W E ha hE hn h12 hR hW e1
        | inr q =>
          dsimp only; rw [if_neg h5]
          cases e2 : nuS c q.2 with
          | inl z => exact x_rs7m f tn c hT hc a n W E ha hE hn h12 hR hW e1 e2
          | inr r =>
            dsimp only
            by_cases h7 : W = 7
            · rw [if_neg (by omega)]
              cases e3 : nu 2 12 c r.2 with
              | inl z => exact x_rs7t f tn c hT hc a n W E ha hE hn h12 hR hW e1 e2 h7 e3
              | inr u =>
                have t := x_rs7u f tn c hT hc a n W E ha hE hn h12 hR hW e1 e2 h7 e3
                rw [h7] at t
                exact t
            · rw [if_pos (by omega)]
              exact x_rs7r f tn c hT hc a n W E ha hE hn h12 hR hW e1 e2 h7
