/-! a program is read -/
def ap4 (g : Ro) (n : Nat) (x0 x1 x2 x3 : Int32) : Ro := upd (upd (upd (upd g (n * 4 + 0) x0) (n * 4 + 1) x1) (n * 4 + 2) x2) (n * 4 + 3) x3
def prg (c : Nat → Nat) (tn : Nat) : Nat → Nat → Nat → Ro → Nat × Nat × Ro
  | 0, k, _, g => (0, k, g)
  | n + 1, k, a, g => match stm c a with
    | .inl z => (z + 1, k, g)
    | .inr q => if c q.2.2.2.2 = 59 ∧ k + 1 < 12 then prg c tn n (k + 1) (q.2.2.2.2 + 1) (ap4 g k (nI q.1) q.2.1 q.2.2.1 q.2.2.2.1)
      else (if q.2.2.2.2 < tn then q.2.2.2.2 + 1 else 0, k + 1, ap4 g k (nI q.1) q.2.1 q.2.2.1 q.2.2.2.1)
def fz (z : Nat) : Int32 := if z = 0 then -1 else nI (z - 1)
theorem fg_t {m : Nat} {c : Nat → Nat} {tn a v e : Nat} (hc : tcW c tn) (h : fg m c a = .inr (v, e)) : e ≤ tn := by
  obtain ⟨h1, ⟨_, h2, _, h4⟩ | ⟨_, _, h4⟩⟩ := fg_r h
  · refine Nat.not_lt.mp (fun q => ?_)
    have := hc.2.1 (a + 1) (by omega)
    omega
  · refine Nat.not_lt.mp (fun q => ?_)
    have := hc.2.1 a (by omega)
    omega
theorem nu_t {m B : Nat} {c : Nat → Nat} {tn a : Nat} {q : Int32 × Nat} (hc : tcW c tn) (h : nu m B c a = .inr q) : q.2 ≤ tn := by
  obtain ⟨_, v, e, _, _⟩ := nu_r h
  exact fg_t hc e
theorem nuS_t {c : Nat → Nat} {tn a : Nat} {q : Int32 × Nat} (hc : tcW c tn) (h : nuS c a = .inr q) : q.2 ≤ tn := by
  obtain ⟨_, v, b, e, _⟩ := nuS_r h
  exact fg_t hc e
abbrev inCl (x : Int32) : Prop := -99 ≤ x.toInt ∧ x.toInt ≤ 99
theorem in99 : ∀ v, v < 100 → inCl (nI v) ∧ inCl (-nI v) := by decide +kernel
/-- what a statement that is read keeps to -/
def stO (q : St) : Prop := q.1 < 9 ∧ ∃ o, q.2.1 = nI o ∧ (q.1 < 5 → o < 3) ∧ (5 ≤ q.1 → q.1 < 8 → o < 4 ∧ inCl q.2.2.1) ∧ o ≤ 12 ∧ ∃ u, q.2.2.2.1 = nI u ∧ u ≤ 12
theorem stm_r {c : Nat → Nat} {tn a : Nat} {q : St} (hc : tcW c tn) (h : stm c a = .inr q) : q.2.2.2.2 ≤ tn ∧ stO q := by
  have hW9 := wD_lt (c := c) (b := a) (e := wE c 120 a) 9 (Nat.le_refl _)
  unfold stm at h
  generalize wE c 120 a = E at h hW9
  generalize wD c a E 9 = W at h hW9
  by_cases h9 : W = 9
  · rw [if_pos h9] at h; cases h
  · rw [if_neg h9] at h
    by_cases h8 : W = 8
    · rw [if_pos h8] at h
      cases e1 : nu 2 12 c E with
      | inl z => rw [e1] at h; cases h
      | inr r =>
        rw [e1] at h; cases h
        obtain ⟨_, v, _, hv, ev⟩ := nu_r e1
        exact ⟨(by have t := nu_t hc e1; exact t), by dsimp only; omega, v, ev, fun q => by dsimp only at q; omega, fun _ q => by dsimp only at q; omega, hv, 0, rfl, by omega⟩
    · rw [if_neg h8] at h
      by_cases h5 : W < 5
      · rw [if_pos h5] at h
        cases e1 : nu 1 2 c E with
        | inl z => rw [e1] at h; cases h
        | inr r =>
          rw [e1] at h; dsimp only at h; rw [if_pos h5] at h; cases h
          obtain ⟨_, v, _, hv, ev⟩ := nu_r e1
          exact ⟨(by have t := nu_t hc e1; exact t), by dsimp only; omega, v, ev, fun q => by omega, fun q => by dsimp only at q; omega, by omega, 0, rfl, by omega⟩
      · rw [if_neg h5] at h
        cases e1 : nu 1 3 c E with
        | inl z => rw [e1] at h; cases h
        | inr r =>
          rw [e1] at h; dsimp only at h; rw [if_neg h5] at h
          obtain ⟨_, v, _, hv, ev⟩ := nu_r e1
          cases e2 : nuS c r.2 with
          | inl z => rw [e2] at h; cases h
          | inr s =>
            rw [e2] at h; dsimp only at h
            obtain ⟨_, v2, b2, ef, _, _, hs⟩ := nuS_r e2
            have h99 := in99 v2 (by have := (fg_b ef).1; omega)
            have hin : inCl s.1 := by
              rcases hs with hs | hs
              · rw [hs]; exact h99.1
              · rw [hs]; exact h99.2
            by_cases h7 : W < 7
            · rw [if_pos h7] at h; cases h
              exact ⟨(by have t := nuS_t hc e2; exact t), by dsimp only; omega, v, ev, fun q => by dsimp only at q; omega, fun _ _ => ⟨by omega, hin⟩, by omega, 0, rfl, by omega⟩
            · rw [if_neg h7] at h
              cases e3 : nu 2 12 c s.2 with
              | inl z => rw [e3] at h; cases h
              | inr u =>
                rw [e3] at h; cases h
                obtain ⟨_, v3, _, hv3, ev3⟩ := nu_r e3
                exact ⟨(by have t := nu_t hc e3; exact t), by dsimp only; omega, v, ev, fun q => by dsimp only at q; omega, fun _ _ => ⟨by omega, hin⟩, by omega, v3, ev3, hv3⟩
theorem stm_l {c : Nat → Nat} {tn a z : Nat} (hc : tcW c tn) (ha : a ≤ 121) (h : stm c a = .inl z) : z ≤ 130 := by
  have hE : wE c 120 a ≤ 121 := by
    rcases hc.wL (hc.wE a) with q | q
    · have := hc.1; omega
    · omega
  unfold stm at h
  generalize wE c 120 a = E at h hE
  generalize wD c a E 9 = W at h
  by_cases h9 : W = 9
  · rw [if_pos h9] at h; cases h; omega
  · rw [if_neg h9] at h
    by_cases h8 : W = 8
    · rw [if_pos h8] at h
      cases e1 : nu 2 12 c E with
      | inl y => rw [e1] at h; cases h; have := nu_l e1; omega
      | inr r => rw [e1] at h; cases h
    · rw [if_neg h8] at h
      by_cases h5 : W < 5
      · rw [if_pos h5] at h
        cases e1 : nu 1 2 c E with
        | inl y => rw [e1] at h; cases h; have := nu_l e1; omega
        | inr r => rw [e1] at h; dsimp only at h; rw [if_pos h5] at h; cases h
      · rw [if_neg h5] at h
        cases e1 : nu 1 3 c E with
        | inl y => rw [e1] at h; cases h; have := nu_l e1; omega
        | inr r =>
          rw [e1] at h; dsimp only at h; rw [if_neg h5] at h
          have h1 := nu_b e1
          cases e2 : nuS c r.2 with
          | inl y => rw [e2] at h; cases h; have := nuS_l e2; omega
          | inr s =>
            rw [e2] at h; dsimp only at h
            have h2 := nuS_b e2
            by_cases h7 : W < 7
            · rw [if_pos h7] at h; cases h
            · rw [if_neg h7] at h
              cases e3 : nu 2 12 c s.2 with
              | inl y => rw [e3] at h; cases h; have := nu_l e3; omega
              | inr u => rw [e3] at h; cases h
/-- a reader's answer: fault, how many are whole, their parts -/
def rP (f : Mem) (R : Nat × Nat × Ro) : Option Value → Mem → Prop := fun r h => r = some (.int (fz R.1)) ∧ h 46 0 = nI R.2.1 ∧ (∀ j, j < 4 * R.2.1 → h 47 j = R.2.2 j) ∧ ∀ b, b ≠ 43 → b ≠ 46 → b ≠ 47 → h b = f b
theorem apM_o (F : Mem) (n : Nat) (x0 x1 x2 x3 : Int32) {b : Nat} (h1 : b ≠ 46) (h2 : b ≠ 47) : apM F n x0 x1 x2 x3 b = F b := by
  unfold apM
  rw [u2_n _ _ _ h1, u2_n _ _ _ h2, u2_n _ _ _ h2, u2_n _ _ _ h2, u2_n _ _ _ h2]
theorem apM_n (F : Mem) (n : Nat) (x0 x1 x2 x3 : Int32) : apM F n x0 x1 x2 x3 46 0 = nI (n + 1) := by simp [apM, u2, ur, upd]
theorem apM_p (F : Mem) (n : Nat) (x0 x1 x2 x3 : Int32) : apM F n x0 x1 x2 x3 47 = ap4 (F 47) n x0 x1 x2 x3 := by
  unfold apM ap4
  rw [u2_n _ _ _ (by decide)]
  simp only [u2, ur_s]
theorem ap4_c {g h : Ro} {n : Nat} (x0 x1 x2 x3 : Int32) (e : ∀ j, j < 4 * n → g j = h j) : ∀ j, j < 4 * (n + 1) → ap4 g n x0 x1 x2 x3 j = ap4 h n x0 x1 x2 x3 j := by
  intro j hj
  simp only [ap4, upd]
  by_cases h3 : j = n * 4 + 3
  · rw [if_pos h3, if_pos h3]
  · by_cases h2 : j = n * 4 + 2
    · simp [h2]
    · by_cases h1 : j = n * 4 + 1
      · simp [h1]
      · by_cases h0 : j = n * 4 + 0
        · simp [h0]
        · rw [if_neg h3, if_neg h2, if_neg h1, if_neg h0, if_neg h3, if_neg h2, if_neg h1, if_neg h0]
          exact e j (by omega)
theorem XTp.ap {F : Mem} {tn : Nat} {c : Nat → Nat} (h : XTp F tn c) (n : Nat) (x0 x1 x2 x3 : Int32) : XTp (apM F n x0 x1 x2 x3) tn c := h.congr (by rw [apM_o _ _ _ _ _ _ (by decide) (by decide)]) (by rw [apM_o _ _ _ _ _ _ (by decide) (by decide)])
theorem x_rsL (f : Mem) (tn : Nat) (c : Nat → Nat) (hT : XTp f tn c) (hc : tcW c tn) (a n : Nat) (ha : a < 2 ^ 28) (hn : f 46 0 = nI n) (h12 : n < 12) {z : Nat} (e : stm c a = .inl z) : C0 MX4_readStatement [.ref 43] (rd 43 2 3 f a (-1)) (fun r h => r = none ∧ ∃ b, h = rd 43 2 3 f b (nI z)) := by
  have t := x_rs f tn c hT hc a n ha hn h12
  rw [e] at t
  exact t
theorem x_rsR (f : Mem) (tn : Nat) (c : Nat → Nat) (hT : XTp f tn c) (hc : tcW c tn) (a n : Nat) (ha : a < 2 ^ 28) (hn : f 46 0 = nI n) (h12 : n < 12) {q : St} (e : stm c a = .inr q) : C0 MX4_readStatement [.ref 43] (rd 43 2 3 f a (-1)) (rt none (rd 43 2 3 (apM f n (nI q.1) q.2.1 q.2.2.1 q.2.2.2.1) q.2.2.2.2 (-1))) := by
  have t := x_rs f tn c hT hc a n ha hn h12
  rw [e] at t
  exact t
theorem lx_readL (f F : Mem) (tn : Nat) (c : Nat → Nat) (hT : XTp F tn c) (hc : tcW c tn) (k a : Nat) (g : Ro) (hk : k < 12) (ha : a ≤ 121) (hn : F 46 0 = nI k) (hg : ∀ j, j < 4 * k → F 47 j = g j) (hF : ∀ b, b ≠ 43 → b ≠ 46 → b ≠ 47 → F b = f b) {z : Nat} (e : stm c a = .inl z) : A (cM MX4_read 0 0 layT layT (rP f (z + 1, k, g))) 22 [(2, .int (nI (k + 1))), (1, .int 1), (0, .ref 43)] [] (rd 43 2 3 F a (-1)) := by
  have hz := stm_l hc ha e
  have hT2 := hT
  refine A_iload_n dX4_read_22 rfl 0 rfl ?_
  refine A_bipush (v := 12) dX4_read_23 rfl ?_
  refine A_icmp_gt (tgt := 92) dX4_read_25 rfl (fun h25 => by exact absurd h25 (fun t => by rw [show (12 : Int32) = nI 12 from rfl, nI_ltI (by omega) (by omega)] at t; omega)) (fun h25 => ?_)
  refine A_iload_n dX4_read_28 rfl 1 rfl ?_
  refine A_if_eq (tgt := 92) dX4_read_29 rfl (fun h29 => by exact absurd h29 (by decide)) (fun h29 => ?_)
  refine A_aload_n dX4_read_32 rfl 2 rfl ?_
  refine A_callV (M' := MX4_readStatement) [] [] 43 dX4_read_33 lk_RX4_35 oX4_readStatement iX4_readStatement rfl rfl ⟨lb rfl, lb rfl⟩ (lb rfl) ⟨lb rfl, lb rfl⟩ L43 rfl (x_rsL F tn c hT hc a k (by omega) hn hk e) ?_
  rintro _ g0 ⟨rfl, b, hg0⟩
  rw [hg0]
  refine A_iload_n dX4_read_36 rfl 0 rfl ?_
  refine A_bipush (v := 12) dX4_read_37 rfl ?_
  refine A_icmp_ge (tgt := 70) dX4_read_39 rfl (fun h39 => ?_) (fun h39 => ?_)
  · rw [show (12 : Int32) = nI 12 from rfl, nI_leI (by omega) (by omega)] at h39
    refine A_iconst (v := 0) dX4_read_70 rfl ?_
    refine A_istore_n (lv' := [(1, .int 0), (2, .int (nI (k + 1))), (0, .ref 43)]) dX4_read_71 rfl (lb rfl) rfl ?_
    refine A_iload_n dX4_read_72 rfl 0 rfl ?_
    refine A_if_eq (tgt := 86) dX4_read_73 rfl (fun h73 => ?_) (fun h73 => by exact absurd rfl h73)
    refine A_iinc (lv' := [(2, .int (nI ((k + 1) + 1))), (1, .int 0), (0, .ref 43)]) dX4_read_86 1 rfl (nI_add (k + 1) 1) (lb rfl) rfl ?_
    refine A_goto (tgt := 22) dX4_read_89 rfl ?_
    refine A_iload_n dX4_read_22 rfl 0 rfl ?_
    refine A_bipush (v := 12) dX4_read_23 rfl ?_
    refine A_icmp_gt (tgt := 92) dX4_read_25 rfl (fun h25 => ?_) (fun h25 => ?_)
    · refine A_aload_n dX4_read_92 rfl 2 rfl ?_
      refine A_getI dX4_read_93 fo_RX4_29 L43 rfl ?_
      refine A_topi (nI z) (rd_z F b (nI z)) ?_
      refine A_iconst (v := -1) dX4_read_96 rfl ?_
      refine A_icmp_ne (tgt := 122) dX4_read_97 rfl (fun h97 => ?_) (fun h97 => by exact absurd h97 (nI_n1 (by omega)))
      refine A_aload_n dX4_read_122 rfl 2 rfl ?_
      refine A_getI dX4_read_123 fo_RX4_29 L43 rfl ?_
      refine A_topi (nI z) (rd_z F b (nI z)) ?_
      exact A_iret dX4_read_126 rfl (⟨by rw [fz, if_neg (by omega)]; rfl, (congrFun (rd_o _ _ _ (by decide)) _).trans hn, fun j hj => (congrFun (rd_o _ _ _ (by decide)) _).trans (hg j hj), fun b b1 b2 b3 => (rd_o _ _ _ b1).trans (hF b b1 b2 b3)⟩)
    · refine A_iload_n dX4_read_28 rfl 1 rfl ?_
      refine A_if_eq (tgt := 92) dX4_read_29 rfl (fun h29 => ?_) (fun h29 => by exact absurd rfl h29)
      refine A_aload_n dX4_read_92 rfl 2 rfl ?_
      refine A_getI dX4_read_93 fo_RX4_29 L43 rfl ?_
      refine A_topi (nI z) (rd_z F b (nI z)) ?_
      refine A_iconst (v := -1) dX4_read_96 rfl ?_
      refine A_icmp_ne (tgt := 122) dX4_read_97 rfl (fun h97 => ?_) (fun h97 => by exact absurd h97 (nI_n1 (by omega)))
      refine A_aload_n dX4_read_122 rfl 2 rfl ?_
      refine A_getI dX4_read_123 fo_RX4_29 L43 rfl ?_
      refine A_topi (nI z) (rd_z F b (nI z)) ?_
      exact A_iret dX4_read_126 rfl (⟨by rw [fz, if_neg (by omega)]; rfl, (congrFun (rd_o _ _ _ (by decide)) _).trans hn, fun j hj => (congrFun (rd_o _ _ _ (by decide)) _).trans (hg j hj), fun b b1 b2 b3 => (rd_o _ _ _ b1).trans (hF b b1 b2 b3)⟩)
  · rw [show (12 : Int32) = nI 12 from rfl, nI_leI (by omega) (by omega)] at h39
    refine A_aload_n dX4_read_42 rfl 2 rfl ?_
    refine A_getI dX4_read_43 fo_RX4_29 L43 rfl ?_
    refine A_topi (nI z) (rd_z F b (nI z)) ?_
    refine A_iconst (v := -1) dX4_read_46 rfl ?_
    refine A_icmp_ne (tgt := 70) dX4_read_47 rfl (fun h47 => ?_) (fun h47 => by exact absurd h47 (nI_n1 (by omega)))
    refine A_iconst (v := 0) dX4_read_70 rfl ?_
    refine A_istore_n (lv' := [(1, .int 0), (2, .int (nI (k + 1))), (0, .ref 43)]) dX4_read_71 rfl (lb rfl) rfl ?_
    refine A_iload_n dX4_read_72 rfl 0 rfl ?_
    refine A_if_eq (tgt := 86) dX4_read_73 rfl (fun h73 => ?_) (fun h73 => by exact absurd rfl h73)
    refine A_iinc (lv' := [(2, .int (nI ((k + 1) + 1))), (1, .int 0), (0, .ref 43)]) dX4_read_86 1 rfl (nI_add (k + 1) 1) (lb rfl) rfl ?_
    refine A_goto (tgt := 22) dX4_read_89 rfl ?_
    refine A_iload_n dX4_read_22 rfl 0 rfl ?_
    refine A_bipush (v := 12) dX4_read_23 rfl ?_
    refine A_icmp_gt (tgt := 92) dX4_read_25 rfl (fun h25 => ?_) (fun h25 => ?_)
    · refine A_aload_n dX4_read_92 rfl 2 rfl ?_
      refine A_getI dX4_read_93 fo_RX4_29 L43 rfl ?_
      refine A_topi (nI z) (rd_z F b (nI z)) ?_
      refine A_iconst (v := -1) dX4_read_96 rfl ?_
      refine A_icmp_ne (tgt := 122) dX4_read_97 rfl (fun h97 => ?_) (fun h97 => by exact absurd h97 (nI_n1 (by omega)))
      refine A_aload_n dX4_read_122 rfl 2 rfl ?_
      refine A_getI dX4_read_123 fo_RX4_29 L43 rfl ?_
      refine A_topi (nI z) (rd_z F b (nI z)) ?_
      exact A_iret dX4_read_126 rfl (⟨by rw [fz, if_neg (by omega)]; rfl, (congrFun (rd_o _ _ _ (by decide)) _).trans hn, fun j hj => (congrFun (rd_o _ _ _ (by decide)) _).trans (hg j hj), fun b b1 b2 b3 => (rd_o _ _ _ b1).trans (hF b b1 b2 b3)⟩)
    · refine A_iload_n dX4_read_28 rfl 1 rfl ?_
      refine A_if_eq (tgt := 92) dX4_read_29 rfl (fun h29 => ?_) (fun h29 => by exact absurd rfl h29)
      refine A_aload_n dX4_read_92 rfl 2 rfl ?_
      refine A_getI dX4_read_93 fo_RX4_29 L43 rfl ?_
      refine A_topi (nI z) (rd_z F b (nI z)) ?_
      refine A_iconst (v := -1) dX4_read_96 rfl ?_
      refine A_icmp_ne (tgt := 122) dX4_read_97 rfl (fun h97 => ?_) (fun h97 => by exact absurd h97 (nI_n1 (by omega)))
      refine A_aload_n dX4_read_122 rfl 2 rfl ?_
      refine A_getI dX4_read_123 fo_RX4_29 L43 rfl ?_
      refine A_topi (nI z) (rd_z F b (nI z)) ?_
      exact A_iret dX4_read_126 rfl (⟨by rw [fz, if_neg (by omega)]; rfl, (congrFun (rd_o _ _ _ (by decide)) _).trans hn, fun j hj => (congrFun (rd_o _ _ _ (by decide)) _).trans (hg j hj), fun b b1 b2 b3 => (rd_o _ _ _ b1).trans (hF b b1 b2 b3)⟩)
theorem lx_readS (f F : Mem) (tn : Nat) (c : Nat → Nat) (hT : XTp F tn c) (hc : tcW c tn) (k a : Nat) (g : Ro) (hk : k < 12) (ha : a ≤ 121) (hn : F 46 0 = nI k) (hg : ∀ j, j < 4 * k → F 47 j = g j) (hF : ∀ b, b ≠ 43 → b ≠ 46 → b ≠ 47 → F b = f b) {q : St} (e : stm c a = .inr q) (he : ¬ (c q.2.2.2.2 = 59 ∧ k + 1 < 12)) : A (cM MX4_read 0 0 layT layT (rP f (if q.2.2.2.2 < tn then q.2.2.2.2 + 1 else 0, k + 1, ap4 g k (nI q.1) q.2.1 q.2.2.1 q.2.2.2.1))) 22 [(2, .int (nI (k + 1))), (1, .int 1), (0, .ref 43)] [] (rd 43 2 3 F a (-1)) := by
  have hq := (stm_r hc e).1
  have h120 := hc.1
  have hT2 := hT.ap k (nI q.1) q.2.1 q.2.2.1 q.2.2.2.1
  refine A_iload_n dX4_read_22 rfl 0 rfl ?_
  refine A_bipush (v := 12) dX4_read_23 rfl ?_
  refine A_icmp_gt (tgt := 92) dX4_read_25 rfl (fun h25 => by exact absurd h25 (fun t => by rw [show (12 : Int32) = nI 12 from rfl, nI_ltI (by omega) (by omega)] at t; omega)) (fun h25 => ?_)
  refine A_iload_n dX4_read_28 rfl 1 rfl ?_
  refine A_if_eq (tgt := 92) dX4_read_29 rfl (fun h29 => by exact absurd h29 (by decide)) (fun h29 => ?_)
  refine A_aload_n dX4_read_32 rfl 2 rfl ?_
  refine A_callV (M' := MX4_readStatement) [] [] 43 dX4_read_33 lk_RX4_35 oX4_readStatement iX4_readStatement rfl rfl ⟨lb rfl, lb rfl⟩ (lb rfl) ⟨lb rfl, lb rfl⟩ L43 rfl (x_rsR F tn c hT hc a k (by omega) hn hk e) ?_
  rintro _ g0 ⟨rfl, hg0⟩
  rw [hg0]
  refine A_iload_n dX4_read_36 rfl 0 rfl ?_
  refine A_bipush (v := 12) dX4_read_37 rfl ?_
  refine A_icmp_ge (tgt := 70) dX4_read_39 rfl (fun h39 => ?_) (fun h39 => ?_)
  · rw [show (12 : Int32) = nI 12 from rfl, nI_leI (by omega) (by omega)] at h39
    refine A_iconst (v := 0) dX4_read_70 rfl ?_
    refine A_istore_n (lv' := [(1, .int 0), (2, .int (nI (k + 1))), (0, .ref 43)]) dX4_read_71 rfl (lb rfl) rfl ?_
    refine A_iload_n dX4_read_72 rfl 0 rfl ?_
    refine A_if_eq (tgt := 86) dX4_read_73 rfl (fun h73 => ?_) (fun h73 => by exact absurd rfl h73)
    refine A_iinc (lv' := [(2, .int (nI ((k + 1) + 1))), (1, .int 0), (0, .ref 43)]) dX4_read_86 1 rfl (nI_add (k + 1) 1) (lb rfl) rfl ?_
    refine A_goto (tgt := 22) dX4_read_89 rfl ?_
    refine A_iload_n dX4_read_22 rfl 0 rfl ?_
    refine A_bipush (v := 12) dX4_read_23 rfl ?_
    refine A_icmp_gt (tgt := 92) dX4_read_25 rfl (fun h25 => ?_) (fun h25 => ?_)
    · refine A_aload_n dX4_read_92 rfl 2 rfl ?_
      refine A_getI dX4_read_93 fo_RX4_29 L43 rfl ?_
      refine A_topi (-1) (rd_z (apM F k (nI q.1) q.2.1 q.2.2.1 q.2.2.2.1) q.2.2.2.2 (-1)) ?_
      refine A_iconst (v := -1) dX4_read_96 rfl ?_
      refine A_icmp_ne (tgt := 122) dX4_read_97 rfl (fun h97 => by exact absurd rfl h97) (fun h97 => ?_)
      refine A_aload_n dX4_read_100 rfl 2 rfl ?_
      refine A_getI dX4_read_101 fo_RX4_25 L43 rfl ?_
      refine A_topi (nI q.2.2.2.2) (rd_a (apM F k (nI q.1) q.2.1 q.2.2.1 q.2.2.2.1) q.2.2.2.2 (-1) (by decide)) ?_
      refine A_aload_n dX4_read_104 rfl 2 rfl ?_
      refine A_getR (b := 44) dX4_read_105 fo_RX4_12 L43 rfl ?_
      refine A_getI dX4_read_108 fo_RX4_41 L44 rfl ?_
      refine A_topi ((apM F k (nI q.1) q.2.1 q.2.2.1 q.2.2.2.1) 44 1) (congrFun (rd_o (apM F k (nI q.1) q.2.1 q.2.2.1 q.2.2.2.1) q.2.2.2.2 (-1) (by decide)) _) ?_
      refine A_topi (nI tn) (hT2.1) ?_
      refine A_icmp_ge (tgt := 122) dX4_read_111 rfl (fun h111 => ?_) (fun h111 => ?_)
      · rw [nI_leI (by omega) (by omega)] at h111
        refine A_aload_n dX4_read_122 rfl 2 rfl ?_
        refine A_getI dX4_read_123 fo_RX4_29 L43 rfl ?_
        refine A_topi (-1) (rd_z (apM F k (nI q.1) q.2.1 q.2.2.1 q.2.2.2.1) q.2.2.2.2 (-1)) ?_
        exact A_iret dX4_read_126 rfl (⟨by rw [if_neg (by omega)]; rfl, (congrFun (rd_o _ _ _ (by decide)) _).trans (apM_n ..), fun j hj => (congrFun (rd_o _ _ _ (by decide)) _).trans (by rw [apM_p]; exact ap4_c _ _ _ _ hg j hj), fun b b1 b2 b3 => (rd_o _ _ _ b1).trans ((apM_o _ _ _ _ _ _ b2 b3).trans (hF b b1 b2 b3))⟩)
      · rw [nI_leI (by omega) (by omega)] at h111
        refine A_aload_n dX4_read_114 rfl 2 rfl ?_
        refine A_aload_n dX4_read_115 rfl 2 rfl ?_
        refine A_getI dX4_read_116 fo_RX4_25 L43 rfl ?_
        refine A_topi (nI q.2.2.2.2) (rd_a (apM F k (nI q.1) q.2.1 q.2.2.1 q.2.2.2.1) q.2.2.2.2 (-1) (by decide)) ?_
        refine A_putI dX4_read_119 fo_RX4_29 L43 rfl ?_
        refine A_eq rfl rfl (f' := rd 43 2 3 (apM F k (nI q.1) q.2.1 q.2.2.1 q.2.2.2.1) q.2.2.2.2 (nI q.2.2.2.2)) (rd_uz (apM F k (nI q.1) q.2.1 q.2.2.1 q.2.2.2.1) q.2.2.2.2 (-1) (nI q.2.2.2.2)) ?_
        refine A_aload_n dX4_read_122 rfl 2 rfl ?_
        refine A_getI dX4_read_123 fo_RX4_29 L43 rfl ?_
        refine A_topi (nI q.2.2.2.2) (rd_z (apM F k (nI q.1) q.2.1 q.2.2.1 q.2.2.2.1) q.2.2.2.2 (nI q.2.2.2.2)) ?_
        exact A_iret dX4_read_126 rfl (⟨by rw [if_pos (by omega), fz, if_neg (by omega)]; rfl, (congrFun (rd_o _ _ _ (by decide)) _).trans (apM_n ..), fun j hj => (congrFun (rd_o _ _ _ (by decide)) _).trans (by rw [apM_p]; exact ap4_c _ _ _ _ hg j hj), fun b b1 b2 b3 => (rd_o _ _ _ b1).trans ((apM_o _ _ _ _ _ _ b2 b3).trans (hF b b1 b2 b3))⟩)
    · refine A_iload_n dX4_read_28 rfl 1 rfl ?_
      refine A_if_eq (tgt := 92) dX4_read_29 rfl (fun h29 => ?_) (fun h29 => by exact absurd rfl h29)
      refine A_aload_n dX4_read_92 rfl 2 rfl ?_
      refine A_getI dX4_read_93 fo_RX4_29 L43 rfl ?_
      refine A_topi (-1) (rd_z (apM F k (nI q.1) q.2.1 q.2.2.1 q.2.2.2.1) q.2.2.2.2 (-1)) ?_
      refine A_iconst (v := -1) dX4_read_96 rfl ?_
      refine A_icmp_ne (tgt := 122) dX4_read_97 rfl (fun h97 => by exact absurd rfl h97) (fun h97 => ?_)
      refine A_aload_n dX4_read_100 rfl 2 rfl ?_
      refine A_getI dX4_read_101 fo_RX4_25 L43 rfl ?_
      refine A_topi (nI q.2.2.2.2) (rd_a (apM F k (nI q.1) q.2.1 q.2.2.1 q.2.2.2.1) q.2.2.2.2 (-1) (by decide)) ?_
      refine A_aload_n dX4_read_104 rfl 2 rfl ?_
      refine A_getR (b := 44) dX4_read_105 fo_RX4_12 L43 rfl ?_
      refine A_getI dX4_read_108 fo_RX4_41 L44 rfl ?_
      refine A_topi ((apM F k (nI q.1) q.2.1 q.2.2.1 q.2.2.2.1) 44 1) (congrFun (rd_o (apM F k (nI q.1) q.2.1 q.2.2.1 q.2.2.2.1) q.2.2.2.2 (-1) (by decide)) _) ?_
      refine A_topi (nI tn) (hT2.1) ?_
      refine A_icmp_ge (tgt := 122) dX4_read_111 rfl (fun h111 => ?_) (fun h111 => ?_)
      · rw [nI_leI (by omega) (by omega)] at h111
        refine A_aload_n dX4_read_122 rfl 2 rfl ?_
        refine A_getI dX4_read_123 fo_RX4_29 L43 rfl ?_
        refine A_topi (-1) (rd_z (apM F k (nI q.1) q.2.1 q.2.2.1 q.2.2.2.1) q.2.2.2.2 (-1)) ?_
        exact A_iret dX4_read_126 rfl (⟨by rw [if_neg (by omega)]; rfl, (congrFun (rd_o _ _ _ (by decide)) _).trans (apM_n ..), fun j hj => (congrFun (rd_o _ _ _ (by decide)) _).trans (by rw [apM_p]; exact ap4_c _ _ _ _ hg j hj), fun b b1 b2 b3 => (rd_o _ _ _ b1).trans ((apM_o _ _ _ _ _ _ b2 b3).trans (hF b b1 b2 b3))⟩)
      · rw [nI_leI (by omega) (by omega)] at h111
        refine A_aload_n dX4_read_114 rfl 2 rfl ?_
        refine A_aload_n dX4_read_115 rfl 2 rfl ?_
        refine A_getI dX4_read_116 fo_RX4_25 L43 rfl ?_
        refine A_topi (nI q.2.2.2.2) (rd_a (apM F k (nI q.1) q.2.1 q.2.2.1 q.2.2.2.1) q.2.2.2.2 (-1) (by decide)) ?_
        refine A_putI dX4_read_119 fo_RX4_29 L43 rfl ?_
        refine A_eq rfl rfl (f' := rd 43 2 3 (apM F k (nI q.1) q.2.1 q.2.2.1 q.2.2.2.1) q.2.2.2.2 (nI q.2.2.2.2)) (rd_uz (apM F k (nI q.1) q.2.1 q.2.2.1 q.2.2.2.1) q.2.2.2.2 (-1) (nI q.2.2.2.2)) ?_
        refine A_aload_n dX4_read_122 rfl 2 rfl ?_
        refine A_getI dX4_read_123 fo_RX4_29 L43 rfl ?_
        refine A_topi (nI q.2.2.2.2) (rd_z (apM F k (nI q.1) q.2.1 q.2.2.1 q.2.2.2.1) q.2.2.2.2 (nI q.2.2.2.2)) ?_
        exact A_iret dX4_read_126 rfl (⟨by rw [if_pos (by omega), fz, if_neg (by omega)]; rfl, (congrFun (rd_o _ _ _ (by decide)) _).trans (apM_n ..), fun j hj => (congrFun (rd_o _ _ _ (by decide)) _).trans (by rw [apM_p]; exact ap4_c _ _ _ _ hg j hj), fun b b1 b2 b3 => (rd_o _ _ _ b1).trans ((apM_o _ _ _ _ _ _ b2 b3).trans (hF b b1 b2 b3))⟩)
  · rw [show (12 : Int32) = nI 12 from rfl, nI_leI (by omega) (by omega)] at h39
    refine A_aload_n dX4_read_42 rfl 2 rfl ?_
    refine A_getI dX4_read_43 fo_RX4_29 L43 rfl ?_
    refine A_topi (-1) (rd_z (apM F k (nI q.1) q.2.1 q.2.2.1 q.2.2.2.1) q.2.2.2.2 (-1)) ?_
    refine A_iconst (v := -1) dX4_read_46 rfl ?_
    refine A_icmp_ne (tgt := 70) dX4_read_47 rfl (fun h47 => by exact absurd rfl h47) (fun h47 => ?_)
    refine A_aload_n dX4_read_50 rfl 2 rfl ?_
    refine A_getR (b := 44) dX4_read_51 fo_RX4_12 L43 rfl ?_
    refine A_aload_n dX4_read_54 rfl 2 rfl ?_
    refine A_getI dX4_read_55 fo_RX4_25 L43 rfl ?_
    refine A_topi (nI q.2.2.2.2) (rd_a (apM F k (nI q.1) q.2.1 q.2.2.1 q.2.2.2.1) q.2.2.2.2 (-1) (by decide)) ?_
    refine A_callV (M' := MX8_at) [.int (nI q.2.2.2.2)] [] 44 dX4_read_58 lk_RX4_38 oX8_at iX8_at rfl rfl ⟨lb rfl, lb rfl⟩ (lb rfl) ⟨lb rfl, lb rfl⟩ L44 rfl (x_at _ (hT2.rd q.2.2.2.2 (-1)) hc q.2.2.2.2 (by omega)) ?_
    rintro _ g0 ⟨rfl, hg0⟩
    rw [hg0]
    refine A_bipush (v := 59) dX4_read_61 rfl ?_
    refine A_icmp_ne (tgt := 70) dX4_read_63 rfl (fun h63 => ?_) (fun h63 => by exact absurd ⟨(nI_eq (by have := hc.2.2.2 q.2.2.2.2; omega) (by decide)).mp h63, by omega⟩ he)
    refine A_iconst (v := 0) dX4_read_70 rfl ?_
    refine A_istore_n (lv' := [(1, .int 0), (2, .int (nI (k + 1))), (0, .ref 43)]) dX4_read_71 rfl (lb rfl) rfl ?_
    refine A_iload_n dX4_read_72 rfl 0 rfl ?_
    refine A_if_eq (tgt := 86) dX4_read_73 rfl (fun h73 => ?_) (fun h73 => by exact absurd rfl h73)
    refine A_iinc (lv' := [(2, .int (nI ((k + 1) + 1))), (1, .int 0), (0, .ref 43)]) dX4_read_86 1 rfl (nI_add (k + 1) 1) (lb rfl) rfl ?_
    refine A_goto (tgt := 22) dX4_read_89 rfl ?_
    refine A_iload_n dX4_read_22 rfl 0 rfl ?_
    refine A_bipush (v := 12) dX4_read_23 rfl ?_
    refine A_icmp_gt (tgt := 92) dX4_read_25 rfl (fun h25 => ?_) (fun h25 => ?_)
    · refine A_aload_n dX4_read_92 rfl 2 rfl ?_
      refine A_getI dX4_read_93 fo_RX4_29 L43 rfl ?_
      refine A_topi (-1) (rd_z (apM F k (nI q.1) q.2.1 q.2.2.1 q.2.2.2.1) q.2.2.2.2 (-1)) ?_
      refine A_iconst (v := -1) dX4_read_96 rfl ?_
      refine A_icmp_ne (tgt := 122) dX4_read_97 rfl (fun h97 => by exact absurd rfl h97) (fun h97 => ?_)
      refine A_aload_n dX4_read_100 rfl 2 rfl ?_
      refine A_getI dX4_read_101 fo_RX4_25 L43 rfl ?_
      refine A_topi (nI q.2.2.2.2) (rd_a (apM F k (nI q.1) q.2.1 q.2.2.1 q.2.2.2.1) q.2.2.2.2 (-1) (by decide)) ?_
      refine A_aload_n dX4_read_104 rfl 2 rfl ?_
      refine A_getR (b := 44) dX4_read_105 fo_RX4_12 L43 rfl ?_
      refine A_getI dX4_read_108 fo_RX4_41 L44 rfl ?_
      refine A_topi ((apM F k (nI q.1) q.2.1 q.2.2.1 q.2.2.2.1) 44 1) (congrFun (rd_o (apM F k (nI q.1) q.2.1 q.2.2.1 q.2.2.2.1) q.2.2.2.2 (-1) (by decide)) _) ?_
      refine A_topi (nI tn) (hT2.1) ?_
      refine A_icmp_ge (tgt := 122) dX4_read_111 rfl (fun h111 => ?_) (fun h111 => ?_)
      · rw [nI_leI (by omega) (by omega)] at h111
        refine A_aload_n dX4_read_122 rfl 2 rfl ?_
        refine A_getI dX4_read_123 fo_RX4_29 L43 rfl ?_
        refine A_topi (-1) (rd_z (apM F k (nI q.1) q.2.1 q.2.2.1 q.2.2.2.1) q.2.2.2.2 (-1)) ?_
        exact A_iret dX4_read_126 rfl (⟨by rw [if_neg (by omega)]; rfl, (congrFun (rd_o _ _ _ (by decide)) _).trans (apM_n ..), fun j hj => (congrFun (rd_o _ _ _ (by decide)) _).trans (by rw [apM_p]; exact ap4_c _ _ _ _ hg j hj), fun b b1 b2 b3 => (rd_o _ _ _ b1).trans ((apM_o _ _ _ _ _ _ b2 b3).trans (hF b b1 b2 b3))⟩)
      · rw [nI_leI (by omega) (by omega)] at h111
        refine A_aload_n dX4_read_114 rfl 2 rfl ?_
        refine A_aload_n dX4_read_115 rfl 2 rfl ?_
        refine A_getI dX4_read_116 fo_RX4_25 L43 rfl ?_
        refine A_topi (nI q.2.2.2.2) (rd_a (apM F k (nI q.1) q.2.1 q.2.2.1 q.2.2.2.1) q.2.2.2.2 (-1) (by decide)) ?_
        refine A_putI dX4_read_119 fo_RX4_29 L43 rfl ?_
        refine A_eq rfl rfl (f' := rd 43 2 3 (apM F k (nI q.1) q.2.1 q.2.2.1 q.2.2.2.1) q.2.2.2.2 (nI q.2.2.2.2)) (rd_uz (apM F k (nI q.1) q.2.1 q.2.2.1 q.2.2.2.1) q.2.2.2.2 (-1) (nI q.2.2.2.2)) ?_
        refine A_aload_n dX4_read_122 rfl 2 rfl ?_
        refine A_getI dX4_read_123 fo_RX4_29 L43 rfl ?_
        refine A_topi (nI q.2.2.2.2) (rd_z (apM F k (nI q.1) q.2.1 q.2.2.1 q.2.2.2.1) q.2.2.2.2 (nI q.2.2.2.2)) ?_
        exact A_iret dX4_read_126 rfl (⟨by rw [if_pos (by omega), fz, if_neg (by omega)]; rfl, (congrFun (rd_o _ _ _ (by decide)) _).trans (apM_n ..), fun j hj => (congrFun (rd_o _ _ _ (by decide)) _).trans (by rw [apM_p]; exact ap4_c _ _ _ _ hg j hj), fun b b1 b2 b3 => (rd_o _ _ _ b1).trans ((apM_o _ _ _ _ _ _ b2 b3).trans (hF b b1 b2 b3))⟩)
    · refine A_iload_n dX4_read_28 rfl 1 rfl ?_
      refine A_if_eq (tgt := 92) dX4_read_29 rfl (fun h29 => ?_) (fun h29 => by exact absurd rfl h29)
      refine A_aload_n dX4_read_92 rfl 2 rfl ?_
      refine A_getI dX4_read_93 fo_RX4_29 L43 rfl ?_
      refine A_topi (-1) (rd_z (apM F k (nI q.1) q.2.1 q.2.2.1 q.2.2.2.1) q.2.2.2.2 (-1)) ?_
      refine A_iconst (v := -1) dX4_read_96 rfl ?_
      refine A_icmp_ne (tgt := 122) dX4_read_97 rfl (fun h97 => by exact absurd rfl h97) (fun h97 => ?_)
      refine A_aload_n dX4_read_100 rfl 2 rfl ?_
      refine A_getI dX4_read_101 fo_RX4_25 L43 rfl ?_
      refine A_topi (nI q.2.2.2.2) (rd_a (apM F k (nI q.1) q.2.1 q.2.2.1 q.2.2.2.1) q.2.2.2.2 (-1) (by decide)) ?_
      refine A_aload_n dX4_read_104 rfl 2 rfl ?_
      refine A_getR (b := 44) dX4_read_105 fo_RX4_12 L43 rfl ?_
      refine A_getI dX4_read_108 fo_RX4_41 L44 rfl ?_
      refine A_topi ((apM F k (nI q.1) q.2.1 q.2.2.1 q.2.2.2.1) 44 1) (congrFun (rd_o (apM F k (nI q.1) q.2.1 q.2.2.1 q.2.2.2.1) q.2.2.2.2 (-1) (by decide)) _) ?_
      refine A_topi (nI tn) (hT2.1) ?_
      refine A_icmp_ge (tgt := 122) dX4_read_111 rfl (fun h111 => ?_) (fun h111 => ?_)
      · rw [nI_leI (by omega) (by omega)] at h111
        refine A_aload_n dX4_read_122 rfl 2 rfl ?_
        refine A_getI dX4_read_123 fo_RX4_29 L43 rfl ?_
        refine A_topi (-1) (rd_z (apM F k (nI q.1) q.2.1 q.2.2.1 q.2.2.2.1) q.2.2.2.2 (-1)) ?_
        exact A_iret dX4_read_126 rfl (⟨by rw [if_neg (by omega)]; rfl, (congrFun (rd_o _ _ _ (by decide)) _).trans (apM_n ..), fun j hj => (congrFun (rd_o _ _ _ (by decide)) _).trans (by rw [apM_p]; exact ap4_c _ _ _ _ hg j hj), fun b b1 b2 b3 => (rd_o _ _ _ b1).trans ((apM_o _ _ _ _ _ _ b2 b3).trans (hF b b1 b2 b3))⟩)
      · rw [nI_leI (by omega) (by omega)] at h111
        refine A_aload_n dX4_read_114 rfl 2 rfl ?_
        refine A_aload_n dX4_read_115 rfl 2 rfl ?_
        refine A_getI dX4_read_116 fo_RX4_25 L43 rfl ?_
        refine A_topi (nI q.2.2.2.2) (rd_a (apM F k (nI q.1) q.2.1 q.2.2.1 q.2.2.2.1) q.2.2.2.2 (-1) (by decide)) ?_
        refine A_putI dX4_read_119 fo_RX4_29 L43 rfl ?_
        refine A_eq rfl rfl (f' := rd 43 2 3 (apM F k (nI q.1) q.2.1 q.2.2.1 q.2.2.2.1) q.2.2.2.2 (nI q.2.2.2.2)) (rd_uz (apM F k (nI q.1) q.2.1 q.2.2.1 q.2.2.2.1) q.2.2.2.2 (-1) (nI q.2.2.2.2)) ?_
        refine A_aload_n dX4_read_122 rfl 2 rfl ?_
        refine A_getI dX4_read_123 fo_RX4_29 L43 rfl ?_
        refine A_topi (nI q.2.2.2.2) (rd_z (apM F k (nI q.1) q.2.1 q.2.2.1 q.2.2.2.1) q.2.2.2.2 (nI q.2.2.2.2)) ?_
        exact A_iret dX4_read_126 rfl (⟨by rw [if_pos (by omega), fz, if_neg (by omega)]; rfl, (congrFun (rd_o _ _ _ (by decide)) _).trans (apM_n ..), fun j hj => (congrFun (rd_o _ _ _ (by decide)) _).trans (by rw [apM_p]; exact ap4_c _ _ _ _ hg j hj), fun b b1 b2 b3 => (rd_o _ _ _ b1).trans ((apM_o _ _ _ _ _ _ b2 b3).trans (hF b b1 b2 b3))⟩)
theorem lx_readG (f F : Mem) (tn : Nat) (c : Nat → Nat) (hT : XTp F tn c) (hc : tcW c tn) (k a : Nat) (g : Ro) (hk : k < 12) (ha : a ≤ 121) (hn : F 46 0 = nI k) (hg : ∀ j, j < 4 * k → F 47 j = g j) (hF : ∀ b, b ≠ 43 → b ≠ 46 → b ≠ 47 → F b = f b) {q : St} (e : stm c a = .inr q) (he : c q.2.2.2.2 = 59 ∧ k + 1 < 12) (R : Nat × Nat × Ro) (kk : A (cM MX4_read 0 0 layT layT (rP f R)) 22 [(2, .int (nI (k + 1 + 1))), (1, .int 1), (0, .ref 43)] [] (rd 43 2 3 (apM F k (nI q.1) q.2.1 q.2.2.1 q.2.2.2.1) (q.2.2.2.2 + 1) (-1))) : A (cM MX4_read 0 0 layT layT (rP f R)) 22 [(2, .int (nI (k + 1))), (1, .int 1), (0, .ref 43)] [] (rd 43 2 3 F a (-1)) := by
  have hq := (stm_r hc e).1
  have h120 := hc.1
  have hT2 := hT.ap k (nI q.1) q.2.1 q.2.2.1 q.2.2.2.1
  refine A_iload_n dX4_read_22 rfl 0 rfl ?_
  refine A_bipush (v := 12) dX4_read_23 rfl ?_
  refine A_icmp_gt (tgt := 92) dX4_read_25 rfl (fun h25 => by exact absurd h25 (fun t => by rw [show (12 : Int32) = nI 12 from rfl, nI_ltI (by omega) (by omega)] at t; omega)) (fun h25 => ?_)
  refine A_iload_n dX4_read_28 rfl 1 rfl ?_
  refine A_if_eq (tgt := 92) dX4_read_29 rfl (fun h29 => by exact absurd h29 (by decide)) (fun h29 => ?_)
  refine A_aload_n dX4_read_32 rfl 2 rfl ?_
  refine A_callV (M' := MX4_readStatement) [] [] 43 dX4_read_33 lk_RX4_35 oX4_readStatement iX4_readStatement rfl rfl ⟨lb rfl, lb rfl⟩ (lb rfl) ⟨lb rfl, lb rfl⟩ L43 rfl (x_rsR F tn c hT hc a k (by omega) hn hk e) ?_
  rintro _ g0 ⟨rfl, hg0⟩
  rw [hg0]
  refine A_iload_n dX4_read_36 rfl 0 rfl ?_
  refine A_bipush (v := 12) dX4_read_37 rfl ?_
  refine A_icmp_ge (tgt := 70) dX4_read_39 rfl (fun h39 => by exact absurd h39 (fun t => by rw [show (12 : Int32) = nI 12 from rfl, nI_leI (by omega) (by omega)] at t; omega)) (fun h39 => ?_)
  refine A_aload_n dX4_read_42 rfl 2 rfl ?_
  refine A_getI dX4_read_43 fo_RX4_29 L43 rfl ?_
  refine A_topi (-1) (rd_z (apM F k (nI q.1) q.2.1 q.2.2.1 q.2.2.2.1) q.2.2.2.2 (-1)) ?_
  refine A_iconst (v := -1) dX4_read_46 rfl ?_
  refine A_icmp_ne (tgt := 70) dX4_read_47 rfl (fun h47 => by exact absurd rfl h47) (fun h47 => ?_)
  refine A_aload_n dX4_read_50 rfl 2 rfl ?_
  refine A_getR (b := 44) dX4_read_51 fo_RX4_12 L43 rfl ?_
  refine A_aload_n dX4_read_54 rfl 2 rfl ?_
  refine A_getI dX4_read_55 fo_RX4_25 L43 rfl ?_
  refine A_topi (nI q.2.2.2.2) (rd_a (apM F k (nI q.1) q.2.1 q.2.2.1 q.2.2.2.1) q.2.2.2.2 (-1) (by decide)) ?_
  refine A_callV (M' := MX8_at) [.int (nI q.2.2.2.2)] [] 44 dX4_read_58 lk_RX4_38 oX8_at iX8_at rfl rfl ⟨lb rfl, lb rfl⟩ (lb rfl) ⟨lb rfl, lb rfl⟩ L44 rfl (x_at _ (hT2.rd q.2.2.2.2 (-1)) hc q.2.2.2.2 (by omega)) ?_
  rintro _ g0 ⟨rfl, hg0⟩
  rw [hg0]
  refine A_bipush (v := 59) dX4_read_61 rfl ?_
  refine A_icmp_ne (tgt := 70) dX4_read_63 rfl (fun h63 => by exact absurd (by rw [he.1]; rfl) h63) (fun h63 => ?_)
  refine A_iconst (v := 1) dX4_read_66 rfl ?_
  refine A_goto (tgt := 71) dX4_read_67 rfl ?_
  refine A_istore_n (lv' := [(1, .int 1), (2, .int (nI (k + 1))), (0, .ref 43)]) dX4_read_71 rfl (lb rfl) rfl ?_
  refine A_iload_n dX4_read_72 rfl 0 rfl ?_
  refine A_if_eq (tgt := 86) dX4_read_73 rfl (fun h73 => by exact absurd h73 (by decide)) (fun h73 => ?_)
  refine A_aload_n dX4_read_76 rfl 2 rfl ?_
  refine A_dup dX4_read_77 rfl ?_
  refine A_getI dX4_read_78 fo_RX4_25 L43 rfl ?_
  refine A_topi (nI q.2.2.2.2) (rd_a (apM F k (nI q.1) q.2.1 q.2.2.1 q.2.2.2.1) q.2.2.2.2 (-1) (by decide)) ?_
  refine A_iconst (v := 1) dX4_read_81 rfl ?_
  refine A_iadd dX4_read_82 ?_
  refine A_putI dX4_read_83 fo_RX4_25 L43 rfl ?_
  refine A_eq rfl rfl (f' := rd 43 2 3 (apM F k (nI q.1) q.2.1 q.2.2.1 q.2.2.2.1) (q.2.2.2.2 + 1) (-1)) (rd_ua (apM F k (nI q.1) q.2.1 q.2.2.1 q.2.2.2.1) q.2.2.2.2 (q.2.2.2.2 + 1) (-1) (by decide) (by simp only [lit, nI_add, pk_mul, Nat.add_zero])) ?_
  refine A_iinc (lv' := [(2, .int (nI ((k + 1) + 1))), (1, .int 1), (0, .ref 43)]) dX4_read_86 1 rfl (nI_add (k + 1) 1) (lb rfl) rfl ?_
  refine A_goto (tgt := 22) dX4_read_89 rfl ?_
  exact kk
theorem lx_read (f : Mem) (tn : Nat) (c : Nat → Nat) (hc : tcW c tn) : ∀ (n k a : Nat) (g : Ro) (F : Mem), XTp F tn c → n + 1 + k = 12 → a ≤ 121 → F 46 0 = nI k → (∀ j, j < 4 * k → F 47 j = g j) → (∀ b, b ≠ 43 → b ≠ 46 → b ≠ 47 → F b = f b) →
    A (cM MX4_read 0 0 layT layT (rP f (prg c tn (n + 1) k a g))) 22 [(2, .int (nI (k + 1))), (1, .int 1), (0, .ref 43)] [] (rd 43 2 3 F a (-1))
  | n, k, a, g, F, hT, hk, ha, hn, hg, hF => by
    unfold prg
    cases e : stm c a with
    | inl z => exact lx_readL f F tn c hT hc k a g (by omega) ha hn hg hF e
    | inr q =>
      dsimp only
      have hq := (stm_r hc e).1
      have h120 := hc.1
      by_cases he : c q.2.2.2.2 = 59 ∧ k + 1 < 12
      · rw [if_pos he]
        obtain ⟨n', rfl⟩ : ∃ n', n = n' + 1 := ⟨n - 1, by omega⟩
        refine lx_readG f F tn c hT hc k a g (by omega) ha hn hg hF e he _ ?_
        exact lx_read f tn c hc n' (k + 1) (q.2.2.2.2 + 1) _ _ (hT.ap ..) (by omega) (by omega) (apM_n ..) (fun j hj => by rw [apM_p]; exact ap4_c _ _ _ _ hg j hj) (fun b b1 b2 b3 => (apM_o _ _ _ _ _ _ b2 b3).trans (hF b b1 b2 b3))
      · rw [if_neg he]
        exact lx_readS f F tn c hT hc k a g (by omega) ha hn hg hF e he
theorem x_read (f : Mem) (tn : Nat) (c : Nat → Nat) (hT : XTp f tn c) (hc : tcW c tn) : C0 MX4_read [.ref 43] f (rP f (prg c tn 12 0 0 z0)) := by
  refine Ct.of (lv := [(0, .ref 43)]) (by decide) (lb rfl) rfl ?_
  refine A_aload_n dX4_read_0 rfl 0 rfl ?_
  refine A_iconst (v := 0) dX4_read_1 rfl ?_
  refine A_putI dX4_read_2 fo_RX4_25 L43 rfl ?_
  refine A_aload_n dX4_read_5 rfl 0 rfl ?_
  refine A_iconst (v := -1) dX4_read_6 rfl ?_
  refine A_putI dX4_read_7 fo_RX4_29 L43 rfl ?_
  refine A_aload_n dX4_read_10 rfl 0 rfl ?_
  refine A_getR (b := 46) dX4_read_11 fo_RX4_21 L43 rfl ?_
  refine A_iconst (v := 0) dX4_read_14 rfl ?_
  refine A_putI dX4_read_15 fo_RX4_32 L46 rfl ?_
  refine A_iconst (v := 1) dX4_read_18 rfl ?_
  refine A_istore_n (lv' := [(1, .int 1), (0, .ref 43)]) dX4_read_19 rfl (lb rfl) rfl ?_
  refine A_iconst (v := 1) dX4_read_20 rfl ?_
  refine A_istore_n (lv' := [(2, .int 1), (1, .int 1), (0, .ref 43)]) dX4_read_21 rfl (lb rfl) rfl ?_
  refine A_eq rfl rfl (f' := rd 43 2 3 (u2 f 46 0 0) 0 (-1)) (rd_uo f 0 (-1) 0 (by decide)) ?_
  refine A_sub [0, 1, 2] rfl ?_
  exact lx_read f tn c hc 11 0 0 z0 (u2 f 46 0 0) (hT.congr (by rw [u2_n _ _ _ (by decide)]) (by rw [u2_n _ _ _ (by decide)])) (by omega) (by omega) (by simp [u2, ur, upd]; rfl) (fun j hj => absurd hj (by omega)) (fun b _ b2 _ => u2_n _ _ _ b2)
