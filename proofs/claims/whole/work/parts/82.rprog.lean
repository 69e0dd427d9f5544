/-! program: the reference -/
def frQ (f F : Mem) : Prop := (∀ b, b ≠ 93 → b ≠ 100 → F b = f b) ∧ ∀ i, i ≠ 10 → i ≠ 11 → i ≠ 12 → F 93 i = f 93 i
theorem fz_s (z : Nat) : fz (z + 1) = nI z := by unfold fz; rw [if_neg (by omega)]; rfl
theorem fz_0 : fz 0 = -1 := rfl
theorem rq4_o (F : Mem) (n : Nat) (x0 x1 x2 x3 : Int32) {b : Nat} (h : b ≠ 100) : rq4 F n x0 x1 x2 x3 b = F b := by
  unfold rq4
  rw [u2_n _ _ _ h, u2_n _ _ _ h, u2_n _ _ _ h, u2_n _ _ _ h]
theorem rq4_p (F : Mem) (n : Nat) (x0 x1 x2 x3 : Int32) : rq4 F n x0 x1 x2 x3 100 = ap4 (F 100) n x0 x1 x2 x3 := by
  unfold rq4 ap4
  simp only [u2, ur_s]
  rw [show 4 * n = n * 4 by omega]
  rfl
theorem ap4_lo (g : Ro) (n : Nat) (x0 x1 x2 x3 : Int32) {j : Nat} (h : j < 4 * n) : ap4 g n x0 x1 x2 x3 j = g j := by
  simp only [ap4, upd]
  rw [if_neg (by omega), if_neg (by omega), if_neg (by omega), if_neg (by omega)]
abbrev wh (F : Mem) (k w : Nat) (x0 x1 x2 x3 : Int32) : Mem := u2 (rq4 F k x0 x1 x2 x3) 93 12 (nI w)
theorem wh_f {f F : Mem} (h : frQ f F) (k w : Nat) (x0 x1 x2 x3 : Int32) : frQ f (wh F k w x0 x1 x2 x3) :=
  ⟨fun b h1 h2 => by unfold wh; rw [u2_n _ _ _ h1, rq4_o _ _ _ _ _ _ h2]; exact h.1 b h1 h2, fun i h1 h2 h3 => by
    rw [show wh F k w x0 x1 x2 x3 93 i = rq4 F k x0 x1 x2 x3 93 i by simp [wh, u2, ur, upd, h3], rq4_o _ _ _ _ _ _ (by decide)]; exact h.2 i h1 h2 h3⟩
theorem wh_p (F : Mem) (k w : Nat) (x0 x1 x2 x3 : Int32) : wh F k w x0 x1 x2 x3 100 = ap4 (F 100) k x0 x1 x2 x3 := by unfold wh; rw [u2_n _ _ _ (by decide), rq4_p]
theorem wh_n (F : Mem) (k w : Nat) (x0 x1 x2 x3 : Int32) : wh F k w x0 x1 x2 x3 93 12 = nI w := by simp [wh, u2, ur, upd]
theorem frQ.t {f F : Mem} {tn : Nat} {c : Nat → Nat} (h : frQ f F) (hT : RTp f tn c) : RTp F tn c := ⟨(h.2 9 (by decide) (by decide) (by decide)).trans hT.1, fun i hi => by rw [h.1 99 (by decide) (by decide)]; exact hT.2 i hi⟩
theorem frQ.a {f F : Mem} (h : frQ f F) (hA : RA f) : RA F := fun j hj => by rw [h.1 101 (by decide) (by decide)]; exact hA j hj
theorem c_stL (f : Mem) (tn : Nat) (c : Nat → Nat) (hT : RTp f tn c) (hc : tcW c tn) (hA : RA f) (a k : Nat) (ha : a < 2 ^ 27) (hk : k < 12) {z : Nat} (e : stm c a = .inl z) : C0 MX11_statement1 [.ref 93, .int (nI k)] (rd 93 10 11 f a (-1)) (fun r h => r = none ∧ ∃ (b : Nat) (x0 x1 x2 x3 : Int32), h = rd 93 10 11 (rq4 f k x0 x1 x2 x3) b (nI z)) := by
  have t := c_st f tn c hT hc hA a k ha hk
  rw [e] at t
  exact t
theorem c_stR (f : Mem) (tn : Nat) (c : Nat → Nat) (hT : RTp f tn c) (hc : tcW c tn) (hA : RA f) (a k : Nat) (ha : a < 2 ^ 27) (hk : k < 12) {q : St} (e : stm c a = .inr q) : C0 MX11_statement1 [.ref 93, .int (nI k)] (rd 93 10 11 f a (-1)) (rt none (rd 93 10 11 (rq4 f k (nI q.1) q.2.1 q.2.2.1 q.2.2.2.1) q.2.2.2.2 (-1))) := by
  have t := c_st f tn c hT hc hA a k ha hk
  rw [e] at t
  exact t
theorem lc_prL (f : Mem) (tn : Nat) (c : Nat → Nat) (hT : RTp f tn c) (hc : tcW c tn) (hA : RA f) (P : Option Value → Mem → Prop) (F : Mem) (k a t : Nat) (g : Ro) (hk : k < 12) (ha : a ≤ 121) (hn : F 93 12 = nI k) (hg : ∀ j, j < 4 * k → F 100 j = g j) (hF : frQ f F) {z : Nat} (e : stm c a = .inl z) (kk : ∀ (F' : Mem) (b' : Nat), F' 93 12 = nI (k) → (∀ j, j < 4 * (k) → F' 100 j = (g) j) → frQ f F' → A (cM MX11_program 0 0 layT layT P) 166 [(1, .int (nI t)), (0, .ref 93)] [] (rd 93 10 11 F' b' (fz (z + 1)))) : A (cM MX11_program 0 0 layT layT P) 50 [(2, .int 1), (1, .int (nI t)), (0, .ref 93)] [] (rd 93 10 11 F a (-1)) := by
  have hz := stm_l hc ha e
  refine A_iload_n dX11_program_50 rfl 0 rfl ?_
  refine A_if_eq (tgt := 142) dX11_program_51 rfl (fun h51 => by exact absurd h51 (by decide)) (fun h51 => ?_)
  refine A_aload_n dX11_program_54 rfl 2 rfl ?_
  refine A_getI dX11_program_55 fo_RX11_92 L93 rfl ?_
  refine A_topi (-1) (rd_z F a (-1)) ?_
  refine A_if_ge (tgt := 142) dX11_program_58 rfl (fun h58 => by exact absurd h58 (by decide)) (fun h58 => ?_)
  refine A_aload_n dX11_program_61 rfl 2 rfl ?_
  refine A_aload_n dX11_program_62 rfl 2 rfl ?_
  refine A_getI dX11_program_63 fo_RX11_136 L93 rfl ?_
  refine A_topi (F 93 12) (rd_k F a (-1) (by decide) (by decide)) ?_
  refine A_topi (nI k) (hn) ?_
  refine A_callV (M' := MX11_statement1) [.int (nI k)] [] 93 dX11_program_66 lk_RX11_139 oX11_statement1 iX11_statement1 rfl rfl ⟨lb rfl, lb rfl⟩ (lb rfl) ⟨lb rfl, lb rfl⟩ L93 rfl (c_stL F tn c (hF.t hT) hc (hF.a hA) a k (by omega) hk e) ?_
  rintro _ g0 ⟨rfl, b, x0, x1, x2, x3, hg0⟩
  rw [hg0]
  refine A_aload_n dX11_program_69 rfl 2 rfl ?_
  refine A_dup dX11_program_70 rfl ?_
  refine A_getI dX11_program_71 fo_RX11_136 L93 rfl ?_
  refine A_topi ((rq4 F k x0 x1 x2 x3) 93 12) (rd_k (rq4 F k x0 x1 x2 x3) b (nI z) (by decide) (by decide)) ?_
  refine A_topi (nI k) ((congrFun (rq4_o _ _ _ _ _ _ (by decide)) _).trans hn) ?_
  refine A_aload_n dX11_program_74 rfl 2 rfl ?_
  refine A_getI dX11_program_75 fo_RX11_92 L93 rfl ?_
  refine A_topi (nI z) (rd_z (rq4 F k x0 x1 x2 x3) b (nI z)) ?_
  refine A_if_ge (tgt := 85) dX11_program_78 rfl (fun h78 => ?_) (fun h78 => by exact absurd (nI_ge0 (by omega)) h78)
  refine A_iconst (v := 0) dX11_program_85 rfl ?_
  refine A_iadd dX11_program_86 ?_
  refine A_topi (nI k) (Int32.add_zero _) ?_
  refine A_putI dX11_program_87 fo_RX11_136 L93 rfl ?_
  refine A_eq rfl rfl (f' := rd 93 10 11 (u2 (rq4 F k x0 x1 x2 x3) 93 12 (nI k)) b (nI z)) (rd_uk (rq4 F k x0 x1 x2 x3) b (nI z) (nI k) (by decide) (by decide)) ?_
  refine A_aload_n dX11_program_90 rfl 2 rfl ?_
  refine A_getI dX11_program_91 fo_RX11_92 L93 rfl ?_
  refine A_topi (nI z) (rd_z (u2 (rq4 F k x0 x1 x2 x3) 93 12 (nI k)) b (nI z)) ?_
  refine A_if_ge (tgt := 119) dX11_program_94 rfl (fun h94 => ?_) (fun h94 => by exact absurd (nI_ge0 (by omega)) h94)
  refine A_iconst (v := 0) dX11_program_119 rfl ?_
  refine A_istore_n (lv' := [(2, .int 0), (1, .int (nI t)), (0, .ref 93)]) dX11_program_120 rfl (lb rfl) rfl ?_
  refine A_aload_n dX11_program_121 rfl 2 rfl ?_
  refine A_dup dX11_program_122 rfl ?_
  refine A_getI dX11_program_123 fo_RX11_89 L93 rfl ?_
  refine A_topi (nI b) (rd_a (u2 (rq4 F k x0 x1 x2 x3) 93 12 (nI k)) b (nI z) (by decide)) ?_
  refine A_iload_n dX11_program_126 rfl 0 rfl ?_
  refine A_if_eq (tgt := 134) dX11_program_127 rfl (fun h127 => ?_) (fun h127 => by exact absurd rfl h127)
  refine A_iconst (v := 0) dX11_program_134 rfl ?_
  refine A_iadd dX11_program_135 ?_
  refine A_putI dX11_program_136 fo_RX11_89 L93 rfl ?_
  refine A_eq rfl rfl (f' := rd 93 10 11 (u2 (rq4 F k x0 x1 x2 x3) 93 12 (nI k)) b (nI z)) (rd_ua (u2 (rq4 F k x0 x1 x2 x3) 93 12 (nI k)) b b (nI z) (by decide) (by simp only [lit, nI_add, pk_mul, Nat.add_zero])) ?_
  refine A_goto (tgt := 50) dX11_program_139 rfl ?_
  refine A_iload_n dX11_program_50 rfl 0 rfl ?_
  refine A_if_eq (tgt := 142) dX11_program_51 rfl (fun h51 => ?_) (fun h51 => by exact absurd rfl h51)
  refine A_aload_n dX11_program_142 rfl 2 rfl ?_
  refine A_aload_n dX11_program_143 rfl 2 rfl ?_
  refine A_getI dX11_program_144 fo_RX11_89 L93 rfl ?_
  refine A_topi (nI b) (rd_a (u2 (rq4 F k x0 x1 x2 x3) 93 12 (nI k)) b (nI z) (by decide)) ?_
  refine A_aload_n dX11_program_147 rfl 2 rfl ?_
  refine A_getI dX11_program_148 fo_RX11_85 L93 rfl ?_
  refine A_topi ((rq4 F k x0 x1 x2 x3) 93 9) ((rd_k (u2 (rq4 F k x0 x1 x2 x3) 93 12 (nI k)) b (nI z) (by decide) (by decide)).trans (by simp [u2, ur, upd])) ?_
  refine A_icmp_lt (tgt := 158) dX11_program_151 rfl (fun h151 => ?_) (fun h151 => ?_)
  · refine A_iconst (v := 0) dX11_program_158 rfl ?_
    refine A_aload_n dX11_program_159 rfl 2 rfl ?_
    refine A_getI dX11_program_160 fo_RX11_89 L93 rfl ?_
    refine A_topi (nI b) (rd_a (u2 (rq4 F k x0 x1 x2 x3) 93 12 (nI k)) b (nI z) (by decide)) ?_
    refine A_callV (M' := MX11_must) [.int 0, .int (nI b)] [] 93 dX11_program_163 lk_RX11_99 oX11_must iX11_must rfl rfl ⟨lb rfl, lb rfl⟩ (lb rfl) ⟨lb rfl, lb rfl⟩ L93 rfl (c_must0 (u2 (rq4 F k x0 x1 x2 x3) 93 12 (nI k)) b (nI z) 0 (nI b) (nI_ge0 (by omega))) ?_
    rintro _ g0 ⟨rfl, hg0⟩
    rw [hg0]
    refine A_sub [1, 2] rfl ?_
    have r := kk (wh F k k x0 x1 x2 x3) b (wh_n ..) (fun j hj => by rw [wh_p, ap4_lo _ _ _ _ _ _ hj]; exact hg j hj) (wh_f hF ..)
    rw [fz_s] at r
    exact r
  · refine A_iconst (v := 1) dX11_program_154 rfl ?_
    refine A_goto (tgt := 159) dX11_program_155 rfl ?_
    refine A_aload_n dX11_program_159 rfl 2 rfl ?_
    refine A_getI dX11_program_160 fo_RX11_89 L93 rfl ?_
    refine A_topi (nI b) (rd_a (u2 (rq4 F k x0 x1 x2 x3) 93 12 (nI k)) b (nI z) (by decide)) ?_
    refine A_callV (M' := MX11_must) [.int 1, .int (nI b)] [] 93 dX11_program_163 lk_RX11_99 oX11_must iX11_must rfl rfl ⟨lb rfl, lb rfl⟩ (lb rfl) ⟨lb rfl, lb rfl⟩ L93 rfl (c_must0 (u2 (rq4 F k x0 x1 x2 x3) 93 12 (nI k)) b (nI z) 1 (nI b) (nI_ge0 (by omega))) ?_
    rintro _ g0 ⟨rfl, hg0⟩
    rw [hg0]
    refine A_sub [1, 2] rfl ?_
    have r := kk (wh F k k x0 x1 x2 x3) b (wh_n ..) (fun j hj => by rw [wh_p, ap4_lo _ _ _ _ _ _ hj]; exact hg j hj) (wh_f hF ..)
    rw [fz_s] at r
    exact r
theorem lc_prS (f : Mem) (tn : Nat) (c : Nat → Nat) (hT : RTp f tn c) (hc : tcW c tn) (hA : RA f) (P : Option Value → Mem → Prop) (F : Mem) (k a t : Nat) (g : Ro) (hk : k < 12) (ha : a ≤ 121) (hn : F 93 12 = nI k) (hg : ∀ j, j < 4 * k → F 100 j = g j) (hF : frQ f F) {q : St} (e : stm c a = .inr q) (he : ¬ (c q.2.2.2.2 = 59 ∧ k + 1 < 12)) (kk : ∀ (F' : Mem) (b' : Nat), F' 93 12 = nI (k + 1) → (∀ j, j < 4 * (k + 1) → F' 100 j = (ap4 g k (nI q.1) q.2.1 q.2.2.1 q.2.2.2.1) j) → frQ f F' → A (cM MX11_program 0 0 layT layT P) 166 [(1, .int (nI t)), (0, .ref 93)] [] (rd 93 10 11 F' b' (fz (if q.2.2.2.2 < tn then q.2.2.2.2 + 1 else 0)))) : A (cM MX11_program 0 0 layT layT P) 50 [(2, .int 1), (1, .int (nI t)), (0, .ref 93)] [] (rd 93 10 11 F a (-1)) := by
  have hq := (stm_r hc e).1
  have h120 := hc.1
  have hT2 : RTp (wh F k (k + 1) (nI q.1) q.2.1 q.2.2.1 q.2.2.2.1) tn c := (wh_f hF k (k + 1) (nI q.1) q.2.1 q.2.2.1 q.2.2.2.1).t hT
  refine A_iload_n dX11_program_50 rfl 0 rfl ?_
  refine A_if_eq (tgt := 142) dX11_program_51 rfl (fun h51 => by exact absurd h51 (by decide)) (fun h51 => ?_)
  refine A_aload_n dX11_program_54 rfl 2 rfl ?_
  refine A_getI dX11_program_55 fo_RX11_92 L93 rfl ?_
  refine A_topi (-1) (rd_z F a (-1)) ?_
  refine A_if_ge (tgt := 142) dX11_program_58 rfl (fun h58 => by exact absurd h58 (by decide)) (fun h58 => ?_)
  refine A_aload_n dX11_program_61 rfl 2 rfl ?_
  refine A_aload_n dX11_program_62 rfl 2 rfl ?_
  refine A_getI dX11_program_63 fo_RX11_136 L93 rfl ?_
  refine A_topi (F 93 12) (rd_k F a (-1) (by decide) (by decide)) ?_
  refine A_topi (nI k) (hn) ?_
  refine A_callV (M' := MX11_statement1) [.int (nI k)] [] 93 dX11_program_66 lk_RX11_139 oX11_statement1 iX11_statement1 rfl rfl ⟨lb rfl, lb rfl⟩ (lb rfl) ⟨lb rfl, lb rfl⟩ L93 rfl (c_stR F tn c (hF.t hT) hc (hF.a hA) a k (by omega) hk e) ?_
  rintro _ g0 ⟨rfl, hg0⟩
  rw [hg0]
  refine A_aload_n dX11_program_69 rfl 2 rfl ?_
  refine A_dup dX11_program_70 rfl ?_
  refine A_getI dX11_program_71 fo_RX11_136 L93 rfl ?_
  refine A_topi ((rq4 F k (nI q.1) q.2.1 q.2.2.1 q.2.2.2.1) 93 12) (rd_k (rq4 F k (nI q.1) q.2.1 q.2.2.1 q.2.2.2.1) q.2.2.2.2 (-1) (by decide) (by decide)) ?_
  refine A_topi (nI k) ((congrFun (rq4_o _ _ _ _ _ _ (by decide)) _).trans hn) ?_
  refine A_aload_n dX11_program_74 rfl 2 rfl ?_
  refine A_getI dX11_program_75 fo_RX11_92 L93 rfl ?_
  refine A_topi (-1) (rd_z (rq4 F k (nI q.1) q.2.1 q.2.2.1 q.2.2.2.1) q.2.2.2.2 (-1)) ?_
  refine A_if_ge (tgt := 85) dX11_program_78 rfl (fun h78 => by exact absurd h78 (by decide)) (fun h78 => ?_)
  refine A_iconst (v := 1) dX11_program_81 rfl ?_
  refine A_goto (tgt := 86) dX11_program_82 rfl ?_
  refine A_iadd dX11_program_86 ?_
  refine A_topi (nI (k + 1)) (nI_succ k).symm ?_
  refine A_putI dX11_program_87 fo_RX11_136 L93 rfl ?_
  refine A_eq rfl rfl (f' := rd 93 10 11 (u2 (rq4 F k (nI q.1) q.2.1 q.2.2.1 q.2.2.2.1) 93 12 (nI (k + 1))) q.2.2.2.2 (-1)) (rd_uk (rq4 F k (nI q.1) q.2.1 q.2.2.1 q.2.2.2.1) q.2.2.2.2 (-1) (nI (k + 1)) (by decide) (by decide)) ?_
  refine A_aload_n dX11_program_90 rfl 2 rfl ?_
  refine A_getI dX11_program_91 fo_RX11_92 L93 rfl ?_
  refine A_topi (-1) (rd_z (u2 (rq4 F k (nI q.1) q.2.1 q.2.2.1 q.2.2.2.1) 93 12 (nI (k + 1))) q.2.2.2.2 (-1)) ?_
  refine A_if_ge (tgt := 119) dX11_program_94 rfl (fun h94 => by exact absurd h94 (by decide)) (fun h94 => ?_)
  refine A_aload_n dX11_program_97 rfl 2 rfl ?_
  refine A_callV (M' := MX11_here) [] [] 93 dX11_program_98 lk_RX11_95 oX11_here iX11_here rfl rfl ⟨lb rfl, lb rfl⟩ (lb rfl) ⟨lb rfl, lb rfl⟩ L93 rfl (c_here (u2 (rq4 F k (nI q.1) q.2.1 q.2.2.1 q.2.2.2.1) 93 12 (nI (k + 1))) tn c hT2 hc q.2.2.2.2 (-1) (by omega)) ?_
  rintro _ g0 ⟨rfl, hg0⟩
  rw [hg0]
  refine A_bipush (v := 59) dX11_program_101 rfl ?_
  refine A_icmp_ne (tgt := 119) dX11_program_103 rfl (fun h103 => ?_) (fun h103 => ?_)
  · refine A_iconst (v := 0) dX11_program_119 rfl ?_
    refine A_istore_n (lv' := [(2, .int 0), (1, .int (nI t)), (0, .ref 93)]) dX11_program_120 rfl (lb rfl) rfl ?_
    refine A_aload_n dX11_program_121 rfl 2 rfl ?_
    refine A_dup dX11_program_122 rfl ?_
    refine A_getI dX11_program_123 fo_RX11_89 L93 rfl ?_
    refine A_topi (nI q.2.2.2.2) (rd_a (u2 (rq4 F k (nI q.1) q.2.1 q.2.2.1 q.2.2.2.1) 93 12 (nI (k + 1))) q.2.2.2.2 (-1) (by decide)) ?_
    refine A_iload_n dX11_program_126 rfl 0 rfl ?_
    refine A_if_eq (tgt := 134) dX11_program_127 rfl (fun h127 => ?_) (fun h127 => by exact absurd rfl h127)
    refine A_iconst (v := 0) dX11_program_134 rfl ?_
    refine A_iadd dX11_program_135 ?_
    refine A_putI dX11_program_136 fo_RX11_89 L93 rfl ?_
    refine A_eq rfl rfl (f' := rd 93 10 11 (u2 (rq4 F k (nI q.1) q.2.1 q.2.2.1 q.2.2.2.1) 93 12 (nI (k + 1))) q.2.2.2.2 (-1)) (rd_ua (u2 (rq4 F k (nI q.1) q.2.1 q.2.2.1 q.2.2.2.1) 93 12 (nI (k + 1))) q.2.2.2.2 q.2.2.2.2 (-1) (by decide) (by simp only [lit, nI_add, pk_mul, Nat.add_zero])) ?_
    refine A_goto (tgt := 50) dX11_program_139 rfl ?_
    refine A_iload_n dX11_program_50 rfl 0 rfl ?_
    refine A_if_eq (tgt := 142) dX11_program_51 rfl (fun h51 => ?_) (fun h51 => by exact absurd rfl h51)
    refine A_aload_n dX11_program_142 rfl 2 rfl ?_
    refine A_aload_n dX11_program_143 rfl 2 rfl ?_
    refine A_getI dX11_program_144 fo_RX11_89 L93 rfl ?_
    refine A_topi (nI q.2.2.2.2) (rd_a (u2 (rq4 F k (nI q.1) q.2.1 q.2.2.1 q.2.2.2.1) 93 12 (nI (k + 1))) q.2.2.2.2 (-1) (by decide)) ?_
    refine A_aload_n dX11_program_147 rfl 2 rfl ?_
    refine A_getI dX11_program_148 fo_RX11_85 L93 rfl ?_
    refine A_topi ((rq4 F k (nI q.1) q.2.1 q.2.2.1 q.2.2.2.1) 93 9) ((rd_k (u2 (rq4 F k (nI q.1) q.2.1 q.2.2.1 q.2.2.2.1) 93 12 (nI (k + 1))) q.2.2.2.2 (-1) (by decide) (by decide)).trans (by simp [u2, ur, upd])) ?_
    refine A_topi (nI tn) (((congrFun (rq4_o _ _ _ _ _ _ (by decide)) _).trans (hF.2 9 (by decide) (by decide) (by decide))).trans hT.1) ?_
    refine A_icmp_lt (tgt := 158) dX11_program_151 rfl (fun h151 => ?_) (fun h151 => ?_)
    · rw [nI_ltI (by omega) (by omega)] at h151
      refine A_iconst (v := 0) dX11_program_158 rfl ?_
      refine A_aload_n dX11_program_159 rfl 2 rfl ?_
      refine A_getI dX11_program_160 fo_RX11_89 L93 rfl ?_
      refine A_topi (nI q.2.2.2.2) (rd_a (u2 (rq4 F k (nI q.1) q.2.1 q.2.2.1 q.2.2.2.1) 93 12 (nI (k + 1))) q.2.2.2.2 (-1) (by decide)) ?_
      refine A_callV (M' := MX11_must) [.int 0, .int (nI q.2.2.2.2)] [] 93 dX11_program_163 lk_RX11_99 oX11_must iX11_must rfl rfl ⟨lb rfl, lb rfl⟩ (lb rfl) ⟨lb rfl, lb rfl⟩ L93 rfl (c_must2 (u2 (rq4 F k (nI q.1) q.2.1 q.2.2.1 q.2.2.2.1) 93 12 (nI (k + 1))) q.2.2.2.2 0 (nI q.2.2.2.2) rfl) ?_
      rintro _ g0 ⟨rfl, hg0⟩
      rw [hg0]
      refine A_sub [1, 2] rfl ?_
      have r := kk (wh F k (k + 1) (nI q.1) q.2.1 q.2.2.1 q.2.2.2.1) q.2.2.2.2 (wh_n ..) (fun j hj => by rw [wh_p]; exact ap4_c _ _ _ _ hg j hj) (wh_f hF ..)
      rw [if_pos (by omega), fz_s] at r
      exact r
    · rw [nI_ltI (by omega) (by omega)] at h151
      refine A_iconst (v := 1) dX11_program_154 rfl ?_
      refine A_goto (tgt := 159) dX11_program_155 rfl ?_
      refine A_aload_n dX11_program_159 rfl 2 rfl ?_
      refine A_getI dX11_program_160 fo_RX11_89 L93 rfl ?_
      refine A_topi (nI q.2.2.2.2) (rd_a (u2 (rq4 F k (nI q.1) q.2.1 q.2.2.1 q.2.2.2.1) 93 12 (nI (k + 1))) q.2.2.2.2 (-1) (by decide)) ?_
      refine A_callV (M' := MX11_must) [.int 1, .int (nI q.2.2.2.2)] [] 93 dX11_program_163 lk_RX11_99 oX11_must iX11_must rfl rfl ⟨lb rfl, lb rfl⟩ (lb rfl) ⟨lb rfl, lb rfl⟩ L93 rfl (c_must1 (u2 (rq4 F k (nI q.1) q.2.1 q.2.2.1 q.2.2.2.1) 93 12 (nI (k + 1))) q.2.2.2.2 1 (nI q.2.2.2.2) (by decide)) ?_
      rintro _ g0 ⟨rfl, hg0⟩
      rw [hg0]
      refine A_sub [1, 2] rfl ?_
      have r := kk (wh F k (k + 1) (nI q.1) q.2.1 q.2.2.1 q.2.2.2.1) q.2.2.2.2 (wh_n ..) (fun j hj => by rw [wh_p]; exact ap4_c _ _ _ _ hg j hj) (wh_f hF ..)
      rw [if_neg (by omega), fz_0] at r
      exact r
  · refine A_aload_n dX11_program_106 rfl 2 rfl ?_
    refine A_getI dX11_program_107 fo_RX11_136 L93 rfl ?_
    refine A_topi (nI (k + 1)) ((rd_k (u2 (rq4 F k (nI q.1) q.2.1 q.2.2.1 q.2.2.2.1) 93 12 (nI (k + 1))) q.2.2.2.2 (-1) (by decide) (by decide)).trans (by simp [u2, ur, upd])) ?_
    refine A_bipush (v := 12) dX11_program_110 rfl ?_
    refine A_icmp_ge (tgt := 119) dX11_program_112 rfl (fun h112 => ?_) (fun h112 => by exact absurd ⟨(hV_59 _ (by have := hc.2.2.2 q.2.2.2.2; omega)).mp h103, Nat.not_le.mp (fun z => h112 (by rw [show (12 : Int32) = nI 12 from rfl, nI_leI (by omega) (by omega)]; exact z))⟩ he)
    refine A_iconst (v := 0) dX11_program_119 rfl ?_
    refine A_istore_n (lv' := [(2, .int 0), (1, .int (nI t)), (0, .ref 93)]) dX11_program_120 rfl (lb rfl) rfl ?_
    refine A_aload_n dX11_program_121 rfl 2 rfl ?_
    refine A_dup dX11_program_122 rfl ?_
    refine A_getI dX11_program_123 fo_RX11_89 L93 rfl ?_
    refine A_topi (nI q.2.2.2.2) (rd_a (u2 (rq4 F k (nI q.1) q.2.1 q.2.2.1 q.2.2.2.1) 93 12 (nI (k + 1))) q.2.2.2.2 (-1) (by decide)) ?_
    refine A_iload_n dX11_program_126 rfl 0 rfl ?_
    refine A_if_eq (tgt := 134) dX11_program_127 rfl (fun h127 => ?_) (fun h127 => by exact absurd rfl h127)
    refine A_iconst (v := 0) dX11_program_134 rfl ?_
    refine A_iadd dX11_program_135 ?_
    refine A_putI dX11_program_136 fo_RX11_89 L93 rfl ?_
    refine A_eq rfl rfl (f' := rd 93 10 11 (u2 (rq4 F k (nI q.1) q.2.1 q.2.2.1 q.2.2.2.1) 93 12 (nI (k + 1))) q.2.2.2.2 (-1)) (rd_ua (u2 (rq4 F k (nI q.1) q.2.1 q.2.2.1 q.2.2.2.1) 93 12 (nI (k + 1))) q.2.2.2.2 q.2.2.2.2 (-1) (by decide) (by simp only [lit, nI_add, pk_mul, Nat.add_zero])) ?_
    refine A_goto (tgt := 50) dX11_program_139 rfl ?_
    refine A_iload_n dX11_program_50 rfl 0 rfl ?_
    refine A_if_eq (tgt := 142) dX11_program_51 rfl (fun h51 => ?_) (fun h51 => by exact absurd rfl h51)
    refine A_aload_n dX11_program_142 rfl 2 rfl ?_
    refine A_aload_n dX11_program_143 rfl 2 rfl ?_
    refine A_getI dX11_program_144 fo_RX11_89 L93 rfl ?_
    refine A_topi (nI q.2.2.2.2) (rd_a (u2 (rq4 F k (nI q.1) q.2.1 q.2.2.1 q.2.2.2.1) 93 12 (nI (k + 1))) q.2.2.2.2 (-1) (by decide)) ?_
    refine A_aload_n dX11_program_147 rfl 2 rfl ?_
    refine A_getI dX11_program_148 fo_RX11_85 L93 rfl ?_
    refine A_topi ((rq4 F k (nI q.1) q.2.1 q.2.2.1 q.2.2.2.1) 93 9) ((rd_k (u2 (rq4 F k (nI q.1) q.2.1 q.2.2.1 q.2.2.2.1) 93 12 (nI (k + 1))) q.2.2.2.2 (-1) (by decide) (by decide)).trans (by simp [u2, ur, upd])) ?_
    refine A_topi (nI tn) (((congrFun (rq4_o _ _ _ _ _ _ (by decide)) _).trans (hF.2 9 (by decide) (by decide) (by decide))).trans hT.1) ?_
    refine A_icmp_lt (tgt := 158) dX11_program_151 rfl (fun h151 => ?_) (fun h151 => ?_)
    · rw [nI_ltI (by omega) (by omega)] at h151
      refine A_iconst (v := 0) dX11_program_158 rfl ?_
      refine A_aload_n dX11_program_159 rfl 2 rfl ?_
      refine A_getI dX11_program_160 fo_RX11_89 L93 rfl ?_
      refine A_topi (nI q.2.2.2.2) (rd_a (u2 (rq4 F k (nI q.1) q.2.1 q.2.2.1 q.2.2.2.1) 93 12 (nI (k + 1))) q.2.2.2.2 (-1) (by decide)) ?_
      refine A_callV (M' := MX11_must) [.int 0, .int (nI q.2.2.2.2)] [] 93 dX11_program_163 lk_RX11_99 oX11_must iX11_must rfl rfl ⟨lb rfl, lb rfl⟩ (lb rfl) ⟨lb rfl, lb rfl⟩ L93 rfl (c_must2 (u2 (rq4 F k (nI q.1) q.2.1 q.2.2.1 q.2.2.2.1) 93 12 (nI (k + 1))) q.2.2.2.2 0 (nI q.2.2.2.2) rfl) ?_
      rintro _ g0 ⟨rfl, hg0⟩
      rw [hg0]
      refine A_sub [1, 2] rfl ?_
      have r := kk (wh F k (k + 1) (nI q.1) q.2.1 q.2.2.1 q.2.2.2.1) q.2.2.2.2 (wh_n ..) (fun j hj => by rw [wh_p]; exact ap4_c _ _ _ _ hg j hj) (wh_f hF ..)
      rw [if_pos (by omega), fz_s] at r
      exact r
    · rw [nI_ltI (by omega) (by omega)] at h151
      refine A_iconst (v := 1) dX11_program_154 rfl ?_
      refine A_goto (tgt := 159) dX11_program_155 rfl ?_
      refine A_aload_n dX11_program_159 rfl 2 rfl ?_
      refine A_getI dX11_program_160 fo_RX11_89 L93 rfl ?_
      refine A_topi (nI q.2.2.2.2) (rd_a (u2 (rq4 F k (nI q.1) q.2.1 q.2.2.1 q.2.2.2.1) 93 12 (nI (k + 1))) q.2.2.2.2 (-1) (by decide)) ?_
      refine A_callV (M' := MX11_must) [.int 1, .int (nI q.2.2.2.2)] [] 93 dX11_program_163 lk_RX11_99 oX11_must iX11_must rfl rfl ⟨lb rfl, lb rfl⟩ (lb rfl) ⟨lb rfl, lb rfl⟩ L93 rfl (c_must1 (u2 (rq4 F k (nI q.1) q.2.1 q.2.2.1 q.2.2.2.1) 93 12 (nI (k + 1))) q.2.2.2.2 1 (nI q.2.2.2.2) (by decide)) ?_
      rintro _ g0 ⟨rfl, hg0⟩
      rw [hg0]
      refine A_sub [1, 2] rfl ?_
      have r := kk (wh F k (k + 1) (nI q.1) q.2.1 q.2.2.1 q.2.2.2.1) q.2.2.2.2 (wh_n ..) (fun j hj => by rw [wh_p]; exact ap4_c _ _ _ _ hg j hj) (wh_f hF ..)
      rw [if_neg (by omega), fz_0] at r
      exact r
theorem lc_prG (f : Mem) (tn : Nat) (c : Nat → Nat) (hT : RTp f tn c) (hc : tcW c tn) (hA : RA f) (P : Option Value → Mem → Prop) (F : Mem) (k a t : Nat) (g : Ro) (hk : k < 12) (ha : a ≤ 121) (hn : F 93 12 = nI k) (hg : ∀ j, j < 4 * k → F 100 j = g j) (hF : frQ f F) {q : St} (e : stm c a = .inr q) (he : c q.2.2.2.2 = 59 ∧ k + 1 < 12) (k2 : A (cM MX11_program 0 0 layT layT P) 50 [(2, .int 1), (1, .int (nI t)), (0, .ref 93)] [] (rd 93 10 11 (wh F k (k + 1) (nI q.1) q.2.1 q.2.2.1 q.2.2.2.1) (q.2.2.2.2 + 1) (-1))) : A (cM MX11_program 0 0 layT layT P) 50 [(2, .int 1), (1, .int (nI t)), (0, .ref 93)] [] (rd 93 10 11 F a (-1)) := by
  have hq := (stm_r hc e).1
  have h120 := hc.1
  have hT2 : RTp (wh F k (k + 1) (nI q.1) q.2.1 q.2.2.1 q.2.2.2.1) tn c := (wh_f hF k (k + 1) (nI q.1) q.2.1 q.2.2.1 q.2.2.2.1).t hT
  refine A_iload_n dX11_program_50 rfl 0 rfl ?_
  refine A_if_eq (tgt := 142) dX11_program_51 rfl (fun h51 => by exact absurd h51 (by decide)) (fun h51 => ?_)
  refine A_aload_n dX11_program_54 rfl 2 rfl ?_
  refine A_getI dX11_program_55 fo_RX11_92 L93 rfl ?_
  refine A_topi (-1) (rd_z F a (-1)) ?_
  refine A_if_ge (tgt := 142) dX11_program_58 rfl (fun h58 => by exact absurd h58 (by decide)) (fun h58 => ?_)
  refine A_aload_n dX11_program_61 rfl 2 rfl ?_
  refine A_aload_n dX11_program_62 rfl 2 rfl ?_
  refine A_getI dX11_program_63 fo_RX11_136 L93 rfl ?_
  refine A_topi (F 93 12) (rd_k F a (-1) (by decide) (by decide)) ?_
  refine A_topi (nI k) (hn) ?_
  refine A_callV (M' := MX11_statement1) [.int (nI k)] [] 93 dX11_program_66 lk_RX11_139 oX11_statement1 iX11_statement1 rfl rfl ⟨lb rfl, lb rfl⟩ (lb rfl) ⟨lb rfl, lb rfl⟩ L93 rfl (c_stR F tn c (hF.t hT) hc (hF.a hA) a k (by omega) hk e) ?_
  rintro _ g0 ⟨rfl, hg0⟩
  rw [hg0]
  refine A_aload_n dX11_program_69 rfl 2 rfl ?_
  refine A_dup dX11_program_70 rfl ?_
  refine A_getI dX11_program_71 fo_RX11_136 L93 rfl ?_
  refine A_topi ((rq4 F k (nI q.1) q.2.1 q.2.2.1 q.2.2.2.1) 93 12) (rd_k (rq4 F k (nI q.1) q.2.1 q.2.2.1 q.2.2.2.1) q.2.2.2.2 (-1) (by decide) (by decide)) ?_
  refine A_topi (nI k) ((congrFun (rq4_o _ _ _ _ _ _ (by decide)) _).trans hn) ?_
  refine A_aload_n dX11_program_74 rfl 2 rfl ?_
  refine A_getI dX11_program_75 fo_RX11_92 L93 rfl ?_
  refine A_topi (-1) (rd_z (rq4 F k (nI q.1) q.2.1 q.2.2.1 q.2.2.2.1) q.2.2.2.2 (-1)) ?_
  refine A_if_ge (tgt := 85) dX11_program_78 rfl (fun h78 => by exact absurd h78 (by decide)) (fun h78 => ?_)
  refine A_iconst (v := 1) dX11_program_81 rfl ?_
  refine A_goto (tgt := 86) dX11_program_82 rfl ?_
  refine A_iadd dX11_program_86 ?_
  refine A_topi (nI (k + 1)) (nI_succ k).symm ?_
  refine A_putI dX11_program_87 fo_RX11_136 L93 rfl ?_
  refine A_eq rfl rfl (f' := rd 93 10 11 (u2 (rq4 F k (nI q.1) q.2.1 q.2.2.1 q.2.2.2.1) 93 12 (nI (k + 1))) q.2.2.2.2 (-1)) (rd_uk (rq4 F k (nI q.1) q.2.1 q.2.2.1 q.2.2.2.1) q.2.2.2.2 (-1) (nI (k + 1)) (by decide) (by decide)) ?_
  refine A_aload_n dX11_program_90 rfl 2 rfl ?_
  refine A_getI dX11_program_91 fo_RX11_92 L93 rfl ?_
  refine A_topi (-1) (rd_z (u2 (rq4 F k (nI q.1) q.2.1 q.2.2.1 q.2.2.2.1) 93 12 (nI (k + 1))) q.2.2.2.2 (-1)) ?_
  refine A_if_ge (tgt := 119) dX11_program_94 rfl (fun h94 => by exact absurd h94 (by decide)) (fun h94 => ?_)
  refine A_aload_n dX11_program_97 rfl 2 rfl ?_
  refine A_callV (M' := MX11_here) [] [] 93 dX11_program_98 lk_RX11_95 oX11_here iX11_here rfl rfl ⟨lb rfl, lb rfl⟩ (lb rfl) ⟨lb rfl, lb rfl⟩ L93 rfl (c_here (u2 (rq4 F k (nI q.1) q.2.1 q.2.2.1 q.2.2.2.1) 93 12 (nI (k + 1))) tn c hT2 hc q.2.2.2.2 (-1) (by omega)) ?_
  rintro _ g0 ⟨rfl, hg0⟩
  rw [hg0]
  refine A_bipush (v := 59) dX11_program_101 rfl ?_
  refine A_icmp_ne (tgt := 119) dX11_program_103 rfl (fun h103 => by exact absurd ((hV_59 _ (by have := hc.2.2.2 q.2.2.2.2; omega)).mpr he.1) h103) (fun h103 => ?_)
  refine A_aload_n dX11_program_106 rfl 2 rfl ?_
  refine A_getI dX11_program_107 fo_RX11_136 L93 rfl ?_
  refine A_topi (nI (k + 1)) ((rd_k (u2 (rq4 F k (nI q.1) q.2.1 q.2.2.1 q.2.2.2.1) 93 12 (nI (k + 1))) q.2.2.2.2 (-1) (by decide) (by decide)).trans (by simp [u2, ur, upd])) ?_
  refine A_bipush (v := 12) dX11_program_110 rfl ?_
  refine A_icmp_ge (tgt := 119) dX11_program_112 rfl (fun h112 => by exact absurd h112 (fun z => by rw [show (12 : Int32) = nI 12 from rfl, nI_leI (by omega) (by omega)] at z; omega)) (fun h112 => ?_)
  refine A_iconst (v := 1) dX11_program_115 rfl ?_
  refine A_goto (tgt := 120) dX11_program_116 rfl ?_
  refine A_istore_n (lv' := [(2, .int 1), (1, .int (nI t)), (0, .ref 93)]) dX11_program_120 rfl (lb rfl) rfl ?_
  refine A_aload_n dX11_program_121 rfl 2 rfl ?_
  refine A_dup dX11_program_122 rfl ?_
  refine A_getI dX11_program_123 fo_RX11_89 L93 rfl ?_
  refine A_topi (nI q.2.2.2.2) (rd_a (u2 (rq4 F k (nI q.1) q.2.1 q.2.2.1 q.2.2.2.1) 93 12 (nI (k + 1))) q.2.2.2.2 (-1) (by decide)) ?_
  refine A_iload_n dX11_program_126 rfl 0 rfl ?_
  refine A_if_eq (tgt := 134) dX11_program_127 rfl (fun h127 => by exact absurd h127 (by decide)) (fun h127 => ?_)
  refine A_iconst (v := 1) dX11_program_130 rfl ?_
  refine A_goto (tgt := 135) dX11_program_131 rfl ?_
  refine A_iadd dX11_program_135 ?_
  refine A_putI dX11_program_136 fo_RX11_89 L93 rfl ?_
  refine A_eq rfl rfl (f' := rd 93 10 11 (u2 (rq4 F k (nI q.1) q.2.1 q.2.2.1 q.2.2.2.1) 93 12 (nI (k + 1))) (q.2.2.2.2 + 1) (-1)) (rd_ua (u2 (rq4 F k (nI q.1) q.2.1 q.2.2.1 q.2.2.2.1) 93 12 (nI (k + 1))) q.2.2.2.2 (q.2.2.2.2 + 1) (-1) (by decide) (by simp only [lit, nI_add, pk_mul, Nat.add_zero])) ?_
  refine A_goto (tgt := 50) dX11_program_139 rfl ?_
  refine A_sub [0, 1, 2] rfl ?_
  exact k2
theorem lc_pr (f : Mem) (tn : Nat) (c : Nat → Nat) (hT : RTp f tn c) (hc : tcW c tn) (hA : RA f) (P : Option Value → Mem → Prop) (t : Nat) : ∀ (n k a : Nat) (g : Ro) (F : Mem) (R : Nat × Nat × Ro), prg c tn (n + 1) k a g = R → n + 1 + k = 12 → a ≤ 121 → F 93 12 = nI k → (∀ j, j < 4 * k → F 100 j = g j) → frQ f F →
    ( ∀ (F' : Mem) (b' : Nat), F' 93 12 = nI R.2.1 → (∀ j, j < 4 * R.2.1 → F' 100 j = R.2.2 j) → frQ f F' → A (cM MX11_program 0 0 layT layT P) 166 [(1, .int (nI t)), (0, .ref 93)] [] (rd 93 10 11 F' b' (fz R.1))) →
    A (cM MX11_program 0 0 layT layT P) 50 [(2, .int 1), (1, .int (nI t)), (0, .ref 93)] [] (rd 93 10 11 F a (-1))
  | n, k, a, g, F, R, hR, hk, ha, hn, hg, hF, kk => by
    unfold prg at hR
    cases e : stm c a with
    | inl z => rw [e] at hR; subst hR; exact lc_prL f tn c hT hc hA P F k a t g (by omega) ha hn hg hF e kk
    | inr q =>
      rw [e] at hR; dsimp only at hR
      have hq := (stm_r hc e).1
      have h120 := hc.1
      by_cases he : c q.2.2.2.2 = 59 ∧ k + 1 < 12
      · rw [if_pos he] at hR
        obtain ⟨n', rfl⟩ : ∃ n', n = n' + 1 := ⟨n - 1, by omega⟩
        refine lc_prG f tn c hT hc hA P F k a t g (by omega) ha hn hg hF e he ?_
        exact lc_pr f tn c hT hc hA P t n' (k + 1) (q.2.2.2.2 + 1) _ _ R hR (by omega) (by omega) (wh_n ..) (fun j hj => by rw [wh_p]; exact ap4_c _ _ _ _ hg j hj) (wh_f hF ..) kk
      · rw [if_neg he] at hR; subst hR
        exact lc_prS f tn c hT hc hA P F k a t g (by omega) ha hn hg hF e he kk
