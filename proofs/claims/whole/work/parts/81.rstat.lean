/-! the reference reads a statement -/
theorem in_57 : ∀ w, w < 10 → ((Int64.toInt 5 ≤ (nI w).toInt64.toInt ∧ (nI w).toInt64.toInt ≤ Int64.toInt 7) ↔ (5 ≤ w ∧ w ≤ 7)) := by decide +kernel
def rq4 (f : Mem) (k : Nat) (x0 x1 x2 x3 : Int32) : Mem := u2 (u2 (u2 (u2 f 100 (4 * k) x0) 100 (4 * k + 1) x1) 100 (4 * k + 2) x2) 100 (4 * k + 3) x3
theorem c_n3L (f : Mem) (tn : Nat) (c : Nat → Nat) (hT : RTp f tn c) (hc : tcW c tn) (a : Nat) (ha : a < 2 ^ 28) {z : Nat} (e : nu 1 2 c a = .inl z) : C0 MX11_number [.ref 93, .int 1, .int 2, .int 0] (rd 93 10 11 f a (-1)) (fun r h => ∃ (x : Int32) (b : Nat), r = some (.int x) ∧ h = rd 93 10 11 f b (nI z)) := by
  have t := c_n3 f tn c hT hc a ha
  rw [e] at t
  exact t
theorem c_n3R (f : Mem) (tn : Nat) (c : Nat → Nat) (hT : RTp f tn c) (hc : tcW c tn) (a : Nat) (ha : a < 2 ^ 28) {q : Int32 × Nat} (e : nu 1 2 c a = .inr q) : C0 MX11_number [.ref 93, .int 1, .int 2, .int 0] (rd 93 10 11 f a (-1)) (rt (some (.int q.1)) (rd 93 10 11 f q.2 (-1))) := by
  have t := c_n3 f tn c hT hc a ha
  rw [e] at t
  exact t
theorem c_n4L (f : Mem) (tn : Nat) (c : Nat → Nat) (hT : RTp f tn c) (hc : tcW c tn) (a : Nat) (ha : a < 2 ^ 28) {z : Nat} (e : nu 1 3 c a = .inl z) : C0 MX11_number [.ref 93, .int 1, .int 3, .int 0] (rd 93 10 11 f a (-1)) (fun r h => ∃ (x : Int32) (b : Nat), r = some (.int x) ∧ h = rd 93 10 11 f b (nI z)) := by
  have t := c_n4 f tn c hT hc a ha
  rw [e] at t
  exact t
theorem c_n4R (f : Mem) (tn : Nat) (c : Nat → Nat) (hT : RTp f tn c) (hc : tcW c tn) (a : Nat) (ha : a < 2 ^ 28) {q : Int32 × Nat} (e : nu 1 3 c a = .inr q) : C0 MX11_number [.ref 93, .int 1, .int 3, .int 0] (rd 93 10 11 f a (-1)) (rt (some (.int q.1)) (rd 93 10 11 f q.2 (-1))) := by
  have t := c_n4 f tn c hT hc a ha
  rw [e] at t
  exact t
theorem c_ntL (f : Mem) (tn : Nat) (c : Nat → Nat) (hT : RTp f tn c) (hc : tcW c tn) (a : Nat) (ha : a < 2 ^ 28) {z : Nat} (e : nu 2 12 c a = .inl z) : C0 MX11_number [.ref 93, .int 2, .int 12, .int 0] (rd 93 10 11 f a (-1)) (fun r h => ∃ (x : Int32) (b : Nat), r = some (.int x) ∧ h = rd 93 10 11 f b (nI z)) := by
  have t := c_nt f tn c hT hc a ha
  rw [e] at t
  exact t
theorem c_ntR (f : Mem) (tn : Nat) (c : Nat → Nat) (hT : RTp f tn c) (hc : tcW c tn) (a : Nat) (ha : a < 2 ^ 28) {q : Int32 × Nat} (e : nu 2 12 c a = .inr q) : C0 MX11_number [.ref 93, .int 2, .int 12, .int 0] (rd 93 10 11 f a (-1)) (rt (some (.int q.1)) (rd 93 10 11 f q.2 (-1))) := by
  have t := c_nt f tn c hT hc a ha
  rw [e] at t
  exact t
theorem c_nSL (f : Mem) (tn : Nat) (c : Nat → Nat) (hT : RTp f tn c) (hc : tcW c tn) (a : Nat) (ha : a < 2 ^ 28) {z : Nat} (e : nuS c a = .inl z) : C0 MX11_number [.ref 93, .int 2, .int 99, .int 1] (rd 93 10 11 f a (-1)) (fun r h => ∃ (x : Int32) (b : Nat), r = some (.int x) ∧ h = rd 93 10 11 f b (nI z)) := by
  have t := c_nS f tn c hT hc a ha
  rw [e] at t
  exact t
theorem c_nSR (f : Mem) (tn : Nat) (c : Nat → Nat) (hT : RTp f tn c) (hc : tcW c tn) (a : Nat) (ha : a < 2 ^ 28) {q : Int32 × Nat} (e : nuS c a = .inr q) : C0 MX11_number [.ref 93, .int 2, .int 99, .int 1] (rd 93 10 11 f a (-1)) (rt (some (.int q.1)) (rd 93 10 11 f q.2 (-1))) := by
  have t := c_nS f tn c hT hc a ha
  rw [e] at t
  exact t
theorem c_st9 (f : Mem) (tn : Nat) (c : Nat → Nat) (hT : RTp f tn c) (hc : tcW c tn) (a k W E : Nat) (ha : a < 2 ^ 27) (hE : E < 2 ^ 27 + 200) (hk : k < 12) (hR : C0 MX11_word [.ref 93] (rd 93 10 11 f a (-1)) (rt (some (.int (-1))) (rd 93 10 11 f E (nI a)))) : C0 MX11_statement1 [.ref 93, .int (nI k)] (rd 93 10 11 f a (-1)) (fun r h => r = none ∧ ∃ (b : Nat) (x0 x1 x2 x3 : Int32), h = rd 93 10 11 (rq4 f k x0 x1 x2 x3) b (nI a)) := by
  refine Ct.of (lv := [(0, .ref 93), (1, .int (nI k))]) (by decide) (lb rfl) rfl ?_
  refine A_aload_n dX11_statement1_0 rfl 0 rfl ?_
  refine A_callV (M' := MX11_word) [] [] 93 dX11_statement1_1 lk_RX11_119 oX11_word iX11_word rfl rfl ⟨lb rfl, lb rfl⟩ (lb rfl) ⟨lb rfl, lb rfl⟩ L93 rfl (hR) ?_
  rintro _ g0 ⟨rfl, hg0⟩
  rw [hg0]
  refine A_istore_n (lv' := [(2, .int (-1)), (0, .ref 93), (1, .int (nI k))]) dX11_statement1_4 rfl (lb rfl) rfl ?_
  refine A_aload_n dX11_statement1_5 rfl 1 rfl ?_
  refine A_getI dX11_statement1_6 fo_RX11_92 L93 rfl ?_
  refine A_topi (nI a) (rd_z f E (nI a)) ?_
  refine A_if_lt (tgt := 16) dX11_statement1_9 rfl (fun h9 => by exact absurd h9 (nI_nneg (by omega))) (fun h9 => ?_)
  refine A_iconst (v := 0) dX11_statement1_12 rfl ?_
  refine A_goto (tgt := 55) dX11_statement1_13 rfl ?_
  refine A_istore_n (lv' := [(3, .int 0), (2, .int (-1)), (0, .ref 93), (1, .int (nI k))]) dX11_statement1_55 rfl (lb rfl) rfl ?_
  refine A_aload_n dX11_statement1_56 rfl 2 rfl ?_
  refine A_getI dX11_statement1_57 fo_RX11_92 L93 rfl ?_
  refine A_topi (nI a) (rd_z f E (nI a)) ?_
  refine A_if_ge (tgt := 88) dX11_statement1_60 rfl (fun h60 => ?_) (fun h60 => by exact absurd (nI_ge0 (by omega)) h60)
  refine A_iconst (v := 0) dX11_statement1_88 rfl ?_
  refine A_istore (lv' := [(4, .int 0), (3, .int 0), (2, .int (-1)), (0, .ref 93), (1, .int (nI k))]) dX11_statement1_89 (lb rfl) rfl ?_
  refine A_aload_n dX11_statement1_91 rfl 3 rfl ?_
  refine A_getI dX11_statement1_92 fo_RX11_92 L93 rfl ?_
  refine A_topi (nI a) (rd_z f E (nI a)) ?_
  refine A_if_ge (tgt := 115) dX11_statement1_95 rfl (fun h95 => ?_) (fun h95 => by exact absurd (nI_ge0 (by omega)) h95)
  refine A_iconst (v := 0) dX11_statement1_115 rfl ?_
  refine A_istore (lv' := [(5, .int 0), (4, .int 0), (3, .int 0), (2, .int (-1)), (0, .ref 93), (1, .int (nI k))]) dX11_statement1_116 (lb rfl) rfl ?_
  refine A_aload_n dX11_statement1_118 rfl 4 rfl ?_
  refine A_getR (b := 100) dX11_statement1_119 fo_RX11_28 L93 rfl ?_
  refine A_iconst (v := 4) dX11_statement1_122 rfl ?_
  refine A_iload_n dX11_statement1_123 rfl 5 rfl ?_
  refine A_imul dX11_statement1_124 ?_
  refine A_iload_n dX11_statement1_125 rfl 3 rfl ?_
  refine A_iastore (4 * k) dX11_statement1_126 L100 (by simp only [lit, nI_add, pk_mul]) (by omega) (lb rfl) ?_
  refine A_eq rfl rfl (f' := rd 93 10 11 (u2 f 100 (4 * k) (-1)) E (nI a)) (rd_uo f E (nI a) (-1) (by decide)) ?_
  refine A_aload_n dX11_statement1_127 rfl 4 rfl ?_
  refine A_getR (b := 100) dX11_statement1_128 fo_RX11_28 L93 rfl ?_
  refine A_iconst (v := 4) dX11_statement1_131 rfl ?_
  refine A_iload_n dX11_statement1_132 rfl 5 rfl ?_
  refine A_imul dX11_statement1_133 ?_
  refine A_iconst (v := 1) dX11_statement1_134 rfl ?_
  refine A_iadd dX11_statement1_135 ?_
  refine A_iload_n dX11_statement1_136 rfl 2 rfl ?_
  refine A_iastore (4 * k + 1) dX11_statement1_137 L100 (by simp only [lit, nI_add, pk_mul]) (by omega) (lb rfl) ?_
  refine A_eq rfl rfl (f' := rd 93 10 11 (u2 (u2 f 100 (4 * k) (-1)) 100 (4 * k + 1) 0) E (nI a)) (rd_uo (u2 f 100 (4 * k) (-1)) E (nI a) 0 (by decide)) ?_
  refine A_aload_n dX11_statement1_138 rfl 4 rfl ?_
  refine A_getR (b := 100) dX11_statement1_139 fo_RX11_28 L93 rfl ?_
  refine A_iconst (v := 4) dX11_statement1_142 rfl ?_
  refine A_iload_n dX11_statement1_143 rfl 5 rfl ?_
  refine A_imul dX11_statement1_144 ?_
  refine A_iconst (v := 2) dX11_statement1_145 rfl ?_
  refine A_iadd dX11_statement1_146 ?_
  refine A_iload dX11_statement1_147 1 rfl ?_
  refine A_iastore (4 * k + 2) dX11_statement1_149 L100 (by simp only [lit, nI_add, pk_mul]) (by omega) (lb rfl) ?_
  refine A_eq rfl rfl (f' := rd 93 10 11 (u2 (u2 (u2 f 100 (4 * k) (-1)) 100 (4 * k + 1) 0) 100 (4 * k + 2) 0) E (nI a)) (rd_uo (u2 (u2 f 100 (4 * k) (-1)) 100 (4 * k + 1) 0) E (nI a) 0 (by decide)) ?_
  refine A_aload_n dX11_statement1_150 rfl 4 rfl ?_
  refine A_getR (b := 100) dX11_statement1_151 fo_RX11_28 L93 rfl ?_
  refine A_iconst (v := 4) dX11_statement1_154 rfl ?_
  refine A_iload_n dX11_statement1_155 rfl 5 rfl ?_
  refine A_imul dX11_statement1_156 ?_
  refine A_iconst (v := 3) dX11_statement1_157 rfl ?_
  refine A_iadd dX11_statement1_158 ?_
  refine A_iload dX11_statement1_159 0 rfl ?_
  refine A_iastore (4 * k + 3) dX11_statement1_161 L100 (by simp only [lit, nI_add, pk_mul]) (by omega) (lb rfl) ?_
  refine A_eq rfl rfl (f' := rd 93 10 11 (u2 (u2 (u2 (u2 f 100 (4 * k) (-1)) 100 (4 * k + 1) 0) 100 (4 * k + 2) 0) 100 (4 * k + 3) 0) E (nI a)) (rd_uo (u2 (u2 (u2 f 100 (4 * k) (-1)) 100 (4 * k + 1) 0) 100 (4 * k + 2) 0) E (nI a) 0 (by decide)) ?_
  exact A_vret dX11_statement1_162 rfl (⟨rfl, _, _, _, _, _, rfl⟩)
theorem c_st8l (f : Mem) (tn : Nat) (c : Nat → Nat) (hT : RTp f tn c) (hc : tcW c tn) (a k W E : Nat) (ha : a < 2 ^ 27) (hE : E < 2 ^ 27 + 200) (hk : k < 12) (hR : C0 MX11_word [.ref 93] (rd 93 10 11 f a (-1)) (rt (some (.int (nI W))) (rd 93 10 11 f E (-1)))) (hW : W = 8) {z : Nat} (e1 : nu 2 12 c E = .inl z) : C0 MX11_statement1 [.ref 93, .int (nI k)] (rd 93 10 11 f a (-1)) (fun r h => r = none ∧ ∃ (b : Nat) (x0 x1 x2 x3 : Int32), h = rd 93 10 11 (rq4 f k x0 x1 x2 x3) b (nI z)) := by
  have hz := nu_l e1
  refine Ct.of (lv := [(0, .ref 93), (1, .int (nI k))]) (by decide) (lb rfl) rfl ?_
  refine A_aload_n dX11_statement1_0 rfl 0 rfl ?_
  refine A_callV (M' := MX11_word) [] [] 93 dX11_statement1_1 lk_RX11_119 oX11_word iX11_word rfl rfl ⟨lb rfl, lb rfl⟩ (lb rfl) ⟨lb rfl, lb rfl⟩ L93 rfl (hR) ?_
  rintro _ g0 ⟨rfl, hg0⟩
  rw [hg0]
  refine A_istore_n (lv' := [(2, .int (nI W)), (0, .ref 93), (1, .int (nI k))]) dX11_statement1_4 rfl (lb rfl) rfl ?_
  refine A_aload_n dX11_statement1_5 rfl 1 rfl ?_
  refine A_getI dX11_statement1_6 fo_RX11_92 L93 rfl ?_
  refine A_topi (-1) (rd_z f E (-1)) ?_
  refine A_if_lt (tgt := 16) dX11_statement1_9 rfl (fun h9 => ?_) (fun h9 => by exact absurd (by decide) h9)
  refine A_iload_n dX11_statement1_16 rfl 0 rfl ?_
  refine A_iconst (v := 5) dX11_statement1_17 rfl ?_
  refine A_icmp_ge (tgt := 31) dX11_statement1_18 rfl (fun h18 => ?_) (fun h18 => by exact absurd (by rw [show (5 : Int32) = nI 5 from rfl, nI_leI (by omega) (by omega)]; omega) h18)
  refine A_iload_n dX11_statement1_31 rfl 0 rfl ?_
  refine A_bipush (v := 8) dX11_statement1_32 rfl ?_
  refine A_icmp_ge (tgt := 47) dX11_statement1_34 rfl (fun h34 => ?_) (fun h34 => by exact absurd (by rw [show (8 : Int32) = nI 8 from rfl, nI_leI (by omega) (by omega)]; omega) h34)
  refine A_aload_n dX11_statement1_47 rfl 1 rfl ?_
  refine A_iconst (v := 2) dX11_statement1_48 rfl ?_
  refine A_bipush (v := 12) dX11_statement1_49 rfl ?_
  refine A_iconst (v := 0) dX11_statement1_51 rfl ?_
  refine A_callV (M' := MX11_number) [.int 2, .int 12, .int 0] [] 93 dX11_statement1_52 lk_RX11_122 oX11_number iX11_number rfl rfl ⟨lb rfl, lb rfl⟩ (lb rfl) ⟨lb rfl, lb rfl⟩ L93 rfl (c_ntL f tn c hT hc E (by omega) e1) ?_
  rintro _ g0 ⟨xz, bz, rfl, hg0⟩
  rw [hg0]
  refine A_istore_n (lv' := [(3, .int xz), (2, .int (nI W)), (0, .ref 93), (1, .int (nI k))]) dX11_statement1_55 rfl (lb rfl) rfl ?_
  refine A_aload_n dX11_statement1_56 rfl 2 rfl ?_
  refine A_getI dX11_statement1_57 fo_RX11_92 L93 rfl ?_
  refine A_topi (nI z) (rd_z f bz (nI z)) ?_
  refine A_if_ge (tgt := 88) dX11_statement1_60 rfl (fun h60 => ?_) (fun h60 => by exact absurd (nI_ge0 (by omega)) h60)
  refine A_iconst (v := 0) dX11_statement1_88 rfl ?_
  refine A_istore (lv' := [(4, .int 0), (3, .int xz), (2, .int (nI W)), (0, .ref 93), (1, .int (nI k))]) dX11_statement1_89 (lb rfl) rfl ?_
  refine A_aload_n dX11_statement1_91 rfl 3 rfl ?_
  refine A_getI dX11_statement1_92 fo_RX11_92 L93 rfl ?_
  refine A_topi (nI z) (rd_z f bz (nI z)) ?_
  refine A_if_ge (tgt := 115) dX11_statement1_95 rfl (fun h95 => ?_) (fun h95 => by exact absurd (nI_ge0 (by omega)) h95)
  refine A_iconst (v := 0) dX11_statement1_115 rfl ?_
  refine A_istore (lv' := [(5, .int 0), (4, .int 0), (3, .int xz), (2, .int (nI W)), (0, .ref 93), (1, .int (nI k))]) dX11_statement1_116 (lb rfl) rfl ?_
  refine A_aload_n dX11_statement1_118 rfl 4 rfl ?_
  refine A_getR (b := 100) dX11_statement1_119 fo_RX11_28 L93 rfl ?_
  refine A_iconst (v := 4) dX11_statement1_122 rfl ?_
  refine A_iload_n dX11_statement1_123 rfl 5 rfl ?_
  refine A_imul dX11_statement1_124 ?_
  refine A_iload_n dX11_statement1_125 rfl 3 rfl ?_
  refine A_iastore (4 * k) dX11_statement1_126 L100 (by simp only [lit, nI_add, pk_mul]) (by omega) (lb rfl) ?_
  refine A_eq rfl rfl (f' := rd 93 10 11 (u2 f 100 (4 * k) (nI W)) bz (nI z)) (rd_uo f bz (nI z) (nI W) (by decide)) ?_
  refine A_aload_n dX11_statement1_127 rfl 4 rfl ?_
  refine A_getR (b := 100) dX11_statement1_128 fo_RX11_28 L93 rfl ?_
  refine A_iconst (v := 4) dX11_statement1_131 rfl ?_
  refine A_iload_n dX11_statement1_132 rfl 5 rfl ?_
  refine A_imul dX11_statement1_133 ?_
  refine A_iconst (v := 1) dX11_statement1_134 rfl ?_
  refine A_iadd dX11_statement1_135 ?_
  refine A_iload_n dX11_statement1_136 rfl 2 rfl ?_
  refine A_iastore (4 * k + 1) dX11_statement1_137 L100 (by simp only [lit, nI_add, pk_mul]) (by omega) (lb rfl) ?_
  refine A_eq rfl rfl (f' := rd 93 10 11 (u2 (u2 f 100 (4 * k) (nI W)) 100 (4 * k + 1) xz) bz (nI z)) (rd_uo (u2 f 100 (4 * k) (nI W)) bz (nI z) xz (by decide)) ?_
  refine A_aload_n dX11_statement1_138 rfl 4 rfl ?_
  refine A_getR (b := 100) dX11_statement1_139 fo_RX11_28 L93 rfl ?_
  refine A_iconst (v := 4) dX11_statement1_142 rfl ?_
  refine A_iload_n dX11_statement1_143 rfl 5 rfl ?_
  refine A_imul dX11_statement1_144 ?_
  refine A_iconst (v := 2) dX11_statement1_145 rfl ?_
  refine A_iadd dX11_statement1_146 ?_
  refine A_iload dX11_statement1_147 1 rfl ?_
  refine A_iastore (4 * k + 2) dX11_statement1_149 L100 (by simp only [lit, nI_add, pk_mul]) (by omega) (lb rfl) ?_
  refine A_eq rfl rfl (f' := rd 93 10 11 (u2 (u2 (u2 f 100 (4 * k) (nI W)) 100 (4 * k + 1) xz) 100 (4 * k + 2) 0) bz (nI z)) (rd_uo (u2 (u2 f 100 (4 * k) (nI W)) 100 (4 * k + 1) xz) bz (nI z) 0 (by decide)) ?_
  refine A_aload_n dX11_statement1_150 rfl 4 rfl ?_
  refine A_getR (b := 100) dX11_statement1_151 fo_RX11_28 L93 rfl ?_
  refine A_iconst (v := 4) dX11_statement1_154 rfl ?_
  refine A_iload_n dX11_statement1_155 rfl 5 rfl ?_
  refine A_imul dX11_statement1_156 ?_
  refine A_iconst (v := 3) dX11_statement1_157 rfl ?_
  refine A_iadd dX11_statement1_158 ?_
  refine A_iload dX11_statement1_159 0 rfl ?_
  refine A_iastore (4 * k + 3) dX11_statement1_161 L100 (by simp only [lit, nI_add, pk_mul]) (by omega) (lb rfl) ?_
  refine A_eq rfl rfl (f' := rd 93 10 11 (u2 (u2 (u2 (u2 f 100 (4 * k) (nI W)) 100 (4 * k + 1) xz) 100 (4 * k + 2) 0) 100 (4 * k + 3) 0) bz (nI z)) (rd_uo (u2 (u2 (u2 f 100 (4 * k) (nI W)) 100 (4 * k + 1) xz) 100 (4 * k + 2) 0) bz (nI z) 0 (by decide)) ?_
  exact A_vret dX11_statement1_162 rfl (⟨rfl, _, _, _, _, _, rfl⟩)
theorem c_st8r (f : Mem) (tn : Nat) (c : Nat → Nat) (hT : RTp f tn c) (hc : tcW c tn) (a k W E : Nat) (ha : a < 2 ^ 27) (hE : E < 2 ^ 27 + 200) (hk : k < 12) (hR : C0 MX11_word [.ref 93] (rd 93 10 11 f a (-1)) (rt (some (.int (nI W))) (rd 93 10 11 f E (-1)))) (hW : W = 8) {q : Int32 × Nat} (e1 : nu 2 12 c E = .inr q) : C0 MX11_statement1 [.ref 93, .int (nI k)] (rd 93 10 11 f a (-1)) (rt none (rd 93 10 11 (rq4 f k (nI W) q.1 0 0) q.2 (-1))) := by
  have hb := nu_b e1
  refine Ct.of (lv := [(0, .ref 93), (1, .int (nI k))]) (by decide) (lb rfl) rfl ?_
  refine A_aload_n dX11_statement1_0 rfl 0 rfl ?_
  refine A_callV (M' := MX11_word) [] [] 93 dX11_statement1_1 lk_RX11_119 oX11_word iX11_word rfl rfl ⟨lb rfl, lb rfl⟩ (lb rfl) ⟨lb rfl, lb rfl⟩ L93 rfl (hR) ?_
  rintro _ g0 ⟨rfl, hg0⟩
  rw [hg0]
  refine A_istore_n (lv' := [(2, .int (nI W)), (0, .ref 93), (1, .int (nI k))]) dX11_statement1_4 rfl (lb rfl) rfl ?_
  refine A_aload_n dX11_statement1_5 rfl 1 rfl ?_
  refine A_getI dX11_statement1_6 fo_RX11_92 L93 rfl ?_
  refine A_topi (-1) (rd_z f E (-1)) ?_
  refine A_if_lt (tgt := 16) dX11_statement1_9 rfl (fun h9 => ?_) (fun h9 => by exact absurd (by decide) h9)
  refine A_iload_n dX11_statement1_16 rfl 0 rfl ?_
  refine A_iconst (v := 5) dX11_statement1_17 rfl ?_
  refine A_icmp_ge (tgt := 31) dX11_statement1_18 rfl (fun h18 => ?_) (fun h18 => by exact absurd (by rw [show (5 : Int32) = nI 5 from rfl, nI_leI (by omega) (by omega)]; omega) h18)
  refine A_iload_n dX11_statement1_31 rfl 0 rfl ?_
  refine A_bipush (v := 8) dX11_statement1_32 rfl ?_
  refine A_icmp_ge (tgt := 47) dX11_statement1_34 rfl (fun h34 => ?_) (fun h34 => by exact absurd (by rw [show (8 : Int32) = nI 8 from rfl, nI_leI (by omega) (by omega)]; omega) h34)
  refine A_aload_n dX11_statement1_47 rfl 1 rfl ?_
  refine A_iconst (v := 2) dX11_statement1_48 rfl ?_
  refine A_bipush (v := 12) dX11_statement1_49 rfl ?_
  refine A_iconst (v := 0) dX11_statement1_51 rfl ?_
  refine A_callV (M' := MX11_number) [.int 2, .int 12, .int 0] [] 93 dX11_statement1_52 lk_RX11_122 oX11_number iX11_number rfl rfl ⟨lb rfl, lb rfl⟩ (lb rfl) ⟨lb rfl, lb rfl⟩ L93 rfl (c_ntR f tn c hT hc E (by omega) e1) ?_
  rintro _ g0 ⟨rfl, hg0⟩
  rw [hg0]
  refine A_istore_n (lv' := [(3, .int q.1), (2, .int (nI W)), (0, .ref 93), (1, .int (nI k))]) dX11_statement1_55 rfl (lb rfl) rfl ?_
  refine A_aload_n dX11_statement1_56 rfl 2 rfl ?_
  refine A_getI dX11_statement1_57 fo_RX11_92 L93 rfl ?_
  refine A_topi (-1) (rd_z f q.2 (-1)) ?_
  refine A_if_ge (tgt := 88) dX11_statement1_60 rfl (fun h60 => by exact absurd h60 (by decide)) (fun h60 => ?_)
  refine A_iload_n dX11_statement1_63 rfl 1 rfl ?_
  refine A_i2l dX11_statement1_64 ?_
  refine A_ldc2 dX11_statement1_65 k_RX11_126 ?_
  refine A_ldc2 dX11_statement1_68 k_RX11_128 ?_
  refine A_callS (M' := MX11_in) [.long ((nI W).toInt64), .long 5, .long 7] [] dX11_statement1_71 lk_RX11_64 oX11_in sX11_in rfl rfl ⟨lb rfl, lb rfl⟩ (lb rfl) ⟨lb rfl, lb rfl⟩ (c_in _ _ _ _) ?_
  rintro _ g0 ⟨rfl, hg0⟩
  rw [hg0]
  refine A_topi (bz (5 ≤ W ∧ W ≤ 7)) (bz_c (in_57 W (by omega))) ?_
  refine A_if_eq (tgt := 88) dX11_statement1_74 rfl (fun h74 => ?_) (fun h74 => by exact absurd (bz_n0.mp h74) (by omega))
  refine A_iconst (v := 0) dX11_statement1_88 rfl ?_
  refine A_istore (lv' := [(4, .int 0), (3, .int q.1), (2, .int (nI W)), (0, .ref 93), (1, .int (nI k))]) dX11_statement1_89 (lb rfl) rfl ?_
  refine A_aload_n dX11_statement1_91 rfl 3 rfl ?_
  refine A_getI dX11_statement1_92 fo_RX11_92 L93 rfl ?_
  refine A_topi (-1) (rd_z f q.2 (-1)) ?_
  refine A_if_ge (tgt := 115) dX11_statement1_95 rfl (fun h95 => by exact absurd h95 (by decide)) (fun h95 => ?_)
  refine A_iload_n dX11_statement1_98 rfl 2 rfl ?_
  refine A_bipush (v := 7) dX11_statement1_99 rfl ?_
  refine A_icmp_ne (tgt := 115) dX11_statement1_101 rfl (fun h101 => ?_) (fun h101 => by exact absurd ((nI_eq (by omega) (by decide)).mp (show nI W = nI 7 from h101)) (by omega))
  refine A_iconst (v := 0) dX11_statement1_115 rfl ?_
  refine A_istore (lv' := [(5, .int 0), (4, .int 0), (3, .int q.1), (2, .int (nI W)), (0, .ref 93), (1, .int (nI k))]) dX11_statement1_116 (lb rfl) rfl ?_
  refine A_aload_n dX11_statement1_118 rfl 4 rfl ?_
  refine A_getR (b := 100) dX11_statement1_119 fo_RX11_28 L93 rfl ?_
  refine A_iconst (v := 4) dX11_statement1_122 rfl ?_
  refine A_iload_n dX11_statement1_123 rfl 5 rfl ?_
  refine A_imul dX11_statement1_124 ?_
  refine A_iload_n dX11_statement1_125 rfl 3 rfl ?_
  refine A_iastore (4 * k) dX11_statement1_126 L100 (by simp only [lit, nI_add, pk_mul]) (by omega) (lb rfl) ?_
  refine A_eq rfl rfl (f' := rd 93 10 11 (u2 f 100 (4 * k) (nI W)) q.2 (-1)) (rd_uo f q.2 (-1) (nI W) (by decide)) ?_
  refine A_aload_n dX11_statement1_127 rfl 4 rfl ?_
  refine A_getR (b := 100) dX11_statement1_128 fo_RX11_28 L93 rfl ?_
  refine A_iconst (v := 4) dX11_statement1_131 rfl ?_
  refine A_iload_n dX11_statement1_132 rfl 5 rfl ?_
  refine A_imul dX11_statement1_133 ?_
  refine A_iconst (v := 1) dX11_statement1_134 rfl ?_
  refine A_iadd dX11_statement1_135 ?_
  refine A_iload_n dX11_statement1_136 rfl 2 rfl ?_
  refine A_iastore (4 * k + 1) dX11_statement1_137 L100 (by simp only [lit, nI_add, pk_mul]) (by omega) (lb rfl) ?_
  refine A_eq rfl rfl (f' := rd 93 10 11 (u2 (u2 f 100 (4 * k) (nI W)) 100 (4 * k + 1) q.1) q.2 (-1)) (rd_uo (u2 f 100 (4 * k) (nI W)) q.2 (-1) q.1 (by decide)) ?_
  refine A_aload_n dX11_statement1_138 rfl 4 rfl ?_
  refine A_getR (b := 100) dX11_statement1_139 fo_RX11_28 L93 rfl ?_
  refine A_iconst (v := 4) dX11_statement1_142 rfl ?_
  refine A_iload_n dX11_statement1_143 rfl 5 rfl ?_
  refine A_imul dX11_statement1_144 ?_
  refine A_iconst (v := 2) dX11_statement1_145 rfl ?_
  refine A_iadd dX11_statement1_146 ?_
  refine A_iload dX11_statement1_147 1 rfl ?_
  refine A_iastore (4 * k + 2) dX11_statement1_149 L100 (by simp only [lit, nI_add, pk_mul]) (by omega) (lb rfl) ?_
  refine A_eq rfl rfl (f' := rd 93 10 11 (u2 (u2 (u2 f 100 (4 * k) (nI W)) 100 (4 * k + 1) q.1) 100 (4 * k + 2) 0) q.2 (-1)) (rd_uo (u2 (u2 f 100 (4 * k) (nI W)) 100 (4 * k + 1) q.1) q.2 (-1) 0 (by decide)) ?_
  refine A_aload_n dX11_statement1_150 rfl 4 rfl ?_
  refine A_getR (b := 100) dX11_statement1_151 fo_RX11_28 L93 rfl ?_
  refine A_iconst (v := 4) dX11_statement1_154 rfl ?_
  refine A_iload_n dX11_statement1_155 rfl 5 rfl ?_
  refine A_imul dX11_statement1_156 ?_
  refine A_iconst (v := 3) dX11_statement1_157 rfl ?_
  refine A_iadd dX11_statement1_158 ?_
  refine A_iload dX11_statement1_159 0 rfl ?_
  refine A_iastore (4 * k + 3) dX11_statement1_161 L100 (by simp only [lit, nI_add, pk_mul]) (by omega) (lb rfl) ?_
  refine A_eq rfl rfl (f' := rd 93 10 11 (u2 (u2 (u2 (u2 f 100 (4 * k) (nI W)) 100 (4 * k + 1) q.1) 100 (4 * k + 2) 0) 100 (4 * k + 3) 0) q.2 (-1)) (rd_uo (u2 (u2 (u2 f 100 (4 * k) (nI W)) 100 (4 * k + 1) q.1) 100 (4 * k + 2) 0) q.2 (-1) 0 (by decide)) ?_
  exact A_vret dX11_statement1_162 rfl (⟨rfl, rfl⟩)
theorem c_st5l (f : Mem) (tn : Nat) (c : Nat → Nat) (hT : RTp f tn c) (hc : tcW c tn) (a k W E : Nat) (ha : a < 2 ^ 27) (hE : E < 2 ^ 27 + 200) (hk : k < 12) (hR : C0 MX11_word [.ref 93] (rd 93 10 11 f a (-1)) (rt (some (.int (nI W))) (rd 93 10 11 f E (-1)))) (hW : W < 5) {z : Nat} (e1 : nu 1 2 c E = .inl z) : C0 MX11_statement1 [.ref 93, .int (nI k)] (rd 93 10 11 f a (-1)) (fun r h => r = none ∧ ∃ (b : Nat) (x0 x1 x2 x3 : Int32), h = rd 93 10 11 (rq4 f k x0 x1 x2 x3) b (nI z)) := by
  have hz := nu_l e1
  refine Ct.of (lv := [(0, .ref 93), (1, .int (nI k))]) (by decide) (lb rfl) rfl ?_
  refine A_aload_n dX11_statement1_0 rfl 0 rfl ?_
  refine A_callV (M' := MX11_word) [] [] 93 dX11_statement1_1 lk_RX11_119 oX11_word iX11_word rfl rfl ⟨lb rfl, lb rfl⟩ (lb rfl) ⟨lb rfl, lb rfl⟩ L93 rfl (hR) ?_
  rintro _ g0 ⟨rfl, hg0⟩
  rw [hg0]
  refine A_istore_n (lv' := [(2, .int (nI W)), (0, .ref 93), (1, .int (nI k))]) dX11_statement1_4 rfl (lb rfl) rfl ?_
  refine A_aload_n dX11_statement1_5 rfl 1 rfl ?_
  refine A_getI dX11_statement1_6 fo_RX11_92 L93 rfl ?_
  refine A_topi (-1) (rd_z f E (-1)) ?_
  refine A_if_lt (tgt := 16) dX11_statement1_9 rfl (fun h9 => ?_) (fun h9 => by exact absurd (by decide) h9)
  refine A_iload_n dX11_statement1_16 rfl 0 rfl ?_
  refine A_iconst (v := 5) dX11_statement1_17 rfl ?_
  refine A_icmp_ge (tgt := 31) dX11_statement1_18 rfl (fun h18 => by exact absurd h18 (fun q => by rw [show (5 : Int32) = nI 5 from rfl, nI_leI (by omega) (by omega)] at q; omega)) (fun h18 => ?_)
  refine A_aload_n dX11_statement1_21 rfl 1 rfl ?_
  refine A_iconst (v := 1) dX11_statement1_22 rfl ?_
  refine A_iconst (v := 2) dX11_statement1_23 rfl ?_
  refine A_iconst (v := 0) dX11_statement1_24 rfl ?_
  refine A_callV (M' := MX11_number) [.int 1, .int 2, .int 0] [] 93 dX11_statement1_25 lk_RX11_122 oX11_number iX11_number rfl rfl ⟨lb rfl, lb rfl⟩ (lb rfl) ⟨lb rfl, lb rfl⟩ L93 rfl (c_n3L f tn c hT hc E (by omega) e1) ?_
  rintro _ g0 ⟨xz, bz, rfl, hg0⟩
  rw [hg0]
  refine A_goto (tgt := 55) dX11_statement1_28 rfl ?_
  refine A_istore_n (lv' := [(3, .int xz), (2, .int (nI W)), (0, .ref 93), (1, .int (nI k))]) dX11_statement1_55 rfl (lb rfl) rfl ?_
  refine A_aload_n dX11_statement1_56 rfl 2 rfl ?_
  refine A_getI dX11_statement1_57 fo_RX11_92 L93 rfl ?_
  refine A_topi (nI z) (rd_z f bz (nI z)) ?_
  refine A_if_ge (tgt := 88) dX11_statement1_60 rfl (fun h60 => ?_) (fun h60 => by exact absurd (nI_ge0 (by omega)) h60)
  refine A_iconst (v := 0) dX11_statement1_88 rfl ?_
  refine A_istore (lv' := [(4, .int 0), (3, .int xz), (2, .int (nI W)), (0, .ref 93), (1, .int (nI k))]) dX11_statement1_89 (lb rfl) rfl ?_
  refine A_aload_n dX11_statement1_91 rfl 3 rfl ?_
  refine A_getI dX11_statement1_92 fo_RX11_92 L93 rfl ?_
  refine A_topi (nI z) (rd_z f bz (nI z)) ?_
  refine A_if_ge (tgt := 115) dX11_statement1_95 rfl (fun h95 => ?_) (fun h95 => by exact absurd (nI_ge0 (by omega)) h95)
  refine A_iconst (v := 0) dX11_statement1_115 rfl ?_
  refine A_istore (lv' := [(5, .int 0), (4, .int 0), (3, .int xz), (2, .int (nI W)), (0, .ref 93), (1, .int (nI k))]) dX11_statement1_116 (lb rfl) rfl ?_
  refine A_aload_n dX11_statement1_118 rfl 4 rfl ?_
  refine A_getR (b := 100) dX11_statement1_119 fo_RX11_28 L93 rfl ?_
  refine A_iconst (v := 4) dX11_statement1_122 rfl ?_
  refine A_iload_n dX11_statement1_123 rfl 5 rfl ?_
  refine A_imul dX11_statement1_124 ?_
  refine A_iload_n dX11_statement1_125 rfl 3 rfl ?_
  refine A_iastore (4 * k) dX11_statement1_126 L100 (by simp only [lit, nI_add, pk_mul]) (by omega) (lb rfl) ?_
  refine A_eq rfl rfl (f' := rd 93 10 11 (u2 f 100 (4 * k) (nI W)) bz (nI z)) (rd_uo f bz (nI z) (nI W) (by decide)) ?_
  refine A_aload_n dX11_statement1_127 rfl 4 rfl ?_
  refine A_getR (b := 100) dX11_statement1_128 fo_RX11_28 L93 rfl ?_
  refine A_iconst (v := 4) dX11_statement1_131 rfl ?_
  refine A_iload_n dX11_statement1_132 rfl 5 rfl ?_
  refine A_imul dX11_statement1_133 ?_
  refine A_iconst (v := 1) dX11_statement1_134 rfl ?_
  refine A_iadd dX11_statement1_135 ?_
  refine A_iload_n dX11_statement1_136 rfl 2 rfl ?_
  refine A_iastore (4 * k + 1) dX11_statement1_137 L100 (by simp only [lit, nI_add, pk_mul]) (by omega) (lb rfl) ?_
  refine A_eq rfl rfl (f' := rd 93 10 11 (u2 (u2 f 100 (4 * k) (nI W)) 100 (4 * k + 1) xz) bz (nI z)) (rd_uo (u2 f 100 (4 * k) (nI W)) bz (nI z) xz (by decide)) ?_
  refine A_aload_n dX11_statement1_138 rfl 4 rfl ?_
  refine A_getR (b := 100) dX11_statement1_139 fo_RX11_28 L93 rfl ?_
  refine A_iconst (v := 4) dX11_statement1_142 rfl ?_
  refine A_iload_n dX11_statement1_143 rfl 5 rfl ?_
  refine A_imul dX11_statement1_144 ?_
  refine A_iconst (v := 2) dX11_statement1_145 rfl ?_
  refine A_iadd dX11_statement1_146 ?_
  refine A_iload dX11_statement1_147 1 rfl ?_
  refine A_iastore (4 * k + 2) dX11_statement1_149 L100 (by simp only [lit, nI_add, pk_mul]) (by omega) (lb rfl) ?_
  refine A_eq rfl rfl (f' := rd 93 10 11 (u2 (u2 (u2 f 100 (4 * k) (nI W)) 100 (4 * k + 1) xz) 100 (4 * k + 2) 0) bz (nI z)) (rd_uo (u2 (u2 f 100 (4 * k) (nI W)) 100 (4 * k + 1) xz) bz (nI z) 0 (by decide)) ?_
  refine A_aload_n dX11_statement1_150 rfl 4 rfl ?_
  refine A_getR (b := 100) dX11_statement1_151 fo_RX11_28 L93 rfl ?_
  refine A_iconst (v := 4) dX11_statement1_154 rfl ?_
  refine A_iload_n dX11_statement1_155 rfl 5 rfl ?_
  refine A_imul dX11_statement1_156 ?_
  refine A_iconst (v := 3) dX11_statement1_157 rfl ?_
  refine A_iadd dX11_statement1_158 ?_
  refine A_iload dX11_statement1_159 0 rfl ?_
  refine A_iastore (4 * k + 3) dX11_statement1_161 L100 (by simp only [lit, nI_add, pk_mul]) (by omega) (lb rfl) ?_
  refine A_eq rfl rfl (f' := rd 93 10 11 (u2 (u2 (u2 (u2 f 100 (4 * k) (nI W)) 100 (4 * k + 1) xz) 100 (4 * k + 2) 0) 100 (4 * k + 3) 0) bz (nI z)) (rd_uo (u2 (u2 (u2 f 100 (4 * k) (nI W)) 100 (4 * k + 1) xz) 100 (4 * k + 2) 0) bz (nI z) 0 (by decide)) ?_
  exact A_vret dX11_statement1_162 rfl (⟨rfl, _, _, _, _, _, rfl⟩)
theorem c_st5r (f : Mem) (tn : Nat) (c : Nat → Nat) (hT : RTp f tn c) (hc : tcW c tn) (a k W E : Nat) (ha : a < 2 ^ 27) (hE : E < 2 ^ 27 + 200) (hk : k < 12) (hR : C0 MX11_word [.ref 93] (rd 93 10 11 f a (-1)) (rt (some (.int (nI W))) (rd 93 10 11 f E (-1)))) (hW : W < 5) {q : Int32 × Nat} (e1 : nu 1 2 c E = .inr q) : C0 MX11_statement1 [.ref 93, .int (nI k)] (rd 93 10 11 f a (-1)) (rt none (rd 93 10 11 (rq4 f k (nI W) q.1 0 0) q.2 (-1))) := by
  have hb := nu_b e1
  refine Ct.of (lv := [(0, .ref 93), (1, .int (nI k))]) (by decide) (lb rfl) rfl ?_
  refine A_aload_n dX11_statement1_0 rfl 0 rfl ?_
  refine A_callV (M' := MX11_word) [] [] 93 dX11_statement1_1 lk_RX11_119 oX11_word iX11_word rfl rfl ⟨lb rfl, lb rfl⟩ (lb rfl) ⟨lb rfl, lb rfl⟩ L93 rfl (hR) ?_
  rintro _ g0 ⟨rfl, hg0⟩
  rw [hg0]
  refine A_istore_n (lv' := [(2, .int (nI W)), (0, .ref 93), (1, .int (nI k))]) dX11_statement1_4 rfl (lb rfl) rfl ?_
  refine A_aload_n dX11_statement1_5 rfl 1 rfl ?_
  refine A_getI dX11_statement1_6 fo_RX11_92 L93 rfl ?_
  refine A_topi (-1) (rd_z f E (-1)) ?_
  refine A_if_lt (tgt := 16) dX11_statement1_9 rfl (fun h9 => ?_) (fun h9 => by exact absurd (by decide) h9)
  refine A_iload_n dX11_statement1_16 rfl 0 rfl ?_
  refine A_iconst (v := 5) dX11_statement1_17 rfl ?_
  refine A_icmp_ge (tgt := 31) dX11_statement1_18 rfl (fun h18 => by exact absurd h18 (fun q => by rw [show (5 : Int32) = nI 5 from rfl, nI_leI (by omega) (by omega)] at q; omega)) (fun h18 => ?_)
  refine A_aload_n dX11_statement1_21 rfl 1 rfl ?_
  refine A_iconst (v := 1) dX11_statement1_22 rfl ?_
  refine A_iconst (v := 2) dX11_statement1_23 rfl ?_
  refine A_iconst (v := 0) dX11_statement1_24 rfl ?_
  refine A_callV (M' := MX11_number) [.int 1, .int 2, .int 0] [] 93 dX11_statement1_25 lk_RX11_122 oX11_number iX11_number rfl rfl ⟨lb rfl, lb rfl⟩ (lb rfl) ⟨lb rfl, lb rfl⟩ L93 rfl (c_n3R f tn c hT hc E (by omega) e1) ?_
  rintro _ g0 ⟨rfl, hg0⟩
  rw [hg0]
  refine A_goto (tgt := 55) dX11_statement1_28 rfl ?_
  refine A_istore_n (lv' := [(3, .int q.1), (2, .int (nI W)), (0, .ref 93), (1, .int (nI k))]) dX11_statement1_55 rfl (lb rfl) rfl ?_
  refine A_aload_n dX11_statement1_56 rfl 2 rfl ?_
  refine A_getI dX11_statement1_57 fo_RX11_92 L93 rfl ?_
  refine A_topi (-1) (rd_z f q.2 (-1)) ?_
  refine A_if_ge (tgt := 88) dX11_statement1_60 rfl (fun h60 => by exact absurd h60 (by decide)) (fun h60 => ?_)
  refine A_iload_n dX11_statement1_63 rfl 1 rfl ?_
  refine A_i2l dX11_statement1_64 ?_
  refine A_ldc2 dX11_statement1_65 k_RX11_126 ?_
  refine A_ldc2 dX11_statement1_68 k_RX11_128 ?_
  refine A_callS (M' := MX11_in) [.long ((nI W).toInt64), .long 5, .long 7] [] dX11_statement1_71 lk_RX11_64 oX11_in sX11_in rfl rfl ⟨lb rfl, lb rfl⟩ (lb rfl) ⟨lb rfl, lb rfl⟩ (c_in _ _ _ _) ?_
  rintro _ g0 ⟨rfl, hg0⟩
  rw [hg0]
  refine A_topi (bz (5 ≤ W ∧ W ≤ 7)) (bz_c (in_57 W (by omega))) ?_
  refine A_if_eq (tgt := 88) dX11_statement1_74 rfl (fun h74 => ?_) (fun h74 => by exact absurd (bz_n0.mp h74) (by omega))
  refine A_iconst (v := 0) dX11_statement1_88 rfl ?_
  refine A_istore (lv' := [(4, .int 0), (3, .int q.1), (2, .int (nI W)), (0, .ref 93), (1, .int (nI k))]) dX11_statement1_89 (lb rfl) rfl ?_
  refine A_aload_n dX11_statement1_91 rfl 3 rfl ?_
  refine A_getI dX11_statement1_92 fo_RX11_92 L93 rfl ?_
  refine A_topi (-1) (rd_z f q.2 (-1)) ?_
  refine A_if_ge (tgt := 115) dX11_statement1_95 rfl (fun h95 => by exact absurd h95 (by decide)) (fun h95 => ?_)
  refine A_iload_n dX11_statement1_98 rfl 2 rfl ?_
  refine A_bipush (v := 7) dX11_statement1_99 rfl ?_
  refine A_icmp_ne (tgt := 115) dX11_statement1_101 rfl (fun h101 => ?_) (fun h101 => by exact absurd ((nI_eq (by omega) (by decide)).mp (show nI W = nI 7 from h101)) (by omega))
  refine A_iconst (v := 0) dX11_statement1_115 rfl ?_
  refine A_istore (lv' := [(5, .int 0), (4, .int 0), (3, .int q.1), (2, .int (nI W)), (0, .ref 93), (1, .int (nI k))]) dX11_statement1_116 (lb rfl) rfl ?_
  refine A_aload_n dX11_statement1_118 rfl 4 rfl ?_
  refine A_getR (b := 100) dX11_statement1_119 fo_RX11_28 L93 rfl ?_
  refine A_iconst (v := 4) dX11_statement1_122 rfl ?_
  refine A_iload_n dX11_statement1_123 rfl 5 rfl ?_
  refine A_imul dX11_statement1_124 ?_
  refine A_iload_n dX11_statement1_125 rfl 3 rfl ?_
  refine A_iastore (4 * k) dX11_statement1_126 L100 (by simp only [lit, nI_add, pk_mul]) (by omega) (lb rfl) ?_
  refine A_eq rfl rfl (f' := rd 93 10 11 (u2 f 100 (4 * k) (nI W)) q.2 (-1)) (rd_uo f q.2 (-1) (nI W) (by decide)) ?_
  refine A_aload_n dX11_statement1_127 rfl 4 rfl ?_
  refine A_getR (b := 100) dX11_statement1_128 fo_RX11_28 L93 rfl ?_
  refine A_iconst (v := 4) dX11_statement1_131 rfl ?_
  refine A_iload_n dX11_statement1_132 rfl 5 rfl ?_
  refine A_imul dX11_statement1_133 ?_
  refine A_iconst (v := 1) dX11_statement1_134 rfl ?_
  refine A_iadd dX11_statement1_135 ?_
  refine A_iload_n dX11_statement1_136 rfl 2 rfl ?_
  refine A_iastore (4 * k + 1) dX11_statement1_137 L100 (by simp only [lit, nI_add, pk_mul]) (by omega) (lb rfl) ?_
  refine A_eq rfl rfl (f' := rd 93 10 11 (u2 (u2 f 100 (4 * k) (nI W)) 100 (4 * k + 1) q.1) q.2 (-1)) (rd_uo (u2 f 100 (4 * k) (nI W)) q.2 (-1) q.1 (by decide)) ?_
  refine A_aload_n dX11_statement1_138 rfl 4 rfl ?_
  refine A_getR (b := 100) dX11_statement1_139 fo_RX11_28 L93 rfl ?_
  refine A_iconst (v := 4) dX11_statement1_142 rfl ?_
  refine A_iload_n dX11_statement1_143 rfl 5 rfl ?_
  refine A_imul dX11_statement1_144 ?_
  refine A_iconst (v := 2) dX11_statement1_145 rfl ?_
  refine A_iadd dX11_statement1_146 ?_
  refine A_iload dX11_statement1_147 1 rfl ?_
  refine A_iastore (4 * k + 2) dX11_statement1_149 L100 (by simp only [lit, nI_add, pk_mul]) (by omega) (lb rfl) ?_
  refine A_eq rfl rfl (f' := rd 93 10 11 (u2 (u2 (u2 f 100 (4 * k) (nI W)) 100 (4 * k + 1) q.1) 100 (4 * k + 2) 0) q.2 (-1)) (rd_uo (u2 (u2 f 100 (4 * k) (nI W)) 100 (4 * k + 1) q.1) q.2 (-1) 0 (by decide)) ?_
  refine A_aload_n dX11_statement1_150 rfl 4 rfl ?_
  refine A_getR (b := 100) dX11_statement1_151 fo_RX11_28 L93 rfl ?_
  refine A_iconst (v := 4) dX11_statement1_154 rfl ?_
  refine A_iload_n dX11_statement1_155 rfl 5 rfl ?_
  refine A_imul dX11_statement1_156 ?_
  refine A_iconst (v := 3) dX11_statement1_157 rfl ?_
  refine A_iadd dX11_statement1_158 ?_
  refine A_iload dX11_statement1_159 0 rfl ?_
  refine A_iastore (4 * k + 3) dX11_statement1_161 L100 (by simp only [lit, nI_add, pk_mul]) (by omega) (lb rfl) ?_
  refine A_eq rfl rfl (f' := rd 93 10 11 (u2 (u2 (u2 (u2 f 100 (4 * k) (nI W)) 100 (4 * k + 1) q.1) 100 (4 * k + 2) 0) 100 (4 * k + 3) 0) q.2 (-1)) (rd_uo (u2 (u2 (u2 f 100 (4 * k) (nI W)) 100 (4 * k + 1) q.1) 100 (4 * k + 2) 0) q.2 (-1) 0 (by decide)) ?_
  exact A_vret dX11_statement1_162 rfl (⟨rfl, rfl⟩)
theorem c_st7l (f : Mem) (tn : Nat) (c : Nat → Nat) (hT : RTp f tn c) (hc : tcW c tn) (a k W E : Nat) (ha : a < 2 ^ 27) (hE : E < 2 ^ 27 + 200) (hk : k < 12) (hR : C0 MX11_word [.ref 93] (rd 93 10 11 f a (-1)) (rt (some (.int (nI W))) (rd 93 10 11 f E (-1)))) (hW : 5 ≤ W ∧ W < 8) {z : Nat} (e1 : nu 1 3 c E = .inl z) : C0 MX11_statement1 [.ref 93, .int (nI k)] (rd 93 10 11 f a (-1)) (fun r h => r = none ∧ ∃ (b : Nat) (x0 x1 x2 x3 : Int32), h = rd 93 10 11 (rq4 f k x0 x1 x2 x3) b (nI z)) := by
  have hz := nu_l e1
  refine Ct.of (lv := [(0, .ref 93), (1, .int (nI k))]) (by decide) (lb rfl) rfl ?_
  refine A_aload_n dX11_statement1_0 rfl 0 rfl ?_
  refine A_callV (M' := MX11_word) [] [] 93 dX11_statement1_1 lk_RX11_119 oX11_word iX11_word rfl rfl ⟨lb rfl, lb rfl⟩ (lb rfl) ⟨lb rfl, lb rfl⟩ L93 rfl (hR) ?_
  rintro _ g0 ⟨rfl, hg0⟩
  rw [hg0]
  refine A_istore_n (lv' := [(2, .int (nI W)), (0, .ref 93), (1, .int (nI k))]) dX11_statement1_4 rfl (lb rfl) rfl ?_
  refine A_aload_n dX11_statement1_5 rfl 1 rfl ?_
  refine A_getI dX11_statement1_6 fo_RX11_92 L93 rfl ?_
  refine A_topi (-1) (rd_z f E (-1)) ?_
  refine A_if_lt (tgt := 16) dX11_statement1_9 rfl (fun h9 => ?_) (fun h9 => by exact absurd (by decide) h9)
  refine A_iload_n dX11_statement1_16 rfl 0 rfl ?_
  refine A_iconst (v := 5) dX11_statement1_17 rfl ?_
  refine A_icmp_ge (tgt := 31) dX11_statement1_18 rfl (fun h18 => ?_) (fun h18 => by exact absurd (by rw [show (5 : Int32) = nI 5 from rfl, nI_leI (by omega) (by omega)]; omega) h18)
  refine A_iload_n dX11_statement1_31 rfl 0 rfl ?_
  refine A_bipush (v := 8) dX11_statement1_32 rfl ?_
  refine A_icmp_ge (tgt := 47) dX11_statement1_34 rfl (fun h34 => by exact absurd h34 (fun q => by rw [show (8 : Int32) = nI 8 from rfl, nI_leI (by omega) (by omega)] at q; omega)) (fun h34 => ?_)
  refine A_aload_n dX11_statement1_37 rfl 1 rfl ?_
  refine A_iconst (v := 1) dX11_statement1_38 rfl ?_
  refine A_iconst (v := 3) dX11_statement1_39 rfl ?_
  refine A_iconst (v := 0) dX11_statement1_40 rfl ?_
  refine A_callV (M' := MX11_number) [.int 1, .int 3, .int 0] [] 93 dX11_statement1_41 lk_RX11_122 oX11_number iX11_number rfl rfl ⟨lb rfl, lb rfl⟩ (lb rfl) ⟨lb rfl, lb rfl⟩ L93 rfl (c_n4L f tn c hT hc E (by omega) e1) ?_
  rintro _ g0 ⟨xz, bz, rfl, hg0⟩
  rw [hg0]
  refine A_goto (tgt := 55) dX11_statement1_44 rfl ?_
  refine A_istore_n (lv' := [(3, .int xz), (2, .int (nI W)), (0, .ref 93), (1, .int (nI k))]) dX11_statement1_55 rfl (lb rfl) rfl ?_
  refine A_aload_n dX11_statement1_56 rfl 2 rfl ?_
  refine A_getI dX11_statement1_57 fo_RX11_92 L93 rfl ?_
  refine A_topi (nI z) (rd_z f bz (nI z)) ?_
  refine A_if_ge (tgt := 88) dX11_statement1_60 rfl (fun h60 => ?_) (fun h60 => by exact absurd (nI_ge0 (by omega)) h60)
  refine A_iconst (v := 0) dX11_statement1_88 rfl ?_
  refine A_istore (lv' := [(4, .int 0), (3, .int xz), (2, .int (nI W)), (0, .ref 93), (1, .int (nI k))]) dX11_statement1_89 (lb rfl) rfl ?_
  refine A_aload_n dX11_statement1_91 rfl 3 rfl ?_
  refine A_getI dX11_statement1_92 fo_RX11_92 L93 rfl ?_
  refine A_topi (nI z) (rd_z f bz (nI z)) ?_
  refine A_if_ge (tgt := 115) dX11_statement1_95 rfl (fun h95 => ?_) (fun h95 => by exact absurd (nI_ge0 (by omega)) h95)
  refine A_iconst (v := 0) dX11_statement1_115 rfl ?_
  refine A_istore (lv' := [(5, .int 0), (4, .int 0), (3, .int xz), (2, .int (nI W)), (0, .ref 93), (1, .int (nI k))]) dX11_statement1_116 (lb rfl) rfl ?_
  refine A_aload_n dX11_statement1_118 rfl 4 rfl ?_
  refine A_getR (b := 100) dX11_statement1_119 fo_RX11_28 L93 rfl ?_
  refine A_iconst (v := 4) dX11_statement1_122 rfl ?_
  refine A_iload_n dX11_statement1_123 rfl 5 rfl ?_
  refine A_imul dX11_statement1_124 ?_
  refine A_iload_n dX11_statement1_125 rfl 3 rfl ?_
  refine A_iastore (4 * k) dX11_statement1_126 L100 (by simp only [lit, nI_add, pk_mul]) (by omega) (lb rfl) ?_
  refine A_eq rfl rfl (f' := rd 93 10 11 (u2 f 100 (4 * k) (nI W)) bz (nI z)) (rd_uo f bz (nI z) (nI W) (by decide)) ?_
  refine A_aload_n dX11_statement1_127 rfl 4 rfl ?_
  refine A_getR (b := 100) dX11_statement1_128 fo_RX11_28 L93 rfl ?_
  refine A_iconst (v := 4) dX11_statement1_131 rfl ?_
  refine A_iload_n dX11_statement1_132 rfl 5 rfl ?_
  refine A_imul dX11_statement1_133 ?_
  refine A_iconst (v := 1) dX11_statement1_134 rfl ?_
  refine A_iadd dX11_statement1_135 ?_
  refine A_iload_n dX11_statement1_136 rfl 2 rfl ?_
  refine A_iastore (4 * k + 1) dX11_statement1_137 L100 (by simp only [lit, nI_add, pk_mul]) (by omega) (lb rfl) ?_
  refine A_eq rfl rfl (f' := rd 93 10 11 (u2 (u2 f 100 (4 * k) (nI W)) 100 (4 * k + 1) xz) bz (nI z)) (rd_uo (u2 f 100 (4 * k) (nI W)) bz (nI z) xz (by decide)) ?_
  refine A_aload_n dX11_statement1_138 rfl 4 rfl ?_
  refine A_getR (b := 100) dX11_statement1_139 fo_RX11_28 L93 rfl ?_
  refine A_iconst (v := 4) dX11_statement1_142 rfl ?_
  refine A_iload_n dX11_statement1_143 rfl 5 rfl ?_
  refine A_imul dX11_statement1_144 ?_
  refine A_iconst (v := 2) dX11_statement1_145 rfl ?_
  refine A_iadd dX11_statement1_146 ?_
  refine A_iload dX11_statement1_147 1 rfl ?_
  refine A_iastore (4 * k + 2) dX11_statement1_149 L100 (by simp only [lit, nI_add, pk_mul]) (by omega) (lb rfl) ?_
  refine A_eq rfl rfl (f' := rd 93 10 11 (u2 (u2 (u2 f 100 (4 * k) (nI W)) 100 (4 * k + 1) xz) 100 (4 * k + 2) 0) bz (nI z)) (rd_uo (u2 (u2 f 100 (4 * k) (nI W)) 100 (4 * k + 1) xz) bz (nI z) 0 (by decide)) ?_
  refine A_aload_n dX11_statement1_150 rfl 4 rfl ?_
  refine A_getR (b := 100) dX11_statement1_151 fo_RX11_28 L93 rfl ?_
  refine A_iconst (v := 4) dX11_statement1_154 rfl ?_
  refine A_iload_n dX11_statement1_155 rfl 5 rfl ?_
  refine A_imul dX11_statement1_156 ?_
  refine A_iconst (v := 3) dX11_statement1_157 rfl ?_
  refine A_iadd dX11_statement1_158 ?_
  refine A_iload dX11_statement1_159 0 rfl ?_
  refine A_iastore (4 * k + 3) dX11_statement1_161 L100 (by simp only [lit, nI_add, pk_mul]) (by omega) (lb rfl) ?_
  refine A_eq rfl rfl (f' := rd 93 10 11 (u2 (u2 (u2 (u2 f 100 (4 * k) (nI W)) 100 (4 * k + 1) xz) 100 (4 * k + 2) 0) 100 (4 * k + 3) 0) bz (nI z)) (rd_uo (u2 (u2 (u2 f 100 (4 * k) (nI W)) 100 (4 * k + 1) xz) 100 (4 * k + 2) 0) bz (nI z) 0 (by decide)) ?_
  exact A_vret dX11_statement1_162 rfl (⟨rfl, _, _, _, _, _, rfl⟩)
theorem c_st7m (f : Mem) (tn : Nat) (c : Nat → Nat) (hT : RTp f tn c) (hc : tcW c tn) (a k W E : Nat) (ha : a < 2 ^ 27) (hE : E < 2 ^ 27 + 200) (hk : k < 12) (hR : C0 MX11_word [.ref 93] (rd 93 10 11 f a (-1)) (rt (some (.int (nI W))) (rd 93 10 11 f E (-1)))) (hW : 5 ≤ W ∧ W < 8) {q : Int32 × Nat} (e1 : nu 1 3 c E = .inr q) {z : Nat} (e2 : nuS c q.2 = .inl z) : C0 MX11_statement1 [.ref 93, .int (nI k)] (rd 93 10 11 f a (-1)) (fun r h => r = none ∧ ∃ (b : Nat) (x0 x1 x2 x3 : Int32), h = rd 93 10 11 (rq4 f k x0 x1 x2 x3) b (nI z)) := by
  have hb := nu_b e1
  have hz := nuS_l e2
  refine Ct.of (lv := [(0, .ref 93), (1, .int (nI k))]) (by decide) (lb rfl) rfl ?_
  refine A_aload_n dX11_statement1_0 rfl 0 rfl ?_
  refine A_callV (M' := MX11_word) [] [] 93 dX11_statement1_1 lk_RX11_119 oX11_word iX11_word rfl rfl ⟨lb rfl, lb rfl⟩ (lb rfl) ⟨lb rfl, lb rfl⟩ L93 rfl (hR) ?_
  rintro _ g0 ⟨rfl, hg0⟩
  rw [hg0]
  refine A_istore_n (lv' := [(2, .int (nI W)), (0, .ref 93), (1, .int (nI k))]) dX11_statement1_4 rfl (lb rfl) rfl ?_
  refine A_aload_n dX11_statement1_5 rfl 1 rfl ?_
  refine A_getI dX11_statement1_6 fo_RX11_92 L93 rfl ?_
  refine A_topi (-1) (rd_z f E (-1)) ?_
  refine A_if_lt (tgt := 16) dX11_statement1_9 rfl (fun h9 => ?_) (fun h9 => by exact absurd (by decide) h9)
  refine A_iload_n dX11_statement1_16 rfl 0 rfl ?_
  refine A_iconst (v := 5) dX11_statement1_17 rfl ?_
  refine A_icmp_ge (tgt := 31) dX11_statement1_18 rfl (fun h18 => ?_) (fun h18 => by exact absurd (by rw [show (5 : Int32) = nI 5 from rfl, nI_leI (by omega) (by omega)]; omega) h18)
  refine A_iload_n dX11_statement1_31 rfl 0 rfl ?_
  refine A_bipush (v := 8) dX11_statement1_32 rfl ?_
  refine A_icmp_ge (tgt := 47) dX11_statement1_34 rfl (fun h34 => by exact absurd h34 (fun q => by rw [show (8 : Int32) = nI 8 from rfl, nI_leI (by omega) (by omega)] at q; omega)) (fun h34 => ?_)
  refine A_aload_n dX11_statement1_37 rfl 1 rfl ?_
  refine A_iconst (v := 1) dX11_statement1_38 rfl ?_
  refine A_iconst (v := 3) dX11_statement1_39 rfl ?_
  refine A_iconst (v := 0) dX11_statement1_40 rfl ?_
  refine A_callV (M' := MX11_number) [.int 1, .int 3, .int 0] [] 93 dX11_statement1_41 lk_RX11_122 oX11_number iX11_number rfl rfl ⟨lb rfl, lb rfl⟩ (lb rfl) ⟨lb rfl, lb rfl⟩ L93 rfl (c_n4R f tn c hT hc E (by omega) e1) ?_
  rintro _ g0 ⟨rfl, hg0⟩
  rw [hg0]
  refine A_goto (tgt := 55) dX11_statement1_44 rfl ?_
  refine A_istore_n (lv' := [(3, .int q.1), (2, .int (nI W)), (0, .ref 93), (1, .int (nI k))]) dX11_statement1_55 rfl (lb rfl) rfl ?_
  refine A_aload_n dX11_statement1_56 rfl 2 rfl ?_
  refine A_getI dX11_statement1_57 fo_RX11_92 L93 rfl ?_
  refine A_topi (-1) (rd_z f q.2 (-1)) ?_
  refine A_if_ge (tgt := 88) dX11_statement1_60 rfl (fun h60 => by exact absurd h60 (by decide)) (fun h60 => ?_)
  refine A_iload_n dX11_statement1_63 rfl 1 rfl ?_
  refine A_i2l dX11_statement1_64 ?_
  refine A_ldc2 dX11_statement1_65 k_RX11_126 ?_
  refine A_ldc2 dX11_statement1_68 k_RX11_128 ?_
  refine A_callS (M' := MX11_in) [.long ((nI W).toInt64), .long 5, .long 7] [] dX11_statement1_71 lk_RX11_64 oX11_in sX11_in rfl rfl ⟨lb rfl, lb rfl⟩ (lb rfl) ⟨lb rfl, lb rfl⟩ (c_in _ _ _ _) ?_
  rintro _ g0 ⟨rfl, hg0⟩
  rw [hg0]
  refine A_topi (bz (5 ≤ W ∧ W ≤ 7)) (bz_c (in_57 W (by omega))) ?_
  refine A_if_eq (tgt := 88) dX11_statement1_74 rfl (fun h74 => by exact absurd (show 5 ≤ W ∧ W ≤ 7 by omega) (bz_0.mp h74)) (fun h74 => ?_)
  refine A_aload_n dX11_statement1_77 rfl 2 rfl ?_
  refine A_iconst (v := 2) dX11_statement1_78 rfl ?_
  refine A_bipush (v := 99) dX11_statement1_79 rfl ?_
  refine A_iconst (v := 1) dX11_statement1_81 rfl ?_
  refine A_callV (M' := MX11_number) [.int 2, .int 99, .int 1] [] 93 dX11_statement1_82 lk_RX11_122 oX11_number iX11_number rfl rfl ⟨lb rfl, lb rfl⟩ (lb rfl) ⟨lb rfl, lb rfl⟩ L93 rfl (c_nSL f tn c hT hc q.2 (by omega) e2) ?_
  rintro _ g0 ⟨xz, bz, rfl, hg0⟩
  rw [hg0]
  refine A_goto (tgt := 89) dX11_statement1_85 rfl ?_
  refine A_istore (lv' := [(4, .int xz), (3, .int q.1), (2, .int (nI W)), (0, .ref 93), (1, .int (nI k))]) dX11_statement1_89 (lb rfl) rfl ?_
  refine A_aload_n dX11_statement1_91 rfl 3 rfl ?_
  refine A_getI dX11_statement1_92 fo_RX11_92 L93 rfl ?_
  refine A_topi (nI z) (rd_z f bz (nI z)) ?_
  refine A_if_ge (tgt := 115) dX11_statement1_95 rfl (fun h95 => ?_) (fun h95 => by exact absurd (nI_ge0 (by omega)) h95)
  refine A_iconst (v := 0) dX11_statement1_115 rfl ?_
  refine A_istore (lv' := [(5, .int 0), (4, .int xz), (3, .int q.1), (2, .int (nI W)), (0, .ref 93), (1, .int (nI k))]) dX11_statement1_116 (lb rfl) rfl ?_
  refine A_aload_n dX11_statement1_118 rfl 4 rfl ?_
  refine A_getR (b := 100) dX11_statement1_119 fo_RX11_28 L93 rfl ?_
  refine A_iconst (v := 4) dX11_statement1_122 rfl ?_
  refine A_iload_n dX11_statement1_123 rfl 5 rfl ?_
  refine A_imul dX11_statement1_124 ?_
  refine A_iload_n dX11_statement1_125 rfl 3 rfl ?_
  refine A_iastore (4 * k) dX11_statement1_126 L100 (by simp only [lit, nI_add, pk_mul]) (by omega) (lb rfl) ?_
  refine A_eq rfl rfl (f' := rd 93 10 11 (u2 f 100 (4 * k) (nI W)) bz (nI z)) (rd_uo f bz (nI z) (nI W) (by decide)) ?_
  refine A_aload_n dX11_statement1_127 rfl 4 rfl ?_
  refine A_getR (b := 100) dX11_statement1_128 fo_RX11_28 L93 rfl ?_
  refine A_iconst (v := 4) dX11_statement1_131 rfl ?_
  refine A_iload_n dX11_statement1_132 rfl 5 rfl ?_
  refine A_imul dX11_statement1_133 ?_
  refine A_iconst (v := 1) dX11_statement1_134 rfl ?_
  refine A_iadd dX11_statement1_135 ?_
  refine A_iload_n dX11_statement1_136 rfl 2 rfl ?_
  refine A_iastore (4 * k + 1) dX11_statement1_137 L100 (by simp only [lit, nI_add, pk_mul]) (by omega) (lb rfl) ?_
  refine A_eq rfl rfl (f' := rd 93 10 11 (u2 (u2 f 100 (4 * k) (nI W)) 100 (4 * k + 1) q.1) bz (nI z)) (rd_uo (u2 f 100 (4 * k) (nI W)) bz (nI z) q.1 (by decide)) ?_
  refine A_aload_n dX11_statement1_138 rfl 4 rfl ?_
  refine A_getR (b := 100) dX11_statement1_139 fo_RX11_28 L93 rfl ?_
  refine A_iconst (v := 4) dX11_statement1_142 rfl ?_
  refine A_iload_n dX11_statement1_143 rfl 5 rfl ?_
  refine A_imul dX11_statement1_144 ?_
  refine A_iconst (v := 2) dX11_statement1_145 rfl ?_
  refine A_iadd dX11_statement1_146 ?_
  refine A_iload dX11_statement1_147 1 rfl ?_
  refine A_iastore (4 * k + 2) dX11_statement1_149 L100 (by simp only [lit, nI_add, pk_mul]) (by omega) (lb rfl) ?_
  refine A_eq rfl rfl (f' := rd 93 10 11 (u2 (u2 (u2 f 100 (4 * k) (nI W)) 100 (4 * k + 1) q.1) 100 (4 * k + 2) xz) bz (nI z)) (rd_uo (u2 (u2 f 100 (4 * k) (nI W)) 100 (4 * k + 1) q.1) bz (nI z) xz (by decide)) ?_
  refine A_aload_n dX11_statement1_150 rfl 4 rfl ?_
  refine A_getR (b := 100) dX11_statement1_151 fo_RX11_28 L93 rfl ?_
  refine A_iconst (v := 4) dX11_statement1_154 rfl ?_
  refine A_iload_n dX11_statement1_155 rfl 5 rfl ?_
  refine A_imul dX11_statement1_156 ?_
  refine A_iconst (v := 3) dX11_statement1_157 rfl ?_
  refine A_iadd dX11_statement1_158 ?_
  refine A_iload dX11_statement1_159 0 rfl ?_
  refine A_iastore (4 * k + 3) dX11_statement1_161 L100 (by simp only [lit, nI_add, pk_mul]) (by omega) (lb rfl) ?_
  refine A_eq rfl rfl (f' := rd 93 10 11 (u2 (u2 (u2 (u2 f 100 (4 * k) (nI W)) 100 (4 * k + 1) q.1) 100 (4 * k + 2) xz) 100 (4 * k + 3) 0) bz (nI z)) (rd_uo (u2 (u2 (u2 f 100 (4 * k) (nI W)) 100 (4 * k + 1) q.1) 100 (4 * k + 2) xz) bz (nI z) 0 (by decide)) ?_
  exact A_vret dX11_statement1_162 rfl (⟨rfl, _, _, _, _, _, rfl⟩)
theorem c_st7r (f : Mem) (tn : Nat) (c : Nat → Nat) (hT : RTp f tn c) (hc : tcW c tn) (a k W E : Nat) (ha : a < 2 ^ 27) (hE : E < 2 ^ 27 + 200) (hk : k < 12) (hR : C0 MX11_word [.ref 93] (rd 93 10 11 f a (-1)) (rt (some (.int (nI W))) (rd 93 10 11 f E (-1)))) (hW : 5 ≤ W ∧ W < 8) {q : Int32 × Nat} (e1 : nu 1 3 c E = .inr q) {r : Int32 × Nat} (e2 : nuS c q.2 = .inr r) (h7 : ¬ W = 7) : C0 MX11_statement1 [.ref 93, .int (nI k)] (rd 93 10 11 f a (-1)) (rt none (rd 93 10 11 (rq4 f k (nI W) q.1 r.1 0) r.2 (-1))) := by
  have hb := nu_b e1
  have hb2 := nuS_b e2
  refine Ct.of (lv := [(0, .ref 93), (1, .int (nI k))]) (by decide) (lb rfl) rfl ?_
  refine A_aload_n dX11_statement1_0 rfl 0 rfl ?_
  refine A_callV (M' := MX11_word) [] [] 93 dX11_statement1_1 lk_RX11_119 oX11_word iX11_word rfl rfl ⟨lb rfl, lb rfl⟩ (lb rfl) ⟨lb rfl, lb rfl⟩ L93 rfl (hR) ?_
  rintro _ g0 ⟨rfl, hg0⟩
  rw [hg0]
  refine A_istore_n (lv' := [(2, .int (nI W)), (0, .ref 93), (1, .int (nI k))]) dX11_statement1_4 rfl (lb rfl) rfl ?_
  refine A_aload_n dX11_statement1_5 rfl 1 rfl ?_
  refine A_getI dX11_statement1_6 fo_RX11_92 L93 rfl ?_
  refine A_topi (-1) (rd_z f E (-1)) ?_
  refine A_if_lt (tgt := 16) dX11_statement1_9 rfl (fun h9 => ?_) (fun h9 => by exact absurd (by decide) h9)
  refine A_iload_n dX11_statement1_16 rfl 0 rfl ?_
  refine A_iconst (v := 5) dX11_statement1_17 rfl ?_
  refine A_icmp_ge (tgt := 31) dX11_statement1_18 rfl (fun h18 => ?_) (fun h18 => by exact absurd (by rw [show (5 : Int32) = nI 5 from rfl, nI_leI (by omega) (by omega)]; omega) h18)
  refine A_iload_n dX11_statement1_31 rfl 0 rfl ?_
  refine A_bipush (v := 8) dX11_statement1_32 rfl ?_
  refine A_icmp_ge (tgt := 47) dX11_statement1_34 rfl (fun h34 => by exact absurd h34 (fun q => by rw [show (8 : Int32) = nI 8 from rfl, nI_leI (by omega) (by omega)] at q; omega)) (fun h34 => ?_)
  refine A_aload_n dX11_statement1_37 rfl 1 rfl ?_
  refine A_iconst (v := 1) dX11_statement1_38 rfl ?_
  refine A_iconst (v := 3) dX11_statement1_39 rfl ?_
  refine A_iconst (v := 0) dX11_statement1_40 rfl ?_
  refine A_callV (M' := MX11_number) [.int 1, .int 3, .int 0] [] 93 dX11_statement1_41 lk_RX11_122 oX11_number iX11_number rfl rfl ⟨lb rfl, lb rfl⟩ (lb rfl) ⟨lb rfl, lb rfl⟩ L93 rfl (c_n4R f tn c hT hc E (by omega) e1) ?_
  rintro _ g0 ⟨rfl, hg0⟩
  rw [hg0]
  refine A_goto (tgt := 55) dX11_statement1_44 rfl ?_
  refine A_istore_n (lv' := [(3, .int q.1), (2, .int (nI W)), (0, .ref 93), (1, .int (nI k))]) dX11_statement1_55 rfl (lb rfl) rfl ?_
  refine A_aload_n dX11_statement1_56 rfl 2 rfl ?_
  refine A_getI dX11_statement1_57 fo_RX11_92 L93 rfl ?_
  refine A_topi (-1) (rd_z f q.2 (-1)) ?_
  refine A_if_ge (tgt := 88) dX11_statement1_60 rfl (fun h60 => by exact absurd h60 (by decide)) (fun h60 => ?_)
  refine A_iload_n dX11_statement1_63 rfl 1 rfl ?_
  refine A_i2l dX11_statement1_64 ?_
  refine A_ldc2 dX11_statement1_65 k_RX11_126 ?_
  refine A_ldc2 dX11_statement1_68 k_RX11_128 ?_
  refine A_callS (M' := MX11_in) [.long ((nI W).toInt64), .long 5, .long 7] [] dX11_statement1_71 lk_RX11_64 oX11_in sX11_in rfl rfl ⟨lb rfl, lb rfl⟩ (lb rfl) ⟨lb rfl, lb rfl⟩ (c_in _ _ _ _) ?_
  rintro _ g0 ⟨rfl, hg0⟩
  rw [hg0]
  refine A_topi (bz (5 ≤ W ∧ W ≤ 7)) (bz_c (in_57 W (by omega))) ?_
  refine A_if_eq (tgt := 88) dX11_statement1_74 rfl (fun h74 => by exact absurd (show 5 ≤ W ∧ W ≤ 7 by omega) (bz_0.mp h74)) (fun h74 => ?_)
  refine A_aload_n dX11_statement1_77 rfl 2 rfl ?_
  refine A_iconst (v := 2) dX11_statement1_78 rfl ?_
  refine A_bipush (v := 99) dX11_statement1_79 rfl ?_
  refine A_iconst (v := 1) dX11_statement1_81 rfl ?_
  refine A_callV (M' := MX11_number) [.int 2, .int 99, .int 1] [] 93 dX11_statement1_82 lk_RX11_122 oX11_number iX11_number rfl rfl ⟨lb rfl, lb rfl⟩ (lb rfl) ⟨lb rfl, lb rfl⟩ L93 rfl (c_nSR f tn c hT hc q.2 (by omega) e2) ?_
  rintro _ g0 ⟨rfl, hg0⟩
  rw [hg0]
  refine A_goto (tgt := 89) dX11_statement1_85 rfl ?_
  refine A_istore (lv' := [(4, .int r.1), (3, .int q.1), (2, .int (nI W)), (0, .ref 93), (1, .int (nI k))]) dX11_statement1_89 (lb rfl) rfl ?_
  refine A_aload_n dX11_statement1_91 rfl 3 rfl ?_
  refine A_getI dX11_statement1_92 fo_RX11_92 L93 rfl ?_
  refine A_topi (-1) (rd_z f r.2 (-1)) ?_
  refine A_if_ge (tgt := 115) dX11_statement1_95 rfl (fun h95 => by exact absurd h95 (by decide)) (fun h95 => ?_)
  refine A_iload_n dX11_statement1_98 rfl 2 rfl ?_
  refine A_bipush (v := 7) dX11_statement1_99 rfl ?_
  refine A_icmp_ne (tgt := 115) dX11_statement1_101 rfl (fun h101 => ?_) (fun h101 => by exact absurd ((nI_eq (by omega) (by decide)).mp (show nI W = nI 7 from h101)) (by omega))
  refine A_iconst (v := 0) dX11_statement1_115 rfl ?_
  refine A_istore (lv' := [(5, .int 0), (4, .int r.1), (3, .int q.1), (2, .int (nI W)), (0, .ref 93), (1, .int (nI k))]) dX11_statement1_116 (lb rfl) rfl ?_
  refine A_aload_n dX11_statement1_118 rfl 4 rfl ?_
  refine A_getR (b := 100) dX11_statement1_119 fo_RX11_28 L93 rfl ?_
  refine A_iconst (v := 4) dX11_statement1_122 rfl ?_
  refine A_iload_n dX11_statement1_123 rfl 5 rfl ?_
  refine A_imul dX11_statement1_124 ?_
  refine A_iload_n dX11_statement1_125 rfl 3 rfl ?_
  refine A_iastore (4 * k) dX11_statement1_126 L100 (by simp only [lit, nI_add, pk_mul]) (by omega) (lb rfl) ?_
  refine A_eq rfl rfl (f' := rd 93 10 11 (u2 f 100 (4 * k) (nI W)) r.2 (-1)) (rd_uo f r.2 (-1) (nI W) (by decide)) ?_
  refine A_aload_n dX11_statement1_127 rfl 4 rfl ?_
  refine A_getR (b := 100) dX11_statement1_128 fo_RX11_28 L93 rfl ?_
  refine A_iconst (v := 4) dX11_statement1_131 rfl ?_
  refine A_iload_n dX11_statement1_132 rfl 5 rfl ?_
  refine A_imul dX11_statement1_133 ?_
  refine A_iconst (v := 1) dX11_statement1_134 rfl ?_
  refine A_iadd dX11_statement1_135 ?_
  refine A_iload_n dX11_statement1_136 rfl 2 rfl ?_
  refine A_iastore (4 * k + 1) dX11_statement1_137 L100 (by simp only [lit, nI_add, pk_mul]) (by omega) (lb rfl) ?_
  refine A_eq rfl rfl (f' := rd 93 10 11 (u2 (u2 f 100 (4 * k) (nI W)) 100 (4 * k + 1) q.1) r.2 (-1)) (rd_uo (u2 f 100 (4 * k) (nI W)) r.2 (-1) q.1 (by decide)) ?_
  refine A_aload_n dX11_statement1_138 rfl 4 rfl ?_
  refine A_getR (b := 100) dX11_statement1_139 fo_RX11_28 L93 rfl ?_
  refine A_iconst (v := 4) dX11_statement1_142 rfl ?_
  refine A_iload_n dX11_statement1_143 rfl 5 rfl ?_
  refine A_imul dX11_statement1_144 ?_
  refine A_iconst (v := 2) dX11_statement1_145 rfl ?_
  refine A_iadd dX11_statement1_146 ?_
  refine A_iload dX11_statement1_147 1 rfl ?_
  refine A_iastore (4 * k + 2) dX11_statement1_149 L100 (by simp only [lit, nI_add, pk_mul]) (by omega) (lb rfl) ?_
  refine A_eq rfl rfl (f' := rd 93 10 11 (u2 (u2 (u2 f 100 (4 * k) (nI W)) 100 (4 * k + 1) q.1) 100 (4 * k + 2) r.1) r.2 (-1)) (rd_uo (u2 (u2 f 100 (4 * k) (nI W)) 100 (4 * k + 1) q.1) r.2 (-1) r.1 (by decide)) ?_
  refine A_aload_n dX11_statement1_150 rfl 4 rfl ?_
  refine A_getR (b := 100) dX11_statement1_151 fo_RX11_28 L93 rfl ?_
  refine A_iconst (v := 4) dX11_statement1_154 rfl ?_
  refine A_iload_n dX11_statement1_155 rfl 5 rfl ?_
  refine A_imul dX11_statement1_156 ?_
  refine A_iconst (v := 3) dX11_statement1_157 rfl ?_
  refine A_iadd dX11_statement1_158 ?_
  refine A_iload dX11_statement1_159 0 rfl ?_
  refine A_iastore (4 * k + 3) dX11_statement1_161 L100 (by simp only [lit, nI_add, pk_mul]) (by omega) (lb rfl) ?_
  refine A_eq rfl rfl (f' := rd 93 10 11 (u2 (u2 (u2 (u2 f 100 (4 * k) (nI W)) 100 (4 * k + 1) q.1) 100 (4 * k + 2) r.1) 100 (4 * k + 3) 0) r.2 (-1)) (rd_uo (u2 (u2 (u2 f 100 (4 * k) (nI W)) 100 (4 * k + 1) q.1) 100 (4 * k + 2) r.1) r.2 (-1) 0 (by decide)) ?_
  exact A_vret dX11_statement1_162 rfl (⟨rfl, rfl⟩)
theorem c_st7t (f : Mem) (tn : Nat) (c : Nat → Nat) (hT : RTp f tn c) (hc : tcW c tn) (a k W E : Nat) (ha : a < 2 ^ 27) (hE : E < 2 ^ 27 + 200) (hk : k < 12) (hR : C0 MX11_word [.ref 93] (rd 93 10 11 f a (-1)) (rt (some (.int (nI W))) (rd 93 10 11 f E (-1)))) (hW : 5 ≤ W ∧ W < 8) {q : Int32 × Nat} (e1 : nu 1 3 c E = .inr q) {r : Int32 × Nat} (e2 : nuS c q.2 = .inr r) (h7 : W = 7) {z : Nat} (e3 : nu 2 12 c r.2 = .inl z) : C0 MX11_statement1 [.ref 93, .int (nI k)] (rd 93 10 11 f a (-1)) (fun r h => r = none ∧ ∃ (b : Nat) (x0 x1 x2 x3 : Int32), h = rd 93 10 11 (rq4 f k x0 x1 x2 x3) b (nI z)) := by
  have hb := nu_b e1
  have hb2 := nuS_b e2
  have hz := nu_l e3
  refine Ct.of (lv := [(0, .ref 93), (1, .int (nI k))]) (by decide) (lb rfl) rfl ?_
  refine A_aload_n dX11_statement1_0 rfl 0 rfl ?_
  refine A_callV (M' := MX11_word) [] [] 93 dX11_statement1_1 lk_RX11_119 oX11_word iX11_word rfl rfl ⟨lb rfl, lb rfl⟩ (lb rfl) ⟨lb rfl, lb rfl⟩ L93 rfl (hR) ?_
  rintro _ g0 ⟨rfl, hg0⟩
  rw [hg0]
  refine A_istore_n (lv' := [(2, .int (nI W)), (0, .ref 93), (1, .int (nI k))]) dX11_statement1_4 rfl (lb rfl) rfl ?_
  refine A_aload_n dX11_statement1_5 rfl 1 rfl ?_
  refine A_getI dX11_statement1_6 fo_RX11_92 L93 rfl ?_
  refine A_topi (-1) (rd_z f E (-1)) ?_
  refine A_if_lt (tgt := 16) dX11_statement1_9 rfl (fun h9 => ?_) (fun h9 => by exact absurd (by decide) h9)
  refine A_iload_n dX11_statement1_16 rfl 0 rfl ?_
  refine A_iconst (v := 5) dX11_statement1_17 rfl ?_
  refine A_icmp_ge (tgt := 31) dX11_statement1_18 rfl (fun h18 => ?_) (fun h18 => by exact absurd (by rw [show (5 : Int32) = nI 5 from rfl, nI_leI (by omega) (by omega)]; omega) h18)
  refine A_iload_n dX11_statement1_31 rfl 0 rfl ?_
  refine A_bipush (v := 8) dX11_statement1_32 rfl ?_
  refine A_icmp_ge (tgt := 47) dX11_statement1_34 rfl (fun h34 => by exact absurd h34 (fun q => by rw [show (8 : Int32) = nI 8 from rfl, nI_leI (by omega) (by omega)] at q; omega)) (fun h34 => ?_)
  refine A_aload_n dX11_statement1_37 rfl 1 rfl ?_
  refine A_iconst (v := 1) dX11_statement1_38 rfl ?_
  refine A_iconst (v := 3) dX11_statement1_39 rfl ?_
  refine A_iconst (v := 0) dX11_statement1_40 rfl ?_
  refine A_callV (M' := MX11_number) [.int 1, .int 3, .int 0] [] 93 dX11_statement1_41 lk_RX11_122 oX11_number iX11_number rfl rfl ⟨lb rfl, lb rfl⟩ (lb rfl) ⟨lb rfl, lb rfl⟩ L93 rfl (c_n4R f tn c hT hc E (by omega) e1) ?_
  rintro _ g0 ⟨rfl, hg0⟩
  rw [hg0]
  refine A_goto (tgt := 55) dX11_statement1_44 rfl ?_
  refine A_istore_n (lv' := [(3, .int q.1), (2, .int (nI W)), (0, .ref 93), (1, .int (nI k))]) dX11_statement1_55 rfl (lb rfl) rfl ?_
  refine A_aload_n dX11_statement1_56 rfl 2 rfl ?_
  refine A_getI dX11_statement1_57 fo_RX11_92 L93 rfl ?_
  refine A_topi (-1) (rd_z f q.2 (-1)) ?_
  refine A_if_ge (tgt := 88) dX11_statement1_60 rfl (fun h60 => by exact absurd h60 (by decide)) (fun h60 => ?_)
  refine A_iload_n dX11_statement1_63 rfl 1 rfl ?_
  refine A_i2l dX11_statement1_64 ?_
  refine A_ldc2 dX11_statement1_65 k_RX11_126 ?_
  refine A_ldc2 dX11_statement1_68 k_RX11_128 ?_
  refine A_callS (M' := MX11_in) [.long ((nI W).toInt64), .long 5, .long 7] [] dX11_statement1_71 lk_RX11_64 oX11_in sX11_in rfl rfl ⟨lb rfl, lb rfl⟩ (lb rfl) ⟨lb rfl, lb rfl⟩ (c_in _ _ _ _) ?_
  rintro _ g0 ⟨rfl, hg0⟩
  rw [hg0]
  refine A_topi (bz (5 ≤ W ∧ W ≤ 7)) (bz_c (in_57 W (by omega))) ?_
  refine A_if_eq (tgt := 88) dX11_statement1_74 rfl (fun h74 => by exact absurd (show 5 ≤ W ∧ W ≤ 7 by omega) (bz_0.mp h74)) (fun h74 => ?_)
  refine A_aload_n dX11_statement1_77 rfl 2 rfl ?_
  refine A_iconst (v := 2) dX11_statement1_78 rfl ?_
  refine A_bipush (v := 99) dX11_statement1_79 rfl ?_
  refine A_iconst (v := 1) dX11_statement1_81 rfl ?_
  refine A_callV (M' := MX11_number) [.int 2, .int 99, .int 1] [] 93 dX11_statement1_82 lk_RX11_122 oX11_number iX11_number rfl rfl ⟨lb rfl, lb rfl⟩ (lb rfl) ⟨lb rfl, lb rfl⟩ L93 rfl (c_nSR f tn c hT hc q.2 (by omega) e2) ?_
  rintro _ g0 ⟨rfl, hg0⟩
  rw [hg0]
  refine A_goto (tgt := 89) dX11_statement1_85 rfl ?_
  refine A_istore (lv' := [(4, .int r.1), (3, .int q.1), (2, .int (nI W)), (0, .ref 93), (1, .int (nI k))]) dX11_statement1_89 (lb rfl) rfl ?_
  refine A_aload_n dX11_statement1_91 rfl 3 rfl ?_
  refine A_getI dX11_statement1_92 fo_RX11_92 L93 rfl ?_
  refine A_topi (-1) (rd_z f r.2 (-1)) ?_
  refine A_if_ge (tgt := 115) dX11_statement1_95 rfl (fun h95 => by exact absurd h95 (by decide)) (fun h95 => ?_)
  refine A_iload_n dX11_statement1_98 rfl 2 rfl ?_
  refine A_bipush (v := 7) dX11_statement1_99 rfl ?_
  refine A_icmp_ne (tgt := 115) dX11_statement1_101 rfl (fun h101 => by exact absurd (by rw [h7]; rfl) h101) (fun h101 => ?_)
  refine A_aload_n dX11_statement1_104 rfl 3 rfl ?_
  refine A_iconst (v := 2) dX11_statement1_105 rfl ?_
  refine A_bipush (v := 12) dX11_statement1_106 rfl ?_
  refine A_iconst (v := 0) dX11_statement1_108 rfl ?_
  refine A_callV (M' := MX11_number) [.int 2, .int 12, .int 0] [] 93 dX11_statement1_109 lk_RX11_122 oX11_number iX11_number rfl rfl ⟨lb rfl, lb rfl⟩ (lb rfl) ⟨lb rfl, lb rfl⟩ L93 rfl (c_ntL f tn c hT hc r.2 (by omega) e3) ?_
  rintro _ g0 ⟨xz, bz, rfl, hg0⟩
  rw [hg0]
  refine A_goto (tgt := 116) dX11_statement1_112 rfl ?_
  refine A_istore (lv' := [(5, .int xz), (4, .int r.1), (3, .int q.1), (2, .int (nI W)), (0, .ref 93), (1, .int (nI k))]) dX11_statement1_116 (lb rfl) rfl ?_
  refine A_aload_n dX11_statement1_118 rfl 4 rfl ?_
  refine A_getR (b := 100) dX11_statement1_119 fo_RX11_28 L93 rfl ?_
  refine A_iconst (v := 4) dX11_statement1_122 rfl ?_
  refine A_iload_n dX11_statement1_123 rfl 5 rfl ?_
  refine A_imul dX11_statement1_124 ?_
  refine A_iload_n dX11_statement1_125 rfl 3 rfl ?_
  refine A_iastore (4 * k) dX11_statement1_126 L100 (by simp only [lit, nI_add, pk_mul]) (by omega) (lb rfl) ?_
  refine A_eq rfl rfl (f' := rd 93 10 11 (u2 f 100 (4 * k) (nI W)) bz (nI z)) (rd_uo f bz (nI z) (nI W) (by decide)) ?_
  refine A_aload_n dX11_statement1_127 rfl 4 rfl ?_
  refine A_getR (b := 100) dX11_statement1_128 fo_RX11_28 L93 rfl ?_
  refine A_iconst (v := 4) dX11_statement1_131 rfl ?_
  refine A_iload_n dX11_statement1_132 rfl 5 rfl ?_
  refine A_imul dX11_statement1_133 ?_
  refine A_iconst (v := 1) dX11_statement1_134 rfl ?_
  refine A_iadd dX11_statement1_135 ?_
  refine A_iload_n dX11_statement1_136 rfl 2 rfl ?_
  refine A_iastore (4 * k + 1) dX11_statement1_137 L100 (by simp only [lit, nI_add, pk_mul]) (by omega) (lb rfl) ?_
  refine A_eq rfl rfl (f' := rd 93 10 11 (u2 (u2 f 100 (4 * k) (nI W)) 100 (4 * k + 1) q.1) bz (nI z)) (rd_uo (u2 f 100 (4 * k) (nI W)) bz (nI z) q.1 (by decide)) ?_
  refine A_aload_n dX11_statement1_138 rfl 4 rfl ?_
  refine A_getR (b := 100) dX11_statement1_139 fo_RX11_28 L93 rfl ?_
  refine A_iconst (v := 4) dX11_statement1_142 rfl ?_
  refine A_iload_n dX11_statement1_143 rfl 5 rfl ?_
  refine A_imul dX11_statement1_144 ?_
  refine A_iconst (v := 2) dX11_statement1_145 rfl ?_
  refine A_iadd dX11_statement1_146 ?_
  refine A_iload dX11_statement1_147 1 rfl ?_
  refine A_iastore (4 * k + 2) dX11_statement1_149 L100 (by simp only [lit, nI_add, pk_mul]) (by omega) (lb rfl) ?_
  refine A_eq rfl rfl (f' := rd 93 10 11 (u2 (u2 (u2 f 100 (4 * k) (nI W)) 100 (4 * k + 1) q.1) 100 (4 * k + 2) r.1) bz (nI z)) (rd_uo (u2 (u2 f 100 (4 * k) (nI W)) 100 (4 * k + 1) q.1) bz (nI z) r.1 (by decide)) ?_
  refine A_aload_n dX11_statement1_150 rfl 4 rfl ?_
  refine A_getR (b := 100) dX11_statement1_151 fo_RX11_28 L93 rfl ?_
  refine A_iconst (v := 4) dX11_statement1_154 rfl ?_
  refine A_iload_n dX11_statement1_155 rfl 5 rfl ?_
  refine A_imul dX11_statement1_156 ?_
  refine A_iconst (v := 3) dX11_statement1_157 rfl ?_
  refine A_iadd dX11_statement1_158 ?_
  refine A_iload dX11_statement1_159 0 rfl ?_
  refine A_iastore (4 * k + 3) dX11_statement1_161 L100 (by simp only [lit, nI_add, pk_mul]) (by omega) (lb rfl) ?_
  refine A_eq rfl rfl (f' := rd 93 10 11 (u2 (u2 (u2 (u2 f 100 (4 * k) (nI W)) 100 (4 * k + 1) q.1) 100 (4 * k + 2) r.1) 100 (4 * k + 3) xz) bz (nI z)) (rd_uo (u2 (u2 (u2 f 100 (4 * k) (nI W)) 100 (4 * k + 1) q.1) 100 (4 * k + 2) r.1) bz (nI z) xz (by decide)) ?_
  exact A_vret dX11_statement1_162 rfl (⟨rfl, _, _, _, _, _, rfl⟩)
theorem c_st7u (f : Mem) (tn : Nat) (c : Nat → Nat) (hT : RTp f tn c) (hc : tcW c tn) (a k W E : Nat) (ha : a < 2 ^ 27) (hE : E < 2 ^ 27 + 200) (hk : k < 12) (hR : C0 MX11_word [.ref 93] (rd 93 10 11 f a (-1)) (rt (some (.int (nI W))) (rd 93 10 11 f E (-1)))) (hW : 5 ≤ W ∧ W < 8) {q : Int32 × Nat} (e1 : nu 1 3 c E = .inr q) {r : Int32 × Nat} (e2 : nuS c q.2 = .inr r) (h7 : W = 7) {u : Int32 × Nat} (e3 : nu 2 12 c r.2 = .inr u) : C0 MX11_statement1 [.ref 93, .int (nI k)] (rd 93 10 11 f a (-1)) (rt none (rd 93 10 11 (rq4 f k (nI W) q.1 r.1 u.1) u.2 (-1))) := by
  have hb := nu_b e1
  have hb2 := nuS_b e2
  have hb3 := nu_b e3
  refine Ct.of (lv := [(0, .ref 93), (1, .int (nI k))]) (by decide) (lb rfl) rfl ?_
  refine A_aload_n dX11_statement1_0 rfl 0 rfl ?_
  refine A_callV (M' := MX11_word) [] [] 93 dX11_statement1_1 lk_RX11_119 oX11_word iX11_word rfl rfl ⟨lb rfl, lb rfl⟩ (lb rfl) ⟨lb rfl, lb rfl⟩ L93 rfl (hR) ?_
  rintro _ g0 ⟨rfl, hg0⟩
  rw [hg0]
  refine A_istore_n (lv' := [(2, .int (nI W)), (0, .ref 93), (1, .int (nI k))]) dX11_statement1_4 rfl (lb rfl) rfl ?_
  refine A_aload_n dX11_statement1_5 rfl 1 rfl ?_
  refine A_getI dX11_statement1_6 fo_RX11_92 L93 rfl ?_
  refine A_topi (-1) (rd_z f E (-1)) ?_
  refine A_if_lt (tgt := 16) dX11_statement1_9 rfl (fun h9 => ?_) (fun h9 => by exact absurd (by decide) h9)
  refine A_iload_n dX11_statement1_16 rfl 0 rfl ?_
  refine A_iconst (v := 5) dX11_statement1_17 rfl ?_
  refine A_icmp_ge (tgt := 31) dX11_statement1_18 rfl (fun h18 => ?_) (fun h18 => by exact absurd (by rw [show (5 : Int32) = nI 5 from rfl, nI_leI (by omega) (by omega)]; omega) h18)
  refine A_iload_n dX11_statement1_31 rfl 0 rfl ?_
  refine A_bipush (v := 8) dX11_statement1_32 rfl ?_
  refine A_icmp_ge (tgt := 47) dX11_statement1_34 rfl (fun h34 => by exact absurd h34 (fun q => by rw [show (8 : Int32) = nI 8 from rfl, nI_leI (by omega) (by omega)] at q; omega)) (fun h34 => ?_)
  refine A_aload_n dX11_statement1_37 rfl 1 rfl ?_
  refine A_iconst (v := 1) dX11_statement1_38 rfl ?_
  refine A_iconst (v := 3) dX11_statement1_39 rfl ?_
  refine A_iconst (v := 0) dX11_statement1_40 rfl ?_
  refine A_callV (M' := MX11_number) [.int 1, .int 3, .int 0] [] 93 dX11_statement1_41 lk_RX11_122 oX11_number iX11_number rfl rfl ⟨lb rfl, lb rfl⟩ (lb rfl) ⟨lb rfl, lb rfl⟩ L93 rfl (c_n4R f tn c hT hc E (by omega) e1) ?_
  rintro _ g0 ⟨rfl, hg0⟩
  rw [hg0]
  refine A_goto (tgt := 55) dX11_statement1_44 rfl ?_
  refine A_istore_n (lv' := [(3, .int q.1), (2, .int (nI W)), (0, .ref 93), (1, .int (nI k))]) dX11_statement1_55 rfl (lb rfl) rfl ?_
  refine A_aload_n dX11_statement1_56 rfl 2 rfl ?_
  refine A_getI dX11_statement1_57 fo_RX11_92 L93 rfl ?_
  refine A_topi (-1) (rd_z f q.2 (-1)) ?_
  refine A_if_ge (tgt := 88) dX11_statement1_60 rfl (fun h60 => by exact absurd h60 (by decide)) (fun h60 => ?_)
  refine A_iload_n dX11_statement1_63 rfl 1 rfl ?_
  refine A_i2l dX11_statement1_64 ?_
  refine A_ldc2 dX11_statement1_65 k_RX11_126 ?_
  refine A_ldc2 dX11_statement1_68 k_RX11_128 ?_
  refine A_callS (M' := MX11_in) [.long ((nI W).toInt64), .long 5, .long 7] [] dX11_statement1_71 lk_RX11_64 oX11_in sX11_in rfl rfl ⟨lb rfl, lb rfl⟩ (lb rfl) ⟨lb rfl, lb rfl⟩ (c_in _ _ _ _) ?_
  rintro _ g0 ⟨rfl, hg0⟩
  rw [hg0]
  refine A_topi (bz (5 ≤ W ∧ W ≤ 7)) (bz_c (in_57 W (by omega))) ?_
  refine A_if_eq (tgt := 88) dX11_statement1_74 rfl (fun h74 => by exact absurd (show 5 ≤ W ∧ W ≤ 7 by omega) (bz_0.mp h74)) (fun h74 => ?_)
  refine A_aload_n dX11_statement1_77 rfl 2 rfl ?_
  refine A_iconst (v := 2) dX11_statement1_78 rfl ?_
  refine A_bipush (v := 99) dX11_statement1_79 rfl ?_
  refine A_iconst (v := 1) dX11_statement1_81 rfl ?_
  refine A_callV (M' := MX11_number) [.int 2, .int 99, .int 1] [] 93 dX11_statement1_82 lk_RX11_122 oX11_number iX11_number rfl rfl ⟨lb rfl, lb rfl⟩ (lb rfl) ⟨lb rfl, lb rfl⟩ L93 rfl (c_nSR f tn c hT hc q.2 (by omega) e2) ?_
  rintro _ g0 ⟨rfl, hg0⟩
  rw [hg0]
  refine A_goto (tgt := 89) dX11_statement1_85 rfl ?_
  refine A_istore (lv' := [(4, .int r.1), (3, .int q.1), (2, .int (nI W)), (0, .ref 93), (1, .int (nI k))]) dX11_statement1_89 (lb rfl) rfl ?_
  refine A_aload_n dX11_statement1_91 rfl 3 rfl ?_
  refine A_getI dX11_statement1_92 fo_RX11_92 L93 rfl ?_
  refine A_topi (-1) (rd_z f r.2 (-1)) ?_
  refine A_if_ge (tgt := 115) dX11_statement1_95 rfl (fun h95 => by exact absurd h95 (by decide)) (fun h95 => ?_)
  refine A_iload_n dX11_statement1_98 rfl 2 rfl ?_
  refine A_bipush (v := 7) dX11_statement1_99 rfl ?_
  refine A_icmp_ne (tgt := 115) dX11_statement1_101 rfl (fun h101 => by exact absurd (by rw [h7]; rfl) h101) (fun h101 => ?_)
  refine A_aload_n dX11_statement1_104 rfl 3 rfl ?_
  refine A_iconst (v := 2) dX11_statement1_105 rfl ?_
  refine A_bipush (v := 12) dX11_statement1_106 rfl ?_
  refine A_iconst (v := 0) dX11_statement1_108 rfl ?_
  refine A_callV (M' := MX11_number) [.int 2, .int 12, .int 0] [] 93 dX11_statement1_109 lk_RX11_122 oX11_number iX11_number rfl rfl ⟨lb rfl, lb rfl⟩ (lb rfl) ⟨lb rfl, lb rfl⟩ L93 rfl (c_ntR f tn c hT hc r.2 (by omega) e3) ?_
  rintro _ g0 ⟨rfl, hg0⟩
  rw [hg0]
  refine A_goto (tgt := 116) dX11_statement1_112 rfl ?_
  refine A_istore (lv' := [(5, .int u.1), (4, .int r.1), (3, .int q.1), (2, .int (nI W)), (0, .ref 93), (1, .int (nI k))]) dX11_statement1_116 (lb rfl) rfl ?_
  refine A_aload_n dX11_statement1_118 rfl 4 rfl ?_
  refine A_getR (b := 100) dX11_statement1_119 fo_RX11_28 L93 rfl ?_
  refine A_iconst (v := 4) dX11_statement1_122 rfl ?_
  refine A_iload_n dX11_statement1_123 rfl 5 rfl ?_
  refine A_imul dX11_statement1_124 ?_
  refine A_iload_n dX11_statement1_125 rfl 3 rfl ?_
  refine A_iastore (4 * k) dX11_statement1_126 L100 (by simp only [lit, nI_add, pk_mul]) (by omega) (lb rfl) ?_
  refine A_eq rfl rfl (f' := rd 93 10 11 (u2 f 100 (4 * k) (nI W)) u.2 (-1)) (rd_uo f u.2 (-1) (nI W) (by decide)) ?_
  refine A_aload_n dX11_statement1_127 rfl 4 rfl ?_
  refine A_getR (b := 100) dX11_statement1_128 fo_RX11_28 L93 rfl ?_
  refine A_iconst (v := 4) dX11_statement1_131 rfl ?_
  refine A_iload_n dX11_statement1_132 rfl 5 rfl ?_
  refine A_imul dX11_statement1_133 ?_
  refine A_iconst (v := 1) dX11_statement1_134 rfl ?_
  refine A_iadd dX11_statement1_135 ?_
  refine A_iload_n dX11_statement1_136 rfl 2 rfl ?_
  refine A_iastore (4 * k + 1) dX11_statement1_137 L100 (by simp only [lit, nI_add, pk_mul]) (by omega) (lb rfl) ?_
  refine A_eq rfl rfl (f' := rd 93 10 11 (u2 (u2 f 100 (4 * k) (nI W)) 100 (4 * k + 1) q.1) u.2 (-1)) (rd_uo (u2 f 100 (4 * k) (nI W)) u.2 (-1) q.1 (by decide)) ?_
  refine A_aload_n dX11_statement1_138 rfl 4 rfl ?_
  refine A_getR (b := 100) dX11_statement1_139 fo_RX11_28 L93 rfl ?_
  refine A_iconst (v := 4) dX11_statement1_142 rfl ?_
  refine A_iload_n dX11_statement1_143 rfl 5 rfl ?_
  refine A_imul dX11_statement1_144 ?_
  refine A_iconst (v := 2) dX11_statement1_145 rfl ?_
  refine A_iadd dX11_statement1_146 ?_
  refine A_iload dX11_statement1_147 1 rfl ?_
  refine A_iastore (4 * k + 2) dX11_statement1_149 L100 (by simp only [lit, nI_add, pk_mul]) (by omega) (lb rfl) ?_
  refine A_eq rfl rfl (f' := rd 93 10 11 (u2 (u2 (u2 f 100 (4 * k) (nI W)) 100 (4 * k + 1) q.1) 100 (4 * k + 2) r.1) u.2 (-1)) (rd_uo (u2 (u2 f 100 (4 * k) (nI W)) 100 (4 * k + 1) q.1) u.2 (-1) r.1 (by decide)) ?_
  refine A_aload_n dX11_statement1_150 rfl 4 rfl ?_
  refine A_getR (b := 100) dX11_statement1_151 fo_RX11_28 L93 rfl ?_
  refine A_iconst (v := 4) dX11_statement1_154 rfl ?_
  refine A_iload_n dX11_statement1_155 rfl 5 rfl ?_
  refine A_imul dX11_statement1_156 ?_
  refine A_iconst (v := 3) dX11_statement1_157 rfl ?_
  refine A_iadd dX11_statement1_158 ?_
  refine A_iload dX11_statement1_159 0 rfl ?_
  refine A_iastore (4 * k + 3) dX11_statement1_161 L100 (by simp only [lit, nI_add, pk_mul]) (by omega) (lb rfl) ?_
  refine A_eq rfl rfl (f' := rd 93 10 11 (u2 (u2 (u2 (u2 f 100 (4 * k) (nI W)) 100 (4 * k + 1) q.1) 100 (4 * k + 2) r.1) 100 (4 * k + 3) u.1) u.2 (-1)) (rd_uo (u2 (u2 (u2 f 100 (4 * k) (nI W)) 100 (4 * k + 1) q.1) 100 (4 * k + 2) r.1) u.2 (-1) u.1 (by decide)) ?_
  exact A_vret dX11_statement1_162 rfl (⟨rfl, rfl⟩)
theorem c_st (f : Mem) (tn : Nat) (c : Nat → Nat) (hT : RTp f tn c) (hc : tcW c tn) (hA : RA f) (a k : Nat) (ha : a < 2 ^ 27) (hk : k < 12) : C0 MX11_statement1 [.ref 93, .int (nI k)] (rd 93 10 11 f a (-1)) (fun r h => r = none ∧ match stm c a with | .inl z => ∃ (b : Nat) (x0 x1 x2 x3 : Int32), h = rd 93 10 11 (rq4 f k x0 x1 x2 x3) b (nI z) | .inr q => h = rd 93 10 11 (rq4 f k (nI q.1) q.2.1 q.2.2.1 q.2.2.2.1) q.2.2.2.2 (-1)) := by
  have hR := c_word f tn c hT hc hA a (by omega)
  have hE : wE c 120 a < 2 ^ 27 + 200 := by
    rcases hc.wL (hc.wE a) with q | q
    · have := hc.1; omega
    · omega
  have hW9 := wD_lt (c := c) (b := a) (e := wE c 120 a) 9 (Nat.le_refl _)
  unfold wP at hR
  unfold stm
  generalize wE c 120 a = E at hR hE hW9 ⊢
  generalize wD c a E 9 = W at hR hW9 ⊢
  by_cases h9 : W = 9
  · simp only [if_pos h9] at hR
    rw [if_pos h9]
    exact c_st9 f tn c hT hc a k W E ha hE hk hR
  · simp only [if_neg h9] at hR
    rw [if_neg h9]
    by_cases h8 : W = 8
    · rw [if_pos h8]
      cases e1 : nu 2 12 c E with
      | inl z => exact c_st8l f tn c hT hc a k W E ha hE hk hR h8 e1
      | inr q =>
        have t := c_st8r f tn c hT hc a k W E ha hE hk hR h8 e1
        rw [h8] at t
        exact t
    · rw [if_neg h8]
      by_cases h5 : W < 5
      · rw [if_pos h5]
        cases e1 : nu 1 2 c E with
        | inl z => exact c_st5l f tn c hT hc a k W E ha hE hk hR h5 e1
        | inr q => dsimp only; rw [if_pos h5]; exact c_st5r f tn c hT hc a k W E ha hE hk hR h5 e1
      · rw [if_neg h5]
        have hW : 5 ≤ W ∧ W < 8 := by omega
        cases e1 : nu 1 3 c E with
        | inl z => exact c_st7l f tn c hT hc a k W E ha hE hk hR hW e1
        | inr q =>
          dsimp only; rw [if_neg h5]
          cases e2 : nuS c q.2 with
          | inl z => exact c_st7m f tn c hT hc a k W E ha hE hk hR hW e1 e2
          | inr r =>
            dsimp only
            by_cases h7 : W = 7
            · rw [if_neg (by omega)]
              cases e3 : nu 2 12 c r.2 with
              | inl z => exact c_st7t f tn c hT hc a k W E ha hE hk hR hW e1 e2 h7 e3
              | inr u =>
                have t := c_st7u f tn c hT hc a k W E ha hE hk hR hW e1 e2 h7 e3
                rw [h7] at t
                exact t
            · rw [if_pos (by omega)]
              exact c_st7r f tn c hT hc a k W E ha hE hk hR hW e1 e2 h7
