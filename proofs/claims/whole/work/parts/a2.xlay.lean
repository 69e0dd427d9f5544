/-! lay: the class -/
def lyR (g : Ro) (i c : Nat) (φ : Nat → Int32) : Ro := fun j => if i ≤ j ∧ j < i + c then φ (j - i) else g j
theorem lyR_0 (g : Ro) (i : Nat) (φ : Nat → Int32) : lyR g i 0 φ = g := by funext j; simp only [lyR]; rw [if_neg (by omega)]
theorem lyR_s (g : Ro) (i c : Nat) (φ : Nat → Int32) : upd (lyR g i c φ) (i + c) (φ c) = lyR g i (c + 1) φ := by
  funext j; simp only [lyR, upd]
  by_cases h : j = i + c
  · rw [if_pos h, if_pos (by omega), h, show i + c - i = c by omega]
  · rw [if_neg h]
    by_cases z : i ≤ j ∧ j < i + c
    · rw [if_pos z, if_pos (by omega)]
    · rw [if_neg z, if_neg (by omega)]
def lyL (li : Nat → Ro) (l i c : Nat) (φ : Nat → Int32) : Nat → Ro := fun m => if m = l then lyR (li l) i c φ else li m
theorem XL.ly {f h : Mem} {ln : Nat → Nat} {li : Nat → Ro} (q : XL f ln li) {l i c : Nat} {φ : Nat → Int32} (hl : l < 4) (hc : i + c ≤ 40) (e87 : h 87 = f 87) (e : ∀ m, m < 4 → m ≠ l → h (89 + m) = f (89 + m)) (el : h (89 + l) = lyR (f (89 + l)) i c φ) : XL h ln (lyL li l i c φ) := by
  refine ⟨fun m hm => by rw [e87]; exact q.1 m hm, fun m hm j hj => ?_⟩
  unfold lyL
  by_cases z : m = l
  · rw [if_pos z, z, el]; unfold lyR; split
    · rfl
    · exact q.2 l hl j hj
  · rw [if_neg z, e m hm z]; exact q.2 m hm j hj
theorem mv_i {q : Sr} (hW : Jw q) {a i : Nat} (ha : ¬ a = 0) (hl : a ≤ q.1) (hi : i < q.2.2.2.2.1 (a - 1)) : mvV q a (nI i) = nI (q.2.2.2.1 (anc q (a - 1) (q.2.2.2.2.1 (a - 1) - 1 - i))) := by
  have h1 := hW.le (a - 1) (by omega)
  have h2 := hW.2.1
  rw [mvV, if_neg (fun z => z.elim ha (fun z => z ((inR_nI (by omega)).mpr hi))), nI_clamp (by omega)]
theorem pl_1 {L i c D : Nat} (hL : L ≤ 40) (hi : i < 2 ^ 31) (hD : D ≤ 600) (h0 : 0 < D) (hc : c = min D (L - i)) : (∀ k, k < c → ¬ nI L - nI i ≤ nI k) ∧ (c < D → nI L - nI i ≤ nI c) ∧ (nI D ≤ nI L - nI i ↔ c = D) := by
  rcases Nat.lt_or_ge L i with q | q
  · have e : (nI L - nI i).toInt = (L : Int) - i := by
      rw [Int32.toInt_sub, nI_toInt (by omega), nI_toInt hi, Int.bmod_eq_of_le] <;> omega
    have lt : ∀ k, k < 2 ^ 31 → nI L - nI i ≤ nI k := fun k hk => by rw [Int32.le_iff_toInt_le, e, nI_toInt hk]; omega
    refine ⟨fun k hk => by omega, fun _ => lt c (by omega), ?_⟩
    rw [Int32.le_iff_toInt_le, e, nI_toInt (by omega)]
    omega
  · rw [nI_subN q]
    refine ⟨fun k hk => by rw [nI_leI (by omega) (by omega)]; omega, fun h => by rw [nI_leI (by omega) (by omega)]; omega, by rw [nI_leI (by omega) (by omega)]; omega⟩
theorem lx_lay (h : Mem) (p : Ro) (d : Cd) (u : Pt) (q : Sr) (x : XE h p d u q) (hW : Jw q) (a l i D c : Nat) (PL what : Int32) (ha : ¬ a = 0) (hla : a ≤ q.1) (hD : q.2.2.2.2.1 (a - 1) = D) (hl : l < 4) (hcD : c ≤ D) (hc40 : i + c ≤ 40 ∨ c = 0) (f1 : ∀ k, k < c → ¬ PL ≤ nI k) (f2 : c < D → PL ≤ nI c) (f3 : nI D ≤ PL ↔ c = D) (Q : Option Value → Mem → Prop) (hQ1 : c = D → Q (some (.int (nI D))) (ur h (89 + l) (lyR (h (89 + l)) i c (fun t => mvV q a (nI t))))) (hQ2 : ¬ c = D → Q (some (.int (-13))) (ur h (89 + l) (lyR (h (89 + l)) i c (fun t => mvV q a (nI t))))) : ∀ k, k ≤ c → A (cM MX10_lay 0 0 layT layT Q) 109 [(8, .int (nI k)), (7, .int PL), (6, .int (nI D)), (5, .int (nI a - 1)), (3, .int (nI i)), (2, .int (nI l)), (0, .ref 0)] [] (ur h (89 + l) (lyR (h (89 + l)) i k (fun t => mvV q a (nI t)))) := by
  have h600 := hW.2.1
  have hle := hW.le (a - 1) (by omega)
  refine up_ind c (fun k hk ih => ?_)
  refine A_iload dX10_lay_109 0 rfl ?_
  refine A_iload dX10_lay_111 2 rfl ?_
  refine A_icmp_ge (tgt := 154) dX10_lay_113 rfl (fun h113 => ?_) (fun h113 => ?_)
  · rw [nI_leI (by omega) (by omega)] at h113
    have hkc : k = c := by omega
    refine A_iload dX10_lay_154 2 rfl ?_
    refine A_iload dX10_lay_156 1 rfl ?_
    refine A_icmp_le (tgt := 166) dX10_lay_158 rfl (fun h158 => ?_) (fun h158 => ?_)
    · refine A_iload dX10_lay_166 2 rfl ?_
      exact A_iret dX10_lay_168 rfl (by rw [hkc]; exact hQ1 (f3.mp h158))
    · refine A_bipush (v := -13) dX10_lay_161 rfl ?_
      refine A_goto (tgt := 168) dX10_lay_163 rfl ?_
      exact A_iret dX10_lay_168 rfl (by rw [hkc]; exact hQ2 (fun z => h158 (f3.mpr z)))
  · rw [nI_leI (by omega) (by omega)] at h113
    refine A_iload dX10_lay_116 0 rfl ?_
    refine A_iload dX10_lay_118 1 rfl ?_
    refine A_icmp_ge (tgt := 154) dX10_lay_120 rfl (fun h120 => ?_) (fun h120 => ?_)
    · have hkc : k = c := by
        rcases Nat.lt_or_ge k c with z | z
        · exact absurd h120 (f1 k z)
        · omega
      refine A_iload dX10_lay_154 2 rfl ?_
      refine A_iload dX10_lay_156 1 rfl ?_
      refine A_icmp_le (tgt := 166) dX10_lay_158 rfl (fun h158 => ?_) (fun h158 => ?_)
      · refine A_iload dX10_lay_166 2 rfl ?_
        exact A_iret dX10_lay_168 rfl (by rw [hkc]; exact hQ1 (f3.mp h158))
      · refine A_bipush (v := -13) dX10_lay_161 rfl ?_
        refine A_goto (tgt := 168) dX10_lay_163 rfl ?_
        exact A_iret dX10_lay_168 rfl (by rw [hkc]; exact hQ2 (fun z => h158 (f3.mpr z)))
    · have hkc : k < c := by
        rcases Nat.lt_or_ge k c with z | z
        · exact z
        · exact absurd (by rw [show k = c by omega]; exact f2 (by omega)) h120
      refine A_aload_n dX10_lay_123 rfl 6 rfl ?_
      refine A_getR (b := 86) dX10_lay_124 fo_RX10_59 L0 rfl ?_
      refine A_getR (b := 88) dX10_lay_127 fo_RX10_159 L86 rfl ?_
      refine A_iload_n dX10_lay_130 rfl 5 rfl ?_
      refine A_aaload3 (b := 89 + l) l dX10_lay_131 L88 (rfl) (by omega) (lb rfl) ((lay89 l hl).2) ?_
      refine A_iload_n dX10_lay_132 rfl 4 rfl ?_
      refine A_iload dX10_lay_133 0 rfl ?_
      refine A_iadd dX10_lay_135 ?_
      refine A_aload_n dX10_lay_136 rfl 6 rfl ?_
      refine A_getR (b := 55) dX10_lay_137 fo_RX10_52 L0 rfl ?_
      refine A_iload dX10_lay_140 3 rfl ?_
      refine A_iload dX10_lay_142 0 rfl ?_
      refine A_callV (M' := MX6_moverOf) [.int (nI a - 1), .int (nI k)] [.int ((nI i) + (nI k)), .ref (89 + l)] 55 dX10_lay_144 lk_RX10_253 oX6_moverOf iX6_moverOf rfl rfl ⟨lb rfl, lb rfl⟩ (lb rfl) ⟨lb rfl, lb rfl⟩ L55 rfl (x_moverOf _ p d u q (x.c (fun j _ _ => by rw [ur_n _ _ (by omega)]) (by rw [ur_n _ _ (by omega)]) (ur_n _ _ (by omega)) (fun b b1 b2 => ur_n _ _ (by omega))) hW a hla (nI k)) ?_
      rintro _ g0 ⟨rfl, hg0⟩
      rw [hg0]
      refine A_iastore (i + k) dX10_lay_147 ((lay89 l hl).1) (by simp only [lit, nI_add, pk_mul]) (by omega) (lb rfl) ?_
      refine A_eq rfl rfl (f' := ur h (89 + l) (lyR (h (89 + l)) i (k + 1) (fun t => mvV q a (nI t)))) (by rw [u2, ur_s, ur_ur]; congr 1; exact lyR_s _ _ _ (fun t => mvV q a (nI t))) ?_
      refine A_iinc (lv' := [(8, .int (nI (k + 1))), (7, .int PL), (6, .int (nI D)), (5, .int (nI a - 1)), (3, .int (nI i)), (2, .int (nI l)), (0, .ref 0)]) dX10_lay_148 0 rfl (nI_add k 1) (lb rfl) rfl ?_
      refine A_goto (tgt := 109) dX10_lay_151 rfl ?_
      refine A_sub [0, 1, 2, 3, 4, 5, 6] rfl ?_
      exact ih (k + 1) (by omega) (by omega)
theorem x_lay1 (y x z : Int32) (f : Mem) (hy : ¬ inR y 2) : C0 MX10_lay [.ref 0, .int y, .int x, .int z] f (rt (some (.int (-1))) f) := by
  refine Ct.of (lv := [(0, .ref 0), (1, .int y), (2, .int x), (3, .int z)]) (by decide) (lb rfl) rfl ?_
  refine A_iload_n dX10_lay_0 rfl 1 rfl ?_
  refine A_if_lt (tgt := 9) dX10_lay_1 rfl (fun h1 => ?_) (fun h1 => ?_)
  · refine A_iconst (v := -1) dX10_lay_9 rfl ?_
    exact A_iret dX10_lay_10 rfl (⟨rfl, rfl⟩)
  · refine A_iload_n dX10_lay_4 rfl 1 rfl ?_
    refine A_iconst (v := 1) dX10_lay_5 rfl ?_
    refine A_icmp_le (tgt := 11) dX10_lay_6 rfl (fun h6 => ?_) (fun h6 => ?_)
    · exact absurd (in2_t h1 h6) hy
    · refine A_iconst (v := -1) dX10_lay_9 rfl ?_
      exact A_iret dX10_lay_10 rfl (⟨rfl, rfl⟩)
theorem x_lay2 (y x z : Int32) (f : Mem) (ln : Nat → Nat) (li : Nat → Ro) (hL : XL f ln li) (hw : wL ln) (hy : inR y 2) (hx : ¬ inR x 4) : C0 MX10_lay [.ref 0, .int y, .int x, .int z] f (rt (some (.int (-1))) f) := by
  refine Ct.of (lv := [(0, .ref 0), (1, .int y), (2, .int x), (3, .int z)]) (by decide) (lb rfl) rfl ?_
  refine A_iload_n dX10_lay_0 rfl 1 rfl ?_
  refine A_if_lt (tgt := 9) dX10_lay_1 rfl (fun h1 => by exact absurd h1 (in2_n hy).1) (fun h1 => ?_)
  refine A_iload_n dX10_lay_4 rfl 1 rfl ?_
  refine A_iconst (v := 1) dX10_lay_5 rfl ?_
  refine A_icmp_le (tgt := 11) dX10_lay_6 rfl (fun h6 => ?_) (fun h6 => by exact absurd (in2_n hy).2 h6)
  refine A_aload_n dX10_lay_11 rfl 0 rfl ?_
  refine A_getR (b := 86) dX10_lay_12 fo_RX10_59 L0 rfl ?_
  refine A_iload_n dX10_lay_15 rfl 2 rfl ?_
  refine A_callV (M' := MX2_refusalOf) [.int x] [] 86 dX10_lay_16 lk_RX10_153 oX2_refusalOf iX2_refusalOf rfl rfl ⟨lb rfl, lb rfl⟩ (lb rfl) ⟨lb rfl, lb rfl⟩ L86 rfl (x_refusalOf x f ln li hL hw) ?_
  rintro _ g0 ⟨rfl, hg0⟩
  rw [hg0]
  refine A_topi (-1) (if_neg hx) ?_
  refine A_istore (lv' := [(4, .int (-1)), (0, .ref 0), (1, .int y), (2, .int x), (3, .int z)]) dX10_lay_19 (lb rfl) rfl ?_
  refine A_iload dX10_lay_21 0 rfl ?_
  refine A_if_eq (tgt := 29) dX10_lay_23 rfl (fun h23 => by exact absurd h23 (by decide)) (fun h23 => ?_)
  refine A_iload dX10_lay_26 0 rfl ?_
  exact A_iret dX10_lay_28 rfl (⟨rfl, rfl⟩)
theorem x_lay3 (y z : Int32) (l : Nat) (f : Mem) (ln : Nat → Nat) (li : Nat → Ro) (hL : XL f ln li) (hw : wL ln) (hy : inR y 2) (hl : l < 4) (h0 : ln l = 0) : C0 MX10_lay [.ref 0, .int y, .int (nI l), .int z] f (rt (some (.int (-11))) f) := by
  refine Ct.of (lv := [(0, .ref 0), (1, .int y), (2, .int (nI l)), (3, .int z)]) (by decide) (lb rfl) rfl ?_
  refine A_iload_n dX10_lay_0 rfl 1 rfl ?_
  refine A_if_lt (tgt := 9) dX10_lay_1 rfl (fun h1 => by exact absurd h1 (in2_n hy).1) (fun h1 => ?_)
  refine A_iload_n dX10_lay_4 rfl 1 rfl ?_
  refine A_iconst (v := 1) dX10_lay_5 rfl ?_
  refine A_icmp_le (tgt := 11) dX10_lay_6 rfl (fun h6 => ?_) (fun h6 => by exact absurd (in2_n hy).2 h6)
  refine A_aload_n dX10_lay_11 rfl 0 rfl ?_
  refine A_getR (b := 86) dX10_lay_12 fo_RX10_59 L0 rfl ?_
  refine A_iload_n dX10_lay_15 rfl 2 rfl ?_
  refine A_callV (M' := MX2_refusalOf) [.int (nI l)] [] 86 dX10_lay_16 lk_RX10_153 oX2_refusalOf iX2_refusalOf rfl rfl ⟨lb rfl, lb rfl⟩ (lb rfl) ⟨lb rfl, lb rfl⟩ L86 rfl (x_refusalOf (nI l) f ln li hL hw) ?_
  rintro _ g0 ⟨rfl, hg0⟩
  rw [hg0]
  refine A_topi (-11) (by rw [if_pos ((inR_nI (by omega)).mpr hl), nI_clamp (by omega), if_pos h0]) ?_
  refine A_istore (lv' := [(4, .int (-11)), (0, .ref 0), (1, .int y), (2, .int (nI l)), (3, .int z)]) dX10_lay_19 (lb rfl) rfl ?_
  refine A_iload dX10_lay_21 0 rfl ?_
  refine A_if_eq (tgt := 29) dX10_lay_23 rfl (fun h23 => by exact absurd h23 (by decide)) (fun h23 => ?_)
  refine A_iload dX10_lay_26 0 rfl ?_
  exact A_iret dX10_lay_28 rfl (⟨rfl, rfl⟩)
theorem x_lay4 (y z : Int32) (l : Nat) (f : Mem) (s : Sg) (k p rz lz : Ro) (hC : XC f s k p rz lz) (w : wfC s k p) (d : Cd) (hNc : XNc f d.1 d.2.1 d.2.2.1 d.2.2.2) (hwN : wN d.1 d.2.1 d.2.2.1) (hS : XS f p d (s, k)) (ln : Nat → Nat) (li : Nat → Ro) (hL : XL f ln li) (hw : wL ln) (hy : inR y 2) (hl : l < 4) (h0 : ¬ ln l = 0) (ha : (gSt (s 13 0) d (sch p (s, k)) y) = 0) : C0 MX10_lay [.ref 0, .int y, .int (nI l), .int z] f (fun r h => r = some (.int (-5)) ∧ XS h p d (s, k) ∧ ∀ b, b < 55 ∨ 85 < b → h b = f b) := by
  refine Ct.of (lv := [(0, .ref 0), (1, .int y), (2, .int (nI l)), (3, .int z)]) (by decide) (lb rfl) rfl ?_
  refine A_iload_n dX10_lay_0 rfl 1 rfl ?_
  refine A_if_lt (tgt := 9) dX10_lay_1 rfl (fun h1 => by exact absurd h1 (in2_n hy).1) (fun h1 => ?_)
  refine A_iload_n dX10_lay_4 rfl 1 rfl ?_
  refine A_iconst (v := 1) dX10_lay_5 rfl ?_
  refine A_icmp_le (tgt := 11) dX10_lay_6 rfl (fun h6 => ?_) (fun h6 => by exact absurd (in2_n hy).2 h6)
  refine A_aload_n dX10_lay_11 rfl 0 rfl ?_
  refine A_getR (b := 86) dX10_lay_12 fo_RX10_59 L0 rfl ?_
  refine A_iload_n dX10_lay_15 rfl 2 rfl ?_
  refine A_callV (M' := MX2_refusalOf) [.int (nI l)] [] 86 dX10_lay_16 lk_RX10_153 oX2_refusalOf iX2_refusalOf rfl rfl ⟨lb rfl, lb rfl⟩ (lb rfl) ⟨lb rfl, lb rfl⟩ L86 rfl (x_refusalOf (nI l) f ln li hL hw) ?_
  rintro _ g0 ⟨rfl, hg0⟩
  rw [hg0]
  refine A_topi (0) (by rw [if_pos ((inR_nI (by omega)).mpr hl), nI_clamp (by omega), if_neg h0]) ?_
  refine A_istore (lv' := [(4, .int 0), (0, .ref 0), (1, .int y), (2, .int (nI l)), (3, .int z)]) dX10_lay_19 (lb rfl) rfl ?_
  refine A_iload dX10_lay_21 0 rfl ?_
  refine A_if_eq (tgt := 29) dX10_lay_23 rfl (fun h23 => ?_) (fun h23 => by exact absurd rfl h23)
  refine A_aload_n dX10_lay_29 rfl 1 rfl ?_
  refine A_getR (b := 55) dX10_lay_30 fo_RX10_52 L0 rfl ?_
  refine A_aload_n dX10_lay_33 rfl 1 rfl ?_
  refine A_getR (b := 1) dX10_lay_34 fo_RX10_10 L0 rfl ?_
  refine A_aload_n dX10_lay_37 rfl 1 rfl ?_
  refine A_getR (b := 51) dX10_lay_38 fo_RX10_45 L0 rfl ?_
  refine A_callV (M' := MX6_explore) [.ref 1, .ref 51] [] 55 dX10_lay_41 lk_RX10_215 oX6_explore iX6_explore rfl rfl ⟨lb rfl, lb rfl⟩ (lb rfl) ⟨lb rfl, lb rfl⟩ L55 rfl (x_explore f s k p rz lz hC w d hNc hwN hS) ?_
  rintro _ h ⟨rfl, x, hS2, hb⟩
  have hW := Jw_s (p := p) (u := (s, k)) w
  have hga : (gSt (s 13 0) d (sch p (s, k)) y) ≤ (sch p (s, k)).1 := by unfold gSt; split; exact fi_le _ _; exact fi_le _ _
  refine A_iload_n dX10_lay_44 rfl 2 rfl ?_
  refine A_if_ne (tgt := 58) dX10_lay_45 rfl (fun h45 => ?_) (fun h45 => ?_)
  · refine A_aload_n dX10_lay_58 rfl 1 rfl ?_
    refine A_getR (b := 55) dX10_lay_59 fo_RX10_52 L0 rfl ?_
    refine A_getI dX10_lay_62 fo_RX10_244 L55 rfl ?_
    refine A_topi (nI (faS d (sch p (s, k))) - 1) (x.2.1.2.1) ?_
    refine A_topi (nI (gSt (s 13 0) d (sch p (s, k)) y) - 1) (by rw [gSt_1 h45]) ?_
    refine A_istore (lv' := [(5, .int (nI (gSt (s 13 0) d (sch p (s, k)) y) - 1)), (4, .int 0), (0, .ref 0), (1, .int y), (2, .int (nI l)), (3, .int z)]) dX10_lay_65 (lb rfl) rfl ?_
    refine A_aload_n dX10_lay_67 rfl 2 rfl ?_
    refine A_getR (b := 55) dX10_lay_68 fo_RX10_52 L0 rfl ?_
    refine A_iload dX10_lay_71 0 rfl ?_
    refine A_callV (M' := MX6_depthOf) [.int (nI (gSt (s 13 0) d (sch p (s, k)) y) - 1)] [] 55 dX10_lay_73 lk_RX10_241 oX6_depthOf iX6_depthOf rfl rfl ⟨lb rfl, lb rfl⟩ (lb rfl) ⟨lb rfl, lb rfl⟩ L55 rfl (x_depthOf h p d (s, k) (sch p (s, k)) x hW (gSt (s 13 0) d (sch p (s, k)) y) hga) ?_
    rintro _ g0 ⟨rfl, hg0⟩
    rw [hg0]
    refine A_istore (lv' := [(6, .int (dpf (sch p (s, k)) (gSt (s 13 0) d (sch p (s, k)) y))), (5, .int (nI (gSt (s 13 0) d (sch p (s, k)) y) - 1)), (4, .int 0), (0, .ref 0), (1, .int y), (2, .int (nI l)), (3, .int z)]) dX10_lay_76 (lb rfl) rfl ?_
    refine A_iload dX10_lay_78 0 rfl ?_
    refine A_if_gt (tgt := 86) dX10_lay_80 rfl (fun h80 => by exact absurd h80 (by rw [dpf, if_pos ha]; decide)) (fun h80 => ?_)
    refine A_iload dX10_lay_83 0 rfl ?_
    exact A_iret dX10_lay_85 rfl (⟨by rw [dpf, if_pos ha], hS2, hb⟩)
  · refine A_aload_n dX10_lay_48 rfl 1 rfl ?_
    refine A_getR (b := 55) dX10_lay_49 fo_RX10_52 L0 rfl ?_
    refine A_getI dX10_lay_52 fo_RX10_238 L55 rfl ?_
    refine A_topi (nI (stS (s 13 0) (sch p (s, k))) - 1) (x.2.1.1.2) ?_
    refine A_topi (nI (gSt (s 13 0) d (sch p (s, k)) y) - 1) (by rw [gSt_0 h45]) ?_
    refine A_goto (tgt := 65) dX10_lay_55 rfl ?_
    refine A_istore (lv' := [(5, .int (nI (gSt (s 13 0) d (sch p (s, k)) y) - 1)), (4, .int 0), (0, .ref 0), (1, .int y), (2, .int (nI l)), (3, .int z)]) dX10_lay_65 (lb rfl) rfl ?_
    refine A_aload_n dX10_lay_67 rfl 2 rfl ?_
    refine A_getR (b := 55) dX10_lay_68 fo_RX10_52 L0 rfl ?_
    refine A_iload dX10_lay_71 0 rfl ?_
    refine A_callV (M' := MX6_depthOf) [.int (nI (gSt (s 13 0) d (sch p (s, k)) y) - 1)] [] 55 dX10_lay_73 lk_RX10_241 oX6_depthOf iX6_depthOf rfl rfl ⟨lb rfl, lb rfl⟩ (lb rfl) ⟨lb rfl, lb rfl⟩ L55 rfl (x_depthOf h p d (s, k) (sch p (s, k)) x hW (gSt (s 13 0) d (sch p (s, k)) y) hga) ?_
    rintro _ g0 ⟨rfl, hg0⟩
    rw [hg0]
    refine A_istore (lv' := [(6, .int (dpf (sch p (s, k)) (gSt (s 13 0) d (sch p (s, k)) y))), (5, .int (nI (gSt (s 13 0) d (sch p (s, k)) y) - 1)), (4, .int 0), (0, .ref 0), (1, .int y), (2, .int (nI l)), (3, .int z)]) dX10_lay_76 (lb rfl) rfl ?_
    refine A_iload dX10_lay_78 0 rfl ?_
    refine A_if_gt (tgt := 86) dX10_lay_80 rfl (fun h80 => by exact absurd h80 (by rw [dpf, if_pos ha]; decide)) (fun h80 => ?_)
    refine A_iload dX10_lay_83 0 rfl ?_
    exact A_iret dX10_lay_85 rfl (⟨by rw [dpf, if_pos ha], hS2, hb⟩)
theorem x_lay5 (y z : Int32) (l : Nat) (f : Mem) (s : Sg) (k p rz lz : Ro) (hC : XC f s k p rz lz) (w : wfC s k p) (d : Cd) (hNc : XNc f d.1 d.2.1 d.2.2.1 d.2.2.2) (hwN : wN d.1 d.2.1 d.2.2.1) (hS : XS f p d (s, k)) (ln : Nat → Nat) (li : Nat → Ro) (hL : XL f ln li) (hw : wL ln) (hy : inR y 2) (hl : l < 4) (h0 : ¬ ln l = 0) (ha : ¬ (gSt (s 13 0) d (sch p (s, k)) y) = 0) (hd0 : (sch p (s, k)).2.2.2.2.1 ((gSt (s 13 0) d (sch p (s, k)) y) - 1) = 0) : C0 MX10_lay [.ref 0, .int y, .int (nI l), .int z] f (fun r h => r = some (.int 0) ∧ XS h p d (s, k) ∧ ∀ b, b < 55 ∨ 85 < b → h b = f b) := by
  refine Ct.of (lv := [(0, .ref 0), (1, .int y), (2, .int (nI l)), (3, .int z)]) (by decide) (lb rfl) rfl ?_
  refine A_iload_n dX10_lay_0 rfl 1 rfl ?_
  refine A_if_lt (tgt := 9) dX10_lay_1 rfl (fun h1 => by exact absurd h1 (in2_n hy).1) (fun h1 => ?_)
  refine A_iload_n dX10_lay_4 rfl 1 rfl ?_
  refine A_iconst (v := 1) dX10_lay_5 rfl ?_
  refine A_icmp_le (tgt := 11) dX10_lay_6 rfl (fun h6 => ?_) (fun h6 => by exact absurd (in2_n hy).2 h6)
  refine A_aload_n dX10_lay_11 rfl 0 rfl ?_
  refine A_getR (b := 86) dX10_lay_12 fo_RX10_59 L0 rfl ?_
  refine A_iload_n dX10_lay_15 rfl 2 rfl ?_
  refine A_callV (M' := MX2_refusalOf) [.int (nI l)] [] 86 dX10_lay_16 lk_RX10_153 oX2_refusalOf iX2_refusalOf rfl rfl ⟨lb rfl, lb rfl⟩ (lb rfl) ⟨lb rfl, lb rfl⟩ L86 rfl (x_refusalOf (nI l) f ln li hL hw) ?_
  rintro _ g0 ⟨rfl, hg0⟩
  rw [hg0]
  refine A_topi (0) (by rw [if_pos ((inR_nI (by omega)).mpr hl), nI_clamp (by omega), if_neg h0]) ?_
  refine A_istore (lv' := [(4, .int 0), (0, .ref 0), (1, .int y), (2, .int (nI l)), (3, .int z)]) dX10_lay_19 (lb rfl) rfl ?_
  refine A_iload dX10_lay_21 0 rfl ?_
  refine A_if_eq (tgt := 29) dX10_lay_23 rfl (fun h23 => ?_) (fun h23 => by exact absurd rfl h23)
  refine A_aload_n dX10_lay_29 rfl 1 rfl ?_
  refine A_getR (b := 55) dX10_lay_30 fo_RX10_52 L0 rfl ?_
  refine A_aload_n dX10_lay_33 rfl 1 rfl ?_
  refine A_getR (b := 1) dX10_lay_34 fo_RX10_10 L0 rfl ?_
  refine A_aload_n dX10_lay_37 rfl 1 rfl ?_
  refine A_getR (b := 51) dX10_lay_38 fo_RX10_45 L0 rfl ?_
  refine A_callV (M' := MX6_explore) [.ref 1, .ref 51] [] 55 dX10_lay_41 lk_RX10_215 oX6_explore iX6_explore rfl rfl ⟨lb rfl, lb rfl⟩ (lb rfl) ⟨lb rfl, lb rfl⟩ L55 rfl (x_explore f s k p rz lz hC w d hNc hwN hS) ?_
  rintro _ h ⟨rfl, x, hS2, hb⟩
  have hW := Jw_s (p := p) (u := (s, k)) w
  have hga : (gSt (s 13 0) d (sch p (s, k)) y) ≤ (sch p (s, k)).1 := by unfold gSt; split; exact fi_le _ _; exact fi_le _ _
  refine A_iload_n dX10_lay_44 rfl 2 rfl ?_
  refine A_if_ne (tgt := 58) dX10_lay_45 rfl (fun h45 => ?_) (fun h45 => ?_)
  · refine A_aload_n dX10_lay_58 rfl 1 rfl ?_
    refine A_getR (b := 55) dX10_lay_59 fo_RX10_52 L0 rfl ?_
    refine A_getI dX10_lay_62 fo_RX10_244 L55 rfl ?_
    refine A_topi (nI (faS d (sch p (s, k))) - 1) (x.2.1.2.1) ?_
    refine A_topi (nI (gSt (s 13 0) d (sch p (s, k)) y) - 1) (by rw [gSt_1 h45]) ?_
    refine A_istore (lv' := [(5, .int (nI (gSt (s 13 0) d (sch p (s, k)) y) - 1)), (4, .int 0), (0, .ref 0), (1, .int y), (2, .int (nI l)), (3, .int z)]) dX10_lay_65 (lb rfl) rfl ?_
    refine A_aload_n dX10_lay_67 rfl 2 rfl ?_
    refine A_getR (b := 55) dX10_lay_68 fo_RX10_52 L0 rfl ?_
    refine A_iload dX10_lay_71 0 rfl ?_
    refine A_callV (M' := MX6_depthOf) [.int (nI (gSt (s 13 0) d (sch p (s, k)) y) - 1)] [] 55 dX10_lay_73 lk_RX10_241 oX6_depthOf iX6_depthOf rfl rfl ⟨lb rfl, lb rfl⟩ (lb rfl) ⟨lb rfl, lb rfl⟩ L55 rfl (x_depthOf h p d (s, k) (sch p (s, k)) x hW (gSt (s 13 0) d (sch p (s, k)) y) hga) ?_
    rintro _ g0 ⟨rfl, hg0⟩
    rw [hg0]
    refine A_istore (lv' := [(6, .int (dpf (sch p (s, k)) (gSt (s 13 0) d (sch p (s, k)) y))), (5, .int (nI (gSt (s 13 0) d (sch p (s, k)) y) - 1)), (4, .int 0), (0, .ref 0), (1, .int y), (2, .int (nI l)), (3, .int z)]) dX10_lay_76 (lb rfl) rfl ?_
    refine A_iload dX10_lay_78 0 rfl ?_
    refine A_if_gt (tgt := 86) dX10_lay_80 rfl (fun h80 => by exact absurd h80 (by rw [dpf, if_neg ha, hd0]; decide)) (fun h80 => ?_)
    refine A_iload dX10_lay_83 0 rfl ?_
    exact A_iret dX10_lay_85 rfl (⟨by rw [dpf, if_neg ha, hd0]; rfl, hS2, hb⟩)
  · refine A_aload_n dX10_lay_48 rfl 1 rfl ?_
    refine A_getR (b := 55) dX10_lay_49 fo_RX10_52 L0 rfl ?_
    refine A_getI dX10_lay_52 fo_RX10_238 L55 rfl ?_
    refine A_topi (nI (stS (s 13 0) (sch p (s, k))) - 1) (x.2.1.1.2) ?_
    refine A_topi (nI (gSt (s 13 0) d (sch p (s, k)) y) - 1) (by rw [gSt_0 h45]) ?_
    refine A_goto (tgt := 65) dX10_lay_55 rfl ?_
    refine A_istore (lv' := [(5, .int (nI (gSt (s 13 0) d (sch p (s, k)) y) - 1)), (4, .int 0), (0, .ref 0), (1, .int y), (2, .int (nI l)), (3, .int z)]) dX10_lay_65 (lb rfl) rfl ?_
    refine A_aload_n dX10_lay_67 rfl 2 rfl ?_
    refine A_getR (b := 55) dX10_lay_68 fo_RX10_52 L0 rfl ?_
    refine A_iload dX10_lay_71 0 rfl ?_
    refine A_callV (M' := MX6_depthOf) [.int (nI (gSt (s 13 0) d (sch p (s, k)) y) - 1)] [] 55 dX10_lay_73 lk_RX10_241 oX6_depthOf iX6_depthOf rfl rfl ⟨lb rfl, lb rfl⟩ (lb rfl) ⟨lb rfl, lb rfl⟩ L55 rfl (x_depthOf h p d (s, k) (sch p (s, k)) x hW (gSt (s 13 0) d (sch p (s, k)) y) hga) ?_
    rintro _ g0 ⟨rfl, hg0⟩
    rw [hg0]
    refine A_istore (lv' := [(6, .int (dpf (sch p (s, k)) (gSt (s 13 0) d (sch p (s, k)) y))), (5, .int (nI (gSt (s 13 0) d (sch p (s, k)) y) - 1)), (4, .int 0), (0, .ref 0), (1, .int y), (2, .int (nI l)), (3, .int z)]) dX10_lay_76 (lb rfl) rfl ?_
    refine A_iload dX10_lay_78 0 rfl ?_
    refine A_if_gt (tgt := 86) dX10_lay_80 rfl (fun h80 => by exact absurd h80 (by rw [dpf, if_neg ha, hd0]; decide)) (fun h80 => ?_)
    refine A_iload dX10_lay_83 0 rfl ?_
    exact A_iret dX10_lay_85 rfl (⟨by rw [dpf, if_neg ha, hd0]; rfl, hS2, hb⟩)
theorem x_lay6 (y z : Int32) (l : Nat) (f : Mem) (s : Sg) (k p rz lz : Ro) (hC : XC f s k p rz lz) (w : wfC s k p) (d : Cd) (hNc : XNc f d.1 d.2.1 d.2.2.1 d.2.2.2) (hwN : wN d.1 d.2.1 d.2.2.1) (hS : XS f p d (s, k)) (ln : Nat → Nat) (li : Nat → Ro) (hL : XL f ln li) (hw : wL ln) (hy : inR y 2) (hl : l < 4) (h0 : ¬ ln l = 0) (ha : ¬ (gSt (s 13 0) d (sch p (s, k)) y) = 0) (hd0 : 0 < (sch p (s, k)).2.2.2.2.1 ((gSt (s 13 0) d (sch p (s, k)) y) - 1)) (hz : ¬ 0 ≤ z) : C0 MX10_lay [.ref 0, .int y, .int (nI l), .int z] f (fun r h => r = some (.int (-13)) ∧ XS h p d (s, k) ∧ ∀ b, b < 55 ∨ 85 < b → h b = f b) := by
  refine Ct.of (lv := [(0, .ref 0), (1, .int y), (2, .int (nI l)), (3, .int z)]) (by decide) (lb rfl) rfl ?_
  refine A_iload_n dX10_lay_0 rfl 1 rfl ?_
  refine A_if_lt (tgt := 9) dX10_lay_1 rfl (fun h1 => by exact absurd h1 (in2_n hy).1) (fun h1 => ?_)
  refine A_iload_n dX10_lay_4 rfl 1 rfl ?_
  refine A_iconst (v := 1) dX10_lay_5 rfl ?_
  refine A_icmp_le (tgt := 11) dX10_lay_6 rfl (fun h6 => ?_) (fun h6 => by exact absurd (in2_n hy).2 h6)
  refine A_aload_n dX10_lay_11 rfl 0 rfl ?_
  refine A_getR (b := 86) dX10_lay_12 fo_RX10_59 L0 rfl ?_
  refine A_iload_n dX10_lay_15 rfl 2 rfl ?_
  refine A_callV (M' := MX2_refusalOf) [.int (nI l)] [] 86 dX10_lay_16 lk_RX10_153 oX2_refusalOf iX2_refusalOf rfl rfl ⟨lb rfl, lb rfl⟩ (lb rfl) ⟨lb rfl, lb rfl⟩ L86 rfl (x_refusalOf (nI l) f ln li hL hw) ?_
  rintro _ g0 ⟨rfl, hg0⟩
  rw [hg0]
  refine A_topi (0) (by rw [if_pos ((inR_nI (by omega)).mpr hl), nI_clamp (by omega), if_neg h0]) ?_
  refine A_istore (lv' := [(4, .int 0), (0, .ref 0), (1, .int y), (2, .int (nI l)), (3, .int z)]) dX10_lay_19 (lb rfl) rfl ?_
  refine A_iload dX10_lay_21 0 rfl ?_
  refine A_if_eq (tgt := 29) dX10_lay_23 rfl (fun h23 => ?_) (fun h23 => by exact absurd rfl h23)
  refine A_aload_n dX10_lay_29 rfl 1 rfl ?_
  refine A_getR (b := 55) dX10_lay_30 fo_RX10_52 L0 rfl ?_
  refine A_aload_n dX10_lay_33 rfl 1 rfl ?_
  refine A_getR (b := 1) dX10_lay_34 fo_RX10_10 L0 rfl ?_
  refine A_aload_n dX10_lay_37 rfl 1 rfl ?_
  refine A_getR (b := 51) dX10_lay_38 fo_RX10_45 L0 rfl ?_
  refine A_callV (M' := MX6_explore) [.ref 1, .ref 51] [] 55 dX10_lay_41 lk_RX10_215 oX6_explore iX6_explore rfl rfl ⟨lb rfl, lb rfl⟩ (lb rfl) ⟨lb rfl, lb rfl⟩ L55 rfl (x_explore f s k p rz lz hC w d hNc hwN hS) ?_
  rintro _ h ⟨rfl, x, hS2, hb⟩
  have hW := Jw_s (p := p) (u := (s, k)) w
  have hga : (gSt (s 13 0) d (sch p (s, k)) y) ≤ (sch p (s, k)).1 := by unfold gSt; split; exact fi_le _ _; exact fi_le _ _
  refine A_iload_n dX10_lay_44 rfl 2 rfl ?_
  refine A_if_ne (tgt := 58) dX10_lay_45 rfl (fun h45 => ?_) (fun h45 => ?_)
  · refine A_aload_n dX10_lay_58 rfl 1 rfl ?_
    refine A_getR (b := 55) dX10_lay_59 fo_RX10_52 L0 rfl ?_
    refine A_getI dX10_lay_62 fo_RX10_244 L55 rfl ?_
    refine A_topi (nI (faS d (sch p (s, k))) - 1) (x.2.1.2.1) ?_
    refine A_topi (nI (gSt (s 13 0) d (sch p (s, k)) y) - 1) (by rw [gSt_1 h45]) ?_
    refine A_istore (lv' := [(5, .int (nI (gSt (s 13 0) d (sch p (s, k)) y) - 1)), (4, .int 0), (0, .ref 0), (1, .int y), (2, .int (nI l)), (3, .int z)]) dX10_lay_65 (lb rfl) rfl ?_
    refine A_aload_n dX10_lay_67 rfl 2 rfl ?_
    refine A_getR (b := 55) dX10_lay_68 fo_RX10_52 L0 rfl ?_
    refine A_iload dX10_lay_71 0 rfl ?_
    refine A_callV (M' := MX6_depthOf) [.int (nI (gSt (s 13 0) d (sch p (s, k)) y) - 1)] [] 55 dX10_lay_73 lk_RX10_241 oX6_depthOf iX6_depthOf rfl rfl ⟨lb rfl, lb rfl⟩ (lb rfl) ⟨lb rfl, lb rfl⟩ L55 rfl (x_depthOf h p d (s, k) (sch p (s, k)) x hW (gSt (s 13 0) d (sch p (s, k)) y) hga) ?_
    rintro _ g0 ⟨rfl, hg0⟩
    rw [hg0]
    refine A_istore (lv' := [(6, .int (dpf (sch p (s, k)) (gSt (s 13 0) d (sch p (s, k)) y))), (5, .int (nI (gSt (s 13 0) d (sch p (s, k)) y) - 1)), (4, .int 0), (0, .ref 0), (1, .int y), (2, .int (nI l)), (3, .int z)]) dX10_lay_76 (lb rfl) rfl ?_
    refine A_iload dX10_lay_78 0 rfl ?_
    refine A_if_gt (tgt := 86) dX10_lay_80 rfl (fun h80 => ?_) (fun h80 => by exact absurd (by rw [dpf, if_neg ha]; exact (nI_ltI (a := 0) (by decide) (by have := hW.le _ (show (gSt (s 13 0) d (sch p (s, k)) y) - 1 < (sch p (s, k)).1 by omega); have := hW.2.1; omega)).mpr (by omega)) h80)
    refine A_iload_n dX10_lay_86 rfl 6 rfl ?_
    refine A_if_ge (tgt := 93) dX10_lay_87 rfl (fun h87 => by exact absurd h87 hz) (fun h87 => ?_)
    refine A_bipush (v := -13) dX10_lay_90 rfl ?_
    exact A_iret dX10_lay_92 rfl (⟨rfl, hS2, hb⟩)
  · refine A_aload_n dX10_lay_48 rfl 1 rfl ?_
    refine A_getR (b := 55) dX10_lay_49 fo_RX10_52 L0 rfl ?_
    refine A_getI dX10_lay_52 fo_RX10_238 L55 rfl ?_
    refine A_topi (nI (stS (s 13 0) (sch p (s, k))) - 1) (x.2.1.1.2) ?_
    refine A_topi (nI (gSt (s 13 0) d (sch p (s, k)) y) - 1) (by rw [gSt_0 h45]) ?_
    refine A_goto (tgt := 65) dX10_lay_55 rfl ?_
    refine A_istore (lv' := [(5, .int (nI (gSt (s 13 0) d (sch p (s, k)) y) - 1)), (4, .int 0), (0, .ref 0), (1, .int y), (2, .int (nI l)), (3, .int z)]) dX10_lay_65 (lb rfl) rfl ?_
    refine A_aload_n dX10_lay_67 rfl 2 rfl ?_
    refine A_getR (b := 55) dX10_lay_68 fo_RX10_52 L0 rfl ?_
    refine A_iload dX10_lay_71 0 rfl ?_
    refine A_callV (M' := MX6_depthOf) [.int (nI (gSt (s 13 0) d (sch p (s, k)) y) - 1)] [] 55 dX10_lay_73 lk_RX10_241 oX6_depthOf iX6_depthOf rfl rfl ⟨lb rfl, lb rfl⟩ (lb rfl) ⟨lb rfl, lb rfl⟩ L55 rfl (x_depthOf h p d (s, k) (sch p (s, k)) x hW (gSt (s 13 0) d (sch p (s, k)) y) hga) ?_
    rintro _ g0 ⟨rfl, hg0⟩
    rw [hg0]
    refine A_istore (lv' := [(6, .int (dpf (sch p (s, k)) (gSt (s 13 0) d (sch p (s, k)) y))), (5, .int (nI (gSt (s 13 0) d (sch p (s, k)) y) - 1)), (4, .int 0), (0, .ref 0), (1, .int y), (2, .int (nI l)), (3, .int z)]) dX10_lay_76 (lb rfl) rfl ?_
    refine A_iload dX10_lay_78 0 rfl ?_
    refine A_if_gt (tgt := 86) dX10_lay_80 rfl (fun h80 => ?_) (fun h80 => by exact absurd (by rw [dpf, if_neg ha]; exact (nI_ltI (a := 0) (by decide) (by have := hW.le _ (show (gSt (s 13 0) d (sch p (s, k)) y) - 1 < (sch p (s, k)).1 by omega); have := hW.2.1; omega)).mpr (by omega)) h80)
    refine A_iload_n dX10_lay_86 rfl 6 rfl ?_
    refine A_if_ge (tgt := 93) dX10_lay_87 rfl (fun h87 => by exact absurd h87 hz) (fun h87 => ?_)
    refine A_bipush (v := -13) dX10_lay_90 rfl ?_
    exact A_iret dX10_lay_92 rfl (⟨rfl, hS2, hb⟩)
theorem XE_ur {h : Mem} {p : Ro} {d : Cd} {u : Pt} {q : Sr} (x : XE h p d u q) {a : Nat} {g : Ro} (ha : 85 < a) : XE (ur h a g) p d u q := x.c (fun j _ _ => by rw [ur_n _ _ (by omega)]) (by rw [ur_n _ _ (by omega)]) (ur_n _ _ (by omega)) (fun b b1 b2 => ur_n _ _ (by omega))
theorem xs_ur {h : Mem} {p : Ro} {d : Cd} {u : Pt} (x : XS h p d u) {a : Nat} {g : Ro} (ha : 85 < a) : XS (ur h a g) p d u := by
  obtain ⟨⟨s, k, D⟩, z⟩ := x
  refine ⟨⟨s, k, D.congr (fun b b1 b2 => ur_n _ _ (by omega))⟩, ?_⟩
  rcases z with z | z
  · exact .inl (by rw [ur_n _ _ (by omega)]; exact z)
  · exact .inr ⟨by rw [ur_n _ _ (by omega)]; exact z.1, XE_ur z.2 ha⟩
theorem ly_f {f h : Mem} {ln : Nat → Nat} {li : Nat → Ro} (hL : XL f ln li) {l i c : Nat} {φ : Nat → Int32} (hl : l < 4) (hb : ∀ b, b < 55 ∨ 85 < b → h b = f b) (hc : i + c ≤ 40 ∨ c = 0) : XL (ur h (89 + l) (lyR (h (89 + l)) i c φ)) ln (lyL li l i c φ) := by
  rcases hc with hc | hc
  · exact hL.ly hl hc ((ur_n _ _ (by omega)).trans (hb 87 (by omega))) (fun m hm z => (ur_n _ _ (by omega)).trans (hb _ (by omega))) (by rw [ur_s, hb (89 + l) (by omega)])
  · subst hc
    have e : lyL li l i 0 φ = li := by funext m; unfold lyL; rw [lyR_0]; split
                                       · rename_i z; rw [z]
                                       · rfl
    rw [e, lyR_0, ur_self]
    exact hL.congr (fun a a1 a2 => hb a (by omega))
theorem x_lay7 (y : Int32) (l i : Nat) (f : Mem) (s : Sg) (k p rz lz : Ro) (hC : XC f s k p rz lz) (w : wfC s k p) (d : Cd) (hNc : XNc f d.1 d.2.1 d.2.2.1 d.2.2.2) (hwN : wN d.1 d.2.1 d.2.2.1) (hS : XS f p d (s, k)) (ln : Nat → Nat) (li : Nat → Ro) (hL : XL f ln li) (hw : wL ln) (hy : inR y 2) (hl : l < 4) (h0 : ¬ ln l = 0) (ha : ¬ (gSt (s 13 0) d (sch p (s, k)) y) = 0) (hd0 : 0 < (sch p (s, k)).2.2.2.2.1 ((gSt (s 13 0) d (sch p (s, k)) y) - 1)) (hi : i < 2 ^ 31) : C0 MX10_lay [.ref 0, .int y, .int (nI l), .int (nI i)] f (fun r h => r = some (.int (if (min ((sch p (s, k)).2.2.2.2.1 ((gSt (s 13 0) d (sch p (s, k)) y) - 1)) (ln l - 1 - i)) = (sch p (s, k)).2.2.2.2.1 ((gSt (s 13 0) d (sch p (s, k)) y) - 1) then nI ((sch p (s, k)).2.2.2.2.1 ((gSt (s 13 0) d (sch p (s, k)) y) - 1)) else -13)) ∧ XL h ln (lyL li l i (min ((sch p (s, k)).2.2.2.2.1 ((gSt (s 13 0) d (sch p (s, k)) y) - 1)) (ln l - 1 - i)) (fun t => mvV (sch p (s, k)) (gSt (s 13 0) d (sch p (s, k)) y) (nI t))) ∧ XS h p d (s, k) ∧ ∀ b, b < 55 ∨ 85 < b → b ≠ 89 + l → h b = f b) := by
  refine Ct.of (lv := [(0, .ref 0), (1, .int y), (2, .int (nI l)), (3, .int (nI i))]) (by decide) (lb rfl) rfl ?_
  refine A_iload_n dX10_lay_0 rfl 1 rfl ?_
  refine A_if_lt (tgt := 9) dX10_lay_1 rfl (fun h1 => by exact absurd h1 (in2_n hy).1) (fun h1 => ?_)
  refine A_iload_n dX10_lay_4 rfl 1 rfl ?_
  refine A_iconst (v := 1) dX10_lay_5 rfl ?_
  refine A_icmp_le (tgt := 11) dX10_lay_6 rfl (fun h6 => ?_) (fun h6 => by exact absurd (in2_n hy).2 h6)
  refine A_aload_n dX10_lay_11 rfl 0 rfl ?_
  refine A_getR (b := 86) dX10_lay_12 fo_RX10_59 L0 rfl ?_
  refine A_iload_n dX10_lay_15 rfl 2 rfl ?_
  refine A_callV (M' := MX2_refusalOf) [.int (nI l)] [] 86 dX10_lay_16 lk_RX10_153 oX2_refusalOf iX2_refusalOf rfl rfl ⟨lb rfl, lb rfl⟩ (lb rfl) ⟨lb rfl, lb rfl⟩ L86 rfl (x_refusalOf (nI l) f ln li hL hw) ?_
  rintro _ g0 ⟨rfl, hg0⟩
  rw [hg0]
  refine A_topi (0) (by rw [if_pos ((inR_nI (by omega)).mpr hl), nI_clamp (by omega), if_neg h0]) ?_
  refine A_istore (lv' := [(4, .int 0), (0, .ref 0), (1, .int y), (2, .int (nI l)), (3, .int (nI i))]) dX10_lay_19 (lb rfl) rfl ?_
  refine A_iload dX10_lay_21 0 rfl ?_
  refine A_if_eq (tgt := 29) dX10_lay_23 rfl (fun h23 => ?_) (fun h23 => by exact absurd rfl h23)
  refine A_aload_n dX10_lay_29 rfl 1 rfl ?_
  refine A_getR (b := 55) dX10_lay_30 fo_RX10_52 L0 rfl ?_
  refine A_aload_n dX10_lay_33 rfl 1 rfl ?_
  refine A_getR (b := 1) dX10_lay_34 fo_RX10_10 L0 rfl ?_
  refine A_aload_n dX10_lay_37 rfl 1 rfl ?_
  refine A_getR (b := 51) dX10_lay_38 fo_RX10_45 L0 rfl ?_
  refine A_callV (M' := MX6_explore) [.ref 1, .ref 51] [] 55 dX10_lay_41 lk_RX10_215 oX6_explore iX6_explore rfl rfl ⟨lb rfl, lb rfl⟩ (lb rfl) ⟨lb rfl, lb rfl⟩ L55 rfl (x_explore f s k p rz lz hC w d hNc hwN hS) ?_
  rintro _ h ⟨rfl, x, hS2, hb⟩
  have hW := Jw_s (p := p) (u := (s, k)) w
  have hga : (gSt (s 13 0) d (sch p (s, k)) y) ≤ (sch p (s, k)).1 := by unfold gSt; split; exact fi_le _ _; exact fi_le _ _
  refine A_iload_n dX10_lay_44 rfl 2 rfl ?_
  refine A_if_ne (tgt := 58) dX10_lay_45 rfl (fun h45 => ?_) (fun h45 => ?_)
  · refine A_aload_n dX10_lay_58 rfl 1 rfl ?_
    refine A_getR (b := 55) dX10_lay_59 fo_RX10_52 L0 rfl ?_
    refine A_getI dX10_lay_62 fo_RX10_244 L55 rfl ?_
    refine A_topi (nI (faS d (sch p (s, k))) - 1) (x.2.1.2.1) ?_
    refine A_topi (nI (gSt (s 13 0) d (sch p (s, k)) y) - 1) (by rw [gSt_1 h45]) ?_
    refine A_istore (lv' := [(5, .int (nI (gSt (s 13 0) d (sch p (s, k)) y) - 1)), (4, .int 0), (0, .ref 0), (1, .int y), (2, .int (nI l)), (3, .int (nI i))]) dX10_lay_65 (lb rfl) rfl ?_
    refine A_aload_n dX10_lay_67 rfl 2 rfl ?_
    refine A_getR (b := 55) dX10_lay_68 fo_RX10_52 L0 rfl ?_
    refine A_iload dX10_lay_71 0 rfl ?_
    refine A_callV (M' := MX6_depthOf) [.int (nI (gSt (s 13 0) d (sch p (s, k)) y) - 1)] [] 55 dX10_lay_73 lk_RX10_241 oX6_depthOf iX6_depthOf rfl rfl ⟨lb rfl, lb rfl⟩ (lb rfl) ⟨lb rfl, lb rfl⟩ L55 rfl (x_depthOf h p d (s, k) (sch p (s, k)) x hW (gSt (s 13 0) d (sch p (s, k)) y) hga) ?_
    rintro _ g0 ⟨rfl, hg0⟩
    rw [hg0]
    refine A_istore (lv' := [(6, .int (dpf (sch p (s, k)) (gSt (s 13 0) d (sch p (s, k)) y))), (5, .int (nI (gSt (s 13 0) d (sch p (s, k)) y) - 1)), (4, .int 0), (0, .ref 0), (1, .int y), (2, .int (nI l)), (3, .int (nI i))]) dX10_lay_76 (lb rfl) rfl ?_
    refine A_iload dX10_lay_78 0 rfl ?_
    refine A_if_gt (tgt := 86) dX10_lay_80 rfl (fun h80 => ?_) (fun h80 => by exact absurd (by rw [dpf, if_neg ha]; exact (nI_ltI (a := 0) (by decide) (by have := hW.le _ (show (gSt (s 13 0) d (sch p (s, k)) y) - 1 < (sch p (s, k)).1 by omega); have := hW.2.1; omega)).mpr (by omega)) h80)
    refine A_iload_n dX10_lay_86 rfl 6 rfl ?_
    refine A_if_ge (tgt := 93) dX10_lay_87 rfl (fun h87 => ?_) (fun h87 => by exact absurd (nI_ge0 hi) h87)
    refine A_aload_n dX10_lay_93 rfl 3 rfl ?_
    refine A_getR (b := 86) dX10_lay_94 fo_RX10_59 L0 rfl ?_
    refine A_getR (b := 87) dX10_lay_97 fo_RX10_156 L86 rfl ?_
    refine A_iload_n dX10_lay_100 rfl 5 rfl ?_
    refine A_iaload l dX10_lay_101 L87 (rfl) (by omega) (lb rfl) ?_
    refine A_topi (nI (ln l - 1)) ((congrFun (hb 87 (by omega)) _).trans ((hL.1 l hl).trans (if_neg h0))) ?_
    refine A_iload_n dX10_lay_102 rfl 6 rfl ?_
    refine A_isub dX10_lay_103 ?_
    refine A_istore (lv' := [(7, .int ((nI (ln l - 1)) - (nI i))), (6, .int (dpf (sch p (s, k)) (gSt (s 13 0) d (sch p (s, k)) y))), (5, .int (nI (gSt (s 13 0) d (sch p (s, k)) y) - 1)), (4, .int 0), (0, .ref 0), (1, .int y), (2, .int (nI l)), (3, .int (nI i))]) dX10_lay_104 (lb rfl) rfl ?_
    refine A_iconst (v := 0) dX10_lay_106 rfl ?_
    refine A_istore (lv' := [(8, .int 0), (7, .int ((nI (ln l - 1)) - (nI i))), (6, .int (dpf (sch p (s, k)) (gSt (s 13 0) d (sch p (s, k)) y))), (5, .int (nI (gSt (s 13 0) d (sch p (s, k)) y) - 1)), (4, .int 0), (0, .ref 0), (1, .int y), (2, .int (nI l)), (3, .int (nI i))]) dX10_lay_107 (lb rfl) rfl ?_
    have hwl := hw l hl
    have hle := hW.le ((gSt (s 13 0) d (sch p (s, k)) y) - 1) (by omega)
    have h600 := hW.2.1
    obtain ⟨f1, f2, f3⟩ := pl_1 (L := ln l - 1) (i := i) (c := (min ((sch p (s, k)).2.2.2.2.1 ((gSt (s 13 0) d (sch p (s, k)) y) - 1)) (ln l - 1 - i))) (D := (sch p (s, k)).2.2.2.2.1 ((gSt (s 13 0) d (sch p (s, k)) y) - 1)) (by omega) hi (by omega) hd0 rfl
    refine A_sub [0, 1, 2, 3, 8, 7, 5] rfl ?_
    refine A_eq (lv' := [(8, .int (nI 0)), (7, .int (nI (ln l - 1) - nI i)), (6, .int (nI ((sch p (s, k)).2.2.2.2.1 ((gSt (s 13 0) d (sch p (s, k)) y) - 1)))), (5, .int (nI (gSt (s 13 0) d (sch p (s, k)) y) - 1)), (3, .int (nI i)), (2, .int (nI l)), (0, .ref 0)]) (by rw [dpf, if_neg ha]; rfl) rfl (f' := ur h (89 + l) (lyR (h (89 + l)) i 0 (fun t => mvV (sch p (s, k)) (gSt (s 13 0) d (sch p (s, k)) y) (nI t)))) (by rw [lyR_0, ur_self]) ?_
    have fin : ∀ v : Int32, v = (if (min ((sch p (s, k)).2.2.2.2.1 ((gSt (s 13 0) d (sch p (s, k)) y) - 1)) (ln l - 1 - i)) = (sch p (s, k)).2.2.2.2.1 ((gSt (s 13 0) d (sch p (s, k)) y) - 1) then nI ((sch p (s, k)).2.2.2.2.1 ((gSt (s 13 0) d (sch p (s, k)) y) - 1)) else -13) → (fun (r : Option Value) (h : Mem) => r = some (.int (if (min ((sch p (s, k)).2.2.2.2.1 ((gSt (s 13 0) d (sch p (s, k)) y) - 1)) (ln l - 1 - i)) = (sch p (s, k)).2.2.2.2.1 ((gSt (s 13 0) d (sch p (s, k)) y) - 1) then nI ((sch p (s, k)).2.2.2.2.1 ((gSt (s 13 0) d (sch p (s, k)) y) - 1)) else -13)) ∧ XL h ln (lyL li l i (min ((sch p (s, k)).2.2.2.2.1 ((gSt (s 13 0) d (sch p (s, k)) y) - 1)) (ln l - 1 - i)) (fun t => mvV (sch p (s, k)) (gSt (s 13 0) d (sch p (s, k)) y) (nI t))) ∧ XS h p d (s, k) ∧ ∀ b, b < 55 ∨ 85 < b → b ≠ 89 + l → h b = f b) (some (.int v)) (ur h (89 + l) (lyR (h (89 + l)) i (min ((sch p (s, k)).2.2.2.2.1 ((gSt (s 13 0) d (sch p (s, k)) y) - 1)) (ln l - 1 - i)) (fun t => mvV (sch p (s, k)) (gSt (s 13 0) d (sch p (s, k)) y) (nI t)))) := fun v hv => ⟨by rw [hv], ly_f hL hl hb (by omega), xs_ur hS2 (by omega), fun b b1 b2 => (ur_n _ _ b2).trans (hb b b1)⟩
    exact lx_lay h p d (s, k) (sch p (s, k)) x hW (gSt (s 13 0) d (sch p (s, k)) y) l i ((sch p (s, k)).2.2.2.2.1 ((gSt (s 13 0) d (sch p (s, k)) y) - 1)) (min ((sch p (s, k)).2.2.2.2.1 ((gSt (s 13 0) d (sch p (s, k)) y) - 1)) (ln l - 1 - i)) _ 0 ha hga rfl hl (by omega) (by omega) f1 f2 f3 _ (fun z => fin _ (by rw [if_pos z])) (fun z => fin _ (by rw [if_neg z])) 0 (by omega)
  · refine A_aload_n dX10_lay_48 rfl 1 rfl ?_
    refine A_getR (b := 55) dX10_lay_49 fo_RX10_52 L0 rfl ?_
    refine A_getI dX10_lay_52 fo_RX10_238 L55 rfl ?_
    refine A_topi (nI (stS (s 13 0) (sch p (s, k))) - 1) (x.2.1.1.2) ?_
    refine A_topi (nI (gSt (s 13 0) d (sch p (s, k)) y) - 1) (by rw [gSt_0 h45]) ?_
    refine A_goto (tgt := 65) dX10_lay_55 rfl ?_
    refine A_istore (lv' := [(5, .int (nI (gSt (s 13 0) d (sch p (s, k)) y) - 1)), (4, .int 0), (0, .ref 0), (1, .int y), (2, .int (nI l)), (3, .int (nI i))]) dX10_lay_65 (lb rfl) rfl ?_
    refine A_aload_n dX10_lay_67 rfl 2 rfl ?_
    refine A_getR (b := 55) dX10_lay_68 fo_RX10_52 L0 rfl ?_
    refine A_iload dX10_lay_71 0 rfl ?_
    refine A_callV (M' := MX6_depthOf) [.int (nI (gSt (s 13 0) d (sch p (s, k)) y) - 1)] [] 55 dX10_lay_73 lk_RX10_241 oX6_depthOf iX6_depthOf rfl rfl ⟨lb rfl, lb rfl⟩ (lb rfl) ⟨lb rfl, lb rfl⟩ L55 rfl (x_depthOf h p d (s, k) (sch p (s, k)) x hW (gSt (s 13 0) d (sch p (s, k)) y) hga) ?_
    rintro _ g0 ⟨rfl, hg0⟩
    rw [hg0]
    refine A_istore (lv' := [(6, .int (dpf (sch p (s, k)) (gSt (s 13 0) d (sch p (s, k)) y))), (5, .int (nI (gSt (s 13 0) d (sch p (s, k)) y) - 1)), (4, .int 0), (0, .ref 0), (1, .int y), (2, .int (nI l)), (3, .int (nI i))]) dX10_lay_76 (lb rfl) rfl ?_
    refine A_iload dX10_lay_78 0 rfl ?_
    refine A_if_gt (tgt := 86) dX10_lay_80 rfl (fun h80 => ?_) (fun h80 => by exact absurd (by rw [dpf, if_neg ha]; exact (nI_ltI (a := 0) (by decide) (by have := hW.le _ (show (gSt (s 13 0) d (sch p (s, k)) y) - 1 < (sch p (s, k)).1 by omega); have := hW.2.1; omega)).mpr (by omega)) h80)
    refine A_iload_n dX10_lay_86 rfl 6 rfl ?_
    refine A_if_ge (tgt := 93) dX10_lay_87 rfl (fun h87 => ?_) (fun h87 => by exact absurd (nI_ge0 hi) h87)
    refine A_aload_n dX10_lay_93 rfl 3 rfl ?_
    refine A_getR (b := 86) dX10_lay_94 fo_RX10_59 L0 rfl ?_
    refine A_getR (b := 87) dX10_lay_97 fo_RX10_156 L86 rfl ?_
    refine A_iload_n dX10_lay_100 rfl 5 rfl ?_
    refine A_iaload l dX10_lay_101 L87 (rfl) (by omega) (lb rfl) ?_
    refine A_topi (nI (ln l - 1)) ((congrFun (hb 87 (by omega)) _).trans ((hL.1 l hl).trans (if_neg h0))) ?_
    refine A_iload_n dX10_lay_102 rfl 6 rfl ?_
    refine A_isub dX10_lay_103 ?_
    refine A_istore (lv' := [(7, .int ((nI (ln l - 1)) - (nI i))), (6, .int (dpf (sch p (s, k)) (gSt (s 13 0) d (sch p (s, k)) y))), (5, .int (nI (gSt (s 13 0) d (sch p (s, k)) y) - 1)), (4, .int 0), (0, .ref 0), (1, .int y), (2, .int (nI l)), (3, .int (nI i))]) dX10_lay_104 (lb rfl) rfl ?_
    refine A_iconst (v := 0) dX10_lay_106 rfl ?_
    refine A_istore (lv' := [(8, .int 0), (7, .int ((nI (ln l - 1)) - (nI i))), (6, .int (dpf (sch p (s, k)) (gSt (s 13 0) d (sch p (s, k)) y))), (5, .int (nI (gSt (s 13 0) d (sch p (s, k)) y) - 1)), (4, .int 0), (0, .ref 0), (1, .int y), (2, .int (nI l)), (3, .int (nI i))]) dX10_lay_107 (lb rfl) rfl ?_
    have hwl := hw l hl
    have hle := hW.le ((gSt (s 13 0) d (sch p (s, k)) y) - 1) (by omega)
    have h600 := hW.2.1
    obtain ⟨f1, f2, f3⟩ := pl_1 (L := ln l - 1) (i := i) (c := (min ((sch p (s, k)).2.2.2.2.1 ((gSt (s 13 0) d (sch p (s, k)) y) - 1)) (ln l - 1 - i))) (D := (sch p (s, k)).2.2.2.2.1 ((gSt (s 13 0) d (sch p (s, k)) y) - 1)) (by omega) hi (by omega) hd0 rfl
    refine A_sub [0, 1, 2, 3, 8, 7, 5] rfl ?_
    refine A_eq (lv' := [(8, .int (nI 0)), (7, .int (nI (ln l - 1) - nI i)), (6, .int (nI ((sch p (s, k)).2.2.2.2.1 ((gSt (s 13 0) d (sch p (s, k)) y) - 1)))), (5, .int (nI (gSt (s 13 0) d (sch p (s, k)) y) - 1)), (3, .int (nI i)), (2, .int (nI l)), (0, .ref 0)]) (by rw [dpf, if_neg ha]; rfl) rfl (f' := ur h (89 + l) (lyR (h (89 + l)) i 0 (fun t => mvV (sch p (s, k)) (gSt (s 13 0) d (sch p (s, k)) y) (nI t)))) (by rw [lyR_0, ur_self]) ?_
    have fin : ∀ v : Int32, v = (if (min ((sch p (s, k)).2.2.2.2.1 ((gSt (s 13 0) d (sch p (s, k)) y) - 1)) (ln l - 1 - i)) = (sch p (s, k)).2.2.2.2.1 ((gSt (s 13 0) d (sch p (s, k)) y) - 1) then nI ((sch p (s, k)).2.2.2.2.1 ((gSt (s 13 0) d (sch p (s, k)) y) - 1)) else -13) → (fun (r : Option Value) (h : Mem) => r = some (.int (if (min ((sch p (s, k)).2.2.2.2.1 ((gSt (s 13 0) d (sch p (s, k)) y) - 1)) (ln l - 1 - i)) = (sch p (s, k)).2.2.2.2.1 ((gSt (s 13 0) d (sch p (s, k)) y) - 1) then nI ((sch p (s, k)).2.2.2.2.1 ((gSt (s 13 0) d (sch p (s, k)) y) - 1)) else -13)) ∧ XL h ln (lyL li l i (min ((sch p (s, k)).2.2.2.2.1 ((gSt (s 13 0) d (sch p (s, k)) y) - 1)) (ln l - 1 - i)) (fun t => mvV (sch p (s, k)) (gSt (s 13 0) d (sch p (s, k)) y) (nI t))) ∧ XS h p d (s, k) ∧ ∀ b, b < 55 ∨ 85 < b → b ≠ 89 + l → h b = f b) (some (.int v)) (ur h (89 + l) (lyR (h (89 + l)) i (min ((sch p (s, k)).2.2.2.2.1 ((gSt (s 13 0) d (sch p (s, k)) y) - 1)) (ln l - 1 - i)) (fun t => mvV (sch p (s, k)) (gSt (s 13 0) d (sch p (s, k)) y) (nI t)))) := fun v hv => ⟨by rw [hv], ly_f hL hl hb (by omega), xs_ur hS2 (by omega), fun b b1 b2 => (ur_n _ _ b2).trans (hb b b1)⟩
    exact lx_lay h p d (s, k) (sch p (s, k)) x hW (gSt (s 13 0) d (sch p (s, k)) y) l i ((sch p (s, k)).2.2.2.2.1 ((gSt (s 13 0) d (sch p (s, k)) y) - 1)) (min ((sch p (s, k)).2.2.2.2.1 ((gSt (s 13 0) d (sch p (s, k)) y) - 1)) (ln l - 1 - i)) _ 0 ha hga rfl hl (by omega) (by omega) f1 f2 f3 _ (fun z => fin _ (by rw [if_pos z])) (fun z => fin _ (by rw [if_neg z])) 0 (by omega)
