/-! lay: the reference -/
theorem RLi.ly {f h : Mem} {ln : Nat → Nat} {li : Nat → Ro} (q : RLi f ln li) {l i c : Nat} {φ : Nat → Int32} (hl : l < 4) (hc : i + c ≤ 40 ∨ c = 0) (e110 : h 110 = f 110) (e : h 111 = lyR (f 111) (40 * l + i) c φ) : RLi h ln (lyL li l i c φ) := by
  refine ⟨fun m hm => by rw [e110]; exact q.1 m hm, fun m hm j hj => ?_⟩
  rw [e]; unfold lyL
  by_cases z : m = l
  · rw [if_pos z, z]; simp only [lyR]
    by_cases y : i ≤ j ∧ j < i + c
    · rw [if_pos y, if_pos (by omega), show 40 * l + j - (40 * l + i) = j - i by omega]
    · rw [if_neg y, if_neg (by omega)]; exact q.2 l hl j hj
  · rw [if_neg z]; simp only [lyR]
    rw [if_neg (by omega)]; exact q.2 m hm j hj
theorem ll_a {i k L : Nat} (hi : i < 2 ^ 31) (hk : k < 2 ^ 31) (hL : L < 2 ^ 31) : lg_cmp ((nI i).toInt64 + (nI k).toInt64) (nI L).toInt64 < 0 ↔ i + k < L := by
  rw [lc_lt, Int64.toInt_add, Int32.toInt_toInt64, Int32.toInt_toInt64, Int32.toInt_toInt64, nI_toInt hi, nI_toInt hk, nI_toInt hL, Int.bmod_eq_of_le] <;> omega
theorem lc_lay (f : Mem) (s : Sg) (kc p rz lz : Ro) (hC : RC f s kc p rz lz) (w : wfC s kc p) (q : Sr) (x : RE f q) (hJ : Jq p (s, kc) q) (hW : Jw q) (a l i D c L : Nat) (ha : ¬ a = 0) (hla : a ≤ q.1) (hD : q.2.2.2.2.1 (a - 1) = D) (hl : l < 4) (hi : i < 2 ^ 31) (hL : f 110 l = nI L) (hL40 : L ≤ 40) (hc : c = min D (L - i)) (Q : Option Value → Mem → Prop) (hQ1 : c = D → Q (some (.int (nI D))) (ur f 111 (lyR (f 111) (40 * l + i) c (fun t => mvV q a (nI t))))) (hQ2 : ¬ c = D → Q (some (.int (-13))) (ur f 111 (lyR (f 111) (40 * l + i) c (fun t => mvV q a (nI t))))) : ∀ k, k ≤ c → A (cM MX11_lay 0 0 layT layT Q) 49 [(5, .int (nI k)), (4, .int (nI a - 1)), (3, .int (nI i)), (2, .int (nI l)), (0, .ref 93)] [] (ur f 111 (lyR (f 111) (40 * l + i) k (fun t => mvV q a (nI t)))) := by
  have h600 := hW.2.1
  have hle := hW.le (a - 1) (by omega)
  refine up_ind c (fun k hk ih => ?_)
  refine A_iload dX11_lay_49 0 rfl ?_
  refine A_aload_n dX11_lay_51 rfl 4 rfl ?_
  refine A_getR (b := 107) dX11_lay_52 fo_RX11_49 L93 rfl ?_
  refine A_iload dX11_lay_55 1 rfl ?_
  refine A_iaload (a - 1) dX11_lay_57 L107 (nI_p1 ha) (by omega) (lb rfl) ?_
  refine A_topi (nI D) (by rw [ur_n _ _ (by decide), x.2.2.2 (a - 1) (by omega), hD]) ?_
  refine A_icmp_ge (tgt := 113) dX11_lay_58 rfl (fun h58 => ?_) (fun h58 => ?_)
  · rw [nI_leI (by omega) (by omega)] at h58
    refine A_aload_n dX11_lay_113 rfl 4 rfl ?_
    refine A_getR (b := 107) dX11_lay_114 fo_RX11_49 L93 rfl ?_
    refine A_iload dX11_lay_117 1 rfl ?_
    refine A_iaload (a - 1) dX11_lay_119 L107 (nI_p1 ha) (by omega) (lb rfl) ?_
    refine A_topi (nI D) (by rw [ur_n _ _ (by decide), x.2.2.2 (a - 1) (by omega), hD]) ?_
    exact A_iret dX11_lay_120 rfl (by rw [show k = c by omega]; exact hQ1 (by omega))
  · rw [nI_leI (by omega) (by omega)] at h58
    refine A_iload_n dX11_lay_61 rfl 2 rfl ?_
    refine A_if_lt (tgt := 82) dX11_lay_62 rfl (fun h62 => by exact absurd h62 (nI_nneg hi)) (fun h62 => ?_)
    refine A_iload_n dX11_lay_65 rfl 2 rfl ?_
    refine A_i2l dX11_lay_66 ?_
    refine A_iload dX11_lay_67 0 rfl ?_
    refine A_i2l dX11_lay_69 ?_
    refine A_ladd dX11_lay_70 ?_
    refine A_aload_n dX11_lay_71 rfl 4 rfl ?_
    refine A_getR (b := 110) dX11_lay_72 fo_RX11_58 L93 rfl ?_
    refine A_iload_n dX11_lay_75 rfl 3 rfl ?_
    refine A_iaload l dX11_lay_76 L110 (rfl) (by omega) (lb rfl) ?_
    refine A_topi (nI L) (by rw [ur_n _ _ (by decide)]; exact hL) ?_
    refine A_i2l dX11_lay_77 ?_
    refine A_lcmp dX11_lay_78 ?_
    refine A_if_lt (tgt := 85) dX11_lay_79 rfl (fun h79 => ?_) (fun h79 => ?_)
    · rw [ll_a hi (by omega) (by omega)] at h79
      refine A_aload_n dX11_lay_85 rfl 4 rfl ?_
      refine A_getR (b := 111) dX11_lay_86 fo_RX11_61 L93 rfl ?_
      refine A_bipush (v := 40) dX11_lay_89 rfl ?_
      refine A_iload_n dX11_lay_91 rfl 3 rfl ?_
      refine A_imul dX11_lay_92 ?_
      refine A_iload_n dX11_lay_93 rfl 2 rfl ?_
      refine A_iadd dX11_lay_94 ?_
      refine A_iload dX11_lay_95 0 rfl ?_
      refine A_iadd dX11_lay_97 ?_
      refine A_aload_n dX11_lay_98 rfl 4 rfl ?_
      refine A_iload dX11_lay_99 1 rfl ?_
      refine A_iload dX11_lay_101 0 rfl ?_
      refine A_callV (M' := MX11_onWay) [.int (nI a - 1), .int (nI k)] [.int (((40 * (nI l)) + (nI i)) + (nI k)), .ref 111] 93 dX11_lay_103 lk_RX11_278 oX11_onWay iX11_onWay rfl rfl ⟨lb rfl, lb rfl⟩ (lb rfl) ⟨lb rfl, lb rfl⟩ L93 rfl (c_wayG _ s kc p rz lz (hC.congr (ur_n _ _ (by decide)) (ur_n _ _ (by decide)) (ur_n _ _ (by decide))) w q (x.c (by rw [ur_n _ _ (by decide)]) (by rw [ur_n _ _ (by decide)]) (fun b b1 b2 => ur_n _ _ (by omega))) hJ hW a (nI k) ha hla (by rw [hD]; exact (inR_nI (by omega)).mpr (by omega))) ?_
      rintro _ g0 ⟨rfl, hg0⟩
      rw [hg0]
      refine A_iastore (40 * l + i + k) dX11_lay_106 L111 (by simp only [lit, nI_add, pk_mul]) (by omega) (lb rfl) ?_
      refine A_eq rfl rfl (f' := ur f 111 (lyR (f 111) (40 * l + i) (k + 1) (fun t => mvV q a (nI t)))) (by rw [u2, ur_s, ur_ur]; congr 1; exact lyR_s _ _ _ (fun t => mvV q a (nI t))) ?_
      refine A_iinc (lv' := [(5, .int (nI (k + 1))), (4, .int (nI a - 1)), (3, .int (nI i)), (2, .int (nI l)), (0, .ref 93)]) dX11_lay_107 0 rfl (nI_add k 1) (lb rfl) rfl ?_
      refine A_goto (tgt := 49) dX11_lay_110 rfl ?_
      refine A_sub [0, 1, 2, 3, 4] rfl ?_
      exact ih (k + 1) (by omega) (by omega)
    · rw [ll_a hi (by omega) (by omega)] at h79
      refine A_bipush (v := -13) dX11_lay_82 rfl ?_
      exact A_iret dX11_lay_84 rfl (by rw [show k = c by omega]; exact hQ2 (by omega))
theorem c_lay1 (y x z : Int32) (f : Mem) (hy : ¬ inR y 2) : C0 MX11_lay [.ref 93, .int y, .int x, .int z] f (rt (some (.int (-1))) f) := by
  refine Ct.of (lv := [(0, .ref 93), (1, .int y), (2, .int x), (3, .int z)]) (by decide) (lb rfl) rfl ?_
  refine A_iload_n dX11_lay_0 rfl 1 rfl ?_
  refine A_i2l dX11_lay_1 ?_
  refine A_lconst (v := 0) dX11_lay_2 rfl ?_
  refine A_lconst (v := 1) dX11_lay_3 rfl ?_
  refine A_callS (M' := MX11_in) [.long y.toInt64, .long 0, .long 1] [] dX11_lay_4 lk_RX11_64 oX11_in sX11_in rfl rfl ⟨lb rfl, lb rfl⟩ (lb rfl) ⟨lb rfl, lb rfl⟩ (c_in _ _ _ _) ?_
  rintro _ g0 ⟨rfl, hg0⟩
  rw [hg0]
  refine A_topi (bz (inR y 2)) (bz_c (in_2w _)) ?_
  refine A_if_eq (tgt := 17) dX11_lay_7 rfl (fun h7 => ?_) (fun h7 => by exact absurd (bz_n0.mp h7) hy)
  refine A_iconst (v := -1) dX11_lay_17 rfl ?_
  exact A_iret dX11_lay_18 rfl (⟨rfl, rfl⟩)
theorem c_lay2 (y x z : Int32) (f : Mem) (hy : inR y 2) (hx : ¬ inR x 4) : C0 MX11_lay [.ref 93, .int y, .int x, .int z] f (rt (some (.int (-1))) f) := by
  refine Ct.of (lv := [(0, .ref 93), (1, .int y), (2, .int x), (3, .int z)]) (by decide) (lb rfl) rfl ?_
  refine A_iload_n dX11_lay_0 rfl 1 rfl ?_
  refine A_i2l dX11_lay_1 ?_
  refine A_lconst (v := 0) dX11_lay_2 rfl ?_
  refine A_lconst (v := 1) dX11_lay_3 rfl ?_
  refine A_callS (M' := MX11_in) [.long y.toInt64, .long 0, .long 1] [] dX11_lay_4 lk_RX11_64 oX11_in sX11_in rfl rfl ⟨lb rfl, lb rfl⟩ (lb rfl) ⟨lb rfl, lb rfl⟩ (c_in _ _ _ _) ?_
  rintro _ g0 ⟨rfl, hg0⟩
  rw [hg0]
  refine A_topi (bz (inR y 2)) (bz_c (in_2w _)) ?_
  refine A_if_eq (tgt := 17) dX11_lay_7 rfl (fun h7 => by exact absurd hy (bz_0.mp h7)) (fun h7 => ?_)
  refine A_iload_n dX11_lay_10 rfl 2 rfl ?_
  refine A_callS (M' := MX11_isList) [.int x] [] dX11_lay_11 lk_RX11_203 oX11_isList sX11_isList rfl rfl ⟨lb rfl, lb rfl⟩ (lb rfl) ⟨lb rfl, lb rfl⟩ (c_isList x _) ?_
  rintro _ g0 ⟨rfl, hg0⟩
  rw [hg0]
  refine A_if_ne (tgt := 19) dX11_lay_14 rfl (fun h14 => by exact absurd (bz_n0.mp h14) hx) (fun h14 => ?_)
  refine A_iconst (v := -1) dX11_lay_17 rfl ?_
  exact A_iret dX11_lay_18 rfl (⟨rfl, rfl⟩)
theorem c_lay3 (y z : Int32) (l : Nat) (f : Mem) (ln : Nat → Nat) (li : Nat → Ro) (hL : RLi f ln li) (hw : wL ln) (hy : inR y 2) (hl : l < 4) (h0 : ln l = 0) : C0 MX11_lay [.ref 93, .int y, .int (nI l), .int z] f (rt (some (.int (-11))) f) := by
  refine Ct.of (lv := [(0, .ref 93), (1, .int y), (2, .int (nI l)), (3, .int z)]) (by decide) (lb rfl) rfl ?_
  refine A_iload_n dX11_lay_0 rfl 1 rfl ?_
  refine A_i2l dX11_lay_1 ?_
  refine A_lconst (v := 0) dX11_lay_2 rfl ?_
  refine A_lconst (v := 1) dX11_lay_3 rfl ?_
  refine A_callS (M' := MX11_in) [.long y.toInt64, .long 0, .long 1] [] dX11_lay_4 lk_RX11_64 oX11_in sX11_in rfl rfl ⟨lb rfl, lb rfl⟩ (lb rfl) ⟨lb rfl, lb rfl⟩ (c_in _ _ _ _) ?_
  rintro _ g0 ⟨rfl, hg0⟩
  rw [hg0]
  refine A_topi (bz (inR y 2)) (bz_c (in_2w _)) ?_
  refine A_if_eq (tgt := 17) dX11_lay_7 rfl (fun h7 => by exact absurd hy (bz_0.mp h7)) (fun h7 => ?_)
  refine A_iload_n dX11_lay_10 rfl 2 rfl ?_
  refine A_callS (M' := MX11_isList) [.int (nI l)] [] dX11_lay_11 lk_RX11_203 oX11_isList sX11_isList rfl rfl ⟨lb rfl, lb rfl⟩ (lb rfl) ⟨lb rfl, lb rfl⟩ (c_isList (nI l) _) ?_
  rintro _ g0 ⟨rfl, hg0⟩
  rw [hg0]
  refine A_if_ne (tgt := 19) dX11_lay_14 rfl (fun h14 => ?_) (fun h14 => by exact absurd ((inR_nI (by omega)).mpr hl) (bz_0.mp h14))
  refine A_aload_n dX11_lay_19 rfl 0 rfl ?_
  refine A_getR (b := 110) dX11_lay_20 fo_RX11_58 L93 rfl ?_
  refine A_iload_n dX11_lay_23 rfl 2 rfl ?_
  refine A_iaload l dX11_lay_24 L110 (rfl) (by omega) (lb rfl) ?_
  refine A_topi (-1) ((hL.1 l hl).trans (if_pos h0)) ?_
  refine A_if_ge (tgt := 31) dX11_lay_25 rfl (fun h25 => by exact absurd h25 (by decide)) (fun h25 => ?_)
  refine A_bipush (v := -11) dX11_lay_28 rfl ?_
  exact A_iret dX11_lay_30 rfl (⟨rfl, rfl⟩)
theorem c_lay4 (y z : Int32) (l : Nat) (f : Mem) (s : Sg) (k p rz lz : Ro) (hC : RC f s k p rz lz) (w : wfC s k p) (h96 : R96 f) (d : Cd) (hNc : RNc f d.1 d.2.1 d.2.2.1 d.2.2.2) (hwN : wN d.1 d.2.1 d.2.2.1) (ln : Nat → Nat) (li : Nat → Ro) (hL : RLi f ln li) (hw : wL ln) (hy : inR y 2) (hl : l < 4) (h0 : ¬ ln l = 0) (ha : (gSt (s 13 0) d (sch p (s, k)) y) = 0) : C0 MX11_lay [.ref 93, .int y, .int (nI l), .int z] f (fun r h => r = some (.int (-5)) ∧ R96 h ∧ frS f h) := by
  refine Ct.of (lv := [(0, .ref 93), (1, .int y), (2, .int (nI l)), (3, .int z)]) (by decide) (lb rfl) rfl ?_
  refine A_iload_n dX11_lay_0 rfl 1 rfl ?_
  refine A_i2l dX11_lay_1 ?_
  refine A_lconst (v := 0) dX11_lay_2 rfl ?_
  refine A_lconst (v := 1) dX11_lay_3 rfl ?_
  refine A_callS (M' := MX11_in) [.long y.toInt64, .long 0, .long 1] [] dX11_lay_4 lk_RX11_64 oX11_in sX11_in rfl rfl ⟨lb rfl, lb rfl⟩ (lb rfl) ⟨lb rfl, lb rfl⟩ (c_in _ _ _ _) ?_
  rintro _ g0 ⟨rfl, hg0⟩
  rw [hg0]
  refine A_topi (bz (inR y 2)) (bz_c (in_2w _)) ?_
  refine A_if_eq (tgt := 17) dX11_lay_7 rfl (fun h7 => by exact absurd hy (bz_0.mp h7)) (fun h7 => ?_)
  refine A_iload_n dX11_lay_10 rfl 2 rfl ?_
  refine A_callS (M' := MX11_isList) [.int (nI l)] [] dX11_lay_11 lk_RX11_203 oX11_isList sX11_isList rfl rfl ⟨lb rfl, lb rfl⟩ (lb rfl) ⟨lb rfl, lb rfl⟩ (c_isList (nI l) _) ?_
  rintro _ g0 ⟨rfl, hg0⟩
  rw [hg0]
  refine A_if_ne (tgt := 19) dX11_lay_14 rfl (fun h14 => ?_) (fun h14 => by exact absurd ((inR_nI (by omega)).mpr hl) (bz_0.mp h14))
  refine A_aload_n dX11_lay_19 rfl 0 rfl ?_
  refine A_getR (b := 110) dX11_lay_20 fo_RX11_58 L93 rfl ?_
  refine A_iload_n dX11_lay_23 rfl 2 rfl ?_
  refine A_iaload l dX11_lay_24 L110 (rfl) (by omega) (lb rfl) ?_
  refine A_topi (nI (ln l - 1)) ((hL.1 l hl).trans (if_neg h0)) ?_
  refine A_if_ge (tgt := 31) dX11_lay_25 rfl (fun h25 => ?_) (fun h25 => by exact absurd (nI_ge0 (by have := hw l hl; omega)) h25)
  refine A_aload_n dX11_lay_31 rfl 0 rfl ?_
  refine A_iload_n dX11_lay_32 rfl 1 rfl ?_
  refine A_callV (M' := MX11_goal) [.int y] [] 93 dX11_lay_33 lk_RX11_275 oX11_goal iX11_goal rfl rfl ⟨lb rfl, lb rfl⟩ (lb rfl) ⟨lb rfl, lb rfl⟩ L93 rfl (c_goal y f s k p rz lz hC w h96 d hNc hwN) ?_
  rintro _ h ⟨rfl, x, h962, hf⟩
  have hC2 : RC h s k p rz lz := hC.congr (hf.1 94 (by omega)) (hf.1 97 (by omega)) (hf.1 98 (by omega))
  have hJ := Jq_s (p := p) (u := (s, k)) w
  have hW := Jw_s (p := p) (u := (s, k)) w
  have h600 := hJ.2.1
  have hga : (gSt (s 13 0) d (sch p (s, k)) y) ≤ (sch p (s, k)).1 := by unfold gSt; split; exact fi_le _ _; exact fi_le _ _
  refine A_istore (lv' := [(4, .int (nI (gSt (s 13 0) d (sch p (s, k)) y) - 1)), (0, .ref 93), (1, .int y), (2, .int (nI l)), (3, .int z)]) dX11_lay_36 (lb rfl) rfl ?_
  refine A_iload dX11_lay_38 0 rfl ?_
  refine A_if_ge (tgt := 46) dX11_lay_40 rfl (fun h40 => by exact absurd h40 (by rw [ha]; decide)) (fun h40 => ?_)
  refine A_bipush (v := -5) dX11_lay_43 rfl ?_
  exact A_iret dX11_lay_45 rfl (⟨rfl, h962, hf⟩)
theorem c_lay5 (y z : Int32) (l : Nat) (f : Mem) (s : Sg) (k p rz lz : Ro) (hC : RC f s k p rz lz) (w : wfC s k p) (h96 : R96 f) (d : Cd) (hNc : RNc f d.1 d.2.1 d.2.2.1 d.2.2.2) (hwN : wN d.1 d.2.1 d.2.2.1) (ln : Nat → Nat) (li : Nat → Ro) (hL : RLi f ln li) (hw : wL ln) (hy : inR y 2) (hl : l < 4) (h0 : ¬ ln l = 0) (ha : ¬ (gSt (s 13 0) d (sch p (s, k)) y) = 0) (hd0 : (sch p (s, k)).2.2.2.2.1 ((gSt (s 13 0) d (sch p (s, k)) y) - 1) = 0) : C0 MX11_lay [.ref 93, .int y, .int (nI l), .int z] f (fun r h => r = some (.int 0) ∧ R96 h ∧ frS f h) := by
  refine Ct.of (lv := [(0, .ref 93), (1, .int y), (2, .int (nI l)), (3, .int z)]) (by decide) (lb rfl) rfl ?_
  refine A_iload_n dX11_lay_0 rfl 1 rfl ?_
  refine A_i2l dX11_lay_1 ?_
  refine A_lconst (v := 0) dX11_lay_2 rfl ?_
  refine A_lconst (v := 1) dX11_lay_3 rfl ?_
  refine A_callS (M' := MX11_in) [.long y.toInt64, .long 0, .long 1] [] dX11_lay_4 lk_RX11_64 oX11_in sX11_in rfl rfl ⟨lb rfl, lb rfl⟩ (lb rfl) ⟨lb rfl, lb rfl⟩ (c_in _ _ _ _) ?_
  rintro _ g0 ⟨rfl, hg0⟩
  rw [hg0]
  refine A_topi (bz (inR y 2)) (bz_c (in_2w _)) ?_
  refine A_if_eq (tgt := 17) dX11_lay_7 rfl (fun h7 => by exact absurd hy (bz_0.mp h7)) (fun h7 => ?_)
  refine A_iload_n dX11_lay_10 rfl 2 rfl ?_
  refine A_callS (M' := MX11_isList) [.int (nI l)] [] dX11_lay_11 lk_RX11_203 oX11_isList sX11_isList rfl rfl ⟨lb rfl, lb rfl⟩ (lb rfl) ⟨lb rfl, lb rfl⟩ (c_isList (nI l) _) ?_
  rintro _ g0 ⟨rfl, hg0⟩
  rw [hg0]
  refine A_if_ne (tgt := 19) dX11_lay_14 rfl (fun h14 => ?_) (fun h14 => by exact absurd ((inR_nI (by omega)).mpr hl) (bz_0.mp h14))
  refine A_aload_n dX11_lay_19 rfl 0 rfl ?_
  refine A_getR (b := 110) dX11_lay_20 fo_RX11_58 L93 rfl ?_
  refine A_iload_n dX11_lay_23 rfl 2 rfl ?_
  refine A_iaload l dX11_lay_24 L110 (rfl) (by omega) (lb rfl) ?_
  refine A_topi (nI (ln l - 1)) ((hL.1 l hl).trans (if_neg h0)) ?_
  refine A_if_ge (tgt := 31) dX11_lay_25 rfl (fun h25 => ?_) (fun h25 => by exact absurd (nI_ge0 (by have := hw l hl; omega)) h25)
  refine A_aload_n dX11_lay_31 rfl 0 rfl ?_
  refine A_iload_n dX11_lay_32 rfl 1 rfl ?_
  refine A_callV (M' := MX11_goal) [.int y] [] 93 dX11_lay_33 lk_RX11_275 oX11_goal iX11_goal rfl rfl ⟨lb rfl, lb rfl⟩ (lb rfl) ⟨lb rfl, lb rfl⟩ L93 rfl (c_goal y f s k p rz lz hC w h96 d hNc hwN) ?_
  rintro _ h ⟨rfl, x, h962, hf⟩
  have hC2 : RC h s k p rz lz := hC.congr (hf.1 94 (by omega)) (hf.1 97 (by omega)) (hf.1 98 (by omega))
  have hJ := Jq_s (p := p) (u := (s, k)) w
  have hW := Jw_s (p := p) (u := (s, k)) w
  have h600 := hJ.2.1
  have hga : (gSt (s 13 0) d (sch p (s, k)) y) ≤ (sch p (s, k)).1 := by unfold gSt; split; exact fi_le _ _; exact fi_le _ _
  refine A_istore (lv' := [(4, .int (nI (gSt (s 13 0) d (sch p (s, k)) y) - 1)), (0, .ref 93), (1, .int y), (2, .int (nI l)), (3, .int z)]) dX11_lay_36 (lb rfl) rfl ?_
  refine A_iload dX11_lay_38 0 rfl ?_
  refine A_if_ge (tgt := 46) dX11_lay_40 rfl (fun h40 => ?_) (fun h40 => by exact absurd (by rw [nI_p1 ha]; exact nI_ge0 (by omega)) h40)
  refine A_iconst (v := 0) dX11_lay_46 rfl ?_
  refine A_istore (lv' := [(5, .int 0), (4, .int (nI (gSt (s 13 0) d (sch p (s, k)) y) - 1)), (0, .ref 93), (1, .int y), (2, .int (nI l)), (3, .int z)]) dX11_lay_47 (lb rfl) rfl ?_
  refine A_iload dX11_lay_49 0 rfl ?_
  refine A_aload_n dX11_lay_51 rfl 2 rfl ?_
  refine A_getR (b := 107) dX11_lay_52 fo_RX11_49 L93 rfl ?_
  refine A_iload dX11_lay_55 1 rfl ?_
  refine A_iaload ((gSt (s 13 0) d (sch p (s, k)) y) - 1) dX11_lay_57 L107 (nI_p1 ha) (by omega) (lb rfl) ?_
  refine A_topi (nI ((sch p (s, k)).2.2.2.2.1 ((gSt (s 13 0) d (sch p (s, k)) y) - 1))) (x.2.2.2 _ (by omega)) ?_
  refine A_icmp_ge (tgt := 113) dX11_lay_58 rfl (fun h58 => ?_) (fun h58 => by exact absurd (by rw [hd0]; decide) h58)
  refine A_aload_n dX11_lay_113 rfl 2 rfl ?_
  refine A_getR (b := 107) dX11_lay_114 fo_RX11_49 L93 rfl ?_
  refine A_iload dX11_lay_117 1 rfl ?_
  refine A_iaload ((gSt (s 13 0) d (sch p (s, k)) y) - 1) dX11_lay_119 L107 (nI_p1 ha) (by omega) (lb rfl) ?_
  refine A_topi (nI ((sch p (s, k)).2.2.2.2.1 ((gSt (s 13 0) d (sch p (s, k)) y) - 1))) (x.2.2.2 _ (by omega)) ?_
  exact A_iret dX11_lay_120 rfl (⟨by rw [hd0]; rfl, h962, hf⟩)
theorem c_lay6 (y z : Int32) (l : Nat) (f : Mem) (s : Sg) (k p rz lz : Ro) (hC : RC f s k p rz lz) (w : wfC s k p) (h96 : R96 f) (d : Cd) (hNc : RNc f d.1 d.2.1 d.2.2.1 d.2.2.2) (hwN : wN d.1 d.2.1 d.2.2.1) (ln : Nat → Nat) (li : Nat → Ro) (hL : RLi f ln li) (hw : wL ln) (hy : inR y 2) (hl : l < 4) (h0 : ¬ ln l = 0) (ha : ¬ (gSt (s 13 0) d (sch p (s, k)) y) = 0) (hd0 : 0 < (sch p (s, k)).2.2.2.2.1 ((gSt (s 13 0) d (sch p (s, k)) y) - 1)) (hz : z < 0) : C0 MX11_lay [.ref 93, .int y, .int (nI l), .int z] f (fun r h => r = some (.int (-13)) ∧ R96 h ∧ frS f h) := by
  refine Ct.of (lv := [(0, .ref 93), (1, .int y), (2, .int (nI l)), (3, .int z)]) (by decide) (lb rfl) rfl ?_
  refine A_iload_n dX11_lay_0 rfl 1 rfl ?_
  refine A_i2l dX11_lay_1 ?_
  refine A_lconst (v := 0) dX11_lay_2 rfl ?_
  refine A_lconst (v := 1) dX11_lay_3 rfl ?_
  refine A_callS (M' := MX11_in) [.long y.toInt64, .long 0, .long 1] [] dX11_lay_4 lk_RX11_64 oX11_in sX11_in rfl rfl ⟨lb rfl, lb rfl⟩ (lb rfl) ⟨lb rfl, lb rfl⟩ (c_in _ _ _ _) ?_
  rintro _ g0 ⟨rfl, hg0⟩
  rw [hg0]
  refine A_topi (bz (inR y 2)) (bz_c (in_2w _)) ?_
  refine A_if_eq (tgt := 17) dX11_lay_7 rfl (fun h7 => by exact absurd hy (bz_0.mp h7)) (fun h7 => ?_)
  refine A_iload_n dX11_lay_10 rfl 2 rfl ?_
  refine A_callS (M' := MX11_isList) [.int (nI l)] [] dX11_lay_11 lk_RX11_203 oX11_isList sX11_isList rfl rfl ⟨lb rfl, lb rfl⟩ (lb rfl) ⟨lb rfl, lb rfl⟩ (c_isList (nI l) _) ?_
  rintro _ g0 ⟨rfl, hg0⟩
  rw [hg0]
  refine A_if_ne (tgt := 19) dX11_lay_14 rfl (fun h14 => ?_) (fun h14 => by exact absurd ((inR_nI (by omega)).mpr hl) (bz_0.mp h14))
  refine A_aload_n dX11_lay_19 rfl 0 rfl ?_
  refine A_getR (b := 110) dX11_lay_20 fo_RX11_58 L93 rfl ?_
  refine A_iload_n dX11_lay_23 rfl 2 rfl ?_
  refine A_iaload l dX11_lay_24 L110 (rfl) (by omega) (lb rfl) ?_
  refine A_topi (nI (ln l - 1)) ((hL.1 l hl).trans (if_neg h0)) ?_
  refine A_if_ge (tgt := 31) dX11_lay_25 rfl (fun h25 => ?_) (fun h25 => by exact absurd (nI_ge0 (by have := hw l hl; omega)) h25)
  refine A_aload_n dX11_lay_31 rfl 0 rfl ?_
  refine A_iload_n dX11_lay_32 rfl 1 rfl ?_
  refine A_callV (M' := MX11_goal) [.int y] [] 93 dX11_lay_33 lk_RX11_275 oX11_goal iX11_goal rfl rfl ⟨lb rfl, lb rfl⟩ (lb rfl) ⟨lb rfl, lb rfl⟩ L93 rfl (c_goal y f s k p rz lz hC w h96 d hNc hwN) ?_
  rintro _ h ⟨rfl, x, h962, hf⟩
  have hC2 : RC h s k p rz lz := hC.congr (hf.1 94 (by omega)) (hf.1 97 (by omega)) (hf.1 98 (by omega))
  have hJ := Jq_s (p := p) (u := (s, k)) w
  have hW := Jw_s (p := p) (u := (s, k)) w
  have h600 := hJ.2.1
  have hga : (gSt (s 13 0) d (sch p (s, k)) y) ≤ (sch p (s, k)).1 := by unfold gSt; split; exact fi_le _ _; exact fi_le _ _
  refine A_istore (lv' := [(4, .int (nI (gSt (s 13 0) d (sch p (s, k)) y) - 1)), (0, .ref 93), (1, .int y), (2, .int (nI l)), (3, .int z)]) dX11_lay_36 (lb rfl) rfl ?_
  refine A_iload dX11_lay_38 0 rfl ?_
  refine A_if_ge (tgt := 46) dX11_lay_40 rfl (fun h40 => ?_) (fun h40 => by exact absurd (by rw [nI_p1 ha]; exact nI_ge0 (by omega)) h40)
  refine A_iconst (v := 0) dX11_lay_46 rfl ?_
  refine A_istore (lv' := [(5, .int 0), (4, .int (nI (gSt (s 13 0) d (sch p (s, k)) y) - 1)), (0, .ref 93), (1, .int y), (2, .int (nI l)), (3, .int z)]) dX11_lay_47 (lb rfl) rfl ?_
  refine A_iload dX11_lay_49 0 rfl ?_
  refine A_aload_n dX11_lay_51 rfl 2 rfl ?_
  refine A_getR (b := 107) dX11_lay_52 fo_RX11_49 L93 rfl ?_
  refine A_iload dX11_lay_55 1 rfl ?_
  refine A_iaload ((gSt (s 13 0) d (sch p (s, k)) y) - 1) dX11_lay_57 L107 (nI_p1 ha) (by omega) (lb rfl) ?_
  refine A_topi (nI ((sch p (s, k)).2.2.2.2.1 ((gSt (s 13 0) d (sch p (s, k)) y) - 1))) (x.2.2.2 _ (by omega)) ?_
  refine A_icmp_ge (tgt := 113) dX11_lay_58 rfl (fun h58 => by exact absurd h58 (fun q => by have hle := hW.le ((gSt (s 13 0) d (sch p (s, k)) y) - 1) (by omega); rw [show (0 : Int32) = nI 0 from rfl, nI_leI (by omega) (by decide)] at q; omega)) (fun h58 => ?_)
  refine A_iload_n dX11_lay_61 rfl 5 rfl ?_
  refine A_if_lt (tgt := 82) dX11_lay_62 rfl (fun h62 => ?_) (fun h62 => by exact absurd hz h62)
  refine A_bipush (v := -13) dX11_lay_82 rfl ?_
  exact A_iret dX11_lay_84 rfl (⟨rfl, h962, hf⟩)
theorem c_lay7 (y : Int32) (l i : Nat) (f : Mem) (s : Sg) (k p rz lz : Ro) (hC : RC f s k p rz lz) (w : wfC s k p) (h96 : R96 f) (d : Cd) (hNc : RNc f d.1 d.2.1 d.2.2.1 d.2.2.2) (hwN : wN d.1 d.2.1 d.2.2.1) (ln : Nat → Nat) (li : Nat → Ro) (hL : RLi f ln li) (hw : wL ln) (hy : inR y 2) (hl : l < 4) (h0 : ¬ ln l = 0) (ha : ¬ (gSt (s 13 0) d (sch p (s, k)) y) = 0) (hd0 : 0 < (sch p (s, k)).2.2.2.2.1 ((gSt (s 13 0) d (sch p (s, k)) y) - 1)) (hi : i < 2 ^ 31) : C0 MX11_lay [.ref 93, .int y, .int (nI l), .int (nI i)] f (fun r h => r = some (.int (if (min ((sch p (s, k)).2.2.2.2.1 ((gSt (s 13 0) d (sch p (s, k)) y) - 1)) (ln l - 1 - i)) = (sch p (s, k)).2.2.2.2.1 ((gSt (s 13 0) d (sch p (s, k)) y) - 1) then nI ((sch p (s, k)).2.2.2.2.1 ((gSt (s 13 0) d (sch p (s, k)) y) - 1)) else -13)) ∧ RLi h ln (lyL li l i (min ((sch p (s, k)).2.2.2.2.1 ((gSt (s 13 0) d (sch p (s, k)) y) - 1)) (ln l - 1 - i)) (fun t => mvV (sch p (s, k)) (gSt (s 13 0) d (sch p (s, k)) y) (nI t))) ∧ R96 h ∧ (∀ b, b < 93 ∨ b = 94 ∨ b = 95 ∨ (97 ≤ b ∧ b ≤ 103) ∨ 108 < b → b ≠ 111 → h b = f b) ∧ ∀ i, i ≠ 16 → i ≠ 17 → i ≠ 23 → i ≠ 24 → h 93 i = f 93 i) := by
  refine Ct.of (lv := [(0, .ref 93), (1, .int y), (2, .int (nI l)), (3, .int (nI i))]) (by decide) (lb rfl) rfl ?_
  refine A_iload_n dX11_lay_0 rfl 1 rfl ?_
  refine A_i2l dX11_lay_1 ?_
  refine A_lconst (v := 0) dX11_lay_2 rfl ?_
  refine A_lconst (v := 1) dX11_lay_3 rfl ?_
  refine A_callS (M' := MX11_in) [.long y.toInt64, .long 0, .long 1] [] dX11_lay_4 lk_RX11_64 oX11_in sX11_in rfl rfl ⟨lb rfl, lb rfl⟩ (lb rfl) ⟨lb rfl, lb rfl⟩ (c_in _ _ _ _) ?_
  rintro _ g0 ⟨rfl, hg0⟩
  rw [hg0]
  refine A_topi (bz (inR y 2)) (bz_c (in_2w _)) ?_
  refine A_if_eq (tgt := 17) dX11_lay_7 rfl (fun h7 => by exact absurd hy (bz_0.mp h7)) (fun h7 => ?_)
  refine A_iload_n dX11_lay_10 rfl 2 rfl ?_
  refine A_callS (M' := MX11_isList) [.int (nI l)] [] dX11_lay_11 lk_RX11_203 oX11_isList sX11_isList rfl rfl ⟨lb rfl, lb rfl⟩ (lb rfl) ⟨lb rfl, lb rfl⟩ (c_isList (nI l) _) ?_
  rintro _ g0 ⟨rfl, hg0⟩
  rw [hg0]
  refine A_if_ne (tgt := 19) dX11_lay_14 rfl (fun h14 => ?_) (fun h14 => by exact absurd ((inR_nI (by omega)).mpr hl) (bz_0.mp h14))
  refine A_aload_n dX11_lay_19 rfl 0 rfl ?_
  refine A_getR (b := 110) dX11_lay_20 fo_RX11_58 L93 rfl ?_
  refine A_iload_n dX11_lay_23 rfl 2 rfl ?_
  refine A_iaload l dX11_lay_24 L110 (rfl) (by omega) (lb rfl) ?_
  refine A_topi (nI (ln l - 1)) ((hL.1 l hl).trans (if_neg h0)) ?_
  refine A_if_ge (tgt := 31) dX11_lay_25 rfl (fun h25 => ?_) (fun h25 => by exact absurd (nI_ge0 (by have := hw l hl; omega)) h25)
  refine A_aload_n dX11_lay_31 rfl 0 rfl ?_
  refine A_iload_n dX11_lay_32 rfl 1 rfl ?_
  refine A_callV (M' := MX11_goal) [.int y] [] 93 dX11_lay_33 lk_RX11_275 oX11_goal iX11_goal rfl rfl ⟨lb rfl, lb rfl⟩ (lb rfl) ⟨lb rfl, lb rfl⟩ L93 rfl (c_goal y f s k p rz lz hC w h96 d hNc hwN) ?_
  rintro _ h ⟨rfl, x, h962, hf⟩
  have hC2 : RC h s k p rz lz := hC.congr (hf.1 94 (by omega)) (hf.1 97 (by omega)) (hf.1 98 (by omega))
  have hJ := Jq_s (p := p) (u := (s, k)) w
  have hW := Jw_s (p := p) (u := (s, k)) w
  have h600 := hJ.2.1
  have hga : (gSt (s 13 0) d (sch p (s, k)) y) ≤ (sch p (s, k)).1 := by unfold gSt; split; exact fi_le _ _; exact fi_le _ _
  refine A_istore (lv' := [(4, .int (nI (gSt (s 13 0) d (sch p (s, k)) y) - 1)), (0, .ref 93), (1, .int y), (2, .int (nI l)), (3, .int (nI i))]) dX11_lay_36 (lb rfl) rfl ?_
  refine A_iload dX11_lay_38 0 rfl ?_
  refine A_if_ge (tgt := 46) dX11_lay_40 rfl (fun h40 => ?_) (fun h40 => by exact absurd (by rw [nI_p1 ha]; exact nI_ge0 (by omega)) h40)
  refine A_iconst (v := 0) dX11_lay_46 rfl ?_
  refine A_istore (lv' := [(5, .int 0), (4, .int (nI (gSt (s 13 0) d (sch p (s, k)) y) - 1)), (0, .ref 93), (1, .int y), (2, .int (nI l)), (3, .int (nI i))]) dX11_lay_47 (lb rfl) rfl ?_
  have hwl := hw l hl
  have hle := hW.le ((gSt (s 13 0) d (sch p (s, k)) y) - 1) (by omega)
  refine A_sub [0, 1, 5, 4, 2] rfl ?_
  refine A_eq rfl rfl (f' := ur h 111 (lyR (h 111) (40 * l + i) 0 (fun t => mvV (sch p (s, k)) (gSt (s 13 0) d (sch p (s, k)) y) (nI t)))) (by rw [lyR_0, ur_self]) ?_
  have fin : ∀ v : Int32, v = (if (min ((sch p (s, k)).2.2.2.2.1 ((gSt (s 13 0) d (sch p (s, k)) y) - 1)) (ln l - 1 - i)) = (sch p (s, k)).2.2.2.2.1 ((gSt (s 13 0) d (sch p (s, k)) y) - 1) then nI ((sch p (s, k)).2.2.2.2.1 ((gSt (s 13 0) d (sch p (s, k)) y) - 1)) else -13) → (fun (r : Option Value) (h : Mem) => r = some (.int (if (min ((sch p (s, k)).2.2.2.2.1 ((gSt (s 13 0) d (sch p (s, k)) y) - 1)) (ln l - 1 - i)) = (sch p (s, k)).2.2.2.2.1 ((gSt (s 13 0) d (sch p (s, k)) y) - 1) then nI ((sch p (s, k)).2.2.2.2.1 ((gSt (s 13 0) d (sch p (s, k)) y) - 1)) else -13)) ∧ RLi h ln (lyL li l i (min ((sch p (s, k)).2.2.2.2.1 ((gSt (s 13 0) d (sch p (s, k)) y) - 1)) (ln l - 1 - i)) (fun t => mvV (sch p (s, k)) (gSt (s 13 0) d (sch p (s, k)) y) (nI t))) ∧ R96 h ∧ (∀ b, b < 93 ∨ b = 94 ∨ b = 95 ∨ (97 ≤ b ∧ b ≤ 103) ∨ 108 < b → b ≠ 111 → h b = f b) ∧ ∀ i, i ≠ 16 → i ≠ 17 → i ≠ 23 → i ≠ 24 → h 93 i = f 93 i) (some (.int v)) (ur h 111 (lyR (h 111) (40 * l + i) (min ((sch p (s, k)).2.2.2.2.1 ((gSt (s 13 0) d (sch p (s, k)) y) - 1)) (ln l - 1 - i)) (fun t => mvV (sch p (s, k)) (gSt (s 13 0) d (sch p (s, k)) y) (nI t)))) := fun v hv => ⟨by rw [hv], hL.ly hl (by omega) ((ur_n _ _ (by decide)).trans (hf.1 110 (by omega))) (by rw [ur_s, hf.1 111 (by omega)]), fun j hj => by rw [ur_n _ _ (by decide)]; exact h962 j hj, fun b b1 b2 => (ur_n _ _ b2).trans (hf.1 b b1), fun i i1 i2 i3 i4 => by rw [ur_n _ _ (by decide)]; exact hf.2 i i1 i2 i3 i4⟩
  exact lc_lay h s k p rz lz hC2 w (sch p (s, k)) x hJ hW (gSt (s 13 0) d (sch p (s, k)) y) l i ((sch p (s, k)).2.2.2.2.1 ((gSt (s 13 0) d (sch p (s, k)) y) - 1)) (min ((sch p (s, k)).2.2.2.2.1 ((gSt (s 13 0) d (sch p (s, k)) y) - 1)) (ln l - 1 - i)) (ln l - 1) ha hga rfl hl hi (by rw [hf.1 110 (by omega)]; exact (hL.1 l hl).trans (if_neg h0)) (by omega) rfl _ (fun z => fin _ (by rw [if_pos z])) (fun z => fin _ (by rw [if_neg z])) 0 (by omega)
