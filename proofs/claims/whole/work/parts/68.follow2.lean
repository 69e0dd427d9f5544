/-! follow: the reference -/
theorem RL_fr {f0 f : Mem} {ln : Nat → Nat} {li : Nat → Ro} (h : RLi f0 ln li) (e : fT f0 f) : RLi f ln li := h.congr (e.1 110 (by omega)) (e.1 111 (by omega))
theorem lc_follow (f0 : Mem) (qf : Kt) (p : Ro) (tot n l i0 : Nat) (ln : Nat → Nat) (li : Nat → Ro) (hL0 : RLi f0 ln li) (hl : l < 4) (hb : i0 + n ≤ 40) : ∀ m i (f : Mem) (q : Kt), i + m = n → runK p (chL (li l) i0) m i q = (qf, tot - i) → i ≤ tot → RK f p q → WK p q → fT f0 f → A (cM MX11_follow 0 0 layT layT (fun r h => r = some (.int (nI tot)) ∧ RK h p qf ∧ fT f0 h)) 47 [(4, .int (nI i)), (0, .ref 93), (1, .int (nI l)), (2, .int (nI i0)), (3, .int (nI n))] [] f := by
  intro m
  refine Nat.strongRecOn m (fun m ih => ?_)
  intro i f q hm hr hit hX hW hfr
  refine A_iload dX11_follow_47 0 rfl ?_
  refine A_iload_n dX11_follow_49 rfl 4 rfl ?_
  refine A_icmp_ge (tgt := 98) dX11_follow_50 rfl (fun h50 => ?_) (fun h50 => ?_)
  · rw [nI_leI (by omega) (by omega)] at h50
    have em : m = 0 := by omega
    rw [em, runK] at hr
    have e1 := congrArg Prod.fst hr
    have e2 := congrArg Prod.snd hr
    dsimp only at e1 e2
    refine A_iload dX11_follow_98 0 rfl ?_
    exact A_iret dX11_follow_100 rfl (⟨by rw [show tot = i by omega], by rw [← e1]; exact hX, hfr⟩)
  · rw [nI_leI (by omega) (by omega)] at h50
    obtain ⟨m1, em⟩ : ∃ m1, m = m1 + 1 := ⟨m - 1, by omega⟩
    rw [em, runK] at hr
    have hL := RL_fr hL0 hfr
    have h13 := hW.1.2.2.2.2.1
    refine A_aload_n dX11_follow_53 rfl 1 rfl ?_
    refine A_aload_n dX11_follow_54 rfl 1 rfl ?_
    refine A_getR (b := 111) dX11_follow_55 fo_RX11_61 L93 rfl ?_
    refine A_bipush (v := 40) dX11_follow_58 rfl ?_
    refine A_iload_n dX11_follow_60 rfl 2 rfl ?_
    refine A_imul dX11_follow_61 ?_
    refine A_iload_n dX11_follow_62 rfl 3 rfl ?_
    refine A_iadd dX11_follow_63 ?_
    refine A_iload dX11_follow_64 0 rfl ?_
    refine A_iadd dX11_follow_66 ?_
    refine A_iaload (40 * l + i0 + i) dX11_follow_67 L111 (by simp only [lit, nI_add, pk_mul]) (by omega) (lb rfl) ?_
    refine A_topi (li l (i0 + i)) (by rw [Nat.add_assoc]; exact hL.2 l hl (i0 + i) (by omega)) ?_
    refine A_callV (M' := MX11_isReady) [.int (li l (i0 + i))] [] 93 dX11_follow_68 lk_RX11_191 oX11_isReady iX11_isReady rfl rfl ⟨lb rfl, lb rfl⟩ (lb rfl) ⟨lb rfl, lb rfl⟩ L93 rfl (c_isReady (li l (i0 + i)) _ q.1 q.2.1 p q.2.2.1 q.2.2.2.1 hX.1 hW.1.2.2.2.2.1 hW.1.1) ?_
    rintro _ g0 ⟨rfl, hg0⟩
    rw [hg0]
    refine A_if_eq (tgt := 98) dX11_follow_71 rfl (fun h71 => ?_) (fun h71 => ?_)
    · have hm1 : chL (li l) i0 i q = -1 := if_neg (bz_0.mp h71)
      rw [if_pos hm1] at hr
      have e1 := congrArg Prod.fst hr
      have e2 := congrArg Prod.snd hr
      dsimp only at e1 e2
      refine A_iload dX11_follow_98 0 rfl ?_
      exact A_iret dX11_follow_100 rfl (⟨by rw [show tot = i by omega], by rw [← e1]; exact hX, hfr⟩)
    · have hz := bz_n0.mp h71
      obtain ⟨t, ht, et⟩ := inR_of (by omega) hz.1
      have h1 : q.1 1 t = 0 := by have := hz.2; rwa [et, nI_clamp (by omega)] at this
      have hce : chL (li l) i0 i q = nI t := (if_pos hz).trans et
      rw [hce, if_neg (nI_nm1 (by omega)), nI_clamp (by omega)] at hr
      have e1 := congrArg Prod.fst hr
      have e2 := congrArg Prod.snd hr
      dsimp only at e1 e2
      refine A_aload_n dX11_follow_74 rfl 1 rfl ?_
      refine A_aload_n dX11_follow_75 rfl 1 rfl ?_
      refine A_getR (b := 111) dX11_follow_76 fo_RX11_61 L93 rfl ?_
      refine A_bipush (v := 40) dX11_follow_79 rfl ?_
      refine A_iload_n dX11_follow_81 rfl 2 rfl ?_
      refine A_imul dX11_follow_82 ?_
      refine A_iload_n dX11_follow_83 rfl 3 rfl ?_
      refine A_iadd dX11_follow_84 ?_
      refine A_iload dX11_follow_85 0 rfl ?_
      refine A_iadd dX11_follow_87 ?_
      refine A_iaload (40 * l + i0 + i) dX11_follow_88 L111 (by simp only [lit, nI_add, pk_mul]) (by omega) (lb rfl) ?_
      refine A_topi (li l (i0 + i)) (by rw [Nat.add_assoc]; exact hL.2 l hl (i0 + i) (by omega)) ?_
      refine A_callV (M' := MX11_stepsTruly) [.int (li l (i0 + i))] [] 93 dX11_follow_89 lk_RX11_194 oX11_stepsTruly iX11_stepsTruly rfl rfl ⟨lb rfl, lb rfl⟩ (lb rfl) ⟨lb rfl, lb rfl⟩ L93 rfl (by rw [et]; exact c_stepsTruly t f q.1 q.2.1 p q.2.2.1 q.2.2.2.1 q.2.2.2.2.1 q.2.2.2.2.2.1 q.2.2.2.2.2.2 hX.1 hX.2.1 hX.2.2 hW.1 ht h1) ?_
      rintro _ h ⟨rfl, hX2, h962, hQ2, hf2⟩
      refine A_iinc (lv' := [(4, .int (nI (i + 1))), (0, .ref 93), (1, .int (nI l)), (2, .int (nI i0)), (3, .int (nI n))]) dX11_follow_92 0 rfl (nI_add i 1) (lb rfl) rfl ?_
      refine A_goto (tgt := 47) dX11_follow_95 rfl ?_
      refine A_sub [0, 1, 2, 3, 4] rfl ?_
      exact ih m1 (by omega) (i + 1) h (sK p t q) (by omega) (Prod.ext e1 (by dsimp only; omega)) (by omega) ⟨hX2, h962, hQ2⟩ (WK_s hW ht h1) (hfr.tr hf2)
