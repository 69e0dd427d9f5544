/-! follow: the class -/
def chL (g : Ro) (i0 : Nat) : Nat → Kt → Int32 := fun j q => if inR (g (i0 + j)) (q.1 13 0) ∧ q.1 1 (g (i0 + j)).toNatClampNeg = 0 then g (i0 + j) else -1
theorem okL_ch (g : Ro) (i0 : Nat) : okCh (chL g i0) := fun i q p w => by
  unfold chL
  by_cases z : inR (g (i0 + i)) (q.1 13 0) ∧ q.1 1 (g (i0 + i)).toNatClampNeg = 0
  · rw [if_pos z]
    have h4 := w.1.2.2.2.2.1
    obtain ⟨t, ht, e⟩ := inR_of (by omega) z.1
    exact .inr ⟨t, ht, by have := z.2; rwa [e, nI_clamp (by omega)] at this, e⟩
  · rw [if_neg z]; exact .inl rfl
theorem XL_fr {f0 f : Mem} {q0 q : Kt} {ln : Nat → Nat} {li : Nat → Ro} (h : XL f0 ln li) (e : frK f0 f q0 q) : XL f ln li := by
  rcases e with e | e
  · rw [e.1]; exact h
  · exact h.congr (fun a a1 a2 => e.2 a (by omega) (by omega) (by omega))
theorem lx_follow (f0 : Mem) (q0 qf : Kt) (p : Ro) (tot n l i0 : Nat) (ln : Nat → Nat) (li : Nat → Ro) (hL0 : XL f0 ln li) (hl : l < 4) (hb : i0 + n ≤ 40) : ∀ m i (f : Mem) (q : Kt), i + m = n → runK p (chL (li l) i0) m i q = (qf, tot - i) → i ≤ tot → XK f p q → WK p q → frK f0 f q0 q → A (cM MX10_follow 0 0 layT layT (fun r h => r = some (.int (nI tot)) ∧ XK h p qf ∧ frK f0 h q0 qf)) 47 [(5, .int (nI i)), (0, .ref 0), (1, .int (nI l)), (2, .int (nI i0)), (3, .int (nI n))] [] f := by
  intro m
  refine Nat.strongRecOn m (fun m ih => ?_)
  intro i f q hm hr hit hX hW hfr
  refine A_iload dX10_follow_47 0 rfl ?_
  refine A_iload_n dX10_follow_49 rfl 4 rfl ?_
  refine A_icmp_ge (tgt := 106) dX10_follow_50 rfl (fun h50 => ?_) (fun h50 => ?_)
  · rw [nI_leI (by omega) (by omega)] at h50
    have em : m = 0 := by omega
    rw [em, runK] at hr
    have e1 := congrArg Prod.fst hr
    have e2 := congrArg Prod.snd hr
    dsimp only at e1 e2
    refine A_iload_n dX10_follow_106 rfl 4 rfl ?_
    exact A_iret dX10_follow_107 rfl (⟨by rw [show tot = n by omega], by rw [← e1]; exact hX, by rw [← e1]; exact hfr⟩)
  · rw [nI_leI (by omega) (by omega)] at h50
    obtain ⟨m1, em⟩ : ∃ m1, m = m1 + 1 := ⟨m - 1, by omega⟩
    rw [em, runK] at hr
    have hL := XL_fr hL0 hfr
    have h13 := hW.1.2.2.2.2.1
    refine A_aload_n dX10_follow_53 rfl 1 rfl ?_
    refine A_getR (b := 86) dX10_follow_54 fo_RX10_59 L0 rfl ?_
    refine A_getR (b := 88) dX10_follow_57 fo_RX10_159 L86 rfl ?_
    refine A_iload_n dX10_follow_60 rfl 2 rfl ?_
    refine A_aaload3 (b := 89 + l) l dX10_follow_61 L88 (rfl) (by omega) (lb rfl) ((lay89 l hl).2) ?_
    refine A_iload_n dX10_follow_62 rfl 3 rfl ?_
    refine A_iload dX10_follow_63 0 rfl ?_
    refine A_iadd dX10_follow_65 ?_
    refine A_iaload (i0 + i) dX10_follow_66 ((lay89 l hl).1) (by simp only [lit, nI_add, pk_mul]) (by omega) (lb rfl) ?_
    refine A_topi (li l (i0 + i)) (hL.2 l hl (i0 + i) (by omega)) ?_
    refine A_istore (lv' := [(6, .int (li l (i0 + i))), (5, .int (nI i)), (0, .ref 0), (1, .int (nI l)), (2, .int (nI i0)), (3, .int (nI n))]) dX10_follow_67 (lb rfl) rfl ?_
    refine A_aload_n dX10_follow_69 rfl 2 rfl ?_
    refine A_iload dX10_follow_70 0 rfl ?_
    refine A_callV (M' := MX10_isTask) [.int (li l (i0 + i))] [] 0 dX10_follow_72 lk_RX10_111 oX10_isTask iX10_isTask rfl rfl ⟨lb rfl, lb rfl⟩ (lb rfl) ⟨lb rfl, lb rfl⟩ L0 rfl (x_isTask (li l (i0 + i)) _ hX.1.n hW.1.2.2.2.2.1) ?_
    rintro _ g0 ⟨rfl, hg0⟩
    rw [hg0]
    refine A_if_eq (tgt := 91) dX10_follow_75 rfl (fun h75 => ?_) (fun h75 => ?_)
    · have hm1 : chL (li l) i0 i q = -1 := if_neg (fun z => bz_0.mp h75 z.1)
      rw [if_pos hm1] at hr
      have e1 := congrArg Prod.fst hr
      have e2 := congrArg Prod.snd hr
      dsimp only at e1 e2
      refine A_iload dX10_follow_91 1 rfl ?_
      exact A_iret dX10_follow_93 rfl (⟨by rw [show tot = i by omega], by rw [← e1]; exact hX, by rw [← e1]; exact hfr⟩)
    · obtain ⟨t, ht, et⟩ := inR_of (by omega) (bz_n0.mp h75)
      have q4 := hW.1.s4 (t := t) (by omega)
      refine A_aload_n dX10_follow_78 rfl 2 rfl ?_
      refine A_getR (b := 1) dX10_follow_79 fo_RX10_10 L0 rfl ?_
      refine A_getR (b := 4) dX10_follow_82 fo_RX10_117 L1 rfl ?_
      refine A_iload dX10_follow_85 0 rfl ?_
      refine A_iaload t dX10_follow_87 L4 (et) (by omega) (lb rfl) ?_
      refine A_topi (nI (q.1 1 t)) (hX.1.st (by omega)) ?_
      refine A_if_eq (tgt := 94) dX10_follow_88 rfl (fun h88 => ?_) (fun h88 => ?_)
      · rw [nI_z (by omega)] at h88
        have hce : chL (li l) i0 i q = nI t := (if_pos ⟨bz_n0.mp h75, by rw [et, nI_clamp (by omega)]; exact h88⟩).trans et
        rw [hce, if_neg (nI_nm1 (by omega)), nI_clamp (by omega)] at hr
        have e1 := congrArg Prod.fst hr
        have e2 := congrArg Prod.snd hr
        dsimp only at e1 e2
        refine A_aload_n dX10_follow_94 rfl 2 rfl ?_
        refine A_iload dX10_follow_95 0 rfl ?_
        refine A_callV (M' := MX10_takeTruly) [.int (li l (i0 + i))] [] 0 dX10_follow_97 lk_RX10_146 oX10_takeTruly iX10_takeTruly rfl rfl ⟨lb rfl, lb rfl⟩ (lb rfl) ⟨lb rfl, lb rfl⟩ L0 rfl (by rw [et]; exact x_takeTruly t f q.1 q.2.1 p q.2.2.1 q.2.2.2.1 q.2.2.2.2.1 q.2.2.2.2.2.1 q.2.2.2.2.2.2 hX.1 hX.2 hW.1 hW.2 ht h88) ?_
        rintro _ h ⟨rfl, hX2, hQ2, hf2⟩
        refine A_iinc (lv' := [(5, .int (nI (i + 1))), (6, .int (li l (i0 + i))), (0, .ref 0), (1, .int (nI l)), (2, .int (nI i0)), (3, .int (nI n))]) dX10_follow_100 1 rfl (nI_add i 1) (lb rfl) rfl ?_
        refine A_goto (tgt := 47) dX10_follow_103 rfl ?_
        refine A_sub [0, 2, 3, 4, 5] rfl ?_
        exact ih m1 (by omega) (i + 1) h (sK p t q) (by omega) (Prod.ext e1 (by dsimp only; omega)) (by omega) ⟨hX2, hQ2⟩ (WK_s hW ht h88) (.inr (hfr.elim (fun z => by rw [← z.1]; exact hf2) (fun z => z.tr hf2)))
      · rw [nI_z (by omega)] at h88
        have hm1 : chL (li l) i0 i q = -1 := if_neg (fun z => h88 (by have := z.2; rwa [et, nI_clamp (by omega)] at this))
        rw [if_pos hm1] at hr
        have e1 := congrArg Prod.fst hr
        have e2 := congrArg Prod.snd hr
        dsimp only at e1 e2
        refine A_iload dX10_follow_91 1 rfl ?_
        exact A_iret dX10_follow_93 rfl (⟨by rw [show tot = i by omega], by rw [← e1]; exact hX, by rw [← e1]; exact hfr⟩)
