/-! runs of steps -/
abbrev Kt : Type := Sg × Ro × Ro × Ro × Nat × Ro × Ro
def sK (p : Ro) (t : Nat) (q : Kt) : Kt := (trS q.1 q.2.1 p t, trK q.1 q.2.1 p t, trZ q.1 q.2.1 p t q.2.2.1, trL q.1 q.2.1 p t q.2.2.2.1, trQ q.1 q.2.1 p t q.2.2.2.2.1, trQs q.1 q.2.1 p t q.2.2.2.2.2.1, trQn q.1 q.2.1 p t q.2.2.2.2.2.2)
abbrev XK (f : Mem) (p : Ro) (q : Kt) : Prop := XC f q.1 q.2.1 p q.2.2.1 q.2.2.2.1 ∧ XQ f q.2.2.2.2.1 q.2.2.2.2.2.1 q.2.2.2.2.2.2
abbrev RK (f : Mem) (p : Ro) (q : Kt) : Prop := RC f q.1 q.2.1 p q.2.2.1 q.2.2.2.1 ∧ R96 f ∧ RQ f q.2.2.2.2.1 q.2.2.2.2.2.1 q.2.2.2.2.2.2
abbrev WK (p : Ro) (q : Kt) : Prop := wfC q.1 q.2.1 p ∧ wR q.1 q.2.2.1 q.2.2.2.1
def runK (p : Ro) (ch : Nat → Kt → Int32) : Nat → Nat → Kt → Kt × Nat
  | 0, _, q => (q, 0)
  | m + 1, i, q => if ch i q = -1 then (q, 0) else ((runK p ch m (i + 1) (sK p (ch i q).toNatClampNeg q)).1, (runK p ch m (i + 1) (sK p (ch i q).toNatClampNeg q)).2 + 1)
/-- a choice: none, or a task that is ready -/
def okCh (ch : Nat → Kt → Int32) : Prop := ∀ i q p, WK p q → ch i q = -1 ∨ ∃ t, t < q.1 13 0 ∧ q.1 1 t = 0 ∧ ch i q = nI t
theorem WK_s {p : Ro} {q : Kt} (w : WK p q) {t : Nat} (ht : t < q.1 13 0) (h1 : q.1 1 t = 0) : WK p (sK p t q) :=
  ⟨wfC_step w.1 ht h1, fun x hx => by
    have h4 : t < 4 := by have := w.1.2.2.2.2.1; omega
    have e := wR_step (k := q.2.1) w.1.1 w.1.2.1 h4 h1 w.1.2.2.2.2.2.2.2 w.2 x hx
    rw [← trS_lo q.1 q.2.1 p t 1 (by decide)] at e
    exact e⟩
theorem ch_case {g : Nat → Nat} {ix : Nat → Nat} {n : Nat} : ∀ {m i : Nat}, (∀ j, i ≤ j → j < i + m → ix j < n) → chF g ix m i = -1 ∨ ∃ t, t < n ∧ g t = 0 ∧ chF g ix m i = nI t
  | 0, _, _ => .inl rfl
  | m + 1, i, e => by
    rw [chF]
    by_cases z : g (ix i) = 0
    · rw [if_pos z]; exact .inr ⟨_, e i (by omega) (by omega), z, rfl⟩
    · rw [if_neg z]; exact ch_case (fun j j1 j2 => e j (by omega) (by omega))
def chS (sch : Int32) : Nat → Kt → Int32 := fun _ q => chF (q.1 1) (ixS sch (q.1 15 0) (q.1 13 0)) (q.1 13 0) 0
theorem okS_ch (sch : Int32) : okCh (chS sch) := fun _ q _ _ => ch_case (fun j _ j2 => ix_lt (by omega))
theorem nI_nm1 {t : Nat} (h : t < 4) : ¬ nI t = -1 := fun q => nI_nneg (i := t) (by omega) (by rw [q]; decide)
theorem not_in_m1 {n : Nat} : ¬ inR (-1) n := fun q => absurd q.1 (by decide)
theorem fS.tr {f g h : Mem} (a : fS f g) (b : fS g h) : fS f h := ⟨b.1, fun i i1 i2 i3 => (b.2 i i1 i2 i3).trans (a.2 i i1 i2 i3)⟩
theorem XC.ch {f : Mem} {s : Sg} {k p rz lz : Ro} (h : XC f s k p rz lz) (w : wfC s k p) (sch : Int32) : C0 MX1_chosenBy [.ref 1, .int sch] f (rt (some (.int (chF (s 1) (ixS sch (s 15 0) (s 13 0)) (s 13 0) 0))) f) := by
  have e := x_chosenBy sch f 1 s k (.inl rfl) (n := s 13 0) (l := s 15 0) (h.2.1.1) w.2.2.2.2.1 h.2.2.1 (by have := w.2.2.2.2.1; have := w.2.2.2.2.2.1; omega) (fun t ht => (w.1.2.2.2.1 t ht).1)
  rw [h.1.eq] at e
  exact e
def frK (f0 f : Mem) (q0 q : Kt) : Prop := (f = f0 ∧ q = q0) ∨ fS f0 f
theorem lx_run (f0 : Mem) (q0 qf : Kt) (p : Ro) (tot n : Nat) (sch : Int32) (hn : n ≤ 40) : ∀ m i (f : Mem) (q : Kt), i + m = n → runK p (chS sch) m i q = (qf, tot - i) → i ≤ tot → XK f p q → WK p q → frK f0 f q0 q → A (cM MX10_run 0 0 layT layT (fun r h => r = some (.int (nI tot)) ∧ XK h p qf ∧ frK f0 h q0 qf)) 26 [(3, .int (nI i)), (0, .ref 0), (1, .int sch), (2, .int (nI n))] [] f := by
  intro m
  refine Nat.strongRecOn m (fun m ih => ?_)
  intro i f q hm hr hit hX hW hfr
  refine A_iload_n dX10_run_26 rfl 0 rfl ?_
  refine A_iload_n dX10_run_27 rfl 3 rfl ?_
  refine A_icmp_ge (tgt := 64) dX10_run_28 rfl (fun h28 => ?_) (fun h28 => ?_)
  · rw [nI_leI (by omega) (by omega)] at h28
    have em : m = 0 := by omega
    rw [em, runK] at hr
    have e1 := congrArg Prod.fst hr
    have e2 := congrArg Prod.snd hr
    dsimp only at e1 e2
    refine A_iload_n dX10_run_64 rfl 3 rfl ?_
    exact A_iret dX10_run_65 rfl (⟨by rw [show tot = n by omega], by rw [← e1]; exact hX, by rw [← e1]; exact hfr⟩)
  · rw [nI_leI (by omega) (by omega)] at h28
    obtain ⟨m1, em⟩ : ∃ m1, m = m1 + 1 := ⟨m - 1, by omega⟩
    rw [em, runK] at hr
    have hc := okS_ch sch i q p hW
    refine A_aload_n dX10_run_31 rfl 1 rfl ?_
    refine A_getR (b := 1) dX10_run_32 fo_RX10_10 L0 rfl ?_
    refine A_iload_n dX10_run_35 rfl 2 rfl ?_
    refine A_callV (M' := MX1_chosenBy) [.int sch] [] 1 dX10_run_36 lk_RX10_149 oX1_chosenBy iX1_chosenBy rfl rfl ⟨lb rfl, lb rfl⟩ (lb rfl) ⟨lb rfl, lb rfl⟩ L1 rfl (hX.1.ch hW.1 sch) ?_
    rintro _ g0 ⟨rfl, hg0⟩
    rw [hg0]
    refine A_topi (chS sch i q) rfl ?_
    refine A_istore (lv' := [(4, .int (chS sch i q)), (3, .int (nI i)), (0, .ref 0), (1, .int sch), (2, .int (nI n))]) dX10_run_39 (lb rfl) rfl ?_
    refine A_aload_n dX10_run_41 rfl 2 rfl ?_
    refine A_iload dX10_run_42 0 rfl ?_
    refine A_callV (M' := MX10_isTask) [.int (chS sch i q)] [] 0 dX10_run_44 lk_RX10_111 oX10_isTask iX10_isTask rfl rfl ⟨lb rfl, lb rfl⟩ (lb rfl) ⟨lb rfl, lb rfl⟩ L0 rfl (x_isTask (chS sch i q) _ hX.1.n hW.1.2.2.2.2.1) ?_
    rintro _ g0 ⟨rfl, hg0⟩
    rw [hg0]
    refine A_if_ne (tgt := 52) dX10_run_47 rfl (fun h47 => ?_) (fun h47 => ?_)
    · obtain ⟨t, ht, h1, et⟩ := hc.resolve_left (fun z => not_in_m1 (by rw [z] at h47; exact bz_n0.mp h47))
      have ht4 : t < 4 := by have := hW.1.2.2.2.2.1; omega
      rw [if_neg (by rw [et]; exact nI_nm1 ht4), et, nI_clamp (by omega)] at hr
      have e1 := congrArg Prod.fst hr
      have e2 := congrArg Prod.snd hr
      dsimp only at e1 e2
      refine A_aload_n dX10_run_52 rfl 2 rfl ?_
      refine A_iload dX10_run_53 0 rfl ?_
      refine A_callV (M' := MX10_takeTruly) [.int (chS sch i q)] [] 0 dX10_run_55 lk_RX10_146 oX10_takeTruly iX10_takeTruly rfl rfl ⟨lb rfl, lb rfl⟩ (lb rfl) ⟨lb rfl, lb rfl⟩ L0 rfl (by rw [et]; exact x_takeTruly t f q.1 q.2.1 p q.2.2.1 q.2.2.2.1 q.2.2.2.2.1 q.2.2.2.2.2.1 q.2.2.2.2.2.2 hX.1 hX.2 hW.1 hW.2 ht h1) ?_
      rintro _ h ⟨rfl, hX2, hQ2, hf2⟩
      refine A_iinc (lv' := [(3, .int (nI (i + 1))), (4, .int (chS sch i q)), (0, .ref 0), (1, .int sch), (2, .int (nI n))]) dX10_run_58 1 rfl (nI_add i 1) (lb rfl) rfl ?_
      refine A_goto (tgt := 26) dX10_run_61 rfl ?_
      refine A_sub [0, 2, 3, 4] rfl ?_
      exact ih m1 (by omega) (i + 1) h (sK p t q) (by omega) (Prod.ext e1 (by dsimp only; omega)) (by omega) ⟨hX2, hQ2⟩ (WK_s hW ht h1) (.inr (hfr.elim (fun z => by rw [← z.1]; exact hf2) (fun z => z.tr hf2)))
    · have hm1 : chS sch i q = -1 := hc.resolve_right (fun ⟨t, ht, h1, et⟩ => bz_0.mp h47 (by rw [et]; exact (inR_nI (by have := hW.1.2.2.2.2.1; omega)).mpr ht))
      rw [if_pos hm1] at hr
      have e1 := congrArg Prod.fst hr
      have e2 := congrArg Prod.snd hr
      dsimp only at e1 e2
      refine A_iload_n dX10_run_50 rfl 1 rfl ?_
      exact A_iret dX10_run_51 rfl (⟨by rw [show tot = i by omega], by rw [← e1]; exact hX, by rw [← e1]; exact hfr⟩)
theorem x_run3 (j n : Nat) (f : Mem) (p : Ro) (q : Kt) (hj : j < 3) (hn : n ≤ 40) (hX : XK f p q) (hW : WK p q) : C0 MX10_run [.ref 0, .int (nI j), .int (nI n)] f (fun r h => r = some (.int (nI (runK p (chS (nI j)) n 0 q).2)) ∧ XK h p (runK p (chS (nI j)) n 0 q).1 ∧ frK f h q (runK p (chS (nI j)) n 0 q).1) := by
  refine Ct.of (lv := [(0, .ref 0), (1, .int (nI j)), (2, .int (nI n))]) (by decide) (lb rfl) rfl ?_
  refine A_iload_n dX10_run_0 rfl 1 rfl ?_
  refine A_if_lt (tgt := 9) dX10_run_1 rfl (fun h1 => by exact absurd h1 (nI_nneg (by omega))) (fun h1 => ?_)
  refine A_iload_n dX10_run_4 rfl 1 rfl ?_
  refine A_iconst (v := 2) dX10_run_5 rfl ?_
  refine A_icmp_le (tgt := 11) dX10_run_6 rfl (fun h6 => ?_) (fun h6 => by exact absurd ((nI_leI (by omega) (by omega)).mpr (show j ≤ 2 by omega)) h6)
  refine A_iload_n dX10_run_11 rfl 2 rfl ?_
  refine A_if_lt (tgt := 21) dX10_run_12 rfl (fun h12 => by exact absurd h12 (nI_nneg (by omega))) (fun h12 => ?_)
  refine A_iload_n dX10_run_15 rfl 2 rfl ?_
  refine A_bipush (v := 40) dX10_run_16 rfl ?_
  refine A_icmp_le (tgt := 24) dX10_run_18 rfl (fun h18 => ?_) (fun h18 => by exact absurd ((nI_leI (by omega) (by omega)).mpr (show n ≤ 40 by omega)) h18)
  refine A_iconst (v := 0) dX10_run_24 rfl ?_
  refine A_istore_n (lv' := [(3, .int 0), (0, .ref 0), (1, .int (nI j)), (2, .int (nI n))]) dX10_run_25 rfl (lb rfl) rfl ?_
  refine A_sub [0, 1, 2, 3] rfl ?_
  exact lx_run f q (runK p (chS (nI j)) n 0 q).1 p (runK p (chS (nI j)) n 0 q).2 n (nI j) hn n 0 f q (by omega) rfl (by omega) hX hW (.inl ⟨rfl, rfl⟩)
