/-! step, both sides -/
theorem XC.n {f : Mem} {s : Sg} {k p rz lz : Ro} (h : XC f s k p rz lz) : f 1 0 = nI (s 13 0) := h.2.1.1
theorem XC.st {f : Mem} {s : Sg} {k p rz lz : Ro} (h : XC f s k p rz lz) {t : Nat} (ht : t < 4) : f 4 t = nI (s 1 t) := by
  have e := h.1.2.1
  rw [show (4 : Nat) = 1 + 3 from rfl, e]; simp [r4, ht]
theorem XC.pl {f : Mem} {s : Sg} {k p rz lz : Ro} (h : XC f s k p rz lz) {t : Nat} (ht : t < 4) : f 3 t = nI (s 0 t) := by
  have e := h.1.1
  rw [show (3 : Nat) = 1 + 2 from rfl, e]; simp [r4, ht]
theorem RC.st {f : Mem} {s : Sg} {k p rz lz : Ro} (h : RC f s k p rz lz) {t : Nat} (ht : t < 4) : f 94 (4 + t) = nI (s 1 t) := (h.1 _ (by omega)).trans ((gF_lo (by omega)).trans (flat_1 _ _ ht))
theorem RC.n {f : Mem} {s : Sg} {k p rz lz : Ro} (h : RC f s k p rz lz) : f 94 52 = nI (s 13 0) := h.1 52 (by omega)
theorem nI_z {a : Nat} (h : a < 2 ^ 31) : nI a = 0 ↔ a = 0 := nI_eq h (by decide)
theorem in_bz {x : Int32} {n : Nat} (h : inR x n) : bz (inR x n) = 1 := bz_t h
theorem wfC.s4 {s : Sg} {k p : Ro} (w : wfC s k p) {t : Nat} (ht : t < 4) : s 1 t ≤ 4 := (w.1.2.2.2.1 t ht).1
theorem x_step1 (x : Int32) (f : Mem) (s : Sg) (k p rz lz : Ro) (hC : XC f s k p rz lz) (w : wfC s k p) (hx : ¬ inR x (s 13 0)) : C0 MX10_step [.ref 0, .int x] f (rt (some (.int (-1))) f) := by
  refine Ct.of (lv := [(0, .ref 0), (1, .int x)]) (by decide) (lb rfl) rfl ?_
  refine A_aload_n dX10_step_0 rfl 0 rfl ?_
  refine A_iload_n dX10_step_1 rfl 1 rfl ?_
  refine A_callV (M' := MX10_isTask) [.int x] [] 0 dX10_step_2 lk_RX10_111 oX10_isTask iX10_isTask rfl rfl ⟨lb rfl, lb rfl⟩ (lb rfl) ⟨lb rfl, lb rfl⟩ L0 rfl (x_isTask x _ hC.n w.2.2.2.2.1) ?_
  rintro _ g0 ⟨rfl, hg0⟩
  rw [hg0]
  refine A_if_ne (tgt := 10) dX10_step_5 rfl (fun h5 => by exact absurd (bz_n0.mp h5) hx) (fun h5 => ?_)
  refine A_iconst (v := -1) dX10_step_8 rfl ?_
  exact A_iret dX10_step_9 rfl (⟨rfl, rfl⟩)
theorem x_step2 (t : Nat) (f : Mem) (s : Sg) (k p rz lz : Ro) (hC : XC f s k p rz lz) (w : wfC s k p) (ht : t < s 13 0) (h1 : ¬ s 1 t = 0) : C0 MX10_step [.ref 0, .int (nI t)] f (rt (some (.int (-3))) f) := by
  have h13 := w.2.2.2.2.1
  refine Ct.of (lv := [(0, .ref 0), (1, .int (nI t))]) (by decide) (lb rfl) rfl ?_
  refine A_aload_n dX10_step_0 rfl 0 rfl ?_
  refine A_iload_n dX10_step_1 rfl 1 rfl ?_
  refine A_callV (M' := MX10_isTask) [.int (nI t)] [] 0 dX10_step_2 lk_RX10_111 oX10_isTask iX10_isTask rfl rfl ⟨lb rfl, lb rfl⟩ (lb rfl) ⟨lb rfl, lb rfl⟩ L0 rfl (x_isTask (nI t) _ hC.n w.2.2.2.2.1) ?_
  rintro _ g0 ⟨rfl, hg0⟩
  rw [hg0]
  refine A_if_ne (tgt := 10) dX10_step_5 rfl (fun h5 => ?_) (fun h5 => by exact absurd ((inR_nI (by omega)).mpr ht) (bz_0.mp h5))
  refine A_aload_n dX10_step_10 rfl 0 rfl ?_
  refine A_getR (b := 1) dX10_step_11 fo_RX10_10 L0 rfl ?_
  refine A_getR (b := 4) dX10_step_14 fo_RX10_117 L1 rfl ?_
  refine A_iload_n dX10_step_17 rfl 1 rfl ?_
  refine A_iaload t dX10_step_18 L4 (rfl) (by omega) (lb rfl) ?_
  refine A_topi (nI (s 1 t)) (hC.st (by omega)) ?_
  refine A_if_eq (tgt := 25) dX10_step_19 rfl (fun h19 => by exact absurd ((nI_z (by have := w.s4 (t := t) (by omega); omega)).mp h19) h1) (fun h19 => ?_)
  refine A_bipush (v := -3) dX10_step_22 rfl ?_
  exact A_iret dX10_step_24 rfl (⟨rfl, rfl⟩)
theorem x_step3 (t : Nat) (f : Mem) (s : Sg) (k p rz lz : Ro) (hC : XC f s k p rz lz) (w : wfC s k p) (tq : Nat) (qs qn : Ro) (hQ : XQ f tq qs qn) (hr : wR s rz lz) (ht : t < s 13 0) (h1 : s 1 t = 0) : C0 MX10_step [.ref 0, .int (nI t)] f (fun r h => r = some (.int (nI (trS s k p t 1 t))) ∧ XC h (trS s k p t) (trK s k p t) p (trZ s k p t rz) (trL s k p t lz) ∧ XQ h (trQ s k p t tq) (trQs s k p t qs) (trQn s k p t qn) ∧ fS f h) := by
  have h13 := w.2.2.2.2.1
  refine Ct.of (lv := [(0, .ref 0), (1, .int (nI t))]) (by decide) (lb rfl) rfl ?_
  refine A_aload_n dX10_step_0 rfl 0 rfl ?_
  refine A_iload_n dX10_step_1 rfl 1 rfl ?_
  refine A_callV (M' := MX10_isTask) [.int (nI t)] [] 0 dX10_step_2 lk_RX10_111 oX10_isTask iX10_isTask rfl rfl ⟨lb rfl, lb rfl⟩ (lb rfl) ⟨lb rfl, lb rfl⟩ L0 rfl (x_isTask (nI t) _ hC.n w.2.2.2.2.1) ?_
  rintro _ g0 ⟨rfl, hg0⟩
  rw [hg0]
  refine A_if_ne (tgt := 10) dX10_step_5 rfl (fun h5 => ?_) (fun h5 => by exact absurd ((inR_nI (by omega)).mpr ht) (bz_0.mp h5))
  refine A_aload_n dX10_step_10 rfl 0 rfl ?_
  refine A_getR (b := 1) dX10_step_11 fo_RX10_10 L0 rfl ?_
  refine A_getR (b := 4) dX10_step_14 fo_RX10_117 L1 rfl ?_
  refine A_iload_n dX10_step_17 rfl 1 rfl ?_
  refine A_iaload t dX10_step_18 L4 (rfl) (by omega) (lb rfl) ?_
  refine A_topi (nI (s 1 t)) (hC.st (by omega)) ?_
  refine A_if_eq (tgt := 25) dX10_step_19 rfl (fun h19 => ?_) (fun h19 => by exact absurd (by rw [h1]; rfl) h19)
  refine A_aload_n dX10_step_25 rfl 0 rfl ?_
  refine A_iload_n dX10_step_26 rfl 1 rfl ?_
  refine A_callV (M' := MX10_takeTruly) [.int (nI t)] [] 0 dX10_step_27 lk_RX10_146 oX10_takeTruly iX10_takeTruly rfl rfl ⟨lb rfl, lb rfl⟩ (lb rfl) ⟨lb rfl, lb rfl⟩ L0 rfl (x_takeTruly t f s k p rz lz tq qs qn hC hQ w hr ht h1) ?_
  rintro _ h ⟨rfl, hX, hP⟩
  refine A_aload_n dX10_step_30 rfl 0 rfl ?_
  refine A_getR (b := 1) dX10_step_31 fo_RX10_10 L0 rfl ?_
  refine A_getR (b := 4) dX10_step_34 fo_RX10_117 L1 rfl ?_
  refine A_iload_n dX10_step_37 rfl 1 rfl ?_
  refine A_iaload t dX10_step_38 L4 (rfl) (by omega) (lb rfl) ?_
  refine A_topi (nI (trS s k p t 1 t)) (hX.st (by omega)) ?_
  exact A_iret dX10_step_39 rfl (⟨rfl, hX, hP⟩)
theorem c_step1 (x : Int32) (f : Mem) (s : Sg) (k p rz lz : Ro) (hC : RC f s k p rz lz) (w : wfC s k p) (hx : ¬ inR x (s 13 0)) : C0 MX11_step [.ref 93, .int x] f (rt (some (.int (-1))) f) := by
  refine Ct.of (lv := [(0, .ref 93), (1, .int x)]) (by decide) (lb rfl) rfl ?_
  refine A_aload_n dX11_step_0 rfl 0 rfl ?_
  refine A_iload_n dX11_step_1 rfl 1 rfl ?_
  refine A_callV (M' := MX11_isTask) [.int x] [] 93 dX11_step_2 lk_RX11_133 oX11_isTask iX11_isTask rfl rfl ⟨lb rfl, lb rfl⟩ (lb rfl) ⟨lb rfl, lb rfl⟩ L93 rfl (c_isTask x _ hC.n w.2.2.2.2.1) ?_
  rintro _ g0 ⟨rfl, hg0⟩
  rw [hg0]
  refine A_if_ne (tgt := 10) dX11_step_5 rfl (fun h5 => by exact absurd (bz_n0.mp h5) hx) (fun h5 => ?_)
  refine A_iconst (v := -1) dX11_step_8 rfl ?_
  exact A_iret dX11_step_9 rfl (⟨rfl, rfl⟩)
theorem c_step2 (t : Nat) (f : Mem) (s : Sg) (k p rz lz : Ro) (hC : RC f s k p rz lz) (w : wfC s k p) (ht : t < s 13 0) (h1 : ¬ s 1 t = 0) : C0 MX11_step [.ref 93, .int (nI t)] f (rt (some (.int (-3))) f) := by
  have h13 := w.2.2.2.2.1
  refine Ct.of (lv := [(0, .ref 93), (1, .int (nI t))]) (by decide) (lb rfl) rfl ?_
  refine A_aload_n dX11_step_0 rfl 0 rfl ?_
  refine A_iload_n dX11_step_1 rfl 1 rfl ?_
  refine A_callV (M' := MX11_isTask) [.int (nI t)] [] 93 dX11_step_2 lk_RX11_133 oX11_isTask iX11_isTask rfl rfl ⟨lb rfl, lb rfl⟩ (lb rfl) ⟨lb rfl, lb rfl⟩ L93 rfl (c_isTask (nI t) _ hC.n w.2.2.2.2.1) ?_
  rintro _ g0 ⟨rfl, hg0⟩
  rw [hg0]
  refine A_if_ne (tgt := 10) dX11_step_5 rfl (fun h5 => ?_) (fun h5 => by exact absurd ((inR_nI (by omega)).mpr ht) (bz_0.mp h5))
  refine A_aload_n dX11_step_10 rfl 0 rfl ?_
  refine A_iload_n dX11_step_11 rfl 1 rfl ?_
  refine A_callV (M' := MX11_isReady) [.int (nI t)] [] 93 dX11_step_12 lk_RX11_191 oX11_isReady iX11_isReady rfl rfl ⟨lb rfl, lb rfl⟩ (lb rfl) ⟨lb rfl, lb rfl⟩ L93 rfl (c_isReady (nI t) _ s k p rz lz hC w.2.2.2.2.1 w.1) ?_
  rintro _ g0 ⟨rfl, hg0⟩
  rw [hg0]
  refine A_if_ne (tgt := 21) dX11_step_15 rfl (fun h15 => by exact absurd (show s 1 t = 0 by have q := (bz_n0.mp h15).2; rw [nI_clamp (by omega)] at q; exact q) h1) (fun h15 => ?_)
  refine A_bipush (v := -3) dX11_step_18 rfl ?_
  exact A_iret dX11_step_20 rfl (⟨rfl, rfl⟩)
theorem c_step3 (t : Nat) (f : Mem) (s : Sg) (k p rz lz : Ro) (hC : RC f s k p rz lz) (w : wfC s k p) (tq : Nat) (qs qn : Ro) (h96 : R96 f) (hQ : RQ f tq qs qn) (ht : t < s 13 0) (h1 : s 1 t = 0) : C0 MX11_step [.ref 93, .int (nI t)] f (fun r h => r = some (.int (nI (trS s k p t 1 t))) ∧ RC h (trS s k p t) (trK s k p t) p (trZ s k p t rz) (trL s k p t lz) ∧ R96 h ∧ RQ h (trQ s k p t tq) (trQs s k p t qs) (trQn s k p t qn) ∧ fT f h) := by
  have h13 := w.2.2.2.2.1
  refine Ct.of (lv := [(0, .ref 93), (1, .int (nI t))]) (by decide) (lb rfl) rfl ?_
  refine A_aload_n dX11_step_0 rfl 0 rfl ?_
  refine A_iload_n dX11_step_1 rfl 1 rfl ?_
  refine A_callV (M' := MX11_isTask) [.int (nI t)] [] 93 dX11_step_2 lk_RX11_133 oX11_isTask iX11_isTask rfl rfl ⟨lb rfl, lb rfl⟩ (lb rfl) ⟨lb rfl, lb rfl⟩ L93 rfl (c_isTask (nI t) _ hC.n w.2.2.2.2.1) ?_
  rintro _ g0 ⟨rfl, hg0⟩
  rw [hg0]
  refine A_if_ne (tgt := 10) dX11_step_5 rfl (fun h5 => ?_) (fun h5 => by exact absurd ((inR_nI (by omega)).mpr ht) (bz_0.mp h5))
  refine A_aload_n dX11_step_10 rfl 0 rfl ?_
  refine A_iload_n dX11_step_11 rfl 1 rfl ?_
  refine A_callV (M' := MX11_isReady) [.int (nI t)] [] 93 dX11_step_12 lk_RX11_191 oX11_isReady iX11_isReady rfl rfl ⟨lb rfl, lb rfl⟩ (lb rfl) ⟨lb rfl, lb rfl⟩ L93 rfl (c_isReady (nI t) _ s k p rz lz hC w.2.2.2.2.1 w.1) ?_
  rintro _ g0 ⟨rfl, hg0⟩
  rw [hg0]
  refine A_if_ne (tgt := 21) dX11_step_15 rfl (fun h15 => ?_) (fun h15 => by exact absurd ⟨(inR_nI (by omega)).mpr ht, by rw [nI_clamp (by omega)]; exact h1⟩ (bz_0.mp h15))
  refine A_aload_n dX11_step_21 rfl 0 rfl ?_
  refine A_iload_n dX11_step_22 rfl 1 rfl ?_
  refine A_callV (M' := MX11_stepsTruly) [.int (nI t)] [] 93 dX11_step_23 lk_RX11_194 oX11_stepsTruly iX11_stepsTruly rfl rfl ⟨lb rfl, lb rfl⟩ (lb rfl) ⟨lb rfl, lb rfl⟩ L93 rfl (c_stepsTruly t f s k p rz lz tq qs qn hC h96 hQ w ht h1) ?_
  rintro _ h ⟨rfl, hX, hP⟩
  refine A_aload_n dX11_step_26 rfl 0 rfl ?_
  refine A_getR (b := 94) dX11_step_27 fo_RX11_9 L93 rfl ?_
  refine A_iconst (v := 4) dX11_step_30 rfl ?_
  refine A_iload_n dX11_step_31 rfl 1 rfl ?_
  refine A_iadd dX11_step_32 ?_
  refine A_iaload (4 + t) dX11_step_33 L94 (by simp only [lit, nI_add, pk_mul]) (by omega) (lb rfl) ?_
  refine A_topi (nI (trS s k p t 1 t)) (hX.st (by omega)) ?_
  exact A_iret dX11_step_34 rfl (⟨rfl, hX, hP⟩)
