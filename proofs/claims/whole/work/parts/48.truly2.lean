theorem fc_13 : ∀ i, i < 48 → fc i < 13 := by decide +kernel
/-! a step truly: the reference -/
def R96 (f : Mem) : Prop := ∀ j, 52 ≤ j → f 96 j = 0
def qR (f h : Mem) (a b c x y z : Int32) : Prop := h 93 15 = 3 ∧ (h 102 0 = a ∧ h 102 1 = b ∧ h 102 2 = c) ∧ (h 103 0 = x ∧ h 103 1 = y ∧ h 103 2 = z) ∧ (∀ i, i ≠ 93 → i ≠ 102 → i ≠ 103 → h i = f i) ∧ ∀ j, j ≠ 15 → h 93 j = f 93 j
theorem gF_lo {s : Sg} {k p : Ro} {j : Nat} (h : j < 52) : gF s k p j = flat s k j := if_pos h
theorem gF_52 (s : Sg) (k p : Ro) : gF s k p 52 = nI (s 13 0) := rfl
theorem gF_56 (s : Sg) (k p : Ro) : gF s k p 56 = lat5 (s 15 0) := rfl
theorem gF_m (s : Sg) (k p : Ro) : ∀ m, m < 3 → gF s k p (53 + m) = nI (s 14 m)
  | 0, _ => rfl
  | 1, _ => rfl
  | 2, _ => rfl
theorem gF_z (s : Sg) (k p : Ro) : ∀ t, t < 4 → gF s k p (57 + t) = nI (s 16 t)
  | 0, _ => rfl
  | 1, _ => rfl
  | 2, _ => rfl
  | 3, _ => rfl
theorem gF_p (s : Sg) (k p : Ro) (j : Nat) : gF s k p (61 + j) = p j := by
  unfold gF
  rw [if_neg (by omega), if_neg (by omega), if_neg (by omega), if_neg (by omega), if_neg (by omega), Nat.add_sub_cancel_left]
theorem RC.gR {f : Mem} {s : Sg} {k p rz lz : Ro} (h : RC f s k p rz lz) : gR f s p :=
  ⟨h.1 52 (by omega), fun m hm => (h.1 _ (by omega)).trans (gF_m s k p m hm), fun t ht => (h.1 _ (by omega)).trans (gF_z s k p t ht), fun j hj => (h.1 _ (by omega)).trans (gF_p s k p j)⟩
theorem RC.flat {f : Mem} {s : Sg} {k p rz lz : Ro} (h : RC f s k p rz lz) (h96 : R96 f) : gt_cpy f 94 0 96 0 52 = ur f 96 (flat s k) := by
  rw [gt_cpy, cpy_R]
  congr 1
  funext j
  unfold cpR
  by_cases q : j < 52
  · rw [if_pos q, h.1 j (by omega), gF_lo q]
  · rw [if_neg q, h96 j (by omega)]
    unfold _root_.Jvm.Pilot.CGateTurnsLaw_law_r6370_5cadf8.flat
    rw [if_neg (by omega), if_neg q]
theorem flat_hi {s s' : Sg} {k : Ro} (h : ∀ c, c < 13 → s' c = s c) : flat s' k = flat s k := by
  funext i
  unfold flat
  by_cases q : i < 48
  · rw [if_pos q, if_pos q, h (fc i) (fc_13 i q)]
  · rw [if_neg q, if_neg q]
theorem gF_step {s s' : Sg} {k k' p : Ro} {t : Nat} (h : ∀ c i, 13 ≤ c → c ≠ 15 → s' c i = s c i) (h15 : s' 15 0 = t + 1) (x : Ro) (hx : ∀ j, 52 ≤ j → j < 253 → x j = gF s k p j) (j : Nat) (hj : j < 253) : upd (cpR 52 (flat s' k') x) 56 (nI t) j = gF s' k' p j := by
  unfold upd
  by_cases q : j = 56
  · rw [if_pos q, q, gF_56, lat5, h15, if_neg (by omega)]; exact (nI_pred _).symm
  · rw [if_neg q]
    unfold cpR
    by_cases q2 : j < 52
    · rw [if_pos q2, gF_lo q2]
    · rw [if_neg q2, hx j (by omega) hj]
      unfold gF
      rw [if_neg q2, if_neg q2, if_neg q, if_neg q, h 13 0 (by omega) (by omega), h 14 _ (by omega) (by omega), h 16 _ (by omega) (by omega)]
theorem c_tells (f : Mem) (a x y c z : Int32) : C0 MX11_tells [.ref 93, .int a, .int x, .int y, .int c, .int z] f (fun r h => r = none ∧ qR f h a (a + 1) c x y z) := by
  refine Ct.of (lv := [(0, .ref 93), (1, .int a), (2, .int x), (3, .int y), (4, .int c), (5, .int z)]) (by decide) (lb rfl) rfl ?_
  refine A_aload_n dX11_tells_0 rfl 0 rfl ?_
  refine A_iconst (v := 3) dX11_tells_1 rfl ?_
  refine A_putI dX11_tells_2 fo_RX11_130 L93 rfl ?_
  refine A_aload_n dX11_tells_5 rfl 0 rfl ?_
  refine A_getR (b := 102) dX11_tells_6 fo_RX11_34 L93 rfl ?_
  refine A_iconst (v := 0) dX11_tells_9 rfl ?_
  refine A_iload_n dX11_tells_10 rfl 1 rfl ?_
  refine A_iastore 0 dX11_tells_11 L102 (rfl) (by decide) (lb rfl) ?_
  refine A_aload_n dX11_tells_12 rfl 0 rfl ?_
  refine A_getR (b := 103) dX11_tells_13 fo_RX11_37 L93 rfl ?_
  refine A_iconst (v := 0) dX11_tells_16 rfl ?_
  refine A_iload_n dX11_tells_17 rfl 2 rfl ?_
  refine A_iastore 0 dX11_tells_18 L103 (rfl) (by decide) (lb rfl) ?_
  refine A_aload_n dX11_tells_19 rfl 0 rfl ?_
  refine A_getR (b := 102) dX11_tells_20 fo_RX11_34 L93 rfl ?_
  refine A_iconst (v := 1) dX11_tells_23 rfl ?_
  refine A_iload_n dX11_tells_24 rfl 1 rfl ?_
  refine A_iconst (v := 1) dX11_tells_25 rfl ?_
  refine A_iadd dX11_tells_26 ?_
  refine A_iastore 1 dX11_tells_27 L102 (rfl) (by decide) (lb rfl) ?_
  refine A_aload_n dX11_tells_28 rfl 0 rfl ?_
  refine A_getR (b := 103) dX11_tells_29 fo_RX11_37 L93 rfl ?_
  refine A_iconst (v := 1) dX11_tells_32 rfl ?_
  refine A_iload_n dX11_tells_33 rfl 3 rfl ?_
  refine A_iastore 1 dX11_tells_34 L103 (rfl) (by decide) (lb rfl) ?_
  refine A_aload_n dX11_tells_35 rfl 0 rfl ?_
  refine A_getR (b := 102) dX11_tells_36 fo_RX11_34 L93 rfl ?_
  refine A_iconst (v := 2) dX11_tells_39 rfl ?_
  refine A_iload dX11_tells_40 4 rfl ?_
  refine A_iastore 2 dX11_tells_42 L102 (rfl) (by decide) (lb rfl) ?_
  refine A_aload_n dX11_tells_43 rfl 0 rfl ?_
  refine A_getR (b := 103) dX11_tells_44 fo_RX11_37 L93 rfl ?_
  refine A_iconst (v := 2) dX11_tells_47 rfl ?_
  refine A_iload dX11_tells_48 5 rfl ?_
  refine A_iastore 2 dX11_tells_50 L103 (rfl) (by decide) (lb rfl) ?_
  exact A_vret dX11_tells_51 rfl (⟨rfl, ⟨by simp [u2, ur, upd], ⟨by simp [u2, ur, upd], by simp [u2, ur, upd], by simp [u2, ur, upd]⟩, ⟨by simp [u2, ur, upd], by simp [u2, ur, upd], by simp [u2, ur, upd]⟩, fun i i1 i2 i3 => by rw [u2_n _ _ _ i3, u2_n _ _ _ i2, u2_n _ _ _ i3, u2_n _ _ _ i2, u2_n _ _ _ i3, u2_n _ _ _ i2, u2_n _ _ _ i1], fun j hj => by simp [u2, ur, upd, hj]⟩⟩)
theorem c_isReady (x : Int32) (f : Mem) (s : Sg) (k p rz lz : Ro) (hC : RC f s k p rz lz) (h4 : s 13 0 ≤ 4) (hw : wf s) : C0 MX11_isReady [.ref 93, .int x] f (rt (some (.int (bz (inR x (s 13 0) ∧ s 1 x.toNatClampNeg = 0)))) f) := by
  refine Ct.of (lv := [(0, .ref 93), (1, .int x)]) (by decide) (lb rfl) rfl ?_
  refine A_aload_n dX11_isReady_0 rfl 0 rfl ?_
  refine A_iload_n dX11_isReady_1 rfl 1 rfl ?_
  refine A_callV (M' := MX11_isTask) [.int x] [] 93 dX11_isReady_2 lk_RX11_133 oX11_isTask iX11_isTask rfl rfl ⟨lb rfl, lb rfl⟩ (lb rfl) ⟨lb rfl, lb rfl⟩ L93 rfl (c_isTask x _ (hC.1 52 (by omega)) h4) ?_
  rintro _ g0 ⟨rfl, hg0⟩
  rw [hg0]
  refine A_if_eq (tgt := 23) dX11_isReady_5 rfl (fun h5 => ?_) (fun h5 => ?_)
  · refine A_iconst (v := 0) dX11_isReady_23 rfl ?_
    exact A_zret dX11_isReady_24 rfl (by decide) (rti (bz_f (by first | exact fun q => bz_0.mp h5 q.1 | (rw [et, nI_clamp (by omega)]; exact fun q => h16 q.2))).symm rfl)
  · obtain ⟨t, ht, et⟩ := inR_of (by omega) (bz_n0.mp h5)
    refine A_aload_n dX11_isReady_8 rfl 0 rfl ?_
    refine A_getR (b := 94) dX11_isReady_9 fo_RX11_9 L93 rfl ?_
    refine A_iconst (v := 4) dX11_isReady_12 rfl ?_
    refine A_iload_n dX11_isReady_13 rfl 1 rfl ?_
    refine A_iadd dX11_isReady_14 ?_
    refine A_iaload (4 + t) dX11_isReady_15 L94 (by rw [et, show (4 : Int32) = nI 4 from rfl, nI_add]) (by omega) (lb rfl) ?_
    refine A_topi (nI (s 1 t)) ((hC.1 _ (by omega)).trans ((gF_lo (by omega)).trans (flat_1 _ _ (by omega)))) ?_
    refine A_if_ne (tgt := 23) dX11_isReady_16 rfl (fun h16 => ?_) (fun h16 => ?_)
    · have q1 := (hw.2.2.2.1 t (by omega)).1
      rw [show (0 : Int32) = nI 0 from rfl, nI_eq (by omega) (by omega)] at h16
      refine A_iconst (v := 0) dX11_isReady_23 rfl ?_
      exact A_zret dX11_isReady_24 rfl (by decide) (rti (bz_f (by first | exact fun q => bz_0.mp h5 q.1 | (rw [et, nI_clamp (by omega)]; exact fun q => h16 q.2))).symm rfl)
    · have q1 := (hw.2.2.2.1 t (by omega)).1
      rw [show (0 : Int32) = nI 0 from rfl, nI_eq (by omega) (by omega)] at h16
      refine A_iconst (v := 1) dX11_isReady_19 rfl ?_
      refine A_goto (tgt := 24) dX11_isReady_20 rfl ?_
      exact A_zret dX11_isReady_24 rfl (by decide) (rti (bz_t ⟨bz_n0.mp h5, by rw [et, nI_clamp (by omega)]; exact h16⟩).symm rfl)
/-- the cells that a step of the reference changes -/
def fT (f h : Mem) : Prop := (∀ i, i < 93 ∨ i = 95 ∨ (99 ≤ i ∧ i ≤ 101) ∨ 104 ≤ i → h i = f i) ∧ ∀ j, j < 15 ∨ 18 ≤ j → h 93 j = f 93 j
theorem RC_step {f h : Mem} {s : Sg} {k p rz lz : Ro} {t : Nat} {ow : Int32} (hC : RC f s k p rz lz) (w : wfC s k p) (ht : t < s 13 0) (h1 : s 1 t = 0) (how : s 0 t = s 16 t → ow = nI (stepA s k p t).2.2.2)
    (e94 : h 94 = upd (cpR 52 (flat (stepA s k p t).1 (trK s k p t)) (f 94)) 56 (nI t)) (e97 : h 97 = upd (f 97) t (nI (stepA s k p t).2.2.1)) (e98 : h 98 = upd (f 98) t (if (stepA s k p t).1 1 t = 3 then ow else 0)) :
    RC h (trS s k p t) (trK s k p t) p (trZ s k p t rz) (trL s k p t lz) := by
  have ht4 : t < 4 := by have := w.2.2.2.2.1; omega
  have hh := trS_hi (t := t) w.1 w.2.1 w.2.2.1 ht4 h1
  have st := step_all (k := k) w.1 w.2.1 ht4 h1
  have hE := w.2.2.2.2.2.2.2
  refine ⟨fun j hj => ?_, fun x hx => ?_⟩
  · rw [e94]
    have e := gF_step (s := s) (s' := trS s k p t) (k := k) (k' := trK s k p t) (p := p) (t := t) hh (s2_s ..) (f 94) (fun j j1 j2 => hC.1 j j2) j hj
    rw [flat_hi (trS_lo s k p t)] at e
    exact e
  · have e1 : trS s k p t 1 = (stepA s k p t).1 1 := trS_lo s k p t 1 (by omega)
    rw [e1, e97, e98]
    unfold trZ trL upd
    by_cases ex : x = t
    · rw [if_pos ex, if_pos ex, if_pos ex, if_pos ex, ex]
      refine ⟨fun _ => rfl, fun q => ?_⟩
      rw [if_pos q]
      by_cases z : s 0 t = s 16 t
      · rw [if_pos z]; exact how z
      · exact absurd q (step_st w.1 w.2.1 ht4 h1 z)
    · rw [if_neg ex, if_neg ex, if_neg ex, if_neg ex]
      refine ⟨fun q => ?_, fun q => ?_⟩
      · exact (hC.2 x hx).1 ((st_other w.1 w.2.1 ht4 h1 hE hx ex (by omega)).trans q)
      · exact (hC.2 x hx).2 ((st_other w.1 w.2.1 ht4 h1 hE hx ex (by omega)).trans q)
theorem rs_67' : ∀ r, r < 5 → (if (3 : Int32) ≤ nI r then (7 : Int32) else 6) = if r < 3 then 6 else 7 := by decide +kernel
theorem RQ.congr2 {f h : Mem} {tq : Nat} {qs qn : Ro} (q : RQ f tq qs qn) (e : h 93 15 = f 93 15) (e2 : h 102 = f 102) (e3 : h 103 = f 103) : RQ h tq qs qn := by
  unfold RQ; rw [e, e2, e3]; exact q
theorem tr_rq {f h : Mem} {c x y z : Int32} (q : qR f h 4 (4 + 1) c x y z) : RQ h 3 (q3 4 5 c) (q3 x y z) := by
  refine ⟨q.1, fun i hi => ?_⟩
  match i, hi with
  | 0, _ => exact ⟨q.2.1.1, q.2.2.1.1⟩
  | 1, _ => exact ⟨q.2.1.2.1, q.2.2.1.2.1⟩
  | 2, _ => exact ⟨q.2.1.2.2, q.2.2.1.2.2⟩
theorem c_stepsTruly (t : Nat) (f : Mem) (s : Sg) (k p rz lz : Ro) (tq : Nat) (qs qn : Ro) (hC : RC f s k p rz lz) (h96 : R96 f) (hQ : RQ f tq qs qn) (w : wfC s k p) (ht : t < s 13 0) (h1 : s 1 t = 0) : C0 MX11_stepsTruly [.ref 93, .int (nI t)] f (fun r h => r = none ∧ RC h (trS s k p t) (trK s k p t) p (trZ s k p t rz) (trL s k p t lz) ∧ R96 h ∧ RQ h (trQ s k p t tq) (trQs s k p t qs) (trQn s k p t qn) ∧ fT f h) := by
  have ht4 : t < 4 := by have := w.2.2.2.2.1; omega
  have st := step_all (k := k) w.1 w.2.1 ht4 h1
  have hT : ∀ F, F = ur f 96 (flat s k) → C0 MX11_steps [.ref 93, .int (nI t)] F (fun r g => r = none ∧ ∃ ow : Int32, g = ur (u2 (u2 f 93 16 (nI (stepA s k p t).2.2.1)) 93 17 ow) 96 (flat (stepA s k p t).1 (stepA s k p t).2.1) ∧ (s 0 t = s 16 t → ow = nI (stepA s k p t).2.2.2)) := fun F hF => by
    rw [hF]; exact c_steps t f s k p ht4 w.1 w.2.1 w.2.2.1 w.2.2.2.1 h1 hC.gR
  have h12 := (w.2.1 t ht4).1
  refine Ct.of (lv := [(0, .ref 93), (1, .int (nI t))]) (by decide) (lb rfl) rfl ?_
  refine A_aload_n dX11_stepsTruly_0 rfl 0 rfl ?_
  refine A_getR (b := 94) dX11_stepsTruly_1 fo_RX11_9 L93 rfl ?_
  refine A_iload_n dX11_stepsTruly_4 rfl 1 rfl ?_
  refine A_iaload t dX11_stepsTruly_5 L94 (rfl) (by omega) (lb rfl) ?_
  refine A_topi (nI (s 0 t)) ((hC.1 _ (by omega)).trans ((gF_lo (by omega)).trans (flat_0 _ _ ht4))) ?_
  refine A_istore_n (lv' := [(2, .int (nI (s 0 t))), (0, .ref 93), (1, .int (nI t))]) dX11_stepsTruly_6 rfl (lb rfl) rfl ?_
  refine A_aload_n dX11_stepsTruly_7 rfl 1 rfl ?_
  refine A_getR (b := 94) dX11_stepsTruly_8 fo_RX11_9 L93 rfl ?_
  refine A_iconst (v := 0) dX11_stepsTruly_11 rfl ?_
  refine A_aload_n dX11_stepsTruly_12 rfl 1 rfl ?_
  refine A_getR (b := 96) dX11_stepsTruly_13 fo_RX11_16 L93 rfl ?_
  refine A_iconst (v := 0) dX11_stepsTruly_16 rfl ?_
  refine A_bipush (v := 52) dX11_stepsTruly_17 rfl ?_
  refine A_callS (M' := MX11_copies) [.ref 94, .int 0, .ref 96, .int 0, .int 52] [] dX11_stepsTruly_19 lk_RX11_146 oX11_copies sX11_copies rfl rfl ⟨lb rfl, lb rfl⟩ (lb rfl) ⟨lb rfl, lb rfl⟩ (c_copies 0 0 52 f rfl rfl (by decide) (by decide) (by decide) (by decide) (by decide)) ?_
  rintro _ F ⟨rfl, hF⟩
  rw [hC.flat h96] at hF
  refine A_aload_n dX11_stepsTruly_22 rfl 1 rfl ?_
  refine A_iload_n dX11_stepsTruly_23 rfl 2 rfl ?_
  refine A_callV (M' := MX11_steps) [.int (nI t)] [] 93 dX11_stepsTruly_24 lk_RX11_188 oX11_steps iX11_steps rfl rfl ⟨lb rfl, lb rfl⟩ (lb rfl) ⟨lb rfl, lb rfl⟩ L93 rfl (hT F hF) ?_
  rintro _ G ⟨rfl, ow, hG, how⟩
  refine A_aload_n dX11_stepsTruly_27 rfl 1 rfl ?_
  refine A_getR (b := 96) dX11_stepsTruly_28 fo_RX11_16 L93 rfl ?_
  refine A_iconst (v := 0) dX11_stepsTruly_31 rfl ?_
  refine A_aload_n dX11_stepsTruly_32 rfl 1 rfl ?_
  refine A_getR (b := 94) dX11_stepsTruly_33 fo_RX11_9 L93 rfl ?_
  refine A_iconst (v := 0) dX11_stepsTruly_36 rfl ?_
  refine A_bipush (v := 52) dX11_stepsTruly_37 rfl ?_
  refine A_callS (M' := MX11_copies) [.ref 96, .int 0, .ref 94, .int 0, .int 52] [] dX11_stepsTruly_39 lk_RX11_146 oX11_copies sX11_copies rfl rfl ⟨lb rfl, lb rfl⟩ (lb rfl) ⟨lb rfl, lb rfl⟩ (c_copies 0 0 52 G rfl rfl (by decide) (by decide) (by decide) (by decide) (by decide)) ?_
  rintro _ H ⟨rfl, hH⟩
  have e94 : H 94 = cpR 52 (flat (stepA s k p t).1 (stepA s k p t).2.1) (f 94) := by rw [hH, gt_cpy, cpy_R, ur_s, hG, ur_s, ur_n _ _ (by decide), u2_n _ _ _ (by decide), u2_n _ _ _ (by decide)]
  have e96 : H 96 = flat (stepA s k p t).1 (stepA s k p t).2.1 := by rw [hH, gt_cpy, ur_n _ _ (by decide), hG, ur_s]
  have e16 : H 93 16 = nI (stepA s k p t).2.2.1 := by rw [hH, gt_cpy, ur_n _ _ (by decide), hG]; simp [u2, ur, upd]
  have e17 : H 93 17 = ow := by rw [hH, gt_cpy, ur_n _ _ (by decide), hG]; simp [u2, ur, upd]
  have eO : ∀ i, i ≠ 93 → i ≠ 94 → i ≠ 96 → H i = f i := fun i i1 i2 i3 => by rw [hH, gt_cpy, ur_n _ _ i2, hG, ur_n _ _ i3, u2_n _ _ _ i1, u2_n _ _ _ i1]
  have eF : ∀ j, j ≠ 16 → j ≠ 17 → H 93 j = f 93 j := fun j j1 j2 => by rw [hH, gt_cpy, ur_n _ _ (by decide), hG, ur_n _ _ (by decide), u2_s, upd_n _ _ j2, u2_s, upd_n _ _ j1]
  refine A_aload_n dX11_stepsTruly_42 rfl 1 rfl ?_
  refine A_getR (b := 94) dX11_stepsTruly_43 fo_RX11_9 L93 rfl ?_
  refine A_bipush (v := 56) dX11_stepsTruly_46 rfl ?_
  refine A_iload_n dX11_stepsTruly_48 rfl 2 rfl ?_
  refine A_iastore 56 dX11_stepsTruly_49 L94 (rfl) (by decide) (lb rfl) ?_
  refine A_aload_n dX11_stepsTruly_50 rfl 1 rfl ?_
  refine A_getR (b := 97) dX11_stepsTruly_51 fo_RX11_19 L93 rfl ?_
  refine A_iload_n dX11_stepsTruly_54 rfl 2 rfl ?_
  refine A_aload_n dX11_stepsTruly_55 rfl 1 rfl ?_
  refine A_getI dX11_stepsTruly_56 fo_RX11_166 L93 rfl ?_
  refine A_topi (nI (stepA s k p t).2.2.1) (by simp [u2, ur, upd, e16]) ?_
  refine A_iastore t dX11_stepsTruly_59 L97 (rfl) (by omega) (lb rfl) ?_
  refine A_aload_n dX11_stepsTruly_60 rfl 1 rfl ?_
  refine A_getR (b := 98) dX11_stepsTruly_61 fo_RX11_22 L93 rfl ?_
  refine A_iload_n dX11_stepsTruly_64 rfl 2 rfl ?_
  refine A_aload_n dX11_stepsTruly_65 rfl 1 rfl ?_
  refine A_getR (b := 94) dX11_stepsTruly_66 fo_RX11_9 L93 rfl ?_
  refine A_iconst (v := 4) dX11_stepsTruly_69 rfl ?_
  refine A_iload_n dX11_stepsTruly_70 rfl 2 rfl ?_
  refine A_iadd dX11_stepsTruly_71 ?_
  refine A_iaload (4 + t) dX11_stepsTruly_72 L94 (by simp only [lit, nI_add, pk_mul]) (by omega) (lb rfl) ?_
  refine A_topi (nI ((stepA s k p t).1 1 t)) (by rw [u2_n _ _ _ (by decide), u2_s, upd_n _ _ (by omega), e94, cpR, if_pos (by omega)]; exact flat_1 _ _ ht4) ?_
  refine A_iconst (v := 3) dX11_stepsTruly_73 rfl ?_
  refine A_icmp_ne (tgt := 84) dX11_stepsTruly_74 rfl (fun h74 => ?_) (fun h74 => ?_)
  · have hw4 := ((wf_step w.1 w.2.1 w.2.2.1 ht4 h1).1.2.2.2.1 t ht4).1
    rw [show (3 : Int32) = nI 3 from rfl, nI_eq (by omega) (by omega)] at h74
    refine A_iconst (v := 0) dX11_stepsTruly_84 rfl ?_
    refine A_iastore t dX11_stepsTruly_85 L98 (rfl) (by omega) (lb rfl) ?_
    refine A_aload_n dX11_stepsTruly_86 rfl 1 rfl ?_
    refine A_getI dX11_stepsTruly_87 fo_RX11_166 L93 rfl ?_
    refine A_topi (nI (stepA s k p t).2.2.1) (by simp [u2, ur, upd, e16]) ?_
    refine A_if_le (tgt := 122) dX11_stepsTruly_90 rfl (fun h90 => ?_) (fun h90 => ?_)
    · have hr4 := st.2.2.2.2.2.1
      rw [show (0 : Int32) = nI 0 from rfl, nI_leI (by omega) (by omega)] at h90
      have hz : (stepA s k p t).2.2.1 = 0 := by omega
      exact A_vret dX11_stepsTruly_122 rfl (⟨rfl, RC_step hC w ht h1 how (by simp [u2, ur, e94]) (by simp [u2, ur, eO]) (by simp [u2, ur, eO, h74]), fun j hj => by simp [u2, ur, e96, flat, show ¬ j < 48 by omega, show ¬ j < 52 by omega], by unfold trQ trQs trQn; rw [if_pos hz, if_pos hz, if_pos hz]; exact hQ.congr2 (by rw [u2_n _ _ _ (by decide), u2_n _ _ _ (by decide), u2_n _ _ _ (by decide), eF 15 (by decide) (by decide)]) (by rw [u2_n _ _ _ (by decide), u2_n _ _ _ (by decide), u2_n _ _ _ (by decide), eO 102 (by decide) (by decide) (by decide)]) (by rw [u2_n _ _ _ (by decide), u2_n _ _ _ (by decide), u2_n _ _ _ (by decide), eO 103 (by decide) (by decide) (by decide)]), ⟨fun i hi => by rw [u2_n _ _ _ (by omega), u2_n _ _ _ (by omega), u2_n _ _ _ (by omega), eO i (by omega) (by omega) (by omega)], fun j hj => by rw [u2_n _ _ _ (by decide), u2_n _ _ _ (by decide), u2_n _ _ _ (by decide), eF j (by omega) (by omega)]⟩⟩)
    · have hr4 := st.2.2.2.2.2.1
      rw [show (0 : Int32) = nI 0 from rfl, nI_leI (by omega) (by omega)] at h90
      have hz : ¬ (stepA s k p t).2.2.1 = 0 := by omega
      have hb := st.2.1 hz
      have hok := (w.2.1 t ht4).2.2 (s 0 t) hb.2.2
      have hpc : f 94 (61 + 48 * t + 4 * s 0 t + 1) = nI (pO p t (s 0 t)) := by
          have e := hC.gR.2.2.2 (48 * t + 4 * s 0 t + 1) (by omega)
          rw [show 61 + 48 * t + 4 * s 0 t + 1 = 61 + (48 * t + 4 * s 0 t + 1) by omega]; exact e.trans hok.2.2.1
      refine A_aload_n dX11_stepsTruly_93 rfl 1 rfl ?_
      refine A_iconst (v := 4) dX11_stepsTruly_94 rfl ?_
      refine A_iload_n dX11_stepsTruly_95 rfl 2 rfl ?_
      refine A_iload_n dX11_stepsTruly_96 rfl 0 rfl ?_
      refine A_aload_n dX11_stepsTruly_97 rfl 1 rfl ?_
      refine A_getI dX11_stepsTruly_98 fo_RX11_166 L93 rfl ?_
      refine A_topi (nI (stepA s k p t).2.2.1) (by simp [u2, ur, upd, e16]) ?_
      refine A_iconst (v := 3) dX11_stepsTruly_101 rfl ?_
      refine A_icmp_ge (tgt := 110) dX11_stepsTruly_102 rfl (fun h102 => ?_) (fun h102 => ?_)
      · refine A_bipush (v := 7) dX11_stepsTruly_110 rfl ?_
        refine A_aload_n dX11_stepsTruly_112 rfl 1 rfl ?_
        refine A_iload_n dX11_stepsTruly_113 rfl 2 rfl ?_
        refine A_iload_n dX11_stepsTruly_114 rfl 0 rfl ?_
        refine A_iconst (v := 1) dX11_stepsTruly_115 rfl ?_
        refine A_callV (M' := MX11_field) [.int (nI t), .int (nI (s 0 t)), .int 1] [.int 7, .int (nI (s 0 t)), .int (nI t), .int 4, .ref 93] 93 dX11_stepsTruly_116 lk_RX11_150 oX11_field iX11_field rfl rfl ⟨lb rfl, lb rfl⟩ (lb rfl) ⟨lb rfl, lb rfl⟩ L93 rfl (c_field t (s 0 t) 1 _ (by have := (w.2.1 t ht4).1; omega)) ?_
        rintro _ _ ⟨rfl, rfl⟩
        refine A_topi (nI (pO p t (s 0 t))) (by rw [← hpc]; simp [u2, ur, upd, e94, cpR, show ¬ 61 + 48 * t + 4 * s 0 t + 1 = 56 by omega, show ¬ 61 + 48 * t + 4 * s 0 t + 1 < 52 by omega]) ?_
        refine A_callV (M' := MX11_tells) [.int 4, .int (nI t), .int (nI (s 0 t)), .int 7, .int (nI (pO p t (s 0 t)))] [] 93 dX11_stepsTruly_119 lk_RX11_142 oX11_tells iX11_tells rfl rfl ⟨lb rfl, lb rfl⟩ (lb rfl) ⟨lb rfl, lb rfl⟩ L93 rfl (c_tells _ 4 (nI t) (nI (s 0 t)) 7 (nI (pO p t (s 0 t)))) ?_
        rintro _ h ⟨rfl, hq⟩
        exact A_vret dX11_stepsTruly_122 rfl (⟨rfl, RC_step hC w ht h1 how (by rw [hq.2.2.2.1 94 (by decide) (by decide) (by decide)]; simp [u2, ur, e94]) (by rw [hq.2.2.2.1 97 (by decide) (by decide) (by decide)]; simp [u2, ur, eO]) (by rw [hq.2.2.2.1 98 (by decide) (by decide) (by decide)]; simp [u2, ur, eO, h74]), fun j hj => by rw [hq.2.2.2.1 96 (by decide) (by decide) (by decide)]; simp [u2, ur, e96, flat, show ¬ j < 48 by omega, show ¬ j < 52 by omega], by unfold trQ trQs trQn; rw [if_neg hz, if_neg hz, if_neg hz]; rw [show (3 : Int32) = nI 3 from rfl, nI_leI (by omega) (by omega)] at h102; first | (rw [if_pos (show (stepA s k p t).2.2.1 < 3 by omega)]; exact tr_rq hq) | (rw [if_neg (show ¬ (stepA s k p t).2.2.1 < 3 by omega)]; exact tr_rq hq), ⟨fun i hi => by rw [hq.2.2.2.1 i (by omega) (by omega) (by omega), u2_n _ _ _ (by omega), u2_n _ _ _ (by omega), u2_n _ _ _ (by omega), eO i (by omega) (by omega) (by omega)], fun j hj => by rw [hq.2.2.2.2 j (by omega), u2_n _ _ _ (by decide), u2_n _ _ _ (by decide), u2_n _ _ _ (by decide), eF j (by omega) (by omega)]⟩⟩)
      · refine A_bipush (v := 6) dX11_stepsTruly_105 rfl ?_
        refine A_goto (tgt := 112) dX11_stepsTruly_107 rfl ?_
        refine A_aload_n dX11_stepsTruly_112 rfl 1 rfl ?_
        refine A_iload_n dX11_stepsTruly_113 rfl 2 rfl ?_
        refine A_iload_n dX11_stepsTruly_114 rfl 0 rfl ?_
        refine A_iconst (v := 1) dX11_stepsTruly_115 rfl ?_
        refine A_callV (M' := MX11_field) [.int (nI t), .int (nI (s 0 t)), .int 1] [.int 6, .int (nI (s 0 t)), .int (nI t), .int 4, .ref 93] 93 dX11_stepsTruly_116 lk_RX11_150 oX11_field iX11_field rfl rfl ⟨lb rfl, lb rfl⟩ (lb rfl) ⟨lb rfl, lb rfl⟩ L93 rfl (c_field t (s 0 t) 1 _ (by have := (w.2.1 t ht4).1; omega)) ?_
        rintro _ _ ⟨rfl, rfl⟩
        refine A_topi (nI (pO p t (s 0 t))) (by rw [← hpc]; simp [u2, ur, upd, e94, cpR, show ¬ 61 + 48 * t + 4 * s 0 t + 1 = 56 by omega, show ¬ 61 + 48 * t + 4 * s 0 t + 1 < 52 by omega]) ?_
        refine A_callV (M' := MX11_tells) [.int 4, .int (nI t), .int (nI (s 0 t)), .int 6, .int (nI (pO p t (s 0 t)))] [] 93 dX11_stepsTruly_119 lk_RX11_142 oX11_tells iX11_tells rfl rfl ⟨lb rfl, lb rfl⟩ (lb rfl) ⟨lb rfl, lb rfl⟩ L93 rfl (c_tells _ 4 (nI t) (nI (s 0 t)) 6 (nI (pO p t (s 0 t)))) ?_
        rintro _ h ⟨rfl, hq⟩
        exact A_vret dX11_stepsTruly_122 rfl (⟨rfl, RC_step hC w ht h1 how (by rw [hq.2.2.2.1 94 (by decide) (by decide) (by decide)]; simp [u2, ur, e94]) (by rw [hq.2.2.2.1 97 (by decide) (by decide) (by decide)]; simp [u2, ur, eO]) (by rw [hq.2.2.2.1 98 (by decide) (by decide) (by decide)]; simp [u2, ur, eO, h74]), fun j hj => by rw [hq.2.2.2.1 96 (by decide) (by decide) (by decide)]; simp [u2, ur, e96, flat, show ¬ j < 48 by omega, show ¬ j < 52 by omega], by unfold trQ trQs trQn; rw [if_neg hz, if_neg hz, if_neg hz]; rw [show (3 : Int32) = nI 3 from rfl, nI_leI (by omega) (by omega)] at h102; first | (rw [if_pos (show (stepA s k p t).2.2.1 < 3 by omega)]; exact tr_rq hq) | (rw [if_neg (show ¬ (stepA s k p t).2.2.1 < 3 by omega)]; exact tr_rq hq), ⟨fun i hi => by rw [hq.2.2.2.1 i (by omega) (by omega) (by omega), u2_n _ _ _ (by omega), u2_n _ _ _ (by omega), u2_n _ _ _ (by omega), eO i (by omega) (by omega) (by omega)], fun j hj => by rw [hq.2.2.2.2 j (by omega), u2_n _ _ _ (by decide), u2_n _ _ _ (by decide), u2_n _ _ _ (by decide), eF j (by omega) (by omega)]⟩⟩)
  · have hw4 := ((wf_step w.1 w.2.1 w.2.2.1 ht4 h1).1.2.2.2.1 t ht4).1
    rw [show (3 : Int32) = nI 3 from rfl, nI_eq (by omega) (by omega)] at h74
    refine A_aload_n dX11_stepsTruly_77 rfl 1 rfl ?_
    refine A_getI dX11_stepsTruly_78 fo_RX11_157 L93 rfl ?_
    refine A_topi ow (by simp [u2, ur, upd, e17]) ?_
    refine A_goto (tgt := 85) dX11_stepsTruly_81 rfl ?_
    refine A_iastore t dX11_stepsTruly_85 L98 (rfl) (by omega) (lb rfl) ?_
    refine A_aload_n dX11_stepsTruly_86 rfl 1 rfl ?_
    refine A_getI dX11_stepsTruly_87 fo_RX11_166 L93 rfl ?_
    refine A_topi (nI (stepA s k p t).2.2.1) (by simp [u2, ur, upd, e16]) ?_
    refine A_if_le (tgt := 122) dX11_stepsTruly_90 rfl (fun h90 => ?_) (fun h90 => ?_)
    · have hr4 := st.2.2.2.2.2.1
      rw [show (0 : Int32) = nI 0 from rfl, nI_leI (by omega) (by omega)] at h90
      have hz : (stepA s k p t).2.2.1 = 0 := by omega
      exact A_vret dX11_stepsTruly_122 rfl (⟨rfl, RC_step hC w ht h1 how (by simp [u2, ur, e94]) (by simp [u2, ur, eO]) (by simp [u2, ur, eO, h74]), fun j hj => by simp [u2, ur, e96, flat, show ¬ j < 48 by omega, show ¬ j < 52 by omega], by unfold trQ trQs trQn; rw [if_pos hz, if_pos hz, if_pos hz]; exact hQ.congr2 (by rw [u2_n _ _ _ (by decide), u2_n _ _ _ (by decide), u2_n _ _ _ (by decide), eF 15 (by decide) (by decide)]) (by rw [u2_n _ _ _ (by decide), u2_n _ _ _ (by decide), u2_n _ _ _ (by decide), eO 102 (by decide) (by decide) (by decide)]) (by rw [u2_n _ _ _ (by decide), u2_n _ _ _ (by decide), u2_n _ _ _ (by decide), eO 103 (by decide) (by decide) (by decide)]), ⟨fun i hi => by rw [u2_n _ _ _ (by omega), u2_n _ _ _ (by omega), u2_n _ _ _ (by omega), eO i (by omega) (by omega) (by omega)], fun j hj => by rw [u2_n _ _ _ (by decide), u2_n _ _ _ (by decide), u2_n _ _ _ (by decide), eF j (by omega) (by omega)]⟩⟩)
    · have hr4 := st.2.2.2.2.2.1
      rw [show (0 : Int32) = nI 0 from rfl, nI_leI (by omega) (by omega)] at h90
      have hz : ¬ (stepA s k p t).2.2.1 = 0 := by omega
      have hb := st.2.1 hz
      have hok := (w.2.1 t ht4).2.2 (s 0 t) hb.2.2
      have hpc : f 94 (61 + 48 * t + 4 * s 0 t + 1) = nI (pO p t (s 0 t)) := by
          have e := hC.gR.2.2.2 (48 * t + 4 * s 0 t + 1) (by omega)
          rw [show 61 + 48 * t + 4 * s 0 t + 1 = 61 + (48 * t + 4 * s 0 t + 1) by omega]; exact e.trans hok.2.2.1
      refine A_aload_n dX11_stepsTruly_93 rfl 1 rfl ?_
      refine A_iconst (v := 4) dX11_stepsTruly_94 rfl ?_
      refine A_iload_n dX11_stepsTruly_95 rfl 2 rfl ?_
      refine A_iload_n dX11_stepsTruly_96 rfl 0 rfl ?_
      refine A_aload_n dX11_stepsTruly_97 rfl 1 rfl ?_
      refine A_getI dX11_stepsTruly_98 fo_RX11_166 L93 rfl ?_
      refine A_topi (nI (stepA s k p t).2.2.1) (by simp [u2, ur, upd, e16]) ?_
      refine A_iconst (v := 3) dX11_stepsTruly_101 rfl ?_
      refine A_icmp_ge (tgt := 110) dX11_stepsTruly_102 rfl (fun h102 => ?_) (fun h102 => ?_)
      · refine A_bipush (v := 7) dX11_stepsTruly_110 rfl ?_
        refine A_aload_n dX11_stepsTruly_112 rfl 1 rfl ?_
        refine A_iload_n dX11_stepsTruly_113 rfl 2 rfl ?_
        refine A_iload_n dX11_stepsTruly_114 rfl 0 rfl ?_
        refine A_iconst (v := 1) dX11_stepsTruly_115 rfl ?_
        refine A_callV (M' := MX11_field) [.int (nI t), .int (nI (s 0 t)), .int 1] [.int 7, .int (nI (s 0 t)), .int (nI t), .int 4, .ref 93] 93 dX11_stepsTruly_116 lk_RX11_150 oX11_field iX11_field rfl rfl ⟨lb rfl, lb rfl⟩ (lb rfl) ⟨lb rfl, lb rfl⟩ L93 rfl (c_field t (s 0 t) 1 _ (by have := (w.2.1 t ht4).1; omega)) ?_
        rintro _ _ ⟨rfl, rfl⟩
        refine A_topi (nI (pO p t (s 0 t))) (by rw [← hpc]; simp [u2, ur, upd, e94, cpR, show ¬ 61 + 48 * t + 4 * s 0 t + 1 = 56 by omega, show ¬ 61 + 48 * t + 4 * s 0 t + 1 < 52 by omega]) ?_
        refine A_callV (M' := MX11_tells) [.int 4, .int (nI t), .int (nI (s 0 t)), .int 7, .int (nI (pO p t (s 0 t)))] [] 93 dX11_stepsTruly_119 lk_RX11_142 oX11_tells iX11_tells rfl rfl ⟨lb rfl, lb rfl⟩ (lb rfl) ⟨lb rfl, lb rfl⟩ L93 rfl (c_tells _ 4 (nI t) (nI (s 0 t)) 7 (nI (pO p t (s 0 t)))) ?_
        rintro _ h ⟨rfl, hq⟩
        exact A_vret dX11_stepsTruly_122 rfl (⟨rfl, RC_step hC w ht h1 how (by rw [hq.2.2.2.1 94 (by decide) (by decide) (by decide)]; simp [u2, ur, e94]) (by rw [hq.2.2.2.1 97 (by decide) (by decide) (by decide)]; simp [u2, ur, eO]) (by rw [hq.2.2.2.1 98 (by decide) (by decide) (by decide)]; simp [u2, ur, eO, h74]), fun j hj => by rw [hq.2.2.2.1 96 (by decide) (by decide) (by decide)]; simp [u2, ur, e96, flat, show ¬ j < 48 by omega, show ¬ j < 52 by omega], by unfold trQ trQs trQn; rw [if_neg hz, if_neg hz, if_neg hz]; rw [show (3 : Int32) = nI 3 from rfl, nI_leI (by omega) (by omega)] at h102; first | (rw [if_pos (show (stepA s k p t).2.2.1 < 3 by omega)]; exact tr_rq hq) | (rw [if_neg (show ¬ (stepA s k p t).2.2.1 < 3 by omega)]; exact tr_rq hq), ⟨fun i hi => by rw [hq.2.2.2.1 i (by omega) (by omega) (by omega), u2_n _ _ _ (by omega), u2_n _ _ _ (by omega), u2_n _ _ _ (by omega), eO i (by omega) (by omega) (by omega)], fun j hj => by rw [hq.2.2.2.2 j (by omega), u2_n _ _ _ (by decide), u2_n _ _ _ (by decide), u2_n _ _ _ (by decide), eF j (by omega) (by omega)]⟩⟩)
      · refine A_bipush (v := 6) dX11_stepsTruly_105 rfl ?_
        refine A_goto (tgt := 112) dX11_stepsTruly_107 rfl ?_
        refine A_aload_n dX11_stepsTruly_112 rfl 1 rfl ?_
        refine A_iload_n dX11_stepsTruly_113 rfl 2 rfl ?_
        refine A_iload_n dX11_stepsTruly_114 rfl 0 rfl ?_
        refine A_iconst (v := 1) dX11_stepsTruly_115 rfl ?_
        refine A_callV (M' := MX11_field) [.int (nI t), .int (nI (s 0 t)), .int 1] [.int 6, .int (nI (s 0 t)), .int (nI t), .int 4, .ref 93] 93 dX11_stepsTruly_116 lk_RX11_150 oX11_field iX11_field rfl rfl ⟨lb rfl, lb rfl⟩ (lb rfl) ⟨lb rfl, lb rfl⟩ L93 rfl (c_field t (s 0 t) 1 _ (by have := (w.2.1 t ht4).1; omega)) ?_
        rintro _ _ ⟨rfl, rfl⟩
        refine A_topi (nI (pO p t (s 0 t))) (by rw [← hpc]; simp [u2, ur, upd, e94, cpR, show ¬ 61 + 48 * t + 4 * s 0 t + 1 = 56 by omega, show ¬ 61 + 48 * t + 4 * s 0 t + 1 < 52 by omega]) ?_
        refine A_callV (M' := MX11_tells) [.int 4, .int (nI t), .int (nI (s 0 t)), .int 6, .int (nI (pO p t (s 0 t)))] [] 93 dX11_stepsTruly_119 lk_RX11_142 oX11_tells iX11_tells rfl rfl ⟨lb rfl, lb rfl⟩ (lb rfl) ⟨lb rfl, lb rfl⟩ L93 rfl (c_tells _ 4 (nI t) (nI (s 0 t)) 6 (nI (pO p t (s 0 t)))) ?_
        rintro _ h ⟨rfl, hq⟩
        exact A_vret dX11_stepsTruly_122 rfl (⟨rfl, RC_step hC w ht h1 how (by rw [hq.2.2.2.1 94 (by decide) (by decide) (by decide)]; simp [u2, ur, e94]) (by rw [hq.2.2.2.1 97 (by decide) (by decide) (by decide)]; simp [u2, ur, eO]) (by rw [hq.2.2.2.1 98 (by decide) (by decide) (by decide)]; simp [u2, ur, eO, h74]), fun j hj => by rw [hq.2.2.2.1 96 (by decide) (by decide) (by decide)]; simp [u2, ur, e96, flat, show ¬ j < 48 by omega, show ¬ j < 52 by omega], by unfold trQ trQs trQn; rw [if_neg hz, if_neg hz, if_neg hz]; rw [show (3 : Int32) = nI 3 from rfl, nI_leI (by omega) (by omega)] at h102; first | (rw [if_pos (show (stepA s k p t).2.2.1 < 3 by omega)]; exact tr_rq hq) | (rw [if_neg (show ¬ (stepA s k p t).2.2.1 < 3 by omega)]; exact tr_rq hq), ⟨fun i hi => by rw [hq.2.2.2.1 i (by omega) (by omega) (by omega), u2_n _ _ _ (by omega), u2_n _ _ _ (by omega), u2_n _ _ _ (by omega), eO i (by omega) (by omega) (by omega)], fun j hj => by rw [hq.2.2.2.2 j (by omega), u2_n _ _ _ (by decide), u2_n _ _ _ (by decide), u2_n _ _ _ (by decide), eF j (by omega) (by omega)]⟩⟩)
