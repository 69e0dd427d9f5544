/-! a step truly: the class -/
theorem wf_hi {s s' : Sg} (h : ∀ c, c < 13 → s' c = s c) (w : wf s) : wf s' :=
  ⟨fun r hr => by rw [h 5 (by omega), h (7 + r) (by omega)]; exact w.1 r hr, fun r r' hr hr' => by rw [h (7 + r) (by omega), h (7 + r') (by omega)]; exact w.2.1 r r' hr hr',
   fun r hr => by rw [h (7 + r) (by omega), h 1 (by omega), h 2 (by omega)]; exact w.2.2.1 r hr, fun t ht => by rw [h 1 (by omega), h 2 (by omega)]; exact w.2.2.2.1 t ht, fun m hm => by rw [h 3 (by omega), h 4 (by omega)]; exact w.2.2.2.2 m hm⟩
theorem wfE_hi {s s' : Sg} (h : ∀ c, c < 13 → s' c = s c) (w : wfE s) : wfE s' := fun x hx q r hr => by
  rw [h (7 + r) (by omega)]; rw [h 1 (by omega)] at q; exact w x hx q r hr
theorem isD_hi {f : Mem} {d : Nat} {s s' : Sg} {k : Ro} (h : ∀ c, c < 13 → s' c = s c) (w : isD f d s k) : isD f d s' k := by
  unfold isD
  rw [h 0 (by omega), h 1 (by omega), h 2 (by omega), h 3 (by omega), h 4 (by omega), rE_c (s' := s') (s := s) (fun m hm i _ => by rw [h (7 + m) (by omega)]), rW_c (s' := s') (s := s) (fun m hm i _ => by rw [h (7 + (3 + m)) (by omega)])]
  exact w
def trS (s : Sg) (k p : Ro) (t : Nat) : Sg := s2 (stepA s k p t).1 15 0 (t + 1)
abbrev trK (s : Sg) (k p : Ro) (t : Nat) : Ro := (stepA s k p t).2.1
abbrev trZ (s : Sg) (k p : Ro) (t : Nat) (rz : Ro) : Ro := upd rz t (nI (stepA s k p t).2.2.1)
abbrev trL (s : Sg) (k p : Ro) (t : Nat) (lz : Ro) : Ro := upd lz t (nI (if s 0 t = s 16 t then (stepA s k p t).2.2.2 else 0))
def q3 (a b c : Int32) : Ro := fun i => if i = 0 then a else if i = 1 then b else c
def trQ (s : Sg) (k p : Ro) (t tq : Nat) : Nat := if (stepA s k p t).2.2.1 = 0 then tq else 3
def trQs (s : Sg) (k p : Ro) (t : Nat) (qs : Ro) : Ro := if (stepA s k p t).2.2.1 = 0 then qs else q3 4 5 (if (stepA s k p t).2.2.1 < 3 then 6 else 7)
def trQn (s : Sg) (k p : Ro) (t : Nat) (qn : Ro) : Ro := if (stepA s k p t).2.2.1 = 0 then qn else q3 (nI t) (nI (s 0 t)) (nI (pO p t (s 0 t)))
theorem trS_lo (s : Sg) (k p : Ro) (t : Nat) : ∀ c, c < 13 → trS s k p t c = (stepA s k p t).1 c := fun c hc => by
  funext i; exact s2_c _ (by omega)
theorem trS_hi {s : Sg} {k p : Ro} {t : Nat} (h : wf s) (hp : wfP s p) (hk : wfK k) (ht : t < 4) (h1 : s 1 t = 0) : ∀ c i, 13 ≤ c → c ≠ 15 → trS s k p t c i = s c i := fun c i hc h15 => by
  rw [trS, s2_c _ h15]; exact (wf_step h hp hk ht h1).2.2.2.1 c i hc
theorem wfC_step {s : Sg} {k p : Ro} {t : Nat} (w : wfC s k p) (ht : t < s 13 0) (h1 : s 1 t = 0) : wfC (trS s k p t) (trK s k p t) p := by
  obtain ⟨a, b, c, d, e, f, g, h⟩ := w
  have ws := wf_step a b c (t := t) (by omega) h1
  have hh := trS_hi (t := t) a b c (by omega) h1
  refine ⟨wf_hi (trS_lo s k p t) ws.1, fun x hx => ?_, ws.2.2.1, fun m hm => ?_, ?_, ?_, fun x hx hx4 => ?_, wfE_hi (trS_lo s k p t) (wfE_step a b (by omega) h1 h)⟩
  · have q := ws.2.1 x hx
    rw [hh 16 x (by omega) (by omega), trS_lo s k p t 0 (by omega)]
    rw [ws.2.2.2.1 16 x (by omega)] at q
    exact q
  · rw [hh 14 m (by omega) (by omega)]; exact d m hm
  · rw [hh 13 0 (by omega) (by omega)]; exact e
  · rw [hh 13 0 (by omega) (by omega), trS, s2_s]; omega
  · rw [hh 13 0 (by omega) (by omega)] at hx
    rw [hh 16 x (by omega) (by omega)]; exact g x hx hx4
theorem tkF_o (f : Mem) {d a : Nat} (t : Nat) (s : Sg) (k p : Ro) (h : a ≠ d) (h5 : a ≠ d + 5) (h6 : a ≠ d + 6) : tkF f d t s k p a = f a := by
  unfold tkF
  split
  · rw [u2_n _ _ _ h6, u2_n _ _ _ h]
  · split
    · rw [u2_n _ _ _ h]
    · rw [u2_n _ _ _ h6, u2_n _ _ _ h5, u2_n _ _ _ h]
theorem tkF_d (f : Mem) (d t : Nat) (s : Sg) (k p : Ro) : tkF f d t s k p d = upd (f d) 1 (nI t) := by
  unfold tkF
  split
  · rw [u2_n _ _ _ (by omega), u2_s]
  · split
    · rw [u2_s]
    · rw [u2_n _ _ _ (by omega), u2_n _ _ _ (by omega), u2_s]
theorem tkF_5 (f : Mem) (d t : Nat) (s : Sg) (k p : Ro) (h : s 0 t = s 16 t → (stepA s k p t).2.2.1 = 0) (h0 : f (d + 5) t = 0) : tkF f d t s k p (d + 5) = upd (f (d + 5)) t (nI (stepA s k p t).2.2.1) := by
  have z : upd (f (d + 5)) t (nI 0) = f (d + 5) := by
    funext i; unfold upd; split
    · rename_i e; rw [e, h0]; rfl
    · rfl
  unfold tkF
  split
  · rename_i e; rw [h e, z, u2_n _ _ _ (by omega), u2_n _ _ _ (by omega)]
  · split
    · rename_i e; rw [e, z, u2_n _ _ _ (by omega)]
    · rw [u2_n _ _ _ (by omega), u2_s, u2_n _ _ _ (by omega)]
theorem tkF_6 (f : Mem) (d t : Nat) (s : Sg) (k p : Ro) (h0 : f (d + 6) t = 0) : tkF f d t s k p (d + 6) = upd (f (d + 6)) t (nI (if s 0 t = s 16 t then (stepA s k p t).2.2.2 else 0)) := by
  have z : upd (f (d + 6)) t (nI 0) = f (d + 6) := by
    funext i; unfold upd; split
    · rename_i e; rw [e, h0]; rfl
    · rfl
  unfold tkF
  split
  · rw [u2_s, u2_n _ _ _ (by omega)]
  · split
    · rw [z, u2_n _ _ _ (by omega)]
    · rw [u2_s, u2_n _ _ _ (by omega), u2_n _ _ _ (by omega)]; rfl
theorem XC_step {f : Mem} {s : Sg} {k p rz lz : Ro} {t : Nat} (hC : XC f s k p rz lz) (w : wfC s k p) (hr : wR s rz lz) (ht : t < s 13 0) (h1 : s 1 t = 0) :
    XC (dM (tkF f 1 t s k p) 1 (stepA s k p t).1 (trK s k p t)) (trS s k p t) (trK s k p t) p (trZ s k p t rz) (trL s k p t lz) := by
  have ht4 : t < 4 := by have := w.2.2.2.2.1; omega
  have hh := trS_hi (t := t) w.1 w.2.1 w.2.2.1 ht4 h1
  have st := step_all (k := k) w.1 w.2.1 ht4 h1
  obtain ⟨a, b, c, d⟩ := hC
  have d0 := d t ht4
  have r0 := hr t ht4
  refine ⟨isD_hi (trS_lo s k p t) (isD_dM ..), ⟨?_, fun m hm => ?_, fun x hx => ?_, fun x hx j hj => ?_⟩, ?_, fun x hx => ⟨?_, ?_⟩⟩
  · rw [dM_o _ _ _ _ (by omega), tkF_d, upd_n _ _ (by omega), hh 13 0 (by omega) (by omega)]; exact b.1
  · rw [dM_o _ _ _ _ (by omega), tkF_o _ _ _ _ _ (by omega) (by omega) (by omega), hh 14 m (by omega) (by omega)]; exact b.2.1 m hm
  · rw [dM_o _ _ _ _ (by omega), tkF_o _ _ _ _ _ (by omega) (by omega) (by omega), hh 16 x (by omega) (by omega)]; exact b.2.2.1 x hx
  · rw [hh 16 x (by omega) (by omega)] at hj
    rw [dM_o _ _ _ _ (by omega), tkF_o _ _ _ _ _ (by omega) (by omega) (by omega)]; exact b.2.2.2 x hx j hj
  · rw [dM_o _ _ _ _ (by omega), tkF_d, upd_s, trS, s2_s]; exact (nI_pred _).symm
  · rw [dM_o _ _ _ _ (by omega), show (6 : Nat) = 1 + 5 from rfl, tkF_5 _ _ _ _ _ _ (fun q => (st.2.2.2.1 q).2) (d0.1.trans (r0.1 (by omega)))]
    unfold trZ upd
    by_cases e : x = t
    · rw [if_pos e, if_pos e]
    · rw [if_neg e, if_neg e]; exact (d x hx).1
  · rw [dM_o _ _ _ _ (by omega), show (7 : Nat) = 1 + 6 from rfl, tkF_6 _ _ _ _ _ _ (d0.2.trans (r0.2 (by omega)))]
    unfold trL upd
    by_cases e : x = t
    · rw [if_pos e, if_pos e]
    · rw [if_neg e, if_neg e]; exact (d x hx).2
/-- the cells that a step changes -/
def fS (f h : Mem) : Prop := h 55 0 = 0 ∧ ∀ b, (b = 0 ∨ 22 ≤ b) → b ≠ 55 → (b < 48 ∨ 50 < b) → h b = f b
theorem rs_67 : ∀ r, r < 5 → (if (2 : Int32) < nI r then (7 : Int32) else 6) = if r < 3 then 6 else 7 := by decide +kernel
theorem tr_q {f h : Mem} {r : Nat} {x y z : Int32} (q : qP f h 4 5 (if 2 < nI r then 7 else 6) x y z) (hr : r ≤ 4) : XQ h 3 (q3 4 5 (if r < 3 then 6 else 7)) (q3 x y z) := by
  rw [rs_67 r (by omega)] at q
  refine ⟨q.1, fun i hi => ?_⟩
  match i, hi with
  | 0, _ => exact ⟨q.2.1.1, q.2.2.1.1⟩
  | 1, _ => exact ⟨q.2.1.2.1, q.2.2.1.2.1⟩
  | 2, _ => exact ⟨q.2.1.2.2, q.2.2.1.2.2⟩
theorem x_takeTruly (t : Nat) (f : Mem) (s : Sg) (k p rz lz : Ro) (tq : Nat) (qs qn : Ro) (hC : XC f s k p rz lz) (hQ : XQ f tq qs qn) (w : wfC s k p) (hr : wR s rz lz) (ht : t < s 13 0) (h1 : s 1 t = 0) : C0 MX10_takeTruly [.ref 0, .int (nI t)] f (fun r h => r = none ∧ XC h (trS s k p t) (trK s k p t) p (trZ s k p t rz) (trL s k p t lz) ∧ XQ h (trQ s k p t tq) (trQs s k p t qs) (trQn s k p t qn) ∧ fS f h) := by
  have ht4 : t < 4 := by have := w.2.2.2.2.1; omega
  have hpg := isDesk.prog (d := 1) (.inl rfl) ht4
  have st := step_all (k := k) w.1 w.2.1 ht4 h1
  have hh := trS_hi (t := t) w.1 w.2.1 w.2.2.1 ht4 h1
  have hw4 : ∀ x, x < 4 → (stepA s k p t).1 1 x ≤ 4 := fun x hx => ((wf_step w.1 w.2.1 w.2.2.1 ht4 h1).1.2.2.2.1 x hx).1
  have hC0 : ∀ F, F = u2 f 55 0 0 → XC F s k p rz lz := fun F hF => hC.congr (fun a a1 a2 => by rw [hF, u2_n _ _ _ (by omega)])
  have hT : ∀ F, F = u2 f 55 0 0 → C0 MX1_take [.ref 1, .int (nI t)] F (rt none (dM (tkF F 1 t s k p) 1 (stepA s k p t).1 (stepA s k p t).2.1)) := fun F hF => by
    have e := x_take t F 1 s k (.inl rfl) p ht4 w.1 w.2.1 w.2.2.1 w.2.2.2.1 h1 (hC0 F hF).2.1
    rw [(hC0 F hF).1.eq] at e
    exact e
  have hX0 := fun F hF => XC_step (hC0 F hF) w hr ht h1
  have hfr : ∀ F, F = u2 f 55 0 0 → ∀ G, G = dM (tkF F 1 t s k p) 1 (stepA s k p t).1 (stepA s k p t).2.1 → ∀ b, (b = 0 ∨ 22 ≤ b) → b ≠ 55 → G b = f b := fun F hF G hG b b0 b1 => by
    rw [hG, dM_o _ _ _ _ (by omega), tkF_o _ _ _ _ _ (by omega) (by omega) (by omega), hF, u2_n _ _ _ b1]
  refine Ct.of (lv := [(0, .ref 0), (1, .int (nI t))]) (by decide) (lb rfl) rfl ?_
  refine A_aload_n dX10_takeTruly_0 rfl 0 rfl ?_
  refine A_getR (b := 55) dX10_takeTruly_1 fo_RX10_52 L0 rfl ?_
  refine A_callV (M' := MX6_forget) [] [] 55 dX10_takeTruly_4 lk_RX10_67 oX6_forget iX6_forget rfl rfl ⟨lb rfl, lb rfl⟩ (lb rfl) ⟨lb rfl, lb rfl⟩ L55 rfl (x_forget f) ?_
  rintro _ F ⟨rfl, hF⟩
  refine A_aload_n dX10_takeTruly_7 rfl 0 rfl ?_
  refine A_getR (b := 1) dX10_takeTruly_8 fo_RX10_10 L0 rfl ?_
  refine A_iload_n dX10_takeTruly_11 rfl 1 rfl ?_
  refine A_callV (M' := MX1_take) [.int (nI t)] [] 1 dX10_takeTruly_12 lk_RX10_289 oX1_take iX1_take rfl rfl ⟨lb rfl, lb rfl⟩ (lb rfl) ⟨lb rfl, lb rfl⟩ L1 rfl (hT F hF) ?_
  rintro _ G ⟨rfl, hG⟩
  have hX := hX0 F hF
  rw [← hG] at hX
  refine A_aload_n dX10_takeTruly_15 rfl 0 rfl ?_
  refine A_getR (b := 1) dX10_takeTruly_16 fo_RX10_10 L0 rfl ?_
  refine A_getR (b := 4) dX10_takeTruly_19 fo_RX10_117 L1 rfl ?_
  refine A_iload_n dX10_takeTruly_22 rfl 1 rfl ?_
  refine A_iaload t dX10_takeTruly_23 L4 (rfl) (ht4) (lb rfl) ?_
  refine A_topi (nI ((stepA s k p t).1 1 t)) (by rw [hG]; exact dM_3 _ 1 _ _ ht4) ?_
  refine A_iconst (v := 4) dX10_takeTruly_24 rfl ?_
  refine A_icmp_ne (tgt := 70) dX10_takeTruly_25 rfl (fun h25 => ?_) (fun h25 => ?_)
  · have hst := hw4 t ht4
    rw [show (4 : Int32) = nI 4 from rfl, nI_eq (by omega) (by omega)] at h25
    have hz : (stepA s k p t).2.2.1 = 0 := Classical.byContradiction (fun q => h25 (st.2.1 q).1)
    exact A_vret dX10_takeTruly_70 rfl (⟨rfl, hX, by unfold trQ trQs trQn; rw [if_pos hz, if_pos hz, if_pos hz]; exact hQ.congr (fun a a1 a2 => hfr F hF G hG a (by omega) (by omega)), by rw [hG, dM_o _ _ _ _ (by omega), tkF_o _ _ _ _ _ (by omega) (by omega) (by omega), hF]; simp [u2, ur, upd], fun b b0 b1 b2 => hfr F hF G hG b b0 b1⟩)
  · have hst := hw4 t ht4
    rw [show (4 : Int32) = nI 4 from rfl, nI_eq (by omega) (by omega)] at h25
    have hz : ¬ (stepA s k p t).2.2.1 = 0 := fun q => st.2.2.1 q h25
    have hb := st.2.1 hz
    refine A_aload_n dX10_takeTruly_28 rfl 0 rfl ?_
    refine A_getR (b := 1) dX10_takeTruly_29 fo_RX10_10 L0 rfl ?_
    refine A_getR (b := 3) dX10_takeTruly_32 fo_RX10_114 L1 rfl ?_
    refine A_iload_n dX10_takeTruly_35 rfl 1 rfl ?_
    refine A_iaload t dX10_takeTruly_36 L3 (rfl) (ht4) (lb rfl) ?_
    refine A_topi (nI (s 0 t)) (by rw [hG, ← hb.2.1]; exact dM_2 _ 1 _ _ ht4) ?_
    refine A_istore_n (lv' := [(2, .int (nI (s 0 t))), (0, .ref 0), (1, .int (nI t))]) dX10_takeTruly_37 rfl (lb rfl) rfl ?_
    refine A_aload_n dX10_takeTruly_38 rfl 1 rfl ?_
    refine A_getR (b := 48) dX10_takeTruly_39 fo_RX10_38 L0 rfl ?_
    refine A_iload_n dX10_takeTruly_42 rfl 2 rfl ?_
    refine A_iload_n dX10_takeTruly_43 rfl 0 rfl ?_
    refine A_aload_n dX10_takeTruly_44 rfl 1 rfl ?_
    refine A_getR (b := 1) dX10_takeTruly_45 fo_RX10_10 L0 rfl ?_
    refine A_getR (b := 6) dX10_takeTruly_48 fo_RX10_169 L1 rfl ?_
    refine A_iload_n dX10_takeTruly_51 rfl 2 rfl ?_
    refine A_iaload t dX10_takeTruly_52 L6 (rfl) (ht4) (lb rfl) ?_
    refine A_topi (nI (stepA s k p t).2.2.1) ((hX.2.2.2 t ht4).1.trans (upd_s _ _ _)) ?_
    refine A_aload_n dX10_takeTruly_53 rfl 1 rfl ?_
    refine A_getR (b := 1) dX10_takeTruly_54 fo_RX10_10 L0 rfl ?_
    refine A_getR (b := 2) dX10_takeTruly_57 fo_RX10_134 L1 rfl ?_
    refine A_iload_n dX10_takeTruly_60 rfl 2 rfl ?_
    refine A_aaload2 (b := 1 + 13 + 2 * t) t dX10_takeTruly_61 L2 (rfl) (ht4) (lb rfl) (hpg.2) ?_
    refine A_iload_n dX10_takeTruly_62 rfl 0 rfl ?_
    refine A_iconst (v := 1) dX10_takeTruly_63 rfl ?_
    refine A_callV (M' := MX3_part) [.int (nI (s 0 t)), .int 1] [.int (nI (stepA s k p t).2.2.1), .int (nI (s 0 t)), .int (nI t), .ref 48] (1 + 13 + 2 * t) dX10_takeTruly_64 lk_RX10_142 oX3_part iX3_part rfl rfl ⟨lb rfl, lb rfl⟩ (lb rfl) ⟨lb rfl, lb rfl⟩ hpg.1.1 rfl (x_partIn (1 + 13 + 2 * t) (s 0 t) 1 G hpg.1 (hX.2.1.2.2.1 t ht4 |>.trans (by rw [hh 16 t (by omega) (by omega)])) (w.2.1 t ht4).1 hb.2.2 (by omega)) ?_
    rintro _ g0 ⟨rfl, hg0⟩
    rw [hg0]
    refine A_topi (nI (pO p t (s 0 t))) ((hX.2.1.2.2.2 t ht4 (4 * s 0 t + 1) (by rw [hh 16 t (by omega) (by omega)]; have := hb.2.2; omega)).trans ((w.2.1 t ht4).2.2 _ hb.2.2).2.2.1) ?_
    refine A_callV (M' := MX9_ofStep) [.int (nI t), .int (nI (s 0 t)), .int (nI (stepA s k p t).2.2.1), .int (nI (pO p t (s 0 t)))] [] 48 dX10_takeTruly_67 lk_RX10_292 oX9_ofStep iX9_ofStep rfl rfl ⟨lb rfl, lb rfl⟩ (lb rfl) ⟨lb rfl, lb rfl⟩ L48 rfl (x_ofStep G (nI t) (nI (s 0 t)) (nI (stepA s k p t).2.2.1) (nI (pO p t (s 0 t)))) ?_
    rintro _ h ⟨rfl, hq⟩
    exact A_vret dX10_takeTruly_70 rfl (⟨rfl, hX.congr (fun a a1 a2 => hq.2.2.2 a (by omega)), by unfold trQ trQs trQn; rw [if_neg hz, if_neg hz, if_neg hz]; exact tr_q hq (st.2.2.2.2.2.1), by rw [hq.2.2.2 55 (by omega), hG, dM_o _ _ _ _ (by omega), tkF_o _ _ _ _ _ (by omega) (by omega) (by omega), hF]; simp [u2, ur, upd], fun b b0 b1 b2 => (hq.2.2.2 b (by omega)).trans (hfr F hF G hG b b0 b1)⟩)
