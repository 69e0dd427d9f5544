/-- the class's desk beside the picture: tasks, what is missing, programs -/
def dS (f : Mem) (d : Nat) (s : Sg) (p : Ro) : Prop := f d 0 = nI (s 13 0) ∧ (∀ m, m < 3 → f (d + 7) m = nI (s 14 m)) ∧ (∀ t, t < 4 → f (d + 13 + 2 * t) 0 = nI (s 16 t)) ∧ ∀ t, t < 4 → ∀ j, j < 4 * s 16 t → f (d + 13 + 2 * t + 1) j = p (48 * t + j)
/-- what a step changes of the desk besides its rows: the latest, a reason, what was left -/
def tkF (f : Mem) (d t : Nat) (s : Sg) (k p : Ro) : Mem := if s 0 t = s 16 t then u2 (u2 f d 1 (nI t)) (d + 6) t (nI (stepA s k p t).2.2.2) else if (stepA s k p t).2.2.1 = 0 then u2 f d 1 (nI t) else u2 (u2 (u2 f d 1 (nI t)) (d + 5) t (nI (stepA s k p t).2.2.1)) (d + 6) t 0
theorem step_cells {s : Sg} {k p : Ro} {t : Nat} (hd : ¬ s 0 t = s 16 t) (h5 : ¬ pS p t (s 0 t) < 5) : stepA s k p t = if (cellA (s2 s 0 t (s 0 t + 1)) k t (pS p t (s 0 t)) (pO p t (s 0 t)) (pN p t (s 0 t)) (pT p t (s 0 t)) (s 16 t)).2.2 = 0 then ((cellA (s2 s 0 t (s 0 t + 1)) k t (pS p t (s 0 t)) (pO p t (s 0 t)) (pN p t (s 0 t)) (pT p t (s 0 t)) (s 16 t)).1, (cellA (s2 s 0 t (s 0 t + 1)) k t (pS p t (s 0 t)) (pO p t (s 0 t)) (pN p t (s 0 t)) (pT p t (s 0 t)) (s 16 t)).2.1, 0, 0) else ((endA s t 4).1, k, (cellA (s2 s 0 t (s 0 t + 1)) k t (pS p t (s 0 t)) (pO p t (s 0 t)) (pN p t (s 0 t)) (pT p t (s 0 t)) (s 16 t)).2.2, (endA s t 4).2) := by
  unfold stepA cellA
  rw [if_neg hd, if_neg h5]
  by_cases a : pS p t (s 0 t) = 5
  · rw [if_pos a, if_pos a]
    by_cases b : inCell (k (pO p t (s 0 t)) + pN p t (s 0 t))
    · rw [if_pos b, if_pos b]; rfl
    · rw [if_neg b, if_neg b]; rfl
  · rw [if_neg a, if_neg a]
    by_cases b : pS p t (s 0 t) = 6
    · rw [if_pos b, if_pos b]; rfl
    · rw [if_neg b, if_neg b]
      by_cases c : pS p t (s 0 t) = 7
      · rw [if_pos c, if_pos c]
        by_cases e : k (pO p t (s 0 t)) = pN p t (s 0 t)
        · rw [if_pos e, if_pos e]; rfl
        · rw [if_neg e, if_neg e, s2_s2]; rfl
      · rw [if_neg c, if_neg c, s2_s2]; rfl
theorem cell_bad {s : Sg} {k : Ro} {t so one three n : Nat} {two : Int32} (h : ¬ (cellA s k t so one two three n).2.2 = 0) : (cellA s k t so one two three n).1 = s ∧ (cellA s k t so one two three n).2.1 = k := by
  unfold cellA at h ⊢
  by_cases a : so = 5
  · rw [if_pos a] at h ⊢
    by_cases b : inCell (k one + two)
    · rw [if_pos b] at h; exact absurd rfl h
    · rw [if_neg b]; exact ⟨rfl, rfl⟩
  · rw [if_neg a] at h
    by_cases b : so = 6
    · rw [if_pos b] at h; exact absurd rfl h
    · rw [if_neg b] at h
      by_cases c : so = 7
      · rw [if_pos c] at h
        by_cases e : k one = two
        · rw [if_pos e] at h; exact absurd rfl h
        · rw [if_neg e] at h; exact absurd rfl h
      · rw [if_neg c] at h; exact absurd rfl h
theorem cell_le (s : Sg) (k : Ro) (t so one three n : Nat) (two : Int32) : (cellA s k t so one two three n).2.2 ≤ 4 := by
  unfold cellA
  (repeat' split) <;> (dsimp only; omega)
theorem x_take (t : Nat) (f : Mem) (d : Nat) (s : Sg) (k : Ro) (hd : isDesk d) (p : Ro) (ht : t < 4) (hw : wf s) (hp : wfP s p) (hk : wfK k) (h14 : wf14 s) (h1 : s 1 t = 0) (hs : dS f d s p) : C0 MX1_take [.ref d, .int (nI t)] (dM f d s k) (rt none (dM (tkF f d t s k p) d (stepA s k p t).1 (stepA s k p t).2.1)) := by
  obtain ⟨h12, hle, hok⟩ := hp t ht
  have hpg := hd.prog ht
  refine Ct.of (lv := [(0, .ref d), (1, .int (nI t))]) (by decide) (lb rfl) rfl ?_
  refine A_aload_n dX1_take_0 rfl 0 rfl ?_
  refine A_iload_n dX1_take_1 rfl 1 rfl ?_
  refine A_putI dX1_take_2 fo_RX1_15 (LD0 hd) rfl ?_
  refine A_eq rfl rfl (f' := dM (u2 f d 1 (nI t)) d s k) (dM_uo f d s k (by omega)) ?_
  refine A_aload_n dX1_take_5 rfl 0 rfl ?_
  refine A_getR (b := d + 1) dX1_take_6 fo_RX1_20 (LD0 hd) rfl ?_
  refine A_iload_n dX1_take_9 rfl 1 rfl ?_
  refine A_aaload2 (b := d + 13 + 2 * t) t dX1_take_10 (LD1 hd) (rfl) (by omega) (lb rfl) (hpg.2) ?_
  refine A_astore_n (lv' := [(2, .ref (d + 13 + 2 * t)), (0, .ref d), (1, .int (nI t))]) dX1_take_11 rfl (lb rfl) rfl ?_
  refine A_aload_n dX1_take_12 rfl 1 rfl ?_
  refine A_getR (b := d + 2) dX1_take_13 fo_RX1_24 (LD0 hd) rfl ?_
  refine A_iload_n dX1_take_16 rfl 2 rfl ?_
  refine A_iaload t dX1_take_17 (LD2 hd) (rfl) (by omega) (lb rfl) ?_
  refine A_topi (nI (s 0 t)) (by rw [dM_2 (u2 f d 1 (nI t)) d s k (by omega)] <;> simp [s2, n70, n70', n71, n71', n72, n72', n73, n73', n74, n74', n75, n75']) ?_
  refine A_istore_n (lv' := [(3, .int (nI (s 0 t))), (2, .ref (d + 13 + 2 * t)), (0, .ref d), (1, .int (nI t))]) dX1_take_18 rfl (lb rfl) rfl ?_
  refine A_iload_n dX1_take_19 rfl 0 rfl ?_
  refine A_aload_n dX1_take_20 rfl 1 rfl ?_
  refine A_getI dX1_take_21 fo_RX1_66 hpg.1.1 rfl ?_
  refine A_topi ((u2 f d 1 (nI t)) (d + 13 + 2 * t) 0) (by rw [dM_o (u2 f d 1 (nI t)) d s k (by omega)] <;> simp [u2, ur, upd]) ?_
  refine A_topi (nI (s 16 t)) (by rw [u2_n _ _ _ (by omega)]; exact hs.2.2.1 t ht) ?_
  refine A_icmp_lt (tgt := 34) dX1_take_24 rfl (fun h24 => ?_) (fun h24 => ?_)
  · rw [nI_ltI (by omega) (by omega)] at h24
    have ok := hok (s 0 t) (by omega)
    have hS9 := ok.2.1
    have e0 : f (d + 13 + 2 * t + 1) (4 * s 0 t + 0) = nI (pS p t (s 0 t)) := (hs.2.2.2 t ht (4 * s 0 t + 0) (by omega)).trans ok.1
    have e1 : f (d + 13 + 2 * t + 1) (4 * s 0 t + 1) = nI (pO p t (s 0 t)) := (hs.2.2.2 t ht (4 * s 0 t + 1) (by omega)).trans ok.2.2.1
    have e2 : f (d + 13 + 2 * t + 1) (4 * s 0 t + 2) = pN p t (s 0 t) := hs.2.2.2 t ht (4 * s 0 t + 2) (by omega)
    have e3 : f (d + 13 + 2 * t + 1) (4 * s 0 t + 3) = nI (pT p t (s 0 t)) := (hs.2.2.2 t ht (4 * s 0 t + 3) (by omega)).trans ok.2.2.2.2.2.2.1
    refine A_aload_n dX1_take_34 rfl 2 rfl ?_
    refine A_getR (b := d + 2) dX1_take_35 fo_RX1_24 (LD0 hd) rfl ?_
    refine A_iload_n dX1_take_38 rfl 3 rfl ?_
    refine A_iload_n dX1_take_39 rfl 0 rfl ?_
    refine A_iconst (v := 1) dX1_take_40 rfl ?_
    refine A_iadd dX1_take_41 ?_
    refine A_iastore t dX1_take_42 (LD2 hd) (rfl) (by omega) (lb rfl) ?_
    refine A_eq rfl rfl (f' := dM (u2 f d 1 (nI t)) d (s2 s 0 t (s 0 t + 1)) k) (dM_u2 (u2 f d 1 (nI t)) d s k (s 0 t + 1) (by simp only [lit, nI_add, pk_mul]) (by omega)) ?_
    refine A_aload_n dX1_take_43 rfl 1 rfl ?_
    refine A_iload_n dX1_take_44 rfl 0 rfl ?_
    refine A_iconst (v := 0) dX1_take_45 rfl ?_
    refine A_callV (M' := MX3_part) [.int (nI (s 0 t)), .int 0] [] (d + 13 + 2 * t) dX1_take_46 lk_RX1_86 oX3_part iX3_part rfl rfl ⟨lb rfl, lb rfl⟩ (lb rfl) ⟨lb rfl, lb rfl⟩ hpg.1.1 rfl (x_partIn (d + 13 + 2 * t) (s 0 t) 0 _ hpg.1 (by rw [dM_o _ _ _ _ (by omega), u2_n _ _ _ (by omega)]; exact hs.2.2.1 t ht) h12 (by omega) (by omega)) ?_
    rintro _ _ ⟨rfl, rfl⟩
    refine A_topi (nI (pS p t (s 0 t))) (by rw [dM_o _ _ _ _ (by omega), u2_n _ _ _ (by omega)]; exact e0) ?_
    refine A_iconst (v := 4) dX1_take_49 rfl ?_
    refine A_icmp_gt (tgt := 73) dX1_take_50 rfl (fun h50 => ?_) (fun h50 => ?_)
    · rw [show (4 : Int32) = nI 4 from rfl, nI_ltI (by omega) (by omega)] at h50
      refine A_aload_n dX1_take_73 rfl 2 rfl ?_
      refine A_iload_n dX1_take_74 rfl 3 rfl ?_
      refine A_aload_n dX1_take_75 rfl 1 rfl ?_
      refine A_iload_n dX1_take_76 rfl 0 rfl ?_
      refine A_callV (M' := MX1_doWithCells) [.int (nI t), .ref (d + 13 + 2 * t), .int (nI (s 0 t))] [] d dX1_take_77 lk_RX1_94 oX1_doWithCells iX1_doWithCells rfl rfl ⟨lb rfl, lb rfl⟩ (lb rfl) ⟨lb rfl, lb rfl⟩ (LD0 hd) rfl (x_cells t (s 0 t) (pS p t (s 0 t)) (pO p t (s 0 t)) (pT p t (s 0 t)) (s 16 t) (d + 13 + 2 * t) (pN p t (s 0 t)) (u2 f d 1 (nI t)) d (s2 s 0 t (s 0 t + 1)) k hd ht hpg.1 (by omega) (by rw [u2_n _ _ _ (by omega)]; exact hs.2.2.1 t ht) h12 (by omega) (by rw [u2_n _ _ _ (by omega)]; exact e0) (by rw [u2_n _ _ _ (by omega)]; exact e1) (by rw [u2_n _ _ _ (by omega)]; exact e2) (by rw [u2_n _ _ _ (by omega)]; exact e3) (by omega) ok.2.1 (fun q => (ok.2.2.2.2.1 (by omega) q).1) ok.2.2.2.2.2.1 ok.2.2.2.2.2.2.2) ?_
      rintro _ _ ⟨rfl, rfl⟩
      refine A_istore (lv' := [(4, .int (nI (cellA (s2 s 0 t (s 0 t + 1)) k t (pS p t (s 0 t)) (pO p t (s 0 t)) (pN p t (s 0 t)) (pT p t (s 0 t)) (s 16 t)).2.2)), (3, .int (nI (s 0 t))), (2, .ref (d + 13 + 2 * t)), (0, .ref d), (1, .int (nI t))]) dX1_take_80 (lb rfl) rfl ?_
      refine A_iload dX1_take_82 0 rfl ?_
      refine A_if_eq (tgt := 108) dX1_take_84 rfl (fun h84 => ?_) (fun h84 => ?_)
      · have hle := cell_le (s2 s 0 t (s 0 t + 1)) k t (pS p t (s 0 t)) (pO p t (s 0 t)) (pT p t (s 0 t)) (s 16 t) (pN p t (s 0 t))
        rw [show (0 : Int32) = nI 0 from rfl, nI_eq (by omega) (by omega)] at h84
        exact A_vret dX1_take_108 rfl (⟨rfl, by have es : stepA s k p t = ((cellA (s2 s 0 t (s 0 t + 1)) k t (pS p t (s 0 t)) (pO p t (s 0 t)) (pN p t (s 0 t)) (pT p t (s 0 t)) (s 16 t)).1, (cellA (s2 s 0 t (s 0 t + 1)) k t (pS p t (s 0 t)) (pO p t (s 0 t)) (pN p t (s 0 t)) (pT p t (s 0 t)) (s 16 t)).2.1, 0, 0) := (by rw [step_cells (by omega) (by omega), if_pos h84]); unfold tkF; rw [es, if_neg (by omega), if_pos rfl]⟩)
      · have hle := cell_le (s2 s 0 t (s 0 t + 1)) k t (pS p t (s 0 t)) (pO p t (s 0 t)) (pT p t (s 0 t)) (s 16 t) (pN p t (s 0 t))
        rw [show (0 : Int32) = nI 0 from rfl, nI_eq (by omega) (by omega)] at h84
        rw [(cell_bad h84).1, (cell_bad h84).2]
        refine A_aload_n dX1_take_87 rfl 3 rfl ?_
        refine A_getR (b := d + 2) dX1_take_88 fo_RX1_24 (LD0 hd) rfl ?_
        refine A_iload_n dX1_take_91 rfl 4 rfl ?_
        refine A_iload_n dX1_take_92 rfl 1 rfl ?_
        refine A_iastore t dX1_take_93 (LD2 hd) (rfl) (by omega) (lb rfl) ?_
        refine A_eq rfl rfl (f' := dM (u2 f d 1 (nI t)) d s k) ((dM_u2 (u2 f d 1 (nI t)) d (s2 s 0 t (s 0 t + 1)) k (s 0 t) rfl (by omega)).trans (by rw [s2_s2, s2_self])) ?_
        refine A_aload_n dX1_take_94 rfl 3 rfl ?_
        refine A_getR (b := d + 5) dX1_take_95 fo_RX1_34 (LD0 hd) rfl ?_
        refine A_iload_n dX1_take_98 rfl 4 rfl ?_
        refine A_iload dX1_take_99 0 rfl ?_
        refine A_iastore t dX1_take_101 (LD5 hd) (rfl) (by omega) (lb rfl) ?_
        refine A_eq rfl rfl (f' := dM (u2 (u2 f d 1 (nI t)) (d + 5) t (nI (cellA (s2 s 0 t (s 0 t + 1)) k t (pS p t (s 0 t)) (pO p t (s 0 t)) (pN p t (s 0 t)) (pT p t (s 0 t)) (s 16 t)).2.2)) d s k) (dM_uo (u2 f d 1 (nI t)) d s k (by omega)) ?_
        refine A_aload_n dX1_take_102 rfl 3 rfl ?_
        refine A_iload_n dX1_take_103 rfl 4 rfl ?_
        refine A_iconst (v := 4) dX1_take_104 rfl ?_
        refine A_callV (M' := MX1_end) [.int (nI t), .int 4] [] d dX1_take_105 lk_RX1_82 oX1_end iX1_end rfl rfl ⟨lb rfl, lb rfl⟩ (lb rfl) ⟨lb rfl, lb rfl⟩ (LD0 hd) rfl (x_end t 4 (u2 (u2 f d 1 (nI t)) (d + 5) t (nI (cellA (s2 s 0 t (s 0 t + 1)) k t (pS p t (s 0 t)) (pO p t (s 0 t)) (pN p t (s 0 t)) (pT p t (s 0 t)) (s 16 t)).2.2)) d s k hd ht (by omega) hw h1) ?_
        rintro _ _ ⟨rfl, rfl⟩
        rw [if_neg (show ¬ (4 : Nat) = 3 by decide)]
        exact A_vret dX1_take_108 rfl (⟨rfl, by have es : stepA s k p t = ((endA s t 4).1, k, (cellA (s2 s 0 t (s 0 t + 1)) k t (pS p t (s 0 t)) (pO p t (s 0 t)) (pN p t (s 0 t)) (pT p t (s 0 t)) (s 16 t)).2.2, (endA s t 4).2) := (by rw [step_cells (by omega) (by omega), if_neg h84]); unfold tkF; rw [es, if_neg (by omega), if_neg h84]⟩)
    · rw [show (4 : Int32) = nI 4 from rfl, nI_ltI (by omega) (by omega)] at h50
      refine A_aload_n dX1_take_53 rfl 2 rfl ?_
      refine A_iload_n dX1_take_54 rfl 3 rfl ?_
      refine A_aload_n dX1_take_55 rfl 1 rfl ?_
      refine A_iload_n dX1_take_56 rfl 0 rfl ?_
      refine A_iconst (v := 0) dX1_take_57 rfl ?_
      refine A_callV (M' := MX3_part) [.int (nI (s 0 t)), .int 0] [.int (nI t), .ref d] (d + 13 + 2 * t) dX1_take_58 lk_RX1_86 oX3_part iX3_part rfl rfl ⟨lb rfl, lb rfl⟩ (lb rfl) ⟨lb rfl, lb rfl⟩ hpg.1.1 rfl (x_partIn (d + 13 + 2 * t) (s 0 t) 0 _ hpg.1 (by rw [dM_o _ _ _ _ (by omega), u2_n _ _ _ (by omega)]; exact hs.2.2.1 t ht) h12 (by omega) (by omega)) ?_
      rintro _ _ ⟨rfl, rfl⟩
      refine A_topi (nI (pS p t (s 0 t))) (by rw [dM_o _ _ _ _ (by omega), u2_n _ _ _ (by omega)]; exact e0) ?_
      refine A_aload_n dX1_take_61 rfl 1 rfl ?_
      refine A_iload_n dX1_take_62 rfl 0 rfl ?_
      refine A_iconst (v := 1) dX1_take_63 rfl ?_
      refine A_callV (M' := MX3_part) [.int (nI (s 0 t)), .int 1] [.int (nI (pS p t (s 0 t))), .int (nI t), .ref d] (d + 13 + 2 * t) dX1_take_64 lk_RX1_86 oX3_part iX3_part rfl rfl ⟨lb rfl, lb rfl⟩ (lb rfl) ⟨lb rfl, lb rfl⟩ hpg.1.1 rfl (x_partIn (d + 13 + 2 * t) (s 0 t) 1 _ hpg.1 (by rw [dM_o _ _ _ _ (by omega), u2_n _ _ _ (by omega)]; exact hs.2.2.1 t ht) h12 (by omega) (by omega)) ?_
      rintro _ _ ⟨rfl, rfl⟩
      refine A_topi (nI (pO p t (s 0 t))) (by rw [dM_o _ _ _ _ (by omega), u2_n _ _ _ (by omega)]; exact e1) ?_
      refine A_callV (M' := MX1_doAtMonitor) [.int (nI t), .int (nI (pS p t (s 0 t))), .int (nI (pO p t (s 0 t)))] [] d dX1_take_67 lk_RX1_90 oX1_doAtMonitor iX1_doAtMonitor rfl rfl ⟨lb rfl, lb rfl⟩ (lb rfl) ⟨lb rfl, lb rfl⟩ (LD0 hd) rfl (x_mon t (pS p t (s 0 t)) (pO p t (s 0 t)) (u2 f d 1 (nI t)) d (s2 s 0 t (s 0 t + 1)) k hd ht (by omega) (ok.2.2.2.1 (by omega)) (wf_place hw t _) (by simp [s2, h1]) (by rw [u2_n _ _ _ (by omega), s2_c _ (by decide)]; exact hs.2.1 _ (ok.2.2.2.1 (by omega))) (by rw [s2_c _ (by decide)]; exact h14 _ (ok.2.2.2.1 (by omega)))) ?_
      rintro _ _ ⟨rfl, rfl⟩
      refine A_goto (tgt := 80) dX1_take_70 rfl ?_
      refine A_istore (lv' := [(4, .int (nI (monA (s2 s 0 t (s 0 t + 1)) t (pS p t (s 0 t)) (pO p t (s 0 t))).2)), (3, .int (nI (s 0 t))), (2, .ref (d + 13 + 2 * t)), (0, .ref d), (1, .int (nI t))]) dX1_take_80 (lb rfl) rfl ?_
      refine A_iload dX1_take_82 0 rfl ?_
      refine A_if_eq (tgt := 108) dX1_take_84 rfl (fun h84 => ?_) (fun h84 => ?_)
      · have hle := mon_le (s2 s 0 t (s 0 t + 1)) t (pS p t (s 0 t)) (pO p t (s 0 t))
        rw [show (0 : Int32) = nI 0 from rfl, nI_eq (by omega) (by omega)] at h84
        exact A_vret dX1_take_108 rfl (⟨rfl, by have es : stepA s k p t = ((monA (s2 s 0 t (s 0 t + 1)) t (pS p t (s 0 t)) (pO p t (s 0 t))).1, k, 0, 0) := (by rw [stepA, if_neg (by omega), if_pos (by omega), if_pos h84]); unfold tkF; rw [es, if_neg (by omega), if_pos rfl]⟩)
      · have hle := mon_le (s2 s 0 t (s 0 t + 1)) t (pS p t (s 0 t)) (pO p t (s 0 t))
        rw [show (0 : Int32) = nI 0 from rfl, nI_eq (by omega) (by omega)] at h84
        rw [mon_same h84]
        refine A_aload_n dX1_take_87 rfl 3 rfl ?_
        refine A_getR (b := d + 2) dX1_take_88 fo_RX1_24 (LD0 hd) rfl ?_
        refine A_iload_n dX1_take_91 rfl 4 rfl ?_
        refine A_iload_n dX1_take_92 rfl 1 rfl ?_
        refine A_iastore t dX1_take_93 (LD2 hd) (rfl) (by omega) (lb rfl) ?_
        refine A_eq rfl rfl (f' := dM (u2 f d 1 (nI t)) d s k) ((dM_u2 (u2 f d 1 (nI t)) d (s2 s 0 t (s 0 t + 1)) k (s 0 t) rfl (by omega)).trans (by rw [s2_s2, s2_self])) ?_
        refine A_aload_n dX1_take_94 rfl 3 rfl ?_
        refine A_getR (b := d + 5) dX1_take_95 fo_RX1_34 (LD0 hd) rfl ?_
        refine A_iload_n dX1_take_98 rfl 4 rfl ?_
        refine A_iload dX1_take_99 0 rfl ?_
        refine A_iastore t dX1_take_101 (LD5 hd) (rfl) (by omega) (lb rfl) ?_
        refine A_eq rfl rfl (f' := dM (u2 (u2 f d 1 (nI t)) (d + 5) t (nI (monA (s2 s 0 t (s 0 t + 1)) t (pS p t (s 0 t)) (pO p t (s 0 t))).2)) d s k) (dM_uo (u2 f d 1 (nI t)) d s k (by omega)) ?_
        refine A_aload_n dX1_take_102 rfl 3 rfl ?_
        refine A_iload_n dX1_take_103 rfl 4 rfl ?_
        refine A_iconst (v := 4) dX1_take_104 rfl ?_
        refine A_callV (M' := MX1_end) [.int (nI t), .int 4] [] d dX1_take_105 lk_RX1_82 oX1_end iX1_end rfl rfl ⟨lb rfl, lb rfl⟩ (lb rfl) ⟨lb rfl, lb rfl⟩ (LD0 hd) rfl (x_end t 4 (u2 (u2 f d 1 (nI t)) (d + 5) t (nI (monA (s2 s 0 t (s 0 t + 1)) t (pS p t (s 0 t)) (pO p t (s 0 t))).2)) d s k hd ht (by omega) hw h1) ?_
        rintro _ _ ⟨rfl, rfl⟩
        rw [if_neg (show ¬ (4 : Nat) = 3 by decide)]
        exact A_vret dX1_take_108 rfl (⟨rfl, by have es : stepA s k p t = ((endA s t 4).1, k, (monA (s2 s 0 t (s 0 t + 1)) t (pS p t (s 0 t)) (pO p t (s 0 t))).2, (endA s t 4).2) := (by rw [stepA, if_neg (by omega), if_pos (by omega), if_neg h84]); unfold tkF; rw [es, if_neg (by omega), if_neg h84]⟩)
  · rw [nI_ltI (by omega) (by omega)] at h24
    refine A_aload_n dX1_take_27 rfl 2 rfl ?_
    refine A_iload_n dX1_take_28 rfl 3 rfl ?_
    refine A_iconst (v := 3) dX1_take_29 rfl ?_
    refine A_callV (M' := MX1_end) [.int (nI t), .int 3] [] d dX1_take_30 lk_RX1_82 oX1_end iX1_end rfl rfl ⟨lb rfl, lb rfl⟩ (lb rfl) ⟨lb rfl, lb rfl⟩ (LD0 hd) rfl (x_end t 3 (u2 f d 1 (nI t)) d s k hd ht (by omega) hw h1) ?_
    rintro _ _ ⟨rfl, rfl⟩
    rw [if_pos rfl]
    exact A_vret dX1_take_33 rfl (⟨rfl, by have es : stepA s k p t = ((endA s t 3).1, k, 0, (endA s t 3).2) := (by rw [stepA, if_pos (by omega)]); unfold tkF; rw [es, if_pos (by omega)]⟩)
