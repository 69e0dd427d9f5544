/-- what a statement of cells, or a jump, does -/
def cellA (s : Sg) (k : Ro) (t so one : Nat) (two : Int32) (three n : Nat) : Sg × Ro × Nat :=
  if so = 5 then (if inCell (k one + two) then (s, upd k one (k one + two), 0) else (s, k, 4))
  else if so = 6 then (s, upd k one two, 0)
  else if so = 7 then (if k one = two then (s, k, 0) else (s2 s 0 t (min three n), k, 0))
  else (s2 s 0 t (min one n), k, 0)
theorem mn_nI {a b : Nat} (ha : a < 100) (hb : b < 100) : (if nI b < nI a then nI b else nI a) = nI (min a b) := by
  by_cases h : b < a
  · rw [if_pos ((nI_ltI (by omega) (by omega)).mpr h), Nat.min_eq_right (by omega)]
  · rw [if_neg (fun q => h ((nI_ltI (by omega) (by omega)).mp q)), Nat.min_eq_left (by omega)]
theorem x_cells (t i so one three n pa : Nat) (two : Int32) (f : Mem) (d : Nat) (s : Sg) (k : Ro) (hd : isDesk d) (ht : t < 4) (hp : isProg pa) (hpa : d + 12 < pa) (hn : f pa 0 = nI n) (h12 : n ≤ 12) (hi : i < n) (e0 : f (pa + 1) (4 * i + 0) = nI so) (e1 : f (pa + 1) (4 * i + 1) = nI one) (e2 : f (pa + 1) (4 * i + 2) = two) (e3 : f (pa + 1) (4 * i + 3) = nI three) (hso : 5 ≤ so) (hso9 : so < 9) (h1 : so < 8 → one < 4) (h1b : one ≤ 12) (h3 : three ≤ 12) : C0 MX1_doWithCells [.ref d, .int (nI t), .ref pa, .int (nI i)] (dM f d s k) (rt (some (.int (nI (cellA s k t so one two three n).2.2))) (dM f d (cellA s k t so one two three n).1 (cellA s k t so one two three n).2.1)) := by
  refine Ct.of (lv := [(0, .ref d), (1, .int (nI t)), (2, .ref pa), (3, .int (nI i))]) (by decide) (lb rfl) rfl ?_
  refine A_aload_n dX1_doWithCells_0 rfl 2 rfl ?_
  refine A_iload_n dX1_doWithCells_1 rfl 3 rfl ?_
  refine A_iconst (v := 1) dX1_doWithCells_2 rfl ?_
  refine A_callV (M' := MX3_part) [.int (nI i), .int 1] [] pa dX1_doWithCells_3 lk_RX1_86 oX3_part iX3_part rfl rfl ⟨lb rfl, lb rfl⟩ (lb rfl) ⟨lb rfl, lb rfl⟩ hp.1 rfl (x_partIn pa i 1 _ hp (by rw [dM_o _ _ _ _ (by omega)]; exact hn) h12 hi (by omega)) ?_
  rintro _ _ ⟨rfl, rfl⟩
  refine A_topi (nI one) (by rw [dM_o _ _ _ _ (by omega)]; exact e1) ?_
  refine A_istore (lv' := [(4, .int (nI one)), (0, .ref d), (1, .int (nI t)), (2, .ref pa), (3, .int (nI i))]) dX1_doWithCells_6 (lb rfl) rfl ?_
  refine A_aload_n dX1_doWithCells_8 rfl 3 rfl ?_
  refine A_iload_n dX1_doWithCells_9 rfl 4 rfl ?_
  refine A_iconst (v := 2) dX1_doWithCells_10 rfl ?_
  refine A_callV (M' := MX3_part) [.int (nI i), .int 2] [] pa dX1_doWithCells_11 lk_RX1_86 oX3_part iX3_part rfl rfl ⟨lb rfl, lb rfl⟩ (lb rfl) ⟨lb rfl, lb rfl⟩ hp.1 rfl (x_partIn pa i 2 _ hp (by rw [dM_o _ _ _ _ (by omega)]; exact hn) h12 hi (by omega)) ?_
  rintro _ _ ⟨rfl, rfl⟩
  refine A_topi (two) (by rw [dM_o _ _ _ _ (by omega)]; exact e2) ?_
  refine A_istore (lv' := [(5, .int two), (4, .int (nI one)), (0, .ref d), (1, .int (nI t)), (2, .ref pa), (3, .int (nI i))]) dX1_doWithCells_14 (lb rfl) rfl ?_
  refine A_aload_n dX1_doWithCells_16 rfl 4 rfl ?_
  refine A_iload_n dX1_doWithCells_17 rfl 5 rfl ?_
  refine A_iconst (v := 0) dX1_doWithCells_18 rfl ?_
  refine A_callV (M' := MX3_part) [.int (nI i), .int 0] [] pa dX1_doWithCells_19 lk_RX1_86 oX3_part iX3_part rfl rfl ⟨lb rfl, lb rfl⟩ (lb rfl) ⟨lb rfl, lb rfl⟩ hp.1 rfl (x_partIn pa i 0 _ hp (by rw [dM_o _ _ _ _ (by omega)]; exact hn) h12 hi (by omega)) ?_
  rintro _ _ ⟨rfl, rfl⟩
  refine A_topi (nI so) (by rw [dM_o _ _ _ _ (by omega)]; exact e0) ?_
  rcases (show so = 5 ∨ so = 6 ∨ so = 7 ∨ so = 8 by omega) with esw | esw | esw | esw
  · refine A_tabIn (off := 26) (tgt := 48) dX1_doWithCells_22 (by rw [esw]; decide) (by rw [esw]; decide) (by rw [esw]; rfl) rfl ?_
    refine A_aload_n dX1_doWithCells_48 rfl 2 rfl ?_
    refine A_getR (b := d + 12) dX1_doWithCells_49 fo_RX1_56 (LD0 hd) rfl ?_
    refine A_iload dX1_doWithCells_52 1 rfl ?_
    refine A_iaload one dX1_doWithCells_54 (LD12 hd) (rfl) (by omega) (lb rfl) ?_
    refine A_topi (k one) (dM_12 f d s k (by omega)) ?_
    refine A_iload dX1_doWithCells_55 0 rfl ?_
    refine A_iadd dX1_doWithCells_57 ?_
    refine A_callSN (M' := MX10_isCellNumber) [.int ((k one) + two)] [] dX1_doWithCells_58 lk_RX1_120 oX10_isCellNumber sX10_isCellNumber rfl rfl ⟨lb rfl, lb rfl⟩ (lb rfl) ⟨lb rfl, lb rfl⟩ (x_isCellNumber _ _) ?_
    rintro _ _ ⟨rfl, rfl⟩
    refine A_if_ne (tgt := 66) dX1_doWithCells_61 rfl (fun h61 => ?_) (fun h61 => ?_)
    · have hin := bz_n0.mp h61
      refine A_aload_n dX1_doWithCells_66 rfl 2 rfl ?_
      refine A_getR (b := d + 12) dX1_doWithCells_67 fo_RX1_56 (LD0 hd) rfl ?_
      refine A_iload dX1_doWithCells_70 1 rfl ?_
      refine A_dup2 dX1_doWithCells_72 rfl rfl ?_
      refine A_iaload one dX1_doWithCells_73 (LD12 hd) (rfl) (by omega) (lb rfl) ?_
      refine A_topi (k one) (dM_12 f d s k (by omega)) ?_
      refine A_iload dX1_doWithCells_74 0 rfl ?_
      refine A_iadd dX1_doWithCells_76 ?_
      refine A_iastore one dX1_doWithCells_77 (LD12 hd) (rfl) (by omega) (lb rfl) ?_
      refine A_eq rfl rfl (f' := dM f d s (upd k one ((k one) + two))) (dM_u12 f d s k ((k one) + two) (by omega)) ?_
      refine A_goto (tgt := 142) dX1_doWithCells_78 rfl ?_
      refine A_iconst (v := 0) dX1_doWithCells_142 rfl ?_
      exact A_iret dX1_doWithCells_143 rfl (rti (by rw [cellA, if_pos esw, if_pos hin]; rfl) (by rw [cellA, if_pos esw, if_pos hin]))
    · have hin := bz_0.mp h61
      refine A_iconst (v := 4) dX1_doWithCells_64 rfl ?_
      exact A_iret dX1_doWithCells_65 rfl (rti (by rw [cellA, if_pos esw, if_neg hin]; rfl) (by rw [cellA, if_pos esw, if_neg hin]))
  · refine A_tabIn (off := 59) (tgt := 81) dX1_doWithCells_22 (by rw [esw]; decide) (by rw [esw]; decide) (by rw [esw]; rfl) rfl ?_
    refine A_aload_n dX1_doWithCells_81 rfl 2 rfl ?_
    refine A_getR (b := d + 12) dX1_doWithCells_82 fo_RX1_56 (LD0 hd) rfl ?_
    refine A_iload dX1_doWithCells_85 1 rfl ?_
    refine A_iload dX1_doWithCells_87 0 rfl ?_
    refine A_iastore one dX1_doWithCells_89 (LD12 hd) (rfl) (by omega) (lb rfl) ?_
    refine A_eq rfl rfl (f' := dM f d s (upd k one two)) (dM_u12 f d s k two (by omega)) ?_
    refine A_goto (tgt := 142) dX1_doWithCells_90 rfl ?_
    refine A_iconst (v := 0) dX1_doWithCells_142 rfl ?_
    exact A_iret dX1_doWithCells_143 rfl (rti (by rw [cellA, if_neg (by omega), if_pos esw]; rfl) (by rw [cellA, if_neg (by omega), if_pos esw]))
  · refine A_tabIn (off := 71) (tgt := 93) dX1_doWithCells_22 (by rw [esw]; decide) (by rw [esw]; decide) (by rw [esw]; rfl) rfl ?_
    refine A_aload_n dX1_doWithCells_93 rfl 2 rfl ?_
    refine A_getR (b := d + 12) dX1_doWithCells_94 fo_RX1_56 (LD0 hd) rfl ?_
    refine A_iload dX1_doWithCells_97 1 rfl ?_
    refine A_iaload one dX1_doWithCells_99 (LD12 hd) (rfl) (by omega) (lb rfl) ?_
    refine A_topi (k one) (dM_12 f d s k (by omega)) ?_
    refine A_iload dX1_doWithCells_100 0 rfl ?_
    refine A_icmp_eq (tgt := 142) dX1_doWithCells_102 rfl (fun h102 => ?_) (fun h102 => ?_)
    · refine A_iconst (v := 0) dX1_doWithCells_142 rfl ?_
      exact A_iret dX1_doWithCells_143 rfl (rti (by rw [cellA, if_neg (by omega), if_neg (by omega), if_pos esw, if_pos h102]; rfl) (by rw [cellA, if_neg (by omega), if_neg (by omega), if_pos esw, if_pos h102]))
    · refine A_aload_n dX1_doWithCells_105 rfl 2 rfl ?_
      refine A_getR (b := d + 2) dX1_doWithCells_106 fo_RX1_24 (LD0 hd) rfl ?_
      refine A_iload_n dX1_doWithCells_109 rfl 3 rfl ?_
      refine A_aload_n dX1_doWithCells_110 rfl 4 rfl ?_
      refine A_iload_n dX1_doWithCells_111 rfl 5 rfl ?_
      refine A_iconst (v := 3) dX1_doWithCells_112 rfl ?_
      refine A_callV (M' := MX3_part) [.int (nI i), .int 3] [.int (nI t), .ref (d + 2)] pa dX1_doWithCells_113 lk_RX1_86 oX3_part iX3_part rfl rfl ⟨lb rfl, lb rfl⟩ (lb rfl) ⟨lb rfl, lb rfl⟩ hp.1 rfl (x_partIn pa i 3 _ hp (by rw [dM_o _ _ _ _ (by omega)]; exact hn) h12 hi (by omega)) ?_
      rintro _ _ ⟨rfl, rfl⟩
      refine A_topi (nI three) (by rw [dM_o _ _ _ _ (by omega)]; exact e3) ?_
      refine A_aload_n dX1_doWithCells_116 rfl 4 rfl ?_
      refine A_getI dX1_doWithCells_117 fo_RX1_66 hp.1 rfl ?_
      refine A_topi (f pa 0) (by rw [dM_o f d s k (by omega)] <;> simp [u2, ur, upd]) ?_
      refine A_topi (nI n) hn ?_
      refine A_min dX1_doWithCells_120 lk_RX1_124 ⟨lb rfl, lb rfl⟩ ⟨lb rfl, lb rfl⟩ ?_
      refine A_topi (nI (min three n)) (mn_nI (by omega) (by omega)) ?_
      refine A_iastore t dX1_doWithCells_123 (LD2 hd) (rfl) (by omega) (lb rfl) ?_
      refine A_eq rfl rfl (f' := dM f d (s2 s 0 t (min three n)) k) (dM_u2 f d s k (min three n) (by simp only [lit, nI_add, pk_mul]) (by omega)) ?_
      refine A_goto (tgt := 142) dX1_doWithCells_124 rfl ?_
      refine A_iconst (v := 0) dX1_doWithCells_142 rfl ?_
      exact A_iret dX1_doWithCells_143 rfl (rti (by rw [cellA, if_neg (by omega), if_neg (by omega), if_pos esw, if_neg h102]; rfl) (by rw [cellA, if_neg (by omega), if_neg (by omega), if_pos esw, if_neg h102]))
  · refine A_tabOut (tgt := 127) dX1_doWithCells_22 (by rw [esw]; decide) rfl ?_
    refine A_aload_n dX1_doWithCells_127 rfl 2 rfl ?_
    refine A_getR (b := d + 2) dX1_doWithCells_128 fo_RX1_24 (LD0 hd) rfl ?_
    refine A_iload_n dX1_doWithCells_131 rfl 3 rfl ?_
    refine A_iload dX1_doWithCells_132 1 rfl ?_
    refine A_aload_n dX1_doWithCells_134 rfl 4 rfl ?_
    refine A_getI dX1_doWithCells_135 fo_RX1_66 hp.1 rfl ?_
    refine A_topi (f pa 0) (by rw [dM_o f d s k (by omega)] <;> simp [u2, ur, upd]) ?_
    refine A_topi (nI n) hn ?_
    refine A_min dX1_doWithCells_138 lk_RX1_124 ⟨lb rfl, lb rfl⟩ ⟨lb rfl, lb rfl⟩ ?_
    refine A_topi (nI (min one n)) (mn_nI (by omega) (by omega)) ?_
    refine A_iastore t dX1_doWithCells_141 (LD2 hd) (rfl) (by omega) (lb rfl) ?_
    refine A_eq rfl rfl (f' := dM f d (s2 s 0 t (min one n)) k) (dM_u2 f d s k (min one n) (by simp only [lit, nI_add, pk_mul]) (by omega)) ?_
    refine A_iconst (v := 0) dX1_doWithCells_142 rfl ?_
    exact A_iret dX1_doWithCells_143 rfl (rti (by rw [cellA, if_neg (by omega), if_neg (by omega), if_neg (by omega)]; rfl) (by rw [cellA, if_neg (by omega), if_neg (by omega), if_neg (by omega)]))
