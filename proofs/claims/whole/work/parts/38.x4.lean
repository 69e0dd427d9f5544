/-- what a statement of cells, or a jump, does -/
def cellA (s : Sg) (k : Ro) (t so one : Nat) (two : Int32) (three n : Nat) : Sg × Ro × Nat :=
  if so = 5 then (if inCell (k one + two) then (s, upd k one (k one + two), 0) else (s, k, 4))
  else if so = 6 then (s, upd k one two, 0)
  else if so = 7 then (if k one = two then (s, k, 0) else (s2 s 0 t (min three n), k, 0))
  else (s2 s 0 t (min one n), k, 0)
theorem mn_nI {a b : Nat} (ha : a < 100) (hb : b < 100) : (if nI b < nI a then nI b else nI a) = nI (min a b) := by
  by_cases h : b < a
  · rw [if_pos ((nI_ltI (by omega) (by omega)).mpr h), Nat.min_eq_right (by omega)]
  · rw [if_neg (fun q => h ((nI_ltI (by omega) (by omega)).mp q)), Nat.min_eq_left (by omega)]
theorem x_cells (t i so one three n pa : Nat) (two : Int32) (f : Mem) (d : Nat) (s : Sg) (k : Ro) (hd : isDesk d) (ht : t < 4) (hp : isProg pa) (hpa : d + 12 < pa) (hn : f pa 0 = nI n) (h12 : n ≤ 12) (hi : i < n) (e0 : f (pa + 1) (4 * i + 0) = nI so) (e1 : f (pa + 1) (4 * i + 1) = nI one) (e2 : f (pa + 1) (4 * i + 2) = two) (e3 : f (pa + 1) (4 * i + 3) = nI three) (hso : 5 ≤ so) (hso9 : so < 9) (h1 : so < 8 → one < 4) (h1b : one ≤ 12) (h3 : three ≤ 12) : C0 MX1_doWithCells [.ref d, .int (nI t), .ref pa, .int (nI i)] (dM f d s k) (rt (some (.int (nI (cellA s k t so one two three n).2.2))) (dM f d (cellA s k t so one two three n).1 (cellA s k t so one two three n).2.1)) := by
  refine Ct.of (lv := [(0, .ref d), (1, .int (nI t)), (2, .ref pa), (3, .int (nI i))]) (by decide) (lb rfl) rfl ?_
  refine A_aload_n dX1_doWithCells_0 rfl 2 rfl ?_
  refine A_iload_n dX1_doWithCells_1 rfl 3 rfl ?_
  refine A_iconst (v := 1) dX1_doWithCells_2 rfl ?_
  refine A_callV (M' := MX3_part) [.int (nI i), .int 1] [] pa dX1_doWithCells_3 lk_RX1_86 oX3_part iX3_part rfl rfl ⟨lb rfl, lb rfl⟩ (lb rfl) ⟨lb rfl, lb rfl⟩ hp.1 rfl (x_partIn pa i 1 _ hp (by rw [dM_o _ _ _ _ (by omega)]; exact hn) h12 hi (by omega)) ?_
  rintro _ _ ⟨rfl, rfl⟩
  refine A_topi (nI one) (by rw [dM_o _ _ _ _ (by omega)]; exact e1) ?_
  refine A_istore (lv' := [(4, .int (nI one)), (0, .ref d), (1, .int (nI t)), (2, .ref pa), (3, .int (nI i))]) dX1_doWithCells_6 (lb rfl) rfl ?_
  refine A_aload_n dX1_doWithCells_8 rfl 3 rfl ?_
  refine A_iload_n dX1_doWithCells_9 rfl 4 rfl ?_
  refine A_iconst (v := 2) dX1_doWithCells_10 rfl ?_
  refine A_callV (M' := MX3_part) [.int (nI i), .int 2] [] pa dX1_doWithCells_11 lk_RX1_86 oX3_part iX3_part rfl rfl ⟨lb rfl, lb rfl⟩ (lb rfl) ⟨lb rfl, lb rfl⟩ hp.1 rfl (x_partIn pa i 2 _ hp (by rw [dM_o _ _ _ _ (by omega)]; exact hn) h12 hi (by omega)) ?_
  rintro _ _ ⟨rfl, rfl⟩
  refine A_topi (two) (by rw [dM_o _ _ _ _ (by omega)]; exact e2) ?_
  refine A_istore (lv' := [(5, .int two), (4, .int (nI one)), (0, .ref d), (1, .int (nI t)), (2, .ref pa), (3, .int (nI i))]) dX1_doWithCells_14 (lb rfl) rfl ?_
  refine A_aload_n dX1_doWithCells_16 rfl 4 rfl ?_
  refine A_iload_n dX1_doWithCells_17 rfl 5 rfl ?_
  refine A_iconst (v := 0) dX1_doWithCells_18 rfl ?_
  refine A_callV (M' := MX3_part) [.int (nI i), .int 0] [] pa dX1_doWithCells_19 lk_RX1_86 oX3_part iX3_part rfl rfl ⟨lb rfl, lb rfl⟩ (lb rfl) ⟨lb rfl, lb rfl⟩ hp.1 rfl (x_partIn pa i 0 _ hp (by rw [dM_o _ _ _ _ (by omega)]; exact hn) h12 hi (by omega)) ?_
  rintro _ _ ⟨rfl, rfl⟩
  refine A_topi (nI so) (by rw [dM_o _ _ _ _ (by omega)]; exact e0) ?_
  refine A_istore (lv' := [(6, .int (nI so)), (5, .int two), (4, .int (nI one)), (0, .ref d), (1, .int (nI t)), (2, .ref pa), (3, .int (nI i))]) dX1_doWithCells_22 (lb rfl) rfl ?_
  refine A_iload dX1_doWithCells_24 0 rfl ?_
  refine A_bipush (v := 8) dX1_doWithCells_26 rfl ?_
  refine A_icmp_ne (tgt := 48) dX1_doWithCells_28 rfl (fun h28 => ?_) (fun h28 => ?_)
  · rw [show (8 : Int32) = nI 8 from rfl, nI_eq (by omega) (by omega)] at h28
    refine A_iload dX1_doWithCells_48 2 rfl ?_
    refine A_callSN (M' := MX10_isCell) [.int (nI one)] [] dX1_doWithCells_50 lk_RX1_129 oX10_isCell sX10_isCell rfl rfl ⟨lb rfl, lb rfl⟩ (lb rfl) ⟨lb rfl, lb rfl⟩ (x_isCell (nI one) _) ?_
    rintro _ _ ⟨rfl, rfl⟩
    refine A_if_ne (tgt := 58) dX1_doWithCells_53 rfl (fun h53 => ?_) (fun h53 => by exact absurd h53 (bz_n0.mpr ((inR_nI (by omega)).mpr (h1 (by omega)))))
    refine A_iload dX1_doWithCells_58 0 rfl ?_
    rcases (show so = 5 ∨ so = 6 ∨ so = 7 by omega) with esw | esw | esw
    · refine A_look (off := 28) (tgt := 88) dX1_doWithCells_60 rfl (by rw [esw]; decide) rfl ?_
      refine A_aload_n dX1_doWithCells_88 rfl 3 rfl ?_
      refine A_getR (b := d + 12) dX1_doWithCells_89 fo_RX1_56 (LD0 hd) rfl ?_
      refine A_iload dX1_doWithCells_92 2 rfl ?_
      refine A_iaload one dX1_doWithCells_94 (LD12 hd) (rfl) (by omega) (lb rfl) ?_
      refine A_topi (k one) (dM_12 f d s k (by omega)) ?_
      refine A_iload dX1_doWithCells_95 1 rfl ?_
      refine A_iadd dX1_doWithCells_97 ?_
      refine A_callSN (M' := MX10_isCellNumber) [.int ((k one) + two)] [] dX1_doWithCells_98 lk_RX1_132 oX10_isCellNumber sX10_isCellNumber rfl rfl ⟨lb rfl, lb rfl⟩ (lb rfl) ⟨lb rfl, lb rfl⟩ (x_isCellNumber _ _) ?_
      rintro _ _ ⟨rfl, rfl⟩
      refine A_if_ne (tgt := 106) dX1_doWithCells_101 rfl (fun h101 => ?_) (fun h101 => ?_)
      · have hin := bz_n0.mp h101
        refine A_aload_n dX1_doWithCells_106 rfl 3 rfl ?_
        refine A_getR (b := d + 12) dX1_doWithCells_107 fo_RX1_56 (LD0 hd) rfl ?_
        refine A_iload dX1_doWithCells_110 2 rfl ?_
        refine A_dup2 dX1_doWithCells_112 rfl rfl ?_
        refine A_iaload one dX1_doWithCells_113 (LD12 hd) (rfl) (by omega) (lb rfl) ?_
        refine A_topi (k one) (dM_12 f d s k (by omega)) ?_
        refine A_iload dX1_doWithCells_114 1 rfl ?_
        refine A_iadd dX1_doWithCells_116 ?_
        refine A_iastore one dX1_doWithCells_117 (LD12 hd) (rfl) (by omega) (lb rfl) ?_
        refine A_eq rfl rfl (f' := dM f d s (upd k one ((k one) + two))) (dM_u12 f d s k ((k one) + two) (by omega)) ?_
        refine A_goto (tgt := 164) dX1_doWithCells_118 rfl ?_
        refine A_iconst (v := 0) dX1_doWithCells_164 rfl ?_
        exact A_iret dX1_doWithCells_165 rfl (rti (by rw [cellA, if_pos esw, if_pos hin]; rfl) (by rw [cellA, if_pos esw, if_pos hin]))
      · have hin := bz_0.mp h101
        refine A_iconst (v := 4) dX1_doWithCells_104 rfl ?_
        exact A_iret dX1_doWithCells_105 rfl (rti (by rw [cellA, if_pos esw, if_neg hin]; rfl) (by rw [cellA, if_pos esw, if_neg hin]))
    · refine A_look (off := 61) (tgt := 121) dX1_doWithCells_60 rfl (by rw [esw]; decide) rfl ?_
      refine A_aload_n dX1_doWithCells_121 rfl 3 rfl ?_
      refine A_getR (b := d + 12) dX1_doWithCells_122 fo_RX1_56 (LD0 hd) rfl ?_
      refine A_iload dX1_doWithCells_125 2 rfl ?_
      refine A_iload dX1_doWithCells_127 1 rfl ?_
      refine A_iastore one dX1_doWithCells_129 (LD12 hd) (rfl) (by omega) (lb rfl) ?_
      refine A_eq rfl rfl (f' := dM f d s (upd k one two)) (dM_u12 f d s k two (by omega)) ?_
      refine A_goto (tgt := 164) dX1_doWithCells_130 rfl ?_
      refine A_iconst (v := 0) dX1_doWithCells_164 rfl ?_
      exact A_iret dX1_doWithCells_165 rfl (rti (by rw [cellA, if_neg (by omega), if_pos esw]; rfl) (by rw [cellA, if_neg (by omega), if_pos esw]))
    · refine A_look (off := 73) (tgt := 133) dX1_doWithCells_60 rfl (by rw [esw]; decide) rfl ?_
      refine A_aload_n dX1_doWithCells_133 rfl 3 rfl ?_
      refine A_getR (b := d + 12) dX1_doWithCells_134 fo_RX1_56 (LD0 hd) rfl ?_
      refine A_iload dX1_doWithCells_137 2 rfl ?_
      refine A_iaload one dX1_doWithCells_139 (LD12 hd) (rfl) (by omega) (lb rfl) ?_
      refine A_topi (k one) (dM_12 f d s k (by omega)) ?_
      refine A_iload dX1_doWithCells_140 1 rfl ?_
      refine A_icmp_eq (tgt := 164) dX1_doWithCells_142 rfl (fun h142 => ?_) (fun h142 => ?_)
      · refine A_iconst (v := 0) dX1_doWithCells_164 rfl ?_
        exact A_iret dX1_doWithCells_165 rfl (rti (by rw [cellA, if_neg (by omega), if_neg (by omega), if_pos esw, if_pos h142]; rfl) (by rw [cellA, if_neg (by omega), if_neg (by omega), if_pos esw, if_pos h142]))
      · refine A_aload_n dX1_doWithCells_145 rfl 3 rfl ?_
        refine A_getR (b := d + 2) dX1_doWithCells_146 fo_RX1_24 (LD0 hd) rfl ?_
        refine A_iload_n dX1_doWithCells_149 rfl 4 rfl ?_
        refine A_aload_n dX1_doWithCells_150 rfl 5 rfl ?_
        refine A_iload_n dX1_doWithCells_151 rfl 6 rfl ?_
        refine A_iconst (v := 3) dX1_doWithCells_152 rfl ?_
        refine A_callV (M' := MX3_part) [.int (nI i), .int 3] [.int (nI t), .ref (d + 2)] pa dX1_doWithCells_153 lk_RX1_86 oX3_part iX3_part rfl rfl ⟨lb rfl, lb rfl⟩ (lb rfl) ⟨lb rfl, lb rfl⟩ hp.1 rfl (x_partIn pa i 3 _ hp (by rw [dM_o _ _ _ _ (by omega)]; exact hn) h12 hi (by omega)) ?_
        rintro _ _ ⟨rfl, rfl⟩
        refine A_topi (nI three) (by rw [dM_o _ _ _ _ (by omega)]; exact e3) ?_
        refine A_aload_n dX1_doWithCells_156 rfl 5 rfl ?_
        refine A_getI dX1_doWithCells_157 fo_RX1_66 hp.1 rfl ?_
        refine A_topi (f pa 0) (by rw [dM_o f d s k (by omega)] <;> simp [u2, ur, upd]) ?_
        refine A_topi (nI n) hn ?_
        refine A_min dX1_doWithCells_160 lk_RX1_124 ⟨lb rfl, lb rfl⟩ ⟨lb rfl, lb rfl⟩ ?_
        refine A_topi (nI (min three n)) (mn_nI (by omega) (by omega)) ?_
        refine A_iastore t dX1_doWithCells_163 (LD2 hd) (rfl) (by omega) (lb rfl) ?_
        refine A_eq rfl rfl (f' := dM f d (s2 s 0 t (min three n)) k) (dM_u2 f d s k (min three n) (by simp only [lit, nI_add, pk_mul]) (by omega)) ?_
        refine A_iconst (v := 0) dX1_doWithCells_164 rfl ?_
        exact A_iret dX1_doWithCells_165 rfl (rti (by rw [cellA, if_neg (by omega), if_neg (by omega), if_pos esw, if_neg h142]; rfl) (by rw [cellA, if_neg (by omega), if_neg (by omega), if_pos esw, if_neg h142]))
  · rw [show (8 : Int32) = nI 8 from rfl, nI_eq (by omega) (by omega)] at h28
    refine A_aload_n dX1_doWithCells_31 rfl 3 rfl ?_
    refine A_getR (b := d + 2) dX1_doWithCells_32 fo_RX1_24 (LD0 hd) rfl ?_
    refine A_iload_n dX1_doWithCells_35 rfl 4 rfl ?_
    refine A_iload dX1_doWithCells_36 2 rfl ?_
    refine A_aload_n dX1_doWithCells_38 rfl 5 rfl ?_
    refine A_getI dX1_doWithCells_39 fo_RX1_66 hp.1 rfl ?_
    refine A_topi (f pa 0) (by rw [dM_o f d s k (by omega)] <;> simp [u2, ur, upd]) ?_
    refine A_topi (nI n) hn ?_
    refine A_min dX1_doWithCells_42 lk_RX1_124 ⟨lb rfl, lb rfl⟩ ⟨lb rfl, lb rfl⟩ ?_
    refine A_topi (nI (min one n)) (mn_nI (by omega) (by omega)) ?_
    refine A_iastore t dX1_doWithCells_45 (LD2 hd) (rfl) (by omega) (lb rfl) ?_
    refine A_eq rfl rfl (f' := dM f d (s2 s 0 t (min one n)) k) (dM_u2 f d s k (min one n) (by simp only [lit, nI_add, pk_mul]) (by omega)) ?_
    refine A_iconst (v := 0) dX1_doWithCells_46 rfl ?_
    exact A_iret dX1_doWithCells_47 rfl (rti (by rw [cellA, if_neg (by omega), if_neg (by omega), if_neg (by omega)]; rfl) (by rw [cellA, if_neg (by omega), if_neg (by omega), if_neg (by omega)]))
