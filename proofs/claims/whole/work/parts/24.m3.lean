/-- the row r when i places have been shifted -/
def shA (s : Sg) (r i : Nat) : Sg := sr (s2 s 5 r (s 5 r - 1)) (7 + r) (fun q => if q < i then (if q < s 5 r - 1 then s (7 + r) (q + 1) else 0) else s (7 + r) q)
theorem shA_0 (s : Sg) (r : Nat) : shA s r 0 = s2 s 5 r (s 5 r - 1) := by
  funext c q
  simp only [shA, sr]
  by_cases h : c = 7 + r
  · subst h; simp [s2, n75']
  · simp [h]
theorem shA_5 (s : Sg) (r i : Nat) : shA s r i 5 r = s 5 r - 1 := by simp [shA, sr, s2, n75]
theorem shA_hi (s : Sg) {r i q : Nat} (h : i ≤ q) : shA s r i (7 + r) q = s (7 + r) q := by
  simp [shA, sr, Nat.not_lt.mpr h]
theorem shA_up (s : Sg) (r i x : Nat) (hx : x = if i < s 5 r - 1 then s (7 + r) (i + 1) else 0) : s2 (shA s r i) (7 + r) i x = shA s r (i + 1) := by
  funext c q
  simp only [s2, shA, sr]
  by_cases h : c = 7 + r
  · subst h
    by_cases hq : q = i
    · subst hq; simp [hx]
    · simp [hq]
      by_cases h2 : q < i
      · simp [h2, Nat.lt_succ_of_lt h2]
      · simp [h2, show ¬ q < i + 1 by omega]
  · simp [h]
theorem flat_ext {s s' : Sg} {k : Ro} (h : ∀ j, j < 48 → s (fc j) (fk j) = s' (fc j) (fk j)) : flat s k = flat s' k := by
  funext j
  simp only [flat]
  split
  · rename_i hj; rw [h j hj]
  · rfl
theorem f_lt4 : ∀ j, j < 48 → 7 ≤ fc j → fk j < 4 := by decide +kernel
theorem shA_4 (s : Sg) (r : Nat) (k : Ro) : flat (shA s r 4) k = flat (leavesA s r) k := by
  refine flat_ext fun j hj => ?_
  simp only [shA, leavesA, sr]
  by_cases h : fc j = 7 + r
  · simp only [h, if_true]
    rw [if_pos (f_lt4 j hj (by omega))]
  · simp [h]
theorem l_leavesE (m : Nat) (f : Mem) (s : Sg) (k : Ro) (hm : m < 3) (hl : 1 ≤ s 5 m) (hl4 : s 5 m ≤ 4) (h1 : 1 ≤ s (7 + m) 0) : ∀ i, i ≤ 4 → A (cM MX11_leaves 0 0 layT layT (rt (some (.int (nI (s (7 + m) 0 - 1)))) (ur f 96 (flat (leavesA s m) k)))) 29 [(5, .int (nI i)), (4, .int (nI (s (7 + m) 0 - 1))), (0, .ref 93), (1, .int 18), (2, .int 21), (3, .int (nI m))] [] (ur f 96 (flat (shA s m i) k)) := by
  refine up_ind 4 (fun i hi ih => ?_)
  refine A_iload dX11_leaves_29 0 rfl ?_
  refine A_iconst (v := 4) dX11_leaves_31 rfl ?_
  refine A_icmp_ge (tgt := 86) dX11_leaves_32 rfl (fun h32 => ?_) (fun h32 => ?_)
  · rw [show (4 : Int32) = nI 4 from rfl, nI_leI (by omega) (by omega)] at h32
    have e4 : i = 4 := by omega
    subst e4
    refine A_iload dX11_leaves_86 1 rfl ?_
    exact A_iret dX11_leaves_88 rfl (rti rfl (by rw [shA_4]))
  · rw [show (4 : Int32) = nI 4 from rfl, nI_leI (by omega) (by omega)] at h32
    refine A_aload_n dX11_leaves_35 rfl 2 rfl ?_
    refine A_getR (b := 96) dX11_leaves_36 fo_RX11_16 L93 rfl ?_
    refine A_iload_n dX11_leaves_39 rfl 4 rfl ?_
    refine A_iconst (v := 4) dX11_leaves_40 rfl ?_
    refine A_iload_n dX11_leaves_41 rfl 5 rfl ?_
    refine A_imul dX11_leaves_42 ?_
    refine A_iadd dX11_leaves_43 ?_
    refine A_iload dX11_leaves_44 0 rfl ?_
    refine A_iadd dX11_leaves_46 ?_
    refine A_iload dX11_leaves_47 0 rfl ?_
    refine A_aload_n dX11_leaves_49 rfl 2 rfl ?_
    refine A_getR (b := 96) dX11_leaves_50 fo_RX11_16 L93 rfl ?_
    refine A_iload_n dX11_leaves_53 rfl 3 rfl ?_
    refine A_iload_n dX11_leaves_54 rfl 5 rfl ?_
    refine A_iadd dX11_leaves_55 ?_
    refine A_iaload (18 + m) dX11_leaves_56 L96 (by simp only [lit, nI_add, pk_mul]) (by omega) (lb rfl) ?_
    refine A_topi (nI (s 5 m - 1)) (by rw [sm_r f (shA s m i) k (by omega) (f_5 m (by omega)), shA_5]) ?_
    refine A_icmp_ge (tgt := 78) dX11_leaves_57 rfl (fun h57 => ?_) (fun h57 => ?_)
    · rw [nI_leI (by omega) (by omega)] at h57
      refine A_iconst (v := 0) dX11_leaves_78 rfl ?_
      refine A_iastore (21 + 4 * m + i) dX11_leaves_79 L96 (by simp only [lit, nI_add, pk_mul]) (by omega) (lb rfl) ?_
      refine A_eq rfl rfl ((sm_u f (shA s m i) k (0) (by rfl) (by omega) (f_7 m (by omega) i (by omega))).trans (by rw [shA_up s m i (0) (by first | rw [if_pos (by omega)] | rw [if_neg (by omega)])])) ?_
      refine A_iinc (lv' := [(5, .int (nI (i + 1))), (4, .int (nI (s (7 + m) 0 - 1))), (0, .ref 93), (1, .int 18), (2, .int 21), (3, .int (nI m))]) dX11_leaves_80 0 rfl (nI_add i 1) (lb rfl) rfl ?_
      refine A_goto (tgt := 29) dX11_leaves_83 rfl ?_
      exact ih (i + 1) (by omega) (by omega)
    · rw [nI_leI (by omega) (by omega)] at h57
      refine A_aload_n dX11_leaves_60 rfl 2 rfl ?_
      refine A_getR (b := 96) dX11_leaves_61 fo_RX11_16 L93 rfl ?_
      refine A_iload_n dX11_leaves_64 rfl 4 rfl ?_
      refine A_iconst (v := 4) dX11_leaves_65 rfl ?_
      refine A_iload_n dX11_leaves_66 rfl 5 rfl ?_
      refine A_imul dX11_leaves_67 ?_
      refine A_iadd dX11_leaves_68 ?_
      refine A_iload dX11_leaves_69 0 rfl ?_
      refine A_iadd dX11_leaves_71 ?_
      refine A_iconst (v := 1) dX11_leaves_72 rfl ?_
      refine A_iadd dX11_leaves_73 ?_
      refine A_iaload (21 + 4 * m + (i + 1)) dX11_leaves_74 L96 (by simp only [lit, nI_add, pk_mul, Nat.add_assoc]) (by omega) (lb rfl) ?_
      refine A_topi (nI (s (7 + m) (i + 1))) (by rw [sm_r f (shA s m i) k (by omega) (f_7 m (by omega) (i + 1) (by omega)), shA_hi s (by omega)]) ?_
      refine A_goto (tgt := 79) dX11_leaves_75 rfl ?_
      refine A_iastore (21 + 4 * m + i) dX11_leaves_79 L96 (by simp only [lit, nI_add, pk_mul]) (by omega) (lb rfl) ?_
      refine A_eq rfl rfl ((sm_u f (shA s m i) k (s (7 + m) (i + 1)) (by rfl) (by omega) (f_7 m (by omega) i (by omega))).trans (by rw [shA_up s m i (s (7 + m) (i + 1)) (by first | rw [if_pos (by omega)] | rw [if_neg (by omega)])])) ?_
      refine A_iinc (lv' := [(5, .int (nI (i + 1))), (4, .int (nI (s (7 + m) 0 - 1))), (0, .ref 93), (1, .int 18), (2, .int 21), (3, .int (nI m))]) dX11_leaves_80 0 rfl (nI_add i 1) (lb rfl) rfl ?_
      refine A_goto (tgt := 29) dX11_leaves_83 rfl ?_
      exact ih (i + 1) (by omega) (by omega)
theorem c_leavesE (m : Nat) (f : Mem) (s : Sg) (k : Ro) (hm : m < 3) (hl : 1 ≤ s 5 m) (hl4 : s 5 m ≤ 4) (h1 : 1 ≤ s (7 + m) 0) : C0 MX11_leaves [.ref 93, .int 18, .int 21, .int (nI m)] (ur f 96 (flat s k)) (rt (some (.int (nI (s (7 + m) 0 - 1)))) (ur f 96 (flat (leavesA s m) k))) := by
  refine Ct.of (lv := [(0, .ref 93), (1, .int 18), (2, .int 21), (3, .int (nI m))]) (by decide) (lb rfl) rfl ?_
  refine A_aload_n dX11_leaves_0 rfl 0 rfl ?_
  refine A_getR (b := 96) dX11_leaves_1 fo_RX11_16 L93 rfl ?_
  refine A_iload_n dX11_leaves_4 rfl 2 rfl ?_
  refine A_iconst (v := 4) dX11_leaves_5 rfl ?_
  refine A_iload_n dX11_leaves_6 rfl 3 rfl ?_
  refine A_imul dX11_leaves_7 ?_
  refine A_iadd dX11_leaves_8 ?_
  refine A_iaload (21 + 4 * m + 0) dX11_leaves_9 L96 (by simp only [lit, nI_add, pk_mul, Nat.add_zero]) (by omega) (lb rfl) ?_
  refine A_topi (nI (s (7 + m) 0)) (by rw [sm_r f s k (by omega) (f_7 m (by omega) 0 (by omega))] <;> simp [s2, n70, n70', n71, n71', n72, n72', n73, n73', n74, n74', n75, n75']) ?_
  refine A_iconst (v := 1) dX11_leaves_10 rfl ?_
  refine A_isub dX11_leaves_11 ?_
  refine A_topi (nI (s (7 + m) 0 - 1)) (pk_sub h1) ?_
  refine A_istore (lv' := [(4, .int (nI (s (7 + m) 0 - 1))), (0, .ref 93), (1, .int 18), (2, .int 21), (3, .int (nI m))]) dX11_leaves_12 (lb rfl) rfl ?_
  refine A_aload_n dX11_leaves_14 rfl 1 rfl ?_
  refine A_getR (b := 96) dX11_leaves_15 fo_RX11_16 L93 rfl ?_
  refine A_iload_n dX11_leaves_18 rfl 2 rfl ?_
  refine A_iload_n dX11_leaves_19 rfl 4 rfl ?_
  refine A_iadd dX11_leaves_20 ?_
  refine A_dup2 dX11_leaves_21 rfl rfl ?_
  refine A_iaload (18 + m) dX11_leaves_22 L96 (by simp only [lit, nI_add, pk_mul]) (by omega) (lb rfl) ?_
  refine A_topi (nI (s 5 m)) (by rw [sm_r f s k (by omega) (f_5 m (by omega))] <;> simp [s2, n70, n70', n71, n71', n72, n72', n73, n73', n74, n74', n75, n75']) ?_
  refine A_iconst (v := 1) dX11_leaves_23 rfl ?_
  refine A_isub dX11_leaves_24 ?_
  refine A_topi (nI (s 5 m - 1)) (pk_sub hl) ?_
  refine A_iastore (18 + m) dX11_leaves_25 L96 (by simp only [lit, nI_add, pk_mul]) (by omega) (lb rfl) ?_
  refine A_eq rfl rfl (sm_u f s k (s 5 m - 1) (by simp only [lit, nI_add, pk_mul]) (by omega) (f_5 m (by omega))) ?_
  refine A_iconst (v := 0) dX11_leaves_26 rfl ?_
  refine A_istore (lv' := [(5, .int 0), (4, .int (nI (s (7 + m) 0 - 1))), (0, .ref 93), (1, .int 18), (2, .int 21), (3, .int (nI m))]) dX11_leaves_27 (lb rfl) rfl ?_
  have h := l_leavesE m f s k hm hl hl4 h1 0 (by omega)
  rw [shA_0] at h
  exact h
theorem l_leavesW (m : Nat) (f : Mem) (s : Sg) (k : Ro) (hm : m < 3) (hl : 1 ≤ s 5 (3 + m)) (hl4 : s 5 (3 + m) ≤ 4) (h1 : 1 ≤ s (7 + (3 + m)) 0) : ∀ i, i ≤ 4 → A (cM MX11_leaves 0 0 layT layT (rt (some (.int (nI (s (7 + (3 + m)) 0 - 1)))) (ur f 96 (flat (leavesA s (3 + m)) k)))) 29 [(5, .int (nI i)), (4, .int (nI (s (7 + (3 + m)) 0 - 1))), (0, .ref 93), (1, .int 33), (2, .int 36), (3, .int (nI m))] [] (ur f 96 (flat (shA s (3 + m) i) k)) := by
  refine up_ind 4 (fun i hi ih => ?_)
  refine A_iload dX11_leaves_29 0 rfl ?_
  refine A_iconst (v := 4) dX11_leaves_31 rfl ?_
  refine A_icmp_ge (tgt := 86) dX11_leaves_32 rfl (fun h32 => ?_) (fun h32 => ?_)
  · rw [show (4 : Int32) = nI 4 from rfl, nI_leI (by omega) (by omega)] at h32
    have e4 : i = 4 := by omega
    subst e4
    refine A_iload dX11_leaves_86 1 rfl ?_
    exact A_iret dX11_leaves_88 rfl (rti rfl (by rw [shA_4]))
  · rw [show (4 : Int32) = nI 4 from rfl, nI_leI (by omega) (by omega)] at h32
    refine A_aload_n dX11_leaves_35 rfl 2 rfl ?_
    refine A_getR (b := 96) dX11_leaves_36 fo_RX11_16 L93 rfl ?_
    refine A_iload_n dX11_leaves_39 rfl 4 rfl ?_
    refine A_iconst (v := 4) dX11_leaves_40 rfl ?_
    refine A_iload_n dX11_leaves_41 rfl 5 rfl ?_
    refine A_imul dX11_leaves_42 ?_
    refine A_iadd dX11_leaves_43 ?_
    refine A_iload dX11_leaves_44 0 rfl ?_
    refine A_iadd dX11_leaves_46 ?_
    refine A_iload dX11_leaves_47 0 rfl ?_
    refine A_aload_n dX11_leaves_49 rfl 2 rfl ?_
    refine A_getR (b := 96) dX11_leaves_50 fo_RX11_16 L93 rfl ?_
    refine A_iload_n dX11_leaves_53 rfl 3 rfl ?_
    refine A_iload_n dX11_leaves_54 rfl 5 rfl ?_
    refine A_iadd dX11_leaves_55 ?_
    refine A_iaload (33 + m) dX11_leaves_56 L96 (by simp only [lit, nI_add, pk_mul]) (by omega) (lb rfl) ?_
    refine A_topi (nI (s 5 (3 + m) - 1)) (by rw [sm_r f (shA s (3 + m) i) k (by omega) (f_6 m (by omega)), shA_5]) ?_
    refine A_icmp_ge (tgt := 78) dX11_leaves_57 rfl (fun h57 => ?_) (fun h57 => ?_)
    · rw [nI_leI (by omega) (by omega)] at h57
      refine A_iconst (v := 0) dX11_leaves_78 rfl ?_
      refine A_iastore (36 + 4 * m + i) dX11_leaves_79 L96 (by simp only [lit, nI_add, pk_mul]) (by omega) (lb rfl) ?_
      refine A_eq rfl rfl ((sm_u f (shA s (3 + m) i) k (0) (by rfl) (by omega) (f_10 m (by omega) i (by omega))).trans (by rw [shA_up s (3 + m) i (0) (by first | rw [if_pos (by omega)] | rw [if_neg (by omega)])])) ?_
      refine A_iinc (lv' := [(5, .int (nI (i + 1))), (4, .int (nI (s (7 + (3 + m)) 0 - 1))), (0, .ref 93), (1, .int 33), (2, .int 36), (3, .int (nI m))]) dX11_leaves_80 0 rfl (nI_add i 1) (lb rfl) rfl ?_
      refine A_goto (tgt := 29) dX11_leaves_83 rfl ?_
      exact ih (i + 1) (by omega) (by omega)
    · rw [nI_leI (by omega) (by omega)] at h57
      refine A_aload_n dX11_leaves_60 rfl 2 rfl ?_
      refine A_getR (b := 96) dX11_leaves_61 fo_RX11_16 L93 rfl ?_
      refine A_iload_n dX11_leaves_64 rfl 4 rfl ?_
      refine A_iconst (v := 4) dX11_leaves_65 rfl ?_
      refine A_iload_n dX11_leaves_66 rfl 5 rfl ?_
      refine A_imul dX11_leaves_67 ?_
      refine A_iadd dX11_leaves_68 ?_
      refine A_iload dX11_leaves_69 0 rfl ?_
      refine A_iadd dX11_leaves_71 ?_
      refine A_iconst (v := 1) dX11_leaves_72 rfl ?_
      refine A_iadd dX11_leaves_73 ?_
      refine A_iaload (36 + 4 * m + (i + 1)) dX11_leaves_74 L96 (by simp only [lit, nI_add, pk_mul, Nat.add_assoc]) (by omega) (lb rfl) ?_
      refine A_topi (nI (s (7 + (3 + m)) (i + 1))) (by rw [sm_r f (shA s (3 + m) i) k (by omega) (f_10 m (by omega) (i + 1) (by omega)), shA_hi s (by omega)]) ?_
      refine A_goto (tgt := 79) dX11_leaves_75 rfl ?_
      refine A_iastore (36 + 4 * m + i) dX11_leaves_79 L96 (by simp only [lit, nI_add, pk_mul]) (by omega) (lb rfl) ?_
      refine A_eq rfl rfl ((sm_u f (shA s (3 + m) i) k (s (7 + (3 + m)) (i + 1)) (by rfl) (by omega) (f_10 m (by omega) i (by omega))).trans (by rw [shA_up s (3 + m) i (s (7 + (3 + m)) (i + 1)) (by first | rw [if_pos (by omega)] | rw [if_neg (by omega)])])) ?_
      refine A_iinc (lv' := [(5, .int (nI (i + 1))), (4, .int (nI (s (7 + (3 + m)) 0 - 1))), (0, .ref 93), (1, .int 33), (2, .int 36), (3, .int (nI m))]) dX11_leaves_80 0 rfl (nI_add i 1) (lb rfl) rfl ?_
      refine A_goto (tgt := 29) dX11_leaves_83 rfl ?_
      exact ih (i + 1) (by omega) (by omega)
theorem c_leavesW (m : Nat) (f : Mem) (s : Sg) (k : Ro) (hm : m < 3) (hl : 1 ≤ s 5 (3 + m)) (hl4 : s 5 (3 + m) ≤ 4) (h1 : 1 ≤ s (7 + (3 + m)) 0) : C0 MX11_leaves [.ref 93, .int 33, .int 36, .int (nI m)] (ur f 96 (flat s k)) (rt (some (.int (nI (s (7 + (3 + m)) 0 - 1)))) (ur f 96 (flat (leavesA s (3 + m)) k))) := by
  refine Ct.of (lv := [(0, .ref 93), (1, .int 33), (2, .int 36), (3, .int (nI m))]) (by decide) (lb rfl) rfl ?_
  refine A_aload_n dX11_leaves_0 rfl 0 rfl ?_
  refine A_getR (b := 96) dX11_leaves_1 fo_RX11_16 L93 rfl ?_
  refine A_iload_n dX11_leaves_4 rfl 2 rfl ?_
  refine A_iconst (v := 4) dX11_leaves_5 rfl ?_
  refine A_iload_n dX11_leaves_6 rfl 3 rfl ?_
  refine A_imul dX11_leaves_7 ?_
  refine A_iadd dX11_leaves_8 ?_
  refine A_iaload (36 + 4 * m + 0) dX11_leaves_9 L96 (by simp only [lit, nI_add, pk_mul, Nat.add_zero]) (by omega) (lb rfl) ?_
  refine A_topi (nI (s (7 + (3 + m)) 0)) (by rw [sm_r f s k (by omega) (f_10 m (by omega) 0 (by omega))] <;> simp [s2, n70, n70', n71, n71', n72, n72', n73, n73', n74, n74', n75, n75']) ?_
  refine A_iconst (v := 1) dX11_leaves_10 rfl ?_
  refine A_isub dX11_leaves_11 ?_
  refine A_topi (nI (s (7 + (3 + m)) 0 - 1)) (pk_sub h1) ?_
  refine A_istore (lv' := [(4, .int (nI (s (7 + (3 + m)) 0 - 1))), (0, .ref 93), (1, .int 33), (2, .int 36), (3, .int (nI m))]) dX11_leaves_12 (lb rfl) rfl ?_
  refine A_aload_n dX11_leaves_14 rfl 1 rfl ?_
  refine A_getR (b := 96) dX11_leaves_15 fo_RX11_16 L93 rfl ?_
  refine A_iload_n dX11_leaves_18 rfl 2 rfl ?_
  refine A_iload_n dX11_leaves_19 rfl 4 rfl ?_
  refine A_iadd dX11_leaves_20 ?_
  refine A_dup2 dX11_leaves_21 rfl rfl ?_
  refine A_iaload (33 + m) dX11_leaves_22 L96 (by simp only [lit, nI_add, pk_mul]) (by omega) (lb rfl) ?_
  refine A_topi (nI (s 5 (3 + m))) (by rw [sm_r f s k (by omega) (f_6 m (by omega))] <;> simp [s2, n70, n70', n71, n71', n72, n72', n73, n73', n74, n74', n75, n75']) ?_
  refine A_iconst (v := 1) dX11_leaves_23 rfl ?_
  refine A_isub dX11_leaves_24 ?_
  refine A_topi (nI (s 5 (3 + m) - 1)) (pk_sub hl) ?_
  refine A_iastore (33 + m) dX11_leaves_25 L96 (by simp only [lit, nI_add, pk_mul]) (by omega) (lb rfl) ?_
  refine A_eq rfl rfl (sm_u f s k (s 5 (3 + m) - 1) (by simp only [lit, nI_add, pk_mul]) (by omega) (f_6 m (by omega))) ?_
  refine A_iconst (v := 0) dX11_leaves_26 rfl ?_
  refine A_istore (lv' := [(5, .int 0), (4, .int (nI (s (7 + (3 + m)) 0 - 1))), (0, .ref 93), (1, .int 33), (2, .int 36), (3, .int (nI m))]) dX11_leaves_27 (lb rfl) rfl ?_
  have h := l_leavesW m f s k hm hl hl4 h1 0 (by omega)
  rw [shA_0] at h
  exact h
