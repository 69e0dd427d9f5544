/-! whose turn it is; what a task is about to enter -/
def ixS (sch : Int32) (lat n i : Nat) : Nat := if sch = 1 then (lat + i) % n else if sch = 2 then n - 1 - i else i
def chF (g : Nat → Nat) (ix : Nat → Nat) : Nat → Nat → Int32
  | 0, _ => -1
  | m + 1, i => if g (ix i) = 0 then nI (ix i) else chF g ix m (i + 1)
theorem ix_lt {sch : Int32} {lat n i : Nat} (h : i < n) : ixS sch lat n i < n := by
  unfold ixS
  split
  · exact Nat.mod_lt _ (by omega)
  · split <;> omega
theorem ix_1 : ∀ l, l < 5 → ∀ n, n < 5 → ∀ i, i < 4 → i < n → (nI l - 1 + 1 + nI i) - (nI l - 1 + 1 + nI i) / nI n * nI n = nI ((l + i) % n) := by decide +kernel
theorem ix_2 : ∀ n, n < 5 → ∀ i, i < 4 → i < n → nI n - 1 - nI i = nI (n - 1 - i) := by decide +kernel
theorem n_ne0 : ∀ n, n < 5 → 0 < n → ¬ nI n = 0 := by decide +kernel
theorem lx_chosen (sch : Int32) (f : Mem) (d : Nat) (s : Sg) (k : Ro) (hd : isDesk d) {n l : Nat} (hn : f d 0 = nI n) (hn4 : n ≤ 4) (hl : f d 1 = nI l - 1) (hl4 : l ≤ 4) (h1s : ∀ t, t < 4 → s 1 t ≤ 4) : ∀ i, i ≤ n → chF (s 1) (ixS sch l n) n 0 = chF (s 1) (ixS sch l n) (n - i) i → ∀ y : Int32, A (cM MX1_chosenBy 0 0 layT layT (rt (some (.int (chF (s 1) (ixS sch l n) n 0))) (dM f d s k))) 2 [(2, .int (nI i)), (3, .int y), (0, .ref d), (1, .int sch)] [] (dM f d s k) := by
  refine up_ind n (fun i hi ih hc y => ?_)
  refine A_iload_n dX1_chosenBy_2 rfl 0 rfl ?_
  refine A_aload_n dX1_chosenBy_3 rfl 2 rfl ?_
  refine A_getI dX1_chosenBy_4 fo_RX1_9 (LD0 hd) rfl ?_
  refine A_topi (f d 0) (by rw [dM_o f d s k (by omega)] <;> simp [u2, ur, upd]) ?_
  refine A_topi (nI n) hn ?_
  refine A_icmp_ge (tgt := 65) dX1_chosenBy_7 rfl (fun h7 => ?_) (fun h7 => ?_)
  · rw [nI_leI (by omega) (by omega)] at h7
    have ei : n - i = 0 := by omega
    rw [ei] at hc
    refine A_iconst (v := -1) dX1_chosenBy_65 rfl ?_
    exact A_iret dX1_chosenBy_66 rfl (rti (by rw [hc, chF]) rfl)
  · rw [nI_leI (by omega) (by omega)] at h7
    have hin : i < n := by omega
    obtain ⟨m, em⟩ : ∃ m, n - i = m + 1 := ⟨n - i - 1, by omega⟩
    rw [em, chF] at hc
    refine A_iload_n dX1_chosenBy_10 rfl 0 rfl ?_
    refine A_istore_n (lv' := [(3, .int (nI i)), (2, .int (nI i)), (0, .ref d), (1, .int sch)]) dX1_chosenBy_11 rfl (lb rfl) rfl ?_
    refine A_iload_n dX1_chosenBy_12 rfl 3 rfl ?_
    refine A_iconst (v := 1) dX1_chosenBy_13 rfl ?_
    refine A_icmp_ne (tgt := 34) dX1_chosenBy_14 rfl (fun h14 => ?_) (fun h14 => ?_)
    · refine A_iload_n dX1_chosenBy_34 rfl 3 rfl ?_
      refine A_iconst (v := 2) dX1_chosenBy_35 rfl ?_
      refine A_icmp_ne (tgt := 48) dX1_chosenBy_36 rfl (fun h36 => ?_) (fun h36 => ?_)
      · have e3 : nI i = nI (ixS sch l n i) := by rw [ixS, if_neg h14, if_neg h36]
        refine A_eq (lv' := [(3, .int (nI (ixS sch l n i))), (2, .int (nI i)), (0, .ref d), (1, .int sch)]) (by rw [← e3]) rfl rfl ?_
        refine A_aload_n dX1_chosenBy_48 rfl 2 rfl ?_
        refine A_getR (b := d + 3) dX1_chosenBy_49 fo_RX1_28 (LD0 hd) rfl ?_
        refine A_iload_n dX1_chosenBy_52 rfl 0 rfl ?_
        refine A_iaload (ixS sch l n i) dX1_chosenBy_53 (LD3 hd) (rfl) (by have := ix_lt (sch := sch) (lat := l) hin; omega) (lb rfl) ?_
        refine A_topi (nI (s 1 (ixS sch l n i))) (dM_3 f d s k (by have := ix_lt (sch := sch) (lat := l) hin; omega)) ?_
        refine A_if_ne (tgt := 59) dX1_chosenBy_54 rfl (fun h54 => ?_) (fun h54 => ?_)
        · have hs4 := h1s (ixS sch l n i) (by have := ix_lt (sch := sch) (lat := l) hin; omega)
          rw [show (0 : Int32) = nI 0 from rfl, nI_eq (by omega) (by omega)] at h54
          refine A_iinc (lv' := [(2, .int (nI (i + 1))), (3, .int (nI (ixS sch l n i))), (0, .ref d), (1, .int sch)]) dX1_chosenBy_59 1 rfl (nI_add i 1) (lb rfl) rfl ?_
          refine A_goto (tgt := 2) dX1_chosenBy_62 rfl ?_
          exact ih (i + 1) (by omega) (by omega) (by rw [hc, if_neg h54, show n - (i + 1) = m by omega]) _
        · have hs4 := h1s (ixS sch l n i) (by have := ix_lt (sch := sch) (lat := l) hin; omega)
          rw [show (0 : Int32) = nI 0 from rfl, nI_eq (by omega) (by omega)] at h54
          refine A_iload_n dX1_chosenBy_57 rfl 0 rfl ?_
          exact A_iret dX1_chosenBy_58 rfl (rti (by rw [hc, if_pos h54]) rfl)
      · refine A_aload_n dX1_chosenBy_39 rfl 2 rfl ?_
        refine A_getI dX1_chosenBy_40 fo_RX1_9 (LD0 hd) rfl ?_
        refine A_topi (f d 0) (by rw [dM_o f d s k (by omega)] <;> simp [u2, ur, upd]) ?_
        refine A_topi (nI n) hn ?_
        refine A_iconst (v := 1) dX1_chosenBy_43 rfl ?_
        refine A_isub dX1_chosenBy_44 ?_
        refine A_iload_n dX1_chosenBy_45 rfl 1 rfl ?_
        refine A_isub dX1_chosenBy_46 ?_
        refine A_topi (nI (ixS sch l n i)) (by rw [ix_2 n (by omega) i (by omega) hin, ixS, if_neg h14, if_pos h36]) ?_
        refine A_istore_n (lv' := [(3, .int (nI (ixS sch l n i))), (2, .int (nI i)), (0, .ref d), (1, .int sch)]) dX1_chosenBy_47 rfl (lb rfl) rfl ?_
        refine A_aload_n dX1_chosenBy_48 rfl 2 rfl ?_
        refine A_getR (b := d + 3) dX1_chosenBy_49 fo_RX1_28 (LD0 hd) rfl ?_
        refine A_iload_n dX1_chosenBy_52 rfl 0 rfl ?_
        refine A_iaload (ixS sch l n i) dX1_chosenBy_53 (LD3 hd) (rfl) (by have := ix_lt (sch := sch) (lat := l) hin; omega) (lb rfl) ?_
        refine A_topi (nI (s 1 (ixS sch l n i))) (dM_3 f d s k (by have := ix_lt (sch := sch) (lat := l) hin; omega)) ?_
        refine A_if_ne (tgt := 59) dX1_chosenBy_54 rfl (fun h54 => ?_) (fun h54 => ?_)
        · have hs4 := h1s (ixS sch l n i) (by have := ix_lt (sch := sch) (lat := l) hin; omega)
          rw [show (0 : Int32) = nI 0 from rfl, nI_eq (by omega) (by omega)] at h54
          refine A_iinc (lv' := [(2, .int (nI (i + 1))), (3, .int (nI (ixS sch l n i))), (0, .ref d), (1, .int sch)]) dX1_chosenBy_59 1 rfl (nI_add i 1) (lb rfl) rfl ?_
          refine A_goto (tgt := 2) dX1_chosenBy_62 rfl ?_
          exact ih (i + 1) (by omega) (by omega) (by rw [hc, if_neg h54, show n - (i + 1) = m by omega]) _
        · have hs4 := h1s (ixS sch l n i) (by have := ix_lt (sch := sch) (lat := l) hin; omega)
          rw [show (0 : Int32) = nI 0 from rfl, nI_eq (by omega) (by omega)] at h54
          refine A_iload_n dX1_chosenBy_57 rfl 0 rfl ?_
          exact A_iret dX1_chosenBy_58 rfl (rti (by rw [hc, if_pos h54]) rfl)
    · refine A_aload_n dX1_chosenBy_17 rfl 2 rfl ?_
      refine A_getI dX1_chosenBy_18 fo_RX1_15 (LD0 hd) rfl ?_
      refine A_topi (f d 1) (by rw [dM_o f d s k (by omega)] <;> simp [u2, ur, upd]) ?_
      refine A_topi (nI l - 1) hl ?_
      refine A_iconst (v := 1) dX1_chosenBy_21 rfl ?_
      refine A_iadd dX1_chosenBy_22 ?_
      refine A_iload_n dX1_chosenBy_23 rfl 1 rfl ?_
      refine A_iadd dX1_chosenBy_24 ?_
      refine A_aload_n dX1_chosenBy_25 rfl 2 rfl ?_
      refine A_getI dX1_chosenBy_26 fo_RX1_9 (LD0 hd) rfl ?_
      refine A_topi (f d 0) (by rw [dM_o f d s k (by omega)] <;> simp [u2, ur, upd]) ?_
      refine A_topi (nI n) hn ?_
      refine A_irem dX1_chosenBy_29 (n_ne0 n (by omega) (by omega)) ?_
      refine A_topi (nI (ixS sch l n i)) (by rw [ix_1 l (by omega) n (by omega) i (by omega) hin, ixS, if_pos h14]) ?_
      refine A_istore_n (lv' := [(3, .int (nI (ixS sch l n i))), (2, .int (nI i)), (0, .ref d), (1, .int sch)]) dX1_chosenBy_30 rfl (lb rfl) rfl ?_
      refine A_goto (tgt := 48) dX1_chosenBy_31 rfl ?_
      refine A_aload_n dX1_chosenBy_48 rfl 2 rfl ?_
      refine A_getR (b := d + 3) dX1_chosenBy_49 fo_RX1_28 (LD0 hd) rfl ?_
      refine A_iload_n dX1_chosenBy_52 rfl 0 rfl ?_
      refine A_iaload (ixS sch l n i) dX1_chosenBy_53 (LD3 hd) (rfl) (by have := ix_lt (sch := sch) (lat := l) hin; omega) (lb rfl) ?_
      refine A_topi (nI (s 1 (ixS sch l n i))) (dM_3 f d s k (by have := ix_lt (sch := sch) (lat := l) hin; omega)) ?_
      refine A_if_ne (tgt := 59) dX1_chosenBy_54 rfl (fun h54 => ?_) (fun h54 => ?_)
      · have hs4 := h1s (ixS sch l n i) (by have := ix_lt (sch := sch) (lat := l) hin; omega)
        rw [show (0 : Int32) = nI 0 from rfl, nI_eq (by omega) (by omega)] at h54
        refine A_iinc (lv' := [(2, .int (nI (i + 1))), (3, .int (nI (ixS sch l n i))), (0, .ref d), (1, .int sch)]) dX1_chosenBy_59 1 rfl (nI_add i 1) (lb rfl) rfl ?_
        refine A_goto (tgt := 2) dX1_chosenBy_62 rfl ?_
        exact ih (i + 1) (by omega) (by omega) (by rw [hc, if_neg h54, show n - (i + 1) = m by omega]) _
      · have hs4 := h1s (ixS sch l n i) (by have := ix_lt (sch := sch) (lat := l) hin; omega)
        rw [show (0 : Int32) = nI 0 from rfl, nI_eq (by omega) (by omega)] at h54
        refine A_iload_n dX1_chosenBy_57 rfl 0 rfl ?_
        exact A_iret dX1_chosenBy_58 rfl (rti (by rw [hc, if_pos h54]) rfl)
theorem lx_chosen0 (sch : Int32) (f : Mem) (d : Nat) (s : Sg) (k : Ro) (hd : isDesk d) {n l : Nat} (hn : f d 0 = nI n) (hn4 : n ≤ 4) (hl : f d 1 = nI l - 1) (hl4 : l ≤ 4) (h1s : ∀ t, t < 4 → s 1 t ≤ 4) : A (cM MX1_chosenBy 0 0 layT layT (rt (some (.int (chF (s 1) (ixS sch l n) n 0))) (dM f d s k))) 2 [(2, .int (nI 0)), (0, .ref d), (1, .int sch)] [] (dM f d s k) := by
  obtain ⟨i, ei0⟩ : ∃ i : Nat, i = 0 := ⟨0, rfl⟩
  have hi : i ≤ n := by omega
  have hc : chF (s 1) (ixS sch l n) n 0 = chF (s 1) (ixS sch l n) (n - i) i := by rw [ei0]; rfl
  refine A_eq (lv' := [(2, .int (nI i)), (0, .ref d), (1, .int sch)]) (by rw [ei0]) rfl rfl ?_
  refine A_iload_n dX1_chosenBy_2 rfl 0 rfl ?_
  refine A_aload_n dX1_chosenBy_3 rfl 1 rfl ?_
  refine A_getI dX1_chosenBy_4 fo_RX1_9 (LD0 hd) rfl ?_
  refine A_topi (f d 0) (by rw [dM_o f d s k (by omega)] <;> simp [u2, ur, upd]) ?_
  refine A_topi (nI n) hn ?_
  refine A_icmp_ge (tgt := 65) dX1_chosenBy_7 rfl (fun h7 => ?_) (fun h7 => ?_)
  · rw [nI_leI (by omega) (by omega)] at h7
    have ei : n - i = 0 := by omega
    rw [ei] at hc
    refine A_iconst (v := -1) dX1_chosenBy_65 rfl ?_
    exact A_iret dX1_chosenBy_66 rfl (rti (by rw [hc, chF]) rfl)
  · rw [nI_leI (by omega) (by omega)] at h7
    have hin : i < n := by omega
    obtain ⟨m, em⟩ : ∃ m, n - i = m + 1 := ⟨n - i - 1, by omega⟩
    rw [em, chF] at hc
    refine A_iload_n dX1_chosenBy_10 rfl 0 rfl ?_
    refine A_istore_n (lv' := [(3, .int (nI i)), (2, .int (nI i)), (0, .ref d), (1, .int sch)]) dX1_chosenBy_11 rfl (lb rfl) rfl ?_
    refine A_iload_n dX1_chosenBy_12 rfl 3 rfl ?_
    refine A_iconst (v := 1) dX1_chosenBy_13 rfl ?_
    refine A_icmp_ne (tgt := 34) dX1_chosenBy_14 rfl (fun h14 => ?_) (fun h14 => ?_)
    · refine A_iload_n dX1_chosenBy_34 rfl 3 rfl ?_
      refine A_iconst (v := 2) dX1_chosenBy_35 rfl ?_
      refine A_icmp_ne (tgt := 48) dX1_chosenBy_36 rfl (fun h36 => ?_) (fun h36 => ?_)
      · have e3 : nI i = nI (ixS sch l n i) := by rw [ixS, if_neg h14, if_neg h36]
        refine A_eq (lv' := [(3, .int (nI (ixS sch l n i))), (2, .int (nI i)), (0, .ref d), (1, .int sch)]) (by rw [← e3]) rfl rfl ?_
        refine A_aload_n dX1_chosenBy_48 rfl 2 rfl ?_
        refine A_getR (b := d + 3) dX1_chosenBy_49 fo_RX1_28 (LD0 hd) rfl ?_
        refine A_iload_n dX1_chosenBy_52 rfl 0 rfl ?_
        refine A_iaload (ixS sch l n i) dX1_chosenBy_53 (LD3 hd) (rfl) (by have := ix_lt (sch := sch) (lat := l) hin; omega) (lb rfl) ?_
        refine A_topi (nI (s 1 (ixS sch l n i))) (dM_3 f d s k (by have := ix_lt (sch := sch) (lat := l) hin; omega)) ?_
        refine A_if_ne (tgt := 59) dX1_chosenBy_54 rfl (fun h54 => ?_) (fun h54 => ?_)
        · have hs4 := h1s (ixS sch l n i) (by have := ix_lt (sch := sch) (lat := l) hin; omega)
          rw [show (0 : Int32) = nI 0 from rfl, nI_eq (by omega) (by omega)] at h54
          refine A_iinc (lv' := [(2, .int (nI (i + 1))), (3, .int (nI (ixS sch l n i))), (0, .ref d), (1, .int sch)]) dX1_chosenBy_59 1 rfl (nI_add i 1) (lb rfl) rfl ?_
          refine A_goto (tgt := 2) dX1_chosenBy_62 rfl ?_
          exact lx_chosen sch f d s k hd hn hn4 hl hl4 h1s (i + 1) (by omega) (by rw [hc, if_neg h54, show n - (i + 1) = m by omega]) _
        · have hs4 := h1s (ixS sch l n i) (by have := ix_lt (sch := sch) (lat := l) hin; omega)
          rw [show (0 : Int32) = nI 0 from rfl, nI_eq (by omega) (by omega)] at h54
          refine A_iload_n dX1_chosenBy_57 rfl 0 rfl ?_
          exact A_iret dX1_chosenBy_58 rfl (rti (by rw [hc, if_pos h54]) rfl)
      · refine A_aload_n dX1_chosenBy_39 rfl 2 rfl ?_
        refine A_getI dX1_chosenBy_40 fo_RX1_9 (LD0 hd) rfl ?_
        refine A_topi (f d 0) (by rw [dM_o f d s k (by omega)] <;> simp [u2, ur, upd]) ?_
        refine A_topi (nI n) hn ?_
        refine A_iconst (v := 1) dX1_chosenBy_43 rfl ?_
        refine A_isub dX1_chosenBy_44 ?_
        refine A_iload_n dX1_chosenBy_45 rfl 1 rfl ?_
        refine A_isub dX1_chosenBy_46 ?_
        refine A_topi (nI (ixS sch l n i)) (by rw [ix_2 n (by omega) i (by omega) hin, ixS, if_neg h14, if_pos h36]) ?_
        refine A_istore_n (lv' := [(3, .int (nI (ixS sch l n i))), (2, .int (nI i)), (0, .ref d), (1, .int sch)]) dX1_chosenBy_47 rfl (lb rfl) rfl ?_
        refine A_aload_n dX1_chosenBy_48 rfl 2 rfl ?_
        refine A_getR (b := d + 3) dX1_chosenBy_49 fo_RX1_28 (LD0 hd) rfl ?_
        refine A_iload_n dX1_chosenBy_52 rfl 0 rfl ?_
        refine A_iaload (ixS sch l n i) dX1_chosenBy_53 (LD3 hd) (rfl) (by have := ix_lt (sch := sch) (lat := l) hin; omega) (lb rfl) ?_
        refine A_topi (nI (s 1 (ixS sch l n i))) (dM_3 f d s k (by have := ix_lt (sch := sch) (lat := l) hin; omega)) ?_
        refine A_if_ne (tgt := 59) dX1_chosenBy_54 rfl (fun h54 => ?_) (fun h54 => ?_)
        · have hs4 := h1s (ixS sch l n i) (by have := ix_lt (sch := sch) (lat := l) hin; omega)
          rw [show (0 : Int32) = nI 0 from rfl, nI_eq (by omega) (by omega)] at h54
          refine A_iinc (lv' := [(2, .int (nI (i + 1))), (3, .int (nI (ixS sch l n i))), (0, .ref d), (1, .int sch)]) dX1_chosenBy_59 1 rfl (nI_add i 1) (lb rfl) rfl ?_
          refine A_goto (tgt := 2) dX1_chosenBy_62 rfl ?_
          exact lx_chosen sch f d s k hd hn hn4 hl hl4 h1s (i + 1) (by omega) (by rw [hc, if_neg h54, show n - (i + 1) = m by omega]) _
        · have hs4 := h1s (ixS sch l n i) (by have := ix_lt (sch := sch) (lat := l) hin; omega)
          rw [show (0 : Int32) = nI 0 from rfl, nI_eq (by omega) (by omega)] at h54
          refine A_iload_n dX1_chosenBy_57 rfl 0 rfl ?_
          exact A_iret dX1_chosenBy_58 rfl (rti (by rw [hc, if_pos h54]) rfl)
    · refine A_aload_n dX1_chosenBy_17 rfl 2 rfl ?_
      refine A_getI dX1_chosenBy_18 fo_RX1_15 (LD0 hd) rfl ?_
      refine A_topi (f d 1) (by rw [dM_o f d s k (by omega)] <;> simp [u2, ur, upd]) ?_
      refine A_topi (nI l - 1) hl ?_
      refine A_iconst (v := 1) dX1_chosenBy_21 rfl ?_
      refine A_iadd dX1_chosenBy_22 ?_
      refine A_iload_n dX1_chosenBy_23 rfl 1 rfl ?_
      refine A_iadd dX1_chosenBy_24 ?_
      refine A_aload_n dX1_chosenBy_25 rfl 2 rfl ?_
      refine A_getI dX1_chosenBy_26 fo_RX1_9 (LD0 hd) rfl ?_
      refine A_topi (f d 0) (by rw [dM_o f d s k (by omega)] <;> simp [u2, ur, upd]) ?_
      refine A_topi (nI n) hn ?_
      refine A_irem dX1_chosenBy_29 (n_ne0 n (by omega) (by omega)) ?_
      refine A_topi (nI (ixS sch l n i)) (by rw [ix_1 l (by omega) n (by omega) i (by omega) hin, ixS, if_pos h14]) ?_
      refine A_istore_n (lv' := [(3, .int (nI (ixS sch l n i))), (2, .int (nI i)), (0, .ref d), (1, .int sch)]) dX1_chosenBy_30 rfl (lb rfl) rfl ?_
      refine A_goto (tgt := 48) dX1_chosenBy_31 rfl ?_
      refine A_aload_n dX1_chosenBy_48 rfl 2 rfl ?_
      refine A_getR (b := d + 3) dX1_chosenBy_49 fo_RX1_28 (LD0 hd) rfl ?_
      refine A_iload_n dX1_chosenBy_52 rfl 0 rfl ?_
      refine A_iaload (ixS sch l n i) dX1_chosenBy_53 (LD3 hd) (rfl) (by have := ix_lt (sch := sch) (lat := l) hin; omega) (lb rfl) ?_
      refine A_topi (nI (s 1 (ixS sch l n i))) (dM_3 f d s k (by have := ix_lt (sch := sch) (lat := l) hin; omega)) ?_
      refine A_if_ne (tgt := 59) dX1_chosenBy_54 rfl (fun h54 => ?_) (fun h54 => ?_)
      · have hs4 := h1s (ixS sch l n i) (by have := ix_lt (sch := sch) (lat := l) hin; omega)
        rw [show (0 : Int32) = nI 0 from rfl, nI_eq (by omega) (by omega)] at h54
        refine A_iinc (lv' := [(2, .int (nI (i + 1))), (3, .int (nI (ixS sch l n i))), (0, .ref d), (1, .int sch)]) dX1_chosenBy_59 1 rfl (nI_add i 1) (lb rfl) rfl ?_
        refine A_goto (tgt := 2) dX1_chosenBy_62 rfl ?_
        exact lx_chosen sch f d s k hd hn hn4 hl hl4 h1s (i + 1) (by omega) (by rw [hc, if_neg h54, show n - (i + 1) = m by omega]) _
      · have hs4 := h1s (ixS sch l n i) (by have := ix_lt (sch := sch) (lat := l) hin; omega)
        rw [show (0 : Int32) = nI 0 from rfl, nI_eq (by omega) (by omega)] at h54
        refine A_iload_n dX1_chosenBy_57 rfl 0 rfl ?_
        exact A_iret dX1_chosenBy_58 rfl (rti (by rw [hc, if_pos h54]) rfl)
theorem x_chosenBy (sch : Int32) (f : Mem) (d : Nat) (s : Sg) (k : Ro) (hd : isDesk d) {n l : Nat} (hn : f d 0 = nI n) (hn4 : n ≤ 4) (hl : f d 1 = nI l - 1) (hl4 : l ≤ 4) (h1s : ∀ t, t < 4 → s 1 t ≤ 4) : C0 MX1_chosenBy [.ref d, .int sch] (dM f d s k) (rt (some (.int (chF (s 1) (ixS sch l n) n 0))) (dM f d s k)) := by
  refine Ct.of (lv := [(0, .ref d), (1, .int sch)]) (by decide) (lb rfl) rfl ?_
  refine A_iconst (v := 0) dX1_chosenBy_0 rfl ?_
  refine A_istore_n (lv' := [(2, .int 0), (0, .ref d), (1, .int sch)]) dX1_chosenBy_1 rfl (lb rfl) rfl ?_
  exact lx_chosen0 sch f d s k hd hn hn4 hl hl4 h1s
def abA (s : Sg) (p : Ro) (t : Nat) : Int32 := if s 1 t = 0 ∧ s 0 t < s 16 t ∧ pS p t (s 0 t) = 0 ∧ s 14 (pO p t (s 0 t)) = 0 ∧ ¬ s 3 (pO p t (s 0 t)) = t + 1 then nI (pO p t (s 0 t)) else -1
theorem x_aboutToEnter (t : Nat) (f : Mem) (d : Nat) (s : Sg) (k : Ro) (hd : isDesk d) (p : Ro) (ht : t < 4) (hp : wfP s p) (h14 : wf14 s) (h1s : ∀ t, t < 4 → s 1 t ≤ 4) (hM : wfM s) (hs : dS f d s p) : C0 MX1_aboutToEnter [.ref d, .int (nI t)] (dM f d s k) (rt (some (.int (abA s p t))) (dM f d s k)) := by
  obtain ⟨h12, hle, hok⟩ := hp t ht
  have hpg := hd.prog ht
  have hpart : (if inR (nI (s 0 t)) (s 16 t) ∧ inR 0 4 then dM f d s k (d + 13 + 2 * t + 1) (4 * (nI (s 0 t)).toNatClampNeg + (0 : Int32).toNatClampNeg) else (-100 : Int32)) = if s 0 t < s 16 t then nI (pS p t (s 0 t)) else -100 := by
    by_cases z : s 0 t < s 16 t
    · rw [if_pos ⟨(inR_nI (by omega)).mpr z, by decide⟩, if_pos z, dM_o _ _ _ _ (by omega), nI_clamp (by omega)]
      exact (hs.2.2.2 t ht (4 * s 0 t + 0) (by omega)).trans (hok _ z).1
    · rw [if_neg (fun q => z ((inR_nI (by omega)).mp q.1)), if_neg z]
  refine Ct.of (lv := [(0, .ref d), (1, .int (nI t))]) (by decide) (lb rfl) rfl ?_
  refine A_aload_n dX1_aboutToEnter_0 rfl 0 rfl ?_
  refine A_getR (b := d + 2) dX1_aboutToEnter_1 fo_RX1_24 (LD0 hd) rfl ?_
  refine A_iload_n dX1_aboutToEnter_4 rfl 1 rfl ?_
  refine A_iaload t dX1_aboutToEnter_5 (LD2 hd) (rfl) (by omega) (lb rfl) ?_
  refine A_topi (nI (s 0 t)) (by rw [dM_2 f d s k (by omega)] <;> simp [s2, n70, n70', n71, n71', n72, n72', n73, n73', n74, n74', n75, n75']) ?_
  refine A_istore_n (lv' := [(2, .int (nI (s 0 t))), (0, .ref d), (1, .int (nI t))]) dX1_aboutToEnter_6 rfl (lb rfl) rfl ?_
  refine A_aload_n dX1_aboutToEnter_7 rfl 1 rfl ?_
  refine A_getR (b := d + 3) dX1_aboutToEnter_8 fo_RX1_28 (LD0 hd) rfl ?_
  refine A_iload_n dX1_aboutToEnter_11 rfl 2 rfl ?_
  refine A_iaload t dX1_aboutToEnter_12 (LD3 hd) (rfl) (by omega) (lb rfl) ?_
  refine A_topi (nI (s 1 t)) (by rw [dM_3 f d s k (by omega)] <;> simp [s2, n70, n70', n71, n71', n72, n72', n73, n73', n74, n74', n75, n75']) ?_
  refine A_if_ne (tgt := 30) dX1_aboutToEnter_13 rfl (fun h13 => ?_) (fun h13 => ?_)
  · have hs4 := h1s t ht
    rw [show (0 : Int32) = nI 0 from rfl, nI_eq (by omega) (by omega)] at h13
    refine A_iconst (v := -1) dX1_aboutToEnter_30 rfl ?_
    exact A_iret dX1_aboutToEnter_31 rfl (rti (by rw [abA, if_neg (fun z => by first | exact h13 z.1 | (rw [if_pos z.2.1, z.2.2.1] at h27; exact h27 rfl))]) rfl)
  · have hs4 := h1s t ht
    rw [show (0 : Int32) = nI 0 from rfl, nI_eq (by omega) (by omega)] at h13
    refine A_aload_n dX1_aboutToEnter_16 rfl 1 rfl ?_
    refine A_getR (b := d + 1) dX1_aboutToEnter_17 fo_RX1_20 (LD0 hd) rfl ?_
    refine A_iload_n dX1_aboutToEnter_20 rfl 2 rfl ?_
    refine A_aaload2 (b := d + 13 + 2 * t) t dX1_aboutToEnter_21 (LD1 hd) (rfl) (by omega) (lb rfl) (hpg.2) ?_
    refine A_iload_n dX1_aboutToEnter_22 rfl 0 rfl ?_
    refine A_iconst (v := 0) dX1_aboutToEnter_23 rfl ?_
    refine A_callV (M' := MX3_part) [.int (nI (s 0 t)), .int 0] [] (d + 13 + 2 * t) dX1_aboutToEnter_24 lk_RX1_86 oX3_part iX3_part rfl rfl ⟨lb rfl, lb rfl⟩ (lb rfl) ⟨lb rfl, lb rfl⟩ hpg.1.1 rfl (x_part (d + 13 + 2 * t) (nI (s 0 t)) 0 _ hpg.1 (by rw [dM_o _ _ _ _ (by omega)]; exact hs.2.2.1 t ht) h12) ?_
    rintro _ _ ⟨rfl, rfl⟩
    refine A_topi (if s 0 t < s 16 t then nI (pS p t (s 0 t)) else -100) (hpart) ?_
    refine A_if_eq (tgt := 32) dX1_aboutToEnter_27 rfl (fun h27 => ?_) (fun h27 => ?_)
    · have hlt : s 0 t < s 16 t := by
        by_cases z : s 0 t < s 16 t
        · exact z
        · rw [if_neg z] at h27; exact absurd h27 (by decide)
      rw [if_pos hlt] at h27
      have ok := hok (s 0 t) hlt
      have hS9 := ok.2.1
      rw [show (0 : Int32) = nI 0 from rfl, nI_eq (by omega) (by omega)] at h27
      have h3 := ok.2.2.2.1 (by omega)
      have e1 : f (d + 13 + 2 * t + 1) (4 * s 0 t + 1) = nI (pO p t (s 0 t)) := (hs.2.2.2 t ht (4 * s 0 t + 1) (by omega)).trans ok.2.2.1
      refine A_aload_n dX1_aboutToEnter_32 rfl 1 rfl ?_
      refine A_getR (b := d + 1) dX1_aboutToEnter_33 fo_RX1_20 (LD0 hd) rfl ?_
      refine A_iload_n dX1_aboutToEnter_36 rfl 2 rfl ?_
      refine A_aaload2 (b := d + 13 + 2 * t) t dX1_aboutToEnter_37 (LD1 hd) (rfl) (by omega) (lb rfl) (hpg.2) ?_
      refine A_iload_n dX1_aboutToEnter_38 rfl 0 rfl ?_
      refine A_iconst (v := 1) dX1_aboutToEnter_39 rfl ?_
      refine A_callV (M' := MX3_part) [.int (nI (s 0 t)), .int 1] [] (d + 13 + 2 * t) dX1_aboutToEnter_40 lk_RX1_86 oX3_part iX3_part rfl rfl ⟨lb rfl, lb rfl⟩ (lb rfl) ⟨lb rfl, lb rfl⟩ hpg.1.1 rfl (x_partIn (d + 13 + 2 * t) (s 0 t) 1 _ hpg.1 (by rw [dM_o _ _ _ _ (by omega)]; exact hs.2.2.1 t ht) h12 hlt (by omega)) ?_
      rintro _ _ ⟨rfl, rfl⟩
      refine A_topi (nI (pO p t (s 0 t))) (by rw [dM_o _ _ _ _ (by omega)]; exact e1) ?_
      refine A_istore_n (lv' := [(3, .int (nI (pO p t (s 0 t)))), (2, .int (nI (s 0 t))), (0, .ref d), (1, .int (nI t))]) dX1_aboutToEnter_43 rfl (lb rfl) rfl ?_
      refine A_iload_n dX1_aboutToEnter_44 rfl 0 rfl ?_
      refine A_callSN (M' := MX10_isMonitor) [.int (nI (pO p t (s 0 t)))] [] dX1_aboutToEnter_45 lk_RX1_98 oX10_isMonitor sX10_isMonitor rfl rfl ⟨lb rfl, lb rfl⟩ (lb rfl) ⟨lb rfl, lb rfl⟩ (x_isMonitor (nI (pO p t (s 0 t))) _) ?_
      rintro _ _ ⟨rfl, rfl⟩
      refine A_if_eq (tgt := 74) dX1_aboutToEnter_48 rfl (fun h48 => by exact absurd ((inR_nI (by omega)).mpr h3) (bz_0.mp h48)) (fun h48 => ?_)
      refine A_aload_n dX1_aboutToEnter_51 rfl 2 rfl ?_
      refine A_getR (b := d + 7) dX1_aboutToEnter_52 fo_RX1_40 (LD0 hd) rfl ?_
      refine A_iload_n dX1_aboutToEnter_55 rfl 0 rfl ?_
      refine A_zaload (pO p t (s 0 t)) dX1_aboutToEnter_56 (LD7 hd) (rfl) (h3) (lb rfl) ?_
      refine A_topi (nI (s 14 (pO p t (s 0 t)))) (by rw [dM_o _ _ _ _ (by omega)]; exact hs.2.1 _ h3) ?_
      refine A_if_ne (tgt := 74) dX1_aboutToEnter_57 rfl (fun h57 => ?_) (fun h57 => ?_)
      · have hs14 := h14 _ h3
        rw [show (0 : Int32) = nI 0 from rfl, nI_eq (by omega) (by omega)] at h57
        refine A_iconst (v := -1) dX1_aboutToEnter_74 rfl ?_
        exact A_iret dX1_aboutToEnter_75 rfl (rti (by rw [abA, if_neg (by omega)]) rfl)
      · have hs14 := h14 _ h3
        rw [show (0 : Int32) = nI 0 from rfl, nI_eq (by omega) (by omega)] at h57
        refine A_aload_n dX1_aboutToEnter_60 rfl 2 rfl ?_
        refine A_getR (b := d + 8) dX1_aboutToEnter_61 fo_RX1_44 (LD0 hd) rfl ?_
        refine A_iload_n dX1_aboutToEnter_64 rfl 0 rfl ?_
        refine A_iaload (pO p t (s 0 t)) dX1_aboutToEnter_65 (LD8 hd) (rfl) (h3) (lb rfl) ?_
        refine A_topi (nI (s 3 (pO p t (s 0 t))) - 1) (dM_8 f d s k h3) ?_
        refine A_iload_n dX1_aboutToEnter_66 rfl 3 rfl ?_
        refine A_icmp_eq (tgt := 74) dX1_aboutToEnter_67 rfl (fun h67 => ?_) (fun h67 => ?_)
        · rw [ow_t (hM _ h3).1 ht] at h67
          refine A_iconst (v := -1) dX1_aboutToEnter_74 rfl ?_
          exact A_iret dX1_aboutToEnter_75 rfl (rti (by rw [abA, if_neg (by omega)]) rfl)
        · rw [ow_t (hM _ h3).1 ht] at h67
          refine A_iload_n dX1_aboutToEnter_70 rfl 0 rfl ?_
          refine A_goto (tgt := 75) dX1_aboutToEnter_71 rfl ?_
          exact A_iret dX1_aboutToEnter_75 rfl (rti (by rw [abA, if_pos ⟨h13, hlt, h27, h57, h67⟩]) rfl)
    · refine A_iconst (v := -1) dX1_aboutToEnter_30 rfl ?_
      exact A_iret dX1_aboutToEnter_31 rfl (rti (by rw [abA, if_neg (fun z => by first | exact h13 z.1 | (rw [if_pos z.2.1, z.2.2.1] at h27; exact h27 rfl))]) rfl)
