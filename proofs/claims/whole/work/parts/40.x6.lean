/-! what is asked of a desk -/
def areI (g : Nat → Nat) (x : Int32) : Nat → Int32
  | 0 => 0
  | n + 1 => if nI (g n) = x then areI g x n ||| ((1 : Int32) <<< (nI n &&& 31)) else areI g x n
def ownI (g : Nat → Nat) (t : Nat) : Nat → Int32
  | 0 => 0
  | n + 1 => if g n = t + 1 then ownI g t n ||| ((1 : Int32) <<< (nI n &&& 31)) else ownI g t n
abbrev stickP (s : Sg) (n : Nat) : Prop := areI (s 1) 0 n = 0 ∧ ¬ areI (s 1) 1 n ||| areI (s 1) 2 n = 0
abbrev overP (s : Sg) (n : Nat) : Prop := 0 < n ∧ (areI (s 1) 0 n ||| areI (s 1) 1 n) ||| areI (s 1) 2 n = 0
abbrev hasR (s : Sg) (r t : Nat) : Prop := s (7 + r) 0 = t + 1 ∨ s (7 + r) 1 = t + 1 ∨ s (7 + r) 2 = t + 1 ∨ s (7 + r) 3 = t + 1
/-- the monitor in whose rows a task stands, the first of them -/
def whA (s : Sg) (t : Nat) : Int32 := if hasR s 0 t ∨ hasR s 3 t then 0 else if hasR s 1 t ∨ hasR s 4 t then 1 else if hasR s 2 t ∨ hasR s 5 t then 2 else -5
theorem lx_are (x : Int32) (f : Mem) (d : Nat) (s : Sg) (k : Ro) (hd : isDesk d) {n : Nat} (hn : f d 0 = nI n) (hn4 : n ≤ 4) : ∀ i, i ≤ n → A (cM MX1_allThatAre 0 0 layT layT (rt (some (.int (areI (s 1) x n))) (dM f d s k))) 4 [(3, .int (nI i)), (2, .int (areI (s 1) x i)), (0, .ref d), (1, .int x)] [] (dM f d s k) := by
  refine up_ind n (fun i hi ih => ?_)
  refine A_iload_n dX1_allThatAre_4 rfl 0 rfl ?_
  refine A_aload_n dX1_allThatAre_5 rfl 2 rfl ?_
  refine A_getI dX1_allThatAre_6 fo_RX1_9 (LD0 hd) rfl ?_
  refine A_topi (f d 0) (by rw [dM_o f d s k (by omega)] <;> simp [u2, ur, upd]) ?_
  refine A_topi (nI n) hn ?_
  refine A_icmp_ge (tgt := 34) dX1_allThatAre_9 rfl (fun h9 => ?_) (fun h9 => ?_)
  · rw [nI_leI (by omega) (by omega)] at h9
    have ei : i = n := by omega
    refine A_iload_n dX1_allThatAre_34 rfl 1 rfl ?_
    exact A_iret dX1_allThatAre_35 rfl (rti (by rw [ei]) rfl)
  · rw [nI_leI (by omega) (by omega)] at h9
    refine A_aload_n dX1_allThatAre_12 rfl 2 rfl ?_
    refine A_getR (b := d + 3) dX1_allThatAre_13 fo_RX1_28 (LD0 hd) rfl ?_
    refine A_iload_n dX1_allThatAre_16 rfl 0 rfl ?_
    refine A_iaload i dX1_allThatAre_17 (LD3 hd) (rfl) (by omega) (lb rfl) ?_
    refine A_topi (nI (s 1 i)) (by rw [dM_3 f d s k (by omega)] <;> simp [s2, n70, n70', n71, n71', n72, n72', n73, n73', n74, n74', n75, n75']) ?_
    refine A_iload_n dX1_allThatAre_18 rfl 3 rfl ?_
    refine A_icmp_ne (tgt := 28) dX1_allThatAre_19 rfl (fun h19 => ?_) (fun h19 => ?_)
    · refine A_iinc (lv' := [(3, .int (nI (i + 1))), (2, .int (areI (s 1) x i)), (0, .ref d), (1, .int x)]) dX1_allThatAre_28 0 rfl (nI_add i 1) (lb rfl) rfl ?_
      refine A_goto (tgt := 4) dX1_allThatAre_31 rfl ?_
      have e := ih (i + 1) (by omega) (by omega)
      rw [areI, if_neg h19] at e
      exact e
    · refine A_iload_n dX1_allThatAre_22 rfl 1 rfl ?_
      refine A_iconst (v := 1) dX1_allThatAre_23 rfl ?_
      refine A_iload_n dX1_allThatAre_24 rfl 0 rfl ?_
      refine A_ishl dX1_allThatAre_25 ?_
      refine A_ior dX1_allThatAre_26 ?_
      refine A_istore_n (lv' := [(2, .int ((areI (s 1) x i) ||| (1 <<< ((nI i) &&& 31)))), (3, .int (nI i)), (0, .ref d), (1, .int x)]) dX1_allThatAre_27 rfl (lb rfl) rfl ?_
      refine A_iinc (lv' := [(3, .int (nI (i + 1))), (2, .int ((areI (s 1) x i) ||| (1 <<< ((nI i) &&& 31)))), (0, .ref d), (1, .int x)]) dX1_allThatAre_28 1 rfl (nI_add i 1) (lb rfl) rfl ?_
      refine A_goto (tgt := 4) dX1_allThatAre_31 rfl ?_
      have e := ih (i + 1) (by omega) (by omega)
      rw [areI, if_pos h19] at e
      exact e
theorem x_are (x : Int32) (f : Mem) (d : Nat) (s : Sg) (k : Ro) (hd : isDesk d) {n : Nat} (hn : f d 0 = nI n) (hn4 : n ≤ 4) : C0 MX1_allThatAre [.ref d, .int x] (dM f d s k) (rt (some (.int (areI (s 1) x n))) (dM f d s k)) := by
  refine Ct.of (lv := [(0, .ref d), (1, .int x)]) (by decide) (lb rfl) rfl ?_
  refine A_iconst (v := 0) dX1_allThatAre_0 rfl ?_
  refine A_istore_n (lv' := [(2, .int 0), (0, .ref d), (1, .int x)]) dX1_allThatAre_1 rfl (lb rfl) rfl ?_
  refine A_iconst (v := 0) dX1_allThatAre_2 rfl ?_
  refine A_istore_n (lv' := [(3, .int 0), (2, .int 0), (0, .ref d), (1, .int x)]) dX1_allThatAre_3 rfl (lb rfl) rfl ?_
  exact lx_are x f d s k hd hn hn4 0 (by omega)
theorem x_sticks (f : Mem) (d : Nat) (s : Sg) (k : Ro) (hd : isDesk d) {n : Nat} (hn : f d 0 = nI n) (hn4 : n ≤ 4) : C0 MX1_sticks [.ref d] (dM f d s k) (rt (some (.int (bz (stickP s n)))) (dM f d s k)) := by
  refine Ct.of (lv := [(0, .ref d)]) (by decide) (lb rfl) rfl ?_
  refine A_aload_n dX1_sticks_0 rfl 0 rfl ?_
  refine A_iconst (v := 0) dX1_sticks_1 rfl ?_
  refine A_callV (M' := MX1_allThatAre) [.int 0] [] d dX1_sticks_2 lk_RX1_139 oX1_allThatAre iX1_allThatAre rfl rfl ⟨lb rfl, lb rfl⟩ (lb rfl) ⟨lb rfl, lb rfl⟩ (LD0 hd) rfl (x_are 0 f d s k hd hn hn4) ?_
  rintro _ _ ⟨rfl, rfl⟩
  refine A_if_ne (tgt := 26) dX1_sticks_5 rfl (fun h5 => ?_) (fun h5 => ?_)
  · refine A_iconst (v := 0) dX1_sticks_26 rfl ?_
    exact A_zret dX1_sticks_27 rfl (by decide) (rti (bz_f (fun q => by first | exact h5 q.1 | exact q.2 h19)).symm rfl)
  · refine A_aload_n dX1_sticks_8 rfl 0 rfl ?_
    refine A_iconst (v := 1) dX1_sticks_9 rfl ?_
    refine A_callV (M' := MX1_allThatAre) [.int 1] [] d dX1_sticks_10 lk_RX1_139 oX1_allThatAre iX1_allThatAre rfl rfl ⟨lb rfl, lb rfl⟩ (lb rfl) ⟨lb rfl, lb rfl⟩ (LD0 hd) rfl (x_are 1 f d s k hd hn hn4) ?_
    rintro _ _ ⟨rfl, rfl⟩
    refine A_aload_n dX1_sticks_13 rfl 0 rfl ?_
    refine A_iconst (v := 2) dX1_sticks_14 rfl ?_
    refine A_callV (M' := MX1_allThatAre) [.int 2] [.int (areI (s 1) 1 n)] d dX1_sticks_15 lk_RX1_139 oX1_allThatAre iX1_allThatAre rfl rfl ⟨lb rfl, lb rfl⟩ (lb rfl) ⟨lb rfl, lb rfl⟩ (LD0 hd) rfl (x_are 2 f d s k hd hn hn4) ?_
    rintro _ _ ⟨rfl, rfl⟩
    refine A_ior dX1_sticks_18 ?_
    refine A_if_eq (tgt := 26) dX1_sticks_19 rfl (fun h19 => ?_) (fun h19 => ?_)
    · refine A_iconst (v := 0) dX1_sticks_26 rfl ?_
      exact A_zret dX1_sticks_27 rfl (by decide) (rti (bz_f (fun q => by first | exact h5 q.1 | exact q.2 h19)).symm rfl)
    · refine A_iconst (v := 1) dX1_sticks_22 rfl ?_
      refine A_goto (tgt := 27) dX1_sticks_23 rfl ?_
      exact A_zret dX1_sticks_27 rfl (by decide) (rti (bz_t ⟨h5, h19⟩).symm rfl)
theorem n0_of {n : Nat} (h : ¬ nI n ≤ 0) : 0 < n := by
  rcases Nat.eq_zero_or_pos n with q | q
  · exact absurd (by rw [q]; decide) h
  · exact q
theorem x_isOver (f : Mem) (d : Nat) (s : Sg) (k : Ro) (hd : isDesk d) {n : Nat} (hn : f d 0 = nI n) (hn4 : n ≤ 4) : C0 MX1_isOver [.ref d] (dM f d s k) (rt (some (.int (bz (overP s n)))) (dM f d s k)) := by
  refine Ct.of (lv := [(0, .ref d)]) (by decide) (lb rfl) rfl ?_
  refine A_aload_n dX1_isOver_0 rfl 0 rfl ?_
  refine A_getI dX1_isOver_1 fo_RX1_9 (LD0 hd) rfl ?_
  refine A_topi (f d 0) (by rw [dM_o f d s k (by omega)] <;> simp [u2, ur, upd]) ?_
  refine A_topi (nI n) hn ?_
  refine A_if_le (tgt := 31) dX1_isOver_4 rfl (fun h4 => ?_) (fun h4 => ?_)
  · refine A_iconst (v := 0) dX1_isOver_31 rfl ?_
    exact A_zret dX1_isOver_32 rfl (by decide) (rti (bz_f (fun q => by first | exact nI_nle q.1 (by omega) h4 | exact h24 q.2)).symm rfl)
  · refine A_aload_n dX1_isOver_7 rfl 0 rfl ?_
    refine A_iconst (v := 0) dX1_isOver_8 rfl ?_
    refine A_callV (M' := MX1_allThatAre) [.int 0] [] d dX1_isOver_9 lk_RX1_139 oX1_allThatAre iX1_allThatAre rfl rfl ⟨lb rfl, lb rfl⟩ (lb rfl) ⟨lb rfl, lb rfl⟩ (LD0 hd) rfl (x_are 0 f d s k hd hn hn4) ?_
    rintro _ _ ⟨rfl, rfl⟩
    refine A_aload_n dX1_isOver_12 rfl 0 rfl ?_
    refine A_iconst (v := 1) dX1_isOver_13 rfl ?_
    refine A_callV (M' := MX1_allThatAre) [.int 1] [.int (areI (s 1) 0 n)] d dX1_isOver_14 lk_RX1_139 oX1_allThatAre iX1_allThatAre rfl rfl ⟨lb rfl, lb rfl⟩ (lb rfl) ⟨lb rfl, lb rfl⟩ (LD0 hd) rfl (x_are 1 f d s k hd hn hn4) ?_
    rintro _ _ ⟨rfl, rfl⟩
    refine A_ior dX1_isOver_17 ?_
    refine A_aload_n dX1_isOver_18 rfl 0 rfl ?_
    refine A_iconst (v := 2) dX1_isOver_19 rfl ?_
    refine A_callV (M' := MX1_allThatAre) [.int 2] [.int ((areI (s 1) 0 n) ||| (areI (s 1) 1 n))] d dX1_isOver_20 lk_RX1_139 oX1_allThatAre iX1_allThatAre rfl rfl ⟨lb rfl, lb rfl⟩ (lb rfl) ⟨lb rfl, lb rfl⟩ (LD0 hd) rfl (x_are 2 f d s k hd hn hn4) ?_
    rintro _ _ ⟨rfl, rfl⟩
    refine A_ior dX1_isOver_23 ?_
    refine A_if_ne (tgt := 31) dX1_isOver_24 rfl (fun h24 => ?_) (fun h24 => ?_)
    · refine A_iconst (v := 0) dX1_isOver_31 rfl ?_
      exact A_zret dX1_isOver_32 rfl (by decide) (rti (bz_f (fun q => by first | exact nI_nle q.1 (by omega) h4 | exact h24 q.2)).symm rfl)
    · refine A_iconst (v := 1) dX1_isOver_27 rfl ?_
      refine A_goto (tgt := 32) dX1_isOver_28 rfl ?_
      exact A_zret dX1_isOver_32 rfl (by decide) (rti (bz_t ⟨n0_of h4, h24⟩).symm rfl)
theorem own_t {g : Nat → Nat} {t i : Nat} (h : g i = t + 1) : ownI g t (i + 1) = ownI g t i ||| ((1 : Int32) <<< (nI i &&& 31)) := by
  rw [ownI, if_pos h]
theorem own_f {g : Nat → Nat} {t i : Nat} (h : ¬ g i = t + 1) : ownI g t (i + 1) = ownI g t i := by
  rw [ownI, if_neg h]
theorem lx_own (t : Nat) (f : Mem) (d : Nat) (s : Sg) (k : Ro) (hd : isDesk d) (ht : t < 4) (hM : wfM s) : ∀ i, i ≤ 3 → A (cM MX1_ownedBy 0 0 layT layT (rt (some (.int (ownI (s 3) t 3))) (dM f d s k))) 4 [(3, .int (nI i)), (2, .int (ownI (s 3) t i)), (0, .ref d), (1, .int (nI t))] [] (dM f d s k) := by
  refine up_ind 3 (fun i hi ih => ?_)
  refine A_iload_n dX1_ownedBy_4 rfl 0 rfl ?_
  refine A_iconst (v := 3) dX1_ownedBy_5 rfl ?_
  refine A_icmp_ge (tgt := 31) dX1_ownedBy_6 rfl (fun h6 => ?_) (fun h6 => ?_)
  · rw [show (3 : Int32) = nI 3 from rfl, nI_leI (by omega) (by omega)] at h6
    have ei : i = 3 := by omega
    refine A_iload_n dX1_ownedBy_31 rfl 1 rfl ?_
    exact A_iret dX1_ownedBy_32 rfl (rti (by rw [ei]) rfl)
  · rw [show (3 : Int32) = nI 3 from rfl, nI_leI (by omega) (by omega)] at h6
    refine A_aload_n dX1_ownedBy_9 rfl 2 rfl ?_
    refine A_getR (b := d + 8) dX1_ownedBy_10 fo_RX1_44 (LD0 hd) rfl ?_
    refine A_iload_n dX1_ownedBy_13 rfl 0 rfl ?_
    refine A_iaload i dX1_ownedBy_14 (LD8 hd) (rfl) (by omega) (lb rfl) ?_
    refine A_topi (nI (s 3 i) - 1) (by rw [dM_8 f d s k (by omega)] <;> simp [s2, n70, n70', n71, n71', n72, n72', n73, n73', n74, n74', n75, n75']) ?_
    refine A_iload_n dX1_ownedBy_15 rfl 3 rfl ?_
    refine A_icmp_ne (tgt := 25) dX1_ownedBy_16 rfl (fun h16 => ?_) (fun h16 => ?_)
    · rw [ow_t (hM i (by omega)).1 ht] at h16
      refine A_iinc (lv' := [(3, .int (nI (i + 1))), (2, .int (ownI (s 3) t i)), (0, .ref d), (1, .int (nI t))]) dX1_ownedBy_25 0 rfl (nI_add i 1) (lb rfl) rfl ?_
      refine A_goto (tgt := 4) dX1_ownedBy_28 rfl ?_
      have e := ih (i + 1) (by omega) (by omega)
      rw [own_f h16] at e
      exact e
    · rw [ow_t (hM i (by omega)).1 ht] at h16
      refine A_iload_n dX1_ownedBy_19 rfl 1 rfl ?_
      refine A_iconst (v := 1) dX1_ownedBy_20 rfl ?_
      refine A_iload_n dX1_ownedBy_21 rfl 0 rfl ?_
      refine A_ishl dX1_ownedBy_22 ?_
      refine A_ior dX1_ownedBy_23 ?_
      refine A_istore_n (lv' := [(2, .int ((ownI (s 3) t i) ||| (1 <<< ((nI i) &&& 31)))), (3, .int (nI i)), (0, .ref d), (1, .int (nI t))]) dX1_ownedBy_24 rfl (lb rfl) rfl ?_
      refine A_iinc (lv' := [(3, .int (nI (i + 1))), (2, .int ((ownI (s 3) t i) ||| (1 <<< ((nI i) &&& 31)))), (0, .ref d), (1, .int (nI t))]) dX1_ownedBy_25 1 rfl (nI_add i 1) (lb rfl) rfl ?_
      refine A_goto (tgt := 4) dX1_ownedBy_28 rfl ?_
      have e := ih (i + 1) (by omega) (by omega)
      rw [own_t h16] at e
      exact e
theorem x_ownedBy (t : Nat) (f : Mem) (d : Nat) (s : Sg) (k : Ro) (hd : isDesk d) (ht : t < 4) (hM : wfM s) : C0 MX1_ownedBy [.ref d, .int (nI t)] (dM f d s k) (rt (some (.int (ownI (s 3) t 3))) (dM f d s k)) := by
  refine Ct.of (lv := [(0, .ref d), (1, .int (nI t))]) (by decide) (lb rfl) rfl ?_
  refine A_iconst (v := 0) dX1_ownedBy_0 rfl ?_
  refine A_istore_n (lv' := [(2, .int 0), (0, .ref d), (1, .int (nI t))]) dX1_ownedBy_1 rfl (lb rfl) rfl ?_
  refine A_iconst (v := 0) dX1_ownedBy_2 rfl ?_
  refine A_istore_n (lv' := [(3, .int 0), (2, .int 0), (0, .ref d), (1, .int (nI t))]) dX1_ownedBy_3 rfl (lb rfl) rfl ?_
  exact lx_own t f d s k hd ht hM 0 (by omega)
theorem pk_row0 {r : Nat → Nat} {n : Nat} (h : isRow r n) : pk r = 0 ↔ n = 0 := by
  rw [pk_0 h.sm]
  constructor
  · intro q
    rcases Nat.eq_zero_or_pos n with z | z
    · exact z
    · have := ((h.2 0 (by omega)).1 z).1; omega
  · intro q
    exact ⟨(h.2 0 (by omega)).2 (by omega), (h.2 1 (by omega)).2 (by omega), (h.2 2 (by omega)).2 (by omega), (h.2 3 (by omega)).2 (by omega)⟩
theorem x_isUsed (m : Nat) (f : Mem) (d : Nat) (s : Sg) (k : Ro) (hd : isDesk d) (hm : m < 3) (hw : wf s) : C0 MX1_isUsed [.ref d, .int (nI m)] (dM f d s k) (rt (some (.int (bz (¬ s 3 m = 0 ∨ ¬ s 5 m = 0 ∨ ¬ s 5 (3 + m) = 0)))) (dM f d s k)) := by
  have h3 := (hw.2.2.2.2 m hm).1
  have hE := wf4.row hw.1 (show m < 6 by omega)
  have hW := wf4.row hw.1 (show 3 + m < 6 by omega)
  refine Ct.of (lv := [(0, .ref d), (1, .int (nI m))]) (by decide) (lb rfl) rfl ?_
  refine A_aload_n dX1_isUsed_0 rfl 0 rfl ?_
  refine A_getR (b := d + 8) dX1_isUsed_1 fo_RX1_44 (LD0 hd) rfl ?_
  refine A_iload_n dX1_isUsed_4 rfl 1 rfl ?_
  refine A_iaload m dX1_isUsed_5 (LD8 hd) (rfl) (by omega) (lb rfl) ?_
  refine A_topi (nI (s 3 m) - 1) (by rw [dM_8 f d s k (by omega)] <;> simp [s2, n70, n70', n71, n71', n72, n72', n73, n73', n74, n74', n75, n75']) ?_
  refine A_iconst (v := -1) dX1_isUsed_6 rfl ?_
  refine A_icmp_ne (tgt := 28) dX1_isUsed_7 rfl (fun h7 => ?_) (fun h7 => ?_)
  · rw [ow_n h3] at h7
    refine A_iconst (v := 1) dX1_isUsed_28 rfl ?_
    refine A_goto (tgt := 33) dX1_isUsed_29 rfl ?_
    exact A_zret dX1_isUsed_33 rfl (by decide) (rti (bz_t (by omega)).symm rfl)
  · rw [ow_n h3] at h7
    refine A_aload_n dX1_isUsed_10 rfl 0 rfl ?_
    refine A_getR (b := d + 10) dX1_isUsed_11 fo_RX1_50 (LD0 hd) rfl ?_
    refine A_iload_n dX1_isUsed_14 rfl 1 rfl ?_
    refine A_iaload m dX1_isUsed_15 (LD10 hd) (rfl) (by omega) (lb rfl) ?_
    refine A_topi (pk (s (7 + m))) (dM_10 f d s k (by omega)) ?_
    refine A_if_ne (tgt := 28) dX1_isUsed_16 rfl (fun h16 => ?_) (fun h16 => ?_)
    · rw [pk_row0 hE] at h16
      refine A_iconst (v := 1) dX1_isUsed_28 rfl ?_
      refine A_goto (tgt := 33) dX1_isUsed_29 rfl ?_
      exact A_zret dX1_isUsed_33 rfl (by decide) (rti (bz_t (by omega)).symm rfl)
    · rw [pk_row0 hE] at h16
      refine A_aload_n dX1_isUsed_19 rfl 0 rfl ?_
      refine A_getR (b := d + 11) dX1_isUsed_20 fo_RX1_53 (LD0 hd) rfl ?_
      refine A_iload_n dX1_isUsed_23 rfl 1 rfl ?_
      refine A_iaload m dX1_isUsed_24 (LD11 hd) (rfl) (by omega) (lb rfl) ?_
      refine A_topi (pk (s (7 + (3 + m)))) (dM_11 f d s k (by omega)) ?_
      refine A_if_eq (tgt := 32) dX1_isUsed_25 rfl (fun h25 => ?_) (fun h25 => ?_)
      · rw [pk_row0 hW] at h25
        refine A_iconst (v := 0) dX1_isUsed_32 rfl ?_
        exact A_zret dX1_isUsed_33 rfl (by decide) (rti (bz_f (by omega)).symm rfl)
      · rw [pk_row0 hW] at h25
        refine A_iconst (v := 1) dX1_isUsed_28 rfl ?_
        refine A_goto (tgt := 33) dX1_isUsed_29 rfl ?_
        exact A_zret dX1_isUsed_33 rfl (by decide) (rti (bz_t (by omega)).symm rfl)
theorem x_whereStands (t : Nat) (f : Mem) (d : Nat) (s : Sg) (k : Ro) (hd : isDesk d) (ht : t < 4) (hw : wf s) : C0 MX1_whereStands [.ref d, .int (nI t)] (dM f d s k) (rt (some (.int (whA s t))) (dM f d s k)) := by
  refine Ct.of (lv := [(0, .ref d), (1, .int (nI t))]) (by decide) (lb rfl) rfl ?_
  refine A_iconst (v := 0) dX1_whereStands_0 rfl ?_
  refine A_istore_n (lv' := [(2, .int 0), (0, .ref d), (1, .int (nI t))]) dX1_whereStands_1 rfl (lb rfl) rfl ?_
  refine A_iload_n dX1_whereStands_2 rfl 0 rfl ?_
  refine A_iconst (v := 3) dX1_whereStands_3 rfl ?_
  refine A_icmp_ge (tgt := 41) dX1_whereStands_4 rfl (fun h4 => absurd h4 (by decide)) (fun h4 => ?_)
  refine A_aload_n dX1_whereStands_7 rfl 1 rfl ?_
  refine A_getR (b := d + 10) dX1_whereStands_8 fo_RX1_50 (LD0 hd) rfl ?_
  refine A_iload_n dX1_whereStands_11 rfl 0 rfl ?_
  refine A_iaload 0 dX1_whereStands_12 (LD10 hd) (rfl) (by decide) (lb rfl) ?_
  refine A_topi (pk (s (7 + 0))) (dM_10 f d s k (show 0 < 3 by decide)) ?_
  refine A_iload_n dX1_whereStands_13 rfl 2 rfl ?_
  refine A_callS (M' := MX5_has) [.int (pk (s (7 + 0))), .int (nI t)] [] dX1_whereStands_14 lk_RX1_135 oX5_has sX5_has rfl rfl ⟨lb rfl, lb rfl⟩ (lb rfl) ⟨lb rfl, lb rfl⟩ (c_rowHas (s (7 + 0)) t _ ((wf4.row hw.1 (show 0 < 6 by decide)).sm) ht) ?_
  rintro _ _ ⟨rfl, rfl⟩
  refine A_if_ne (tgt := 33) dX1_whereStands_17 rfl (fun h17 => ?_) (fun h17 => ?_)
  · have f0 : hasR s 0 t ∨ hasR s 3 t := by first | exact Or.inl (bz_n0.mp h17) | exact Or.inr (bz_n0.mp h30)
    refine A_iload_n dX1_whereStands_33 rfl 0 rfl ?_
    exact A_iret dX1_whereStands_34 rfl (rti (by rw [whA, if_pos f0]) rfl)
  · have p0 := bz_0.mp h17
    refine A_aload_n dX1_whereStands_20 rfl 1 rfl ?_
    refine A_getR (b := d + 11) dX1_whereStands_21 fo_RX1_53 (LD0 hd) rfl ?_
    refine A_iload_n dX1_whereStands_24 rfl 0 rfl ?_
    refine A_iaload 0 dX1_whereStands_25 (LD11 hd) (rfl) (by decide) (lb rfl) ?_
    refine A_topi (pk (s (7 + 3))) (dM_11 f d s k (show 0 < 3 by decide)) ?_
    refine A_iload_n dX1_whereStands_26 rfl 2 rfl ?_
    refine A_callS (M' := MX5_has) [.int (pk (s (7 + 3))), .int (nI t)] [] dX1_whereStands_27 lk_RX1_135 oX5_has sX5_has rfl rfl ⟨lb rfl, lb rfl⟩ (lb rfl) ⟨lb rfl, lb rfl⟩ (c_rowHas (s (7 + 3)) t _ ((wf4.row hw.1 (show 3 < 6 by decide)).sm) ht) ?_
    rintro _ _ ⟨rfl, rfl⟩
    refine A_if_eq (tgt := 35) dX1_whereStands_30 rfl (fun h30 => ?_) (fun h30 => ?_)
    · have q0 : ¬ (hasR s 0 t ∨ hasR s 3 t) := fun z => z.elim p0 (bz_0.mp h30)
      refine A_iinc (lv' := [(2, .int 1), (0, .ref d), (1, .int (nI t))]) dX1_whereStands_35 0 rfl rfl (lb rfl) rfl ?_
      refine A_goto (tgt := 2) dX1_whereStands_38 rfl ?_
      refine A_iload_n dX1_whereStands_2 rfl 0 rfl ?_
      refine A_iconst (v := 3) dX1_whereStands_3 rfl ?_
      refine A_icmp_ge (tgt := 41) dX1_whereStands_4 rfl (fun h4 => absurd h4 (by decide)) (fun h4 => ?_)
      refine A_aload_n dX1_whereStands_7 rfl 1 rfl ?_
      refine A_getR (b := d + 10) dX1_whereStands_8 fo_RX1_50 (LD0 hd) rfl ?_
      refine A_iload_n dX1_whereStands_11 rfl 0 rfl ?_
      refine A_iaload 1 dX1_whereStands_12 (LD10 hd) (rfl) (by decide) (lb rfl) ?_
      refine A_topi (pk (s (7 + 1))) (dM_10 f d s k (show 1 < 3 by decide)) ?_
      refine A_iload_n dX1_whereStands_13 rfl 2 rfl ?_
      refine A_callS (M' := MX5_has) [.int (pk (s (7 + 1))), .int (nI t)] [] dX1_whereStands_14 lk_RX1_135 oX5_has sX5_has rfl rfl ⟨lb rfl, lb rfl⟩ (lb rfl) ⟨lb rfl, lb rfl⟩ (c_rowHas (s (7 + 1)) t _ ((wf4.row hw.1 (show 1 < 6 by decide)).sm) ht) ?_
      rintro _ _ ⟨rfl, rfl⟩
      refine A_if_ne (tgt := 33) dX1_whereStands_17 rfl (fun h17 => ?_) (fun h17 => ?_)
      · have f1 : hasR s 1 t ∨ hasR s 4 t := by first | exact Or.inl (bz_n0.mp h17) | exact Or.inr (bz_n0.mp h30)
        refine A_iload_n dX1_whereStands_33 rfl 0 rfl ?_
        exact A_iret dX1_whereStands_34 rfl (rti (by rw [whA, if_neg q0, if_pos f1]) rfl)
      · have p1 := bz_0.mp h17
        refine A_aload_n dX1_whereStands_20 rfl 1 rfl ?_
        refine A_getR (b := d + 11) dX1_whereStands_21 fo_RX1_53 (LD0 hd) rfl ?_
        refine A_iload_n dX1_whereStands_24 rfl 0 rfl ?_
        refine A_iaload 1 dX1_whereStands_25 (LD11 hd) (rfl) (by decide) (lb rfl) ?_
        refine A_topi (pk (s (7 + 4))) (dM_11 f d s k (show 1 < 3 by decide)) ?_
        refine A_iload_n dX1_whereStands_26 rfl 2 rfl ?_
        refine A_callS (M' := MX5_has) [.int (pk (s (7 + 4))), .int (nI t)] [] dX1_whereStands_27 lk_RX1_135 oX5_has sX5_has rfl rfl ⟨lb rfl, lb rfl⟩ (lb rfl) ⟨lb rfl, lb rfl⟩ (c_rowHas (s (7 + 4)) t _ ((wf4.row hw.1 (show 4 < 6 by decide)).sm) ht) ?_
        rintro _ _ ⟨rfl, rfl⟩
        refine A_if_eq (tgt := 35) dX1_whereStands_30 rfl (fun h30 => ?_) (fun h30 => ?_)
        · have q1 : ¬ (hasR s 1 t ∨ hasR s 4 t) := fun z => z.elim p1 (bz_0.mp h30)
          refine A_iinc (lv' := [(2, .int 2), (0, .ref d), (1, .int (nI t))]) dX1_whereStands_35 0 rfl rfl (lb rfl) rfl ?_
          refine A_goto (tgt := 2) dX1_whereStands_38 rfl ?_
          refine A_iload_n dX1_whereStands_2 rfl 0 rfl ?_
          refine A_iconst (v := 3) dX1_whereStands_3 rfl ?_
          refine A_icmp_ge (tgt := 41) dX1_whereStands_4 rfl (fun h4 => absurd h4 (by decide)) (fun h4 => ?_)
          refine A_aload_n dX1_whereStands_7 rfl 1 rfl ?_
          refine A_getR (b := d + 10) dX1_whereStands_8 fo_RX1_50 (LD0 hd) rfl ?_
          refine A_iload_n dX1_whereStands_11 rfl 0 rfl ?_
          refine A_iaload 2 dX1_whereStands_12 (LD10 hd) (rfl) (by decide) (lb rfl) ?_
          refine A_topi (pk (s (7 + 2))) (dM_10 f d s k (show 2 < 3 by decide)) ?_
          refine A_iload_n dX1_whereStands_13 rfl 2 rfl ?_
          refine A_callS (M' := MX5_has) [.int (pk (s (7 + 2))), .int (nI t)] [] dX1_whereStands_14 lk_RX1_135 oX5_has sX5_has rfl rfl ⟨lb rfl, lb rfl⟩ (lb rfl) ⟨lb rfl, lb rfl⟩ (c_rowHas (s (7 + 2)) t _ ((wf4.row hw.1 (show 2 < 6 by decide)).sm) ht) ?_
          rintro _ _ ⟨rfl, rfl⟩
          refine A_if_ne (tgt := 33) dX1_whereStands_17 rfl (fun h17 => ?_) (fun h17 => ?_)
          · have f2 : hasR s 2 t ∨ hasR s 5 t := by first | exact Or.inl (bz_n0.mp h17) | exact Or.inr (bz_n0.mp h30)
            refine A_iload_n dX1_whereStands_33 rfl 0 rfl ?_
            exact A_iret dX1_whereStands_34 rfl (rti (by rw [whA, if_neg q0, if_neg q1, if_pos f2]) rfl)
          · have p2 := bz_0.mp h17
            refine A_aload_n dX1_whereStands_20 rfl 1 rfl ?_
            refine A_getR (b := d + 11) dX1_whereStands_21 fo_RX1_53 (LD0 hd) rfl ?_
            refine A_iload_n dX1_whereStands_24 rfl 0 rfl ?_
            refine A_iaload 2 dX1_whereStands_25 (LD11 hd) (rfl) (by decide) (lb rfl) ?_
            refine A_topi (pk (s (7 + 5))) (dM_11 f d s k (show 2 < 3 by decide)) ?_
            refine A_iload_n dX1_whereStands_26 rfl 2 rfl ?_
            refine A_callS (M' := MX5_has) [.int (pk (s (7 + 5))), .int (nI t)] [] dX1_whereStands_27 lk_RX1_135 oX5_has sX5_has rfl rfl ⟨lb rfl, lb rfl⟩ (lb rfl) ⟨lb rfl, lb rfl⟩ (c_rowHas (s (7 + 5)) t _ ((wf4.row hw.1 (show 5 < 6 by decide)).sm) ht) ?_
            rintro _ _ ⟨rfl, rfl⟩
            refine A_if_eq (tgt := 35) dX1_whereStands_30 rfl (fun h30 => ?_) (fun h30 => ?_)
            · have q2 : ¬ (hasR s 2 t ∨ hasR s 5 t) := fun z => z.elim p2 (bz_0.mp h30)
              refine A_iinc (lv' := [(2, .int 3), (0, .ref d), (1, .int (nI t))]) dX1_whereStands_35 0 rfl rfl (lb rfl) rfl ?_
              refine A_goto (tgt := 2) dX1_whereStands_38 rfl ?_
              refine A_iload_n dX1_whereStands_2 rfl 0 rfl ?_
              refine A_iconst (v := 3) dX1_whereStands_3 rfl ?_
              refine A_icmp_ge (tgt := 41) dX1_whereStands_4 rfl (fun h4 => ?_) (fun h4 => by exact absurd (by decide) h4)
              refine A_bipush (v := -5) dX1_whereStands_41 rfl ?_
              exact A_iret dX1_whereStands_43 rfl (rti (by rw [whA, if_neg q0, if_neg q1, if_neg q2]) rfl)
            · have f2 : hasR s 2 t ∨ hasR s 5 t := by first | exact Or.inl (bz_n0.mp h17) | exact Or.inr (bz_n0.mp h30)
              refine A_iload_n dX1_whereStands_33 rfl 0 rfl ?_
              exact A_iret dX1_whereStands_34 rfl (rti (by rw [whA, if_neg q0, if_neg q1, if_pos f2]) rfl)
        · have f1 : hasR s 1 t ∨ hasR s 4 t := by first | exact Or.inl (bz_n0.mp h17) | exact Or.inr (bz_n0.mp h30)
          refine A_iload_n dX1_whereStands_33 rfl 0 rfl ?_
          exact A_iret dX1_whereStands_34 rfl (rti (by rw [whA, if_neg q0, if_pos f1]) rfl)
    · have f0 : hasR s 0 t ∨ hasR s 3 t := by first | exact Or.inl (bz_n0.mp h17) | exact Or.inr (bz_n0.mp h30)
      refine A_iload_n dX1_whereStands_33 rfl 0 rfl ?_
      exact A_iret dX1_whereStands_34 rfl (rti (by rw [whA, if_pos f0]) rfl)
