/-! the reference: where a task stands, whose turn it is -/
def stB (s : Sg) (t : Nat) : Nat → Int32
  | 0 => -5
  | j + 1 => if s (7 + j / 4) (j % 4) = t + 1 ∨ s (7 + (3 + j / 4)) (j % 4) = t + 1 then nI (j / 4) else stB s t j
theorem stB_k {s : Sg} {t m k : Nat} (hk : k < 4) : stB s t (4 * m + k + 1) = if s (7 + m) k = t + 1 ∨ s (7 + (3 + m)) k = t + 1 then nI m else stB s t (4 * m + k) := by
  rw [stB, show (4 * m + k) / 4 = m by omega, show (4 * m + k) % 4 = k by omega]
theorem stB_m {s : Sg} {t m : Nat} : stB s t (4 * m + 4) = if hasR s m t ∨ hasR s (3 + m) t then nI m else stB s t (4 * m) := by
  rw [show 4 * m + 4 = 4 * m + 3 + 1 from rfl, stB_k (by decide), show 4 * m + 3 = 4 * m + 2 + 1 from rfl, stB_k (by decide), show 4 * m + 2 = 4 * m + 1 + 1 from rfl, stB_k (by decide), show stB s t (4 * m + 1) = _ from stB_k (m := m) (k := 0) (by decide)]
  by_cases a3 : s (7 + m) 3 = t + 1 ∨ s (7 + (3 + m)) 3 = t + 1
  · rw [if_pos a3, if_pos (by unfold hasR; omega)]
  · rw [if_neg a3]
    by_cases a2 : s (7 + m) 2 = t + 1 ∨ s (7 + (3 + m)) 2 = t + 1
    · rw [if_pos a2, if_pos (by unfold hasR; omega)]
    · rw [if_neg a2]
      by_cases a1 : s (7 + m) 1 = t + 1 ∨ s (7 + (3 + m)) 1 = t + 1
      · rw [if_pos a1, if_pos (by unfold hasR; omega)]
      · rw [if_neg a1]
        by_cases a0 : s (7 + m) 0 = t + 1 ∨ s (7 + (3 + m)) 0 = t + 1
        · rw [if_pos a0, if_pos (by unfold hasR; omega)]
        · rw [if_neg a0, if_neg (by unfold hasR; omega), Nat.add_zero]
theorem hasR_x {s : Sg} {r t : Nat} (h : hasR s r t) : ∃ i, i < 4 ∧ s (7 + r) i = t + 1 := by
  rcases h with h | h | h | h
  · exact ⟨0, by omega, h⟩
  · exact ⟨1, by omega, h⟩
  · exact ⟨2, by omega, h⟩
  · exact ⟨3, by omega, h⟩
theorem hasR_1 {s : Sg} (hD : wfD s) {r r' t : Nat} (hr : r < 6) (hr' : r' < 6) (h : hasR s r t) (h' : hasR s r' t) : r = r' := by
  obtain ⟨i, hi, e⟩ := hasR_x h
  obtain ⟨i', hi', e'⟩ := hasR_x h'
  exact (hD r r' hr hr' i i' hi hi' (e.trans e'.symm) (by omega)).1
theorem stB_wh {s : Sg} (hD : wfD s) (t : Nat) : stB s t 12 = whA s t := by
  rw [show 12 = 4 * 2 + 4 from rfl, stB_m, show 4 * 2 = 4 * 1 + 4 from rfl, stB_m, show 4 * 1 = 4 * 0 + 4 from rfl, stB_m]
  unfold whA
  by_cases a0 : hasR s 0 t ∨ hasR s (3 + 0) t
  · have n1 : ¬ (hasR s 1 t ∨ hasR s (3 + 1) t) := fun q => by
      rcases a0 with a | a <;> rcases q with q | q <;> exact absurd (hasR_1 hD (by omega) (by omega) a q) (by omega)
    have n2 : ¬ (hasR s 2 t ∨ hasR s (3 + 2) t) := fun q => by
      rcases a0 with a | a <;> rcases q with q | q <;> exact absurd (hasR_1 hD (by omega) (by omega) a q) (by omega)
    rw [if_neg n2, if_neg n1, if_pos a0, if_pos a0]; rfl
  · by_cases a1 : hasR s 1 t ∨ hasR s (3 + 1) t
    · have n2 : ¬ (hasR s 2 t ∨ hasR s (3 + 2) t) := fun q => by
        rcases a1 with a | a <;> rcases q with q | q <;> exact absurd (hasR_1 hD (by omega) (by omega) a q) (by omega)
      rw [if_neg n2, if_pos a1, if_neg a0, if_pos a1]; rfl
    · by_cases a2 : hasR s 2 t ∨ hasR s (3 + 2) t
      · rw [if_pos a2, if_neg a0, if_neg a1, if_pos a2]; rfl
      · rw [if_neg a2, if_neg a1, if_neg a0, if_neg a0, if_neg a1, if_neg a2]; rfl
theorem RC.e7 {f : Mem} {s : Sg} {k p rz lz : Ro} (h : RC f s k p rz lz) {m i : Nat} (hm : m < 3) (hi : i < 4) : f 94 (21 + 4 * m + i) = nI (s (7 + m) i) := (h.1 _ (by omega)).trans ((gF_lo (by omega)).trans (flat_7 _ _ hm hi))
theorem RC.w7 {f : Mem} {s : Sg} {k p rz lz : Ro} (h : RC f s k p rz lz) {m i : Nat} (hm : m < 3) (hi : i < 4) : f 94 (36 + 4 * m + i) = nI (s (7 + (3 + m)) i) := (h.1 _ (by omega)).trans ((gF_lo (by omega)).trans (flat_10 _ _ hm hi))
theorem lc_st1 (t : Nat) (f : Mem) (s : Sg) (k p rz lz : Ro) (hC : RC f s k p rz lz) (w : wfC s k p) (ht : t < 4) : ∀ m, m < 3 → (∀ j, m < j → j ≤ 3 → A (cM MX11_standsAt 0 0 layT layT (rt (some (.int (stB s t 12))) f)) 5 [(3, .int (nI j)), (2, .int (stB s t (4 * j))), (0, .ref 93), (1, .int (nI t))] [] f) → ∀ i, i ≤ 4 → A (cM MX11_standsAt 0 0 layT layT (rt (some (.int (stB s t 12))) f)) 13 [(4, .int (nI i)), (3, .int (nI m)), (2, .int (stB s t (4 * m + i))), (0, .ref 93), (1, .int (nI t))] [] f := by
  intro m hm ih
  refine up_ind 4 (fun i hi ihk => ?_)
  refine A_iload dX11_standsAt_13 0 rfl ?_
  refine A_iconst (v := 4) dX11_standsAt_15 rfl ?_
  refine A_icmp_ge (tgt := 83) dX11_standsAt_16 rfl (fun h16 => ?_) (fun h16 => ?_)
  · rw [show (4 : Int32) = nI 4 from rfl, nI_leI (by omega) (by omega)] at h16
    have ei : i = 4 := by omega
    refine A_iinc (lv' := [(3, .int (nI (m + 1))), (4, .int (nI i)), (2, .int (stB s t (4 * m + i))), (0, .ref 93), (1, .int (nI t))]) dX11_standsAt_83 1 rfl (nI_add m 1) (lb rfl) rfl ?_
    refine A_goto (tgt := 5) dX11_standsAt_86 rfl ?_
    refine A_sub [0, 2, 3, 4] rfl ?_
    rw [ei]
    exact ih (m + 1) (by omega) (by omega)
  · rw [show (4 : Int32) = nI 4 from rfl, nI_leI (by omega) (by omega)] at h16
    have hi4 : i < 4 := by omega
    have q1 := ((w.1.1 m (by omega)).2 i hi4)
    have q2 := ((w.1.1 (3 + m) (by omega)).2 i hi4)
    have r1 := (wf4.row w.1.1 (show m < 6 by omega)).sm i hi4
    have r2 := (wf4.row w.1.1 (show 3 + m < 6 by omega)).sm i hi4
    refine A_aload_n dX11_standsAt_19 rfl 3 rfl ?_
    refine A_getR (b := 94) dX11_standsAt_20 fo_RX11_9 L93 rfl ?_
    refine A_bipush (v := 21) dX11_standsAt_23 rfl ?_
    refine A_iconst (v := 4) dX11_standsAt_25 rfl ?_
    refine A_iload_n dX11_standsAt_26 rfl 1 rfl ?_
    refine A_imul dX11_standsAt_27 ?_
    refine A_iadd dX11_standsAt_28 ?_
    refine A_iload dX11_standsAt_29 0 rfl ?_
    refine A_iadd dX11_standsAt_31 ?_
    refine A_iaload (21 + 4 * m + i) dX11_standsAt_32 L94 (by simp only [lit, nI_add, pk_mul]) (by omega) (lb rfl) ?_
    refine A_topi (nI (s (7 + m) i)) (hC.e7 hm hi4) ?_
    refine A_iload_n dX11_standsAt_33 rfl 4 rfl ?_
    refine A_iconst (v := 1) dX11_standsAt_34 rfl ?_
    refine A_iadd dX11_standsAt_35 ?_
    refine A_icmp_eq (tgt := 59) dX11_standsAt_36 rfl (fun h36 => ?_) (fun h36 => ?_)
    · rw [own_r r1 ht] at h36
      refine A_iconst (v := 1) dX11_standsAt_59 rfl ?_
      refine A_goto (tgt := 64) dX11_standsAt_60 rfl ?_
      refine A_istore (lv' := [(5, .int 1), (4, .int (nI i)), (3, .int (nI m)), (2, .int (stB s t (4 * m + i))), (0, .ref 93), (1, .int (nI t))]) dX11_standsAt_64 (lb rfl) rfl ?_
      refine A_iload dX11_standsAt_66 0 rfl ?_
      refine A_if_eq (tgt := 75) dX11_standsAt_68 rfl (fun h68 => absurd h68 (by decide)) (fun h68 => ?_)
      refine A_iload_n dX11_standsAt_71 rfl 2 rfl ?_
      refine A_goto (tgt := 76) dX11_standsAt_72 rfl ?_
      refine A_istore_n (lv' := [(2, .int (nI m)), (5, .int 1), (4, .int (nI i)), (3, .int (nI m)), (0, .ref 93), (1, .int (nI t))]) dX11_standsAt_76 rfl (lb rfl) rfl ?_
      refine A_iinc (lv' := [(4, .int (nI (i + 1))), (2, .int (nI m)), (5, .int 1), (3, .int (nI m)), (0, .ref 93), (1, .int (nI t))]) dX11_standsAt_77 2 rfl (nI_add i 1) (lb rfl) rfl ?_
      refine A_goto (tgt := 13) dX11_standsAt_80 rfl ?_
      refine A_sub [0, 3, 1, 4, 5] rfl ?_
      have e := ihk (i + 1) (by omega) (by omega)
      rw [← Nat.add_assoc, stB_k hi4, if_pos (by omega)] at e
      exact e
    · rw [own_r r1 ht] at h36
      refine A_aload_n dX11_standsAt_39 rfl 3 rfl ?_
      refine A_getR (b := 94) dX11_standsAt_40 fo_RX11_9 L93 rfl ?_
      refine A_bipush (v := 36) dX11_standsAt_43 rfl ?_
      refine A_iconst (v := 4) dX11_standsAt_45 rfl ?_
      refine A_iload_n dX11_standsAt_46 rfl 1 rfl ?_
      refine A_imul dX11_standsAt_47 ?_
      refine A_iadd dX11_standsAt_48 ?_
      refine A_iload dX11_standsAt_49 0 rfl ?_
      refine A_iadd dX11_standsAt_51 ?_
      refine A_iaload (36 + 4 * m + i) dX11_standsAt_52 L94 (by simp only [lit, nI_add, pk_mul]) (by omega) (lb rfl) ?_
      refine A_topi (nI (s (7 + (3 + m)) i)) (hC.w7 hm hi4) ?_
      refine A_iload_n dX11_standsAt_53 rfl 4 rfl ?_
      refine A_iconst (v := 1) dX11_standsAt_54 rfl ?_
      refine A_iadd dX11_standsAt_55 ?_
      refine A_icmp_ne (tgt := 63) dX11_standsAt_56 rfl (fun h56 => ?_) (fun h56 => ?_)
      · rw [own_r r2 ht] at h56
        refine A_iconst (v := 0) dX11_standsAt_63 rfl ?_
        refine A_istore (lv' := [(5, .int 0), (4, .int (nI i)), (3, .int (nI m)), (2, .int (stB s t (4 * m + i))), (0, .ref 93), (1, .int (nI t))]) dX11_standsAt_64 (lb rfl) rfl ?_
        refine A_iload dX11_standsAt_66 0 rfl ?_
        refine A_if_eq (tgt := 75) dX11_standsAt_68 rfl (fun h68 => ?_) (fun h68 => absurd (by decide) h68)
        refine A_iload_n dX11_standsAt_75 rfl 3 rfl ?_
        refine A_istore_n (lv' := [(2, .int (stB s t (4 * m + i))), (5, .int 0), (4, .int (nI i)), (3, .int (nI m)), (0, .ref 93), (1, .int (nI t))]) dX11_standsAt_76 rfl (lb rfl) rfl ?_
        refine A_iinc (lv' := [(4, .int (nI (i + 1))), (2, .int (stB s t (4 * m + i))), (5, .int 0), (3, .int (nI m)), (0, .ref 93), (1, .int (nI t))]) dX11_standsAt_77 2 rfl (nI_add i 1) (lb rfl) rfl ?_
        refine A_goto (tgt := 13) dX11_standsAt_80 rfl ?_
        refine A_sub [0, 3, 1, 4, 5] rfl ?_
        have e := ihk (i + 1) (by omega) (by omega)
        rw [← Nat.add_assoc, stB_k hi4, if_neg (by omega)] at e
        exact e
      · rw [own_r r2 ht] at h56
        refine A_iconst (v := 1) dX11_standsAt_59 rfl ?_
        refine A_goto (tgt := 64) dX11_standsAt_60 rfl ?_
        refine A_istore (lv' := [(5, .int 1), (4, .int (nI i)), (3, .int (nI m)), (2, .int (stB s t (4 * m + i))), (0, .ref 93), (1, .int (nI t))]) dX11_standsAt_64 (lb rfl) rfl ?_
        refine A_iload dX11_standsAt_66 0 rfl ?_
        refine A_if_eq (tgt := 75) dX11_standsAt_68 rfl (fun h68 => absurd h68 (by decide)) (fun h68 => ?_)
        refine A_iload_n dX11_standsAt_71 rfl 2 rfl ?_
        refine A_goto (tgt := 76) dX11_standsAt_72 rfl ?_
        refine A_istore_n (lv' := [(2, .int (nI m)), (5, .int 1), (4, .int (nI i)), (3, .int (nI m)), (0, .ref 93), (1, .int (nI t))]) dX11_standsAt_76 rfl (lb rfl) rfl ?_
        refine A_iinc (lv' := [(4, .int (nI (i + 1))), (2, .int (nI m)), (5, .int 1), (3, .int (nI m)), (0, .ref 93), (1, .int (nI t))]) dX11_standsAt_77 2 rfl (nI_add i 1) (lb rfl) rfl ?_
        refine A_goto (tgt := 13) dX11_standsAt_80 rfl ?_
        refine A_sub [0, 3, 1, 4, 5] rfl ?_
        have e := ihk (i + 1) (by omega) (by omega)
        rw [← Nat.add_assoc, stB_k hi4, if_pos (by omega)] at e
        exact e
theorem lc_st (t : Nat) (f : Mem) (s : Sg) (k p rz lz : Ro) (hC : RC f s k p rz lz) (w : wfC s k p) (ht : t < 4) : ∀ m, m ≤ 3 → A (cM MX11_standsAt 0 0 layT layT (rt (some (.int (stB s t 12))) f)) 5 [(3, .int (nI m)), (2, .int (stB s t (4 * m))), (0, .ref 93), (1, .int (nI t))] [] f := by
  refine up_ind 3 (fun m hm ih => ?_)
  refine A_iload_n dX11_standsAt_5 rfl 0 rfl ?_
  refine A_iconst (v := 3) dX11_standsAt_6 rfl ?_
  refine A_icmp_ge (tgt := 89) dX11_standsAt_7 rfl (fun h7 => ?_) (fun h7 => ?_)
  · rw [show (3 : Int32) = nI 3 from rfl, nI_leI (by omega) (by omega)] at h7
    have em : m = 3 := by omega
    refine A_iload_n dX11_standsAt_89 rfl 1 rfl ?_
    exact A_iret dX11_standsAt_90 rfl (rti (by rw [em]) rfl)
  · rw [show (3 : Int32) = nI 3 from rfl, nI_leI (by omega) (by omega)] at h7
    refine A_iconst (v := 0) dX11_standsAt_10 rfl ?_
    refine A_istore (lv' := [(4, .int 0), (3, .int (nI m)), (2, .int (stB s t (4 * m))), (0, .ref 93), (1, .int (nI t))]) dX11_standsAt_11 (lb rfl) rfl ?_
    refine A_sub [0, 1, 2, 3, 4] rfl ?_
    exact lc_st1 t f s k p rz lz hC w ht m (by omega) ih 0 (by omega)
theorem c_standsAt (t : Nat) (f : Mem) (s : Sg) (k p rz lz : Ro) (hC : RC f s k p rz lz) (w : wfC s k p) (ht : t < 4) : C0 MX11_standsAt [.ref 93, .int (nI t)] f (rt (some (.int (whA s t))) f) := by
  rw [← stB_wh w.1.2.1 t]
  refine Ct.of (lv := [(0, .ref 93), (1, .int (nI t))]) (by decide) (lb rfl) rfl ?_
  refine A_bipush (v := -5) dX11_standsAt_0 rfl ?_
  refine A_istore_n (lv' := [(2, .int (-5)), (0, .ref 93), (1, .int (nI t))]) dX11_standsAt_2 rfl (lb rfl) rfl ?_
  refine A_iconst (v := 0) dX11_standsAt_3 rfl ?_
  refine A_istore_n (lv' := [(3, .int 0), (2, .int (-5)), (0, .ref 93), (1, .int (nI t))]) dX11_standsAt_4 rfl (lb rfl) rfl ?_
  refine A_sub [0, 1, 2, 3] rfl ?_
  exact lc_st t f s k p rz lz hC w ht 0 (by omega)
def chR (g : Nat → Nat) (sch : Int32) (n frm : Nat) : Nat → Int32
  | 0 => -1
  | i + 1 => if g ((frm + i) % n) = 0 ∧ (chR g sch n frm i < 0 ∨ sch = 2) then nI ((frm + i) % n) else chR g sch n frm i
theorem chR_c {g h : Nat → Nat} {sch : Int32} {n frm : Nat} (hn : 0 < n) (e : ∀ j, j < n → (g j = 0 ↔ h j = 0)) : ∀ i, chR g sch n frm i = chR h sch n frm i
  | 0 => rfl
  | i + 1 => by
    have q := e _ (Nat.mod_lt (frm + i) hn)
    rw [chR, chR, chR_c hn e i]
    by_cases z : g ((frm + i) % n) = 0 ∧ (chR h sch n frm i < 0 ∨ sch = 2)
    · rw [if_pos z, if_pos ⟨q.mp z.1, z.2⟩]
    · rw [if_neg z, if_neg (fun y => z ⟨q.mpr y.1, y.2⟩)]
theorem chF_c {g h : Nat → Nat} {ix : Nat → Nat} : ∀ {m i : Nat}, (∀ j, i ≤ j → j < i + m → (g (ix j) = 0 ↔ h (ix j) = 0)) → chF g ix m i = chF h ix m i
  | 0, _, _ => rfl
  | m + 1, i, e => by
    rw [chF, chF, chF_c (m := m) (i := i + 1) (fun j j1 j2 => e j (by omega) (by omega))]
    have q := e i (by omega) (by omega)
    by_cases z : g (ix i) = 0
    · rw [if_pos z, if_pos (q.mp z)]
    · rw [if_neg z, if_neg (fun y => z (q.mpr y))]
def b4 (a b c d : Nat) : Nat → Nat := fun i => [a, b, c, d].getD i 0
theorem ch_d0 : ∀ a, a < 2 → ∀ b, b < 2 → ∀ c, c < 2 → ∀ d, d < 2 → ∀ n, n < 5 → ∀ l, l < 5 → chR (b4 a b c d) 0 n 0 n = chF (b4 a b c d) (ixS 0 l n) n 0 := by decide +kernel
theorem ch_d1 : ∀ a, a < 2 → ∀ b, b < 2 → ∀ c, c < 2 → ∀ d, d < 2 → ∀ n, n < 5 → ∀ l, l < 5 → chR (b4 a b c d) 1 n l n = chF (b4 a b c d) (ixS 1 l n) n 0 := by decide +kernel
theorem ch_d2 : ∀ a, a < 2 → ∀ b, b < 2 → ∀ c, c < 2 → ∀ d, d < 2 → ∀ n, n < 5 → ∀ l, l < 5 → chR (b4 a b c d) 2 n 0 n = chF (b4 a b c d) (ixS 2 l n) n 0 := by decide +kernel
theorem ch_e {g : Nat → Nat} {sch : Int32} {n l : Nat} (hs : inR sch 3) (hn : n ≤ 4) (hl : l ≤ 4) : chR g sch n (if sch = 1 then l else 0) n = chF g (ixS sch l n) n 0 := by
  by_cases n0 : n = 0
  · rw [n0]; rfl
  · have hb : ∀ j, j < n → (g j = 0 ↔ b4 (if g 0 = 0 then 0 else 1) (if g 1 = 0 then 0 else 1) (if g 2 = 0 then 0 else 1) (if g 3 = 0 then 0 else 1) j = 0) := fun j hj => by
      match j, (show j < 4 by omega) with
      | 0, _ => show g 0 = 0 ↔ (if g 0 = 0 then 0 else 1) = 0; split <;> omega
      | 1, _ => show g 1 = 0 ↔ (if g 1 = 0 then 0 else 1) = 0; split <;> omega
      | 2, _ => show g 2 = 0 ↔ (if g 2 = 0 then 0 else 1) = 0; split <;> omega
      | 3, _ => show g 3 = 0 ↔ (if g 3 = 0 then 0 else 1) = 0; split <;> omega
    rw [chR_c (by omega) hb, chF_c (fun j j1 j2 => hb _ (ix_lt (by omega)))]
    have c2 : ∀ x : Nat, (if x = 0 then 0 else 1) < 2 := fun x => by split <;> omega
    obtain ⟨q, hq, eq⟩ := inR_of (by decide) hs
    match q, hq with
    | 0, _ => rw [eq]; exact ch_d0 _ (c2 _) _ (c2 _) _ (c2 _) _ (c2 _) n (by omega) l (by omega)
    | 1, _ => rw [eq]; exact ch_d1 _ (c2 _) _ (c2 _) _ (c2 _) _ (c2 _) n (by omega) l (by omega)
    | 2, _ => rw [eq]; exact ch_d2 _ (c2 _) _ (c2 _) _ (c2 _) _ (c2 _) n (by omega) l (by omega)
theorem lat_d : ∀ l, l < 5 → (if 0 ≤ lat5 l + 1 then lat5 l + 1 else (0 : Int32)) = nI l := by decide +kernel
theorem rm_d : ∀ l, l < 5 → ∀ i, i < 5 → ∀ n, n < 5 → 0 < n → (nI l + nI i) - (nI l + nI i) / nI n * nI n = nI ((l + i) % n) := by decide +kernel
theorem RC.la {f : Mem} {s : Sg} {k p rz lz : Ro} (h : RC f s k p rz lz) : f 94 56 = lat5 (s 15 0) := h.1 56 (by omega)
theorem chR_t {g : Nat → Nat} {sch : Int32} {n frm i : Nat} (h : g ((frm + i) % n) = 0 ∧ (chR g sch n frm i < 0 ∨ sch = 2)) : chR g sch n frm (i + 1) = nI ((frm + i) % n) := by rw [chR, if_pos h]
theorem chR_f {g : Nat → Nat} {sch : Int32} {n frm i : Nat} (h : ¬ (g ((frm + i) % n) = 0 ∧ (chR g sch n frm i < 0 ∨ sch = 2))) : chR g sch n frm (i + 1) = chR g sch n frm i := by rw [chR, if_neg h]
theorem lc_chosen (sch : Int32) (f : Mem) (s : Sg) (k p rz lz : Ro) (hC : RC f s k p rz lz) (w : wfC s k p) (hs : inR sch 3) (frm : Nat) (hf : frm ≤ 4) : ∀ i, i ≤ s 13 0 → A (cM MX11_chosen 0 0 layT layT (rt (some (.int (chR (s 1) sch (s 13 0) frm (s 13 0)))) f)) 34 [(4, .int (nI i)), (3, .int (nI frm)), (2, .int (chR (s 1) sch (s 13 0) frm i)), (0, .ref 93), (1, .int sch)] [] f := by
  have h13 := w.2.2.2.2.1
  refine up_ind (s 13 0) (fun i hi ih => ?_)
  refine A_iload dX11_chosen_34 0 rfl ?_
  refine A_aload_n dX11_chosen_36 rfl 3 rfl ?_
  refine A_getR (b := 94) dX11_chosen_37 fo_RX11_9 L93 rfl ?_
  refine A_bipush (v := 52) dX11_chosen_40 rfl ?_
  refine A_iaload 52 dX11_chosen_42 L94 (rfl) (by decide) (lb rfl) ?_
  refine A_topi (nI (s 13 0)) (hC.n) ?_
  refine A_icmp_ge (tgt := 103) dX11_chosen_43 rfl (fun h43 => ?_) (fun h43 => ?_)
  · rw [nI_leI (by omega) (by omega)] at h43
    have ei : i = s 13 0 := by omega
    refine A_iload_n dX11_chosen_103 rfl 2 rfl ?_
    exact A_iret dX11_chosen_104 rfl (rti (by rw [ei]) rfl)
  · rw [nI_leI (by omega) (by omega)] at h43
    have hm : ((frm + i) % s 13 0) < s 13 0 := Nat.mod_lt _ (by omega)
    refine A_iload_n dX11_chosen_46 rfl 1 rfl ?_
    refine A_iload dX11_chosen_47 0 rfl ?_
    refine A_iadd dX11_chosen_49 ?_
    refine A_aload_n dX11_chosen_50 rfl 3 rfl ?_
    refine A_getR (b := 94) dX11_chosen_51 fo_RX11_9 L93 rfl ?_
    refine A_bipush (v := 52) dX11_chosen_54 rfl ?_
    refine A_iaload 52 dX11_chosen_56 L94 (rfl) (by decide) (lb rfl) ?_
    refine A_topi (nI (s 13 0)) (hC.n) ?_
    refine A_irem dX11_chosen_57 (n_ne0 _ (by omega) (by omega)) ?_
    refine A_topi (nI ((frm + i) % s 13 0)) (rm_d frm (by omega) i (by omega) (s 13 0) (by omega) (by omega)) ?_
    refine A_istore (lv' := [(5, .int (nI ((frm + i) % s 13 0))), (4, .int (nI i)), (3, .int (nI frm)), (2, .int (chR (s 1) sch (s 13 0) frm i)), (0, .ref 93), (1, .int sch)]) dX11_chosen_58 (lb rfl) rfl ?_
    refine A_aload_n dX11_chosen_60 rfl 4 rfl ?_
    refine A_iload dX11_chosen_61 0 rfl ?_
    refine A_callV (M' := MX11_isReady) [.int (nI ((frm + i) % s 13 0))] [] 93 dX11_chosen_63 lk_RX11_191 oX11_isReady iX11_isReady rfl rfl ⟨lb rfl, lb rfl⟩ (lb rfl) ⟨lb rfl, lb rfl⟩ L93 rfl (c_isReady (nI ((frm + i) % s 13 0)) _ s k p rz lz hC w.2.2.2.2.1 w.1) ?_
    rintro _ g0 ⟨rfl, hg0⟩
    rw [hg0]
    refine A_topi (bz (s 1 ((frm + i) % s 13 0) = 0)) (bz_c ⟨fun q => by have := q.2; rwa [nI_clamp (by omega)] at this, fun q => ⟨(inR_nI (by omega)).mpr hm, by rw [nI_clamp (by omega)]; exact q⟩⟩) ?_
    refine A_if_eq (tgt := 82) dX11_chosen_66 rfl (fun h66 => ?_) (fun h66 => ?_)
    · refine A_iconst (v := 0) dX11_chosen_82 rfl ?_
      refine A_istore (lv' := [(6, .int 0), (5, .int (nI ((frm + i) % s 13 0))), (4, .int (nI i)), (3, .int (nI frm)), (2, .int (chR (s 1) sch (s 13 0) frm i)), (0, .ref 93), (1, .int sch)]) dX11_chosen_83 (lb rfl) rfl ?_
      refine A_iload dX11_chosen_85 0 rfl ?_
      refine A_if_eq (tgt := 95) dX11_chosen_87 rfl (fun h87 => ?_) (fun h87 => absurd (by decide) h87)
      refine A_iload_n dX11_chosen_95 rfl 4 rfl ?_
      refine A_istore_n (lv' := [(2, .int (chR (s 1) sch (s 13 0) frm i)), (6, .int 0), (5, .int (nI ((frm + i) % s 13 0))), (4, .int (nI i)), (3, .int (nI frm)), (0, .ref 93), (1, .int sch)]) dX11_chosen_96 rfl (lb rfl) rfl ?_
      refine A_iinc (lv' := [(4, .int (nI (i + 1))), (2, .int (chR (s 1) sch (s 13 0) frm i)), (6, .int 0), (5, .int (nI ((frm + i) % s 13 0))), (3, .int (nI frm)), (0, .ref 93), (1, .int sch)]) dX11_chosen_97 3 rfl (nI_add i 1) (lb rfl) rfl ?_
      refine A_goto (tgt := 34) dX11_chosen_100 rfl ?_
      refine A_sub [0, 4, 1, 5, 6] rfl ?_
      have e := ih (i + 1) (by omega) (by omega)
      rw [chR_f (fun q => by first | exact bz_0.mp h66 q.1 | exact q.2.elim h70 h75)] at e
      exact e
    · refine A_iload_n dX11_chosen_69 rfl 3 rfl ?_
      refine A_if_lt (tgt := 78) dX11_chosen_70 rfl (fun h70 => ?_) (fun h70 => ?_)
      · refine A_iconst (v := 1) dX11_chosen_78 rfl ?_
        refine A_goto (tgt := 83) dX11_chosen_79 rfl ?_
        refine A_istore (lv' := [(6, .int 1), (5, .int (nI ((frm + i) % s 13 0))), (4, .int (nI i)), (3, .int (nI frm)), (2, .int (chR (s 1) sch (s 13 0) frm i)), (0, .ref 93), (1, .int sch)]) dX11_chosen_83 (lb rfl) rfl ?_
        refine A_iload dX11_chosen_85 0 rfl ?_
        refine A_if_eq (tgt := 95) dX11_chosen_87 rfl (fun h87 => absurd h87 (by decide)) (fun h87 => ?_)
        refine A_iload dX11_chosen_90 1 rfl ?_
        refine A_goto (tgt := 96) dX11_chosen_92 rfl ?_
        refine A_istore_n (lv' := [(2, .int (nI ((frm + i) % s 13 0))), (6, .int 1), (5, .int (nI ((frm + i) % s 13 0))), (4, .int (nI i)), (3, .int (nI frm)), (0, .ref 93), (1, .int sch)]) dX11_chosen_96 rfl (lb rfl) rfl ?_
        refine A_iinc (lv' := [(4, .int (nI (i + 1))), (2, .int (nI ((frm + i) % s 13 0))), (6, .int 1), (5, .int (nI ((frm + i) % s 13 0))), (3, .int (nI frm)), (0, .ref 93), (1, .int sch)]) dX11_chosen_97 3 rfl (nI_add i 1) (lb rfl) rfl ?_
        refine A_goto (tgt := 34) dX11_chosen_100 rfl ?_
        refine A_sub [0, 4, 1, 5, 6] rfl ?_
        have e := ih (i + 1) (by omega) (by omega)
        rw [chR_t ⟨bz_n0.mp h66, by first | exact Or.inl h70 | exact Or.inr h75⟩] at e
        exact e
      · refine A_iload_n dX11_chosen_73 rfl 5 rfl ?_
        refine A_iconst (v := 2) dX11_chosen_74 rfl ?_
        refine A_icmp_ne (tgt := 82) dX11_chosen_75 rfl (fun h75 => ?_) (fun h75 => ?_)
        · refine A_iconst (v := 0) dX11_chosen_82 rfl ?_
          refine A_istore (lv' := [(6, .int 0), (5, .int (nI ((frm + i) % s 13 0))), (4, .int (nI i)), (3, .int (nI frm)), (2, .int (chR (s 1) sch (s 13 0) frm i)), (0, .ref 93), (1, .int sch)]) dX11_chosen_83 (lb rfl) rfl ?_
          refine A_iload dX11_chosen_85 0 rfl ?_
          refine A_if_eq (tgt := 95) dX11_chosen_87 rfl (fun h87 => ?_) (fun h87 => absurd (by decide) h87)
          refine A_iload_n dX11_chosen_95 rfl 4 rfl ?_
          refine A_istore_n (lv' := [(2, .int (chR (s 1) sch (s 13 0) frm i)), (6, .int 0), (5, .int (nI ((frm + i) % s 13 0))), (4, .int (nI i)), (3, .int (nI frm)), (0, .ref 93), (1, .int sch)]) dX11_chosen_96 rfl (lb rfl) rfl ?_
          refine A_iinc (lv' := [(4, .int (nI (i + 1))), (2, .int (chR (s 1) sch (s 13 0) frm i)), (6, .int 0), (5, .int (nI ((frm + i) % s 13 0))), (3, .int (nI frm)), (0, .ref 93), (1, .int sch)]) dX11_chosen_97 3 rfl (nI_add i 1) (lb rfl) rfl ?_
          refine A_goto (tgt := 34) dX11_chosen_100 rfl ?_
          refine A_sub [0, 4, 1, 5, 6] rfl ?_
          have e := ih (i + 1) (by omega) (by omega)
          rw [chR_f (fun q => by first | exact bz_0.mp h66 q.1 | exact q.2.elim h70 h75)] at e
          exact e
        · refine A_iconst (v := 1) dX11_chosen_78 rfl ?_
          refine A_goto (tgt := 83) dX11_chosen_79 rfl ?_
          refine A_istore (lv' := [(6, .int 1), (5, .int (nI ((frm + i) % s 13 0))), (4, .int (nI i)), (3, .int (nI frm)), (2, .int (chR (s 1) sch (s 13 0) frm i)), (0, .ref 93), (1, .int sch)]) dX11_chosen_83 (lb rfl) rfl ?_
          refine A_iload dX11_chosen_85 0 rfl ?_
          refine A_if_eq (tgt := 95) dX11_chosen_87 rfl (fun h87 => absurd h87 (by decide)) (fun h87 => ?_)
          refine A_iload dX11_chosen_90 1 rfl ?_
          refine A_goto (tgt := 96) dX11_chosen_92 rfl ?_
          refine A_istore_n (lv' := [(2, .int (nI ((frm + i) % s 13 0))), (6, .int 1), (5, .int (nI ((frm + i) % s 13 0))), (4, .int (nI i)), (3, .int (nI frm)), (0, .ref 93), (1, .int sch)]) dX11_chosen_96 rfl (lb rfl) rfl ?_
          refine A_iinc (lv' := [(4, .int (nI (i + 1))), (2, .int (nI ((frm + i) % s 13 0))), (6, .int 1), (5, .int (nI ((frm + i) % s 13 0))), (3, .int (nI frm)), (0, .ref 93), (1, .int sch)]) dX11_chosen_97 3 rfl (nI_add i 1) (lb rfl) rfl ?_
          refine A_goto (tgt := 34) dX11_chosen_100 rfl ?_
          refine A_sub [0, 4, 1, 5, 6] rfl ?_
          have e := ih (i + 1) (by omega) (by omega)
          rw [chR_t ⟨bz_n0.mp h66, by first | exact Or.inl h70 | exact Or.inr h75⟩] at e
          exact e
theorem c_chosen (sch : Int32) (f : Mem) (s : Sg) (k p rz lz : Ro) (hC : RC f s k p rz lz) (w : wfC s k p) (hs : inR sch 3) : C0 MX11_chosen [.ref 93, .int sch] f (rt (some (.int (chF (s 1) (ixS sch (s 15 0) (s 13 0)) (s 13 0) 0))) f) := by
  have h13 := w.2.2.2.2.1
  have h15 := w.2.2.2.2.2.1
  rw [← ch_e hs (by omega) (by omega)]
  refine Ct.of (lv := [(0, .ref 93), (1, .int sch)]) (by decide) (lb rfl) rfl ?_
  refine A_iconst (v := -1) dX11_chosen_0 rfl ?_
  refine A_istore_n (lv' := [(2, .int (-1)), (0, .ref 93), (1, .int sch)]) dX11_chosen_1 rfl (lb rfl) rfl ?_
  refine A_iload_n dX11_chosen_2 rfl 2 rfl ?_
  refine A_iconst (v := 1) dX11_chosen_3 rfl ?_
  refine A_icmp_ne (tgt := 19) dX11_chosen_4 rfl (fun h4 => ?_) (fun h4 => ?_)
  · refine A_iconst (v := 0) dX11_chosen_19 rfl ?_
    refine A_istore_n (lv' := [(3, .int 0), (2, .int (-1)), (0, .ref 93), (1, .int sch)]) dX11_chosen_20 rfl (lb rfl) rfl ?_
    refine A_iload_n dX11_chosen_21 rfl 0 rfl ?_
    refine A_if_ge (tgt := 29) dX11_chosen_22 rfl (fun h22 => ?_) (fun h22 => ?_)
    · refine A_iload_n dX11_chosen_29 rfl 0 rfl ?_
      refine A_istore_n (lv' := [(3, .int 0), (2, .int (-1)), (0, .ref 93), (1, .int sch)]) dX11_chosen_30 rfl (lb rfl) rfl ?_
      refine A_iconst (v := 0) dX11_chosen_31 rfl ?_
      refine A_istore (lv' := [(4, .int 0), (3, .int 0), (2, .int (-1)), (0, .ref 93), (1, .int sch)]) dX11_chosen_32 (lb rfl) rfl ?_
      refine A_sub [0, 1, 2, 3, 4] rfl ?_
      refine A_eq (lv' := [(4, .int (nI 0)), (3, .int (nI (if sch = 1 then s 15 0 else 0))), (2, .int (chR (s 1) sch (s 13 0) (if sch = 1 then s 15 0 else 0) 0)), (0, .ref 93), (1, .int sch)]) (by first | (rw [if_neg h4]; rfl) | (rw [if_pos h4]; have e3 := lat_d (s 15 0) (by omega); first | (rw [if_pos h22] at e3; rw [← e3]; rfl) | (rw [if_neg h22] at e3; rw [← e3]; rfl))) rfl rfl ?_
      exact lc_chosen sch f s k p rz lz hC w hs _ (by split <;> omega) 0 (by omega)
    · refine A_iconst (v := 0) dX11_chosen_25 rfl ?_
      refine A_goto (tgt := 30) dX11_chosen_26 rfl ?_
      refine A_istore_n (lv' := [(3, .int 0), (2, .int (-1)), (0, .ref 93), (1, .int sch)]) dX11_chosen_30 rfl (lb rfl) rfl ?_
      refine A_iconst (v := 0) dX11_chosen_31 rfl ?_
      refine A_istore (lv' := [(4, .int 0), (3, .int 0), (2, .int (-1)), (0, .ref 93), (1, .int sch)]) dX11_chosen_32 (lb rfl) rfl ?_
      refine A_sub [0, 1, 2, 3, 4] rfl ?_
      refine A_eq (lv' := [(4, .int (nI 0)), (3, .int (nI (if sch = 1 then s 15 0 else 0))), (2, .int (chR (s 1) sch (s 13 0) (if sch = 1 then s 15 0 else 0) 0)), (0, .ref 93), (1, .int sch)]) (by first | (rw [if_neg h4]; rfl) | (rw [if_pos h4]; have e3 := lat_d (s 15 0) (by omega); first | (rw [if_pos h22] at e3; rw [← e3]; rfl) | (rw [if_neg h22] at e3; rw [← e3]; rfl))) rfl rfl ?_
      exact lc_chosen sch f s k p rz lz hC w hs _ (by split <;> omega) 0 (by omega)
  · refine A_aload_n dX11_chosen_7 rfl 1 rfl ?_
    refine A_getR (b := 94) dX11_chosen_8 fo_RX11_9 L93 rfl ?_
    refine A_bipush (v := 56) dX11_chosen_11 rfl ?_
    refine A_iaload 56 dX11_chosen_13 L94 (rfl) (by decide) (lb rfl) ?_
    refine A_topi (lat5 (s 15 0)) (hC.la) ?_
    refine A_iconst (v := 1) dX11_chosen_14 rfl ?_
    refine A_iadd dX11_chosen_15 ?_
    refine A_goto (tgt := 20) dX11_chosen_16 rfl ?_
    refine A_istore_n (lv' := [(3, .int ((lat5 (s 15 0)) + 1)), (2, .int (-1)), (0, .ref 93), (1, .int sch)]) dX11_chosen_20 rfl (lb rfl) rfl ?_
    refine A_iload_n dX11_chosen_21 rfl 0 rfl ?_
    refine A_if_ge (tgt := 29) dX11_chosen_22 rfl (fun h22 => ?_) (fun h22 => ?_)
    · refine A_iload_n dX11_chosen_29 rfl 0 rfl ?_
      refine A_istore_n (lv' := [(3, .int ((lat5 (s 15 0)) + 1)), (2, .int (-1)), (0, .ref 93), (1, .int sch)]) dX11_chosen_30 rfl (lb rfl) rfl ?_
      refine A_iconst (v := 0) dX11_chosen_31 rfl ?_
      refine A_istore (lv' := [(4, .int 0), (3, .int ((lat5 (s 15 0)) + 1)), (2, .int (-1)), (0, .ref 93), (1, .int sch)]) dX11_chosen_32 (lb rfl) rfl ?_
      refine A_sub [0, 1, 2, 3, 4] rfl ?_
      refine A_eq (lv' := [(4, .int (nI 0)), (3, .int (nI (if sch = 1 then s 15 0 else 0))), (2, .int (chR (s 1) sch (s 13 0) (if sch = 1 then s 15 0 else 0) 0)), (0, .ref 93), (1, .int sch)]) (by first | (rw [if_neg h4]; rfl) | (rw [if_pos h4]; have e3 := lat_d (s 15 0) (by omega); first | (rw [if_pos h22] at e3; rw [← e3]; rfl) | (rw [if_neg h22] at e3; rw [← e3]; rfl))) rfl rfl ?_
      exact lc_chosen sch f s k p rz lz hC w hs _ (by split <;> omega) 0 (by omega)
    · refine A_iconst (v := 0) dX11_chosen_25 rfl ?_
      refine A_goto (tgt := 30) dX11_chosen_26 rfl ?_
      refine A_istore_n (lv' := [(3, .int 0), (2, .int (-1)), (0, .ref 93), (1, .int sch)]) dX11_chosen_30 rfl (lb rfl) rfl ?_
      refine A_iconst (v := 0) dX11_chosen_31 rfl ?_
      refine A_istore (lv' := [(4, .int 0), (3, .int 0), (2, .int (-1)), (0, .ref 93), (1, .int sch)]) dX11_chosen_32 (lb rfl) rfl ?_
      refine A_sub [0, 1, 2, 3, 4] rfl ?_
      refine A_eq (lv' := [(4, .int (nI 0)), (3, .int (nI (if sch = 1 then s 15 0 else 0))), (2, .int (chR (s 1) sch (s 13 0) (if sch = 1 then s 15 0 else 0) 0)), (0, .ref 93), (1, .int sch)]) (by first | (rw [if_neg h4]; rfl) | (rw [if_pos h4]; have e3 := lat_d (s 15 0) (by omega); first | (rw [if_pos h22] at e3; rw [← e3]; rfl) | (rw [if_neg h22] at e3; rw [← e3]; rfl))) rfl rfl ?_
      exact lc_chosen sch f s k p rz lz hC w hs _ (by split <;> omega) 0 (by omega)
