/-! what the reference asks of all that is found -/
theorem RE.rw {f : Mem} {q : Sr} (x : RE f q) (h6 : q.1 ≤ 600) {i : Nat} (hi : i < q.1) : isRw f 104 (52 * i) 31200 (q.2.1 i).1 (q.2.1 i).2 := ⟨rfl, by omega, by decide, fun j hj => x.1.2.1 i hi j hj⟩
theorem fi_at {g : Nat → Nat} {i : Nat} (h0 : fi g i = 0) (h1 : g i = 1) : ∀ N, i < N → fi g N = i + 1
  | N + 1, h => by
    rcases Nat.lt_or_ge i N with q | q
    · have e := fi_at h0 h1 N q
      show (if fi g N = 0 then (if g N = 1 then N + 1 else 0) else fi g N) = i + 1
      rw [if_neg (by omega)]; exact e
    · have e : i = N := by omega
      subst e
      show (if fi g i = 0 then (if g i = 1 then i + 1 else 0) else fi g i) = i + 1
      rw [if_pos h0, if_pos h1]
theorem fi_z {g : Nat → Nat} {i : Nat} (h0 : fi g i = 0) (h1 : ¬ g i = 1) : fi g (i + 1) = 0 := by
  show (if fi g i = 0 then (if g i = 1 then i + 1 else 0) else fi g i) = 0
  rw [if_pos h0, if_neg h1]
theorem st_1 {n : Nat} {v : Pt} : stb n v = 1 ↔ stickP v.1 n := by
  unfold stb; split
  · rename_i h; exact ⟨fun _ => h, fun _ => rfl⟩
  · rename_i h; exact ⟨fun z => absurd z (by decide), fun z => absurd z h⟩
theorem ov_1 {n : Nat} {v : Pt} : ovb n v = 1 ↔ overP v.1 n := by
  unfold ovb; split
  · rename_i h; exact ⟨fun _ => h, fun _ => rfl⟩
  · rename_i h; exact ⟨fun z => absurd z (by decide), fun z => absurd z h⟩
theorem fa_1 {d : Cd} {v : Pt} : fab d v = 1 ↔ ¬ allS d.1 d.2.1 d.2.2.1 d.2.2.2 v.2 := by
  unfold fab; split
  · rename_i h; exact ⟨fun z => absurd z (by decide), fun z => absurd h z⟩
  · rename_i h; exact ⟨fun _ => h, fun _ => rfl⟩
theorem cnt_t {g : Nat → Nat} {i : Nat} (h : g i = 1) : cnt g (i + 1) = cnt g i + 1 := by show cnt g i + g i = _; rw [h]
theorem cnt_f {g : Nat → Nat} {i : Nat} (h : g i = 0) : cnt g (i + 1) = cnt g i := by show cnt g i + g i = _; rw [h]; rfl
theorem lc_fS (f : Mem) (s : Sg) (k p rz lz : Ro) (hC : RC f s k p rz lz) (w : wfC s k p) (q : Sr) (x : RE f q) (hJ : Jq p (s, k) q) : ∀ i, i ≤ q.1 → fi (fun i => stb (s 13 0) (q.2.1 i)) i = 0 → A (cM MX11_firstSticking 0 0 layT layT (rt (some (.int (nI (fi (fun i => stb (s 13 0) (q.2.1 i)) q.1) - 1))) f)) 2 [(1, .int (nI i)), (0, .ref 93)] [] f := by
  have h600 := hJ.2.1
  refine up_ind q.1 (fun i hi ih hz => ?_)
  refine A_iload_n dX11_firstSticking_2 rfl 0 rfl ?_
  refine A_aload_n dX11_firstSticking_3 rfl 1 rfl ?_
  refine A_getI dX11_firstSticking_4 fo_RX11_231 L93 rfl ?_
  refine A_topi (nI q.1) x.1.1 ?_
  refine A_icmp_ge (tgt := 33) dX11_firstSticking_7 rfl (fun h7 => ?_) (fun h7 => ?_)
  · rw [nI_leI (by omega) (by omega)] at h7
    refine A_iconst (v := -1) dX11_firstSticking_33 rfl ?_
    exact A_iret dX11_firstSticking_34 rfl (rti (by rw [show q.1 = i by omega, hz]; decide) rfl)
  · rw [nI_leI (by omega) (by omega)] at h7
    refine A_aload_n dX11_firstSticking_10 rfl 1 rfl ?_
    refine A_aload_n dX11_firstSticking_11 rfl 1 rfl ?_
    refine A_getR (b := 104) dX11_firstSticking_12 fo_RX11_40 L93 rfl ?_
    refine A_bipush (v := 52) dX11_firstSticking_15 rfl ?_
    refine A_iload_n dX11_firstSticking_17 rfl 0 rfl ?_
    refine A_imul dX11_firstSticking_18 ?_
    refine A_topi (nI (52 * i)) (pk_mul 52 i) ?_
    refine A_callV (M' := MX11_sticks) [.ref 104, .int (nI (52 * i))] [] 93 dX11_firstSticking_19 lk_RX11_221 oX11_sticks iX11_sticks rfl rfl ⟨lb rfl, lb rfl⟩ (lb rfl) ⟨lb rfl, lb rfl⟩ L93 rfl (c_sticks f 104 (52 * i) 31200 _ _ (x.rw h600 (by omega)) hC.n w.2.2.2.2.1) ?_
    rintro _ g0 ⟨rfl, hg0⟩
    rw [hg0]
    refine A_if_eq (tgt := 27) dX11_firstSticking_22 rfl (fun h22 => ?_) (fun h22 => ?_)
    · refine A_iinc (lv' := [(1, .int (nI (i + 1))), (0, .ref 93)]) dX11_firstSticking_27 0 rfl (nI_add i 1) (lb rfl) rfl ?_
      refine A_goto (tgt := 2) dX11_firstSticking_30 rfl ?_
      exact ih (i + 1) (by omega) (by omega) (fi_z hz (fun z => bz_0.mp h22 (st_1.mp z)))
    · refine A_iload_n dX11_firstSticking_25 rfl 0 rfl ?_
      exact A_iret dX11_firstSticking_26 rfl (rti (by rw [fi_at hz (st_1.mpr (bz_n0.mp h22)) q.1 (by omega), nI_pred]) rfl)
theorem c_fS (f : Mem) (s : Sg) (k p rz lz : Ro) (hC : RC f s k p rz lz) (w : wfC s k p) (q : Sr) (x : RE f q) (hJ : Jq p (s, k) q) : C0 MX11_firstSticking [.ref 93] f (rt (some (.int (nI (fi (fun i => stb (s 13 0) (q.2.1 i)) q.1) - 1))) f) := by
  refine Ct.of (lv := [(0, .ref 93)]) (by decide) (lb rfl) rfl ?_
  refine A_iconst (v := 0) dX11_firstSticking_0 rfl ?_
  refine A_istore_n (lv' := [(1, .int 0), (0, .ref 93)]) dX11_firstSticking_1 rfl (lb rfl) rfl ?_
  exact lc_fS f s k p rz lz hC w q x hJ 0 (by omega) rfl
theorem lc_fF (f : Mem) (s : Sg) (k p rz lz : Ro) (hC : RC f s k p rz lz) (w : wfC s k p) (q : Sr) (x : RE f q) (hJ : Jq p (s, k) q) (d : Cd) (hNc : RNc f d.1 d.2.1 d.2.2.1 d.2.2.2) (hwN : wN d.1 d.2.1 d.2.2.1) : ∀ i, i ≤ q.1 → fi (fun i => fab d (q.2.1 i)) i = 0 → A (cM MX11_firstFailing 0 0 layT layT (rt (some (.int (nI (fi (fun i => fab d (q.2.1 i)) q.1) - 1))) f)) 2 [(1, .int (nI i)), (0, .ref 93)] [] f := by
  have h600 := hJ.2.1
  refine up_ind q.1 (fun i hi ih hz => ?_)
  refine A_iload_n dX11_firstFailing_2 rfl 0 rfl ?_
  refine A_aload_n dX11_firstFailing_3 rfl 1 rfl ?_
  refine A_getI dX11_firstFailing_4 fo_RX11_231 L93 rfl ?_
  refine A_topi (nI q.1) x.1.1 ?_
  refine A_icmp_ge (tgt := 33) dX11_firstFailing_7 rfl (fun h7 => ?_) (fun h7 => ?_)
  · rw [nI_leI (by omega) (by omega)] at h7
    refine A_iconst (v := -1) dX11_firstFailing_33 rfl ?_
    exact A_iret dX11_firstFailing_34 rfl (rti (by rw [show q.1 = i by omega, hz]; decide) rfl)
  · rw [nI_leI (by omega) (by omega)] at h7
    refine A_aload_n dX11_firstFailing_10 rfl 1 rfl ?_
    refine A_aload_n dX11_firstFailing_11 rfl 1 rfl ?_
    refine A_getR (b := 104) dX11_firstFailing_12 fo_RX11_40 L93 rfl ?_
    refine A_bipush (v := 52) dX11_firstFailing_15 rfl ?_
    refine A_iload_n dX11_firstFailing_17 rfl 0 rfl ?_
    refine A_imul dX11_firstFailing_18 ?_
    refine A_topi (nI (52 * i)) (pk_mul 52 i) ?_
    refine A_callV (M' := MX11_areSo) [.ref 104, .int (nI (52 * i))] [] 93 dX11_firstFailing_19 lk_RX11_241 oX11_areSo iX11_areSo rfl rfl ⟨lb rfl, lb rfl⟩ (lb rfl) ⟨lb rfl, lb rfl⟩ L93 rfl (c_areSo f 104 (52 * i) 31200 _ _ (x.rw h600 (by omega)) d.1 d.2.1 d.2.2.1 d.2.2.2 hNc hwN) ?_
    rintro _ g0 ⟨rfl, hg0⟩
    rw [hg0]
    refine A_if_ne (tgt := 27) dX11_firstFailing_22 rfl (fun h22 => ?_) (fun h22 => ?_)
    · refine A_iinc (lv' := [(1, .int (nI (i + 1))), (0, .ref 93)]) dX11_firstFailing_27 0 rfl (nI_add i 1) (lb rfl) rfl ?_
      refine A_goto (tgt := 2) dX11_firstFailing_30 rfl ?_
      exact ih (i + 1) (by omega) (by omega) (fi_z hz (fun z => (fa_1.mp z) (bz_n0.mp h22)))
    · refine A_iload_n dX11_firstFailing_25 rfl 0 rfl ?_
      exact A_iret dX11_firstFailing_26 rfl (rti (by rw [fi_at hz (fa_1.mpr (bz_0.mp h22)) q.1 (by omega), nI_pred]) rfl)
theorem c_fF (f : Mem) (s : Sg) (k p rz lz : Ro) (hC : RC f s k p rz lz) (w : wfC s k p) (q : Sr) (x : RE f q) (hJ : Jq p (s, k) q) (d : Cd) (hNc : RNc f d.1 d.2.1 d.2.2.1 d.2.2.2) (hwN : wN d.1 d.2.1 d.2.2.1) : C0 MX11_firstFailing [.ref 93] f (rt (some (.int (nI (fi (fun i => fab d (q.2.1 i)) q.1) - 1))) f) := by
  refine Ct.of (lv := [(0, .ref 93)]) (by decide) (lb rfl) rfl ?_
  refine A_iconst (v := 0) dX11_firstFailing_0 rfl ?_
  refine A_istore_n (lv' := [(1, .int 0), (0, .ref 93)]) dX11_firstFailing_1 rfl (lb rfl) rfl ?_
  exact lc_fF f s k p rz lz hC w q x hJ d hNc hwN 0 (by omega) rfl
theorem lc_deep (f : Mem) (s : Sg) (k p rz lz : Ro) (hC : RC f s k p rz lz) (w : wfC s k p) (q : Sr) (x : RE f q) (hJ : Jq p (s, k) q) (hW : Jw q) : ∀ i, i ≤ q.1 → A (cM MX11_deepest 0 0 layT layT (rt (some (.int (dpf q q.1))) f)) 4 [(2, .int (nI i)), (1, .int (nI (if i = 0 then 0 else q.2.2.2.2.1 (i - 1)))), (0, .ref 93)] [] f := by
  have h600 := hJ.2.1
  refine up_ind q.1 (fun i hi ih => ?_)
  refine A_iload_n dX11_deepest_4 rfl 0 rfl ?_
  refine A_aload_n dX11_deepest_5 rfl 2 rfl ?_
  refine A_getI dX11_deepest_6 fo_RX11_231 L93 rfl ?_
  refine A_topi (nI q.1) x.1.1 ?_
  refine A_icmp_ge (tgt := 39) dX11_deepest_9 rfl (fun h9 => ?_) (fun h9 => ?_)
  · rw [nI_leI (by omega) (by omega)] at h9
    refine A_iload_n dX11_deepest_39 rfl 1 rfl ?_
    exact A_iret dX11_deepest_40 rfl (rti (by rw [show i = q.1 by omega, dpf, if_neg (by have := hW.1; omega), if_neg (by have := hW.1; omega)]) rfl)
  · rw [nI_leI (by omega) (by omega)] at h9
    refine A_aload_n dX11_deepest_12 rfl 2 rfl ?_
    refine A_getR (b := 107) dX11_deepest_13 fo_RX11_49 L93 rfl ?_
    refine A_iload_n dX11_deepest_16 rfl 0 rfl ?_
    refine A_iaload i dX11_deepest_17 L107 (rfl) (by omega) (lb rfl) ?_
    refine A_topi (nI (q.2.2.2.2.1 i)) (x.2.2.2 i (by omega)) ?_
    refine A_iload_n dX11_deepest_18 rfl 1 rfl ?_
    refine A_icmp_le (tgt := 31) dX11_deepest_19 rfl (fun h19 => ?_) (fun h19 => ?_)
    · have hli := hW.le i (by omega)
      have hlm : (if i = 0 then 0 else q.2.2.2.2.1 (i - 1)) ≤ q.2.2.2.2.1 i := by split; omega; exact hW.2.2.1 (i - 1) i (by omega) (by omega)
      rw [nI_leI (by omega) (by omega)] at h19
      refine A_iload_n dX11_deepest_31 rfl 1 rfl ?_
      refine A_istore_n (lv' := [(1, .int (nI (if i = 0 then 0 else q.2.2.2.2.1 (i - 1)))), (2, .int (nI i)), (0, .ref 93)]) dX11_deepest_32 rfl (lb rfl) rfl ?_
      refine A_iinc (lv' := [(2, .int (nI (i + 1))), (1, .int (nI (if i = 0 then 0 else q.2.2.2.2.1 (i - 1)))), (0, .ref 93)]) dX11_deepest_33 1 rfl (nI_add i 1) (lb rfl) rfl ?_
      refine A_goto (tgt := 4) dX11_deepest_36 rfl ?_
      have r := ih (i + 1) (by omega) (by omega)
      rw [if_neg (by omega), show i + 1 - 1 = i by omega] at r
      rw [show (if i = 0 then 0 else q.2.2.2.2.1 (i - 1)) = q.2.2.2.2.1 i by omega]
      refine A_sub [0, 1, 2] rfl ?_
      exact r
    · have hli := hW.le i (by omega)
      have hlm : (if i = 0 then 0 else q.2.2.2.2.1 (i - 1)) ≤ q.2.2.2.2.1 i := by split; omega; exact hW.2.2.1 (i - 1) i (by omega) (by omega)
      rw [nI_leI (by omega) (by omega)] at h19
      refine A_aload_n dX11_deepest_22 rfl 2 rfl ?_
      refine A_getR (b := 107) dX11_deepest_23 fo_RX11_49 L93 rfl ?_
      refine A_iload_n dX11_deepest_26 rfl 0 rfl ?_
      refine A_iaload i dX11_deepest_27 L107 (rfl) (by omega) (lb rfl) ?_
      refine A_topi (nI (q.2.2.2.2.1 i)) (x.2.2.2 i (by omega)) ?_
      refine A_goto (tgt := 32) dX11_deepest_28 rfl ?_
      refine A_istore_n (lv' := [(1, .int (nI (q.2.2.2.2.1 i))), (2, .int (nI i)), (0, .ref 93)]) dX11_deepest_32 rfl (lb rfl) rfl ?_
      refine A_iinc (lv' := [(2, .int (nI (i + 1))), (1, .int (nI (q.2.2.2.2.1 i))), (0, .ref 93)]) dX11_deepest_33 1 rfl (nI_add i 1) (lb rfl) rfl ?_
      refine A_goto (tgt := 4) dX11_deepest_36 rfl ?_
      have r := ih (i + 1) (by omega) (by omega)
      rw [if_neg (by omega), show i + 1 - 1 = i by omega] at r
      refine A_sub [0, 1, 2] rfl ?_
      exact r
theorem c_deep (f : Mem) (s : Sg) (k p rz lz : Ro) (hC : RC f s k p rz lz) (w : wfC s k p) (q : Sr) (x : RE f q) (hJ : Jq p (s, k) q) (hW : Jw q) : C0 MX11_deepest [.ref 93] f (rt (some (.int (dpf q q.1))) f) := by
  refine Ct.of (lv := [(0, .ref 93)]) (by decide) (lb rfl) rfl ?_
  refine A_iconst (v := 0) dX11_deepest_0 rfl ?_
  refine A_istore_n (lv' := [(1, .int 0), (0, .ref 93)]) dX11_deepest_1 rfl (lb rfl) rfl ?_
  refine A_iconst (v := 0) dX11_deepest_2 rfl ?_
  refine A_istore_n (lv' := [(2, .int 0), (1, .int 0), (0, .ref 93)]) dX11_deepest_3 rfl (lb rfl) rfl ?_
  have r := lc_deep f s k p rz lz hC w q x hJ hW 0 (by omega)
  rw [if_pos rfl] at r
  exact r
theorem lc_many1 (f : Mem) (s : Sg) (k p rz lz : Ro) (hC : RC f s k p rz lz) (w : wfC s k p) (q : Sr) (x : RE f q) (hJ : Jq p (s, k) q) : ∀ i, i ≤ q.1 → A (cM MX11_manyOf 0 0 layT layT (rt (some (.int (nI (cnt (fun i => stb (s 13 0) (q.2.1 i)) q.1)))) f)) 4 [(3, .int (nI i)), (2, .int (nI (cnt (fun i => stb (s 13 0) (q.2.1 i)) i))), (1, .int 1), (0, .ref 93)] [] f := by
  have h600 := hJ.2.1
  refine up_ind q.1 (fun i hi ih => ?_)
  refine A_iload_n dX11_manyOf_4 rfl 0 rfl ?_
  refine A_aload_n dX11_manyOf_5 rfl 3 rfl ?_
  refine A_getI dX11_manyOf_6 fo_RX11_231 L93 rfl ?_
  refine A_topi (nI q.1) x.1.1 ?_
  refine A_icmp_ge (tgt := 63) dX11_manyOf_9 rfl (fun h9 => ?_) (fun h9 => ?_)
  · rw [nI_leI (by omega) (by omega)] at h9
    refine A_iload_n dX11_manyOf_63 rfl 1 rfl ?_
    exact A_iret dX11_manyOf_64 rfl (rti (by rw [show i = q.1 by omega]) rfl)
  · rw [nI_leI (by omega) (by omega)] at h9
    refine A_iload_n dX11_manyOf_12 rfl 1 rfl ?_
    refine A_iload_n dX11_manyOf_13 rfl 2 rfl ?_
    refine A_if_eq (tgt := 35) dX11_manyOf_14 rfl (fun h14 => by exact absurd h14 (by decide)) (fun h14 => ?_)
    refine A_aload_n dX11_manyOf_17 rfl 3 rfl ?_
    refine A_aload_n dX11_manyOf_18 rfl 3 rfl ?_
    refine A_getR (b := 104) dX11_manyOf_19 fo_RX11_40 L93 rfl ?_
    refine A_bipush (v := 52) dX11_manyOf_22 rfl ?_
    refine A_iload_n dX11_manyOf_24 rfl 0 rfl ?_
    refine A_imul dX11_manyOf_25 ?_
    refine A_topi (nI (52 * i)) (pk_mul 52 i) ?_
    refine A_callV (M' := MX11_sticks) [.ref 104, .int (nI (52 * i))] [.int (nI (cnt (fun i => stb (s 13 0) (q.2.1 i)) i))] 93 dX11_manyOf_26 lk_RX11_221 oX11_sticks iX11_sticks rfl rfl ⟨lb rfl, lb rfl⟩ (lb rfl) ⟨lb rfl, lb rfl⟩ L93 rfl (c_sticks f 104 (52 * i) 31200 _ _ (x.rw h600 (by omega)) hC.n w.2.2.2.2.1) ?_
    rintro _ g0 ⟨rfl, hg0⟩
    rw [hg0]
    refine A_if_eq (tgt := 54) dX11_manyOf_29 rfl (fun h29 => ?_) (fun h29 => ?_)
    · refine A_iconst (v := 0) dX11_manyOf_54 rfl ?_
      refine A_iadd dX11_manyOf_55 ?_
      refine A_istore_n (lv' := [(2, .int ((nI (cnt (fun i => stb (s 13 0) (q.2.1 i)) i)) + 0)), (3, .int (nI i)), (1, .int 1), (0, .ref 93)]) dX11_manyOf_56 rfl (lb rfl) rfl ?_
      refine A_iinc (lv' := [(3, .int (nI (i + 1))), (2, .int ((nI (cnt (fun i => stb (s 13 0) (q.2.1 i)) i)) + 0)), (1, .int 1), (0, .ref 93)]) dX11_manyOf_57 1 rfl (nI_add i 1) (lb rfl) rfl ?_
      refine A_goto (tgt := 4) dX11_manyOf_60 rfl ?_
      have r := ih (i + 1) (by omega) (by omega)
      rw [cnt_f (g := (fun i => stb (s 13 0) (q.2.1 i))) (show stb (s 13 0) (q.2.1 i) = 0 from if_neg (bz_0.mp h29))] at r
      rw [Int32.add_zero]
      refine A_sub [0, 1, 2, 3] rfl ?_
      exact r
    · refine A_goto (tgt := 50) dX11_manyOf_32 rfl ?_
      refine A_iconst (v := 1) dX11_manyOf_50 rfl ?_
      refine A_goto (tgt := 55) dX11_manyOf_51 rfl ?_
      refine A_iadd dX11_manyOf_55 ?_
      refine A_istore_n (lv' := [(2, .int ((nI (cnt (fun i => stb (s 13 0) (q.2.1 i)) i)) + 1)), (3, .int (nI i)), (1, .int 1), (0, .ref 93)]) dX11_manyOf_56 rfl (lb rfl) rfl ?_
      refine A_iinc (lv' := [(3, .int (nI (i + 1))), (2, .int ((nI (cnt (fun i => stb (s 13 0) (q.2.1 i)) i)) + 1)), (1, .int 1), (0, .ref 93)]) dX11_manyOf_57 1 rfl (nI_add i 1) (lb rfl) rfl ?_
      refine A_goto (tgt := 4) dX11_manyOf_60 rfl ?_
      have r := ih (i + 1) (by omega) (by omega)
      rw [cnt_t (g := (fun i => stb (s 13 0) (q.2.1 i))) (st_1.mpr (bz_n0.mp h29)), nI_succ (cnt (fun i => stb (s 13 0) (q.2.1 i)) i)] at r
      refine A_sub [0, 1, 2, 3] rfl ?_
      exact r
theorem c_many1 (f : Mem) (s : Sg) (k p rz lz : Ro) (hC : RC f s k p rz lz) (w : wfC s k p) (q : Sr) (x : RE f q) (hJ : Jq p (s, k) q) : C0 MX11_manyOf [.ref 93, .int 1] f (rt (some (.int (nI (cnt (fun i => stb (s 13 0) (q.2.1 i)) q.1)))) f) := by
  refine Ct.of (lv := [(0, .ref 93), (1, .int 1)]) (by decide) (lb rfl) rfl ?_
  refine A_iconst (v := 0) dX11_manyOf_0 rfl ?_
  refine A_istore_n (lv' := [(2, .int 0), (0, .ref 93), (1, .int 1)]) dX11_manyOf_1 rfl (lb rfl) rfl ?_
  refine A_iconst (v := 0) dX11_manyOf_2 rfl ?_
  refine A_istore_n (lv' := [(3, .int 0), (2, .int 0), (0, .ref 93), (1, .int 1)]) dX11_manyOf_3 rfl (lb rfl) rfl ?_
  refine A_sub [0, 1, 3, 2] rfl ?_
  exact lc_many1 f s k p rz lz hC w q x hJ 0 (by omega)
theorem lc_many0 (f : Mem) (s : Sg) (k p rz lz : Ro) (hC : RC f s k p rz lz) (w : wfC s k p) (q : Sr) (x : RE f q) (hJ : Jq p (s, k) q) : ∀ i, i ≤ q.1 → A (cM MX11_manyOf 0 0 layT layT (rt (some (.int (nI (cnt (fun i => ovb (s 13 0) (q.2.1 i)) q.1)))) f)) 4 [(3, .int (nI i)), (2, .int (nI (cnt (fun i => ovb (s 13 0) (q.2.1 i)) i))), (1, .int 0), (0, .ref 93)] [] f := by
  have h600 := hJ.2.1
  refine up_ind q.1 (fun i hi ih => ?_)
  refine A_iload_n dX11_manyOf_4 rfl 0 rfl ?_
  refine A_aload_n dX11_manyOf_5 rfl 3 rfl ?_
  refine A_getI dX11_manyOf_6 fo_RX11_231 L93 rfl ?_
  refine A_topi (nI q.1) x.1.1 ?_
  refine A_icmp_ge (tgt := 63) dX11_manyOf_9 rfl (fun h9 => ?_) (fun h9 => ?_)
  · rw [nI_leI (by omega) (by omega)] at h9
    refine A_iload_n dX11_manyOf_63 rfl 1 rfl ?_
    exact A_iret dX11_manyOf_64 rfl (rti (by rw [show i = q.1 by omega]) rfl)
  · rw [nI_leI (by omega) (by omega)] at h9
    refine A_iload_n dX11_manyOf_12 rfl 1 rfl ?_
    refine A_iload_n dX11_manyOf_13 rfl 2 rfl ?_
    refine A_if_eq (tgt := 35) dX11_manyOf_14 rfl (fun h14 => ?_) (fun h14 => by exact absurd rfl h14)
    refine A_aload_n dX11_manyOf_35 rfl 3 rfl ?_
    refine A_aload_n dX11_manyOf_36 rfl 3 rfl ?_
    refine A_getR (b := 104) dX11_manyOf_37 fo_RX11_40 L93 rfl ?_
    refine A_bipush (v := 52) dX11_manyOf_40 rfl ?_
    refine A_iload_n dX11_manyOf_42 rfl 0 rfl ?_
    refine A_imul dX11_manyOf_43 ?_
    refine A_topi (nI (52 * i)) (pk_mul 52 i) ?_
    refine A_callV (M' := MX11_isOver) [.ref 104, .int (nI (52 * i))] [.int (nI (cnt (fun i => ovb (s 13 0) (q.2.1 i)) i))] 93 dX11_manyOf_44 lk_RX11_225 oX11_isOver iX11_isOver rfl rfl ⟨lb rfl, lb rfl⟩ (lb rfl) ⟨lb rfl, lb rfl⟩ L93 rfl (c_isOver f 104 (52 * i) 31200 _ _ (x.rw h600 (by omega)) hC.n w.2.2.2.2.1 (fun t ht => (hJ.2.2.2 i (by omega)).1.s4 ht)) ?_
    rintro _ g0 ⟨rfl, hg0⟩
    rw [hg0]
    refine A_if_eq (tgt := 54) dX11_manyOf_47 rfl (fun h47 => ?_) (fun h47 => ?_)
    · refine A_iconst (v := 0) dX11_manyOf_54 rfl ?_
      refine A_iadd dX11_manyOf_55 ?_
      refine A_istore_n (lv' := [(2, .int ((nI (cnt (fun i => ovb (s 13 0) (q.2.1 i)) i)) + 0)), (3, .int (nI i)), (1, .int 0), (0, .ref 93)]) dX11_manyOf_56 rfl (lb rfl) rfl ?_
      refine A_iinc (lv' := [(3, .int (nI (i + 1))), (2, .int ((nI (cnt (fun i => ovb (s 13 0) (q.2.1 i)) i)) + 0)), (1, .int 0), (0, .ref 93)]) dX11_manyOf_57 1 rfl (nI_add i 1) (lb rfl) rfl ?_
      refine A_goto (tgt := 4) dX11_manyOf_60 rfl ?_
      have r := ih (i + 1) (by omega) (by omega)
      rw [cnt_f (g := (fun i => ovb (s 13 0) (q.2.1 i))) (show ovb (s 13 0) (q.2.1 i) = 0 from if_neg (bz_0.mp h47))] at r
      rw [Int32.add_zero]
      refine A_sub [0, 1, 2, 3] rfl ?_
      exact r
    · refine A_iconst (v := 1) dX11_manyOf_50 rfl ?_
      refine A_goto (tgt := 55) dX11_manyOf_51 rfl ?_
      refine A_iadd dX11_manyOf_55 ?_
      refine A_istore_n (lv' := [(2, .int ((nI (cnt (fun i => ovb (s 13 0) (q.2.1 i)) i)) + 1)), (3, .int (nI i)), (1, .int 0), (0, .ref 93)]) dX11_manyOf_56 rfl (lb rfl) rfl ?_
      refine A_iinc (lv' := [(3, .int (nI (i + 1))), (2, .int ((nI (cnt (fun i => ovb (s 13 0) (q.2.1 i)) i)) + 1)), (1, .int 0), (0, .ref 93)]) dX11_manyOf_57 1 rfl (nI_add i 1) (lb rfl) rfl ?_
      refine A_goto (tgt := 4) dX11_manyOf_60 rfl ?_
      have r := ih (i + 1) (by omega) (by omega)
      rw [cnt_t (g := (fun i => ovb (s 13 0) (q.2.1 i))) (ov_1.mpr (bz_n0.mp h47)), nI_succ (cnt (fun i => ovb (s 13 0) (q.2.1 i)) i)] at r
      refine A_sub [0, 1, 2, 3] rfl ?_
      exact r
theorem c_many0 (f : Mem) (s : Sg) (k p rz lz : Ro) (hC : RC f s k p rz lz) (w : wfC s k p) (q : Sr) (x : RE f q) (hJ : Jq p (s, k) q) : C0 MX11_manyOf [.ref 93, .int 0] f (rt (some (.int (nI (cnt (fun i => ovb (s 13 0) (q.2.1 i)) q.1)))) f) := by
  refine Ct.of (lv := [(0, .ref 93), (1, .int 0)]) (by decide) (lb rfl) rfl ?_
  refine A_iconst (v := 0) dX11_manyOf_0 rfl ?_
  refine A_istore_n (lv' := [(2, .int 0), (0, .ref 93), (1, .int 0)]) dX11_manyOf_1 rfl (lb rfl) rfl ?_
  refine A_iconst (v := 0) dX11_manyOf_2 rfl ?_
  refine A_istore_n (lv' := [(3, .int 0), (2, .int 0), (0, .ref 93), (1, .int 0)]) dX11_manyOf_3 rfl (lb rfl) rfl ?_
  refine A_sub [0, 1, 3, 2] rfl ?_
  exact lc_many0 f s k p rz lz hC w q x hJ 0 (by omega)
theorem lc_nest2 (f : Mem) (s : Sg) (k p rz lz : Ro) (hC : RC f s k p rz lz) (w : wfC s k p) (q : Sr) (x : RE f q) (hJ : Jq p (s, k) q) (i : Nat) (hi : i < q.1) (kk : A (cM MX11_isNested 0 0 layT layT (rt (some (.int (bz (neP q.2.1 q.1)))) f)) 53 [(1, .int (bz (nsP (neP q.2.1 i) (q.2.1 i).1 3))), (2, .int (nI i)), (0, .ref 93)] [] f) : ∀ m, m ≤ 3 → A (cM MX11_isNested 0 0 layT layT (rt (some (.int (bz (neP q.2.1 q.1)))) f)) 14 [(3, .int (nI m)), (1, .int (bz (nsP (neP q.2.1 i) (q.2.1 i).1 m))), (2, .int (nI i)), (0, .ref 93)] [] f := by
  have h600 := hJ.2.1
  refine up_ind 3 (fun m hm ih => ?_)
  refine A_iload_n dX11_isNested_14 rfl 0 rfl ?_
  refine A_iconst (v := 3) dX11_isNested_15 rfl ?_
  refine A_icmp_ge (tgt := 53) dX11_isNested_16 rfl (fun h16 => ?_) (fun h16 => ?_)
  · rw [show (3 : Int32) = nI 3 from rfl, nI_leI (by omega) (by omega)] at h16
    have e3 : m = 3 := by omega
    subst e3
    refine A_sub [1, 2, 3] rfl ?_
    exact kk
  · rw [show (3 : Int32) = nI 3 from rfl, nI_leI (by omega) (by omega)] at h16
    refine A_iload_n dX11_isNested_19 rfl 1 rfl ?_
    refine A_if_ne (tgt := 41) dX11_isNested_20 rfl (fun h20 => ?_) (fun h20 => ?_)
    · refine A_iconst (v := 1) dX11_isNested_41 rfl ?_
      refine A_goto (tgt := 46) dX11_isNested_42 rfl ?_
      refine A_istore_n (lv' := [(1, .int 1), (3, .int (nI m)), (2, .int (nI i)), (0, .ref 93)]) dX11_isNested_46 rfl (lb rfl) rfl ?_
      refine A_iinc (lv' := [(3, .int (nI (m + 1))), (1, .int 1), (2, .int (nI i)), (0, .ref 93)]) dX11_isNested_47 1 rfl (nI_add m 1) (lb rfl) rfl ?_
      refine A_goto (tgt := 14) dX11_isNested_50 rfl ?_
      have r := ih (m + 1) (by omega) (by omega)
      rw [show bz (nsP (neP q.2.1 i) (q.2.1 i).1 (m + 1)) = 1 from bz_t (ns_s.mpr (by first | exact .inl (bz_n0.mp h20) | exact .inr (by omega)))] at r
      refine A_sub [0, 1, 2, 3] rfl ?_
      exact r
    · refine A_aload_n dX11_isNested_23 rfl 3 rfl ?_
      refine A_getR (b := 104) dX11_isNested_24 fo_RX11_40 L93 rfl ?_
      refine A_bipush (v := 52) dX11_isNested_27 rfl ?_
      refine A_iload_n dX11_isNested_29 rfl 2 rfl ?_
      refine A_imul dX11_isNested_30 ?_
      refine A_bipush (v := 15) dX11_isNested_31 rfl ?_
      refine A_iadd dX11_isNested_33 ?_
      refine A_iload_n dX11_isNested_34 rfl 0 rfl ?_
      refine A_iadd dX11_isNested_35 ?_
      refine A_iaload (52 * i + 15 + m) dX11_isNested_36 L104 (by simp only [lit, nI_add, pk_mul]) (by omega) (lb rfl) ?_
      refine A_topi (nI ((q.2.1 i).1 4 m)) (by rw [Nat.add_assoc, x.1.2.1 i hi (15 + m) (by omega)]; exact flat_4 _ _ (by omega)) ?_
      refine A_iconst (v := 1) dX11_isNested_37 rfl ?_
      refine A_icmp_le (tgt := 45) dX11_isNested_38 rfl (fun h38 => ?_) (fun h38 => ?_)
      · have h9 : (q.2.1 i).1 4 m ≤ 9 := ((hJ.2.2.2 i hi).1.1.2.2.2.2 m (by omega)).2.1
        rw [show (1 : Int32) = nI 1 from rfl, nI_leI (by omega) (by decide)] at h38
        refine A_iconst (v := 0) dX11_isNested_45 rfl ?_
        refine A_istore_n (lv' := [(1, .int 0), (3, .int (nI m)), (2, .int (nI i)), (0, .ref 93)]) dX11_isNested_46 rfl (lb rfl) rfl ?_
        refine A_iinc (lv' := [(3, .int (nI (m + 1))), (1, .int 0), (2, .int (nI i)), (0, .ref 93)]) dX11_isNested_47 1 rfl (nI_add m 1) (lb rfl) rfl ?_
        refine A_goto (tgt := 14) dX11_isNested_50 rfl ?_
        have r := ih (m + 1) (by omega) (by omega)
        rw [show bz (nsP (neP q.2.1 i) (q.2.1 i).1 (m + 1)) = 0 from bz_f (fun z => (ns_s.mp z).elim (bz_0.mp h20) (fun z => by omega))] at r
        refine A_sub [0, 1, 2, 3] rfl ?_
        exact r
      · have h9 : (q.2.1 i).1 4 m ≤ 9 := ((hJ.2.2.2 i hi).1.1.2.2.2.2 m (by omega)).2.1
        rw [show (1 : Int32) = nI 1 from rfl, nI_leI (by omega) (by decide)] at h38
        refine A_iconst (v := 1) dX11_isNested_41 rfl ?_
        refine A_goto (tgt := 46) dX11_isNested_42 rfl ?_
        refine A_istore_n (lv' := [(1, .int 1), (3, .int (nI m)), (2, .int (nI i)), (0, .ref 93)]) dX11_isNested_46 rfl (lb rfl) rfl ?_
        refine A_iinc (lv' := [(3, .int (nI (m + 1))), (1, .int 1), (2, .int (nI i)), (0, .ref 93)]) dX11_isNested_47 1 rfl (nI_add m 1) (lb rfl) rfl ?_
        refine A_goto (tgt := 14) dX11_isNested_50 rfl ?_
        have r := ih (m + 1) (by omega) (by omega)
        rw [show bz (nsP (neP q.2.1 i) (q.2.1 i).1 (m + 1)) = 1 from bz_t (ns_s.mpr (by first | exact .inl (bz_n0.mp h20) | exact .inr (by omega)))] at r
        refine A_sub [0, 1, 2, 3] rfl ?_
        exact r
theorem ne_i {P : Nat → Pt} {i : Nat} : neP P (i + 1) ↔ nsP (neP P i) (P i).1 3 := by
  constructor
  · rintro ⟨j, hj, m, hm, h⟩
    rcases Nat.lt_or_ge j i with z | z
    · exact .inl ⟨j, z, m, hm, h⟩
    · rw [show j = i by omega] at h; exact .inr ⟨m, hm, h⟩
  · rintro (⟨j, hj, m, hm, h⟩ | ⟨m, hm, h⟩)
    · exact ⟨j, by omega, m, hm, h⟩
    · exact ⟨i, by omega, m, hm, h⟩
theorem lc_nest1 (f : Mem) (s : Sg) (k p rz lz : Ro) (hC : RC f s k p rz lz) (w : wfC s k p) (q : Sr) (x : RE f q) (hJ : Jq p (s, k) q) : ∀ i, i ≤ q.1 → A (cM MX11_isNested 0 0 layT layT (rt (some (.int (bz (neP q.2.1 q.1)))) f)) 4 [(2, .int (nI i)), (1, .int (bz (neP q.2.1 i))), (0, .ref 93)] [] f := by
  have h600 := hJ.2.1
  refine up_ind q.1 (fun i hi ih => ?_)
  refine A_iload_n dX11_isNested_4 rfl 0 rfl ?_
  refine A_aload_n dX11_isNested_5 rfl 2 rfl ?_
  refine A_getI dX11_isNested_6 fo_RX11_231 L93 rfl ?_
  refine A_topi (nI q.1) x.1.1 ?_
  refine A_icmp_ge (tgt := 59) dX11_isNested_9 rfl (fun h9 => ?_) (fun h9 => ?_)
  · rw [nI_leI (by omega) (by omega)] at h9
    refine A_iload_n dX11_isNested_59 rfl 1 rfl ?_
    exact A_zret dX11_isNested_60 rfl (bz_01 _) (rti (by rw [show i = q.1 by omega]) rfl)
  · rw [nI_leI (by omega) (by omega)] at h9
    refine A_iconst (v := 0) dX11_isNested_12 rfl ?_
    refine A_istore_n (lv' := [(3, .int 0), (2, .int (nI i)), (1, .int (bz (neP q.2.1 i))), (0, .ref 93)]) dX11_isNested_13 rfl (lb rfl) rfl ?_
    rw [show bz (neP q.2.1 i) = bz (nsP (neP q.2.1 i) (q.2.1 i).1 0) from bz_c ⟨fun z => .inl z, fun z => z.elim id (fun ⟨m, hm, _⟩ => absurd hm (by omega))⟩]
    refine A_sub [0, 2, 1, 3] rfl ?_
    refine lc_nest2 f s k p rz lz hC w q x hJ i (by omega) ?_ 0 (by omega)
    refine A_iinc (lv' := [(2, .int (nI (i + 1))), (1, .int (bz (nsP (neP q.2.1 i) (q.2.1 i).1 3))), (0, .ref 93)]) dX11_isNested_53 1 rfl (nI_add i 1) (lb rfl) rfl ?_
    refine A_goto (tgt := 4) dX11_isNested_56 rfl ?_
    have r := ih (i + 1) (by omega) (by omega)
    rw [show bz (neP q.2.1 (i + 1)) = bz (nsP (neP q.2.1 i) (q.2.1 i).1 3) from bz_c ne_i] at r
    exact r
theorem c_nest (f : Mem) (s : Sg) (k p rz lz : Ro) (hC : RC f s k p rz lz) (w : wfC s k p) (q : Sr) (x : RE f q) (hJ : Jq p (s, k) q) : C0 MX11_isNested [.ref 93] f (rt (some (.int (bz (neP q.2.1 q.1)))) f) := by
  refine Ct.of (lv := [(0, .ref 93)]) (by decide) (lb rfl) rfl ?_
  refine A_iconst (v := 0) dX11_isNested_0 rfl ?_
  refine A_istore_n (lv' := [(1, .int 0), (0, .ref 93)]) dX11_isNested_1 rfl (lb rfl) rfl ?_
  refine A_iconst (v := 0) dX11_isNested_2 rfl ?_
  refine A_istore_n (lv' := [(2, .int 0), (1, .int 0), (0, .ref 93)]) dX11_isNested_3 rfl (lb rfl) rfl ?_
  have r := lc_nest1 f s k p rz lz hC w q x hJ 0 (by omega)
  rw [show bz (neP q.2.1 0) = 0 from bz_f (fun ⟨i, hi, _⟩ => absurd hi (by omega))] at r
  refine A_sub [0, 1, 2] rfl ?_
  exact r
