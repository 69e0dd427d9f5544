/-! the reference: outcomes, what is entered under what, ways -/
theorem ck_e {k k' : Ro} (h : wfK k) (h' : wfK k') : lkN 4 k k' ↔ cw k = cw k' := by
  constructor
  · intro e; unfold cw kn; rw [e 0 (by omega), e 1 (by omega), e 2 (by omega), e 3 (by omega)]
  · intro C c hc
    have a0 := kn_b (h 0 (by omega)); have a1 := kn_b (h 1 (by omega)); have a2 := kn_b (h 2 (by omega)); have a3 := kn_b (h 3 (by omega))
    have b0 := kn_b (h' 0 (by omega)); have b1 := kn_b (h' 1 (by omega)); have b2 := kn_b (h' 2 (by omega)); have b3 := kn_b (h' 3 (by omega))
    unfold cw at C
    refine kn_inj (h c hc) (h' c hc) ?_
    match c, hc with
    | 0, _ => omega
    | 1, _ => omega
    | 2, _ => omega
    | 3, _ => omega
abbrev isOn (g x : Nat → Nat) (i j : Nat) : Prop := g i = 1 ∧ ∀ j', j' < j → ¬ (g j' = 1 ∧ x j' = x i)
theorem isOn_s {g x : Nat → Nat} {i j : Nat} (h : isOn g x i j) : isOn g x i (j + 1) ↔ ¬ (g j = 1 ∧ x j = x i) := by
  refine ⟨fun z => z.2 j (by omega), fun z => ⟨h.1, fun j' hj => ?_⟩⟩
  rcases Nat.lt_or_ge j' j with t | t
  · exact h.2 j' t
  · rw [show j' = j by omega]; exact z
theorem ol_pre (g x : Nat → Nat) {n k : Nat} (hk : k < (ol g x n).1) : ∀ N, n ≤ N → k < (ol g x N).1 ∧ (ol g x N).2 k = (ol g x n).2 k
  | 0, h => by rw [show n = 0 by omega] at hk ⊢; exact ⟨hk, rfl⟩
  | N + 1, h => by
    by_cases e : n = N + 1
    · rw [e] at hk ⊢; exact ⟨hk, rfl⟩
    · have ih := ol_pre g x hk N (by omega)
      have d : ol g x (N + 1) = if isO g x N then ((ol g x N).1 + 1, upN (ol g x N).2 (ol g x N).1 N) else ol g x N := rfl
      rw [d]
      by_cases z : isO g x N
      · rw [if_pos z]
        refine ⟨by show k < (ol g x N).1 + 1; omega, ?_⟩
        show upN (ol g x N).2 (ol g x N).1 N k = _
        rw [upN_n _ _ (by omega)]; exact ih.2
      · rw [if_neg z]; exact ih
theorem ol_t {g x : Nat → Nat} {n : Nat} (z : isO g x n) : ol g x (n + 1) = ((ol g x n).1 + 1, upN (ol g x n).2 (ol g x n).1 n) := by show (if isO g x n then _ else _) = _; rw [if_pos z]
theorem ol_f {g x : Nat → Nat} {n : Nat} (z : ¬ isO g x n) : ol g x (n + 1) = ol g x n := by show (if isO g x n then _ else _) = _; rw [if_neg z]
theorem own_b (g : Nat → Nat) (t : Nat) : ∀ m, m < 3 → (((ownI g t 3) >>> (nI m &&& 31)) &&& 1 = 1 ↔ g m = t + 1) := by
  have e : ownI g t 3 = (if g 0 = t + 1 then (1 : Int32) else 0) ||| (if g 1 = t + 1 then 2 else 0) ||| (if g 2 = t + 1 then 4 else 0) := by
    unfold ownI ownI ownI ownI
    by_cases h0 : g 0 = t + 1 <;> by_cases h1 : g 1 = t + 1 <;> by_cases h2 : g 2 = t + 1 <;> simp only [h0, h1, h2, if_true, if_false] <;> decide
  rw [e]
  intro m hm
  by_cases h0 : g 0 = t + 1 <;> by_cases h1 : g 1 = t + 1 <;> by_cases h2 : g 2 = t + 1 <;> simp only [h0, h1, h2, if_true, if_false]
  all_goals (match m, hm with
    | 0, _ => simp only [h0, iff_true, iff_false]; decide
    | 1, _ => simp only [h1, iff_true, iff_false]; decide
    | 2, _ => simp only [h2, iff_true, iff_false]; decide)
theorem lc_acl (f : Mem) (s : Sg) (k p rz lz : Ro) (hC : RC f s k p rz lz) (w : wfC s k p) (q : Sr) (x : RE f q) (hJ : Jq p (s, k) q) (i j : Nat) (hi : i < q.1) (hj : j < q.1) : ∀ c, c ≤ 4 → A (cM MX11_areCellsLike 0 0 layT layT (rt (some (.int (bz (lkN 4 (q.2.1 i).2 (q.2.1 j).2)))) f)) 5 [(4, .int (nI c)), (3, .int (bz (lkN c (q.2.1 i).2 (q.2.1 j).2))), (0, .ref 93), (1, .int (nI i)), (2, .int (nI j))] [] f := by
  have h600 := hJ.2.1
  refine up_ind 4 (fun c hc ih => ?_)
  refine A_iload dX11_areCellsLike_5 0 rfl ?_
  refine A_iconst (v := 4) dX11_areCellsLike_7 rfl ?_
  refine A_icmp_ge (tgt := 60) dX11_areCellsLike_8 rfl (fun h8 => ?_) (fun h8 => ?_)
  · rw [show (4 : Int32) = nI 4 from rfl, nI_leI (by omega) (by omega)] at h8
    refine A_iload_n dX11_areCellsLike_60 rfl 1 rfl ?_
    exact A_zret dX11_areCellsLike_61 rfl (bz_01 _) (rti (by rw [show c = 4 by omega]) rfl)
  · rw [show (4 : Int32) = nI 4 from rfl, nI_leI (by omega) (by omega)] at h8
    refine A_iload_n dX11_areCellsLike_11 rfl 1 rfl ?_
    refine A_if_eq (tgt := 52) dX11_areCellsLike_12 rfl (fun h12 => ?_) (fun h12 => ?_)
    · refine A_iconst (v := 0) dX11_areCellsLike_52 rfl ?_
      refine A_istore_n (lv' := [(3, .int 0), (4, .int (nI c)), (0, .ref 93), (1, .int (nI i)), (2, .int (nI j))]) dX11_areCellsLike_53 rfl (lb rfl) rfl ?_
      refine A_iinc (lv' := [(4, .int (nI (c + 1))), (3, .int 0), (0, .ref 93), (1, .int (nI i)), (2, .int (nI j))]) dX11_areCellsLike_54 1 rfl (nI_add c 1) (lb rfl) rfl ?_
      refine A_goto (tgt := 5) dX11_areCellsLike_57 rfl ?_
      have r := ih (c + 1) (by omega) (by omega)
      rw [show bz (lkN (c + 1) (q.2.1 i).2 (q.2.1 j).2) = 0 from bz_f (fun z => by first | exact bz_0.mp h12 (lkN_s.mp z).1 | exact h45 (lkN_s.mp z).2)] at r
      refine A_sub [0, 1, 2, 3, 4] rfl ?_
      exact r
    · refine A_aload_n dX11_areCellsLike_15 rfl 2 rfl ?_
      refine A_getR (b := 104) dX11_areCellsLike_16 fo_RX11_40 L93 rfl ?_
      refine A_bipush (v := 52) dX11_areCellsLike_19 rfl ?_
      refine A_iload_n dX11_areCellsLike_21 rfl 3 rfl ?_
      refine A_imul dX11_areCellsLike_22 ?_
      refine A_bipush (v := 48) dX11_areCellsLike_23 rfl ?_
      refine A_iadd dX11_areCellsLike_25 ?_
      refine A_iload dX11_areCellsLike_26 0 rfl ?_
      refine A_iadd dX11_areCellsLike_28 ?_
      refine A_iaload (52 * i + 48 + c) dX11_areCellsLike_29 L104 (by simp only [lit, nI_add, pk_mul]) (by omega) (lb rfl) ?_
      refine A_topi ((q.2.1 i).2 c) (by rw [Nat.add_assoc, x.1.2.1 i hi (48 + c) (by omega)]; exact flat_k _ _ (by omega)) ?_
      refine A_aload_n dX11_areCellsLike_30 rfl 2 rfl ?_
      refine A_getR (b := 104) dX11_areCellsLike_31 fo_RX11_40 L93 rfl ?_
      refine A_bipush (v := 52) dX11_areCellsLike_34 rfl ?_
      refine A_iload_n dX11_areCellsLike_36 rfl 4 rfl ?_
      refine A_imul dX11_areCellsLike_37 ?_
      refine A_bipush (v := 48) dX11_areCellsLike_38 rfl ?_
      refine A_iadd dX11_areCellsLike_40 ?_
      refine A_iload dX11_areCellsLike_41 0 rfl ?_
      refine A_iadd dX11_areCellsLike_43 ?_
      refine A_iaload (52 * j + 48 + c) dX11_areCellsLike_44 L104 (by simp only [lit, nI_add, pk_mul]) (by omega) (lb rfl) ?_
      refine A_topi ((q.2.1 j).2 c) (by rw [Nat.add_assoc, x.1.2.1 j hj (48 + c) (by omega)]; exact flat_k _ _ (by omega)) ?_
      refine A_icmp_ne (tgt := 52) dX11_areCellsLike_45 rfl (fun h45 => ?_) (fun h45 => ?_)
      · refine A_iconst (v := 0) dX11_areCellsLike_52 rfl ?_
        refine A_istore_n (lv' := [(3, .int 0), (4, .int (nI c)), (0, .ref 93), (1, .int (nI i)), (2, .int (nI j))]) dX11_areCellsLike_53 rfl (lb rfl) rfl ?_
        refine A_iinc (lv' := [(4, .int (nI (c + 1))), (3, .int 0), (0, .ref 93), (1, .int (nI i)), (2, .int (nI j))]) dX11_areCellsLike_54 1 rfl (nI_add c 1) (lb rfl) rfl ?_
        refine A_goto (tgt := 5) dX11_areCellsLike_57 rfl ?_
        have r := ih (c + 1) (by omega) (by omega)
        rw [show bz (lkN (c + 1) (q.2.1 i).2 (q.2.1 j).2) = 0 from bz_f (fun z => by first | exact bz_0.mp h12 (lkN_s.mp z).1 | exact h45 (lkN_s.mp z).2)] at r
        refine A_sub [0, 1, 2, 3, 4] rfl ?_
        exact r
      · refine A_iconst (v := 1) dX11_areCellsLike_48 rfl ?_
        refine A_goto (tgt := 53) dX11_areCellsLike_49 rfl ?_
        refine A_istore_n (lv' := [(3, .int 1), (4, .int (nI c)), (0, .ref 93), (1, .int (nI i)), (2, .int (nI j))]) dX11_areCellsLike_53 rfl (lb rfl) rfl ?_
        refine A_iinc (lv' := [(4, .int (nI (c + 1))), (3, .int 1), (0, .ref 93), (1, .int (nI i)), (2, .int (nI j))]) dX11_areCellsLike_54 1 rfl (nI_add c 1) (lb rfl) rfl ?_
        refine A_goto (tgt := 5) dX11_areCellsLike_57 rfl ?_
        have r := ih (c + 1) (by omega) (by omega)
        rw [show bz (lkN (c + 1) (q.2.1 i).2 (q.2.1 j).2) = 1 from bz_t (lkN_s.mpr ⟨bz_n0.mp h12, h45⟩)] at r
        refine A_sub [0, 1, 2, 3, 4] rfl ?_
        exact r
theorem c_acl (f : Mem) (s : Sg) (k p rz lz : Ro) (hC : RC f s k p rz lz) (w : wfC s k p) (q : Sr) (x : RE f q) (hJ : Jq p (s, k) q) (i j : Nat) (hi : i < q.1) (hj : j < q.1) : C0 MX11_areCellsLike [.ref 93, .int (nI i), .int (nI j)] f (rt (some (.int (bz (lkN 4 (q.2.1 i).2 (q.2.1 j).2)))) f) := by
  refine Ct.of (lv := [(0, .ref 93), (1, .int (nI i)), (2, .int (nI j))]) (by decide) (lb rfl) rfl ?_
  refine A_iconst (v := 1) dX11_areCellsLike_0 rfl ?_
  refine A_istore_n (lv' := [(3, .int 1), (0, .ref 93), (1, .int (nI i)), (2, .int (nI j))]) dX11_areCellsLike_1 rfl (lb rfl) rfl ?_
  refine A_iconst (v := 0) dX11_areCellsLike_2 rfl ?_
  refine A_istore (lv' := [(4, .int 0), (3, .int 1), (0, .ref 93), (1, .int (nI i)), (2, .int (nI j))]) dX11_areCellsLike_3 (lb rfl) rfl ?_
  have r := lc_acl f s k p rz lz hC w q x hJ i j hi hj 0 (by omega)
  rw [show bz (lkN 0 (q.2.1 i).2 (q.2.1 j).2) = 1 from bz_t (fun y hy => absurd hy (by omega))] at r
  refine A_sub [0, 1, 2, 3, 4] rfl ?_
  exact r
theorem lc_isO (f : Mem) (s : Sg) (k p rz lz : Ro) (hC : RC f s k p rz lz) (w : wfC s k p) (q : Sr) (x : RE f q) (hJ : Jq p (s, k) q) (i : Nat) (hi : i < q.1) : ∀ j, j ≤ i → A (cM MX11_isOutcome 0 0 layT layT (rt (some (.int (bz (isO (fun i => ovb (s 13 0) (q.2.1 i)) (fun i => cw (q.2.1 i).2) i)))) f)) 15 [(3, .int (nI j)), (2, .int (bz (isOn (fun i => ovb (s 13 0) (q.2.1 i)) (fun i => cw (q.2.1 i).2) i j))), (0, .ref 93), (1, .int (nI i))] [] f := by
  have h600 := hJ.2.1
  refine up_ind i (fun j hj ih => ?_)
  refine A_iload_n dX11_isOutcome_15 rfl 0 rfl ?_
  refine A_iload_n dX11_isOutcome_16 rfl 3 rfl ?_
  refine A_icmp_ge (tgt := 60) dX11_isOutcome_17 rfl (fun h17 => ?_) (fun h17 => ?_)
  · rw [nI_leI (by omega) (by omega)] at h17
    refine A_iload_n dX11_isOutcome_60 rfl 1 rfl ?_
    exact A_zret dX11_isOutcome_61 rfl (bz_01 _) (rti (by first | (rw [show j = i by omega]) | exact h21.trans (bz_f (fun z => bz_0.mp h21 ⟨z.1, fun j' hj => z.2 j' (by omega)⟩)).symm) rfl)
  · rw [nI_leI (by omega) (by omega)] at h17
    refine A_iload_n dX11_isOutcome_20 rfl 1 rfl ?_
    refine A_if_eq (tgt := 60) dX11_isOutcome_21 rfl (fun h21 => ?_) (fun h21 => ?_)
    · refine A_iload_n dX11_isOutcome_60 rfl 1 rfl ?_
      exact A_zret dX11_isOutcome_61 rfl (bz_01 _) (rti (by first | (rw [show j = i by omega]) | exact h21.trans (bz_f (fun z => bz_0.mp h21 ⟨z.1, fun j' hj => z.2 j' (by omega)⟩)).symm) rfl)
    · refine A_aload_n dX11_isOutcome_24 rfl 2 rfl ?_
      refine A_aload_n dX11_isOutcome_25 rfl 2 rfl ?_
      refine A_getR (b := 104) dX11_isOutcome_26 fo_RX11_40 L93 rfl ?_
      refine A_bipush (v := 52) dX11_isOutcome_29 rfl ?_
      refine A_iload_n dX11_isOutcome_31 rfl 0 rfl ?_
      refine A_imul dX11_isOutcome_32 ?_
      refine A_topi (nI (52 * j)) (pk_mul 52 j) ?_
      refine A_callV (M' := MX11_isOver) [.ref 104, .int (nI (52 * j))] [] 93 dX11_isOutcome_33 lk_RX11_225 oX11_isOver iX11_isOver rfl rfl ⟨lb rfl, lb rfl⟩ (lb rfl) ⟨lb rfl, lb rfl⟩ L93 rfl (c_isOver f 104 (52 * j) 31200 _ _ (x.rw h600 (by omega)) hC.n w.2.2.2.2.1 (fun t ht => (hJ.2.2.2 j (by omega)).1.s4 ht)) ?_
      rintro _ g0 ⟨rfl, hg0⟩
      rw [hg0]
      refine A_if_eq (tgt := 48) dX11_isOutcome_36 rfl (fun h36 => ?_) (fun h36 => ?_)
      · refine A_iconst (v := 1) dX11_isOutcome_48 rfl ?_
        refine A_goto (tgt := 53) dX11_isOutcome_49 rfl ?_
        refine A_istore_n (lv' := [(2, .int 1), (3, .int (nI j)), (0, .ref 93), (1, .int (nI i))]) dX11_isOutcome_53 rfl (lb rfl) rfl ?_
        refine A_iinc (lv' := [(3, .int (nI (j + 1))), (2, .int 1), (0, .ref 93), (1, .int (nI i))]) dX11_isOutcome_54 1 rfl (nI_add j 1) (lb rfl) rfl ?_
        refine A_goto (tgt := 15) dX11_isOutcome_57 rfl ?_
        have r := ih (j + 1) (by omega) (by omega)
        rw [show bz (isOn (fun i => ovb (s 13 0) (q.2.1 i)) (fun i => cw (q.2.1 i).2) i (j + 1)) = 1 from bz_t ((isOn_s (bz_n0.mp h21)).mpr (fun z => by first | exact bz_0.mp h36 (ov_1.mp z.1) | exact bz_0.mp h45 z.2))] at r
        refine A_sub [0, 1, 2, 3] rfl ?_
        exact r
      · refine A_aload_n dX11_isOutcome_39 rfl 2 rfl ?_
        refine A_iload_n dX11_isOutcome_40 rfl 3 rfl ?_
        refine A_iload_n dX11_isOutcome_41 rfl 0 rfl ?_
        refine A_callV (M' := MX11_areCellsLike) [.int (nI i), .int (nI j)] [] 93 dX11_isOutcome_42 lk_RX11_244 oX11_areCellsLike iX11_areCellsLike rfl rfl ⟨lb rfl, lb rfl⟩ (lb rfl) ⟨lb rfl, lb rfl⟩ L93 rfl (c_acl f s k p rz lz hC w q x hJ i j (by omega) (by omega)) ?_
        rintro _ g0 ⟨rfl, hg0⟩
        rw [hg0]
        refine A_topi (bz (cw (q.2.1 j).2 = cw (q.2.1 i).2)) (bz_c ((ck_e (hJ.2.2.2 i (by omega)).1.2.2.1 (hJ.2.2.2 j (by omega)).1.2.2.1).trans eq_comm)) ?_
        refine A_if_ne (tgt := 52) dX11_isOutcome_45 rfl (fun h45 => ?_) (fun h45 => ?_)
        · refine A_iconst (v := 0) dX11_isOutcome_52 rfl ?_
          refine A_istore_n (lv' := [(2, .int 0), (3, .int (nI j)), (0, .ref 93), (1, .int (nI i))]) dX11_isOutcome_53 rfl (lb rfl) rfl ?_
          refine A_iinc (lv' := [(3, .int (nI (j + 1))), (2, .int 0), (0, .ref 93), (1, .int (nI i))]) dX11_isOutcome_54 1 rfl (nI_add j 1) (lb rfl) rfl ?_
          refine A_goto (tgt := 15) dX11_isOutcome_57 rfl ?_
          have r := ih (j + 1) (by omega) (by omega)
          rw [show bz (isOn (fun i => ovb (s 13 0) (q.2.1 i)) (fun i => cw (q.2.1 i).2) i (j + 1)) = 0 from bz_f (fun z => (isOn_s (bz_n0.mp h21)).mp z ⟨ov_1.mpr (bz_n0.mp h36), bz_n0.mp h45⟩)] at r
          refine A_sub [0, 1, 2, 3] rfl ?_
          exact r
        · refine A_iconst (v := 1) dX11_isOutcome_48 rfl ?_
          refine A_goto (tgt := 53) dX11_isOutcome_49 rfl ?_
          refine A_istore_n (lv' := [(2, .int 1), (3, .int (nI j)), (0, .ref 93), (1, .int (nI i))]) dX11_isOutcome_53 rfl (lb rfl) rfl ?_
          refine A_iinc (lv' := [(3, .int (nI (j + 1))), (2, .int 1), (0, .ref 93), (1, .int (nI i))]) dX11_isOutcome_54 1 rfl (nI_add j 1) (lb rfl) rfl ?_
          refine A_goto (tgt := 15) dX11_isOutcome_57 rfl ?_
          have r := ih (j + 1) (by omega) (by omega)
          rw [show bz (isOn (fun i => ovb (s 13 0) (q.2.1 i)) (fun i => cw (q.2.1 i).2) i (j + 1)) = 1 from bz_t ((isOn_s (bz_n0.mp h21)).mpr (fun z => by first | exact bz_0.mp h36 (ov_1.mp z.1) | exact bz_0.mp h45 z.2))] at r
          refine A_sub [0, 1, 2, 3] rfl ?_
          exact r
theorem c_isO (f : Mem) (s : Sg) (k p rz lz : Ro) (hC : RC f s k p rz lz) (w : wfC s k p) (q : Sr) (x : RE f q) (hJ : Jq p (s, k) q) (i : Nat) (hi : i < q.1) : C0 MX11_isOutcome [.ref 93, .int (nI i)] f (rt (some (.int (bz (isO (fun i => ovb (s 13 0) (q.2.1 i)) (fun i => cw (q.2.1 i).2) i)))) f) := by
  have h600 := hJ.2.1
  refine Ct.of (lv := [(0, .ref 93), (1, .int (nI i))]) (by decide) (lb rfl) rfl ?_
  refine A_aload_n dX11_isOutcome_0 rfl 0 rfl ?_
  refine A_aload_n dX11_isOutcome_1 rfl 0 rfl ?_
  refine A_getR (b := 104) dX11_isOutcome_2 fo_RX11_40 L93 rfl ?_
  refine A_bipush (v := 52) dX11_isOutcome_5 rfl ?_
  refine A_iload_n dX11_isOutcome_7 rfl 1 rfl ?_
  refine A_imul dX11_isOutcome_8 ?_
  refine A_topi (nI (52 * i)) (pk_mul 52 i) ?_
  refine A_callV (M' := MX11_isOver) [.ref 104, .int (nI (52 * i))] [] 93 dX11_isOutcome_9 lk_RX11_225 oX11_isOver iX11_isOver rfl rfl ⟨lb rfl, lb rfl⟩ (lb rfl) ⟨lb rfl, lb rfl⟩ L93 rfl (c_isOver f 104 (52 * i) 31200 _ _ (x.rw h600 (by omega)) hC.n w.2.2.2.2.1 (fun t ht => (hJ.2.2.2 i (by omega)).1.s4 ht)) ?_
  rintro _ g0 ⟨rfl, hg0⟩
  rw [hg0]
  refine A_istore_n (lv' := [(2, .int (bz (overP (q.2.1 i).1 (s 13 0)))), (0, .ref 93), (1, .int (nI i))]) dX11_isOutcome_12 rfl (lb rfl) rfl ?_
  refine A_iconst (v := 0) dX11_isOutcome_13 rfl ?_
  refine A_istore_n (lv' := [(3, .int 0), (2, .int (bz (overP (q.2.1 i).1 (s 13 0)))), (0, .ref 93), (1, .int (nI i))]) dX11_isOutcome_14 rfl (lb rfl) rfl ?_
  have r := lc_isO f s k p rz lz hC w q x hJ i hi 0 (by omega)
  rw [show bz (isOn (fun i => ovb (s 13 0) (q.2.1 i)) (fun i => cw (q.2.1 i).2) i 0) = bz (overP (q.2.1 i).1 (s 13 0)) from bz_c ⟨fun z => ov_1.mp z.1, fun z => ⟨ov_1.mpr z, fun j hj => absurd hj (by omega)⟩⟩] at r
  refine A_sub [0, 1, 2, 3] rfl ?_
  exact r
theorem lc_oa (f : Mem) (s : Sg) (k p rz lz : Ro) (hC : RC f s k p rz lz) (w : wfC s k p) (q : Sr) (x : RE f q) (hJ : Jq p (s, k) q) (y : Int32) : ∀ i, i ≤ q.1 → ¬ inR y (ol (fun i => ovb (s 13 0) (q.2.1 i)) (fun i => cw (q.2.1 i).2) i).1 → A (cM MX11_outcomeAt 0 0 layT layT (rt (some (.int (if inR y (oL (s 13 0) q.2.1 q.1).1 then nI ((oL (s 13 0) q.2.1 q.1).2 y.toNatClampNeg) else -1 - nI (oL (s 13 0) q.2.1 q.1).1))) f)) 4 [(3, .int (nI i)), (2, .int (nI (ol (fun i => ovb (s 13 0) (q.2.1 i)) (fun i => cw (q.2.1 i).2) i).1)), (1, .int y), (0, .ref 93)] [] f := by
  have h600 := hJ.2.1
  refine up_ind q.1 (fun i hi ih hn => ?_)
  have hle : (ol (fun i => ovb (s 13 0) (q.2.1 i)) (fun i => cw (q.2.1 i).2) i).1 ≤ i := ol_le _ _ _
  have hoN : (oL (s 13 0) q.2.1 q.1).1 ≤ q.1 := ol_le _ _ _
  refine A_iload_n dX11_outcomeAt_4 rfl 0 rfl ?_
  refine A_aload_n dX11_outcomeAt_5 rfl 3 rfl ?_
  refine A_getI dX11_outcomeAt_6 fo_RX11_231 L93 rfl ?_
  refine A_topi (nI q.1) x.1.1 ?_
  refine A_icmp_ge (tgt := 36) dX11_outcomeAt_9 rfl (fun h9 => ?_) (fun h9 => ?_)
  · rw [nI_leI (by omega) (by omega)] at h9
    refine A_iconst (v := -1) dX11_outcomeAt_36 rfl ?_
    refine A_iload_n dX11_outcomeAt_37 rfl 1 rfl ?_
    refine A_isub dX11_outcomeAt_38 ?_
    exact A_iret dX11_outcomeAt_39 rfl (rti (by have e : i = q.1 := (by omega); subst e; rw [if_neg hn]) rfl)
  · rw [nI_leI (by omega) (by omega)] at h9
    refine A_aload_n dX11_outcomeAt_12 rfl 3 rfl ?_
    refine A_iload_n dX11_outcomeAt_13 rfl 0 rfl ?_
    refine A_callV (M' := MX11_isOutcome) [.int (nI i)] [] 93 dX11_outcomeAt_14 lk_RX11_247 oX11_isOutcome iX11_isOutcome rfl rfl ⟨lb rfl, lb rfl⟩ (lb rfl) ⟨lb rfl, lb rfl⟩ L93 rfl (c_isO f s k p rz lz hC w q x hJ i (by omega)) ?_
    rintro _ g0 ⟨rfl, hg0⟩
    rw [hg0]
    refine A_if_eq (tgt := 30) dX11_outcomeAt_17 rfl (fun h17 => ?_) (fun h17 => ?_)
    · refine A_iinc (lv' := [(3, .int (nI (i + 1))), (2, .int (nI (ol (fun i => ovb (s 13 0) (q.2.1 i)) (fun i => cw (q.2.1 i).2) i).1)), (1, .int y), (0, .ref 93)]) dX11_outcomeAt_30 0 rfl (nI_add i 1) (lb rfl) rfl ?_
      refine A_goto (tgt := 4) dX11_outcomeAt_33 rfl ?_
      have of := ol_f (g := (fun i => ovb (s 13 0) (q.2.1 i))) (x := (fun i => cw (q.2.1 i).2)) (bz_0.mp h17)
      have r := ih (i + 1) (by omega) (by omega) (by rw [of]; exact hn)
      rw [of] at r
      refine A_sub [0, 1, 2, 3] rfl ?_
      exact r
    · refine A_iload_n dX11_outcomeAt_20 rfl 1 rfl ?_
      refine A_iload_n dX11_outcomeAt_21 rfl 2 rfl ?_
      refine A_icmp_ne (tgt := 27) dX11_outcomeAt_22 rfl (fun h22 => ?_) (fun h22 => ?_)
      · refine A_iinc (lv' := [(2, .int (nI ((ol (fun i => ovb (s 13 0) (q.2.1 i)) (fun i => cw (q.2.1 i).2) i).1 + 1))), (3, .int (nI i)), (1, .int y), (0, .ref 93)]) dX11_outcomeAt_27 1 rfl (nI_add ((ol (fun i => ovb (s 13 0) (q.2.1 i)) (fun i => cw (q.2.1 i).2) i).1) 1) (lb rfl) rfl ?_
        refine A_iinc (lv' := [(3, .int (nI (i + 1))), (2, .int (nI ((ol (fun i => ovb (s 13 0) (q.2.1 i)) (fun i => cw (q.2.1 i).2) i).1 + 1))), (1, .int y), (0, .ref 93)]) dX11_outcomeAt_30 1 rfl (nI_add i 1) (lb rfl) rfl ?_
        refine A_goto (tgt := 4) dX11_outcomeAt_33 rfl ?_
        have ot := ol_t (g := (fun i => ovb (s 13 0) (q.2.1 i))) (x := (fun i => cw (q.2.1 i).2)) (bz_n0.mp h17)
        have r := ih (i + 1) (by omega) (by omega) (fun z => by rw [ot] at z; obtain ⟨jj, hj1, hj2⟩ := inR_of (by show (ol (fun i => ovb (s 13 0) (q.2.1 i)) (fun i => cw (q.2.1 i).2) i).1 + 1 < 2 ^ 31; omega) z; have hj1 : jj < (ol (fun i => ovb (s 13 0) (q.2.1 i)) (fun i => cw (q.2.1 i).2) i).1 + 1 := hj1; rcases Nat.lt_or_ge jj (ol (fun i => ovb (s 13 0) (q.2.1 i)) (fun i => cw (q.2.1 i).2) i).1 with t | t; exact hn (hj2 ▸ (inR_nI (by omega)).mpr t); exact h22 (by rw [hj2, show jj = (ol (fun i => ovb (s 13 0) (q.2.1 i)) (fun i => cw (q.2.1 i).2) i).1 by omega]))
        rw [ot] at r
        refine A_sub [0, 1, 2, 3] rfl ?_
        exact r
      · refine A_iload_n dX11_outcomeAt_25 rfl 0 rfl ?_
        exact A_iret dX11_outcomeAt_26 rfl (rti (by have z : (ol (fun i => ovb (s 13 0) (q.2.1 i)) (fun i => cw (q.2.1 i).2) i).1 < (ol (fun i => ovb (s 13 0) (q.2.1 i)) (fun i => cw (q.2.1 i).2) (i + 1)).1 := (by rw [ol_t (bz_n0.mp h17)]; exact Nat.lt_succ_self _); have e := ol_pre (fun i => ovb (s 13 0) (q.2.1 i)) (fun i => cw (q.2.1 i).2) z q.1 (by omega); rw [← h22, if_pos ((inR_nI (by omega)).mpr e.1), nI_clamp (by omega)]; rw [show (oL (s 13 0) q.2.1 q.1).2 (ol (fun i => ovb (s 13 0) (q.2.1 i)) (fun i => cw (q.2.1 i).2) i).1 = _ from e.2, ol_t (bz_n0.mp h17)]; show nI i = nI (upN (ol (fun i => ovb (s 13 0) (q.2.1 i)) (fun i => cw (q.2.1 i).2) i).2 (ol (fun i => ovb (s 13 0) (q.2.1 i)) (fun i => cw (q.2.1 i).2) i).1 i (ol (fun i => ovb (s 13 0) (q.2.1 i)) (fun i => cw (q.2.1 i).2) i).1); rw [upN_s]) rfl)
theorem c_oa (f : Mem) (s : Sg) (k p rz lz : Ro) (hC : RC f s k p rz lz) (w : wfC s k p) (q : Sr) (x : RE f q) (hJ : Jq p (s, k) q) (y : Int32) : C0 MX11_outcomeAt [.ref 93, .int y] f (rt (some (.int (if inR y (oL (s 13 0) q.2.1 q.1).1 then nI ((oL (s 13 0) q.2.1 q.1).2 y.toNatClampNeg) else -1 - nI (oL (s 13 0) q.2.1 q.1).1))) f) := by
  refine Ct.of (lv := [(0, .ref 93), (1, .int y)]) (by decide) (lb rfl) rfl ?_
  refine A_iconst (v := 0) dX11_outcomeAt_0 rfl ?_
  refine A_istore_n (lv' := [(2, .int 0), (0, .ref 93), (1, .int y)]) dX11_outcomeAt_1 rfl (lb rfl) rfl ?_
  refine A_iconst (v := 0) dX11_outcomeAt_2 rfl ?_
  refine A_istore_n (lv' := [(3, .int 0), (2, .int 0), (0, .ref 93), (1, .int y)]) dX11_outcomeAt_3 rfl (lb rfl) rfl ?_
  refine A_sub [0, 1, 3, 2] rfl ?_
  exact lc_oa f s k p rz lz hC w q x hJ y 0 (by omega) (fun z => by have a := z.1; have b := z.2; have c : y.toInt < ((0 : Nat) : Int) := b; omega)
theorem lc_way (f : Mem) (s : Sg) (k p rz lz : Ro) (hC : RC f s k p rz lz) (w : wfC s k p) (q : Sr) (x : RE f q) (hJ : Jq p (s, k) q) (hW : Jw q) (g i : Nat) (hg : g < q.1) (hi : i < q.2.2.2.2.1 g) : ∀ m, m ≤ q.2.2.2.2.1 g - 1 - i → A (cM MX11_onWay 0 0 layT layT (rt (some (.int (nI (q.2.2.2.1 (anc q g (q.2.2.2.2.1 g - 1 - i)))))) f)) 2 [(3, .int (nI (anc q g m))), (2, .int (nI i)), (0, .ref 93)] [] f := by
  have h600 := hJ.2.1
  have hle := hW.le g hg
  refine up_ind (q.2.2.2.2.1 g - 1 - i) (fun m hm ih => ?_)
  have ha0 := hW.anc hg m (by omega)
  have hp : 1 ≤ anc q g m := by
    rcases Nat.eq_zero_or_pos (anc q g m) with z | z
    · have e := ha0.2; rw [z, hW.2.2.2.2] at e; omega
    · exact z
  refine A_aload_n dX11_onWay_2 rfl 2 rfl ?_
  refine A_getR (b := 107) dX11_onWay_3 fo_RX11_49 L93 rfl ?_
  refine A_iload_n dX11_onWay_6 rfl 0 rfl ?_
  refine A_iaload (anc q g m) dX11_onWay_7 L107 (rfl) (by omega) (lb rfl) ?_
  refine A_topi (nI (q.2.2.2.2.1 (anc q g m))) (x.2.2.2 _ ha0.1) ?_
  refine A_iload_n dX11_onWay_8 rfl 1 rfl ?_
  refine A_iconst (v := 1) dX11_onWay_9 rfl ?_
  refine A_iadd dX11_onWay_10 ?_
  refine A_icmp_le (tgt := 24) dX11_onWay_11 rfl (fun h11 => ?_) (fun h11 => ?_)
  · rw [show nI i + 1 = nI (i + 1) from (nI_succ i).symm, nI_leI (by omega) (by omega)] at h11
    refine A_aload_n dX11_onWay_24 rfl 2 rfl ?_
    refine A_getR (b := 106) dX11_onWay_25 fo_RX11_46 L93 rfl ?_
    refine A_iload_n dX11_onWay_28 rfl 0 rfl ?_
    refine A_iaload (anc q g m) dX11_onWay_29 L106 (rfl) (by omega) (lb rfl) ?_
    refine A_topi (nI (q.2.2.2.1 (anc q g m))) (x.2.2.1 _ hp ha0.1).2 ?_
    exact A_iret dX11_onWay_30 rfl (rti (by rw [show m = q.2.2.2.2.1 g - 1 - i by omega]) rfl)
  · rw [show nI i + 1 = nI (i + 1) from (nI_succ i).symm, nI_leI (by omega) (by omega)] at h11
    refine A_aload_n dX11_onWay_14 rfl 2 rfl ?_
    refine A_getR (b := 105) dX11_onWay_15 fo_RX11_43 L93 rfl ?_
    refine A_iload_n dX11_onWay_18 rfl 0 rfl ?_
    refine A_iaload (anc q g m) dX11_onWay_19 L105 (rfl) (by omega) (lb rfl) ?_
    refine A_topi (nI (anc q g (m + 1))) (x.2.2.1 _ hp ha0.1).1 ?_
    refine A_istore_n (lv' := [(3, .int (nI (anc q g (m + 1)))), (2, .int (nI i)), (0, .ref 93)]) dX11_onWay_20 rfl (lb rfl) rfl ?_
    refine A_goto (tgt := 2) dX11_onWay_21 rfl ?_
    refine A_sub [0, 1, 2] rfl ?_
    exact ih (m + 1) (by omega) (by omega)
theorem c_way (f : Mem) (s : Sg) (k p rz lz : Ro) (hC : RC f s k p rz lz) (w : wfC s k p) (q : Sr) (x : RE f q) (hJ : Jq p (s, k) q) (hW : Jw q) (g i : Nat) (hg : g < q.1) (hi : i < q.2.2.2.2.1 g) : C0 MX11_onWay [.ref 93, .int (nI g), .int (nI i)] f (rt (some (.int (nI (q.2.2.2.1 (anc q g (q.2.2.2.2.1 g - 1 - i)))))) f) := by
  refine Ct.of (lv := [(0, .ref 93), (1, .int (nI g)), (2, .int (nI i))]) (by decide) (lb rfl) rfl ?_
  refine A_iload_n dX11_onWay_0 rfl 1 rfl ?_
  refine A_istore_n (lv' := [(3, .int (nI g)), (0, .ref 93), (1, .int (nI g)), (2, .int (nI i))]) dX11_onWay_1 rfl (lb rfl) rfl ?_
  refine A_sub [0, 3, 1] rfl ?_
  exact lc_way f s k p rz lz hC w q x hJ hW g i hg hi 0 (by omega)
