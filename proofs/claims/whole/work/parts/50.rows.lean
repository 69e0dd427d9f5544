/-! the reference: what is asked of a row -/
def isRw (f : Mem) (a b N : Nat) (s : Sg) (k : Ro) : Prop := layT[a]? = some (0, N, []) ∧ b + 52 ≤ N ∧ N ≤ 31200 ∧ ∀ j, j < 52 → f a (b + j) = flat s k j
theorem isRw.st {f : Mem} {a b N : Nat} {s : Sg} {k : Ro} (h : isRw f a b N s k) {i : Nat} (hi : i < 4) : f a (b + 4 + i) = nI (s 1 i) := by
  rw [show b + 4 + i = b + (4 + i) by omega]; exact (h.2.2.2 _ (by omega)).trans (flat_1 _ _ hi)
theorem isRw.ow {f : Mem} {a b N : Nat} {s : Sg} {k : Ro} (h : isRw f a b N s k) {i : Nat} (hi : i < 3) : f a (b + 12 + i) = nI (s 3 i) := by
  rw [show b + 12 + i = b + (12 + i) by omega]; exact (h.2.2.2 _ (by omega)).trans (flat_3 _ _ hi)
theorem are_t {g : Nat → Nat} {x : Int32} {i : Nat} (h : nI (g i) = x) : areI g x (i + 1) = areI g x i ||| ((1 : Int32) <<< (nI i &&& 31)) := by rw [areI, if_pos h]
theorem are_f {g : Nat → Nat} {x : Int32} {i : Nat} (h : ¬ nI (g i) = x) : areI g x (i + 1) = areI g x i := by rw [areI, if_neg h]
theorem own_r {x t : Nat} (h : x ≤ 4) (ht : t < 4) : nI x = nI t + 1 ↔ x = t + 1 := by
  rw [show nI t + 1 = nI (t + 1) from nI_add t 1, nI_eq (by omega) (by omega)]
theorem lc_are (x : Int32) (f : Mem) (a b N : Nat) (s : Sg) (k : Ro) (hR : isRw f a b N s k) {n : Nat} (hn : f 94 52 = nI n) (hn4 : n ≤ 4) : ∀ i, i ≤ n → A (cM MX11_areIn 0 0 layT layT (rt (some (.int (areI (s 1) x n))) f)) 6 [(5, .int (nI i)), (4, .int (areI (s 1) x i)), (0, .ref 93), (1, .ref a), (2, .int (nI b)), (3, .int x)] [] f := by
  refine up_ind n (fun i hi ih => ?_)
  refine A_iload dX11_areIn_6 0 rfl ?_
  refine A_aload_n dX11_areIn_8 rfl 2 rfl ?_
  refine A_getR (b := 94) dX11_areIn_9 fo_RX11_9 L93 rfl ?_
  refine A_bipush (v := 52) dX11_areIn_12 rfl ?_
  refine A_iaload 52 dX11_areIn_14 L94 (rfl) (by decide) (lb rfl) ?_
  refine A_topi (nI n) (hn) ?_
  refine A_icmp_ge (tgt := 49) dX11_areIn_15 rfl (fun h15 => ?_) (fun h15 => ?_)
  · rw [nI_leI (by omega) (by omega)] at h15
    have ei : i = n := by omega
    refine A_iload dX11_areIn_49 1 rfl ?_
    exact A_iret dX11_areIn_51 rfl (rti (by rw [ei]) rfl)
  · rw [nI_leI (by omega) (by omega)] at h15
    refine A_iload dX11_areIn_18 1 rfl ?_
    refine A_aload_n dX11_areIn_20 rfl 3 rfl ?_
    refine A_iload_n dX11_areIn_21 rfl 4 rfl ?_
    refine A_iconst (v := 4) dX11_areIn_22 rfl ?_
    refine A_iadd dX11_areIn_23 ?_
    refine A_iload dX11_areIn_24 0 rfl ?_
    refine A_iadd dX11_areIn_26 ?_
    refine A_iaload (b + 4 + i) dX11_areIn_27 hR.1 (by simp only [lit, nI_add, pk_mul]) (by have := hR.2.1; omega) (by have := hR.2.2.1; omega) ?_
    refine A_topi (nI (s 1 i)) (hR.st (by omega)) ?_
    refine A_iload_n dX11_areIn_28 rfl 5 rfl ?_
    refine A_icmp_ne (tgt := 39) dX11_areIn_29 rfl (fun h29 => ?_) (fun h29 => ?_)
    · refine A_iconst (v := 0) dX11_areIn_39 rfl ?_
      refine A_ior dX11_areIn_40 ?_
      refine A_istore (lv' := [(4, .int ((areI (s 1) x i) ||| 0)), (5, .int (nI i)), (0, .ref 93), (1, .ref a), (2, .int (nI b)), (3, .int x)]) dX11_areIn_41 (lb rfl) rfl ?_
      refine A_iinc (lv' := [(5, .int (nI (i + 1))), (4, .int ((areI (s 1) x i) ||| 0)), (0, .ref 93), (1, .ref a), (2, .int (nI b)), (3, .int x)]) dX11_areIn_43 1 rfl (nI_add i 1) (lb rfl) rfl ?_
      refine A_goto (tgt := 6) dX11_areIn_46 rfl ?_
      have e := ih (i + 1) (by omega) (by omega)
      rw [are_f h29] at e
      rw [Int32.or_zero]
      exact e
    · refine A_iconst (v := 1) dX11_areIn_32 rfl ?_
      refine A_iload dX11_areIn_33 0 rfl ?_
      refine A_ishl dX11_areIn_35 ?_
      refine A_goto (tgt := 40) dX11_areIn_36 rfl ?_
      refine A_ior dX11_areIn_40 ?_
      refine A_istore (lv' := [(4, .int ((areI (s 1) x i) ||| (1 <<< ((nI i) &&& 31)))), (5, .int (nI i)), (0, .ref 93), (1, .ref a), (2, .int (nI b)), (3, .int x)]) dX11_areIn_41 (lb rfl) rfl ?_
      refine A_iinc (lv' := [(5, .int (nI (i + 1))), (4, .int ((areI (s 1) x i) ||| (1 <<< ((nI i) &&& 31)))), (0, .ref 93), (1, .ref a), (2, .int (nI b)), (3, .int x)]) dX11_areIn_43 1 rfl (nI_add i 1) (lb rfl) rfl ?_
      refine A_goto (tgt := 6) dX11_areIn_46 rfl ?_
      have e := ih (i + 1) (by omega) (by omega)
      rw [are_t h29] at e
      exact e
theorem c_areIn (x : Int32) (f : Mem) (a b N : Nat) (s : Sg) (k : Ro) (hR : isRw f a b N s k) {n : Nat} (hn : f 94 52 = nI n) (hn4 : n ≤ 4) : C0 MX11_areIn [.ref 93, .ref a, .int (nI b), .int x] f (rt (some (.int (areI (s 1) x n))) f) := by
  refine Ct.of (lv := [(0, .ref 93), (1, .ref a), (2, .int (nI b)), (3, .int x)]) (by decide) (lb rfl) rfl ?_
  refine A_iconst (v := 0) dX11_areIn_0 rfl ?_
  refine A_istore (lv' := [(4, .int 0), (0, .ref 93), (1, .ref a), (2, .int (nI b)), (3, .int x)]) dX11_areIn_1 (lb rfl) rfl ?_
  refine A_iconst (v := 0) dX11_areIn_3 rfl ?_
  refine A_istore (lv' := [(5, .int 0), (4, .int 0), (0, .ref 93), (1, .ref a), (2, .int (nI b)), (3, .int x)]) dX11_areIn_4 (lb rfl) rfl ?_
  exact lc_are x f a b N s k hR hn hn4 0 (by omega)
theorem lc_own (t : Nat) (f : Mem) (a b N : Nat) (s : Sg) (k : Ro) (hR : isRw f a b N s k) (ht : t < 4) (hM : wfM s) : ∀ i, i ≤ 3 → A (cM MX11_ownedBy 0 0 layT layT (rt (some (.int (ownI (s 3) t 3))) f)) 6 [(5, .int (nI i)), (4, .int (ownI (s 3) t i)), (0, .ref 93), (1, .ref a), (2, .int (nI b)), (3, .int (nI t))] [] f := by
  refine up_ind 3 (fun i hi ih => ?_)
  refine A_iload dX11_ownedBy_6 0 rfl ?_
  refine A_iconst (v := 3) dX11_ownedBy_8 rfl ?_
  refine A_icmp_ge (tgt := 46) dX11_ownedBy_9 rfl (fun h9 => ?_) (fun h9 => ?_)
  · rw [show (3 : Int32) = nI 3 from rfl, nI_leI (by omega) (by omega)] at h9
    have ei : i = 3 := by omega
    refine A_iload dX11_ownedBy_46 1 rfl ?_
    exact A_iret dX11_ownedBy_48 rfl (rti (by rw [ei]) rfl)
  · rw [show (3 : Int32) = nI 3 from rfl, nI_leI (by omega) (by omega)] at h9
    refine A_iload dX11_ownedBy_12 1 rfl ?_
    refine A_aload_n dX11_ownedBy_14 rfl 3 rfl ?_
    refine A_iload_n dX11_ownedBy_15 rfl 4 rfl ?_
    refine A_bipush (v := 12) dX11_ownedBy_16 rfl ?_
    refine A_iadd dX11_ownedBy_18 ?_
    refine A_iload dX11_ownedBy_19 0 rfl ?_
    refine A_iadd dX11_ownedBy_21 ?_
    refine A_iaload (b + 12 + i) dX11_ownedBy_22 hR.1 (by simp only [lit, nI_add, pk_mul]) (by have := hR.2.1; omega) (by have := hR.2.2.1; omega) ?_
    refine A_topi (nI (s 3 i)) (hR.ow (by omega)) ?_
    refine A_iload_n dX11_ownedBy_23 rfl 5 rfl ?_
    refine A_iconst (v := 1) dX11_ownedBy_24 rfl ?_
    refine A_iadd dX11_ownedBy_25 ?_
    refine A_icmp_ne (tgt := 36) dX11_ownedBy_26 rfl (fun h26 => ?_) (fun h26 => ?_)
    · rw [own_r (hM i (by omega)).1 ht] at h26
      refine A_iconst (v := 0) dX11_ownedBy_36 rfl ?_
      refine A_ior dX11_ownedBy_37 ?_
      refine A_istore (lv' := [(4, .int ((ownI (s 3) t i) ||| 0)), (5, .int (nI i)), (0, .ref 93), (1, .ref a), (2, .int (nI b)), (3, .int (nI t))]) dX11_ownedBy_38 (lb rfl) rfl ?_
      refine A_iinc (lv' := [(5, .int (nI (i + 1))), (4, .int ((ownI (s 3) t i) ||| 0)), (0, .ref 93), (1, .ref a), (2, .int (nI b)), (3, .int (nI t))]) dX11_ownedBy_40 1 rfl (nI_add i 1) (lb rfl) rfl ?_
      refine A_goto (tgt := 6) dX11_ownedBy_43 rfl ?_
      have e := ih (i + 1) (by omega) (by omega)
      rw [own_f h26] at e
      rw [Int32.or_zero]
      exact e
    · rw [own_r (hM i (by omega)).1 ht] at h26
      refine A_iconst (v := 1) dX11_ownedBy_29 rfl ?_
      refine A_iload dX11_ownedBy_30 0 rfl ?_
      refine A_ishl dX11_ownedBy_32 ?_
      refine A_goto (tgt := 37) dX11_ownedBy_33 rfl ?_
      refine A_ior dX11_ownedBy_37 ?_
      refine A_istore (lv' := [(4, .int ((ownI (s 3) t i) ||| (1 <<< ((nI i) &&& 31)))), (5, .int (nI i)), (0, .ref 93), (1, .ref a), (2, .int (nI b)), (3, .int (nI t))]) dX11_ownedBy_38 (lb rfl) rfl ?_
      refine A_iinc (lv' := [(5, .int (nI (i + 1))), (4, .int ((ownI (s 3) t i) ||| (1 <<< ((nI i) &&& 31)))), (0, .ref 93), (1, .ref a), (2, .int (nI b)), (3, .int (nI t))]) dX11_ownedBy_40 1 rfl (nI_add i 1) (lb rfl) rfl ?_
      refine A_goto (tgt := 6) dX11_ownedBy_43 rfl ?_
      have e := ih (i + 1) (by omega) (by omega)
      rw [own_t h26] at e
      exact e
theorem c_ownedBy (t : Nat) (f : Mem) (a b N : Nat) (s : Sg) (k : Ro) (hR : isRw f a b N s k) (ht : t < 4) (hM : wfM s) : C0 MX11_ownedBy [.ref 93, .ref a, .int (nI b), .int (nI t)] f (rt (some (.int (ownI (s 3) t 3))) f) := by
  refine Ct.of (lv := [(0, .ref 93), (1, .ref a), (2, .int (nI b)), (3, .int (nI t))]) (by decide) (lb rfl) rfl ?_
  refine A_iconst (v := 0) dX11_ownedBy_0 rfl ?_
  refine A_istore (lv' := [(4, .int 0), (0, .ref 93), (1, .ref a), (2, .int (nI b)), (3, .int (nI t))]) dX11_ownedBy_1 (lb rfl) rfl ?_
  refine A_iconst (v := 0) dX11_ownedBy_3 rfl ?_
  refine A_istore (lv' := [(5, .int 0), (4, .int 0), (0, .ref 93), (1, .ref a), (2, .int (nI b)), (3, .int (nI t))]) dX11_ownedBy_4 (lb rfl) rfl ?_
  exact lc_own t f a b N s k hR ht hM 0 (by omega)
theorem c_sticks (f : Mem) (a b N : Nat) (s : Sg) (k : Ro) (hR : isRw f a b N s k) {n : Nat} (hn : f 94 52 = nI n) (hn4 : n ≤ 4) : C0 MX11_sticks [.ref 93, .ref a, .int (nI b)] f (rt (some (.int (bz (stickP s n)))) f) := by
  refine Ct.of (lv := [(0, .ref 93), (1, .ref a), (2, .int (nI b))]) (by decide) (lb rfl) rfl ?_
  refine A_aload_n dX11_sticks_0 rfl 0 rfl ?_
  refine A_aload_n dX11_sticks_1 rfl 1 rfl ?_
  refine A_iload_n dX11_sticks_2 rfl 2 rfl ?_
  refine A_iconst (v := 0) dX11_sticks_3 rfl ?_
  refine A_callV (M' := MX11_areIn) [.ref a, .int (nI b), .int 0] [] 93 dX11_sticks_4 lk_RX11_215 oX11_areIn iX11_areIn rfl rfl ⟨lb rfl, lb rfl⟩ (lb rfl) ⟨lb rfl, lb rfl⟩ L93 rfl (c_areIn 0 f a b N s k hR hn hn4) ?_
  rintro _ g0 ⟨rfl, hg0⟩
  rw [hg0]
  refine A_if_ne (tgt := 32) dX11_sticks_7 rfl (fun h7 => ?_) (fun h7 => ?_)
  · refine A_iconst (v := 0) dX11_sticks_32 rfl ?_
    exact A_zret dX11_sticks_33 rfl (by decide) (rti (bz_f (fun q => by first | exact h7 q.1 | exact q.2 h25)).symm rfl)
  · refine A_aload_n dX11_sticks_10 rfl 0 rfl ?_
    refine A_aload_n dX11_sticks_11 rfl 1 rfl ?_
    refine A_iload_n dX11_sticks_12 rfl 2 rfl ?_
    refine A_iconst (v := 1) dX11_sticks_13 rfl ?_
    refine A_callV (M' := MX11_areIn) [.ref a, .int (nI b), .int 1] [] 93 dX11_sticks_14 lk_RX11_215 oX11_areIn iX11_areIn rfl rfl ⟨lb rfl, lb rfl⟩ (lb rfl) ⟨lb rfl, lb rfl⟩ L93 rfl (c_areIn 1 f a b N s k hR hn hn4) ?_
    rintro _ g0 ⟨rfl, hg0⟩
    rw [hg0]
    refine A_aload_n dX11_sticks_17 rfl 0 rfl ?_
    refine A_aload_n dX11_sticks_18 rfl 1 rfl ?_
    refine A_iload_n dX11_sticks_19 rfl 2 rfl ?_
    refine A_iconst (v := 2) dX11_sticks_20 rfl ?_
    refine A_callV (M' := MX11_areIn) [.ref a, .int (nI b), .int 2] [.int (areI (s 1) 1 n)] 93 dX11_sticks_21 lk_RX11_215 oX11_areIn iX11_areIn rfl rfl ⟨lb rfl, lb rfl⟩ (lb rfl) ⟨lb rfl, lb rfl⟩ L93 rfl (c_areIn 2 f a b N s k hR hn hn4) ?_
    rintro _ g0 ⟨rfl, hg0⟩
    rw [hg0]
    refine A_ior dX11_sticks_24 ?_
    refine A_if_eq (tgt := 32) dX11_sticks_25 rfl (fun h25 => ?_) (fun h25 => ?_)
    · refine A_iconst (v := 0) dX11_sticks_32 rfl ?_
      exact A_zret dX11_sticks_33 rfl (by decide) (rti (bz_f (fun q => by first | exact h7 q.1 | exact q.2 h25)).symm rfl)
    · refine A_iconst (v := 1) dX11_sticks_28 rfl ?_
      refine A_goto (tgt := 33) dX11_sticks_29 rfl ?_
      exact A_zret dX11_sticks_33 rfl (by decide) (rti (bz_t ⟨h7, h25⟩).symm rfl)
theorem are_c {g h : Nat → Nat} {x : Int32} : ∀ {n : Nat}, (∀ i, i < n → g i = h i) → areI g x n = areI h x n
  | 0, _ => rfl
  | n + 1, e => by
    rw [areI, areI, e n (by omega), are_c (fun i hi => e i (by omega))]
theorem over_d : ∀ a, a < 5 → ∀ b, b < 5 → ∀ c, c < 5 → ∀ d, d < 5 → ∀ n, n < 5 → (areI (fun i => [a, b, c, d].getD i 0) 3 n ||| areI (fun i => [a, b, c, d].getD i 0) 4 n = ((1 : Int32) <<< (nI n &&& 31)) - 1 ↔ (areI (fun i => [a, b, c, d].getD i 0) 0 n ||| areI (fun i => [a, b, c, d].getD i 0) 1 n) ||| areI (fun i => [a, b, c, d].getD i 0) 2 n = 0) := by decide +kernel
theorem over_e {g : Nat → Nat} {n : Nat} (h : ∀ t, t < 4 → g t ≤ 4) (hn : n ≤ 4) : (areI g 3 n ||| areI g 4 n = ((1 : Int32) <<< (nI n &&& 31)) - 1 ↔ (areI g 0 n ||| areI g 1 n) ||| areI g 2 n = 0) := by
  have e : ∀ i, i < n → g i = (fun i => [g 0, g 1, g 2, g 3].getD i 0) i := fun i hi => by
    match i, (show i < 4 by omega) with
    | 0, _ => rfl
    | 1, _ => rfl
    | 2, _ => rfl
    | 3, _ => rfl
  rw [are_c (x := 0) e, are_c (x := 1) e, are_c (x := 2) e, are_c (x := 3) e, are_c (x := 4) e]
  exact over_d (g 0) (by have := h 0 (by omega); omega) (g 1) (by have := h 1 (by omega); omega) (g 2) (by have := h 2 (by omega); omega) (g 3) (by have := h 3 (by omega); omega) n (by omega)
theorem c_isOver (f : Mem) (a b N : Nat) (s : Sg) (k : Ro) (hR : isRw f a b N s k) {n : Nat} (hn : f 94 52 = nI n) (hn4 : n ≤ 4) (h4 : ∀ t, t < 4 → s 1 t ≤ 4) : C0 MX11_isOver [.ref 93, .ref a, .int (nI b)] f (rt (some (.int (bz (overP s n)))) f) := by
  refine Ct.of (lv := [(0, .ref 93), (1, .ref a), (2, .int (nI b))]) (by decide) (lb rfl) rfl ?_
  refine A_aload_n dX11_isOver_0 rfl 0 rfl ?_
  refine A_getR (b := 94) dX11_isOver_1 fo_RX11_9 L93 rfl ?_
  refine A_bipush (v := 52) dX11_isOver_4 rfl ?_
  refine A_iaload 52 dX11_isOver_6 L94 (rfl) (by decide) (lb rfl) ?_
  refine A_topi (nI n) (hn) ?_
  refine A_if_le (tgt := 43) dX11_isOver_7 rfl (fun h7 => ?_) (fun h7 => ?_)
  · refine A_iconst (v := 0) dX11_isOver_43 rfl ?_
    exact A_zret dX11_isOver_44 rfl (by decide) (rti (bz_f (fun q => by first | exact nI_nle q.1 (by omega) h7 | exact h36 ((over_e h4 hn4).mpr q.2))).symm rfl)
  · refine A_aload_n dX11_isOver_10 rfl 0 rfl ?_
    refine A_aload_n dX11_isOver_11 rfl 1 rfl ?_
    refine A_iload_n dX11_isOver_12 rfl 2 rfl ?_
    refine A_iconst (v := 3) dX11_isOver_13 rfl ?_
    refine A_callV (M' := MX11_areIn) [.ref a, .int (nI b), .int 3] [] 93 dX11_isOver_14 lk_RX11_215 oX11_areIn iX11_areIn rfl rfl ⟨lb rfl, lb rfl⟩ (lb rfl) ⟨lb rfl, lb rfl⟩ L93 rfl (c_areIn 3 f a b N s k hR hn hn4) ?_
    rintro _ g0 ⟨rfl, hg0⟩
    rw [hg0]
    refine A_aload_n dX11_isOver_17 rfl 0 rfl ?_
    refine A_aload_n dX11_isOver_18 rfl 1 rfl ?_
    refine A_iload_n dX11_isOver_19 rfl 2 rfl ?_
    refine A_iconst (v := 4) dX11_isOver_20 rfl ?_
    refine A_callV (M' := MX11_areIn) [.ref a, .int (nI b), .int 4] [.int (areI (s 1) 3 n)] 93 dX11_isOver_21 lk_RX11_215 oX11_areIn iX11_areIn rfl rfl ⟨lb rfl, lb rfl⟩ (lb rfl) ⟨lb rfl, lb rfl⟩ L93 rfl (c_areIn 4 f a b N s k hR hn hn4) ?_
    rintro _ g0 ⟨rfl, hg0⟩
    rw [hg0]
    refine A_ior dX11_isOver_24 ?_
    refine A_iconst (v := 1) dX11_isOver_25 rfl ?_
    refine A_aload_n dX11_isOver_26 rfl 0 rfl ?_
    refine A_getR (b := 94) dX11_isOver_27 fo_RX11_9 L93 rfl ?_
    refine A_bipush (v := 52) dX11_isOver_30 rfl ?_
    refine A_iaload 52 dX11_isOver_32 L94 (rfl) (by decide) (lb rfl) ?_
    refine A_topi (nI n) (hn) ?_
    refine A_ishl dX11_isOver_33 ?_
    refine A_iconst (v := 1) dX11_isOver_34 rfl ?_
    refine A_isub dX11_isOver_35 ?_
    refine A_icmp_ne (tgt := 43) dX11_isOver_36 rfl (fun h36 => ?_) (fun h36 => ?_)
    · refine A_iconst (v := 0) dX11_isOver_43 rfl ?_
      exact A_zret dX11_isOver_44 rfl (by decide) (rti (bz_f (fun q => by first | exact nI_nle q.1 (by omega) h7 | exact h36 ((over_e h4 hn4).mpr q.2))).symm rfl)
    · refine A_iconst (v := 1) dX11_isOver_39 rfl ?_
      refine A_goto (tgt := 44) dX11_isOver_40 rfl ?_
      exact A_zret dX11_isOver_44 rfl (by decide) (rti (bz_t ⟨n0_of h7, (over_e h4 hn4).mp h36⟩).symm rfl)
