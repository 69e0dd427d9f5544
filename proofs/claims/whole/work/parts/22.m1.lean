theorem lb {a b : Nat} (h : Nat.ble a b = true) : a ≤ b := Nat.le_of_ble_eq_true h
theorem rti {x y : Int32} {g h : Mem} (e : x = y) (e2 : g = h) : rt (some (.int y)) h (some (.int x)) g := ⟨by rw [e], e2⟩
theorem c_in {lay : List Ly} (x y z : Int64) (f : Mem) : Ct MX11_in 0 0 lay lay [.long x, .long y, .long z] f (rt (some (.int (bz (y.toInt ≤ x.toInt ∧ x.toInt ≤ z.toInt)))) f) := by
  refine Ct.of (lv := [(0, .long x), (2, .long y), (4, .long z)]) (by decide) (lb rfl) rfl ?_
  refine A_lload_n dX11_in_0 rfl 0 rfl ?_
  refine A_lload_n dX11_in_1 rfl 1 rfl ?_
  refine A_lcmp dX11_in_2 ?_
  refine A_if_lt (tgt := 17) dX11_in_3 rfl (fun h3 => ?_) (fun h3 => ?_)
  · refine A_iconst (v := 0) dX11_in_17 rfl ?_
    exact A_zret dX11_in_18 rfl (by decide) (rti (bz_f (fun q => by first | (have := (lc_lt _ _).mp h3; omega) | (have := (lc_gt _ _).mp h10; omega))).symm rfl)
  · refine A_lload_n dX11_in_6 rfl 0 rfl ?_
    refine A_lload dX11_in_7 2 rfl ?_
    refine A_lcmp dX11_in_9 ?_
    refine A_if_gt (tgt := 17) dX11_in_10 rfl (fun h10 => ?_) (fun h10 => ?_)
    · refine A_iconst (v := 0) dX11_in_17 rfl ?_
      exact A_zret dX11_in_18 rfl (by decide) (rti (bz_f (fun q => by first | (have := (lc_lt _ _).mp h3; omega) | (have := (lc_gt _ _).mp h10; omega))).symm rfl)
    · refine A_iconst (v := 1) dX11_in_13 rfl ?_
      refine A_goto (tgt := 18) dX11_in_14 rfl ?_
      exact A_zret dX11_in_18 rfl (by decide) (rti (bz_t ⟨by have := mt (lc_lt _ _).mpr h3; omega, by have := mt (lc_gt _ _).mpr h10; omega⟩).symm rfl)
theorem cpy_at (f : Mem) {a0 a : Nat} (ia ip j : Nat) (hne : a0 ≠ a) : u2 (gt_cpy f a0 ia a ip j) a (ip + j) (gt_cpy f a0 ia a ip j a0 (ia + j)) = gt_cpy f a0 ia a ip (j + 1) := by
  funext b
  by_cases hb : b = a
  · subst hb
    rw [u2_s]
    unfold gt_cpy
    rw [ur_s, ur_s, ur_n _ _ hne]
    funext k
    unfold upd va_cpy
    by_cases hk : k = ip + j
    · subst hk; rw [if_pos rfl, if_pos ⟨by omega, by omega⟩]; congr 1; omega
    · rw [if_neg hk]
      by_cases h : ip ≤ k ∧ k < ip + j
      · rw [if_pos h, if_pos ⟨h.1, by omega⟩]
      · rw [if_neg h, if_neg (fun q => h ⟨q.1, by omega⟩)]
  · rw [u2_n _ _ _ hb]
    unfold gt_cpy
    rw [ur_n _ _ hb, ur_n _ _ hb]
theorem cpy_0 (f : Mem) (a0 a ia ip : Nat) : gt_cpy f a0 ia a ip 0 = f := by
  funext b
  by_cases hb : b = a
  · subst hb
    unfold gt_cpy
    rw [ur_s]
    funext k
    unfold va_cpy
    rw [if_neg (by omega)]
  · unfold gt_cpy
    rw [ur_n _ _ hb]
theorem up_ind {P : Nat → Prop} (n : Nat) (h : ∀ j, j ≤ n → (∀ i, j < i → i ≤ n → P i) → P j) : ∀ j, j ≤ n → P j := by
  have key : ∀ d j, n - j ≤ d → j ≤ n → P j := by
    intro d
    induction d with
    | zero => exact fun j h1 h2 => h j h2 (fun i a b => absurd a (by omega))
    | succ d ih => exact fun j h1 h2 => h j h2 (fun i a b => ih i (by omega) b)
  exact fun j hj => key (n - j) j (Nat.le_refl _) hj
theorem l_copies {lay : List Ly} {a0 a n0 n1 : Nat} {r0 r1 : List Nat} (ia ip n : Nat) (f : Mem) (h0 : lay[a0]? = some (0, n0, r0)) (h1 : lay[a]? = some (0, n1, r1)) (hne : a0 ≠ a) (hn0 : ia + n ≤ n0) (hn1 : ip + n ≤ n1) (hb0 : n0 < 2 ^ 31) (hb1 : n1 < 2 ^ 31) : ∀ j, j ≤ n → A (cM MX11_copies 0 0 lay lay (rt none (gt_cpy f a0 ia a ip n))) 3 [(5, .int (nI j)), (0, .ref a0), (1, .int (nI ia)), (2, .ref a), (3, .int (nI ip)), (4, .int (nI n))] [] (gt_cpy f a0 ia a ip j) := by
  refine up_ind n (fun j hj ih => ?_)
  refine A_iload dX11_copies_3 0 rfl ?_
  refine A_iload dX11_copies_5 5 rfl ?_
  refine A_icmp_ge (tgt := 28) dX11_copies_7 rfl (fun h7 => ?_) (fun h7 => ?_)
  · rw [nI_leI (by omega) (by omega)] at h7
    exact A_vret dX11_copies_28 rfl (⟨rfl, by rw [show j = n by omega]⟩)
  · rw [nI_leI (by omega) (by omega)] at h7
    refine A_aload_n dX11_copies_10 rfl 3 rfl ?_
    refine A_iload_n dX11_copies_11 rfl 4 rfl ?_
    refine A_iload dX11_copies_12 0 rfl ?_
    refine A_iadd dX11_copies_14 ?_
    refine A_aload_n dX11_copies_15 rfl 1 rfl ?_
    refine A_iload_n dX11_copies_16 rfl 2 rfl ?_
    refine A_iload dX11_copies_17 0 rfl ?_
    refine A_iadd dX11_copies_19 ?_
    refine A_iaload (ia + j) dX11_copies_20 h0 (by simp only [lit, nI_add, pk_mul]) (by omega) (hb0) ?_
    refine A_iastore (ip + j) dX11_copies_21 h1 (by simp only [lit, nI_add, pk_mul]) (by omega) (hb1) ?_
    refine A_iinc (lv' := [(5, .int (nI (j + 1))), (0, .ref a0), (1, .int (nI ia)), (2, .ref a), (3, .int (nI ip)), (4, .int (nI n))]) dX11_copies_22 0 rfl (nI_add j 1) (lb rfl) rfl ?_
    refine A_goto (tgt := 3) dX11_copies_25 rfl ?_
    rw [cpy_at f ia ip j hne]
    exact ih (j + 1) (by omega) (by omega)
theorem c_copies {lay : List Ly} {a0 a n0 n1 : Nat} {r0 r1 : List Nat} (ia ip n : Nat) (f : Mem) (h0 : lay[a0]? = some (0, n0, r0)) (h1 : lay[a]? = some (0, n1, r1)) (hne : a0 ≠ a) (hn0 : ia + n ≤ n0) (hn1 : ip + n ≤ n1) (hb0 : n0 < 2 ^ 31) (hb1 : n1 < 2 ^ 31) : Ct MX11_copies 0 0 lay lay [.ref a0, .int (nI ia), .ref a, .int (nI ip), .int (nI n)] f (rt none (gt_cpy f a0 ia a ip n)) := by
  refine Ct.of (lv := [(0, .ref a0), (1, .int (nI ia)), (2, .ref a), (3, .int (nI ip)), (4, .int (nI n))]) (by decide) (lb rfl) rfl ?_
  refine A_iconst (v := 0) dX11_copies_0 rfl ?_
  refine A_istore (lv' := [(5, .int 0), (0, .ref a0), (1, .int (nI ia)), (2, .ref a), (3, .int (nI ip)), (4, .int (nI n))]) dX11_copies_1 (lb rfl) rfl ?_
  have h := l_copies ia ip n f h0 h1 hne hn0 hn1 hb0 hb1 0 (by omega)
  rw [cpy_0] at h
  exact h
