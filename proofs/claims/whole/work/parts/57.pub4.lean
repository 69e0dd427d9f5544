/-! lists and causes: both sides -/
def zf (g : Ro) (b n : Nat) : Ro := fun i => if b ≤ i ∧ i < b + n then 0 else g i
theorem zf_0 (g : Ro) (b : Nat) : zf g b 0 = g := by funext i; simp only [zf]; rw [if_neg (by omega)]
theorem zf_s (g : Ro) (b n : Nat) : upd (zf g b n) (b + n) 0 = zf g b (n + 1) := by
  funext i; simp only [zf, upd]
  by_cases q : i = b + n
  · rw [if_pos q, if_pos (by omega)]
  · rw [if_neg q]
    by_cases q2 : b ≤ i ∧ i < b + n
    · rw [if_pos q2, if_pos (by omega)]
    · rw [if_neg q2, if_neg (by omega)]
theorem le40 {n : Nat} (h : n ≤ 40) : nI n ≤ 40 := (nI_leI (b := 40) (by omega) (by decide)).mpr h
theorem ln_r {n : Nat} (h : n ≤ 41) : (if n = 0 then (-1 : Int32) else nI (n - 1)) < 0 ↔ n = 0 := by
  by_cases z : n = 0
  · rw [if_pos z]; exact ⟨fun _ => z, fun _ => by decide⟩
  · rw [if_neg z]; exact ⟨fun q => absurd q (nI_nneg (by omega)), fun q => absurd q z⟩
theorem in_ln : ∀ n, n < 42 → ((if n = 0 then (-1 : Int32) else nI (n - 1)) - 1).toInt64.toInt = (if n = 0 then -2 else (n : Int) - 2) := by decide +kernel
theorem in_pl {x : Int32} {n : Nat} (h : n ≤ 41) : (Int64.toInt 0 ≤ x.toInt64.toInt ∧ x.toInt64.toInt ≤ ((if n = 0 then (-1 : Int32) else nI (n - 1)) - 1).toInt64.toInt) ↔ inR x (n - 1) := by
  rw [in_ln n (by omega), Int32.toInt_toInt64, show Int64.toInt 0 = 0 by decide]
  unfold inR
  by_cases z : n = 0
  · rw [if_pos z]; omega
  · rw [if_neg z]; omega
theorem x_list1 (x y : Int32) (f : Mem) (hx : ¬ inR x 4) : C0 MX10_list [.ref 0, .int x, .int y] f (rt (some (.int (-1))) f) := by
  refine Ct.of (lv := [(0, .ref 0), (1, .int x), (2, .int y)]) (by decide) (lb rfl) rfl ?_
  refine A_iload_n dX10_list_0 rfl 1 rfl ?_
  refine A_callS (M' := MX10_isList) [.int x] [] dX10_list_1 lk_RX10_271 oX10_isList sX10_isList rfl rfl ⟨lb rfl, lb rfl⟩ (lb rfl) ⟨lb rfl, lb rfl⟩ (x_isList x _) ?_
  rintro _ g0 ⟨rfl, hg0⟩
  rw [hg0]
  refine A_if_ne (tgt := 9) dX10_list_4 rfl (fun h4 => by exact absurd (bz_n0.mp h4) hx) (fun h4 => ?_)
  refine A_iconst (v := -1) dX10_list_7 rfl ?_
  exact A_iret dX10_list_8 rfl (⟨rfl, rfl⟩)
theorem x_list2 (l : Nat) (y : Int32) (f : Mem) (hl : l < 4) (hy : ¬ y ≤ 40) : C0 MX10_list [.ref 0, .int (nI l), .int y] f (rt (some (.int (-2))) f) := by
  refine Ct.of (lv := [(0, .ref 0), (1, .int (nI l)), (2, .int y)]) (by decide) (lb rfl) rfl ?_
  refine A_iload_n dX10_list_0 rfl 1 rfl ?_
  refine A_callS (M' := MX10_isList) [.int (nI l)] [] dX10_list_1 lk_RX10_271 oX10_isList sX10_isList rfl rfl ⟨lb rfl, lb rfl⟩ (lb rfl) ⟨lb rfl, lb rfl⟩ (x_isList (nI l) _) ?_
  rintro _ g0 ⟨rfl, hg0⟩
  rw [hg0]
  refine A_if_ne (tgt := 9) dX10_list_4 rfl (fun h4 => ?_) (fun h4 => by exact absurd ((inR_nI (by omega)).mpr hl) (bz_0.mp h4))
  refine A_iload_n dX10_list_9 rfl 2 rfl ?_
  refine A_bipush (v := 40) dX10_list_10 rfl ?_
  refine A_icmp_le (tgt := 18) dX10_list_12 rfl (fun h12 => by exact absurd h12 hy) (fun h12 => ?_)
  refine A_bipush (v := -2) dX10_list_15 rfl ?_
  exact A_iret dX10_list_17 rfl (⟨rfl, rfl⟩)
theorem x_list3 (l : Nat) (y : Int32) (f : Mem) (hl : l < 4) (hy : y ≤ 40) (hn : ¬ 0 ≤ y) : C0 MX10_list [.ref 0, .int (nI l), .int y] f (rt (some (.int (-14))) f) := by
  refine Ct.of (lv := [(0, .ref 0), (1, .int (nI l)), (2, .int y)]) (by decide) (lb rfl) rfl ?_
  refine A_iload_n dX10_list_0 rfl 1 rfl ?_
  refine A_callS (M' := MX10_isList) [.int (nI l)] [] dX10_list_1 lk_RX10_271 oX10_isList sX10_isList rfl rfl ⟨lb rfl, lb rfl⟩ (lb rfl) ⟨lb rfl, lb rfl⟩ (x_isList (nI l) _) ?_
  rintro _ g0 ⟨rfl, hg0⟩
  rw [hg0]
  refine A_if_ne (tgt := 9) dX10_list_4 rfl (fun h4 => ?_) (fun h4 => by exact absurd ((inR_nI (by omega)).mpr hl) (bz_0.mp h4))
  refine A_iload_n dX10_list_9 rfl 2 rfl ?_
  refine A_bipush (v := 40) dX10_list_10 rfl ?_
  refine A_icmp_le (tgt := 18) dX10_list_12 rfl (fun h12 => ?_) (fun h12 => by exact absurd hy h12)
  refine A_iload_n dX10_list_18 rfl 2 rfl ?_
  refine A_if_ge (tgt := 25) dX10_list_19 rfl (fun h19 => by exact absurd h19 hn) (fun h19 => ?_)
  refine A_bipush (v := -14) dX10_list_22 rfl ?_
  exact A_iret dX10_list_24 rfl (⟨rfl, rfl⟩)
theorem c_list1 (x y : Int32) (f : Mem) (hx : ¬ inR x 4) : C0 MX11_list [.ref 93, .int x, .int y] f (rt (some (.int (-1))) f) := by
  refine Ct.of (lv := [(0, .ref 93), (1, .int x), (2, .int y)]) (by decide) (lb rfl) rfl ?_
  refine A_iload_n dX11_list_0 rfl 1 rfl ?_
  refine A_callS (M' := MX11_isList) [.int x] [] dX11_list_1 lk_RX11_203 oX11_isList sX11_isList rfl rfl ⟨lb rfl, lb rfl⟩ (lb rfl) ⟨lb rfl, lb rfl⟩ (c_isList x _) ?_
  rintro _ g0 ⟨rfl, hg0⟩
  rw [hg0]
  refine A_if_ne (tgt := 9) dX11_list_4 rfl (fun h4 => by exact absurd (bz_n0.mp h4) hx) (fun h4 => ?_)
  refine A_iconst (v := -1) dX11_list_7 rfl ?_
  exact A_iret dX11_list_8 rfl (⟨rfl, rfl⟩)
theorem c_list2 (l : Nat) (y : Int32) (f : Mem) (hl : l < 4) (hy : ¬ y ≤ 40) : C0 MX11_list [.ref 93, .int (nI l), .int y] f (rt (some (.int (-2))) f) := by
  refine Ct.of (lv := [(0, .ref 93), (1, .int (nI l)), (2, .int y)]) (by decide) (lb rfl) rfl ?_
  refine A_iload_n dX11_list_0 rfl 1 rfl ?_
  refine A_callS (M' := MX11_isList) [.int (nI l)] [] dX11_list_1 lk_RX11_203 oX11_isList sX11_isList rfl rfl ⟨lb rfl, lb rfl⟩ (lb rfl) ⟨lb rfl, lb rfl⟩ (c_isList (nI l) _) ?_
  rintro _ g0 ⟨rfl, hg0⟩
  rw [hg0]
  refine A_if_ne (tgt := 9) dX11_list_4 rfl (fun h4 => ?_) (fun h4 => by exact absurd ((inR_nI (by omega)).mpr hl) (bz_0.mp h4))
  refine A_iload_n dX11_list_9 rfl 2 rfl ?_
  refine A_bipush (v := 40) dX11_list_10 rfl ?_
  refine A_icmp_le (tgt := 18) dX11_list_12 rfl (fun h12 => by exact absurd h12 hy) (fun h12 => ?_)
  refine A_bipush (v := -2) dX11_list_15 rfl ?_
  exact A_iret dX11_list_17 rfl (⟨rfl, rfl⟩)
theorem c_list3 (l : Nat) (y : Int32) (f : Mem) (hl : l < 4) (hy : y ≤ 40) (hn : ¬ 0 ≤ y) : C0 MX11_list [.ref 93, .int (nI l), .int y] f (rt (some (.int (-14))) f) := by
  refine Ct.of (lv := [(0, .ref 93), (1, .int (nI l)), (2, .int y)]) (by decide) (lb rfl) rfl ?_
  refine A_iload_n dX11_list_0 rfl 1 rfl ?_
  refine A_callS (M' := MX11_isList) [.int (nI l)] [] dX11_list_1 lk_RX11_203 oX11_isList sX11_isList rfl rfl ⟨lb rfl, lb rfl⟩ (lb rfl) ⟨lb rfl, lb rfl⟩ (c_isList (nI l) _) ?_
  rintro _ g0 ⟨rfl, hg0⟩
  rw [hg0]
  refine A_if_ne (tgt := 9) dX11_list_4 rfl (fun h4 => ?_) (fun h4 => by exact absurd ((inR_nI (by omega)).mpr hl) (bz_0.mp h4))
  refine A_iload_n dX11_list_9 rfl 2 rfl ?_
  refine A_bipush (v := 40) dX11_list_10 rfl ?_
  refine A_icmp_le (tgt := 18) dX11_list_12 rfl (fun h12 => ?_) (fun h12 => by exact absurd hy h12)
  refine A_iload_n dX11_list_18 rfl 2 rfl ?_
  refine A_if_ge (tgt := 25) dX11_list_19 rfl (fun h19 => by exact absurd h19 hn) (fun h19 => ?_)
  refine A_bipush (v := -14) dX11_list_22 rfl ?_
  exact A_iret dX11_list_24 rfl (⟨rfl, rfl⟩)
theorem nI_ge0 {n : Nat} (h : n < 2 ^ 31) : (0 : Int32) ≤ nI n := (nI_leI (a := 0) (by decide) h).mpr (by omega)
theorem x_list4 (l n : Nat) (f : Mem) (hl : l < 4) (hn : n ≤ 40) : C0 MX10_list [.ref 0, .int (nI l), .int (nI n)] f (rt (some (.int 1)) (ur (u2 f 87 l (nI n)) (89 + l) (cpR 40 (fun _ => 0) (f (89 + l))))) := by
  refine Ct.of (lv := [(0, .ref 0), (1, .int (nI l)), (2, .int (nI n))]) (by decide) (lb rfl) rfl ?_
  refine A_iload_n dX10_list_0 rfl 1 rfl ?_
  refine A_callS (M' := MX10_isList) [.int (nI l)] [] dX10_list_1 lk_RX10_271 oX10_isList sX10_isList rfl rfl ⟨lb rfl, lb rfl⟩ (lb rfl) ⟨lb rfl, lb rfl⟩ (x_isList (nI l) _) ?_
  rintro _ g0 ⟨rfl, hg0⟩
  rw [hg0]
  refine A_if_ne (tgt := 9) dX10_list_4 rfl (fun h4 => ?_) (fun h4 => by exact absurd ((inR_nI (by omega)).mpr hl) (bz_0.mp h4))
  refine A_iload_n dX10_list_9 rfl 2 rfl ?_
  refine A_bipush (v := 40) dX10_list_10 rfl ?_
  refine A_icmp_le (tgt := 18) dX10_list_12 rfl (fun h12 => ?_) (fun h12 => by exact absurd (le40 hn) h12)
  refine A_iload_n dX10_list_18 rfl 2 rfl ?_
  refine A_if_ge (tgt := 25) dX10_list_19 rfl (fun h19 => ?_) (fun h19 => by exact absurd (nI_ge0 (by omega)) h19)
  refine A_aload_n dX10_list_25 rfl 0 rfl ?_
  refine A_getR (b := 86) dX10_list_26 fo_RX10_59 L0 rfl ?_
  refine A_iload_n dX10_list_29 rfl 1 rfl ?_
  refine A_iload_n dX10_list_30 rfl 2 rfl ?_
  refine A_callV (M' := MX2_begin) [.int (nI l), .int (nI n)] [] 86 dX10_list_31 lk_RX10_274 oX2_begin iX2_begin rfl rfl ⟨lb rfl, lb rfl⟩ (lb rfl) ⟨lb rfl, lb rfl⟩ L86 rfl (x_beginList l (nI n) f hl) ?_
  rintro _ _ ⟨rfl, rfl⟩
  refine A_iconst (v := 1) dX10_list_34 rfl ?_
  exact A_iret dX10_list_35 rfl (⟨rfl, rfl⟩)
theorem lc_list (l n : Nat) (f : Mem) (hl : l < 4) : ∀ i, i ≤ 40 → A (cM MX11_list 0 0 layT layT (rt (some (.int 1)) (ur (u2 f 110 l (nI n)) 111 (zf (f 111) (40 * l) 40)))) 34 [(3, .int (nI i)), (0, .ref 93), (1, .int (nI l)), (2, .int (nI n))] [] (ur (u2 f 110 l (nI n)) 111 (zf (f 111) (40 * l) i)) := by
  refine up_ind 40 (fun i hi ih => ?_)
  refine A_iload_n dX11_list_34 rfl 0 rfl ?_
  refine A_bipush (v := 40) dX11_list_35 rfl ?_
  refine A_icmp_ge (tgt := 58) dX11_list_37 rfl (fun h37 => ?_) (fun h37 => ?_)
  · rw [show (40 : Int32) = nI 40 from rfl, nI_leI (by omega) (by omega)] at h37
    refine A_iconst (v := 1) dX11_list_58 rfl ?_
    exact A_iret dX11_list_59 rfl (⟨rfl, by rw [show i = 40 by omega]⟩)
  · rw [show (40 : Int32) = nI 40 from rfl, nI_leI (by omega) (by omega)] at h37
    refine A_aload_n dX11_list_40 rfl 1 rfl ?_
    refine A_getR (b := 111) dX11_list_41 fo_RX11_61 L93 rfl ?_
    refine A_bipush (v := 40) dX11_list_44 rfl ?_
    refine A_iload_n dX11_list_46 rfl 2 rfl ?_
    refine A_imul dX11_list_47 ?_
    refine A_iload_n dX11_list_48 rfl 0 rfl ?_
    refine A_iadd dX11_list_49 ?_
    refine A_iconst (v := 0) dX11_list_50 rfl ?_
    refine A_iastore (40 * l + i) dX11_list_51 L111 (by simp only [lit, nI_add, pk_mul]) (by omega) (lb rfl) ?_
    refine A_iinc (lv' := [(3, .int (nI (i + 1))), (0, .ref 93), (1, .int (nI l)), (2, .int (nI n))]) dX11_list_52 0 rfl (nI_add i 1) (lb rfl) rfl ?_
    refine A_goto (tgt := 34) dX11_list_55 rfl ?_
    refine A_eq rfl rfl (f' := ur (u2 f 110 l (nI n)) 111 (zf (f 111) (40 * l) (i + 1))) (by rw [u2, ur_s, ur_ur, zf_s]) ?_
    exact ih (i + 1) (by omega) (by omega)
theorem ur_self_at {f : Mem} {a : Nat} {g : Ro} (h : f a = g) : ur f a g = f := by rw [← h, ur_self]
theorem c_list4 (l n : Nat) (f : Mem) (hl : l < 4) (hn : n ≤ 40) : C0 MX11_list [.ref 93, .int (nI l), .int (nI n)] f (rt (some (.int 1)) (ur (u2 f 110 l (nI n)) 111 (zf (f 111) (40 * l) 40))) := by
  refine Ct.of (lv := [(0, .ref 93), (1, .int (nI l)), (2, .int (nI n))]) (by decide) (lb rfl) rfl ?_
  refine A_iload_n dX11_list_0 rfl 1 rfl ?_
  refine A_callS (M' := MX11_isList) [.int (nI l)] [] dX11_list_1 lk_RX11_203 oX11_isList sX11_isList rfl rfl ⟨lb rfl, lb rfl⟩ (lb rfl) ⟨lb rfl, lb rfl⟩ (c_isList (nI l) _) ?_
  rintro _ g0 ⟨rfl, hg0⟩
  rw [hg0]
  refine A_if_ne (tgt := 9) dX11_list_4 rfl (fun h4 => ?_) (fun h4 => by exact absurd ((inR_nI (by omega)).mpr hl) (bz_0.mp h4))
  refine A_iload_n dX11_list_9 rfl 2 rfl ?_
  refine A_bipush (v := 40) dX11_list_10 rfl ?_
  refine A_icmp_le (tgt := 18) dX11_list_12 rfl (fun h12 => ?_) (fun h12 => by exact absurd (le40 hn) h12)
  refine A_iload_n dX11_list_18 rfl 2 rfl ?_
  refine A_if_ge (tgt := 25) dX11_list_19 rfl (fun h19 => ?_) (fun h19 => by exact absurd (nI_ge0 (by omega)) h19)
  refine A_aload_n dX11_list_25 rfl 0 rfl ?_
  refine A_getR (b := 110) dX11_list_26 fo_RX11_58 L93 rfl ?_
  refine A_iload_n dX11_list_29 rfl 1 rfl ?_
  refine A_iload_n dX11_list_30 rfl 2 rfl ?_
  refine A_iastore l dX11_list_31 L110 (rfl) (by omega) (lb rfl) ?_
  refine A_iconst (v := 0) dX11_list_32 rfl ?_
  refine A_istore_n (lv' := [(3, .int 0), (0, .ref 93), (1, .int (nI l)), (2, .int (nI n))]) dX11_list_33 rfl (lb rfl) rfl ?_
  refine A_eq rfl rfl (f' := ur (u2 f 110 l (nI n)) 111 (zf (f 111) (40 * l) 0)) (by rw [zf_0]; exact (ur_self_at (u2_n _ _ _ (by decide))).symm) ?_
  refine A_sub [0, 1, 2, 3] rfl ?_
  exact lc_list l n f hl 0 (by omega)
theorem x_set1 (x y v : Int32) (f : Mem) (ln : Nat → Nat) (li : Nat → Ro) (hL : XL f ln li) (hw : wL ln) (hx : ¬ inR x 4) : C0 MX10_set [.ref 0, .int x, .int y, .int v] f (rt (some (.int (-1))) f) := by
  refine Ct.of (lv := [(0, .ref 0), (1, .int x), (2, .int y), (3, .int v)]) (by decide) (lb rfl) rfl ?_
  refine A_aload_n dX10_set_0 rfl 0 rfl ?_
  refine A_getR (b := 86) dX10_set_1 fo_RX10_59 L0 rfl ?_
  refine A_iload_n dX10_set_4 rfl 1 rfl ?_
  refine A_callV (M' := MX2_refusalOf) [.int x] [] 86 dX10_set_5 lk_RX10_153 oX2_refusalOf iX2_refusalOf rfl rfl ⟨lb rfl, lb rfl⟩ (lb rfl) ⟨lb rfl, lb rfl⟩ L86 rfl (x_refusalOf x f ln li hL hw) ?_
  rintro _ g0 ⟨rfl, hg0⟩
  rw [hg0]
  refine A_topi (-1) (if_neg hx) ?_
  refine A_istore (lv' := [(4, .int (-1)), (0, .ref 0), (1, .int x), (2, .int y), (3, .int v)]) dX10_set_8 (lb rfl) rfl ?_
  refine A_iload dX10_set_10 0 rfl ?_
  refine A_if_eq (tgt := 18) dX10_set_12 rfl (fun h12 => by exact absurd h12 (by decide)) (fun h12 => ?_)
  refine A_iload dX10_set_15 0 rfl ?_
  exact A_iret dX10_set_17 rfl (⟨rfl, rfl⟩)
theorem x_set2 (l : Nat) (y v : Int32) (f : Mem) (ln : Nat → Nat) (li : Nat → Ro) (hL : XL f ln li) (hw : wL ln) (hl : l < 4) (h0 : ln l = 0) : C0 MX10_set [.ref 0, .int (nI l), .int y, .int v] f (rt (some (.int (-11))) f) := by
  refine Ct.of (lv := [(0, .ref 0), (1, .int (nI l)), (2, .int y), (3, .int v)]) (by decide) (lb rfl) rfl ?_
  refine A_aload_n dX10_set_0 rfl 0 rfl ?_
  refine A_getR (b := 86) dX10_set_1 fo_RX10_59 L0 rfl ?_
  refine A_iload_n dX10_set_4 rfl 1 rfl ?_
  refine A_callV (M' := MX2_refusalOf) [.int (nI l)] [] 86 dX10_set_5 lk_RX10_153 oX2_refusalOf iX2_refusalOf rfl rfl ⟨lb rfl, lb rfl⟩ (lb rfl) ⟨lb rfl, lb rfl⟩ L86 rfl (x_refusalOf (nI l) f ln li hL hw) ?_
  rintro _ g0 ⟨rfl, hg0⟩
  rw [hg0]
  refine A_topi (-11) (by rw [if_pos ((inR_nI (by omega)).mpr hl), nI_clamp (by omega), if_pos h0]) ?_
  refine A_istore (lv' := [(4, .int (-11)), (0, .ref 0), (1, .int (nI l)), (2, .int y), (3, .int v)]) dX10_set_8 (lb rfl) rfl ?_
  refine A_iload dX10_set_10 0 rfl ?_
  refine A_if_eq (tgt := 18) dX10_set_12 rfl (fun h12 => by exact absurd h12 (by decide)) (fun h12 => ?_)
  refine A_iload dX10_set_15 0 rfl ?_
  exact A_iret dX10_set_17 rfl (⟨rfl, rfl⟩)
theorem x_set3 (l : Nat) (y v : Int32) (f : Mem) (ln : Nat → Nat) (li : Nat → Ro) (hL : XL f ln li) (hw : wL ln) (hl : l < 4) (h0 : ¬ ln l = 0) (hy : ¬ inR y (ln l - 1)) : C0 MX10_set [.ref 0, .int (nI l), .int y, .int v] f (rt (some (.int (-13))) f) := by
  refine Ct.of (lv := [(0, .ref 0), (1, .int (nI l)), (2, .int y), (3, .int v)]) (by decide) (lb rfl) rfl ?_
  refine A_aload_n dX10_set_0 rfl 0 rfl ?_
  refine A_getR (b := 86) dX10_set_1 fo_RX10_59 L0 rfl ?_
  refine A_iload_n dX10_set_4 rfl 1 rfl ?_
  refine A_callV (M' := MX2_refusalOf) [.int (nI l)] [] 86 dX10_set_5 lk_RX10_153 oX2_refusalOf iX2_refusalOf rfl rfl ⟨lb rfl, lb rfl⟩ (lb rfl) ⟨lb rfl, lb rfl⟩ L86 rfl (x_refusalOf (nI l) f ln li hL hw) ?_
  rintro _ g0 ⟨rfl, hg0⟩
  rw [hg0]
  refine A_topi (0) (by rw [if_pos ((inR_nI (by omega)).mpr hl), nI_clamp (by omega), if_neg h0]) ?_
  refine A_istore (lv' := [(4, .int 0), (0, .ref 0), (1, .int (nI l)), (2, .int y), (3, .int v)]) dX10_set_8 (lb rfl) rfl ?_
  refine A_iload dX10_set_10 0 rfl ?_
  refine A_if_eq (tgt := 18) dX10_set_12 rfl (fun h12 => ?_) (fun h12 => by exact absurd rfl h12)
  refine A_aload_n dX10_set_18 rfl 1 rfl ?_
  refine A_getR (b := 86) dX10_set_19 fo_RX10_59 L0 rfl ?_
  refine A_iload_n dX10_set_22 rfl 2 rfl ?_
  refine A_iload_n dX10_set_23 rfl 3 rfl ?_
  refine A_callV (M' := MX2_hasPlace) [.int (nI l), .int y] [] 86 dX10_set_24 lk_RX10_278 oX2_hasPlace iX2_hasPlace rfl rfl ⟨lb rfl, lb rfl⟩ (lb rfl) ⟨lb rfl, lb rfl⟩ L86 rfl (x_hasPlace l y f ln li hL hw hl) ?_
  rintro _ g0 ⟨rfl, hg0⟩
  rw [hg0]
  refine A_if_ne (tgt := 33) dX10_set_27 rfl (fun h27 => by exact absurd (bz_n0.mp h27) hy) (fun h27 => ?_)
  refine A_bipush (v := -13) dX10_set_30 rfl ?_
  exact A_iret dX10_set_32 rfl (⟨rfl, rfl⟩)
theorem x_set4 (l j : Nat) (v : Int32) (f : Mem) (ln : Nat → Nat) (li : Nat → Ro) (hL : XL f ln li) (hw : wL ln) (hl : l < 4) (h0 : ¬ ln l = 0) (hj : j < ln l - 1) : C0 MX10_set [.ref 0, .int (nI l), .int (nI j), .int v] f (rt (some (.int 1)) (u2 f (89 + l) j v)) := by
  refine Ct.of (lv := [(0, .ref 0), (1, .int (nI l)), (2, .int (nI j)), (3, .int v)]) (by decide) (lb rfl) rfl ?_
  refine A_aload_n dX10_set_0 rfl 0 rfl ?_
  refine A_getR (b := 86) dX10_set_1 fo_RX10_59 L0 rfl ?_
  refine A_iload_n dX10_set_4 rfl 1 rfl ?_
  refine A_callV (M' := MX2_refusalOf) [.int (nI l)] [] 86 dX10_set_5 lk_RX10_153 oX2_refusalOf iX2_refusalOf rfl rfl ⟨lb rfl, lb rfl⟩ (lb rfl) ⟨lb rfl, lb rfl⟩ L86 rfl (x_refusalOf (nI l) f ln li hL hw) ?_
  rintro _ g0 ⟨rfl, hg0⟩
  rw [hg0]
  refine A_topi (0) (by rw [if_pos ((inR_nI (by omega)).mpr hl), nI_clamp (by omega), if_neg h0]) ?_
  refine A_istore (lv' := [(4, .int 0), (0, .ref 0), (1, .int (nI l)), (2, .int (nI j)), (3, .int v)]) dX10_set_8 (lb rfl) rfl ?_
  refine A_iload dX10_set_10 0 rfl ?_
  refine A_if_eq (tgt := 18) dX10_set_12 rfl (fun h12 => ?_) (fun h12 => by exact absurd rfl h12)
  refine A_aload_n dX10_set_18 rfl 1 rfl ?_
  refine A_getR (b := 86) dX10_set_19 fo_RX10_59 L0 rfl ?_
  refine A_iload_n dX10_set_22 rfl 2 rfl ?_
  refine A_iload_n dX10_set_23 rfl 3 rfl ?_
  refine A_callV (M' := MX2_hasPlace) [.int (nI l), .int (nI j)] [] 86 dX10_set_24 lk_RX10_278 oX2_hasPlace iX2_hasPlace rfl rfl ⟨lb rfl, lb rfl⟩ (lb rfl) ⟨lb rfl, lb rfl⟩ L86 rfl (x_hasPlace l (nI j) f ln li hL hw hl) ?_
  rintro _ g0 ⟨rfl, hg0⟩
  rw [hg0]
  refine A_if_ne (tgt := 33) dX10_set_27 rfl (fun h27 => ?_) (fun h27 => by exact absurd ((inR_nI (by have := hw l hl; omega)).mpr hj) (bz_0.mp h27))
  refine A_aload_n dX10_set_33 rfl 1 rfl ?_
  refine A_getR (b := 86) dX10_set_34 fo_RX10_59 L0 rfl ?_
  refine A_getR (b := 88) dX10_set_37 fo_RX10_159 L86 rfl ?_
  refine A_iload_n dX10_set_40 rfl 2 rfl ?_
  refine A_aaload3 (b := 89 + l) l dX10_set_41 L88 (rfl) (by omega) (lb rfl) ((lay89 l hl).2) ?_
  refine A_iload_n dX10_set_42 rfl 3 rfl ?_
  refine A_iload_n dX10_set_43 rfl 4 rfl ?_
  refine A_iastore j dX10_set_44 ((lay89 l hl).1) (rfl) (by have := hw l hl; omega) (lb rfl) ?_
  refine A_iconst (v := 1) dX10_set_45 rfl ?_
  exact A_iret dX10_set_46 rfl (⟨rfl, rfl⟩)
theorem c_set1 (x y v : Int32) (f : Mem) (ln : Nat → Nat) (li : Nat → Ro) (hL : RLi f ln li) (hw : wL ln) (hx : ¬ inR x 4) : C0 MX11_set [.ref 93, .int x, .int y, .int v] f (rt (some (.int (-1))) f) := by
  refine Ct.of (lv := [(0, .ref 93), (1, .int x), (2, .int y), (3, .int v)]) (by decide) (lb rfl) rfl ?_
  refine A_iload_n dX11_set_0 rfl 1 rfl ?_
  refine A_callS (M' := MX11_isList) [.int x] [] dX11_set_1 lk_RX11_203 oX11_isList sX11_isList rfl rfl ⟨lb rfl, lb rfl⟩ (lb rfl) ⟨lb rfl, lb rfl⟩ (c_isList x _) ?_
  rintro _ g0 ⟨rfl, hg0⟩
  rw [hg0]
  refine A_if_ne (tgt := 9) dX11_set_4 rfl (fun h4 => by exact absurd (bz_n0.mp h4) hx) (fun h4 => ?_)
  refine A_iconst (v := -1) dX11_set_7 rfl ?_
  exact A_iret dX11_set_8 rfl (⟨rfl, rfl⟩)
theorem c_set2 (l : Nat) (y v : Int32) (f : Mem) (ln : Nat → Nat) (li : Nat → Ro) (hL : RLi f ln li) (hw : wL ln) (hl : l < 4) (h0 : ln l = 0) : C0 MX11_set [.ref 93, .int (nI l), .int y, .int v] f (rt (some (.int (-11))) f) := by
  refine Ct.of (lv := [(0, .ref 93), (1, .int (nI l)), (2, .int y), (3, .int v)]) (by decide) (lb rfl) rfl ?_
  refine A_iload_n dX11_set_0 rfl 1 rfl ?_
  refine A_callS (M' := MX11_isList) [.int (nI l)] [] dX11_set_1 lk_RX11_203 oX11_isList sX11_isList rfl rfl ⟨lb rfl, lb rfl⟩ (lb rfl) ⟨lb rfl, lb rfl⟩ (c_isList (nI l) _) ?_
  rintro _ g0 ⟨rfl, hg0⟩
  rw [hg0]
  refine A_if_ne (tgt := 9) dX11_set_4 rfl (fun h4 => ?_) (fun h4 => by exact absurd ((inR_nI (by omega)).mpr hl) (bz_0.mp h4))
  refine A_aload_n dX11_set_9 rfl 0 rfl ?_
  refine A_getR (b := 110) dX11_set_10 fo_RX11_58 L93 rfl ?_
  refine A_iload_n dX11_set_13 rfl 1 rfl ?_
  refine A_iaload l dX11_set_14 L110 (rfl) (by omega) (lb rfl) ?_
  refine A_topi (if ln l = 0 then -1 else nI (ln l - 1)) (hL.1 l hl) ?_
  refine A_if_ge (tgt := 21) dX11_set_15 rfl (fun h15 => by exact absurd ((ln_r (hw l hl)).mpr h0) (Int32.not_lt.mpr h15)) (fun h15 => ?_)
  refine A_bipush (v := -11) dX11_set_18 rfl ?_
  exact A_iret dX11_set_20 rfl (⟨rfl, rfl⟩)
theorem c_set3 (l : Nat) (y v : Int32) (f : Mem) (ln : Nat → Nat) (li : Nat → Ro) (hL : RLi f ln li) (hw : wL ln) (hl : l < 4) (h0 : ¬ ln l = 0) (hy : ¬ inR y (ln l - 1)) : C0 MX11_set [.ref 93, .int (nI l), .int y, .int v] f (rt (some (.int (-13))) f) := by
  refine Ct.of (lv := [(0, .ref 93), (1, .int (nI l)), (2, .int y), (3, .int v)]) (by decide) (lb rfl) rfl ?_
  refine A_iload_n dX11_set_0 rfl 1 rfl ?_
  refine A_callS (M' := MX11_isList) [.int (nI l)] [] dX11_set_1 lk_RX11_203 oX11_isList sX11_isList rfl rfl ⟨lb rfl, lb rfl⟩ (lb rfl) ⟨lb rfl, lb rfl⟩ (c_isList (nI l) _) ?_
  rintro _ g0 ⟨rfl, hg0⟩
  rw [hg0]
  refine A_if_ne (tgt := 9) dX11_set_4 rfl (fun h4 => ?_) (fun h4 => by exact absurd ((inR_nI (by omega)).mpr hl) (bz_0.mp h4))
  refine A_aload_n dX11_set_9 rfl 0 rfl ?_
  refine A_getR (b := 110) dX11_set_10 fo_RX11_58 L93 rfl ?_
  refine A_iload_n dX11_set_13 rfl 1 rfl ?_
  refine A_iaload l dX11_set_14 L110 (rfl) (by omega) (lb rfl) ?_
  refine A_topi (if ln l = 0 then -1 else nI (ln l - 1)) (hL.1 l hl) ?_
  refine A_if_ge (tgt := 21) dX11_set_15 rfl (fun h15 => ?_) (fun h15 => by exact absurd (Int32.not_lt.mp (fun q => h0 ((ln_r (hw l hl)).mp q))) h15)
  refine A_iload_n dX11_set_21 rfl 2 rfl ?_
  refine A_i2l dX11_set_22 ?_
  refine A_lconst (v := 0) dX11_set_23 rfl ?_
  refine A_aload_n dX11_set_24 rfl 0 rfl ?_
  refine A_getR (b := 110) dX11_set_25 fo_RX11_58 L93 rfl ?_
  refine A_iload_n dX11_set_28 rfl 1 rfl ?_
  refine A_iaload l dX11_set_29 L110 (rfl) (by omega) (lb rfl) ?_
  refine A_topi (if ln l = 0 then -1 else nI (ln l - 1)) (hL.1 l hl) ?_
  refine A_iconst (v := 1) dX11_set_30 rfl ?_
  refine A_isub dX11_set_31 ?_
  refine A_i2l dX11_set_32 ?_
  refine A_callS (M' := MX11_in) [.long y.toInt64, .long 0, .long (((if ln l = 0 then -1 else nI (ln l - 1)) - 1).toInt64)] [] dX11_set_33 lk_RX11_64 oX11_in sX11_in rfl rfl ⟨lb rfl, lb rfl⟩ (lb rfl) ⟨lb rfl, lb rfl⟩ (c_in _ _ _ _) ?_
  rintro _ g0 ⟨rfl, hg0⟩
  rw [hg0]
  refine A_topi (bz (inR y (ln l - 1))) (bz_c (in_pl (hw l hl))) ?_
  refine A_if_ne (tgt := 42) dX11_set_36 rfl (fun h36 => by exact absurd (bz_n0.mp h36) hy) (fun h36 => ?_)
  refine A_bipush (v := -13) dX11_set_39 rfl ?_
  exact A_iret dX11_set_41 rfl (⟨rfl, rfl⟩)
theorem c_set4 (l j : Nat) (v : Int32) (f : Mem) (ln : Nat → Nat) (li : Nat → Ro) (hL : RLi f ln li) (hw : wL ln) (hl : l < 4) (h0 : ¬ ln l = 0) (hj : j < ln l - 1) : C0 MX11_set [.ref 93, .int (nI l), .int (nI j), .int v] f (rt (some (.int 1)) (u2 f 111 (40 * l + j) v)) := by
  refine Ct.of (lv := [(0, .ref 93), (1, .int (nI l)), (2, .int (nI j)), (3, .int v)]) (by decide) (lb rfl) rfl ?_
  refine A_iload_n dX11_set_0 rfl 1 rfl ?_
  refine A_callS (M' := MX11_isList) [.int (nI l)] [] dX11_set_1 lk_RX11_203 oX11_isList sX11_isList rfl rfl ⟨lb rfl, lb rfl⟩ (lb rfl) ⟨lb rfl, lb rfl⟩ (c_isList (nI l) _) ?_
  rintro _ g0 ⟨rfl, hg0⟩
  rw [hg0]
  refine A_if_ne (tgt := 9) dX11_set_4 rfl (fun h4 => ?_) (fun h4 => by exact absurd ((inR_nI (by omega)).mpr hl) (bz_0.mp h4))
  refine A_aload_n dX11_set_9 rfl 0 rfl ?_
  refine A_getR (b := 110) dX11_set_10 fo_RX11_58 L93 rfl ?_
  refine A_iload_n dX11_set_13 rfl 1 rfl ?_
  refine A_iaload l dX11_set_14 L110 (rfl) (by omega) (lb rfl) ?_
  refine A_topi (if ln l = 0 then -1 else nI (ln l - 1)) (hL.1 l hl) ?_
  refine A_if_ge (tgt := 21) dX11_set_15 rfl (fun h15 => ?_) (fun h15 => by exact absurd (Int32.not_lt.mp (fun q => h0 ((ln_r (hw l hl)).mp q))) h15)
  refine A_iload_n dX11_set_21 rfl 2 rfl ?_
  refine A_i2l dX11_set_22 ?_
  refine A_lconst (v := 0) dX11_set_23 rfl ?_
  refine A_aload_n dX11_set_24 rfl 0 rfl ?_
  refine A_getR (b := 110) dX11_set_25 fo_RX11_58 L93 rfl ?_
  refine A_iload_n dX11_set_28 rfl 1 rfl ?_
  refine A_iaload l dX11_set_29 L110 (rfl) (by omega) (lb rfl) ?_
  refine A_topi (if ln l = 0 then -1 else nI (ln l - 1)) (hL.1 l hl) ?_
  refine A_iconst (v := 1) dX11_set_30 rfl ?_
  refine A_isub dX11_set_31 ?_
  refine A_i2l dX11_set_32 ?_
  refine A_callS (M' := MX11_in) [.long ((nI j).toInt64), .long 0, .long (((if ln l = 0 then -1 else nI (ln l - 1)) - 1).toInt64)] [] dX11_set_33 lk_RX11_64 oX11_in sX11_in rfl rfl ⟨lb rfl, lb rfl⟩ (lb rfl) ⟨lb rfl, lb rfl⟩ (c_in _ _ _ _) ?_
  rintro _ g0 ⟨rfl, hg0⟩
  rw [hg0]
  refine A_topi (bz (inR (nI j) (ln l - 1))) (bz_c (in_pl (hw l hl))) ?_
  refine A_if_ne (tgt := 42) dX11_set_36 rfl (fun h36 => ?_) (fun h36 => by exact absurd ((inR_nI (by have := hw l hl; omega)).mpr hj) (bz_0.mp h36))
  refine A_aload_n dX11_set_42 rfl 0 rfl ?_
  refine A_getR (b := 111) dX11_set_43 fo_RX11_61 L93 rfl ?_
  refine A_bipush (v := 40) dX11_set_46 rfl ?_
  refine A_iload_n dX11_set_48 rfl 1 rfl ?_
  refine A_imul dX11_set_49 ?_
  refine A_iload_n dX11_set_50 rfl 2 rfl ?_
  refine A_iadd dX11_set_51 ?_
  refine A_iload_n dX11_set_52 rfl 3 rfl ?_
  refine A_iastore (40 * l + j) dX11_set_53 L111 (by simp only [lit, nI_add, pk_mul]) (by have := hw l hl; omega) (lb rfl) ?_
  refine A_iconst (v := 1) dX11_set_54 rfl ?_
  exact A_iret dX11_set_55 rfl (⟨rfl, rfl⟩)
