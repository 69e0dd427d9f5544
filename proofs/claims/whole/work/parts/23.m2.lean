theorem sm_r (f : Mem) (s : Sg) (k : Ro) {j c i : Nat} (h : j < 48) (e : fc j = c ∧ fk j = i) : ur f 96 (flat s k) 96 j = nI (s c i) := by rw [ur_s]; exact flat_at s k h e
theorem sm_rk (f : Mem) (s : Sg) (k : Ro) {c : Nat} (h : c < 4) : ur f 96 (flat s k) 96 (48 + c) = k c := by rw [ur_s]; exact flat_k s k h
theorem ur_ur (f : Mem) (a : Nat) (g h : Ro) : ur (ur f a g) a h = ur f a h := by
  funext b
  by_cases hb : b = a
  · subst hb; rw [ur_s, ur_s]
  · rw [ur_n _ _ hb, ur_n _ _ hb, ur_n _ _ hb]
theorem ur_cm (f : Mem) {a b : Nat} (g h : Ro) (hne : a ≠ b) : ur (ur f a g) b h = ur (ur f b h) a g := by
  funext c
  by_cases hb : c = b
  · subst hb; rw [ur_s, ur_n _ _ (Ne.symm hne), ur_s]
  · by_cases ha : c = a
    · subst ha; rw [ur_n _ _ hb, ur_s, ur_s]
    · rw [ur_n _ _ hb, ur_n _ _ ha, ur_n _ _ ha, ur_n _ _ hb]
theorem sm_u (f : Mem) (s : Sg) (k : Ro) {j c i : Nat} {v : Int32} (x : Nat) (hv : v = nI x) (h : j < 48) (e : fc j = c ∧ fk j = i) : u2 (ur f 96 (flat s k)) 96 j v = ur f 96 (flat (s2 s c i x) k) := by
  subst hv
  unfold u2
  rw [ur_s, ur_ur, flat_up s k x h e]
theorem sm_uk (f : Mem) (s : Sg) (k : Ro) {c : Nat} (v : Int32) (h : c < 4) : u2 (ur f 96 (flat s k)) 96 (48 + c) v = ur f 96 (flat s (upd k c v)) := by
  unfold u2
  rw [ur_s, ur_ur, flat_uk s k v h]
theorem sm_o (f : Mem) (s : Sg) (k : Ro) {a j : Nat} {v : Int32} (h : a ≠ 96) : u2 (ur f 96 (flat s k)) a j v = ur (u2 f a j v) 96 (flat s k) := by
  unfold u2
  rw [ur_n _ _ h, ur_cm _ _ _ (Ne.symm h)]
/-- a number within a range -/
abbrev inR (x : Int32) (n : Nat) : Prop := 0 ≤ x.toInt ∧ x.toInt < (n : Int)
theorem inR_of {x : Int32} {n : Nat} (hn : n < 2 ^ 31) (h : inR x n) : ∃ j, j < n ∧ x = nI j := vp_in_of (vp_in_iff.mpr h) hn
theorem inR_nI {j n : Nat} (hj : j < 2 ^ 31) : inR (nI j) n ↔ j < n := by unfold inR; rw [nI_toInt hj]; omega
theorem i64 (x : Int32) : x.toInt64.toInt = x.toInt := Int32.toInt_toInt64 x
theorem c_has {lay : List Ly} (x y : Int32) (f : Mem) : Ct MX11_has 0 0 lay lay [.int x, .int y] f (rt (some (.int (bz ((x >>> (y &&& 31)) &&& 1 = 1)))) f) := by
  refine Ct.of (lv := [(0, .int x), (1, .int y)]) (by decide) (lb rfl) rfl ?_
  refine A_iload_n dX11_has_0 rfl 0 rfl ?_
  refine A_iload_n dX11_has_1 rfl 1 rfl ?_
  refine A_ishr dX11_has_2 ?_
  refine A_iconst (v := 1) dX11_has_3 rfl ?_
  refine A_iand dX11_has_4 ?_
  refine A_iconst (v := 1) dX11_has_5 rfl ?_
  refine A_icmp_ne (tgt := 13) dX11_has_6 rfl (fun h6 => ?_) (fun h6 => ?_)
  · refine A_iconst (v := 0) dX11_has_13 rfl ?_
    exact A_zret dX11_has_14 rfl (by decide) (rti (by first | exact (bz_t h6).symm | exact (bz_f h6).symm) rfl)
  · refine A_iconst (v := 1) dX11_has_9 rfl ?_
    refine A_goto (tgt := 14) dX11_has_10 rfl ?_
    exact A_zret dX11_has_14 rfl (by decide) (rti (by first | exact (bz_t h6).symm | exact (bz_f h6).symm) rfl)
theorem c_isTask (x : Int32) (f : Mem) {n : Nat} (hg : f 94 52 = nI n) (hn : n ≤ 4) : C0 MX11_isTask [.ref 93, .int x] f (rt (some (.int (bz (inR x n)))) f) := by
  refine Ct.of (lv := [(0, .ref 93), (1, .int x)]) (by decide) (lb rfl) rfl ?_
  refine A_iload_n dX11_isTask_0 rfl 1 rfl ?_
  refine A_i2l dX11_isTask_1 ?_
  refine A_lconst (v := 0) dX11_isTask_2 rfl ?_
  refine A_aload_n dX11_isTask_3 rfl 0 rfl ?_
  refine A_getR (b := 94) dX11_isTask_4 fo_RX11_9 L93 rfl ?_
  refine A_bipush (v := 52) dX11_isTask_7 rfl ?_
  refine A_iaload 52 dX11_isTask_9 L94 (rfl) (by decide) (lb rfl) ?_
  refine A_iconst (v := 1) dX11_isTask_10 rfl ?_
  refine A_isub dX11_isTask_11 ?_
  refine A_i2l dX11_isTask_12 ?_
  refine A_callS (M' := MX11_in) [.long x.toInt64, .long 0, .long (((f 94 52) - 1).toInt64)] [] dX11_isTask_13 lk_RX11_64 oX11_in sX11_in rfl rfl ⟨lb rfl, lb rfl⟩ (lb rfl) ⟨lb rfl, lb rfl⟩ (c_in _ _ _ _) ?_
  rintro _ _ ⟨rfl, rfl⟩
  exact A_zret dX11_isTask_16 rfl (bz_01 _) (rti (bz_c (by rw [i64, i64, hg, show (1 : Int32) = nI 1 from rfl, pk_sub_toInt (by omega) (by omega)]; unfold inR; simp; omega)) rfl)
theorem c_isMonitor {lay : List Ly} (x : Int32) (f : Mem) : Ct MX11_isMonitor 0 0 lay lay [.int x] f (rt (some (.int (bz (inR x 3)))) f) := by
  refine Ct.of (lv := [(0, .int x)]) (by decide) (lb rfl) rfl ?_
  refine A_iload_n dX11_isMonitor_0 rfl 0 rfl ?_
  refine A_i2l dX11_isMonitor_1 ?_
  refine A_lconst (v := 0) dX11_isMonitor_2 rfl ?_
  refine A_ldc2 dX11_isMonitor_3 k_RX11_68 ?_
  refine A_callS (M' := MX11_in) [.long x.toInt64, .long 0, .long 2] [] dX11_isMonitor_6 lk_RX11_64 oX11_in sX11_in rfl rfl ⟨lb rfl, lb rfl⟩ (lb rfl) ⟨lb rfl, lb rfl⟩ (c_in _ _ _ _) ?_
  rintro _ _ ⟨rfl, rfl⟩
  exact A_zret dX11_isMonitor_9 rfl (bz_01 _) (rti (bz_c (by rw [i64]; unfold inR; simp; omega)) rfl)
theorem c_isCell {lay : List Ly} (x : Int32) (f : Mem) : Ct MX11_isCell 0 0 lay lay [.int x] f (rt (some (.int (bz (inR x 4)))) f) := by
  refine Ct.of (lv := [(0, .int x)]) (by decide) (lb rfl) rfl ?_
  refine A_iload_n dX11_isCell_0 rfl 0 rfl ?_
  refine A_i2l dX11_isCell_1 ?_
  refine A_lconst (v := 0) dX11_isCell_2 rfl ?_
  refine A_ldc2 dX11_isCell_3 k_RX11_70 ?_
  refine A_callS (M' := MX11_in) [.long x.toInt64, .long 0, .long 3] [] dX11_isCell_6 lk_RX11_64 oX11_in sX11_in rfl rfl ⟨lb rfl, lb rfl⟩ (lb rfl) ⟨lb rfl, lb rfl⟩ (c_in _ _ _ _) ?_
  rintro _ _ ⟨rfl, rfl⟩
  exact A_zret dX11_isCell_9 rfl (bz_01 _) (rti (bz_c (by rw [i64]; unfold inR; simp; omega)) rfl)
theorem c_isList {lay : List Ly} (x : Int32) (f : Mem) : Ct MX11_isList 0 0 lay lay [.int x] f (rt (some (.int (bz (inR x 4)))) f) := by
  refine Ct.of (lv := [(0, .int x)]) (by decide) (lb rfl) rfl ?_
  refine A_iload_n dX11_isList_0 rfl 0 rfl ?_
  refine A_i2l dX11_isList_1 ?_
  refine A_lconst (v := 0) dX11_isList_2 rfl ?_
  refine A_ldc2 dX11_isList_3 k_RX11_70 ?_
  refine A_callS (M' := MX11_in) [.long x.toInt64, .long 0, .long 3] [] dX11_isList_6 lk_RX11_64 oX11_in sX11_in rfl rfl ⟨lb rfl, lb rfl⟩ (lb rfl) ⟨lb rfl, lb rfl⟩ (c_in _ _ _ _) ?_
  rintro _ _ ⟨rfl, rfl⟩
  exact A_zret dX11_isList_9 rfl (bz_01 _) (rti (bz_c (by rw [i64]; unfold inR; simp; omega)) rfl)
theorem c_field (t i q : Nat) (f : Mem) (h : 61 + 48 * t + 4 * i + q < 253) : C0 MX11_field [.ref 93, .int (nI t), .int (nI i), .int (nI q)] f (rt (some (.int (f 94 (61 + 48 * t + 4 * i + q)))) f) := by
  refine Ct.of (lv := [(0, .ref 93), (1, .int (nI t)), (2, .int (nI i)), (3, .int (nI q))]) (by decide) (lb rfl) rfl ?_
  refine A_aload_n dX11_field_0 rfl 0 rfl ?_
  refine A_getR (b := 94) dX11_field_1 fo_RX11_9 L93 rfl ?_
  refine A_bipush (v := 61) dX11_field_4 rfl ?_
  refine A_bipush (v := 48) dX11_field_6 rfl ?_
  refine A_iload_n dX11_field_8 rfl 1 rfl ?_
  refine A_imul dX11_field_9 ?_
  refine A_iadd dX11_field_10 ?_
  refine A_iconst (v := 4) dX11_field_11 rfl ?_
  refine A_iload_n dX11_field_12 rfl 2 rfl ?_
  refine A_imul dX11_field_13 ?_
  refine A_iadd dX11_field_14 ?_
  refine A_iload_n dX11_field_15 rfl 3 rfl ?_
  refine A_iadd dX11_field_16 ?_
  refine A_iaload (61 + 48 * t + 4 * i + q) dX11_field_17 L94 (by simp only [lit, nI_add, pk_mul]) (by omega) (lb rfl) ?_
  exact A_iret dX11_field_18 rfl (rti rfl rfl)
theorem c_isOwner (t m : Nat) (f : Mem) (s : Sg) (k : Ro) (ht : t < 4) (hm : m < 3) (ho : s 3 m ≤ 4) : C0 MX11_isOwner [.ref 93, .int (nI t), .int (nI m)] (ur f 96 (flat s k)) (rt (some (.int (bz (s 3 m = t + 1)))) (ur f 96 (flat s k))) := by
  refine Ct.of (lv := [(0, .ref 93), (1, .int (nI t)), (2, .int (nI m))]) (by decide) (lb rfl) rfl ?_
  refine A_aload_n dX11_isOwner_0 rfl 0 rfl ?_
  refine A_getR (b := 96) dX11_isOwner_1 fo_RX11_16 L93 rfl ?_
  refine A_bipush (v := 12) dX11_isOwner_4 rfl ?_
  refine A_iload_n dX11_isOwner_6 rfl 2 rfl ?_
  refine A_iadd dX11_isOwner_7 ?_
  refine A_iaload (12 + m) dX11_isOwner_8 L96 (by simp only [lit, nI_add, pk_mul]) (by omega) (lb rfl) ?_
  refine A_topi (nI (s 3 m)) (by rw [sm_r f s k (by omega) (f_3 m (by omega))] <;> simp [s2, n70, n70', n71, n71', n72, n72', n73, n73', n74, n74', n75, n75']) ?_
  refine A_iload_n dX11_isOwner_9 rfl 1 rfl ?_
  refine A_iconst (v := 1) dX11_isOwner_10 rfl ?_
  refine A_iadd dX11_isOwner_11 ?_
  refine A_topi (nI (t + 1)) (nI_add t 1) ?_
  refine A_icmp_ne (tgt := 19) dX11_isOwner_12 rfl (fun h12 => ?_) (fun h12 => ?_)
  · refine A_iconst (v := 0) dX11_isOwner_19 rfl ?_
    exact A_zret dX11_isOwner_20 rfl (by decide) (rti (by rw [nI_eq (by omega) (by omega)] at h12; first | exact (bz_t h12).symm | exact (bz_f h12).symm) rfl)
  · refine A_iconst (v := 1) dX11_isOwner_15 rfl ?_
    refine A_goto (tgt := 20) dX11_isOwner_16 rfl ?_
    exact A_zret dX11_isOwner_20 rfl (by decide) (rti (by rw [nI_eq (by omega) (by omega)] at h12; first | exact (bz_t h12).symm | exact (bz_f h12).symm) rfl)
theorem c_comesE (m t : Nat) (f : Mem) (s : Sg) (k : Ro) (ht : t < 4) (hm : m < 3) (hl : s 5 m < 4) : C0 MX11_comes [.ref 93, .int 18, .int 21, .int (nI m), .int (nI t)] (ur f 96 (flat s k)) (rt none (ur f 96 (flat (comesA s m t) k))) := by
  refine Ct.of (lv := [(0, .ref 93), (1, .int 18), (2, .int 21), (3, .int (nI m)), (4, .int (nI t))]) (by decide) (lb rfl) rfl ?_
  refine A_aload_n dX11_comes_0 rfl 0 rfl ?_
  refine A_getR (b := 96) dX11_comes_1 fo_RX11_16 L93 rfl ?_
  refine A_iload_n dX11_comes_4 rfl 2 rfl ?_
  refine A_iconst (v := 4) dX11_comes_5 rfl ?_
  refine A_iload_n dX11_comes_6 rfl 3 rfl ?_
  refine A_imul dX11_comes_7 ?_
  refine A_iadd dX11_comes_8 ?_
  refine A_aload_n dX11_comes_9 rfl 0 rfl ?_
  refine A_getR (b := 96) dX11_comes_10 fo_RX11_16 L93 rfl ?_
  refine A_iload_n dX11_comes_13 rfl 1 rfl ?_
  refine A_iload_n dX11_comes_14 rfl 3 rfl ?_
  refine A_iadd dX11_comes_15 ?_
  refine A_iaload (18 + m) dX11_comes_16 L96 (by simp only [lit, nI_add, pk_mul]) (by omega) (lb rfl) ?_
  refine A_topi (nI (s 5 m)) (by rw [sm_r f s k (by omega) (f_5 m (by omega))] <;> simp [s2, n70, n70', n71, n71', n72, n72', n73, n73', n74, n74', n75, n75']) ?_
  refine A_iadd dX11_comes_17 ?_
  refine A_iload dX11_comes_18 4 rfl ?_
  refine A_iconst (v := 1) dX11_comes_20 rfl ?_
  refine A_iadd dX11_comes_21 ?_
  refine A_iastore (21 + 4 * m + s 5 m) dX11_comes_22 L96 (by simp only [lit, nI_add, pk_mul]) (by omega) (lb rfl) ?_
  refine A_eq rfl rfl (sm_u f s k (t + 1) (by simp only [lit, nI_add, pk_mul]) (by omega) (f_7 m (by omega) (s 5 m) (by omega))) ?_
  refine A_aload_n dX11_comes_23 rfl 0 rfl ?_
  refine A_getR (b := 96) dX11_comes_24 fo_RX11_16 L93 rfl ?_
  refine A_iload_n dX11_comes_27 rfl 1 rfl ?_
  refine A_iload_n dX11_comes_28 rfl 3 rfl ?_
  refine A_iadd dX11_comes_29 ?_
  refine A_dup2 dX11_comes_30 rfl rfl ?_
  refine A_iaload (18 + m) dX11_comes_31 L96 (by simp only [lit, nI_add, pk_mul]) (by omega) (lb rfl) ?_
  refine A_topi (nI (s 5 m)) (by rw [sm_r f (s2 s (7 + m) (s 5 m) (t + 1)) k (by omega) (f_5 m (by omega))] <;> simp [s2, n70, n70', n71, n71', n72, n72', n73, n73', n74, n74', n75, n75']) ?_
  refine A_iconst (v := 1) dX11_comes_32 rfl ?_
  refine A_iadd dX11_comes_33 ?_
  refine A_iastore (18 + m) dX11_comes_34 L96 (by simp only [lit, nI_add, pk_mul]) (by omega) (lb rfl) ?_
  refine A_eq rfl rfl (sm_u f (s2 s (7 + m) (s 5 m) (t + 1)) k (s 5 m + 1) (by simp only [lit, nI_add, pk_mul]) (by omega) (f_5 m (by omega))) ?_
  exact A_vret dX11_comes_35 rfl (⟨rfl, rfl⟩)
theorem c_comesW (m t : Nat) (f : Mem) (s : Sg) (k : Ro) (ht : t < 4) (hm : m < 3) (hl : s 5 (3 + m) < 4) : C0 MX11_comes [.ref 93, .int 33, .int 36, .int (nI m), .int (nI t)] (ur f 96 (flat s k)) (rt none (ur f 96 (flat (comesA s (3 + m) t) k))) := by
  refine Ct.of (lv := [(0, .ref 93), (1, .int 33), (2, .int 36), (3, .int (nI m)), (4, .int (nI t))]) (by decide) (lb rfl) rfl ?_
  refine A_aload_n dX11_comes_0 rfl 0 rfl ?_
  refine A_getR (b := 96) dX11_comes_1 fo_RX11_16 L93 rfl ?_
  refine A_iload_n dX11_comes_4 rfl 2 rfl ?_
  refine A_iconst (v := 4) dX11_comes_5 rfl ?_
  refine A_iload_n dX11_comes_6 rfl 3 rfl ?_
  refine A_imul dX11_comes_7 ?_
  refine A_iadd dX11_comes_8 ?_
  refine A_aload_n dX11_comes_9 rfl 0 rfl ?_
  refine A_getR (b := 96) dX11_comes_10 fo_RX11_16 L93 rfl ?_
  refine A_iload_n dX11_comes_13 rfl 1 rfl ?_
  refine A_iload_n dX11_comes_14 rfl 3 rfl ?_
  refine A_iadd dX11_comes_15 ?_
  refine A_iaload (33 + m) dX11_comes_16 L96 (by simp only [lit, nI_add, pk_mul]) (by omega) (lb rfl) ?_
  refine A_topi (nI (s 5 (3 + m))) (by rw [sm_r f s k (by omega) (f_6 m (by omega))] <;> simp [s2, n70, n70', n71, n71', n72, n72', n73, n73', n74, n74', n75, n75']) ?_
  refine A_iadd dX11_comes_17 ?_
  refine A_iload dX11_comes_18 4 rfl ?_
  refine A_iconst (v := 1) dX11_comes_20 rfl ?_
  refine A_iadd dX11_comes_21 ?_
  refine A_iastore (36 + 4 * m + s 5 (3 + m)) dX11_comes_22 L96 (by simp only [lit, nI_add, pk_mul]) (by omega) (lb rfl) ?_
  refine A_eq rfl rfl (sm_u f s k (t + 1) (by simp only [lit, nI_add, pk_mul]) (by omega) (f_10 m (by omega) (s 5 (3 + m)) (by omega))) ?_
  refine A_aload_n dX11_comes_23 rfl 0 rfl ?_
  refine A_getR (b := 96) dX11_comes_24 fo_RX11_16 L93 rfl ?_
  refine A_iload_n dX11_comes_27 rfl 1 rfl ?_
  refine A_iload_n dX11_comes_28 rfl 3 rfl ?_
  refine A_iadd dX11_comes_29 ?_
  refine A_dup2 dX11_comes_30 rfl rfl ?_
  refine A_iaload (33 + m) dX11_comes_31 L96 (by simp only [lit, nI_add, pk_mul]) (by omega) (lb rfl) ?_
  refine A_topi (nI (s 5 (3 + m))) (by rw [sm_r f (s2 s (7 + (3 + m)) (s 5 (3 + m)) (t + 1)) k (by omega) (f_6 m (by omega))] <;> simp [s2, n70, n70', n71, n71', n72, n72', n73, n73', n74, n74', n75, n75']) ?_
  refine A_iconst (v := 1) dX11_comes_32 rfl ?_
  refine A_iadd dX11_comes_33 ?_
  refine A_iastore (33 + m) dX11_comes_34 L96 (by simp only [lit, nI_add, pk_mul]) (by omega) (lb rfl) ?_
  refine A_eq rfl rfl (sm_u f (s2 s (7 + (3 + m)) (s 5 (3 + m)) (t + 1)) k (s 5 (3 + m) + 1) (by simp only [lit, nI_add, pk_mul]) (by omega) (f_6 m (by omega))) ?_
  exact A_vret dX11_comes_35 rfl (⟨rfl, rfl⟩)
