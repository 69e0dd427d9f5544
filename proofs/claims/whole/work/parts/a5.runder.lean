/-! the reference: what is entered under what; round -/
theorem lc_un2 (f : Mem) (s : Sg) (k p rz lz : Ro) (hC : RC f s k p rz lz) (w : wfC s k p) (q : Sr) (x : RE f q) (hJ : Jq p (s, k) q) (m i : Nat) (hm : m < 3) (hi : i < q.1) (kk : A (cM MX11_underIn 0 0 layT layT (rt (some (.int (un p (s 13 0) q.2.1 q.1 m))) f)) 182 [(3, .int (nI i)), (2, .int (uA (un p (s 13 0) q.2.1 i m) (q.2.1 i).1 p m (s 13 0))), (1, .int (nI m)), (0, .ref 93)] [] f) : ∀ t, t ≤ s 13 0 → A (cM MX11_underIn 0 0 layT layT (rt (some (.int (un p (s 13 0) q.2.1 q.1 m))) f)) 15 [(4, .int (nI t)), (3, .int (nI i)), (2, .int (uA (un p (s 13 0) q.2.1 i m) (q.2.1 i).1 p m t)), (1, .int (nI m)), (0, .ref 93)] [] f := by
  have h600 := hJ.2.1
  have h13 := w.2.2.2.2.1
  refine up_ind (s 13 0) (fun t ht ih => ?_)
  have wi := hJ.2.2.2 i hi
  refine A_iload dX11_underIn_15 0 rfl ?_
  refine A_aload_n dX11_underIn_17 rfl 4 rfl ?_
  refine A_getR (b := 94) dX11_underIn_18 fo_RX11_9 L93 rfl ?_
  refine A_bipush (v := 52) dX11_underIn_21 rfl ?_
  refine A_iaload 52 dX11_underIn_23 L94 (by simp only [lit, nI_add, pk_mul]) (by omega) (lb rfl) ?_
  refine A_topi (nI (s 13 0)) hC.n ?_
  refine A_icmp_ge (tgt := 182) dX11_underIn_24 rfl (fun h24 => ?_) (fun h24 => ?_)
  · rw [nI_leI (by omega) (by omega)] at h24
    rw [show t = s 13 0 by omega]
    refine A_sub [1, 2, 3, 4] rfl ?_
    exact kk
  · rw [nI_leI (by omega) (by omega)] at h24
    have hsz : (q.2.1 i).1 16 t ≤ 12 := (wi.1.2.1 t (by omega)).1
    have hpl : (q.2.1 i).1 0 t ≤ (q.2.1 i).1 16 t := (wi.1.2.1 t (by omega)).2.1
    refine A_aload_n dX11_underIn_27 rfl 4 rfl ?_
    refine A_getR (b := 104) dX11_underIn_28 fo_RX11_40 L93 rfl ?_
    refine A_bipush (v := 52) dX11_underIn_31 rfl ?_
    refine A_iload_n dX11_underIn_33 rfl 1 rfl ?_
    refine A_imul dX11_underIn_34 ?_
    refine A_iload dX11_underIn_35 0 rfl ?_
    refine A_iadd dX11_underIn_37 ?_
    refine A_iaload (52 * i + t) dX11_underIn_38 L104 (by simp only [lit, nI_add, pk_mul]) (by omega) (lb rfl) ?_
    refine A_topi (nI ((q.2.1 i).1 0 t)) (by rw [x.1.2.1 i hi t (by omega)]; exact flat_0 _ _ (by omega)) ?_
    refine A_istore (lv' := [(5, .int (nI ((q.2.1 i).1 0 t))), (4, .int (nI t)), (3, .int (nI i)), (2, .int (uA (un p (s 13 0) q.2.1 i m) (q.2.1 i).1 p m t)), (1, .int (nI m)), (0, .ref 93)]) dX11_underIn_39 (lb rfl) rfl ?_
    refine A_aload_n dX11_underIn_41 rfl 5 rfl ?_
    refine A_aload_n dX11_underIn_42 rfl 5 rfl ?_
    refine A_getR (b := 104) dX11_underIn_43 fo_RX11_40 L93 rfl ?_
    refine A_bipush (v := 52) dX11_underIn_46 rfl ?_
    refine A_iload_n dX11_underIn_48 rfl 2 rfl ?_
    refine A_imul dX11_underIn_49 ?_
    refine A_topi (nI (52 * i)) (pk_mul 52 i) ?_
    refine A_iload dX11_underIn_50 1 rfl ?_
    refine A_callV (M' := MX11_ownedBy) [.ref 104, .int (nI (52 * i)), .int (nI t)] [] 93 dX11_underIn_52 lk_RX11_209 oX11_ownedBy iX11_ownedBy rfl rfl ⟨lb rfl, lb rfl⟩ (lb rfl) ⟨lb rfl, lb rfl⟩ L93 rfl (c_ownedBy t f 104 (52 * i) 31200 _ _ (x.rw h600 hi) (by omega) wi.1.1.2.2.2.2) ?_
    rintro _ g0 ⟨rfl, hg0⟩
    rw [hg0]
    refine A_istore (lv' := [(6, .int (ownI ((q.2.1 i).1 3) t 3)), (5, .int (nI ((q.2.1 i).1 0 t))), (4, .int (nI t)), (3, .int (nI i)), (2, .int (uA (un p (s 13 0) q.2.1 i m) (q.2.1 i).1 p m t)), (1, .int (nI m)), (0, .ref 93)]) dX11_underIn_55 (lb rfl) rfl ?_
    refine A_aload_n dX11_underIn_57 rfl 6 rfl ?_
    refine A_getR (b := 104) dX11_underIn_58 fo_RX11_40 L93 rfl ?_
    refine A_bipush (v := 52) dX11_underIn_61 rfl ?_
    refine A_iload_n dX11_underIn_63 rfl 3 rfl ?_
    refine A_imul dX11_underIn_64 ?_
    refine A_iconst (v := 4) dX11_underIn_65 rfl ?_
    refine A_iadd dX11_underIn_66 ?_
    refine A_iload dX11_underIn_67 2 rfl ?_
    refine A_iadd dX11_underIn_69 ?_
    refine A_iaload (52 * i + 4 + t) dX11_underIn_70 L104 (by simp only [lit, nI_add, pk_mul]) (by omega) (lb rfl) ?_
    refine A_topi (nI ((q.2.1 i).1 1 t)) (by rw [Nat.add_assoc, x.1.2.1 i hi (4 + t) (by omega)]; exact flat_1 _ _ (by omega)) ?_
    refine A_if_ne (tgt := 114) dX11_underIn_71 rfl (fun h71 => ?_) (fun h71 => ?_)
    · rw [nI_z (by have := wi.1.s4 (t := t) (by omega); omega)] at h71
      refine A_iconst (v := 0) dX11_underIn_114 rfl ?_
      refine A_istore (lv' := [(7, .int 0), (6, .int (ownI ((q.2.1 i).1 3) t 3)), (5, .int (nI ((q.2.1 i).1 0 t))), (4, .int (nI t)), (3, .int (nI i)), (2, .int (uA (un p (s 13 0) q.2.1 i m) (q.2.1 i).1 p m t)), (1, .int (nI m)), (0, .ref 93)]) dX11_underIn_115 (lb rfl) rfl ?_
      refine A_iload dX11_underIn_117 0 rfl ?_
      refine A_if_eq (tgt := 134) dX11_underIn_119 rfl (fun h119 => ?_) (fun h119 => by exact absurd rfl h119)
      refine A_iload_n dX11_underIn_134 rfl 6 rfl ?_
      refine A_istore (lv' := [(8, .int (nI m)), (7, .int 0), (6, .int (ownI ((q.2.1 i).1 3) t 3)), (5, .int (nI ((q.2.1 i).1 0 t))), (4, .int (nI t)), (3, .int (nI i)), (2, .int (uA (un p (s 13 0) q.2.1 i m) (q.2.1 i).1 p m t)), (1, .int (nI m)), (0, .ref 93)]) dX11_underIn_135 (lb rfl) rfl ?_
      refine A_iload_n dX11_underIn_137 rfl 6 rfl ?_
      refine A_iload dX11_underIn_138 1 rfl ?_
      refine A_if_eq (tgt := 173) dX11_underIn_140 rfl (fun h140 => ?_) (fun h140 => by exact absurd rfl h140)
      refine A_iconst (v := 0) dX11_underIn_173 rfl ?_
      refine A_ior dX11_underIn_174 ?_
      refine A_istore_n (lv' := [(2, .int ((uA (un p (s 13 0) q.2.1 i m) (q.2.1 i).1 p m t) ||| 0)), (8, .int (nI m)), (7, .int 0), (6, .int (ownI ((q.2.1 i).1 3) t 3)), (5, .int (nI ((q.2.1 i).1 0 t))), (4, .int (nI t)), (3, .int (nI i)), (1, .int (nI m)), (0, .ref 93)]) dX11_underIn_175 rfl (lb rfl) rfl ?_
      refine A_iinc (lv' := [(4, .int (nI (t + 1))), (2, .int ((uA (un p (s 13 0) q.2.1 i m) (q.2.1 i).1 p m t) ||| 0)), (8, .int (nI m)), (7, .int 0), (6, .int (ownI ((q.2.1 i).1 3) t 3)), (5, .int (nI ((q.2.1 i).1 0 t))), (3, .int (nI i)), (1, .int (nI m)), (0, .ref 93)]) dX11_underIn_176 5 rfl (nI_add t 1) (lb rfl) rfl ?_
      refine A_goto (tgt := 15) dX11_underIn_179 rfl ?_
      have r := ih (t + 1) (by omega) (by omega)
      rw [uA_f (fun z => by first | exact z.1 (if_neg (fun c => h71 c.1)) | exact bz_0.mp h80 z.2 | exact z.1 (if_neg (fun c => absurd c.2.1 (by omega))) | exact z.1 (if_neg (fun c => h107 c.2.2.1)) | exact z.1 (if_neg (fun c => c.2.2.2.2 (bz_n0.mp h150))) | exact z.1 (if_neg (fun c => h163 c.2.2.2.1)))] at r
      rw [Int32.or_zero]
      refine A_sub [0, 6, 1, 7, 8] rfl ?_
      exact r
    · rw [nI_z (by have := wi.1.s4 (t := t) (by omega); omega)] at h71
      refine A_iload dX11_underIn_74 0 rfl ?_
      refine A_iload_n dX11_underIn_76 rfl 5 rfl ?_
      refine A_callS (M' := MX11_has) [.int (ownI ((q.2.1 i).1 3) t 3), .int (nI m)] [] dX11_underIn_77 lk_RX11_282 oX11_has sX11_has rfl rfl ⟨lb rfl, lb rfl⟩ (lb rfl) ⟨lb rfl, lb rfl⟩ (c_has _ _ f) ?_
      rintro _ g0 ⟨rfl, hg0⟩
      rw [hg0]
      refine A_topi (bz ((q.2.1 i).1 3 m = t + 1)) (bz_c (own_b _ _ m (by omega))) ?_
      refine A_if_eq (tgt := 114) dX11_underIn_80 rfl (fun h80 => ?_) (fun h80 => ?_)
      · refine A_iconst (v := 0) dX11_underIn_114 rfl ?_
        refine A_istore (lv' := [(7, .int 0), (6, .int (ownI ((q.2.1 i).1 3) t 3)), (5, .int (nI ((q.2.1 i).1 0 t))), (4, .int (nI t)), (3, .int (nI i)), (2, .int (uA (un p (s 13 0) q.2.1 i m) (q.2.1 i).1 p m t)), (1, .int (nI m)), (0, .ref 93)]) dX11_underIn_115 (lb rfl) rfl ?_
        refine A_iload dX11_underIn_117 0 rfl ?_
        refine A_if_eq (tgt := 134) dX11_underIn_119 rfl (fun h119 => ?_) (fun h119 => by exact absurd rfl h119)
        refine A_iload_n dX11_underIn_134 rfl 6 rfl ?_
        refine A_istore (lv' := [(8, .int (nI m)), (7, .int 0), (6, .int (ownI ((q.2.1 i).1 3) t 3)), (5, .int (nI ((q.2.1 i).1 0 t))), (4, .int (nI t)), (3, .int (nI i)), (2, .int (uA (un p (s 13 0) q.2.1 i m) (q.2.1 i).1 p m t)), (1, .int (nI m)), (0, .ref 93)]) dX11_underIn_135 (lb rfl) rfl ?_
        refine A_iload_n dX11_underIn_137 rfl 6 rfl ?_
        refine A_iload dX11_underIn_138 1 rfl ?_
        refine A_if_eq (tgt := 173) dX11_underIn_140 rfl (fun h140 => ?_) (fun h140 => by exact absurd rfl h140)
        refine A_iconst (v := 0) dX11_underIn_173 rfl ?_
        refine A_ior dX11_underIn_174 ?_
        refine A_istore_n (lv' := [(2, .int ((uA (un p (s 13 0) q.2.1 i m) (q.2.1 i).1 p m t) ||| 0)), (8, .int (nI m)), (7, .int 0), (6, .int (ownI ((q.2.1 i).1 3) t 3)), (5, .int (nI ((q.2.1 i).1 0 t))), (4, .int (nI t)), (3, .int (nI i)), (1, .int (nI m)), (0, .ref 93)]) dX11_underIn_175 rfl (lb rfl) rfl ?_
        refine A_iinc (lv' := [(4, .int (nI (t + 1))), (2, .int ((uA (un p (s 13 0) q.2.1 i m) (q.2.1 i).1 p m t) ||| 0)), (8, .int (nI m)), (7, .int 0), (6, .int (ownI ((q.2.1 i).1 3) t 3)), (5, .int (nI ((q.2.1 i).1 0 t))), (3, .int (nI i)), (1, .int (nI m)), (0, .ref 93)]) dX11_underIn_176 5 rfl (nI_add t 1) (lb rfl) rfl ?_
        refine A_goto (tgt := 15) dX11_underIn_179 rfl ?_
        have r := ih (t + 1) (by omega) (by omega)
        rw [uA_f (fun z => by first | exact z.1 (if_neg (fun c => h71 c.1)) | exact bz_0.mp h80 z.2 | exact z.1 (if_neg (fun c => absurd c.2.1 (by omega))) | exact z.1 (if_neg (fun c => h107 c.2.2.1)) | exact z.1 (if_neg (fun c => c.2.2.2.2 (bz_n0.mp h150))) | exact z.1 (if_neg (fun c => h163 c.2.2.2.1)))] at r
        rw [Int32.or_zero]
        refine A_sub [0, 6, 1, 7, 8] rfl ?_
        exact r
      · refine A_iload dX11_underIn_83 1 rfl ?_
        refine A_aload_n dX11_underIn_85 rfl 6 rfl ?_
        refine A_getR (b := 94) dX11_underIn_86 fo_RX11_9 L93 rfl ?_
        refine A_bipush (v := 57) dX11_underIn_89 rfl ?_
        refine A_iload dX11_underIn_91 2 rfl ?_
        refine A_iadd dX11_underIn_93 ?_
        refine A_iaload (57 + t) dX11_underIn_94 L94 (by simp only [lit, nI_add, pk_mul]) (by omega) (lb rfl) ?_
        refine A_topi (nI ((q.2.1 i).1 16 t)) (by rw [hC.sz (by omega), wi.2.2.2 t]) ?_
        refine A_icmp_ge (tgt := 114) dX11_underIn_95 rfl (fun h95 => ?_) (fun h95 => ?_)
        · rw [nI_leI (by omega) (by omega)] at h95
          refine A_iconst (v := 0) dX11_underIn_114 rfl ?_
          refine A_istore (lv' := [(7, .int 0), (6, .int (ownI ((q.2.1 i).1 3) t 3)), (5, .int (nI ((q.2.1 i).1 0 t))), (4, .int (nI t)), (3, .int (nI i)), (2, .int (uA (un p (s 13 0) q.2.1 i m) (q.2.1 i).1 p m t)), (1, .int (nI m)), (0, .ref 93)]) dX11_underIn_115 (lb rfl) rfl ?_
          refine A_iload dX11_underIn_117 0 rfl ?_
          refine A_if_eq (tgt := 134) dX11_underIn_119 rfl (fun h119 => ?_) (fun h119 => by exact absurd rfl h119)
          refine A_iload_n dX11_underIn_134 rfl 6 rfl ?_
          refine A_istore (lv' := [(8, .int (nI m)), (7, .int 0), (6, .int (ownI ((q.2.1 i).1 3) t 3)), (5, .int (nI ((q.2.1 i).1 0 t))), (4, .int (nI t)), (3, .int (nI i)), (2, .int (uA (un p (s 13 0) q.2.1 i m) (q.2.1 i).1 p m t)), (1, .int (nI m)), (0, .ref 93)]) dX11_underIn_135 (lb rfl) rfl ?_
          refine A_iload_n dX11_underIn_137 rfl 6 rfl ?_
          refine A_iload dX11_underIn_138 1 rfl ?_
          refine A_if_eq (tgt := 173) dX11_underIn_140 rfl (fun h140 => ?_) (fun h140 => by exact absurd rfl h140)
          refine A_iconst (v := 0) dX11_underIn_173 rfl ?_
          refine A_ior dX11_underIn_174 ?_
          refine A_istore_n (lv' := [(2, .int ((uA (un p (s 13 0) q.2.1 i m) (q.2.1 i).1 p m t) ||| 0)), (8, .int (nI m)), (7, .int 0), (6, .int (ownI ((q.2.1 i).1 3) t 3)), (5, .int (nI ((q.2.1 i).1 0 t))), (4, .int (nI t)), (3, .int (nI i)), (1, .int (nI m)), (0, .ref 93)]) dX11_underIn_175 rfl (lb rfl) rfl ?_
          refine A_iinc (lv' := [(4, .int (nI (t + 1))), (2, .int ((uA (un p (s 13 0) q.2.1 i m) (q.2.1 i).1 p m t) ||| 0)), (8, .int (nI m)), (7, .int 0), (6, .int (ownI ((q.2.1 i).1 3) t 3)), (5, .int (nI ((q.2.1 i).1 0 t))), (3, .int (nI i)), (1, .int (nI m)), (0, .ref 93)]) dX11_underIn_176 5 rfl (nI_add t 1) (lb rfl) rfl ?_
          refine A_goto (tgt := 15) dX11_underIn_179 rfl ?_
          have r := ih (t + 1) (by omega) (by omega)
          rw [uA_f (fun z => by first | exact z.1 (if_neg (fun c => h71 c.1)) | exact bz_0.mp h80 z.2 | exact z.1 (if_neg (fun c => absurd c.2.1 (by omega))) | exact z.1 (if_neg (fun c => h107 c.2.2.1)) | exact z.1 (if_neg (fun c => c.2.2.2.2 (bz_n0.mp h150))) | exact z.1 (if_neg (fun c => h163 c.2.2.2.1)))] at r
          rw [Int32.or_zero]
          refine A_sub [0, 6, 1, 7, 8] rfl ?_
          exact r
        · rw [nI_leI (by omega) (by omega)] at h95
          have hok := (wi.1.2.1 t (by omega)).2.2 ((q.2.1 i).1 0 t) (by omega)
          refine A_aload_n dX11_underIn_98 rfl 6 rfl ?_
          refine A_iload dX11_underIn_99 2 rfl ?_
          refine A_iload dX11_underIn_101 1 rfl ?_
          refine A_iconst (v := 0) dX11_underIn_103 rfl ?_
          refine A_callV (M' := MX11_field) [.int (nI t), .int (nI ((q.2.1 i).1 0 t)), .int 0] [] 93 dX11_underIn_104 lk_RX11_150 oX11_field iX11_field rfl rfl ⟨lb rfl, lb rfl⟩ (lb rfl) ⟨lb rfl, lb rfl⟩ L93 rfl (c_field t ((q.2.1 i).1 0 t) 0 f (by omega)) ?_
          rintro _ g0 ⟨rfl, hg0⟩
          rw [hg0]
          refine A_topi (nI (pS p t ((q.2.1 i).1 0 t))) ((gR_p hC.gR t ((q.2.1 i).1 0 t) 0 (by omega) (by omega) (by decide)).trans hok.1) ?_
          refine A_if_ne (tgt := 114) dX11_underIn_107 rfl (fun h107 => ?_) (fun h107 => ?_)
          · rw [nI_z (by have := hok.2.1; omega)] at h107
            refine A_iconst (v := 0) dX11_underIn_114 rfl ?_
            refine A_istore (lv' := [(7, .int 0), (6, .int (ownI ((q.2.1 i).1 3) t 3)), (5, .int (nI ((q.2.1 i).1 0 t))), (4, .int (nI t)), (3, .int (nI i)), (2, .int (uA (un p (s 13 0) q.2.1 i m) (q.2.1 i).1 p m t)), (1, .int (nI m)), (0, .ref 93)]) dX11_underIn_115 (lb rfl) rfl ?_
            refine A_iload dX11_underIn_117 0 rfl ?_
            refine A_if_eq (tgt := 134) dX11_underIn_119 rfl (fun h119 => ?_) (fun h119 => by exact absurd rfl h119)
            refine A_iload_n dX11_underIn_134 rfl 6 rfl ?_
            refine A_istore (lv' := [(8, .int (nI m)), (7, .int 0), (6, .int (ownI ((q.2.1 i).1 3) t 3)), (5, .int (nI ((q.2.1 i).1 0 t))), (4, .int (nI t)), (3, .int (nI i)), (2, .int (uA (un p (s 13 0) q.2.1 i m) (q.2.1 i).1 p m t)), (1, .int (nI m)), (0, .ref 93)]) dX11_underIn_135 (lb rfl) rfl ?_
            refine A_iload_n dX11_underIn_137 rfl 6 rfl ?_
            refine A_iload dX11_underIn_138 1 rfl ?_
            refine A_if_eq (tgt := 173) dX11_underIn_140 rfl (fun h140 => ?_) (fun h140 => by exact absurd rfl h140)
            refine A_iconst (v := 0) dX11_underIn_173 rfl ?_
            refine A_ior dX11_underIn_174 ?_
            refine A_istore_n (lv' := [(2, .int ((uA (un p (s 13 0) q.2.1 i m) (q.2.1 i).1 p m t) ||| 0)), (8, .int (nI m)), (7, .int 0), (6, .int (ownI ((q.2.1 i).1 3) t 3)), (5, .int (nI ((q.2.1 i).1 0 t))), (4, .int (nI t)), (3, .int (nI i)), (1, .int (nI m)), (0, .ref 93)]) dX11_underIn_175 rfl (lb rfl) rfl ?_
            refine A_iinc (lv' := [(4, .int (nI (t + 1))), (2, .int ((uA (un p (s 13 0) q.2.1 i m) (q.2.1 i).1 p m t) ||| 0)), (8, .int (nI m)), (7, .int 0), (6, .int (ownI ((q.2.1 i).1 3) t 3)), (5, .int (nI ((q.2.1 i).1 0 t))), (3, .int (nI i)), (1, .int (nI m)), (0, .ref 93)]) dX11_underIn_176 5 rfl (nI_add t 1) (lb rfl) rfl ?_
            refine A_goto (tgt := 15) dX11_underIn_179 rfl ?_
            have r := ih (t + 1) (by omega) (by omega)
            rw [uA_f (fun z => by first | exact z.1 (if_neg (fun c => h71 c.1)) | exact bz_0.mp h80 z.2 | exact z.1 (if_neg (fun c => absurd c.2.1 (by omega))) | exact z.1 (if_neg (fun c => h107 c.2.2.1)) | exact z.1 (if_neg (fun c => c.2.2.2.2 (bz_n0.mp h150))) | exact z.1 (if_neg (fun c => h163 c.2.2.2.1)))] at r
            rw [Int32.or_zero]
            refine A_sub [0, 6, 1, 7, 8] rfl ?_
            exact r
          · rw [nI_z (by have := hok.2.1; omega)] at h107
            have hpo : (pO p t ((q.2.1 i).1 0 t)) < 3 := hok.2.2.2.1 (by omega)
            refine A_iconst (v := 1) dX11_underIn_110 rfl ?_
            refine A_goto (tgt := 115) dX11_underIn_111 rfl ?_
            refine A_istore (lv' := [(7, .int 1), (6, .int (ownI ((q.2.1 i).1 3) t 3)), (5, .int (nI ((q.2.1 i).1 0 t))), (4, .int (nI t)), (3, .int (nI i)), (2, .int (uA (un p (s 13 0) q.2.1 i m) (q.2.1 i).1 p m t)), (1, .int (nI m)), (0, .ref 93)]) dX11_underIn_115 (lb rfl) rfl ?_
            refine A_iload dX11_underIn_117 0 rfl ?_
            refine A_if_eq (tgt := 134) dX11_underIn_119 rfl (fun h119 => by exact absurd h119 (by decide)) (fun h119 => ?_)
            refine A_aload_n dX11_underIn_122 rfl 7 rfl ?_
            refine A_iload dX11_underIn_123 3 rfl ?_
            refine A_iload dX11_underIn_125 2 rfl ?_
            refine A_iconst (v := 1) dX11_underIn_127 rfl ?_
            refine A_callV (M' := MX11_field) [.int (nI t), .int (nI ((q.2.1 i).1 0 t)), .int 1] [] 93 dX11_underIn_128 lk_RX11_150 oX11_field iX11_field rfl rfl ⟨lb rfl, lb rfl⟩ (lb rfl) ⟨lb rfl, lb rfl⟩ L93 rfl (c_field t ((q.2.1 i).1 0 t) 1 f (by omega)) ?_
            rintro _ g0 ⟨rfl, hg0⟩
            rw [hg0]
            refine A_topi (nI (pO p t ((q.2.1 i).1 0 t))) ((gR_p hC.gR t ((q.2.1 i).1 0 t) 1 (by omega) (by omega) (by decide)).trans hok.2.2.1) ?_
            refine A_goto (tgt := 135) dX11_underIn_131 rfl ?_
            refine A_istore (lv' := [(8, .int (nI (pO p t ((q.2.1 i).1 0 t)))), (7, .int 1), (6, .int (ownI ((q.2.1 i).1 3) t 3)), (5, .int (nI ((q.2.1 i).1 0 t))), (4, .int (nI t)), (3, .int (nI i)), (2, .int (uA (un p (s 13 0) q.2.1 i m) (q.2.1 i).1 p m t)), (1, .int (nI m)), (0, .ref 93)]) dX11_underIn_135 (lb rfl) rfl ?_
            refine A_iload_n dX11_underIn_137 rfl 6 rfl ?_
            refine A_iload dX11_underIn_138 1 rfl ?_
            refine A_if_eq (tgt := 173) dX11_underIn_140 rfl (fun h140 => by exact absurd h140 (by decide)) (fun h140 => ?_)
            refine A_iload dX11_underIn_143 2 rfl ?_
            refine A_iload dX11_underIn_145 0 rfl ?_
            refine A_callS (M' := MX11_has) [.int (ownI ((q.2.1 i).1 3) t 3), .int (nI (pO p t ((q.2.1 i).1 0 t)))] [.int (uA (un p (s 13 0) q.2.1 i m) (q.2.1 i).1 p m t)] dX11_underIn_147 lk_RX11_282 oX11_has sX11_has rfl rfl ⟨lb rfl, lb rfl⟩ (lb rfl) ⟨lb rfl, lb rfl⟩ (c_has _ _ f) ?_
            rintro _ g0 ⟨rfl, hg0⟩
            rw [hg0]
            refine A_topi (bz ((q.2.1 i).1 3 (pO p t ((q.2.1 i).1 0 t)) = t + 1)) (bz_c (own_b _ _ (pO p t ((q.2.1 i).1 0 t)) (by omega))) ?_
            refine A_if_ne (tgt := 173) dX11_underIn_150 rfl (fun h150 => ?_) (fun h150 => ?_)
            · refine A_iconst (v := 0) dX11_underIn_173 rfl ?_
              refine A_ior dX11_underIn_174 ?_
              refine A_istore_n (lv' := [(2, .int ((uA (un p (s 13 0) q.2.1 i m) (q.2.1 i).1 p m t) ||| 0)), (8, .int (nI (pO p t ((q.2.1 i).1 0 t)))), (7, .int 1), (6, .int (ownI ((q.2.1 i).1 3) t 3)), (5, .int (nI ((q.2.1 i).1 0 t))), (4, .int (nI t)), (3, .int (nI i)), (1, .int (nI m)), (0, .ref 93)]) dX11_underIn_175 rfl (lb rfl) rfl ?_
              refine A_iinc (lv' := [(4, .int (nI (t + 1))), (2, .int ((uA (un p (s 13 0) q.2.1 i m) (q.2.1 i).1 p m t) ||| 0)), (8, .int (nI (pO p t ((q.2.1 i).1 0 t)))), (7, .int 1), (6, .int (ownI ((q.2.1 i).1 3) t 3)), (5, .int (nI ((q.2.1 i).1 0 t))), (3, .int (nI i)), (1, .int (nI m)), (0, .ref 93)]) dX11_underIn_176 5 rfl (nI_add t 1) (lb rfl) rfl ?_
              refine A_goto (tgt := 15) dX11_underIn_179 rfl ?_
              have r := ih (t + 1) (by omega) (by omega)
              rw [uA_f (fun z => by first | exact z.1 (if_neg (fun c => h71 c.1)) | exact bz_0.mp h80 z.2 | exact z.1 (if_neg (fun c => absurd c.2.1 (by omega))) | exact z.1 (if_neg (fun c => h107 c.2.2.1)) | exact z.1 (if_neg (fun c => c.2.2.2.2 (bz_n0.mp h150))) | exact z.1 (if_neg (fun c => h163 c.2.2.2.1)))] at r
              rw [Int32.or_zero]
              refine A_sub [0, 6, 1, 7, 8] rfl ?_
              exact r
            · refine A_aload_n dX11_underIn_153 rfl 8 rfl ?_
              refine A_getR (b := 94) dX11_underIn_154 fo_RX11_9 L93 rfl ?_
              refine A_bipush (v := 53) dX11_underIn_157 rfl ?_
              refine A_iload dX11_underIn_159 0 rfl ?_
              refine A_iadd dX11_underIn_161 ?_
              refine A_iaload (53 + (pO p t ((q.2.1 i).1 0 t))) dX11_underIn_162 L94 (nI_add 53 (pO p t ((q.2.1 i).1 0 t))) (by omega) (lb rfl) ?_
              refine A_topi (nI ((q.2.1 i).1 14 (pO p t ((q.2.1 i).1 0 t)))) (by rw [hC.mi (by omega), wi.2.2.1 (pO p t ((q.2.1 i).1 0 t))]) ?_
              refine A_if_ne (tgt := 173) dX11_underIn_163 rfl (fun h163 => ?_) (fun h163 => ?_)
              · rw [nI_z (by have z : (q.2.1 i).1 14 (pO p t ((q.2.1 i).1 0 t)) ≤ 1 := wi.1.2.2.2.1 (pO p t ((q.2.1 i).1 0 t)) (by omega); omega)] at h163
                refine A_iconst (v := 0) dX11_underIn_173 rfl ?_
                refine A_ior dX11_underIn_174 ?_
                refine A_istore_n (lv' := [(2, .int ((uA (un p (s 13 0) q.2.1 i m) (q.2.1 i).1 p m t) ||| 0)), (8, .int (nI (pO p t ((q.2.1 i).1 0 t)))), (7, .int 1), (6, .int (ownI ((q.2.1 i).1 3) t 3)), (5, .int (nI ((q.2.1 i).1 0 t))), (4, .int (nI t)), (3, .int (nI i)), (1, .int (nI m)), (0, .ref 93)]) dX11_underIn_175 rfl (lb rfl) rfl ?_
                refine A_iinc (lv' := [(4, .int (nI (t + 1))), (2, .int ((uA (un p (s 13 0) q.2.1 i m) (q.2.1 i).1 p m t) ||| 0)), (8, .int (nI (pO p t ((q.2.1 i).1 0 t)))), (7, .int 1), (6, .int (ownI ((q.2.1 i).1 3) t 3)), (5, .int (nI ((q.2.1 i).1 0 t))), (3, .int (nI i)), (1, .int (nI m)), (0, .ref 93)]) dX11_underIn_176 5 rfl (nI_add t 1) (lb rfl) rfl ?_
                refine A_goto (tgt := 15) dX11_underIn_179 rfl ?_
                have r := ih (t + 1) (by omega) (by omega)
                rw [uA_f (fun z => by first | exact z.1 (if_neg (fun c => h71 c.1)) | exact bz_0.mp h80 z.2 | exact z.1 (if_neg (fun c => absurd c.2.1 (by omega))) | exact z.1 (if_neg (fun c => h107 c.2.2.1)) | exact z.1 (if_neg (fun c => c.2.2.2.2 (bz_n0.mp h150))) | exact z.1 (if_neg (fun c => h163 c.2.2.2.1)))] at r
                rw [Int32.or_zero]
                refine A_sub [0, 6, 1, 7, 8] rfl ?_
                exact r
              · rw [nI_z (by have z : (q.2.1 i).1 14 (pO p t ((q.2.1 i).1 0 t)) ≤ 1 := wi.1.2.2.2.1 (pO p t ((q.2.1 i).1 0 t)) (by omega); omega)] at h163
                refine A_iconst (v := 1) dX11_underIn_166 rfl ?_
                refine A_iload dX11_underIn_167 0 rfl ?_
                refine A_ishl dX11_underIn_169 ?_
                refine A_goto (tgt := 174) dX11_underIn_170 rfl ?_
                refine A_ior dX11_underIn_174 ?_
                refine A_istore_n (lv' := [(2, .int ((uA (un p (s 13 0) q.2.1 i m) (q.2.1 i).1 p m t) ||| (1 <<< ((nI (pO p t ((q.2.1 i).1 0 t))) &&& 31)))), (8, .int (nI (pO p t ((q.2.1 i).1 0 t)))), (7, .int 1), (6, .int (ownI ((q.2.1 i).1 3) t 3)), (5, .int (nI ((q.2.1 i).1 0 t))), (4, .int (nI t)), (3, .int (nI i)), (1, .int (nI m)), (0, .ref 93)]) dX11_underIn_175 rfl (lb rfl) rfl ?_
                refine A_iinc (lv' := [(4, .int (nI (t + 1))), (2, .int ((uA (un p (s 13 0) q.2.1 i m) (q.2.1 i).1 p m t) ||| (1 <<< ((nI (pO p t ((q.2.1 i).1 0 t))) &&& 31)))), (8, .int (nI (pO p t ((q.2.1 i).1 0 t)))), (7, .int 1), (6, .int (ownI ((q.2.1 i).1 3) t 3)), (5, .int (nI ((q.2.1 i).1 0 t))), (3, .int (nI i)), (1, .int (nI m)), (0, .ref 93)]) dX11_underIn_176 5 rfl (nI_add t 1) (lb rfl) rfl ?_
                refine A_goto (tgt := 15) dX11_underIn_179 rfl ?_
                have ab : abA (q.2.1 i).1 p t = nI (pO p t ((q.2.1 i).1 0 t)) := if_pos ⟨h71, by omega, h107, h163, bz_0.mp h150⟩
                have r := ih (t + 1) (by omega) (by omega)
                rw [uA_t ⟨by rw [ab]; exact nI_n1 (by omega), bz_n0.mp h80⟩, ab] at r
                refine A_sub [0, 6, 1, 7, 8] rfl ?_
                exact r
theorem lc_un1 (f : Mem) (s : Sg) (k p rz lz : Ro) (hC : RC f s k p rz lz) (w : wfC s k p) (q : Sr) (x : RE f q) (hJ : Jq p (s, k) q) (m : Nat) (hm : m < 3) : ∀ i, i ≤ q.1 → A (cM MX11_underIn 0 0 layT layT (rt (some (.int (un p (s 13 0) q.2.1 q.1 m))) f)) 4 [(3, .int (nI i)), (2, .int (un p (s 13 0) q.2.1 i m)), (1, .int (nI m)), (0, .ref 93)] [] f := by
  have h600 := hJ.2.1
  refine up_ind q.1 (fun i hi ih => ?_)
  refine A_iload_n dX11_underIn_4 rfl 0 rfl ?_
  refine A_aload_n dX11_underIn_5 rfl 3 rfl ?_
  refine A_getI dX11_underIn_6 fo_RX11_231 L93 rfl ?_
  refine A_topi (nI q.1) x.1.1 ?_
  refine A_icmp_ge (tgt := 188) dX11_underIn_9 rfl (fun h9 => ?_) (fun h9 => ?_)
  · rw [nI_leI (by omega) (by omega)] at h9
    refine A_iload_n dX11_underIn_188 rfl 1 rfl ?_
    exact A_iret dX11_underIn_189 rfl (rti (by rw [show i = q.1 by omega]) rfl)
  · rw [nI_leI (by omega) (by omega)] at h9
    refine A_iconst (v := 0) dX11_underIn_12 rfl ?_
    refine A_istore (lv' := [(4, .int 0), (3, .int (nI i)), (2, .int (un p (s 13 0) q.2.1 i m)), (1, .int (nI m)), (0, .ref 93)]) dX11_underIn_13 (lb rfl) rfl ?_
    refine A_sub [0, 1, 2, 3, 4] rfl ?_
    refine lc_un2 f s k p rz lz hC w q x hJ m i hm (by omega) ?_ 0 (by omega)
    refine A_iinc (lv' := [(3, .int (nI (i + 1))), (2, .int (uA (un p (s 13 0) q.2.1 i m) (q.2.1 i).1 p m (s 13 0))), (1, .int (nI m)), (0, .ref 93)]) dX11_underIn_182 0 rfl (nI_add i 1) (lb rfl) rfl ?_
    refine A_goto (tgt := 4) dX11_underIn_185 rfl ?_
    exact ih (i + 1) (by omega) (by omega)
theorem c_un (f : Mem) (s : Sg) (k p rz lz : Ro) (hC : RC f s k p rz lz) (w : wfC s k p) (q : Sr) (x : RE f q) (hJ : Jq p (s, k) q) (m : Nat) (hm : m < 3) : C0 MX11_underIn [.ref 93, .int (nI m)] f (rt (some (.int (un p (s 13 0) q.2.1 q.1 m))) f) := by
  refine Ct.of (lv := [(0, .ref 93), (1, .int (nI m))]) (by decide) (lb rfl) rfl ?_
  refine A_iconst (v := 0) dX11_underIn_0 rfl ?_
  refine A_istore_n (lv' := [(2, .int 0), (0, .ref 93), (1, .int (nI m))]) dX11_underIn_1 rfl (lb rfl) rfl ?_
  refine A_iconst (v := 0) dX11_underIn_2 rfl ?_
  refine A_istore_n (lv' := [(3, .int 0), (2, .int 0), (0, .ref 93), (1, .int (nI m))]) dX11_underIn_3 rfl (lb rfl) rfl ?_
  refine A_sub [0, 1, 3, 2] rfl ?_
  exact lc_un1 f s k p rz lz hC w q x hJ m hm 0 (by omega)
theorem lc_r1 (f : Mem) (U : Ro) (hU : ∀ m, m < 3 → C0 MX11_underIn [.ref 93, .int (nI m)] f (rt (some (.int (U m))) f)) (Q : Option Value → Mem → Prop) (x : Int32) (c b : Nat) (kk : A (cM MX11_round 0 0 layT layT Q) 65 [(3, .int (rpa U x 3)), (4, .int (nI c)), (2, .int (nI b)), (1, .int (bz (rdP U b))), (0, .ref 93)] [] f) : ∀ j, j ≤ 3 → A (cM MX11_round 0 0 layT layT Q) 31 [(5, .int (nI j)), (3, .int (rpa U x j)), (4, .int (nI c)), (2, .int (nI b)), (1, .int (bz (rdP U b))), (0, .ref 93)] [] f := by
  refine up_ind 3 (fun j hj ih => ?_)
  refine A_iload dX11_round_31 0 rfl ?_
  refine A_iconst (v := 3) dX11_round_33 rfl ?_
  refine A_icmp_ge (tgt := 65) dX11_round_34 rfl (fun h34 => ?_) (fun h34 => ?_)
  · rw [show (3 : Int32) = nI 3 from rfl, nI_leI (by omega) (by omega)] at h34
    have e3 : j = 3 := by omega
    subst e3
    refine A_sub [1, 2, 3, 4, 5] rfl ?_
    exact kk
  · rw [show (3 : Int32) = nI 3 from rfl, nI_leI (by omega) (by omega)] at h34
    refine A_iload_n dX11_round_37 rfl 1 rfl ?_
    refine A_iload_n dX11_round_38 rfl 1 rfl ?_
    refine A_iload dX11_round_39 0 rfl ?_
    refine A_callS (M' := MX11_has) [.int (rpa U x j), .int (nI j)] [.int (rpa U x j)] dX11_round_41 lk_RX11_282 oX11_has sX11_has rfl rfl ⟨lb rfl, lb rfl⟩ (lb rfl) ⟨lb rfl, lb rfl⟩ (c_has _ _ f) ?_
    rintro _ g0 ⟨rfl, hg0⟩
    rw [hg0]
    refine A_if_eq (tgt := 56) dX11_round_44 rfl (fun h44 => ?_) (fun h44 => ?_)
    · refine A_iconst (v := 0) dX11_round_56 rfl ?_
      refine A_ior dX11_round_57 ?_
      refine A_istore_n (lv' := [(3, .int ((rpa U x j) ||| 0)), (5, .int (nI j)), (4, .int (nI c)), (2, .int (nI b)), (1, .int (bz (rdP U b))), (0, .ref 93)]) dX11_round_58 rfl (lb rfl) rfl ?_
      refine A_iinc (lv' := [(5, .int (nI (j + 1))), (3, .int ((rpa U x j) ||| 0)), (4, .int (nI c)), (2, .int (nI b)), (1, .int (bz (rdP U b))), (0, .ref 93)]) dX11_round_59 1 rfl (nI_add j 1) (lb rfl) rfl ?_
      refine A_goto (tgt := 31) dX11_round_62 rfl ?_
      have r := ih (j + 1) (by omega) (by omega)
      rw [rpa_f (bz_0.mp h44)] at r
      refine A_sub [0, 1, 2, 3, 4, 5] rfl ?_
      exact r
    · refine A_aload_n dX11_round_47 rfl 5 rfl ?_
      refine A_iload dX11_round_48 0 rfl ?_
      refine A_callV (M' := MX11_underIn) [.int (nI j)] [.int (rpa U x j)] 93 dX11_round_50 lk_RX11_285 oX11_underIn iX11_underIn rfl rfl ⟨lb rfl, lb rfl⟩ (lb rfl) ⟨lb rfl, lb rfl⟩ L93 rfl (hU j (by omega)) ?_
      rintro _ g0 ⟨rfl, hg0⟩
      rw [hg0]
      refine A_goto (tgt := 57) dX11_round_53 rfl ?_
      refine A_ior dX11_round_57 ?_
      refine A_istore_n (lv' := [(3, .int ((rpa U x j) ||| (U j))), (5, .int (nI j)), (4, .int (nI c)), (2, .int (nI b)), (1, .int (bz (rdP U b))), (0, .ref 93)]) dX11_round_58 rfl (lb rfl) rfl ?_
      refine A_iinc (lv' := [(5, .int (nI (j + 1))), (3, .int ((rpa U x j) ||| (U j))), (4, .int (nI c)), (2, .int (nI b)), (1, .int (bz (rdP U b))), (0, .ref 93)]) dX11_round_59 1 rfl (nI_add j 1) (lb rfl) rfl ?_
      refine A_goto (tgt := 31) dX11_round_62 rfl ?_
      have r := ih (j + 1) (by omega) (by omega)
      rw [rpa_t (bz_n0.mp h44)] at r
      refine A_sub [0, 1, 2, 3, 4, 5] rfl ?_
      exact r
theorem lc_r2 (f : Mem) (U : Ro) (hU : ∀ m, m < 3 → C0 MX11_underIn [.ref 93, .int (nI m)] f (rt (some (.int (U m))) f)) (Q : Option Value → Mem → Prop) (b : Nat) (kk : A (cM MX11_round 0 0 layT layT Q) 71 [(3, .int (rpn U (U b) 3)), (2, .int (nI b)), (1, .int (bz (rdP U b))), (0, .ref 93)] [] f) : ∀ c, c ≤ 3 → A (cM MX11_round 0 0 layT layT Q) 22 [(4, .int (nI c)), (3, .int (rpn U (U b) c)), (2, .int (nI b)), (1, .int (bz (rdP U b))), (0, .ref 93)] [] f := by
  refine up_ind 3 (fun c hj ih => ?_)
  refine A_iload dX11_round_22 0 rfl ?_
  refine A_iconst (v := 3) dX11_round_24 rfl ?_
  refine A_icmp_ge (tgt := 71) dX11_round_25 rfl (fun h25 => ?_) (fun h25 => ?_)
  · rw [show (3 : Int32) = nI 3 from rfl, nI_leI (by omega) (by omega)] at h25
    have e3 : c = 3 := by omega
    subst e3
    refine A_sub [1, 2, 3, 4] rfl ?_
    exact kk
  · rw [show (3 : Int32) = nI 3 from rfl, nI_leI (by omega) (by omega)] at h25
    refine A_iconst (v := 0) dX11_round_28 rfl ?_
    refine A_istore (lv' := [(5, .int 0), (4, .int (nI c)), (3, .int (rpn U (U b) c)), (2, .int (nI b)), (1, .int (bz (rdP U b))), (0, .ref 93)]) dX11_round_29 (lb rfl) rfl ?_
    refine A_sub [0, 2, 1, 3, 4, 5] rfl ?_
    refine lc_r1 f U hU Q (rpn U (U b) c) c b ?_ 0 (by omega)
    refine A_iinc (lv' := [(4, .int (nI (c + 1))), (3, .int (rpa U (rpn U (U b) c) 3)), (2, .int (nI b)), (1, .int (bz (rdP U b))), (0, .ref 93)]) dX11_round_65 1 rfl (nI_add c 1) (lb rfl) rfl ?_
    refine A_goto (tgt := 22) dX11_round_68 rfl ?_
    exact ih (c + 1) (by omega) (by omega)
theorem lc_r3 (f : Mem) (U : Ro) (hU : ∀ m, m < 3 → C0 MX11_underIn [.ref 93, .int (nI m)] f (rt (some (.int (U m))) f)) (Q : Option Value → Mem → Prop) (b : Nat) (hb : b < 3) (ih : ∀ i, b < i → i ≤ 3 → A (cM MX11_round 0 0 layT layT Q) 8 [(2, .int (nI i)), (1, .int (bz (rdP U i))), (0, .ref 93)] [] f) : A (cM MX11_round 0 0 layT layT Q) 71 [(3, .int (rpn U (U b) 3)), (2, .int (nI b)), (1, .int (bz (rdP U b))), (0, .ref 93)] [] f := by
  refine A_iload_n dX11_round_71 rfl 0 rfl ?_
  refine A_iload_n dX11_round_72 rfl 1 rfl ?_
  refine A_callS (M' := MX11_has) [.int (rpn U (U b) 3), .int (nI b)] [] dX11_round_73 lk_RX11_282 oX11_has sX11_has rfl rfl ⟨lb rfl, lb rfl⟩ (lb rfl) ⟨lb rfl, lb rfl⟩ (c_has _ _ f) ?_
  rintro _ g0 ⟨rfl, hg0⟩
  rw [hg0]
  refine A_if_eq (tgt := 83) dX11_round_76 rfl (fun h76 => ?_) (fun h76 => ?_)
  · refine A_iload_n dX11_round_83 rfl 2 rfl ?_
    refine A_istore_n (lv' := [(1, .int (bz (rdP U b))), (3, .int (rpn U (U b) 3)), (2, .int (nI b)), (0, .ref 93)]) dX11_round_84 rfl (lb rfl) rfl ?_
    refine A_iinc (lv' := [(2, .int (nI (b + 1))), (1, .int (bz (rdP U b))), (3, .int (rpn U (U b) 3)), (0, .ref 93)]) dX11_round_85 2 rfl (nI_add b 1) (lb rfl) rfl ?_
    refine A_goto (tgt := 8) dX11_round_88 rfl ?_
    have r := ih (b + 1) (by omega) (by omega)
    rw [show bz (rdP U (b + 1)) = bz (rdP U b) from bz_c ⟨fun z => (rd_t.mp z).elim id (fun z => absurd z (bz_0.mp h76)), fun z => rd_t.mpr (.inl z)⟩] at r
    refine A_sub [0, 1, 3] rfl ?_
    exact r
  · refine A_iconst (v := 1) dX11_round_79 rfl ?_
    refine A_goto (tgt := 84) dX11_round_80 rfl ?_
    refine A_istore_n (lv' := [(1, .int 1), (3, .int (rpn U (U b) 3)), (2, .int (nI b)), (0, .ref 93)]) dX11_round_84 rfl (lb rfl) rfl ?_
    refine A_iinc (lv' := [(2, .int (nI (b + 1))), (1, .int 1), (3, .int (rpn U (U b) 3)), (0, .ref 93)]) dX11_round_85 2 rfl (nI_add b 1) (lb rfl) rfl ?_
    refine A_goto (tgt := 8) dX11_round_88 rfl ?_
    have r := ih (b + 1) (by omega) (by omega)
    rw [show bz (rdP U (b + 1)) = 1 from bz_t (rd_t.mpr (.inr (bz_n0.mp h76)))] at r
    refine A_sub [0, 1, 3] rfl ?_
    exact r
theorem lc_r4 (f : Mem) (U : Ro) (hU : ∀ m, m < 3 → C0 MX11_underIn [.ref 93, .int (nI m)] f (rt (some (.int (U m))) f)) (Q : Option Value → Mem → Prop) (hQ : Q (some (.int (bz (rdP U 3)))) f) : ∀ b, b ≤ 3 → A (cM MX11_round 0 0 layT layT Q) 8 [(2, .int (nI b)), (1, .int (bz (rdP U b))), (0, .ref 93)] [] f := by
  refine up_ind 3 (fun b hb ih => ?_)
  refine A_iload_n dX11_round_8 rfl 0 rfl ?_
  refine A_iconst (v := 3) dX11_round_9 rfl ?_
  refine A_icmp_ge (tgt := 91) dX11_round_10 rfl (fun h10 => ?_) (fun h10 => ?_)
  · rw [show (3 : Int32) = nI 3 from rfl, nI_leI (by omega) (by omega)] at h10
    have e3 : b = 3 := by omega
    subst e3
    refine A_iload_n dX11_round_91 rfl 1 rfl ?_
    exact A_iret dX11_round_92 rfl (hQ)
  · rw [show (3 : Int32) = nI 3 from rfl, nI_leI (by omega) (by omega)] at h10
    refine A_aload_n dX11_round_13 rfl 2 rfl ?_
    refine A_iload_n dX11_round_14 rfl 0 rfl ?_
    refine A_callV (M' := MX11_underIn) [.int (nI b)] [] 93 dX11_round_15 lk_RX11_285 oX11_underIn iX11_underIn rfl rfl ⟨lb rfl, lb rfl⟩ (lb rfl) ⟨lb rfl, lb rfl⟩ L93 rfl (hU b (by omega)) ?_
    rintro _ g0 ⟨rfl, hg0⟩
    rw [hg0]
    refine A_istore_n (lv' := [(3, .int (U b)), (2, .int (nI b)), (1, .int (bz (rdP U b))), (0, .ref 93)]) dX11_round_18 rfl (lb rfl) rfl ?_
    refine A_iconst (v := 0) dX11_round_19 rfl ?_
    refine A_istore (lv' := [(4, .int 0), (3, .int (U b)), (2, .int (nI b)), (1, .int (bz (rdP U b))), (0, .ref 93)]) dX11_round_20 (lb rfl) rfl ?_
    refine A_sub [0, 1, 2, 3, 4] rfl ?_
    exact lc_r2 f U hU Q b (lc_r3 f U hU Q b (by omega) ih) 0 (by omega)
