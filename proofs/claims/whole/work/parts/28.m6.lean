theorem wake_succ : ∀ (j : Nat) (s : Sg) (m : Nat), wakeA (j + 1) s m = wake1A (wakeA j s m) m
  | 0, _, _ => rfl
  | j + 1, s, m => by
    rw [wakeA, wake_succ j (wake1A s m) m]
    rfl
theorem wake_5 : ∀ (j : Nat) (s : Sg) {m : Nat}, m < 3 → wakeA j s m 5 (3 + m) = s 5 (3 + m) - j
  | 0, _, _, _ => rfl
  | j + 1, s, m, hm => by
    rw [wakeA, wake_5 j _ hm, wake1_5 hm]; omega
theorem l_notifies (m n : Nat) (f : Mem) (s : Sg) (k : Ro) (hm : m < 3) (hw : wf s) (hn : n ≤ s 5 (3 + m)) (a : Int32) : ∀ j, j ≤ n → A (cM MX11_notifies 0 0 layT layT (rt none (ur f 96 (flat (wakeA n s m) k)))) 37 [(4, .int (nI j)), (3, .int (nI n)), (0, .ref 93), (1, .int (nI m)), (2, .int a)] [] (ur f 96 (flat (wakeA j s m) k)) := by
  have h45 := (hw.1 (3 + m) (by omega)).1
  refine up_ind n (fun j hj ih => ?_)
  have we := wf_wake j hw hm (by omega)
  have w5 := wake_5 j s hm
  refine A_iload dX11_notifies_37 0 rfl ?_
  refine A_iload_n dX11_notifies_39 rfl 1 rfl ?_
  refine A_icmp_ge (tgt := 81) dX11_notifies_40 rfl (fun h40 => ?_) (fun h40 => ?_)
  · rw [nI_leI (by omega) (by omega)] at h40
    have ej : j = n := by omega
    subst ej
    exact A_vret dX11_notifies_81 rfl (⟨rfl, rfl⟩)
  · rw [nI_leI (by omega) (by omega)] at h40
    obtain ⟨a1, a2, a3, a4, a5, a6⟩ := we.first (r := 3 + m) (by omega) (by omega)
    refine A_aload_n dX11_notifies_43 rfl 2 rfl ?_
    refine A_bipush (v := 33) dX11_notifies_44 rfl ?_
    refine A_bipush (v := 36) dX11_notifies_46 rfl ?_
    refine A_iload_n dX11_notifies_48 rfl 3 rfl ?_
    refine A_callV (M' := MX11_leaves) [.int 33, .int 36, .int (nI m)] [] 93 dX11_notifies_49 lk_RX11_154 oX11_leaves iX11_leaves rfl rfl ⟨lb rfl, lb rfl⟩ (lb rfl) ⟨lb rfl, lb rfl⟩ L93 rfl (c_leavesW m f (wakeA j s m) k (by omega) (by omega) (we.1 (3 + m) (by omega)).1 a1) ?_
    rintro _ _ ⟨rfl, rfl⟩
    refine A_istore (lv' := [(5, .int (nI ((wakeA j s m) (7 + (3 + m)) 0 - 1))), (4, .int (nI j)), (3, .int (nI n)), (0, .ref 93), (1, .int (nI m)), (2, .int a)]) dX11_notifies_52 (lb rfl) rfl ?_
    refine A_aload_n dX11_notifies_54 rfl 3 rfl ?_
    refine A_getR (b := 96) dX11_notifies_55 fo_RX11_16 L93 rfl ?_
    refine A_iconst (v := 4) dX11_notifies_58 rfl ?_
    refine A_iload dX11_notifies_59 0 rfl ?_
    refine A_iadd dX11_notifies_61 ?_
    refine A_iconst (v := 1) dX11_notifies_62 rfl ?_
    refine A_iastore (4 + ((wakeA j s m) (7 + (3 + m)) 0 - 1)) dX11_notifies_63 L96 (by simp only [lit, nI_add, pk_mul]) (by omega) (lb rfl) ?_
    refine A_eq rfl rfl (sm_u f (leavesA (wakeA j s m) (3 + m)) k 1 (by simp only [lit, nI_add, pk_mul]) (by omega) (f_1 ((wakeA j s m) (7 + (3 + m)) 0 - 1) (by omega))) ?_
    refine A_aload_n dX11_notifies_64 rfl 3 rfl ?_
    refine A_bipush (v := 18) dX11_notifies_65 rfl ?_
    refine A_bipush (v := 21) dX11_notifies_67 rfl ?_
    refine A_iload_n dX11_notifies_69 rfl 4 rfl ?_
    refine A_iload dX11_notifies_70 0 rfl ?_
    refine A_callV (M' := MX11_comes) [.int 18, .int 21, .int (nI m), .int (nI ((wakeA j s m) (7 + (3 + m)) 0 - 1))] [] 93 dX11_notifies_72 lk_RX11_169 oX11_comes iX11_comes rfl rfl ⟨lb rfl, lb rfl⟩ (lb rfl) ⟨lb rfl, lb rfl⟩ L93 rfl (c_comesE m ((wakeA j s m) (7 + (3 + m)) 0 - 1) f (s2 (leavesA (wakeA j s m) (3 + m)) 1 ((wakeA j s m) (7 + (3 + m)) 0 - 1) 1) k (by omega) (by omega) (by rw [s2_c _ (by decide)]; obtain ⟨h2, h3⟩ := wf_lv we (r := 3 + m) (by omega) (by omega); have := row3 h2.1 h2.2.1 (show wakeA j s m (7 + (3 + m)) 0 - 1 < 4 by omega) (show m < 6 by omega) h3; omega)) ?_
    rintro _ _ ⟨rfl, rfl⟩
    refine A_iinc (lv' := [(4, .int (nI (j + 1))), (5, .int (nI ((wakeA j s m) (7 + (3 + m)) 0 - 1))), (3, .int (nI n)), (0, .ref 93), (1, .int (nI m)), (2, .int a)]) dX11_notifies_75 1 rfl (nI_add j 1) (lb rfl) rfl ?_
    refine A_goto (tgt := 37) dX11_notifies_78 rfl ?_
    refine A_sub [0, 2, 3, 4, 5] rfl ?_
    have e := ih (j + 1) (by omega) (by omega)
    rw [wake_succ] at e
    exact e
theorem c_notifies (m : Nat) (a : Int32) (f : Mem) (s : Sg) (k : Ro) (hm : m < 3) (hw : wf s) : C0 MX11_notifies [.ref 93, .int (nI m), .int a] (ur f 96 (flat s k)) (rt none (ur f 96 (flat (wakeA (if s 5 (3 + m) = 0 then 0 else if a = 0 then 1 else s 5 (3 + m)) s m) k))) := by
  have h45 := (hw.1 (3 + m) (by omega)).1
  refine Ct.of (lv := [(0, .ref 93), (1, .int (nI m)), (2, .int a)]) (by decide) (lb rfl) rfl ?_
  refine A_aload_n dX11_notifies_0 rfl 0 rfl ?_
  refine A_getR (b := 96) dX11_notifies_1 fo_RX11_16 L93 rfl ?_
  refine A_bipush (v := 33) dX11_notifies_4 rfl ?_
  refine A_iload_n dX11_notifies_6 rfl 1 rfl ?_
  refine A_iadd dX11_notifies_7 ?_
  refine A_iaload (33 + m) dX11_notifies_8 L96 (by simp only [lit, nI_add, pk_mul]) (by omega) (lb rfl) ?_
  refine A_topi (nI (s 5 (3 + m))) (by rw [sm_r f s k (by omega) (f_6 m (by omega))] <;> simp [s2, n70, n70', n71, n71', n72, n72', n73, n73', n74, n74', n75, n75']) ?_
  refine A_if_ne (tgt := 16) dX11_notifies_9 rfl (fun h9 => ?_) (fun h9 => ?_)
  · rw [show (0 : Int32) = nI 0 from rfl, nI_eq (by omega) (by omega)] at h9
    refine A_iload_n dX11_notifies_16 rfl 2 rfl ?_
    refine A_if_eq (tgt := 32) dX11_notifies_17 rfl (fun h17 => ?_) (fun h17 => ?_)
    · refine A_iconst (v := 1) dX11_notifies_32 rfl ?_
      refine A_istore_n (lv' := [(3, .int 1), (0, .ref 93), (1, .int (nI m)), (2, .int a)]) dX11_notifies_33 rfl (lb rfl) rfl ?_
      refine A_iconst (v := 0) dX11_notifies_34 rfl ?_
      refine A_istore (lv' := [(4, .int 0), (3, .int 1), (0, .ref 93), (1, .int (nI m)), (2, .int a)]) dX11_notifies_35 (lb rfl) rfl ?_
      rw [if_neg h9, if_pos h17]
      exact l_notifies m 1 f s k hm hw (by omega) a 0 (by omega)
    · refine A_aload_n dX11_notifies_20 rfl 0 rfl ?_
      refine A_getR (b := 96) dX11_notifies_21 fo_RX11_16 L93 rfl ?_
      refine A_bipush (v := 33) dX11_notifies_24 rfl ?_
      refine A_iload_n dX11_notifies_26 rfl 1 rfl ?_
      refine A_iadd dX11_notifies_27 ?_
      refine A_iaload (33 + m) dX11_notifies_28 L96 (by simp only [lit, nI_add, pk_mul]) (by omega) (lb rfl) ?_
      refine A_topi (nI (s 5 (3 + m))) (by rw [sm_r f s k (by omega) (f_6 m (by omega))] <;> simp [s2, n70, n70', n71, n71', n72, n72', n73, n73', n74, n74', n75, n75']) ?_
      refine A_goto (tgt := 33) dX11_notifies_29 rfl ?_
      refine A_istore_n (lv' := [(3, .int (nI (s 5 (3 + m)))), (0, .ref 93), (1, .int (nI m)), (2, .int a)]) dX11_notifies_33 rfl (lb rfl) rfl ?_
      refine A_iconst (v := 0) dX11_notifies_34 rfl ?_
      refine A_istore (lv' := [(4, .int 0), (3, .int (nI (s 5 (3 + m)))), (0, .ref 93), (1, .int (nI m)), (2, .int a)]) dX11_notifies_35 (lb rfl) rfl ?_
      rw [if_neg h9, if_neg h17]
      exact l_notifies m (s 5 (3 + m)) f s k hm hw (by omega) a 0 (by omega)
  · rw [show (0 : Int32) = nI 0 from rfl, nI_eq (by omega) (by omega)] at h9
    refine A_iconst (v := 0) dX11_notifies_12 rfl ?_
    refine A_goto (tgt := 33) dX11_notifies_13 rfl ?_
    refine A_istore_n (lv' := [(3, .int 0), (0, .ref 93), (1, .int (nI m)), (2, .int a)]) dX11_notifies_33 rfl (lb rfl) rfl ?_
    refine A_iconst (v := 0) dX11_notifies_34 rfl ?_
    refine A_istore (lv' := [(4, .int 0), (3, .int 0), (0, .ref 93), (1, .int (nI m)), (2, .int a)]) dX11_notifies_35 (lb rfl) rfl ?_
    rw [if_pos h9]
    exact l_notifies m 0 f s k hm hw (by omega) a 0 (by omega)
theorem c_monitors (t so m : Nat) (f : Mem) (s : Sg) (k : Ro) (ht : t < 4) (hso : so < 5) (hm : m < 3) (hw : wf s) (h1 : s 1 t = 0) (h0 : f 93 16 = 0) (hg : f 94 (53 + m) = nI (s 14 m)) (h14 : s 14 m ≤ 1) : C0 MX11_monitors [.ref 93, .int (nI t), .int (nI so), .int (nI m)] (ur f 96 (flat s k)) (rt none (ur (u2 f 93 16 (nI (monA s t so m).2)) 96 (flat (monA s t so m).1 k))) := by
  obtain ⟨h3, h4, h34⟩ := hw.2.2.2.2 m hm
  refine Ct.of (lv := [(0, .ref 93), (1, .int (nI t)), (2, .int (nI so)), (3, .int (nI m))]) (by decide) (lb rfl) rfl ?_
  refine A_aload_n dX11_monitors_0 rfl 0 rfl ?_
  refine A_getR (b := 94) dX11_monitors_1 fo_RX11_9 L93 rfl ?_
  refine A_bipush (v := 53) dX11_monitors_4 rfl ?_
  refine A_iload_n dX11_monitors_6 rfl 3 rfl ?_
  refine A_iadd dX11_monitors_7 ?_
  refine A_iaload (53 + m) dX11_monitors_8 L94 (by simp only [lit, nI_add, pk_mul]) (by omega) (lb rfl) ?_
  refine A_topi (f 94 (53 + m)) (by simp [ur, u2, upd]) ?_
  refine A_topi (nI (s 14 m)) hg ?_
  refine A_iconst (v := 1) dX11_monitors_9 rfl ?_
  refine A_icmp_ne (tgt := 21) dX11_monitors_10 rfl (fun h10 => ?_) (fun h10 => ?_)
  · rw [show (1 : Int32) = nI 1 from rfl, nI_eq (by omega) (by omega)] at h10
    refine A_iload_n dX11_monitors_21 rfl 2 rfl ?_
    refine A_if_ne (tgt := 34) dX11_monitors_22 rfl (fun h22 => ?_) (fun h22 => ?_)
    · rw [show (0 : Int32) = nI 0 from rfl, nI_eq (by omega) (by omega)] at h22
      refine A_aload_n dX11_monitors_34 rfl 0 rfl ?_
      refine A_iload_n dX11_monitors_35 rfl 1 rfl ?_
      refine A_iload_n dX11_monitors_36 rfl 3 rfl ?_
      refine A_callV (M' := MX11_isOwner) [.int (nI t), .int (nI m)] [] 93 dX11_monitors_37 lk_RX11_160 oX11_isOwner iX11_isOwner rfl rfl ⟨lb rfl, lb rfl⟩ (lb rfl) ⟨lb rfl, lb rfl⟩ L93 rfl (c_isOwner t m f s k (by omega) (by omega) (h3)) ?_
      rintro _ _ ⟨rfl, rfl⟩
      refine A_if_ne (tgt := 51) dX11_monitors_40 rfl (fun h40 => ?_) (fun h40 => ?_)
      · refine A_iload_n dX11_monitors_51 rfl 2 rfl ?_
        refine A_iconst (v := 1) dX11_monitors_52 rfl ?_
        refine A_icmp_ne (tgt := 89) dX11_monitors_53 rfl (fun h53 => ?_) (fun h53 => ?_)
        · rw [show (1 : Int32) = nI 1 from rfl, nI_eq (by omega) (by omega)] at h53
          refine A_iload_n dX11_monitors_89 rfl 2 rfl ?_
          refine A_iconst (v := 2) dX11_monitors_90 rfl ?_
          refine A_icmp_ne (tgt := 139) dX11_monitors_91 rfl (fun h91 => ?_) (fun h91 => ?_)
          · rw [show (2 : Int32) = nI 2 from rfl, nI_eq (by omega) (by omega)] at h91
            refine A_aload_n dX11_monitors_139 rfl 0 rfl ?_
            refine A_iload_n dX11_monitors_140 rfl 3 rfl ?_
            refine A_iload_n dX11_monitors_141 rfl 2 rfl ?_
            refine A_iconst (v := 4) dX11_monitors_142 rfl ?_
            refine A_icmp_ne (tgt := 150) dX11_monitors_143 rfl (fun h143 => ?_) (fun h143 => ?_)
            · rw [show (4 : Int32) = nI 4 from rfl, nI_eq (by omega) (by omega)] at h143
              refine A_iconst (v := 0) dX11_monitors_150 rfl ?_
              refine A_callV (M' := MX11_notifies) [.int (nI m), .int 0] [] 93 dX11_monitors_151 lk_RX11_177 oX11_notifies iX11_notifies rfl rfl ⟨lb rfl, lb rfl⟩ (lb rfl) ⟨lb rfl, lb rfl⟩ L93 rfl (c_notifies m 0 f s k (by omega) hw) ?_
              rintro _ _ ⟨rfl, rfl⟩
              exact A_vret dX11_monitors_154 rfl (⟨rfl, by rw [monA, if_neg h10, if_neg h22, if_neg (not_not_intro (bz_n0.mp h40)), if_neg h53, if_neg h91]; dsimp only; rw [show nI 0 = (0 : Int32) from rfl, u2_same f h0]; rw [if_neg h143]; rfl⟩)
            · rw [show (4 : Int32) = nI 4 from rfl, nI_eq (by omega) (by omega)] at h143
              refine A_iconst (v := 1) dX11_monitors_146 rfl ?_
              refine A_goto (tgt := 151) dX11_monitors_147 rfl ?_
              refine A_callV (M' := MX11_notifies) [.int (nI m), .int 1] [] 93 dX11_monitors_151 lk_RX11_177 oX11_notifies iX11_notifies rfl rfl ⟨lb rfl, lb rfl⟩ (lb rfl) ⟨lb rfl, lb rfl⟩ L93 rfl (c_notifies m 1 f s k (by omega) hw) ?_
              rintro _ _ ⟨rfl, rfl⟩
              exact A_vret dX11_monitors_154 rfl (⟨rfl, by rw [monA, if_neg h10, if_neg h22, if_neg (not_not_intro (bz_n0.mp h40)), if_neg h53, if_neg h91]; dsimp only; rw [show nI 0 = (0 : Int32) from rfl, u2_same f h0]; rw [if_pos h143]; rfl⟩)
          · rw [show (2 : Int32) = nI 2 from rfl, nI_eq (by omega) (by omega)] at h91
            refine A_aload_n dX11_monitors_94 rfl 0 rfl ?_
            refine A_getR (b := 96) dX11_monitors_95 fo_RX11_16 L93 rfl ?_
            refine A_iconst (v := 4) dX11_monitors_98 rfl ?_
            refine A_iload_n dX11_monitors_99 rfl 1 rfl ?_
            refine A_iadd dX11_monitors_100 ?_
            refine A_iconst (v := 2) dX11_monitors_101 rfl ?_
            refine A_iastore (4 + t) dX11_monitors_102 L96 (by simp only [lit, nI_add, pk_mul]) (by omega) (lb rfl) ?_
            refine A_eq rfl rfl (sm_u f s k 2 (by simp only [lit, nI_add, pk_mul]) (by omega) (f_1 t (by omega))) ?_
            refine A_aload_n dX11_monitors_103 rfl 0 rfl ?_
            refine A_getR (b := 96) dX11_monitors_104 fo_RX11_16 L93 rfl ?_
            refine A_bipush (v := 8) dX11_monitors_107 rfl ?_
            refine A_iload_n dX11_monitors_109 rfl 1 rfl ?_
            refine A_iadd dX11_monitors_110 ?_
            refine A_aload_n dX11_monitors_111 rfl 0 rfl ?_
            refine A_getR (b := 96) dX11_monitors_112 fo_RX11_16 L93 rfl ?_
            refine A_bipush (v := 15) dX11_monitors_115 rfl ?_
            refine A_iload_n dX11_monitors_117 rfl 3 rfl ?_
            refine A_iadd dX11_monitors_118 ?_
            refine A_iaload (15 + m) dX11_monitors_119 L96 (by simp only [lit, nI_add, pk_mul]) (by omega) (lb rfl) ?_
            refine A_topi (nI (s 4 m)) (by rw [sm_r f (s2 s 1 t 2) k (by omega) (f_4 m (by omega))] <;> simp [s2, n70, n70', n71, n71', n72, n72', n73, n73', n74, n74', n75, n75']) ?_
            refine A_iastore (8 + t) dX11_monitors_120 L96 (by simp only [lit, nI_add, pk_mul]) (by omega) (lb rfl) ?_
            refine A_eq rfl rfl (sm_u f (s2 s 1 t 2) k (s 4 m) (by simp only [lit, nI_add, pk_mul]) (by omega) (f_2 t (by omega))) ?_
            refine A_aload_n dX11_monitors_121 rfl 0 rfl ?_
            refine A_bipush (v := 33) dX11_monitors_122 rfl ?_
            refine A_bipush (v := 36) dX11_monitors_124 rfl ?_
            refine A_iload_n dX11_monitors_126 rfl 3 rfl ?_
            refine A_iload_n dX11_monitors_127 rfl 1 rfl ?_
            refine A_callV (M' := MX11_comes) [.int 33, .int 36, .int (nI m), .int (nI t)] [] 93 dX11_monitors_128 lk_RX11_169 oX11_comes iX11_comes rfl rfl ⟨lb rfl, lb rfl⟩ (lb rfl) ⟨lb rfl, lb rfl⟩ L93 rfl (c_comesW m t f (s2 (s2 s 1 t 2) 2 t (s 4 m)) k (by omega) (by omega) (by rw [s2_c _ (by decide), s2_c _ (by decide)]; have := row3 hw.1 hw.2.1 ht (show 3 + m < 6 by omega) (hw.nst h1); omega)) ?_
            rintro _ _ ⟨rfl, rfl⟩
            refine A_aload_n dX11_monitors_131 rfl 0 rfl ?_
            refine A_iload_n dX11_monitors_132 rfl 3 rfl ?_
            refine A_callV (M' := MX11_frees) [.int (nI m)] [] 93 dX11_monitors_133 lk_RX11_163 oX11_frees iX11_frees rfl rfl ⟨lb rfl, lb rfl⟩ (lb rfl) ⟨lb rfl, lb rfl⟩ L93 rfl (c_frees m f (comesA (s2 (s2 s 1 t 2) 2 t (s 4 m)) (3 + m) t) k (by omega) (wf.w4 <| wf_cm (wf_12 hw (hw.nst h1) (by omega) (by omega)) ht (by omega) (nst_c (fun r _ i _ => by simp [s2, n71', n72']) (hw.nst h1)) (by simp [s2]) (by simp [s2]; have := h34 (by have := bz_n0.mp h40; omega); omega))) ?_
            rintro _ _ ⟨rfl, rfl⟩
            refine A_goto (tgt := 154) dX11_monitors_136 rfl ?_
            exact A_vret dX11_monitors_154 rfl (⟨rfl, by rw [monA, if_neg h10, if_neg h22, if_neg (not_not_intro (bz_n0.mp h40)), if_neg h53, if_pos h91]; dsimp only; rw [show nI 0 = (0 : Int32) from rfl, u2_same f h0]⟩)
        · rw [show (1 : Int32) = nI 1 from rfl, nI_eq (by omega) (by omega)] at h53
          refine A_aload_n dX11_monitors_56 rfl 0 rfl ?_
          refine A_getR (b := 96) dX11_monitors_57 fo_RX11_16 L93 rfl ?_
          refine A_bipush (v := 15) dX11_monitors_60 rfl ?_
          refine A_iload_n dX11_monitors_62 rfl 3 rfl ?_
          refine A_iadd dX11_monitors_63 ?_
          refine A_dup2 dX11_monitors_64 rfl rfl ?_
          refine A_iaload (15 + m) dX11_monitors_65 L96 (by simp only [lit, nI_add, pk_mul]) (by omega) (lb rfl) ?_
          refine A_topi (nI (s 4 m)) (by rw [sm_r f s k (by omega) (f_4 m (by omega))] <;> simp [s2, n70, n70', n71, n71', n72, n72', n73, n73', n74, n74', n75, n75']) ?_
          refine A_iconst (v := 1) dX11_monitors_66 rfl ?_
          refine A_isub dX11_monitors_67 ?_
          refine A_topi (nI (s 4 m - 1)) (pk_sub (by have := h34 (by have := bz_n0.mp h40; omega); omega)) ?_
          refine A_iastore (15 + m) dX11_monitors_68 L96 (by simp only [lit, nI_add, pk_mul]) (by omega) (lb rfl) ?_
          refine A_eq rfl rfl (sm_u f s k (s 4 m - 1) (by simp only [lit, nI_add, pk_mul]) (by omega) (f_4 m (by omega))) ?_
          refine A_aload_n dX11_monitors_69 rfl 0 rfl ?_
          refine A_getR (b := 96) dX11_monitors_70 fo_RX11_16 L93 rfl ?_
          refine A_bipush (v := 15) dX11_monitors_73 rfl ?_
          refine A_iload_n dX11_monitors_75 rfl 3 rfl ?_
          refine A_iadd dX11_monitors_76 ?_
          refine A_iaload (15 + m) dX11_monitors_77 L96 (by simp only [lit, nI_add, pk_mul]) (by omega) (lb rfl) ?_
          refine A_topi (nI (s 4 m - 1)) (by rw [sm_r f (s2 s 4 m (s 4 m - 1)) k (by omega) (f_4 m (by omega))] <;> simp [s2, n70, n70', n71, n71', n72, n72', n73, n73', n74, n74', n75, n75']) ?_
          refine A_if_ne (tgt := 154) dX11_monitors_78 rfl (fun h78 => ?_) (fun h78 => ?_)
          · rw [show (0 : Int32) = nI 0 from rfl, nI_eq (by omega) (by omega)] at h78
            exact A_vret dX11_monitors_154 rfl (⟨rfl, by rw [monA, if_neg h10, if_neg h22, if_neg (not_not_intro (bz_n0.mp h40)), if_pos h53, if_neg h78]; dsimp only; rw [show nI 0 = (0 : Int32) from rfl, u2_same f h0]⟩)
          · rw [show (0 : Int32) = nI 0 from rfl, nI_eq (by omega) (by omega)] at h78
            refine A_aload_n dX11_monitors_81 rfl 0 rfl ?_
            refine A_iload_n dX11_monitors_82 rfl 3 rfl ?_
            refine A_callV (M' := MX11_frees) [.int (nI m)] [] 93 dX11_monitors_83 lk_RX11_163 oX11_frees iX11_frees rfl rfl ⟨lb rfl, lb rfl⟩ (lb rfl) ⟨lb rfl, lb rfl⟩ L93 rfl (c_frees m f (s2 s 4 m (s 4 m - 1)) k (by omega) (hw.c4 m _)) ?_
            rintro _ _ ⟨rfl, rfl⟩
            refine A_goto (tgt := 154) dX11_monitors_86 rfl ?_
            exact A_vret dX11_monitors_154 rfl (⟨rfl, by rw [monA, if_neg h10, if_neg h22, if_neg (not_not_intro (bz_n0.mp h40)), if_pos h53, if_pos h78]; dsimp only; rw [show nI 0 = (0 : Int32) from rfl, u2_same f h0]⟩)
      · refine A_aload_n dX11_monitors_43 rfl 0 rfl ?_
        refine A_iconst (v := 2) dX11_monitors_44 rfl ?_
        refine A_putI dX11_monitors_45 fo_RX11_166 L93 rfl ?_
        refine A_eq rfl rfl (f' := ur (u2 f 93 16 2) 96 (flat s k)) (sm_o f s k (by decide)) ?_
        refine A_goto (tgt := 154) dX11_monitors_48 rfl ?_
        exact A_vret dX11_monitors_154 rfl (⟨rfl, by rw [monA, if_neg h10, if_neg h22, if_pos (bz_0.mp h40)]; rfl⟩)
    · rw [show (0 : Int32) = nI 0 from rfl, nI_eq (by omega) (by omega)] at h22
      refine A_aload_n dX11_monitors_25 rfl 0 rfl ?_
      refine A_iload_n dX11_monitors_26 rfl 1 rfl ?_
      refine A_iload_n dX11_monitors_27 rfl 3 rfl ?_
      refine A_callV (M' := MX11_enters) [.int (nI t), .int (nI m)] [] 93 dX11_monitors_28 lk_RX11_173 oX11_enters iX11_enters rfl rfl ⟨lb rfl, lb rfl⟩ (lb rfl) ⟨lb rfl, lb rfl⟩ L93 rfl (c_enters t m f s k ht hm hw h1 h0) ?_
      rintro _ _ ⟨rfl, rfl⟩
      refine A_goto (tgt := 154) dX11_monitors_31 rfl ?_
      exact A_vret dX11_monitors_154 rfl (⟨rfl, by rw [monA, if_neg h10, if_pos h22]⟩)
  · rw [show (1 : Int32) = nI 1 from rfl, nI_eq (by omega) (by omega)] at h10
    refine A_aload_n dX11_monitors_13 rfl 0 rfl ?_
    refine A_iconst (v := 1) dX11_monitors_14 rfl ?_
    refine A_putI dX11_monitors_15 fo_RX11_166 L93 rfl ?_
    refine A_eq rfl rfl (f' := ur (u2 f 93 16 1) 96 (flat s k)) (sm_o f s k (by decide)) ?_
    refine A_goto (tgt := 154) dX11_monitors_18 rfl ?_
    exact A_vret dX11_monitors_154 rfl (⟨rfl, by rw [monA, if_pos h10]; rfl⟩)
