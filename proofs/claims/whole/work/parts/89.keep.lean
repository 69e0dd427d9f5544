/-! the class keeps a picture -/
def hW (u : Pt) : Nat := hs (fun i => nI (wd u.1 u.2 i))
def anyP (N : Nat) (P : Nat → Pt) (u : Pt) : Prop := ∃ j, j < N ∧ lk (P j) u
def KT (f : Mem) (N : Nat) (P : Nat → Pt) : Prop := f 77 0 = nI N ∧ (∀ j, j < N → ∀ i, i < 6 → f 78 (j * 6 + i) = nI (wd (P j).1 (P j).2 i)) ∧ tB (f 80) N (fun j => hW (P j))
theorem KT.congr {f h : Mem} {N : Nat} {P : Nat → Pt} (q : KT f N P) (e0 : h 77 0 = f 77 0) (e1 : h 78 = f 78) (e2 : h 80 = f 80) : KT h N P := by
  unfold KT; rw [e0, e1, e2]; exact q
theorem dr_lk {G : Mem} {s : Sg} {k : Ro} (hB : wB s k) (hd : ∀ i, i < 6 → G 79 i = nI (wd s k i)) {j : Nat} {v : Pt} (hv : wB v.1 v.2) (hw : ∀ i, i < 6 → G 78 (j * 6 + i) = nI (wd v.1 v.2 i)) : (G 78 (j * 6 + 0) = G 79 0 ∧ G 78 (j * 6 + 1) = G 79 1 ∧ G 78 (j * 6 + 2) = G 79 2 ∧ G 78 (j * 6 + 3) = G 79 3 ∧ G 78 (j * 6 + 4) = G 79 4 ∧ G 78 (j * 6 + 5) = G 79 5) ↔ lk v (s, k) := by
  rw [hw 0 (by decide), hw 1 (by decide), hw 2 (by decide), hw 3 (by decide), hw 4 (by decide), hw 5 (by decide), hd 0 (by decide), hd 1 (by decide), hd 2 (by decide), hd 3 (by decide), hd 4 (by decide), hd 5 (by decide)]
  rw [show v = (v.1, v.2) from rfl, ← lk_wd hv hB]
  refine ⟨fun q i hi => ?_, fun q => ⟨q 0 (by decide), q 1 (by decide), q 2 (by decide), q 3 (by decide), q 4 (by decide), q 5 (by decide)⟩⟩
  match i, hi with
  | 0, _ => exact q.1
  | 1, _ => exact q.2.1
  | 2, _ => exact q.2.2.1
  | 3, _ => exact q.2.2.2.1
  | 4, _ => exact q.2.2.2.2.1
  | 5, _ => exact q.2.2.2.2.2
theorem no_any {g : Ro} {N D a : Nat} {P : Nat → Pt} {s : Sg} {k : Ro} (hB : wB s k) (hP : ∀ j, j < N → wB (P j).1 (P j).2) (t : tB g N (fun j => hW (P j))) (hN : N ≤ 600) (ha : a = hW (s, k)) (o : opn g a D) (hn : ∀ e, e < D → ∀ v, 1 ≤ v → v ≤ N → g ((a + e) % 2048) = nI v → ¬ lk (P (v - 1)) (s, k)) : ¬ anyP N P (s, k) := by
  rintro ⟨j, hj, hl⟩
  have e : a = hW (P j) := by
    rw [ha]; unfold hW
    exact hs_c (fun i hi => (((lk_wd (hP j hj) hB).mpr hl) i hi).symm)
  obtain ⟨d, d1, d2⟩ := t.hit hN o hj e
  exact hn d d1 (j + 1) (by omega) (by omega) d2 hl
abbrev lk2 (a b : Ro) : Prop := ∀ j, j < 52 → a j = b j
theorem lx_keep (G : Mem) (s : Sg) (k : Ro) (hB : wB s k) (N : Nat) (P : Nat → Pt) (hK : KT G N P) (hN : N ≤ 600) (hP : ∀ j, j < N → wB (P j).1 (P j).2) (hd : ∀ i, i < 6 → G 79 i = nI (wd s k i)) (a D : Nat) (ha : a = hW (s, k)) (ho : opn (G 80) a D) (Q : Option Value → Mem → Prop) (kL : anyP N P (s, k) → Q (some (.int (-1))) G) (kE : ¬ anyP N P (s, k) → A (cM MX7_keep 0 0 layT layT Q) 59 [(2, .int (nI ((a + D) % 2048))), (0, .ref 77)] [] G) : ∀ e, e ≤ D → (∀ e1, e1 < e → ∀ v, 1 ≤ v → v ≤ N → G 80 ((a + e1) % 2048) = nI v → ¬ lk (P (v - 1)) (s, k)) → A (cM MX7_keep 0 0 layT layT Q) 12 [(3, .int (nI e)), (2, .int (nI ((a + e) % 2048))), (0, .ref 77), (1, .ref 56)] [] G := by
  refine up_ind D (fun e he ih hn => ?_)
  have hD := ho.1
  obtain ⟨v, v1, v2⟩ := hK.2.2.1 ((a + e) % 2048) (Nat.mod_lt _ (by decide))
  refine A_iload_n dX7_keep_12 rfl 0 rfl ?_
  refine A_sipush (v := 2048) dX7_keep_13 rfl ?_
  refine A_icmp_ge (tgt := 59) dX7_keep_16 rfl (fun h16 => by exact absurd h16 (fun q => by rw [show (2048 : Int32) = nI 2048 from rfl, nI_leI (by omega) (by have := ho.1; omega)] at q; have := ho.1; omega)) (fun h16 => ?_)
  refine A_aload_n dX7_keep_19 rfl 2 rfl ?_
  refine A_getR (b := 80) dX7_keep_20 fo_RX7_22 L77 rfl ?_
  refine A_iload_n dX7_keep_23 rfl 1 rfl ?_
  refine A_iaload ((a + e) % 2048) dX7_keep_24 L80 (rfl) (Nat.mod_lt _ (by decide)) (lb rfl) ?_
  refine A_topi (nI v) (v2) ?_
  refine A_if_eq (tgt := 59) dX7_keep_25 rfl (fun h25 => ?_) (fun h25 => ?_)
  · rw [show (0 : Int32) = nI 0 from rfl, nI_eq (by omega) (by decide)] at h25
    have eD : e = D := by
      rcases Nat.lt_or_ge e D with q | q
      · exact absurd (by rw [v2, h25]; rfl) (ho.2.2 e q)
      · omega
    subst eD
    refine A_sub [1, 2] rfl ?_
    exact kE (no_any hB hP hK.2.2 hN ha ho hn)
  · rw [show (0 : Int32) = nI 0 from rfl, nI_eq (by omega) (by decide)] at h25
    have eD : e < D := by
      rcases Nat.lt_or_ge e D with q | q
      · exact q
      · have : e = D := by omega
        rw [this, ho.2.1] at v2
        exact absurd (nI_inj (a := 0) (by decide) (by omega) v2).symm h25
    refine A_aload_n dX7_keep_28 rfl 2 rfl ?_
    refine A_aload_n dX7_keep_29 rfl 2 rfl ?_
    refine A_getR (b := 80) dX7_keep_30 fo_RX7_22 L77 rfl ?_
    refine A_iload_n dX7_keep_33 rfl 1 rfl ?_
    refine A_iaload ((a + e) % 2048) dX7_keep_34 L80 (rfl) (Nat.mod_lt _ (by decide)) (lb rfl) ?_
    refine A_topi (nI v) (v2) ?_
    refine A_iconst (v := 1) dX7_keep_35 rfl ?_
    refine A_isub dX7_keep_36 ?_
    refine A_topi (nI (v - 1)) (by rw [show nI v = nI (v - 1 + 1) by congr 1; omega, nI_pred]) ?_
    refine A_callV (M' := MX7_isDraft) [.int (nI (v - 1))] [] 77 dX7_keep_37 lk_RX7_39 oX7_isDraft iX7_isDraft rfl rfl ⟨lb rfl, lb rfl⟩ (lb rfl) ⟨lb rfl, lb rfl⟩ L77 rfl (x_isDraft G (v - 1) (by omega)) ?_
    rintro _ g0 ⟨rfl, hg0⟩
    rw [hg0]
    refine A_topi (bz (lk2 (fl (P (v - 1))) (flat s k))) (bz_c (dr_lk hB hd (hP (v - 1) (by omega)) (hK.2.1 (v - 1) (by omega)))) ?_
    refine A_if_eq (tgt := 45) dX7_keep_40 rfl (fun h40 => ?_) (fun h40 => ?_)
    · refine A_iload_n dX7_keep_45 rfl 1 rfl ?_
      refine A_iconst (v := 1) dX7_keep_46 rfl ?_
      refine A_iadd dX7_keep_47 ?_
      refine A_sipush (v := 2047) dX7_keep_48 rfl ?_
      refine A_iand dX7_keep_51 ?_
      refine A_topi (nI ((a + (e + 1)) % 2048)) (nxt a e) ?_
      refine A_istore_n (lv' := [(2, .int (nI ((a + (e + 1)) % 2048))), (3, .int (nI e)), (0, .ref 77), (1, .ref 56)]) dX7_keep_52 rfl (lb rfl) rfl ?_
      refine A_iinc (lv' := [(3, .int (nI (e + 1))), (2, .int (nI ((a + (e + 1)) % 2048))), (0, .ref 77), (1, .ref 56)]) dX7_keep_53 1 rfl (nI_add e 1) (lb rfl) rfl ?_
      refine A_goto (tgt := 12) dX7_keep_56 rfl ?_
      refine A_sub [0, 1, 2, 3] rfl ?_
      exact ih (e + 1) (by omega) (by omega) (fun e1 he1 x x1 x2 x3 => by rcases Nat.lt_or_ge e1 e with q | q; exact hn e1 q x x1 x2 x3; rw [show e1 = e by omega, v2] at x3; rw [← nI_inj (by omega) (by omega) x3]; exact (show ¬ lk2 (fl (P (v - 1))) (flat s k) from bz_0.mp h40))
    · refine A_iconst (v := -1) dX7_keep_43 rfl ?_
      exact A_iret dX7_keep_44 rfl (kL ⟨v - 1, by omega, (show lk2 (fl (P (v - 1))) (flat s k) from bz_n0.mp h40)⟩)
theorem lx_keepF (G : Mem) (N : Nat) (P : Nat → Pt) (hK : KT G N P) (a D : Nat) (hN : N = 600) : A (cM MX7_keep 0 0 layT layT (rt (some (.int (-2))) G)) 59 [(2, .int (nI ((a + D) % 2048))), (0, .ref 77)] [] G := by
  refine A_aload_n dX7_keep_59 rfl 1 rfl ?_
  refine A_getI dX7_keep_60 fo_RX7_9 L77 rfl ?_
  refine A_topi (nI N) (hK.1) ?_
  refine A_sipush (v := 600) dX7_keep_63 rfl ?_
  refine A_icmp_lt (tgt := 72) dX7_keep_66 rfl (fun h66 => by exact absurd h66 (fun q => by rw [show (600 : Int32) = nI 600 from rfl, nI_ltI (by omega) (by decide)] at q; omega)) (fun h66 => ?_)
  refine A_bipush (v := -2) dX7_keep_69 rfl ?_
  exact A_iret dX7_keep_71 rfl (⟨rfl, rfl⟩)
def kpM (G : Mem) (N x : Nat) : Mem := u2 (u2 (gt_cpy G 79 0 78 (N * 6) 6) 77 0 (nI (N + 1))) 80 x (nI (N + 1))
theorem kpM_o (G : Mem) (N x : Nat) {b : Nat} (h : b < 77 ∨ b = 79 ∨ 80 < b) : kpM G N x b = G b := by
  unfold kpM; rw [u2_n _ _ _ (by omega), u2_n _ _ _ (by omega), gt_cpy, ur_n _ _ (by omega)]
theorem kpM_K {G : Mem} {N : Nat} {P : Nat → Pt} (hK : KT G N P) (hN : N < 600) {s : Sg} {k : Ro} (hd : ∀ i, i < 6 → G 79 i = nI (wd s k i)) {a D : Nat} (ha : a = hW (s, k)) (ho : opn (G 80) a D) : KT (kpM G N ((a + D) % 2048)) (N + 1) (upN P N (s, k)) := by
  refine ⟨by unfold kpM; rw [u2_n _ _ _ (by decide), u2, ur_s, upd_s], fun j hj i hi => ?_, ?_⟩
  · unfold kpM
    rw [u2_n _ _ _ (by decide), u2_n _ _ _ (by decide), gt_cpy, ur_s]
    by_cases e : j = N
    · rw [e, upN_s, pk_cpy_in (by omega) (by omega), show 0 + (N * 6 + i - N * 6) = i by omega]; exact hd i hi
    · rw [upN_n _ _ e, pk_cpy_out (by omega)]; exact hK.2.1 j (by omega) i hi
  · unfold kpM
    rw [u2, ur_s, u2_n _ _ _ (by decide), gt_cpy, ur_n _ _ (by decide)]
    have t := hK.2.2.ins (by omega) ho
    rw [show upN (fun j => hW (P j)) N a = (fun j => hW (upN P N (s, k) j)) by
      funext j; unfold upN; split
      · exact ha
      · rfl] at t
    exact t
theorem lx_keepA (G : Mem) (N : Nat) (P : Nat → Pt) (hK : KT G N P) (a D : Nat) (hN : N < 600) (Q : Option Value → Mem → Prop) (hQ : Q (some (.int (nI N))) (kpM G N ((a + D) % 2048))) : A (cM MX7_keep 0 0 layT layT Q) 59 [(2, .int (nI ((a + D) % 2048))), (0, .ref 77)] [] G := by
  refine A_aload_n dX7_keep_59 rfl 1 rfl ?_
  refine A_getI dX7_keep_60 fo_RX7_9 L77 rfl ?_
  refine A_topi (nI N) hK.1 ?_
  refine A_sipush (v := 600) dX7_keep_63 rfl ?_
  refine A_icmp_lt (tgt := 72) dX7_keep_66 rfl (fun h66 => ?_) (fun h66 => by exact absurd (by rw [show (600 : Int32) = nI 600 from rfl, nI_ltI (by omega) (by decide)]; omega) h66)
  refine A_aload_n dX7_keep_72 rfl 1 rfl ?_
  refine A_getR (b := 79) dX7_keep_73 fo_RX7_19 L77 rfl ?_
  refine A_iconst (v := 0) dX7_keep_76 rfl ?_
  refine A_aload_n dX7_keep_77 rfl 1 rfl ?_
  refine A_getR (b := 78) dX7_keep_78 fo_RX7_15 L77 rfl ?_
  refine A_aload_n dX7_keep_81 rfl 1 rfl ?_
  refine A_getI dX7_keep_82 fo_RX7_9 L77 rfl ?_
  refine A_topi (nI N) hK.1 ?_
  refine A_bipush (v := 6) dX7_keep_85 rfl ?_
  refine A_imul dX7_keep_87 ?_
  refine A_topi (nI (N * 6)) (pk_mul N 6) ?_
  refine A_bipush (v := 6) dX7_keep_88 rfl ?_
  refine A_copy 0 (N * 6) 6 dX7_keep_90 lk_RX7_43 L79 L78 rfl rfl rfl (by decide) (by omega) ⟨lb rfl, lb rfl⟩ ⟨lb rfl, lb rfl⟩ ?_
  refine A_aload_n dX7_keep_93 rfl 1 rfl ?_
  refine A_dup dX7_keep_94 rfl ?_
  refine A_getI dX7_keep_95 fo_RX7_9 L77 rfl ?_
  refine A_topi (nI N) (by rw [gt_cpy, ur_n _ _ (by decide)]; exact hK.1) ?_
  refine A_iconst (v := 1) dX7_keep_98 rfl ?_
  refine A_iadd dX7_keep_99 ?_
  refine A_topi (nI (N + 1)) (nI_succ N).symm ?_
  refine A_putI dX7_keep_100 fo_RX7_9 L77 rfl ?_
  refine A_aload_n dX7_keep_103 rfl 1 rfl ?_
  refine A_getR (b := 80) dX7_keep_104 fo_RX7_22 L77 rfl ?_
  refine A_iload_n dX7_keep_107 rfl 0 rfl ?_
  refine A_aload_n dX7_keep_108 rfl 1 rfl ?_
  refine A_getI dX7_keep_109 fo_RX7_9 L77 rfl ?_
  refine A_topi (nI (N + 1)) (by simp [u2, ur, upd]) ?_
  refine A_iastore ((a + D) % 2048) dX7_keep_112 L80 (rfl) (Nat.mod_lt _ (by decide)) (lb rfl) ?_
  refine A_aload_n dX7_keep_113 rfl 1 rfl ?_
  refine A_getI dX7_keep_114 fo_RX7_9 L77 rfl ?_
  refine A_topi (nI (N + 1)) (by rw [u2_n _ _ _ (by decide)]; simp [u2, ur, upd]) ?_
  refine A_iconst (v := 1) dX7_keep_117 rfl ?_
  refine A_isub dX7_keep_118 ?_
  refine A_topi (nI N) (nI_pred N) ?_
  exact A_iret dX7_keep_119 rfl (hQ)
theorem x_keepL (f : Mem) (s : Sg) (k : Ro) (hD : isD f 56 s k) (hB : wB s k) (N : Nat) (P : Nat → Pt) (hK : KT f N P) (hN : N ≤ 600) (hP : ∀ j, j < N → wB (P j).1 (P j).2) (hl : anyP N P (s, k)) : C0 MX7_keep [.ref 77, .ref 56] f (rt (some (.int (-1))) (pkM f s k)) := by
  refine Ct.of (lv := [(0, .ref 77), (1, .ref 56)]) (by decide) (lb rfl) rfl ?_
  refine A_aload_n dX7_keep_0 rfl 0 rfl ?_
  refine A_aload_n dX7_keep_1 rfl 1 rfl ?_
  refine A_callV (M' := MX7_pack) [.ref 56] [] 77 dX7_keep_2 lk_RX7_31 oX7_pack iX7_pack rfl rfl ⟨lb rfl, lb rfl⟩ (lb rfl) ⟨lb rfl, lb rfl⟩ L77 rfl (x_pack f s k hD hB) ?_
  rintro _ g0 ⟨rfl, hg0⟩
  rw [hg0]
  refine A_aload_n dX7_keep_5 rfl 0 rfl ?_
  refine A_callV (M' := MX7_firstSlot) [] [] 77 dX7_keep_6 lk_RX7_35 oX7_firstSlot iX7_firstSlot rfl rfl ⟨lb rfl, lb rfl⟩ (lb rfl) ⟨lb rfl, lb rfl⟩ L77 rfl (x_firstSlot (pkM f s k)) ?_
  rintro _ g0 ⟨rfl, hg0⟩
  rw [hg0]
  refine A_topi (nI (hW (s, k))) (by rw [show hs (pkM f s k 79) = hW (s, k) from hs_c (pkM_w f s k)]) ?_
  refine A_istore_n (lv' := [(2, .int (nI (hW (s, k)))), (0, .ref 77), (1, .ref 56)]) dX7_keep_9 rfl (lb rfl) rfl ?_
  refine A_iconst (v := 0) dX7_keep_10 rfl ?_
  refine A_istore_n (lv' := [(3, .int 0), (2, .int (nI (hW (s, k)))), (0, .ref 77), (1, .ref 56)]) dX7_keep_11 rfl (lb rfl) rfl ?_
  have hK2 : KT (pkM f s k) N P := hK.congr (by rw [pkM_o _ _ _ (by decide)]) (pkM_o _ _ _ (by decide)) (pkM_o _ _ _ (by decide))
  obtain ⟨D, ho⟩ := hK2.2.2.fst hN (hW (s, k))
  have r := lx_keep (pkM f s k) s k hB N P hK2 hN hP (pkM_w f s k) (hW (s, k)) D rfl ho (rt (some (.int (-1))) (pkM f s k)) (fun _ => ⟨rfl, rfl⟩) (fun q => absurd hl q) 0 (by omega) (fun _ h => by omega)
  have hlt : hW (s, k) < 2048 := hs_lt _
  have e0 : (hW (s, k) + 0) % 2048 = hW (s, k) := by rw [Nat.add_zero]; exact Nat.mod_eq_of_lt hlt
  rw [e0] at r
  refine A_sub [0, 1, 2, 3] rfl ?_
  exact r
theorem x_keepF (f : Mem) (s : Sg) (k : Ro) (hD : isD f 56 s k) (hB : wB s k) (N : Nat) (P : Nat → Pt) (hK : KT f N P) (hN : N ≤ 600) (hP : ∀ j, j < N → wB (P j).1 (P j).2) (hl : ¬ anyP N P (s, k)) (h6 : ¬ N < 600) : C0 MX7_keep [.ref 77, .ref 56] f (rt (some (.int (-2))) (pkM f s k)) := by
  refine Ct.of (lv := [(0, .ref 77), (1, .ref 56)]) (by decide) (lb rfl) rfl ?_
  refine A_aload_n dX7_keep_0 rfl 0 rfl ?_
  refine A_aload_n dX7_keep_1 rfl 1 rfl ?_
  refine A_callV (M' := MX7_pack) [.ref 56] [] 77 dX7_keep_2 lk_RX7_31 oX7_pack iX7_pack rfl rfl ⟨lb rfl, lb rfl⟩ (lb rfl) ⟨lb rfl, lb rfl⟩ L77 rfl (x_pack f s k hD hB) ?_
  rintro _ g0 ⟨rfl, hg0⟩
  rw [hg0]
  refine A_aload_n dX7_keep_5 rfl 0 rfl ?_
  refine A_callV (M' := MX7_firstSlot) [] [] 77 dX7_keep_6 lk_RX7_35 oX7_firstSlot iX7_firstSlot rfl rfl ⟨lb rfl, lb rfl⟩ (lb rfl) ⟨lb rfl, lb rfl⟩ L77 rfl (x_firstSlot (pkM f s k)) ?_
  rintro _ g0 ⟨rfl, hg0⟩
  rw [hg0]
  refine A_topi (nI (hW (s, k))) (by rw [show hs (pkM f s k 79) = hW (s, k) from hs_c (pkM_w f s k)]) ?_
  refine A_istore_n (lv' := [(2, .int (nI (hW (s, k)))), (0, .ref 77), (1, .ref 56)]) dX7_keep_9 rfl (lb rfl) rfl ?_
  refine A_iconst (v := 0) dX7_keep_10 rfl ?_
  refine A_istore_n (lv' := [(3, .int 0), (2, .int (nI (hW (s, k)))), (0, .ref 77), (1, .ref 56)]) dX7_keep_11 rfl (lb rfl) rfl ?_
  have hK2 : KT (pkM f s k) N P := hK.congr (by rw [pkM_o _ _ _ (by decide)]) (pkM_o _ _ _ (by decide)) (pkM_o _ _ _ (by decide))
  obtain ⟨D, ho⟩ := hK2.2.2.fst hN (hW (s, k))
  have r := lx_keep (pkM f s k) s k hB N P hK2 hN hP (pkM_w f s k) (hW (s, k)) D rfl ho (rt (some (.int (-2))) (pkM f s k)) (fun q => absurd q hl) (fun _ => lx_keepF (pkM f s k) N P hK2 (hW (s, k)) D (by omega)) 0 (by omega) (fun _ h => by omega)
  have hlt : hW (s, k) < 2048 := hs_lt _
  have e0 : (hW (s, k) + 0) % 2048 = hW (s, k) := by rw [Nat.add_zero]; exact Nat.mod_eq_of_lt hlt
  rw [e0] at r
  refine A_sub [0, 1, 2, 3] rfl ?_
  exact r
theorem x_keepA (f : Mem) (s : Sg) (k : Ro) (hD : isD f 56 s k) (hB : wB s k) (N : Nat) (P : Nat → Pt) (hK : KT f N P) (hN : N ≤ 600) (hP : ∀ j, j < N → wB (P j).1 (P j).2) (hl : ¬ anyP N P (s, k)) (h6 : N < 600) : C0 MX7_keep [.ref 77, .ref 56] f (fun r h => r = some (.int (nI N)) ∧ KT h (N + 1) (upN P N (s, k)) ∧ ∀ b, b < 77 ∨ 80 < b → h b = f b) := by
  refine Ct.of (lv := [(0, .ref 77), (1, .ref 56)]) (by decide) (lb rfl) rfl ?_
  refine A_aload_n dX7_keep_0 rfl 0 rfl ?_
  refine A_aload_n dX7_keep_1 rfl 1 rfl ?_
  refine A_callV (M' := MX7_pack) [.ref 56] [] 77 dX7_keep_2 lk_RX7_31 oX7_pack iX7_pack rfl rfl ⟨lb rfl, lb rfl⟩ (lb rfl) ⟨lb rfl, lb rfl⟩ L77 rfl (x_pack f s k hD hB) ?_
  rintro _ g0 ⟨rfl, hg0⟩
  rw [hg0]
  refine A_aload_n dX7_keep_5 rfl 0 rfl ?_
  refine A_callV (M' := MX7_firstSlot) [] [] 77 dX7_keep_6 lk_RX7_35 oX7_firstSlot iX7_firstSlot rfl rfl ⟨lb rfl, lb rfl⟩ (lb rfl) ⟨lb rfl, lb rfl⟩ L77 rfl (x_firstSlot (pkM f s k)) ?_
  rintro _ g0 ⟨rfl, hg0⟩
  rw [hg0]
  refine A_topi (nI (hW (s, k))) (by rw [show hs (pkM f s k 79) = hW (s, k) from hs_c (pkM_w f s k)]) ?_
  refine A_istore_n (lv' := [(2, .int (nI (hW (s, k)))), (0, .ref 77), (1, .ref 56)]) dX7_keep_9 rfl (lb rfl) rfl ?_
  refine A_iconst (v := 0) dX7_keep_10 rfl ?_
  refine A_istore_n (lv' := [(3, .int 0), (2, .int (nI (hW (s, k)))), (0, .ref 77), (1, .ref 56)]) dX7_keep_11 rfl (lb rfl) rfl ?_
  have hK2 : KT (pkM f s k) N P := hK.congr (by rw [pkM_o _ _ _ (by decide)]) (pkM_o _ _ _ (by decide)) (pkM_o _ _ _ (by decide))
  obtain ⟨D, ho⟩ := hK2.2.2.fst hN (hW (s, k))
  have r := lx_keep (pkM f s k) s k hB N P hK2 hN hP (pkM_w f s k) (hW (s, k)) D rfl ho (fun r h => r = some (.int (nI N)) ∧ KT h (N + 1) (upN P N (s, k)) ∧ ∀ b, b < 77 ∨ 80 < b → h b = f b) (fun q => absurd q hl) (fun _ => lx_keepA (pkM f s k) N P hK2 (hW (s, k)) D h6 _ ⟨rfl, kpM_K hK2 h6 (pkM_w f s k) rfl ho, fun b hb => by rw [kpM_o _ _ _ (by omega), pkM_o _ _ _ (by omega)]⟩) 0 (by omega) (fun _ h => by omega)
  have hlt : hW (s, k) < 2048 := hs_lt _
  have e0 : (hW (s, k) + 0) % 2048 = hW (s, k) := by rw [Nat.add_zero]; exact Nat.mod_eq_of_lt hlt
  rw [e0] at r
  refine A_sub [0, 1, 2, 3] rfl ?_
  exact r
