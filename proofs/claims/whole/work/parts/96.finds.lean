/-! the reference finds a picture -/
abbrev lkN (n : Nat) (a b : Ro) : Prop := ∀ y, y < n → a y = b y
theorem lkN_s {n : Nat} {a b : Ro} : lkN (n + 1) a b ↔ (lkN n a b ∧ a n = b n) := by
  constructor
  · intro h; exact ⟨fun y hy => h y (by omega), h n (by omega)⟩
  · rintro ⟨h, e⟩ y hy
    rcases Nat.lt_or_ge y n with q | q
    · exact h y q
    · rw [show y = n by omega]; exact e
def mk (w : Ro) : Nat → Int32
  | 0 => 17
  | n + 1 => 31 * mk w n + w n
def hR (w : Ro) : Nat := (((mk w 52).toUInt32 >>> ((7 : Int32).toUInt32 &&& Int32.toUInt32 31)).toInt32 ^^^ mk w 52).toBitVec.toNat % 2048
theorem hR_lt (w : Ro) : hR w < 2048 := Nat.mod_lt _ (by decide)
theorem hR_v (w : Ro) : (((mk w 52).toUInt32 >>> ((7 : Int32).toUInt32 &&& Int32.toUInt32 31)).toInt32 ^^^ mk w 52) &&& 2047 = nI (hR w) := lo_v _
theorem mk_c {w w' : Ro} : ∀ {n : Nat}, (∀ i, i < n → w i = w' i) → mk w n = mk w' n
  | 0, _ => rfl
  | n + 1, h => by unfold mk; rw [mk_c (n := n) (fun i hi => h i (by omega)), h n (by omega)]
theorem hR_c {w w' : Ro} (h : ∀ i, i < 52 → w i = w' i) : hR w = hR w' := by unfold hR; rw [mk_c h]
def KR (f : Mem) (N : Nat) (P : Nat → Pt) : Prop := f 93 23 = nI N ∧ (∀ j, j < N → ∀ x, x < 52 → f 104 (52 * j + x) = fl (P j) x) ∧ tB (f 108) N (fun j => hR (fl (P j)))
theorem KR.congr {f h : Mem} {N : Nat} {P : Nat → Pt} (q : KR f N P) (e0 : h 93 23 = f 93 23) (e1 : h 104 = f 104) (e2 : h 108 = f 108) : KR h N P := by
  unfold KR; rw [e0, e1, e2]; exact q
theorem no_anyR {g : Ro} {N D a : Nat} {P : Nat → Pt} {v : Pt} (t : tB g N (fun j => hR (fl (P j)))) (hN : N ≤ 600) (ha : a = hR (fl v)) (o : opn g a D) (hn : ∀ e, e < D → ∀ x, 1 ≤ x → x ≤ N → g ((a + e) % 2048) = nI x → ¬ lk (P (x - 1)) v) : ¬ anyP N P v := by
  rintro ⟨j, hj, hl⟩
  have e : a = hR (fl (P j)) := by rw [ha]; exact hR_c (fun i hi => (hl i hi).symm)
  obtain ⟨d, d1, d2⟩ := t.hit hN o hj e
  exact hn d d1 (j + 1) (by omega) (by omega) d2 hl
theorem lc_isLike (f : Mem) (j : Nat) (hj : j < 600) : ∀ x, x ≤ 52 → A (cM MX11_isLike 0 0 layT layT (rt (some (.int (bz (lkN 52 (fun y => f 104 (52 * j + y)) (f 96))))) f)) 4 [(3, .int (nI x)), (2, .int (bz (lkN x (fun y => f 104 (52 * j + y)) (f 96)))), (0, .ref 93), (1, .int (nI j))] [] f := by
  refine up_ind 52 (fun x hi ih => ?_)
  refine A_iload_n dX11_isLike_4 rfl 0 rfl ?_
  refine A_bipush (v := 52) dX11_isLike_5 rfl ?_
  refine A_icmp_ge (tgt := 46) dX11_isLike_7 rfl (fun h7 => ?_) (fun h7 => ?_)
  · rw [show (52 : Int32) = nI 52 from rfl, nI_leI (by omega) (by omega)] at h7
    refine A_iload_n dX11_isLike_46 rfl 1 rfl ?_
    exact A_zret dX11_isLike_47 rfl (bz_01 _) (rti (by first | rw [show x = 52 by omega] | exact h11.trans (bz_f (fun z => bz_0.mp h11 (fun y hy => z y (by omega)))).symm) rfl)
  · rw [show (52 : Int32) = nI 52 from rfl, nI_leI (by omega) (by omega)] at h7
    refine A_iload_n dX11_isLike_10 rfl 1 rfl ?_
    refine A_if_eq (tgt := 46) dX11_isLike_11 rfl (fun h11 => ?_) (fun h11 => ?_)
    · refine A_iload_n dX11_isLike_46 rfl 1 rfl ?_
      exact A_zret dX11_isLike_47 rfl (bz_01 _) (rti (by first | rw [show x = 52 by omega] | exact h11.trans (bz_f (fun z => bz_0.mp h11 (fun y hy => z y (by omega)))).symm) rfl)
    · refine A_aload_n dX11_isLike_14 rfl 2 rfl ?_
      refine A_getR (b := 104) dX11_isLike_15 fo_RX11_40 L93 rfl ?_
      refine A_bipush (v := 52) dX11_isLike_18 rfl ?_
      refine A_iload_n dX11_isLike_20 rfl 3 rfl ?_
      refine A_imul dX11_isLike_21 ?_
      refine A_iload_n dX11_isLike_22 rfl 0 rfl ?_
      refine A_iadd dX11_isLike_23 ?_
      refine A_iaload (52 * j + x) dX11_isLike_24 L104 (by simp only [lit, nI_add, pk_mul]) (by omega) (lb rfl) ?_
      refine A_aload_n dX11_isLike_25 rfl 2 rfl ?_
      refine A_getR (b := 96) dX11_isLike_26 fo_RX11_16 L93 rfl ?_
      refine A_iload_n dX11_isLike_29 rfl 0 rfl ?_
      refine A_iaload x dX11_isLike_30 L96 (by simp only [lit, nI_add, pk_mul]) (by omega) (lb rfl) ?_
      refine A_icmp_ne (tgt := 38) dX11_isLike_31 rfl (fun h31 => ?_) (fun h31 => ?_)
      · refine A_iconst (v := 0) dX11_isLike_38 rfl ?_
        refine A_istore_n (lv' := [(2, .int 0), (3, .int (nI x)), (0, .ref 93), (1, .int (nI j))]) dX11_isLike_39 rfl (lb rfl) rfl ?_
        refine A_iinc (lv' := [(3, .int (nI (x + 1))), (2, .int 0), (0, .ref 93), (1, .int (nI j))]) dX11_isLike_40 1 rfl (nI_add x 1) (lb rfl) rfl ?_
        refine A_goto (tgt := 4) dX11_isLike_43 rfl ?_
        have r := ih (x + 1) (by omega) (by omega)
        rw [show bz (lkN (x + 1) (fun y => f 104 (52 * j + y)) (f 96)) = 0 from bz_f (fun z => h31 (lkN_s.mp z).2)] at r
        refine A_sub [0, 1, 2, 3] rfl ?_
        exact r
      · refine A_iconst (v := 1) dX11_isLike_34 rfl ?_
        refine A_goto (tgt := 39) dX11_isLike_35 rfl ?_
        refine A_istore_n (lv' := [(2, .int 1), (3, .int (nI x)), (0, .ref 93), (1, .int (nI j))]) dX11_isLike_39 rfl (lb rfl) rfl ?_
        refine A_iinc (lv' := [(3, .int (nI (x + 1))), (2, .int 1), (0, .ref 93), (1, .int (nI j))]) dX11_isLike_40 1 rfl (nI_add x 1) (lb rfl) rfl ?_
        refine A_goto (tgt := 4) dX11_isLike_43 rfl ?_
        have r := ih (x + 1) (by omega) (by omega)
        rw [show bz (lkN (x + 1) (fun y => f 104 (52 * j + y)) (f 96)) = 1 from bz_t (lkN_s.mpr ⟨bz_n0.mp h11, h31⟩)] at r
        refine A_sub [0, 1, 2, 3] rfl ?_
        exact r
theorem c_isLike (f : Mem) (j : Nat) (hj : j < 600) : C0 MX11_isLike [.ref 93, .int (nI j)] f (rt (some (.int (bz (lkN 52 (fun y => f 104 (52 * j + y)) (f 96))))) f) := by
  refine Ct.of (lv := [(0, .ref 93), (1, .int (nI j))]) (by decide) (lb rfl) rfl ?_
  refine A_iconst (v := 1) dX11_isLike_0 rfl ?_
  refine A_istore_n (lv' := [(2, .int 1), (0, .ref 93), (1, .int (nI j))]) dX11_isLike_1 rfl (lb rfl) rfl ?_
  refine A_iconst (v := 0) dX11_isLike_2 rfl ?_
  refine A_istore_n (lv' := [(3, .int 0), (2, .int 1), (0, .ref 93), (1, .int (nI j))]) dX11_isLike_3 rfl (lb rfl) rfl ?_
  have r := lc_isLike f j hj 0 (by omega)
  rw [show bz (lkN 0 (fun y => f 104 (52 * j + y)) (f 96)) = 1 from bz_t (fun y hy => absurd hy (by omega))] at r
  refine A_sub [0, 1, 2, 3] rfl ?_
  exact r
theorem lc_mark (f : Mem) (fr tk : Int32) (Q : Option Value → Mem → Prop) (kk : A (cM MX11_finds 0 0 layT layT Q) 44 [(4, .int (nI (hR (f 96)))), (0, .ref 93), (1, .int fr), (2, .int tk)] [] f) : ∀ i, i ≤ 52 → A (cM MX11_finds 0 0 layT layT Q) 6 [(4, .int (nI i)), (3, .int (mk (f 96) i)), (0, .ref 93), (1, .int fr), (2, .int tk)] [] f := by
  refine up_ind 52 (fun i hi ih => ?_)
  refine A_iload dX11_finds_6 0 rfl ?_
  refine A_bipush (v := 52) dX11_finds_8 rfl ?_
  refine A_icmp_ge (tgt := 32) dX11_finds_10 rfl (fun h10 => ?_) (fun h10 => ?_)
  · rw [show (52 : Int32) = nI 52 from rfl, nI_leI (by omega) (by omega)] at h10
    have ei : i = 52 := by omega
    refine A_iload_n dX11_finds_32 rfl 1 rfl ?_
    refine A_bipush (v := 7) dX11_finds_33 rfl ?_
    refine A_iushr dX11_finds_35 ?_
    refine A_iload_n dX11_finds_36 rfl 1 rfl ?_
    refine A_ixor dX11_finds_37 ?_
    refine A_sipush (v := 2047) dX11_finds_38 rfl ?_
    refine A_iand dX11_finds_41 ?_
    refine A_topi (nI (hR (f 96))) (by rw [ei]; exact hR_v _) ?_
    refine A_istore (lv' := [(4, .int (nI (hR (f 96)))), (3, .int (mk (f 96) i)), (0, .ref 93), (1, .int fr), (2, .int tk)]) dX11_finds_42 (lb rfl) rfl ?_
    refine A_sub [0, 2, 3, 4] rfl ?_
    exact kk
  · rw [show (52 : Int32) = nI 52 from rfl, nI_leI (by omega) (by omega)] at h10
    refine A_bipush (v := 31) dX11_finds_13 rfl ?_
    refine A_iload_n dX11_finds_15 rfl 1 rfl ?_
    refine A_imul dX11_finds_16 ?_
    refine A_aload_n dX11_finds_17 rfl 2 rfl ?_
    refine A_getR (b := 96) dX11_finds_18 fo_RX11_16 L93 rfl ?_
    refine A_iload dX11_finds_21 0 rfl ?_
    refine A_iaload i dX11_finds_23 L96 (by simp only [lit, nI_add, pk_mul]) (by omega) (lb rfl) ?_
    refine A_iadd dX11_finds_24 ?_
    refine A_istore_n (lv' := [(3, .int ((31 * (mk (f 96) i)) + (f 96 i))), (4, .int (nI i)), (0, .ref 93), (1, .int fr), (2, .int tk)]) dX11_finds_25 rfl (lb rfl) rfl ?_
    refine A_iinc (lv' := [(4, .int (nI (i + 1))), (3, .int ((31 * (mk (f 96) i)) + (f 96 i))), (0, .ref 93), (1, .int fr), (2, .int tk)]) dX11_finds_26 1 rfl (nI_add i 1) (lb rfl) rfl ?_
    refine A_goto (tgt := 6) dX11_finds_29 rfl ?_
    refine A_sub [0, 1, 2, 3, 4] rfl ?_
    exact ih (i + 1) (by omega) (by omega)
theorem lc_finds (G : Mem) (v : Pt) (N : Nat) (P : Nat → Pt) (hK : KR G N P) (hN : N ≤ 600) (h96 : G 96 = fl v) (a D : Nat) (ha : a = hR (fl v)) (ho : opn (G 108) a D) (fr tk : Int32) (Q : Option Value → Mem → Prop) (kL : anyP N P v → Q none G) (kE : ¬ anyP N P v → A (cM MX11_finds 0 0 layT layT Q) 83 [(4, .int (nI ((a + D) % 2048))), (0, .ref 93), (1, .int fr), (2, .int tk)] [] G) : ∀ e, e ≤ D → (∀ e1, e1 < e → ∀ x, 1 ≤ x → x ≤ N → G 108 ((a + e1) % 2048) = nI x → ¬ lk (P (x - 1)) v) → A (cM MX11_finds 0 0 layT layT Q) 44 [(4, .int (nI ((a + e) % 2048))), (0, .ref 93), (1, .int fr), (2, .int tk)] [] G := by
  refine up_ind D (fun e he ih hn => ?_)
  have hD := ho.1
  obtain ⟨x, x1, x2⟩ := hK.2.2.1 ((a + e) % 2048) (Nat.mod_lt _ (by decide))
  refine A_aload_n dX11_finds_44 rfl 1 rfl ?_
  refine A_getR (b := 108) dX11_finds_45 fo_RX11_52 L93 rfl ?_
  refine A_iload dX11_finds_48 0 rfl ?_
  refine A_iaload ((a + e) % 2048) dX11_finds_50 L108 (rfl) (Nat.mod_lt _ (by decide)) (lb rfl) ?_
  refine A_topi (nI x) (x2) ?_
  refine A_if_le (tgt := 83) dX11_finds_51 rfl (fun h51 => ?_) (fun h51 => ?_)
  · rw [show (0 : Int32) = nI 0 from rfl, nI_leI (by omega) (by decide)] at h51
    have eD : e = D := by
      rcases Nat.lt_or_ge e D with q | q
      · exact absurd (by rw [x2, show x = 0 by omega]; rfl) (ho.2.2 e q)
      · omega
    subst eD
    exact kE (no_anyR hK.2.2 hN ha ho hn)
  · rw [show (0 : Int32) = nI 0 from rfl, nI_leI (by omega) (by decide)] at h51
    have eD : e < D := by
      rcases Nat.lt_or_ge e D with q | q
      · exact q
      · have : e = D := by omega
        rw [this, ho.2.1] at x2
        exact absurd (nI_inj (a := 0) (by decide) (by omega) x2).symm (by omega)
    refine A_aload_n dX11_finds_54 rfl 1 rfl ?_
    refine A_aload_n dX11_finds_55 rfl 1 rfl ?_
    refine A_getR (b := 108) dX11_finds_56 fo_RX11_52 L93 rfl ?_
    refine A_iload dX11_finds_59 0 rfl ?_
    refine A_iaload ((a + e) % 2048) dX11_finds_61 L108 (rfl) (Nat.mod_lt _ (by decide)) (lb rfl) ?_
    refine A_topi (nI x) (x2) ?_
    refine A_iconst (v := 1) dX11_finds_62 rfl ?_
    refine A_isub dX11_finds_63 ?_
    refine A_topi (nI (x - 1)) (by rw [show nI x = nI (x - 1 + 1) by congr 1; omega, nI_pred]) ?_
    refine A_callV (M' := MX11_isLike) [.int (nI (x - 1))] [] 93 dX11_finds_64 lk_RX11_228 oX11_isLike iX11_isLike rfl rfl ⟨lb rfl, lb rfl⟩ (lb rfl) ⟨lb rfl, lb rfl⟩ L93 rfl (c_isLike G (x - 1) (by omega)) ?_
    rintro _ g0 ⟨rfl, hg0⟩
    rw [hg0]
    refine A_topi (bz (lkN 52 (fl (P (x - 1))) (fl v))) (bz_c (by rw [h96]; exact forall_congr' (fun y => imp_congr_right (fun hy => by show (G 104 (52 * (x - 1) + y) = fl v y) ↔ _; rw [hK.2.1 (x - 1) (by omega) y hy])))) ?_
    refine A_if_ne (tgt := 83) dX11_finds_67 rfl (fun h67 => ?_) (fun h67 => ?_)
    · refine A_aload_n dX11_finds_83 rfl 1 rfl ?_
      refine A_getR (b := 108) dX11_finds_84 fo_RX11_52 L93 rfl ?_
      refine A_iload dX11_finds_87 0 rfl ?_
      refine A_iaload ((a + e) % 2048) dX11_finds_89 L108 (rfl) (Nat.mod_lt _ (by decide)) (lb rfl) ?_
      refine A_topi (nI x) (x2) ?_
      refine A_if_ne (tgt := 208) dX11_finds_90 rfl (fun h90 => ?_) (fun h90 => by exact absurd ((nI_z (by omega)).mp h90) (by omega))
      exact A_vret dX11_finds_208 rfl (kL ⟨x - 1, by omega, (show lkN 52 (fl (P (x - 1))) (fl v) from bz_n0.mp h67)⟩)
    · refine A_iload dX11_finds_70 0 rfl ?_
      refine A_iconst (v := 1) dX11_finds_72 rfl ?_
      refine A_iadd dX11_finds_73 ?_
      refine A_sipush (v := 2047) dX11_finds_74 rfl ?_
      refine A_iand dX11_finds_77 ?_
      refine A_topi (nI ((a + (e + 1)) % 2048)) (nxt a e) ?_
      refine A_istore (lv' := [(4, .int (nI ((a + (e + 1)) % 2048))), (0, .ref 93), (1, .int fr), (2, .int tk)]) dX11_finds_78 (lb rfl) rfl ?_
      refine A_goto (tgt := 44) dX11_finds_80 rfl ?_
      refine A_sub [0, 1, 2, 3] rfl ?_
      exact ih (e + 1) (by omega) (by omega) (fun e1 he1 y y1 y2 y3 => by rcases Nat.lt_or_ge e1 e with q | q; exact hn e1 q y y1 y2 y3; rw [show e1 = e by omega, x2] at y3; rw [← nI_inj (by omega) (by omega) y3]; exact (show ¬ lkN 52 (fl (P (x - 1))) (fl v) from bz_0.mp h67))
theorem lc_findsF (G : Mem) (N : Nat) (P : Nat → Pt) (hK : KR G N P) (a D : Nat) (ho : opn (G 108) a D) (fr tk : Int32) (hN : N = 600) : A (cM MX11_finds 0 0 layT layT (rt none (u2 G 93 24 0))) 83 [(4, .int (nI ((a + D) % 2048))), (0, .ref 93), (1, .int fr), (2, .int tk)] [] G := by
  refine A_aload_n dX11_finds_83 rfl 1 rfl ?_
  refine A_getR (b := 108) dX11_finds_84 fo_RX11_52 L93 rfl ?_
  refine A_iload dX11_finds_87 0 rfl ?_
  refine A_iaload ((a + D) % 2048) dX11_finds_89 L108 (rfl) (Nat.mod_lt _ (by decide)) (lb rfl) ?_
  refine A_topi 0 ho.2.1 ?_
  refine A_if_ne (tgt := 208) dX11_finds_90 rfl (fun h90 => by exact absurd rfl h90) (fun h90 => ?_)
  refine A_aload_n dX11_finds_93 rfl 1 rfl ?_
  refine A_aload_n dX11_finds_94 rfl 1 rfl ?_
  refine A_getI dX11_finds_95 fo_RX11_231 L93 rfl ?_
  refine A_topi (nI N) hK.1 ?_
  refine A_sipush (v := 600) dX11_finds_98 rfl ?_
  refine A_icmp_ge (tgt := 108) dX11_finds_101 rfl (fun h101 => ?_) (fun h101 => by exact absurd (by rw [show (600 : Int32) = nI 600 from rfl, nI_leI (by decide) (by omega)]; omega) h101)
  refine A_iconst (v := 0) dX11_finds_108 rfl ?_
  refine A_putZ dX11_finds_109 fo_RX11_234 L93 rfl (.inl rfl) ?_
  refine A_aload_n dX11_finds_112 rfl 1 rfl ?_
  refine A_getI dX11_finds_113 fo_RX11_234 L93 rfl ?_
  refine A_topi (0) (by simp [u2, ur, upd]) ?_
  refine A_if_eq (tgt := 208) dX11_finds_116 rfl (fun h116 => ?_) (fun h116 => by exact absurd rfl h116)
  exact A_vret dX11_finds_208 rfl (⟨rfl, rfl⟩)
def fM1 (G : Mem) (N x : Nat) : Mem := gt_cpy (u2 (u2 G 93 24 1) 108 x (nI (N + 1))) 96 0 104 (52 * N) 52
def fM (G : Mem) (N x : Nat) (fr tk dd : Int32) : Mem := u2 (u2 (u2 (u2 (fM1 G N x) 105 N fr) 106 N tk) 107 N dd) 93 23 (nI (N + 1))
theorem fM1_o (G : Mem) (N x : Nat) {b : Nat} (h1 : b ≠ 93) (h2 : b ≠ 104) (h3 : b ≠ 108) : fM1 G N x b = G b := by unfold fM1; rw [gt_cpy, ur_n _ _ h2, u2_n _ _ _ h3, u2_n _ _ _ h1]
theorem fM1_93 (G : Mem) (N x : Nat) : fM1 G N x 93 = upd (G 93) 24 1 := by unfold fM1; rw [gt_cpy, ur_n _ _ (by decide), u2_n _ _ _ (by decide), u2, ur_s]
theorem fM1_104 (G : Mem) (N x : Nat) : fM1 G N x 104 = va_cpy (G 96) (G 104) 0 (52 * N) 52 := by unfold fM1; rw [gt_cpy, ur_s, u2_n _ _ _ (by decide), u2_n _ _ _ (by decide), u2_n _ _ _ (by decide), u2_n _ _ _ (by decide)]
theorem fM1_108 (G : Mem) (N x : Nat) : fM1 G N x 108 = upd (G 108) x (nI (N + 1)) := by unfold fM1; rw [gt_cpy, ur_n _ _ (by decide), u2, ur_s, u2_n _ _ _ (by decide)]
theorem fM_o (G : Mem) (N x : Nat) (fr tk dd : Int32) {b : Nat} (h1 : b ≠ 93) (h : b < 104 ∨ 108 < b) : fM G N x fr tk dd b = G b := by unfold fM; rw [u2_n _ _ _ h1, u2_n _ _ _ (by omega), u2_n _ _ _ (by omega), u2_n _ _ _ (by omega), fM1_o G N x h1 (by omega) (by omega)]
theorem fM_93 (G : Mem) (N x : Nat) (fr tk dd : Int32) : fM G N x fr tk dd 93 = upd (upd (G 93) 24 1) 23 (nI (N + 1)) := by unfold fM; rw [u2, ur_s, u2_n _ _ _ (by decide), u2_n _ _ _ (by decide), u2_n _ _ _ (by decide), fM1_93]
theorem fM_K {G : Mem} {N : Nat} {P : Nat → Pt} (hK : KR G N P) (hN : N < 600) {v : Pt} (h96 : G 96 = fl v) {a D : Nat} (ha : a = hR (fl v)) (ho : opn (G 108) a D) (fr tk dd : Int32) : KR (fM G N ((a + D) % 2048) fr tk dd) (N + 1) (upN P N v) := by
  refine ⟨by rw [fM_93, upd_s], fun j hj x hx => ?_, ?_⟩
  · unfold fM
    rw [u2_n _ _ _ (by decide), u2_n _ _ _ (by decide), u2_n _ _ _ (by decide), u2_n _ _ _ (by decide), fM1_104]
    by_cases e : j = N
    · rw [e, upN_s, pk_cpy_in (by omega) (by omega), show 0 + (52 * N + x - 52 * N) = x by omega, h96]
    · rw [upN_n _ _ e, pk_cpy_out (by omega)]; exact hK.2.1 j (by omega) x hx
  · unfold fM
    rw [u2_n _ _ _ (by decide), u2_n _ _ _ (by decide), u2_n _ _ _ (by decide), u2_n _ _ _ (by decide), fM1_108]
    have t := hK.2.2.ins (by omega) ho
    rw [show upN (fun j => hR (fl (P j))) N a = (fun j => hR (fl (upN P N v j))) by
      funext j; unfold upN; split
      · exact ha
      · rfl] at t
    exact t
theorem lc_findsA0 (G : Mem) (N : Nat) (P : Nat → Pt) (hK : KR G N P) (a D : Nat) (ho : opn (G 108) a D) (hN : N < 600) (Q : Option Value → Mem → Prop) (hQ : Q none (fM G N ((a + D) % 2048) (-1) (-1) (0))) : A (cM MX11_finds 0 0 layT layT Q) 83 [(4, .int (nI ((a + D) % 2048))), (0, .ref 93), (1, .int (-1)), (2, .int (-1))] [] G := by
  refine A_aload_n dX11_finds_83 rfl 1 rfl ?_
  refine A_getR (b := 108) dX11_finds_84 fo_RX11_52 L93 rfl ?_
  refine A_iload dX11_finds_87 0 rfl ?_
  refine A_iaload ((a + D) % 2048) dX11_finds_89 L108 (rfl) (Nat.mod_lt _ (by decide)) (lb rfl) ?_
  refine A_topi 0 ho.2.1 ?_
  refine A_if_ne (tgt := 208) dX11_finds_90 rfl (fun h90 => by exact absurd rfl h90) (fun h90 => ?_)
  refine A_aload_n dX11_finds_93 rfl 1 rfl ?_
  refine A_aload_n dX11_finds_94 rfl 1 rfl ?_
  refine A_getI dX11_finds_95 fo_RX11_231 L93 rfl ?_
  refine A_topi (nI N) hK.1 ?_
  refine A_sipush (v := 600) dX11_finds_98 rfl ?_
  refine A_icmp_ge (tgt := 108) dX11_finds_101 rfl (fun h101 => by exact absurd h101 (fun q => by rw [show (600 : Int32) = nI 600 from rfl, nI_leI (by decide) (by omega)] at q; omega)) (fun h101 => ?_)
  refine A_iconst (v := 1) dX11_finds_104 rfl ?_
  refine A_goto (tgt := 109) dX11_finds_105 rfl ?_
  refine A_putZ dX11_finds_109 fo_RX11_234 L93 rfl (.inr rfl) ?_
  refine A_aload_n dX11_finds_112 rfl 1 rfl ?_
  refine A_getI dX11_finds_113 fo_RX11_234 L93 rfl ?_
  refine A_topi 1 (by rw [u2, ur_s, upd_s]) ?_
  refine A_if_eq (tgt := 208) dX11_finds_116 rfl (fun h116 => by exact absurd h116 (by decide)) (fun h116 => ?_)
  refine A_aload_n dX11_finds_119 rfl 1 rfl ?_
  refine A_getR (b := 108) dX11_finds_120 fo_RX11_52 L93 rfl ?_
  refine A_iload dX11_finds_123 0 rfl ?_
  refine A_aload_n dX11_finds_125 rfl 1 rfl ?_
  refine A_getI dX11_finds_126 fo_RX11_231 L93 rfl ?_
  refine A_topi (nI N) (by rw [u2, ur_s, upd_n _ _ (by decide)]; exact hK.1) ?_
  refine A_iconst (v := 1) dX11_finds_129 rfl ?_
  refine A_iadd dX11_finds_130 ?_
  refine A_topi (nI (N + 1)) (nI_succ N).symm ?_
  refine A_iastore ((a + D) % 2048) dX11_finds_131 L108 (rfl) (Nat.mod_lt _ (by decide)) (lb rfl) ?_
  refine A_aload_n dX11_finds_132 rfl 1 rfl ?_
  refine A_getR (b := 96) dX11_finds_133 fo_RX11_16 L93 rfl ?_
  refine A_iconst (v := 0) dX11_finds_136 rfl ?_
  refine A_aload_n dX11_finds_137 rfl 1 rfl ?_
  refine A_getR (b := 104) dX11_finds_138 fo_RX11_40 L93 rfl ?_
  refine A_bipush (v := 52) dX11_finds_141 rfl ?_
  refine A_aload_n dX11_finds_143 rfl 1 rfl ?_
  refine A_getI dX11_finds_144 fo_RX11_231 L93 rfl ?_
  refine A_topi (nI N) (by rw [u2_n _ _ _ (by decide), u2, ur_s, upd_n _ _ (by decide)]; exact hK.1) ?_
  refine A_imul dX11_finds_147 ?_
  refine A_topi (nI (52 * N)) (pk_mul 52 N) ?_
  refine A_bipush (v := 52) dX11_finds_148 rfl ?_
  refine A_callS (M' := MX11_copies) [.ref 96, .int 0, .ref 104, .int (nI (52 * N)), .int 52] [] dX11_finds_150 lk_RX11_146 oX11_copies sX11_copies rfl rfl ⟨lb rfl, lb rfl⟩ (lb rfl) ⟨lb rfl, lb rfl⟩ (c_copies 0 (52 * N) 52 _ rfl rfl (by decide) (by decide) (by omega) (by decide) (by decide)) ?_
  rintro _ g0 ⟨rfl, hg0⟩
  rw [show g0 = fM1 G N ((a + D) % 2048) from hg0]
  refine A_aload_n dX11_finds_153 rfl 1 rfl ?_
  refine A_getR (b := 105) dX11_finds_154 fo_RX11_43 L93 rfl ?_
  refine A_aload_n dX11_finds_157 rfl 1 rfl ?_
  refine A_getI dX11_finds_158 fo_RX11_231 L93 rfl ?_
  refine A_topi (nI N) (by (try simp only [u2_n _ _ _ (show (93 : Nat) ≠ 105 by decide), u2_n _ _ _ (show (93 : Nat) ≠ 106 by decide), u2_n _ _ _ (show (93 : Nat) ≠ 107 by decide)]); rw [fM1_93, upd_n _ _ (by decide)]; exact hK.1) ?_
  refine A_iload_n dX11_finds_161 rfl 2 rfl ?_
  refine A_iastore N dX11_finds_162 L105 (rfl) (by omega) (lb rfl) ?_
  refine A_aload_n dX11_finds_163 rfl 1 rfl ?_
  refine A_getR (b := 106) dX11_finds_164 fo_RX11_46 L93 rfl ?_
  refine A_aload_n dX11_finds_167 rfl 1 rfl ?_
  refine A_getI dX11_finds_168 fo_RX11_231 L93 rfl ?_
  refine A_topi (nI N) (by (try simp only [u2_n _ _ _ (show (93 : Nat) ≠ 105 by decide), u2_n _ _ _ (show (93 : Nat) ≠ 106 by decide), u2_n _ _ _ (show (93 : Nat) ≠ 107 by decide)]); rw [fM1_93, upd_n _ _ (by decide)]; exact hK.1) ?_
  refine A_iload_n dX11_finds_171 rfl 3 rfl ?_
  refine A_iastore N dX11_finds_172 L106 (rfl) (by omega) (lb rfl) ?_
  refine A_aload_n dX11_finds_173 rfl 1 rfl ?_
  refine A_getR (b := 107) dX11_finds_174 fo_RX11_49 L93 rfl ?_
  refine A_aload_n dX11_finds_177 rfl 1 rfl ?_
  refine A_getI dX11_finds_178 fo_RX11_231 L93 rfl ?_
  refine A_topi (nI N) (by (try simp only [u2_n _ _ _ (show (93 : Nat) ≠ 105 by decide), u2_n _ _ _ (show (93 : Nat) ≠ 106 by decide), u2_n _ _ _ (show (93 : Nat) ≠ 107 by decide)]); rw [fM1_93, upd_n _ _ (by decide)]; exact hK.1) ?_
  refine A_iload_n dX11_finds_181 rfl 2 rfl ?_
  refine A_if_ge (tgt := 189) dX11_finds_182 rfl (fun h182 => by exact absurd h182 (by decide)) (fun h182 => ?_)
  refine A_iconst (v := 0) dX11_finds_185 rfl ?_
  refine A_goto (tgt := 197) dX11_finds_186 rfl ?_
  refine A_iastore N dX11_finds_197 L107 (rfl) (by omega) (lb rfl) ?_
  refine A_aload_n dX11_finds_198 rfl 1 rfl ?_
  refine A_dup dX11_finds_199 rfl ?_
  refine A_getI dX11_finds_200 fo_RX11_231 L93 rfl ?_
  refine A_topi (nI N) (by (try simp only [u2_n _ _ _ (show (93 : Nat) ≠ 105 by decide), u2_n _ _ _ (show (93 : Nat) ≠ 106 by decide), u2_n _ _ _ (show (93 : Nat) ≠ 107 by decide)]); rw [fM1_93, upd_n _ _ (by decide)]; exact hK.1) ?_
  refine A_iconst (v := 1) dX11_finds_203 rfl ?_
  refine A_iadd dX11_finds_204 ?_
  refine A_topi (nI (N + 1)) (nI_succ N).symm ?_
  refine A_putI dX11_finds_205 fo_RX11_231 L93 rfl ?_
  exact A_vret dX11_finds_208 rfl (hQ)
theorem lc_findsA1 (G : Mem) (N : Nat) (P : Nat → Pt) (hK : KR G N P) (a D : Nat) (ho : opn (G 108) a D) (hN : N < 600) (i t : Nat) (hi : i < 600) (Q : Option Value → Mem → Prop) (hQ : Q none (fM G N ((a + D) % 2048) (nI i) (nI t) (G 107 i + 1))) : A (cM MX11_finds 0 0 layT layT Q) 83 [(4, .int (nI ((a + D) % 2048))), (0, .ref 93), (1, .int (nI i)), (2, .int (nI t))] [] G := by
  refine A_aload_n dX11_finds_83 rfl 1 rfl ?_
  refine A_getR (b := 108) dX11_finds_84 fo_RX11_52 L93 rfl ?_
  refine A_iload dX11_finds_87 0 rfl ?_
  refine A_iaload ((a + D) % 2048) dX11_finds_89 L108 (rfl) (Nat.mod_lt _ (by decide)) (lb rfl) ?_
  refine A_topi 0 ho.2.1 ?_
  refine A_if_ne (tgt := 208) dX11_finds_90 rfl (fun h90 => by exact absurd rfl h90) (fun h90 => ?_)
  refine A_aload_n dX11_finds_93 rfl 1 rfl ?_
  refine A_aload_n dX11_finds_94 rfl 1 rfl ?_
  refine A_getI dX11_finds_95 fo_RX11_231 L93 rfl ?_
  refine A_topi (nI N) hK.1 ?_
  refine A_sipush (v := 600) dX11_finds_98 rfl ?_
  refine A_icmp_ge (tgt := 108) dX11_finds_101 rfl (fun h101 => by exact absurd h101 (fun q => by rw [show (600 : Int32) = nI 600 from rfl, nI_leI (by decide) (by omega)] at q; omega)) (fun h101 => ?_)
  refine A_iconst (v := 1) dX11_finds_104 rfl ?_
  refine A_goto (tgt := 109) dX11_finds_105 rfl ?_
  refine A_putZ dX11_finds_109 fo_RX11_234 L93 rfl (.inr rfl) ?_
  refine A_aload_n dX11_finds_112 rfl 1 rfl ?_
  refine A_getI dX11_finds_113 fo_RX11_234 L93 rfl ?_
  refine A_topi 1 (by rw [u2, ur_s, upd_s]) ?_
  refine A_if_eq (tgt := 208) dX11_finds_116 rfl (fun h116 => by exact absurd h116 (by decide)) (fun h116 => ?_)
  refine A_aload_n dX11_finds_119 rfl 1 rfl ?_
  refine A_getR (b := 108) dX11_finds_120 fo_RX11_52 L93 rfl ?_
  refine A_iload dX11_finds_123 0 rfl ?_
  refine A_aload_n dX11_finds_125 rfl 1 rfl ?_
  refine A_getI dX11_finds_126 fo_RX11_231 L93 rfl ?_
  refine A_topi (nI N) (by rw [u2, ur_s, upd_n _ _ (by decide)]; exact hK.1) ?_
  refine A_iconst (v := 1) dX11_finds_129 rfl ?_
  refine A_iadd dX11_finds_130 ?_
  refine A_topi (nI (N + 1)) (nI_succ N).symm ?_
  refine A_iastore ((a + D) % 2048) dX11_finds_131 L108 (rfl) (Nat.mod_lt _ (by decide)) (lb rfl) ?_
  refine A_aload_n dX11_finds_132 rfl 1 rfl ?_
  refine A_getR (b := 96) dX11_finds_133 fo_RX11_16 L93 rfl ?_
  refine A_iconst (v := 0) dX11_finds_136 rfl ?_
  refine A_aload_n dX11_finds_137 rfl 1 rfl ?_
  refine A_getR (b := 104) dX11_finds_138 fo_RX11_40 L93 rfl ?_
  refine A_bipush (v := 52) dX11_finds_141 rfl ?_
  refine A_aload_n dX11_finds_143 rfl 1 rfl ?_
  refine A_getI dX11_finds_144 fo_RX11_231 L93 rfl ?_
  refine A_topi (nI N) (by rw [u2_n _ _ _ (by decide), u2, ur_s, upd_n _ _ (by decide)]; exact hK.1) ?_
  refine A_imul dX11_finds_147 ?_
  refine A_topi (nI (52 * N)) (pk_mul 52 N) ?_
  refine A_bipush (v := 52) dX11_finds_148 rfl ?_
  refine A_callS (M' := MX11_copies) [.ref 96, .int 0, .ref 104, .int (nI (52 * N)), .int 52] [] dX11_finds_150 lk_RX11_146 oX11_copies sX11_copies rfl rfl ⟨lb rfl, lb rfl⟩ (lb rfl) ⟨lb rfl, lb rfl⟩ (c_copies 0 (52 * N) 52 _ rfl rfl (by decide) (by decide) (by omega) (by decide) (by decide)) ?_
  rintro _ g0 ⟨rfl, hg0⟩
  rw [show g0 = fM1 G N ((a + D) % 2048) from hg0]
  refine A_aload_n dX11_finds_153 rfl 1 rfl ?_
  refine A_getR (b := 105) dX11_finds_154 fo_RX11_43 L93 rfl ?_
  refine A_aload_n dX11_finds_157 rfl 1 rfl ?_
  refine A_getI dX11_finds_158 fo_RX11_231 L93 rfl ?_
  refine A_topi (nI N) (by (try simp only [u2_n _ _ _ (show (93 : Nat) ≠ 105 by decide), u2_n _ _ _ (show (93 : Nat) ≠ 106 by decide), u2_n _ _ _ (show (93 : Nat) ≠ 107 by decide)]); rw [fM1_93, upd_n _ _ (by decide)]; exact hK.1) ?_
  refine A_iload_n dX11_finds_161 rfl 2 rfl ?_
  refine A_iastore N dX11_finds_162 L105 (rfl) (by omega) (lb rfl) ?_
  refine A_aload_n dX11_finds_163 rfl 1 rfl ?_
  refine A_getR (b := 106) dX11_finds_164 fo_RX11_46 L93 rfl ?_
  refine A_aload_n dX11_finds_167 rfl 1 rfl ?_
  refine A_getI dX11_finds_168 fo_RX11_231 L93 rfl ?_
  refine A_topi (nI N) (by (try simp only [u2_n _ _ _ (show (93 : Nat) ≠ 105 by decide), u2_n _ _ _ (show (93 : Nat) ≠ 106 by decide), u2_n _ _ _ (show (93 : Nat) ≠ 107 by decide)]); rw [fM1_93, upd_n _ _ (by decide)]; exact hK.1) ?_
  refine A_iload_n dX11_finds_171 rfl 3 rfl ?_
  refine A_iastore N dX11_finds_172 L106 (rfl) (by omega) (lb rfl) ?_
  refine A_aload_n dX11_finds_173 rfl 1 rfl ?_
  refine A_getR (b := 107) dX11_finds_174 fo_RX11_49 L93 rfl ?_
  refine A_aload_n dX11_finds_177 rfl 1 rfl ?_
  refine A_getI dX11_finds_178 fo_RX11_231 L93 rfl ?_
  refine A_topi (nI N) (by (try simp only [u2_n _ _ _ (show (93 : Nat) ≠ 105 by decide), u2_n _ _ _ (show (93 : Nat) ≠ 106 by decide), u2_n _ _ _ (show (93 : Nat) ≠ 107 by decide)]); rw [fM1_93, upd_n _ _ (by decide)]; exact hK.1) ?_
  refine A_iload_n dX11_finds_181 rfl 2 rfl ?_
  refine A_if_ge (tgt := 189) dX11_finds_182 rfl (fun h182 => ?_) (fun h182 => by exact absurd (nI_ge0 (by omega)) h182)
  refine A_aload_n dX11_finds_189 rfl 1 rfl ?_
  refine A_getR (b := 107) dX11_finds_190 fo_RX11_49 L93 rfl ?_
  refine A_iload_n dX11_finds_193 rfl 2 rfl ?_
  refine A_iaload i dX11_finds_194 L107 (rfl) (by omega) (lb rfl) ?_
  refine A_topi (G 107 i) (by rw [u2_n _ _ _ (by decide), u2_n _ _ _ (by decide), fM1_o _ _ _ (by decide) (by decide) (by decide)]) ?_
  refine A_iconst (v := 1) dX11_finds_195 rfl ?_
  refine A_iadd dX11_finds_196 ?_
  refine A_iastore N dX11_finds_197 L107 (rfl) (by omega) (lb rfl) ?_
  refine A_aload_n dX11_finds_198 rfl 1 rfl ?_
  refine A_dup dX11_finds_199 rfl ?_
  refine A_getI dX11_finds_200 fo_RX11_231 L93 rfl ?_
  refine A_topi (nI N) (by (try simp only [u2_n _ _ _ (show (93 : Nat) ≠ 105 by decide), u2_n _ _ _ (show (93 : Nat) ≠ 106 by decide), u2_n _ _ _ (show (93 : Nat) ≠ 107 by decide)]); rw [fM1_93, upd_n _ _ (by decide)]; exact hK.1) ?_
  refine A_iconst (v := 1) dX11_finds_203 rfl ?_
  refine A_iadd dX11_finds_204 ?_
  refine A_topi (nI (N + 1)) (nI_succ N).symm ?_
  refine A_putI dX11_finds_205 fo_RX11_231 L93 rfl ?_
  exact A_vret dX11_finds_208 rfl (hQ)
