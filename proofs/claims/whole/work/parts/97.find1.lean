/-! the reference finds all -/
theorem fM_x (G : Mem) (N x : Nat) (fr tk dd : Int32) : fM G N x fr tk dd 105 = upd (G 105) N fr ∧ fM G N x fr tk dd 106 = upd (G 106) N tk ∧ fM G N x fr tk dd 107 = upd (G 107) N dd := by
  unfold fM
  refine ⟨?_, ?_, ?_⟩
  · rw [u2_n _ _ _ (by decide), u2_n _ _ _ (by decide), u2_n _ _ _ (by decide), u2, ur_s, fM1_o _ _ _ (by decide) (by decide) (by decide)]
  · rw [u2_n _ _ _ (by decide), u2_n _ _ _ (by decide), u2, ur_s, u2_n _ _ _ (by decide), fM1_o _ _ _ (by decide) (by decide) (by decide)]
  · rw [u2_n _ _ _ (by decide), u2, ur_s, u2_n _ _ _ (by decide), u2_n _ _ _ (by decide), fM1_o _ _ _ (by decide) (by decide) (by decide)]
def fdP (f : Mem) (N : Nat) (P : Nat → Pt) (v : Pt) (fr tk dd : Int32) : Option Value → Mem → Prop := fun r h => r = none ∧ KR h (N + 1) (upN P N v) ∧ h 93 = upd (upd (f 93) 24 1) 23 (nI (N + 1)) ∧ h 105 = upd (f 105) N fr ∧ h 106 = upd (f 106) N tk ∧ h 107 = upd (f 107) N dd ∧ ∀ b, b ≠ 93 → (b < 104 ∨ 108 < b) → h b = f b
theorem fd_of {G : Mem} {N : Nat} {P : Nat → Pt} (hK : KR G N P) (hN : N < 600) {v : Pt} (h96 : G 96 = fl v) {a D : Nat} (ha : a = hR (fl v)) (ho : opn (G 108) a D) (fr tk dd : Int32) : fdP G N P v fr tk dd none (fM G N ((a + D) % 2048) fr tk dd) :=
  ⟨rfl, fM_K hK hN h96 ha ho fr tk dd, fM_93 .., (fM_x ..).1, (fM_x ..).2.1, (fM_x ..).2.2, fun b b1 b2 => fM_o G N _ fr tk dd b1 b2⟩
theorem c_findsL (f : Mem) (v : Pt) (N : Nat) (P : Nat → Pt) (hK : KR f N P) (hN : N ≤ 600) (h96 : f 96 = fl v) (fr tk : Int32) (hl : anyP N P v) : C0 MX11_finds [.ref 93, .int fr, .int tk] f (rt none f) := by
  refine Ct.of (lv := [(0, .ref 93), (1, .int fr), (2, .int tk)]) (by decide) (lb rfl) rfl ?_
  refine A_bipush (v := 17) dX11_finds_0 rfl ?_
  refine A_istore_n (lv' := [(3, .int 17), (0, .ref 93), (1, .int fr), (2, .int tk)]) dX11_finds_2 rfl (lb rfl) rfl ?_
  refine A_iconst (v := 0) dX11_finds_3 rfl ?_
  refine A_istore (lv' := [(4, .int 0), (3, .int 17), (0, .ref 93), (1, .int fr), (2, .int tk)]) dX11_finds_4 (lb rfl) rfl ?_
  obtain ⟨D, ho⟩ := hK.2.2.fst hN (hR (fl v))
  have r := lc_finds f v N P hK hN h96 (hR (fl v)) D rfl ho fr tk (rt none f) (fun _ => ⟨rfl, rfl⟩) (fun q => absurd hl q) 0 (by omega) (fun _ h => by omega)
  have hlt : hR (fl v) < 2048 := hR_lt _
  have e0 : (hR (fl v) + 0) % 2048 = hR (fl v) := by rw [Nat.add_zero]; exact Nat.mod_eq_of_lt hlt
  rw [e0] at r
  rw [show fl v = f 96 from h96.symm] at r
  refine A_sub [0, 1, 2, 3, 4] rfl ?_
  exact lc_mark f fr tk (rt none f) r 0 (by omega)
theorem c_findsF (f : Mem) (v : Pt) (N : Nat) (P : Nat → Pt) (hK : KR f N P) (hN : N ≤ 600) (h96 : f 96 = fl v) (fr tk : Int32) (hl : ¬ anyP N P v) (h6 : ¬ N < 600) : C0 MX11_finds [.ref 93, .int fr, .int tk] f (rt none (u2 f 93 24 0)) := by
  refine Ct.of (lv := [(0, .ref 93), (1, .int fr), (2, .int tk)]) (by decide) (lb rfl) rfl ?_
  refine A_bipush (v := 17) dX11_finds_0 rfl ?_
  refine A_istore_n (lv' := [(3, .int 17), (0, .ref 93), (1, .int fr), (2, .int tk)]) dX11_finds_2 rfl (lb rfl) rfl ?_
  refine A_iconst (v := 0) dX11_finds_3 rfl ?_
  refine A_istore (lv' := [(4, .int 0), (3, .int 17), (0, .ref 93), (1, .int fr), (2, .int tk)]) dX11_finds_4 (lb rfl) rfl ?_
  obtain ⟨D, ho⟩ := hK.2.2.fst hN (hR (fl v))
  have r := lc_finds f v N P hK hN h96 (hR (fl v)) D rfl ho fr tk (rt none (u2 f 93 24 0)) (fun q => absurd q hl) (fun _ => lc_findsF f N P hK (hR (fl v)) D ho fr tk (by omega)) 0 (by omega) (fun _ h => by omega)
  have hlt : hR (fl v) < 2048 := hR_lt _
  have e0 : (hR (fl v) + 0) % 2048 = hR (fl v) := by rw [Nat.add_zero]; exact Nat.mod_eq_of_lt hlt
  rw [e0] at r
  rw [show fl v = f 96 from h96.symm] at r
  refine A_sub [0, 1, 2, 3, 4] rfl ?_
  exact lc_mark f fr tk (rt none (u2 f 93 24 0)) r 0 (by omega)
theorem c_findsA0 (f : Mem) (v : Pt) (N : Nat) (P : Nat → Pt) (hK : KR f N P) (hN : N ≤ 600) (h96 : f 96 = fl v) (hl : ¬ anyP N P v) (h6 : N < 600) : C0 MX11_finds [.ref 93, .int (-1), .int (-1)] f (fdP f N P v (-1) (-1) 0) := by
  refine Ct.of (lv := [(0, .ref 93), (1, .int (-1)), (2, .int (-1))]) (by decide) (lb rfl) rfl ?_
  refine A_bipush (v := 17) dX11_finds_0 rfl ?_
  refine A_istore_n (lv' := [(3, .int 17), (0, .ref 93), (1, .int (-1)), (2, .int (-1))]) dX11_finds_2 rfl (lb rfl) rfl ?_
  refine A_iconst (v := 0) dX11_finds_3 rfl ?_
  refine A_istore (lv' := [(4, .int 0), (3, .int 17), (0, .ref 93), (1, .int (-1)), (2, .int (-1))]) dX11_finds_4 (lb rfl) rfl ?_
  obtain ⟨D, ho⟩ := hK.2.2.fst hN (hR (fl v))
  have r := lc_finds f v N P hK hN h96 (hR (fl v)) D rfl ho (-1) (-1) (fdP f N P v (-1) (-1) 0) (fun q => absurd q hl) (fun _ => lc_findsA0 f N P hK (hR (fl v)) D ho h6 _ (fd_of hK h6 h96 rfl ho _ _ _)) 0 (by omega) (fun _ h => by omega)
  have hlt : hR (fl v) < 2048 := hR_lt _
  have e0 : (hR (fl v) + 0) % 2048 = hR (fl v) := by rw [Nat.add_zero]; exact Nat.mod_eq_of_lt hlt
  rw [e0] at r
  rw [show fl v = f 96 from h96.symm] at r
  refine A_sub [0, 1, 2, 3, 4] rfl ?_
  exact lc_mark f (-1) (-1) (fdP f N P v (-1) (-1) 0) r 0 (by omega)
theorem c_findsA1 (f : Mem) (v : Pt) (N : Nat) (P : Nat → Pt) (hK : KR f N P) (hN : N ≤ 600) (h96 : f 96 = fl v) (i t : Nat) (hi : i < 600) (hl : ¬ anyP N P v) (h6 : N < 600) : C0 MX11_finds [.ref 93, .int (nI i), .int (nI t)] f (fdP f N P v (nI i) (nI t) (f 107 i + 1)) := by
  refine Ct.of (lv := [(0, .ref 93), (1, .int (nI i)), (2, .int (nI t))]) (by decide) (lb rfl) rfl ?_
  refine A_bipush (v := 17) dX11_finds_0 rfl ?_
  refine A_istore_n (lv' := [(3, .int 17), (0, .ref 93), (1, .int (nI i)), (2, .int (nI t))]) dX11_finds_2 rfl (lb rfl) rfl ?_
  refine A_iconst (v := 0) dX11_finds_3 rfl ?_
  refine A_istore (lv' := [(4, .int 0), (3, .int 17), (0, .ref 93), (1, .int (nI i)), (2, .int (nI t))]) dX11_finds_4 (lb rfl) rfl ?_
  obtain ⟨D, ho⟩ := hK.2.2.fst hN (hR (fl v))
  have r := lc_finds f v N P hK hN h96 (hR (fl v)) D rfl ho (nI i) (nI t) (fdP f N P v (nI i) (nI t) (f 107 i + 1)) (fun q => absurd q hl) (fun _ => lc_findsA1 f N P hK (hR (fl v)) D ho h6 i t hi _ (fd_of hK h6 h96 rfl ho _ _ _)) 0 (by omega) (fun _ h => by omega)
  have hlt : hR (fl v) < 2048 := hR_lt _
  have e0 : (hR (fl v) + 0) % 2048 = hR (fl v) := by rw [Nat.add_zero]; exact Nat.mod_eq_of_lt hlt
  rw [e0] at r
  rw [show fl v = f 96 from h96.symm] at r
  refine A_sub [0, 1, 2, 3, 4] rfl ?_
  exact lc_mark f (nI i) (nI t) (fdP f N P v (nI i) (nI t) (f 107 i + 1)) r 0 (by omega)
def RE (f : Mem) (q : Sr) : Prop := KR f q.1 q.2.1 ∧ f 93 24 = nI q.2.2.2.2.2 ∧ (∀ j, 1 ≤ j → j < q.1 → f 105 j = nI (q.2.2.1 j) ∧ f 106 j = nI (q.2.2.2.1 j)) ∧ ∀ j, j < q.1 → f 107 j = nI (q.2.2.2.2.1 j)
theorem RE.c {f h : Mem} {q : Sr} (x : RE f q) (e23 : h 93 23 = f 93 23) (e24 : h 93 24 = f 93 24) (e : ∀ a, 104 ≤ a → a ≤ 108 → h a = f a) : RE h q := by
  refine ⟨x.1.congr e23 (e 104 (by omega) (by omega)) (e 108 (by omega) (by omega)), e24.trans x.2.1, fun j a b => ?_, fun j a => ?_⟩
  · rw [e 105 (by omega) (by omega), e 106 (by omega) (by omega)]; exact x.2.2.1 j a b
  · rw [e 107 (by omega) (by omega)]; exact x.2.2.2 j a
def frS (f0 F : Mem) : Prop := (∀ b, b < 93 ∨ b = 94 ∨ b = 95 ∨ (97 ≤ b ∧ b ≤ 103) ∨ 108 < b → F b = f0 b) ∧ ∀ i, i ≠ 16 → i ≠ 17 → i ≠ 23 → i ≠ 24 → F 93 i = f0 93 i
def CR (f0 : Mem) (p : Ro) (u : Pt) (F : Mem) (q : Sr) : Prop := RE F q ∧ R96 F ∧ gR F u.1 p ∧ frS f0 F
theorem gR.g {f : Mem} {p : Ro} {u v : Pt} (h : gR f u.1 p) (w : gW p u v) : gR f v.1 p :=
  ⟨by rw [w.2.1]; exact h.1, fun m hm => by rw [w.2.2.1 m]; exact h.2.1 m hm, fun t ht => by rw [w.2.2.2 t]; exact h.2.2.1 t ht, h.2.2.2⟩
theorem R96_fl {f : Mem} {v : Pt} (h : f 96 = fl v) : R96 f := fun j hj => by rw [h]; show flat v.1 v.2 j = 0; unfold flat; rw [if_neg (by omega), if_neg (by omega)]
theorem cp_st {F : Mem} {N i : Nat} {P : Nat → Pt} (hK : KR F N P) (h96 : R96 F) (hi : i < N) : gt_cpy F 104 (52 * i) 96 0 52 = ur F 96 (fl (P i)) := by
  rw [gt_cpy]
  congr 1
  funext j
  by_cases q : j < 52
  · rw [pk_cpy_in (by omega) (by omega), show 52 * i + (j - 0) = 52 * i + j by omega, hK.2.1 i hi j q]
  · rw [pk_cpy_out (by omega), h96 j (by omega)]
    show 0 = flat (P i).1 (P i).2 j
    unfold flat; rw [if_neg (by omega), if_neg q]
theorem RE_add {f h : Mem} {q : Sr} (x : RE f q) (i t : Nat) (v : Pt) (hi : i < q.1) (hK : KR h (q.1 + 1) (upN q.2.1 q.1 v)) (e24 : h 93 24 = 1) (e5 : h 105 = upd (f 105) q.1 (nI i)) (e6 : h 106 = upd (f 106) q.1 (nI t)) (e7 : h 107 = upd (f 107) q.1 (f 107 i + 1)) : RE h (addQ q i t (q.2.2.2.2.1 i + 1) v) := by
  refine ⟨hK, e24, fun j a b => ?_, fun j b => ?_⟩
  · have b : j < q.1 + 1 := b
    show h 105 j = nI (upN q.2.2.1 q.1 i j) ∧ h 106 j = nI (upN q.2.2.2.1 q.1 t j)
    rw [e5, e6]
    by_cases z : j = q.1
    · rw [z, upd_s, upd_s, upN_s, upN_s]; exact ⟨rfl, rfl⟩
    · rw [upd_n _ _ z, upd_n _ _ z, upN_n _ _ z, upN_n _ _ z]; exact x.2.2.1 j a (by omega)
  · have b : j < q.1 + 1 := b
    show h 107 j = nI (upN q.2.2.2.2.1 q.1 (q.2.2.2.2.1 i + 1) j)
    rw [e7]
    by_cases z : j = q.1
    · rw [z, upd_s, upN_s, x.2.2.2 i hi]; exact (nI_succ _).symm
    · rw [upd_n _ _ z, upN_n _ _ z]; exact x.2.2.2 j (by omega)
theorem fl_st {F : Mem} {N i : Nat} {P : Nat → Pt} (hK : KR F N P) (hi : i < N) {t : Nat} (ht : t < 4) : F 104 (52 * i + 4 + t) = nI ((P i).1 1 t) := by
  rw [Nat.add_assoc, hK.2.1 i hi (4 + t) (by omega)]; exact flat_1 _ _ ht
/-- a step of the picture that lies in 96 -/
theorem c_st96 {F : Mem} {s : Sg} {k p : Ro} {u : Pt} (t : Nat) (ht : t < 4) (w : gW p u (s, k)) (h1 : s 1 t = 0) (hg : gR F s p) : C0 MX11_steps [.ref 93, .int (nI t)] (ur F 96 (flat s k)) (fun r g => r = none ∧ g 96 = fl (trS s k p t, trK s k p t) ∧ (∀ b, b ≠ 93 → b ≠ 96 → g b = F b) ∧ ∀ i, i ≠ 16 → i ≠ 17 → g 93 i = F 93 i) := by
  refine (c_steps t F s k p ht w.1.1 w.1.2.1 w.1.2.2.1 w.1.2.2.2.1 h1 hg).mono (fun r g q => ?_)
  obtain ⟨q1, ow, q2, _⟩ := q
  refine ⟨q1, ?_, fun b b1 b2 => ?_, fun i i1 i2 => ?_⟩
  · rw [q2, ur_s]; exact (flat_hi (trS_lo s k p t)).symm
  · rw [q2, ur_n _ _ b2, u2_n _ _ _ b1, u2_n _ _ _ b1]
  · rw [q2, ur_n _ _ (by decide), u2, ur_s, upd_n _ _ i2, u2, ur_s, upd_n _ _ i1]
theorem lc_ex0 (f0 F : Mem) (p : Ro) (u : Pt) (q : Sr) (i t : Nat) (s : Sg) (k : Ro) (Q : Option Value → Mem → Prop) (hx : CR f0 p u F q) (hJ : Jq p u q) (hi : i < q.1) (ht : t < u.1 13 0) (hal : ¬ q.2.2.2.2.2 = 0) (hsk : q.2.1 i = (s, k)) (h1 : ¬ s 1 t = 0) (kk : ∀ h, CR f0 p u h (q) → A (cM MX11_findsAll 0 0 layT layT Q) 130 [(2, .int (nI t)), (1, .int (nI i)), (0, .ref 93)] [] h) : A (cM MX11_findsAll 0 0 layT layT Q) 85 [(2, .int (nI t)), (1, .int (nI i)), (0, .ref 93)] [] F := by
  have w : gW p u (s, k) := by rw [← hsk]; exact hJ.2.2.2 i hi
  have h13 : u.1 13 0 ≤ 4 := by have a := w.1.2.2.2.2.1; rw [w.2.1] at a; exact a
  obtain ⟨x, h96, hg, hf⟩ := hx
  have h600 := hJ.2.1
  have hst : F 104 (52 * i + 4 + t) = nI (s 1 t) := by rw [fl_st x.1 hi (by omega), hsk]
  refine A_aload_n dX11_findsAll_85 rfl 2 rfl ?_
  refine A_getR (b := 104) dX11_findsAll_86 fo_RX11_40 L93 rfl ?_
  refine A_bipush (v := 52) dX11_findsAll_89 rfl ?_
  refine A_iload_n dX11_findsAll_91 rfl 1 rfl ?_
  refine A_imul dX11_findsAll_92 ?_
  refine A_iconst (v := 4) dX11_findsAll_93 rfl ?_
  refine A_iadd dX11_findsAll_94 ?_
  refine A_iload_n dX11_findsAll_95 rfl 0 rfl ?_
  refine A_iadd dX11_findsAll_96 ?_
  refine A_iaload (52 * i + 4 + t) dX11_findsAll_97 L104 (by simp only [lit, nI_add, pk_mul]) (by omega) (lb rfl) ?_
  refine A_topi (nI (s 1 t)) hst ?_
  refine A_if_ne (tgt := 130) dX11_findsAll_98 rfl (fun h98 => ?_) (fun h98 => by exact absurd ((nI_z (by have q : s 1 t ≤ 4 := w.1.s4 (t := t) (by omega); omega)).mp h98) h1)
  exact kk F ⟨x, h96, hg, hf⟩
theorem lc_exL (f0 F : Mem) (p : Ro) (u : Pt) (q : Sr) (i t : Nat) (s : Sg) (k : Ro) (Q : Option Value → Mem → Prop) (hx : CR f0 p u F q) (hJ : Jq p u q) (hi : i < q.1) (ht : t < u.1 13 0) (hal : ¬ q.2.2.2.2.2 = 0) (hsk : q.2.1 i = (s, k)) (h1 : s 1 t = 0) (hl : anyL q (trS s k p t, trK s k p t)) (kk : ∀ h, CR f0 p u h (q) → A (cM MX11_findsAll 0 0 layT layT Q) 130 [(2, .int (nI t)), (1, .int (nI i)), (0, .ref 93)] [] h) : A (cM MX11_findsAll 0 0 layT layT Q) 85 [(2, .int (nI t)), (1, .int (nI i)), (0, .ref 93)] [] F := by
  have w : gW p u (s, k) := by rw [← hsk]; exact hJ.2.2.2 i hi
  have h13 : u.1 13 0 ≤ 4 := by have a := w.1.2.2.2.2.1; rw [w.2.1] at a; exact a
  obtain ⟨x, h96, hg, hf⟩ := hx
  have h600 := hJ.2.1
  have hst : F 104 (52 * i + 4 + t) = nI (s 1 t) := by rw [fl_st x.1 hi (by omega), hsk]
  refine A_aload_n dX11_findsAll_85 rfl 2 rfl ?_
  refine A_getR (b := 104) dX11_findsAll_86 fo_RX11_40 L93 rfl ?_
  refine A_bipush (v := 52) dX11_findsAll_89 rfl ?_
  refine A_iload_n dX11_findsAll_91 rfl 1 rfl ?_
  refine A_imul dX11_findsAll_92 ?_
  refine A_iconst (v := 4) dX11_findsAll_93 rfl ?_
  refine A_iadd dX11_findsAll_94 ?_
  refine A_iload_n dX11_findsAll_95 rfl 0 rfl ?_
  refine A_iadd dX11_findsAll_96 ?_
  refine A_iaload (52 * i + 4 + t) dX11_findsAll_97 L104 (by simp only [lit, nI_add, pk_mul]) (by omega) (lb rfl) ?_
  refine A_topi (nI (s 1 t)) hst ?_
  refine A_if_ne (tgt := 130) dX11_findsAll_98 rfl (fun h98 => by exact absurd (by rw [h1]; rfl) h98) (fun h98 => ?_)
  refine A_aload_n dX11_findsAll_101 rfl 2 rfl ?_
  refine A_getR (b := 104) dX11_findsAll_102 fo_RX11_40 L93 rfl ?_
  refine A_bipush (v := 52) dX11_findsAll_105 rfl ?_
  refine A_iload_n dX11_findsAll_107 rfl 1 rfl ?_
  refine A_imul dX11_findsAll_108 ?_
  refine A_topi (nI (52 * i)) (pk_mul 52 i) ?_
  refine A_aload_n dX11_findsAll_109 rfl 2 rfl ?_
  refine A_getR (b := 96) dX11_findsAll_110 fo_RX11_16 L93 rfl ?_
  refine A_iconst (v := 0) dX11_findsAll_113 rfl ?_
  refine A_bipush (v := 52) dX11_findsAll_114 rfl ?_
  refine A_callS (M' := MX11_copies) [.ref 104, .int (nI (52 * i)), .ref 96, .int 0, .int 52] [] dX11_findsAll_116 lk_RX11_146 oX11_copies sX11_copies rfl rfl ⟨lb rfl, lb rfl⟩ (lb rfl) ⟨lb rfl, lb rfl⟩ (c_copies (52 * i) 0 52 F rfl rfl (by decide) (by omega) (by decide) (by decide) (by decide)) ?_
  rintro _ g0 ⟨rfl, hg0⟩
  rw [hg0, cp_st x.1 h96 hi, show fl (q.2.1 i) = flat s k by rw [hsk]]
  refine A_aload_n dX11_findsAll_119 rfl 2 rfl ?_
  refine A_iload_n dX11_findsAll_120 rfl 0 rfl ?_
  refine A_callV (M' := MX11_steps) [.int (nI t)] [] 93 dX11_findsAll_121 lk_RX11_188 oX11_steps iX11_steps rfl rfl ⟨lb rfl, lb rfl⟩ (lb rfl) ⟨lb rfl, lb rfl⟩ L93 rfl (c_st96 t (by omega) w h1 (hg.g w)) ?_
  rintro _ G ⟨rfl, g96, gb, g93⟩
  have K2 : KR G q.1 q.2.1 := x.1.congr (g93 23 (by decide) (by decide)) (gb 104 (by decide) (by decide)) (gb 108 (by decide) (by decide))
  have x2 : RE G q := x.c (g93 23 (by decide) (by decide)) (g93 24 (by decide) (by decide)) (fun a a1 a2 => gb a (by omega) (by omega))
  have w2 : gW p u (trS s k p t, trK s k p t) := w.nx ht h1
  have hf2 : frS f0 G := ⟨fun b hb => (gb b (by omega) (by omega)).trans (hf.1 b hb), fun i i1 i2 i3 i4 => (g93 i i1 i2).trans (hf.2 i i1 i2 i3 i4)⟩
  have hg2 : gR G u.1 p := gR_c (gb 94 (by decide) (by decide)) hg
  refine A_aload_n dX11_findsAll_124 rfl 2 rfl ?_
  refine A_iload_n dX11_findsAll_125 rfl 1 rfl ?_
  refine A_iload_n dX11_findsAll_126 rfl 0 rfl ?_
  refine A_callV (M' := MX11_finds) [.int (nI i), .int (nI t)] [] 93 dX11_findsAll_127 lk_RX11_238 oX11_finds iX11_finds rfl rfl ⟨lb rfl, lb rfl⟩ (lb rfl) ⟨lb rfl, lb rfl⟩ L93 rfl (c_findsL G (trS s k p t, trK s k p t) q.1 q.2.1 K2 h600 g96 (nI i) (nI t) hl) ?_
  rintro _ g0 ⟨rfl, hg0⟩
  rw [hg0]
  exact kk _ ⟨x2, R96_fl g96, hg2, hf2⟩
theorem lc_exF (f0 F : Mem) (p : Ro) (u : Pt) (q : Sr) (i t : Nat) (s : Sg) (k : Ro) (Q : Option Value → Mem → Prop) (hx : CR f0 p u F q) (hJ : Jq p u q) (hi : i < q.1) (ht : t < u.1 13 0) (hal : ¬ q.2.2.2.2.2 = 0) (hsk : q.2.1 i = (s, k)) (h1 : s 1 t = 0) (hl : ¬ anyL q (trS s k p t, trK s k p t)) (h6 : ¬ q.1 < 600) (kk : ∀ h, CR f0 p u h (endQ q) → A (cM MX11_findsAll 0 0 layT layT Q) 130 [(2, .int (nI t)), (1, .int (nI i)), (0, .ref 93)] [] h) : A (cM MX11_findsAll 0 0 layT layT Q) 85 [(2, .int (nI t)), (1, .int (nI i)), (0, .ref 93)] [] F := by
  have w : gW p u (s, k) := by rw [← hsk]; exact hJ.2.2.2 i hi
  have h13 : u.1 13 0 ≤ 4 := by have a := w.1.2.2.2.2.1; rw [w.2.1] at a; exact a
  obtain ⟨x, h96, hg, hf⟩ := hx
  have h600 := hJ.2.1
  have hst : F 104 (52 * i + 4 + t) = nI (s 1 t) := by rw [fl_st x.1 hi (by omega), hsk]
  refine A_aload_n dX11_findsAll_85 rfl 2 rfl ?_
  refine A_getR (b := 104) dX11_findsAll_86 fo_RX11_40 L93 rfl ?_
  refine A_bipush (v := 52) dX11_findsAll_89 rfl ?_
  refine A_iload_n dX11_findsAll_91 rfl 1 rfl ?_
  refine A_imul dX11_findsAll_92 ?_
  refine A_iconst (v := 4) dX11_findsAll_93 rfl ?_
  refine A_iadd dX11_findsAll_94 ?_
  refine A_iload_n dX11_findsAll_95 rfl 0 rfl ?_
  refine A_iadd dX11_findsAll_96 ?_
  refine A_iaload (52 * i + 4 + t) dX11_findsAll_97 L104 (by simp only [lit, nI_add, pk_mul]) (by omega) (lb rfl) ?_
  refine A_topi (nI (s 1 t)) hst ?_
  refine A_if_ne (tgt := 130) dX11_findsAll_98 rfl (fun h98 => by exact absurd (by rw [h1]; rfl) h98) (fun h98 => ?_)
  refine A_aload_n dX11_findsAll_101 rfl 2 rfl ?_
  refine A_getR (b := 104) dX11_findsAll_102 fo_RX11_40 L93 rfl ?_
  refine A_bipush (v := 52) dX11_findsAll_105 rfl ?_
  refine A_iload_n dX11_findsAll_107 rfl 1 rfl ?_
  refine A_imul dX11_findsAll_108 ?_
  refine A_topi (nI (52 * i)) (pk_mul 52 i) ?_
  refine A_aload_n dX11_findsAll_109 rfl 2 rfl ?_
  refine A_getR (b := 96) dX11_findsAll_110 fo_RX11_16 L93 rfl ?_
  refine A_iconst (v := 0) dX11_findsAll_113 rfl ?_
  refine A_bipush (v := 52) dX11_findsAll_114 rfl ?_
  refine A_callS (M' := MX11_copies) [.ref 104, .int (nI (52 * i)), .ref 96, .int 0, .int 52] [] dX11_findsAll_116 lk_RX11_146 oX11_copies sX11_copies rfl rfl ⟨lb rfl, lb rfl⟩ (lb rfl) ⟨lb rfl, lb rfl⟩ (c_copies (52 * i) 0 52 F rfl rfl (by decide) (by omega) (by decide) (by decide) (by decide)) ?_
  rintro _ g0 ⟨rfl, hg0⟩
  rw [hg0, cp_st x.1 h96 hi, show fl (q.2.1 i) = flat s k by rw [hsk]]
  refine A_aload_n dX11_findsAll_119 rfl 2 rfl ?_
  refine A_iload_n dX11_findsAll_120 rfl 0 rfl ?_
  refine A_callV (M' := MX11_steps) [.int (nI t)] [] 93 dX11_findsAll_121 lk_RX11_188 oX11_steps iX11_steps rfl rfl ⟨lb rfl, lb rfl⟩ (lb rfl) ⟨lb rfl, lb rfl⟩ L93 rfl (c_st96 t (by omega) w h1 (hg.g w)) ?_
  rintro _ G ⟨rfl, g96, gb, g93⟩
  have K2 : KR G q.1 q.2.1 := x.1.congr (g93 23 (by decide) (by decide)) (gb 104 (by decide) (by decide)) (gb 108 (by decide) (by decide))
  have x2 : RE G q := x.c (g93 23 (by decide) (by decide)) (g93 24 (by decide) (by decide)) (fun a a1 a2 => gb a (by omega) (by omega))
  have w2 : gW p u (trS s k p t, trK s k p t) := w.nx ht h1
  have hf2 : frS f0 G := ⟨fun b hb => (gb b (by omega) (by omega)).trans (hf.1 b hb), fun i i1 i2 i3 i4 => (g93 i i1 i2).trans (hf.2 i i1 i2 i3 i4)⟩
  have hg2 : gR G u.1 p := gR_c (gb 94 (by decide) (by decide)) hg
  refine A_aload_n dX11_findsAll_124 rfl 2 rfl ?_
  refine A_iload_n dX11_findsAll_125 rfl 1 rfl ?_
  refine A_iload_n dX11_findsAll_126 rfl 0 rfl ?_
  refine A_callV (M' := MX11_finds) [.int (nI i), .int (nI t)] [] 93 dX11_findsAll_127 lk_RX11_238 oX11_finds iX11_finds rfl rfl ⟨lb rfl, lb rfl⟩ (lb rfl) ⟨lb rfl, lb rfl⟩ L93 rfl (c_findsF G (trS s k p t, trK s k p t) q.1 q.2.1 K2 h600 g96 (nI i) (nI t) hl h6) ?_
  rintro _ g0 ⟨rfl, hg0⟩
  rw [hg0]
  exact kk _ ⟨⟨K2.congr (by rw [u2, ur_s, upd_n _ _ (by decide)]) (u2_n _ _ _ (by decide)) (u2_n _ _ _ (by decide)), by rw [u2, ur_s, upd_s]; rfl, fun j a b => by rw [u2_n _ _ _ (by decide), u2_n _ _ _ (by decide)]; exact x2.2.2.1 j a b, fun j a => by rw [u2_n _ _ _ (by decide)]; exact x2.2.2.2 j a⟩, R96_fl ((u2_n _ _ _ (by decide)).trans g96), gR_c (u2_n _ _ _ (by decide)) hg2, ⟨fun b hb => (u2_n _ _ _ (by omega)).trans (hf2.1 b hb), fun i i1 i2 i3 i4 => by rw [u2, ur_s, upd_n _ _ i4]; exact hf2.2 i i1 i2 i3 i4⟩⟩
theorem lc_exA (f0 F : Mem) (p : Ro) (u : Pt) (q : Sr) (i t : Nat) (s : Sg) (k : Ro) (Q : Option Value → Mem → Prop) (hx : CR f0 p u F q) (hJ : Jq p u q) (hi : i < q.1) (ht : t < u.1 13 0) (hal : ¬ q.2.2.2.2.2 = 0) (hsk : q.2.1 i = (s, k)) (h1 : s 1 t = 0) (hl : ¬ anyL q (trS s k p t, trK s k p t)) (h6 : q.1 < 600) (kk : ∀ h, CR f0 p u h (addQ q i t (q.2.2.2.2.1 i + 1) (trS s k p t, trK s k p t)) → A (cM MX11_findsAll 0 0 layT layT Q) 130 [(2, .int (nI t)), (1, .int (nI i)), (0, .ref 93)] [] h) : A (cM MX11_findsAll 0 0 layT layT Q) 85 [(2, .int (nI t)), (1, .int (nI i)), (0, .ref 93)] [] F := by
  have w : gW p u (s, k) := by rw [← hsk]; exact hJ.2.2.2 i hi
  have h13 : u.1 13 0 ≤ 4 := by have a := w.1.2.2.2.2.1; rw [w.2.1] at a; exact a
  obtain ⟨x, h96, hg, hf⟩ := hx
  have h600 := hJ.2.1
  have hst : F 104 (52 * i + 4 + t) = nI (s 1 t) := by rw [fl_st x.1 hi (by omega), hsk]
  refine A_aload_n dX11_findsAll_85 rfl 2 rfl ?_
  refine A_getR (b := 104) dX11_findsAll_86 fo_RX11_40 L93 rfl ?_
  refine A_bipush (v := 52) dX11_findsAll_89 rfl ?_
  refine A_iload_n dX11_findsAll_91 rfl 1 rfl ?_
  refine A_imul dX11_findsAll_92 ?_
  refine A_iconst (v := 4) dX11_findsAll_93 rfl ?_
  refine A_iadd dX11_findsAll_94 ?_
  refine A_iload_n dX11_findsAll_95 rfl 0 rfl ?_
  refine A_iadd dX11_findsAll_96 ?_
  refine A_iaload (52 * i + 4 + t) dX11_findsAll_97 L104 (by simp only [lit, nI_add, pk_mul]) (by omega) (lb rfl) ?_
  refine A_topi (nI (s 1 t)) hst ?_
  refine A_if_ne (tgt := 130) dX11_findsAll_98 rfl (fun h98 => by exact absurd (by rw [h1]; rfl) h98) (fun h98 => ?_)
  refine A_aload_n dX11_findsAll_101 rfl 2 rfl ?_
  refine A_getR (b := 104) dX11_findsAll_102 fo_RX11_40 L93 rfl ?_
  refine A_bipush (v := 52) dX11_findsAll_105 rfl ?_
  refine A_iload_n dX11_findsAll_107 rfl 1 rfl ?_
  refine A_imul dX11_findsAll_108 ?_
  refine A_topi (nI (52 * i)) (pk_mul 52 i) ?_
  refine A_aload_n dX11_findsAll_109 rfl 2 rfl ?_
  refine A_getR (b := 96) dX11_findsAll_110 fo_RX11_16 L93 rfl ?_
  refine A_iconst (v := 0) dX11_findsAll_113 rfl ?_
  refine A_bipush (v := 52) dX11_findsAll_114 rfl ?_
  refine A_callS (M' := MX11_copies) [.ref 104, .int (nI (52 * i)), .ref 96, .int 0, .int 52] [] dX11_findsAll_116 lk_RX11_146 oX11_copies sX11_copies rfl rfl ⟨lb rfl, lb rfl⟩ (lb rfl) ⟨lb rfl, lb rfl⟩ (c_copies (52 * i) 0 52 F rfl rfl (by decide) (by omega) (by decide) (by decide) (by decide)) ?_
  rintro _ g0 ⟨rfl, hg0⟩
  rw [hg0, cp_st x.1 h96 hi, show fl (q.2.1 i) = flat s k by rw [hsk]]
  refine A_aload_n dX11_findsAll_119 rfl 2 rfl ?_
  refine A_iload_n dX11_findsAll_120 rfl 0 rfl ?_
  refine A_callV (M' := MX11_steps) [.int (nI t)] [] 93 dX11_findsAll_121 lk_RX11_188 oX11_steps iX11_steps rfl rfl ⟨lb rfl, lb rfl⟩ (lb rfl) ⟨lb rfl, lb rfl⟩ L93 rfl (c_st96 t (by omega) w h1 (hg.g w)) ?_
  rintro _ G ⟨rfl, g96, gb, g93⟩
  have K2 : KR G q.1 q.2.1 := x.1.congr (g93 23 (by decide) (by decide)) (gb 104 (by decide) (by decide)) (gb 108 (by decide) (by decide))
  have x2 : RE G q := x.c (g93 23 (by decide) (by decide)) (g93 24 (by decide) (by decide)) (fun a a1 a2 => gb a (by omega) (by omega))
  have w2 : gW p u (trS s k p t, trK s k p t) := w.nx ht h1
  have hf2 : frS f0 G := ⟨fun b hb => (gb b (by omega) (by omega)).trans (hf.1 b hb), fun i i1 i2 i3 i4 => (g93 i i1 i2).trans (hf.2 i i1 i2 i3 i4)⟩
  have hg2 : gR G u.1 p := gR_c (gb 94 (by decide) (by decide)) hg
  refine A_aload_n dX11_findsAll_124 rfl 2 rfl ?_
  refine A_iload_n dX11_findsAll_125 rfl 1 rfl ?_
  refine A_iload_n dX11_findsAll_126 rfl 0 rfl ?_
  refine A_callV (M' := MX11_finds) [.int (nI i), .int (nI t)] [] 93 dX11_findsAll_127 lk_RX11_238 oX11_finds iX11_finds rfl rfl ⟨lb rfl, lb rfl⟩ (lb rfl) ⟨lb rfl, lb rfl⟩ L93 rfl (c_findsA1 G (trS s k p t, trK s k p t) q.1 q.2.1 K2 h600 g96 i t (by omega) hl h6) ?_
  rintro _ h ⟨rfl, K3, a93, a5, a6, a7, ab⟩
  exact kk _ ⟨RE_add x2 i t _ hi K3 (by rw [a93, upd_n _ _ (by decide), upd_s]) a5 a6 a7, R96_fl ((ab 96 (by decide) (by omega)).trans g96), gR_c (ab 94 (by decide) (by omega)) hg2, ⟨fun b hb => (ab b (by omega) (by omega)).trans (hf2.1 b hb), fun i i1 i2 i3 i4 => by rw [a93, upd_n _ _ i3, upd_n _ _ i4]; exact hf2.2 i i1 i2 i3 i4⟩⟩
theorem lc_ex (f0 F : Mem) (p : Ro) (u : Pt) (q : Sr) (i t : Nat) (Q : Option Value → Mem → Prop) (hx : CR f0 p u F q) (hJ : Jq p u q) (hi : i < q.1) (ht : t < u.1 13 0) (hal : ¬ q.2.2.2.2.2 = 0) (kk : ∀ h, CR f0 p u h (one p i t q) → A (cM MX11_findsAll 0 0 layT layT Q) 130 [(2, .int (nI t)), (1, .int (nI i)), (0, .ref 93)] [] h) : A (cM MX11_findsAll 0 0 layT layT Q) 85 [(2, .int (nI t)), (1, .int (nI i)), (0, .ref 93)] [] F := by
  unfold one at kk
  by_cases h1 : (q.2.1 i).1 1 t = 0
  · rw [if_pos h1] at kk
    by_cases hl : anyL q (nx p (q.2.1 i) t)
    · rw [fnd_l _ _ _ hl] at kk
      exact lc_exL f0 F p u q i t _ _ Q hx hJ hi ht hal rfl h1 hl kk
    · by_cases h6 : q.1 < 600
      · rw [fnd_a _ _ _ hl h6] at kk
        exact lc_exA f0 F p u q i t _ _ Q hx hJ hi ht hal rfl h1 hl h6 kk
      · rw [fnd_e _ _ _ hl h6] at kk
        exact lc_exF f0 F p u q i t _ _ Q hx hJ hi ht hal rfl h1 hl h6 kk
  · rw [if_neg h1] at kk
    exact lc_ex0 f0 F p u q i t _ _ Q hx hJ hi ht hal rfl h1 kk
