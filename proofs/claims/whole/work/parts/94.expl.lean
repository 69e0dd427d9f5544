/-! the class goes on by one step -/
def XE (f : Mem) (p : Ro) (d : Cd) (u : Pt) (q : Sr) : Prop := KT f q.1 q.2.1 ∧ sm f p d (u.1 13 0) q.1 q.2.1 ∧ f 55 8 = nI q.2.2.2.2.2 ∧ (∀ j, 1 ≤ j → j < q.1 → f 81 j = nI (q.2.2.1 j) ∧ f 82 j = nI (q.2.2.2.1 j)) ∧ ∀ j, j < q.1 → f 83 j = nI (q.2.2.2.2.1 j)
theorem XE.c {f h : Mem} {p : Ro} {d : Cd} {u : Pt} {q : Sr} (x : XE f p d u q) (e55 : ∀ i, 8 ≤ i → i ≤ 14 → h 55 i = f 55 i) (e77 : h 77 0 = f 77 0) (e78 : h 78 = f 78) (e80 : ∀ a, 80 ≤ a → a ≤ 85 → h a = f a) : XE h p d u q := by
  refine ⟨x.1.congr e77 e78 (e80 80 (by omega) (by omega)), x.2.1.c (fun i a b => e55 i (by omega) b) (e80 84 (by omega) (by omega)) (e80 85 (by omega) (by omega)), (e55 8 (by omega) (by omega)).trans x.2.2.1, fun j a b => ?_, fun j a => ?_⟩
  · rw [e80 81 (by omega) (by omega), e80 82 (by omega) (by omega)]; exact x.2.2.2.1 j a b
  · rw [e80 83 (by omega) (by omega)]; exact x.2.2.2.2 j a
def CX (f0 : Mem) (p : Ro) (d : Cd) (u : Pt) (F : Mem) (q : Sr) : Prop := XE F p d u q ∧ (∃ s k, isD F 56 s k) ∧ dS F 56 u.1 p ∧ (∀ b, b < 55 ∨ 85 < b → F b = f0 b) ∧ F 55 0 = f0 55 0
theorem dS.c3 {f h : Mem} {s : Sg} {p : Ro} (q : dS f 56 s p) (e0 : h 56 0 = f 56 0) (e7 : h 63 = f 63) (e : ∀ a, 69 ≤ a → a ≤ 76 → h a = f a) : dS h 56 s p :=
  ⟨e0.trans q.1, fun m hm => by show h 63 m = _; rw [e7]; exact q.2.1 m hm, fun t ht => by rw [e _ (by omega) (by omega)]; exact q.2.2.1 t ht, fun t ht j hj => by rw [e _ (by omega) (by omega)]; exact q.2.2.2 t ht j hj⟩
theorem dS.g {f : Mem} {p : Ro} {u v : Pt} (q : dS f 56 u.1 p) (w : gW p u v) : dS f 56 v.1 p :=
  ⟨by rw [w.2.1]; exact q.1, fun m hm => by rw [w.2.2.1 m]; exact q.2.1 m hm, fun t ht => by rw [w.2.2.2 t]; exact q.2.2.1 t ht, fun t ht j hj => q.2.2.2 t ht j (by rw [← w.2.2.2 t]; exact hj)⟩
theorem tk_f {F F2 : Mem} {t : Nat} {s : Sg} {k p : Ro} (ht : t < 4) (h : F2 = dM (tkF F 56 t s k p) 56 (stepA s k p t).1 (stepA s k p t).2.1) : (∀ b, b < 56 ∨ 76 < b → F2 b = F b) ∧ F2 56 0 = F 56 0 ∧ F2 63 = F 63 ∧ (∀ a, 69 ≤ a → a ≤ 76 → F2 a = F a) ∧ isD F2 56 (trS s k p t) (trK s k p t) := by
  have tb : ∀ b, b ≠ 56 → b ≠ 61 → b ≠ 62 → tkF F 56 t s k p b = F b := fun b b1 b2 b3 => by
    unfold tkF
    split
    · rw [u2_n _ _ _ (by omega), u2_n _ _ _ b1]
    · split
      · rw [u2_n _ _ _ b1]
      · rw [u2_n _ _ _ (by omega), u2_n _ _ _ (by omega), u2_n _ _ _ b1]
  have t0 : tkF F 56 t s k p 56 0 = F 56 0 := by
    unfold tkF
    split
    · rw [u2_n _ _ _ (by omega), u2, ur_s, upd_n _ _ (by decide)]
    · split
      · rw [u2, ur_s, upd_n _ _ (by decide)]
      · rw [u2_n _ _ _ (by omega), u2_n _ _ _ (by omega), u2, ur_s, upd_n _ _ (by decide)]
  refine ⟨fun b hb => ?_, ?_, ?_, fun a a1 a2 => ?_, ?_⟩
  · rw [h, dM_o _ _ _ _ (by omega), tb b (by omega) (by omega) (by omega)]
  · rw [h, dM_o _ _ _ _ (by omega), t0]
  · rw [h, dM_o _ _ _ _ (by omega), tb 63 (by omega) (by omega) (by omega)]
  · rw [h, dM_o _ _ _ _ (by omega), tb a (by omega) (by omega) (by omega)]
  · rw [h]; exact isD_hi (trS_lo s k p t) (isD_dM _ _ _ _)
theorem x_tk56 {F : Mem} {s : Sg} {k p : Ro} {u : Pt} (t : Nat) (ht : t < 4) (hD : isD F 56 s k) (hS : dS F 56 s p) (w : gW p u (s, k)) (h1 : s 1 t = 0) : C0 MX1_take [.ref 56, .int (nI t)] F (rt none (dM (tkF F 56 t s k p) 56 (stepA s k p t).1 (stepA s k p t).2.1)) := by
  have e := x_take t F 56 s k D56 p ht w.1.1 w.1.2.1 w.1.2.2.1 w.1.2.2.2.1 h1 hS
  rw [hD.eq] at e
  exact e
theorem anyL_P {q : Sr} {v : Pt} : anyL q v ↔ anyP q.1 q.2.1 v := Iff.rfl
theorem XE_add {f h : Mem} {p : Ro} {d : Cd} {u v : Pt} {q : Sr} (x : XE f p d u q) (i t : Nat) (hN : 1 ≤ q.1) (hi : i < q.1) (hK : KT h (q.1 + 1) (upN q.2.1 q.1 v)) (hs : sm h p d (u.1 13 0) (q.1 + 1) (upN q.2.1 q.1 v)) (e8 : h 55 8 = 1) (e81 : h 81 = upd (f 81) q.1 (nI i)) (e82 : h 82 = upd (f 82) q.1 (nI t)) (e83 : h 83 = upd (f 83) q.1 (f 83 i + 1)) : XE h p d u (addQ q i t (q.2.2.2.2.1 i + 1) v) := by
  refine ⟨hK, hs, e8, fun j a b => ?_, fun j b => ?_⟩
  · have b : j < q.1 + 1 := b
    show h 81 j = nI (upN q.2.2.1 q.1 i j) ∧ h 82 j = nI (upN q.2.2.2.1 q.1 t j)
    rw [e81, e82]
    by_cases z : j = q.1
    · rw [z, upd_s, upd_s, upN_s, upN_s]; exact ⟨rfl, rfl⟩
    · rw [upd_n _ _ z, upd_n _ _ z, upN_n _ _ z, upN_n _ _ z]; exact x.2.2.2.1 j a (by omega)
  · have b : j < q.1 + 1 := b
    show h 83 j = nI (upN q.2.2.2.2.1 q.1 (q.2.2.2.2.1 i + 1) j)
    rw [e83]
    by_cases z : j = q.1
    · rw [z, upd_s, upN_s, x.2.2.2.2 i hi]; exact (nI_succ _).symm
    · rw [upd_n _ _ z, upN_n _ _ z]; exact x.2.2.2.2 j (by omega)
theorem lx_ex0 (f0 F : Mem) (p : Ro) (d : Cd) (u : Pt) (q : Sr) (i t : Nat) (s : Sg) (k : Ro) (Q : Option Value → Mem → Prop) (hx : CX f0 p d u F q) (hJ : Jq p u q) (hNc : XNc f0 d.1 d.2.1 d.2.2.1 d.2.2.2) (hwN : wN d.1 d.2.1 d.2.2.1) (hi : i < q.1) (ht : t < u.1 13 0) (hal : ¬ q.2.2.2.2.2 = 0) (hsk : q.2.1 i = (s, k)) (h1 : ¬ s 1 t = 0) (kk : ∀ h, CX f0 p d u h (q) → A (cM MX6_explore 0 0 layT layT Q) 133 [(4, .int (nI t)), (3, .int (nI i)), (0, .ref 55), (1, .ref 1), (2, .ref 51)] [] h) : A (cM MX6_explore 0 0 layT layT Q) 80 [(4, .int (nI t)), (3, .int (nI i)), (0, .ref 55), (1, .ref 1), (2, .ref 51)] [] F := by
  have w : gW p u (s, k) := by rw [← hsk]; exact hJ.2.2.2 i hi
  have h13 : u.1 13 0 ≤ 4 := by have a := w.1.2.2.2.2.1; rw [w.2.1] at a; exact a
  obtain ⟨x, ⟨s0, k0, hD0⟩, hS0, hf, h0⟩ := hx
  have hBv := w.B
  have h600 := hJ.2.1
  refine A_aload_n dX6_explore_80 rfl 2 rfl ?_
  refine A_getR (b := 77) dX6_explore_81 fo_RX6_25 L55 rfl ?_
  refine A_iload_n dX6_explore_84 rfl 1 rfl ?_
  refine A_aload_n dX6_explore_85 rfl 2 rfl ?_
  refine A_getR (b := 56) dX6_explore_86 fo_RX6_18 L55 rfl ?_
  refine A_callV (M' := MX7_unpack) [.int (nI i), .ref 56] [] 77 dX6_explore_89 lk_RX6_85 oX7_unpack iX7_unpack rfl rfl ⟨lb rfl, lb rfl⟩ (lb rfl) ⟨lb rfl, lb rfl⟩ L77 rfl (x_unpack F s k hBv q.1 i x.1.1 h600 hi (fun j hj => by have a := x.1.2.1 i hi j hj; rw [hsk] at a; exact a)) ?_
  rintro _ F1 ⟨rfl, hF1⟩
  have o1 : ∀ b, b < 58 ∨ (60 < b ∧ b < 64) ∨ 68 < b → F1 b = F b := fun b hb => by rw [hF1]; exact unM_o F s k hb
  have D1_ : isD F1 56 s k := by rw [hF1]; exact unM_D hD0
  have S1 : dS F1 56 u.1 p := hS0.c3 (by rw [o1 56 (by omega)]) (o1 63 (by omega)) (fun a a1 a2 => o1 a (by omega))
  refine A_aload_n dX6_explore_92 rfl 2 rfl ?_
  refine A_getR (b := 56) dX6_explore_93 fo_RX6_18 L55 rfl ?_
  refine A_getR (b := 59) dX6_explore_96 fo_RX6_89 L56 rfl ?_
  refine A_iload dX6_explore_99 0 rfl ?_
  refine A_iaload t dX6_explore_101 L59 (rfl) (by omega) (lb rfl) ?_
  refine A_topi (nI (s 1 t)) (D1 D1_ (by omega)) ?_
  refine A_if_ne (tgt := 133) dX6_explore_102 rfl (fun h102 => ?_) (fun h102 => by exact absurd ((nI_z (by have q : s 1 t ≤ 4 := w.1.s4 (t := t) (by omega); omega)).mp h102) h1)
  refine A_sub [0, 1, 2, 3, 4] rfl ?_
  exact kk _ ⟨x.c (fun i _ _ => by rw [o1 55 (by omega)]) (by rw [o1 77 (by omega)]) (o1 78 (by omega)) (fun a a1 a2 => o1 a (by omega)), ⟨s, k, D1_⟩, S1, fun b hb => (o1 b (by omega)).trans (hf b hb), by rw [o1 55 (by omega)]; exact h0⟩
theorem lx_exL (f0 F : Mem) (p : Ro) (d : Cd) (u : Pt) (q : Sr) (i t : Nat) (s : Sg) (k : Ro) (Q : Option Value → Mem → Prop) (hx : CX f0 p d u F q) (hJ : Jq p u q) (hNc : XNc f0 d.1 d.2.1 d.2.2.1 d.2.2.2) (hwN : wN d.1 d.2.1 d.2.2.1) (hi : i < q.1) (ht : t < u.1 13 0) (hal : ¬ q.2.2.2.2.2 = 0) (hsk : q.2.1 i = (s, k)) (h1 : s 1 t = 0) (hl : anyL q (trS s k p t, trK s k p t)) (kk : ∀ h, CX f0 p d u h (q) → A (cM MX6_explore 0 0 layT layT Q) 133 [(4, .int (nI t)), (3, .int (nI i)), (0, .ref 55), (1, .ref 1), (2, .ref 51)] [] h) : A (cM MX6_explore 0 0 layT layT Q) 80 [(4, .int (nI t)), (3, .int (nI i)), (0, .ref 55), (1, .ref 1), (2, .ref 51)] [] F := by
  have w : gW p u (s, k) := by rw [← hsk]; exact hJ.2.2.2 i hi
  have h13 : u.1 13 0 ≤ 4 := by have a := w.1.2.2.2.2.1; rw [w.2.1] at a; exact a
  obtain ⟨x, ⟨s0, k0, hD0⟩, hS0, hf, h0⟩ := hx
  have hBv := w.B
  have h600 := hJ.2.1
  refine A_aload_n dX6_explore_80 rfl 2 rfl ?_
  refine A_getR (b := 77) dX6_explore_81 fo_RX6_25 L55 rfl ?_
  refine A_iload_n dX6_explore_84 rfl 1 rfl ?_
  refine A_aload_n dX6_explore_85 rfl 2 rfl ?_
  refine A_getR (b := 56) dX6_explore_86 fo_RX6_18 L55 rfl ?_
  refine A_callV (M' := MX7_unpack) [.int (nI i), .ref 56] [] 77 dX6_explore_89 lk_RX6_85 oX7_unpack iX7_unpack rfl rfl ⟨lb rfl, lb rfl⟩ (lb rfl) ⟨lb rfl, lb rfl⟩ L77 rfl (x_unpack F s k hBv q.1 i x.1.1 h600 hi (fun j hj => by have a := x.1.2.1 i hi j hj; rw [hsk] at a; exact a)) ?_
  rintro _ F1 ⟨rfl, hF1⟩
  have o1 : ∀ b, b < 58 ∨ (60 < b ∧ b < 64) ∨ 68 < b → F1 b = F b := fun b hb => by rw [hF1]; exact unM_o F s k hb
  have D1_ : isD F1 56 s k := by rw [hF1]; exact unM_D hD0
  have S1 : dS F1 56 u.1 p := hS0.c3 (by rw [o1 56 (by omega)]) (o1 63 (by omega)) (fun a a1 a2 => o1 a (by omega))
  refine A_aload_n dX6_explore_92 rfl 2 rfl ?_
  refine A_getR (b := 56) dX6_explore_93 fo_RX6_18 L55 rfl ?_
  refine A_getR (b := 59) dX6_explore_96 fo_RX6_89 L56 rfl ?_
  refine A_iload dX6_explore_99 0 rfl ?_
  refine A_iaload t dX6_explore_101 L59 (rfl) (by omega) (lb rfl) ?_
  refine A_topi (nI (s 1 t)) (D1 D1_ (by omega)) ?_
  refine A_if_ne (tgt := 133) dX6_explore_102 rfl (fun h102 => by exact absurd (by rw [h1]; rfl) h102) (fun h102 => ?_)
  refine A_aload_n dX6_explore_105 rfl 2 rfl ?_
  refine A_getR (b := 56) dX6_explore_106 fo_RX6_18 L55 rfl ?_
  refine A_iload dX6_explore_109 0 rfl ?_
  refine A_callV (M' := MX1_take) [.int (nI t)] [] 56 dX6_explore_111 lk_RX6_92 oX1_take iX1_take rfl rfl ⟨lb rfl, lb rfl⟩ (lb rfl) ⟨lb rfl, lb rfl⟩ L56 rfl (x_tk56 t (by omega) D1_ (S1.g w) w h1) ?_
  rintro _ F2 ⟨rfl, hF2⟩
  obtain ⟨o2, z2, c2, a2, D2_⟩ := tk_f (show t < 4 by omega) hF2
  have e12 : ∀ b, b < 56 ∨ 76 < b → F2 b = F b := fun b hb => (o2 b hb).trans (o1 b (by omega))
  have S2 : dS F2 56 u.1 p := S1.c3 z2 c2 a2
  have w2 : gW p u (trS s k p t, trK s k p t) := w.nx ht h1
  have K2 : KT F2 q.1 q.2.1 := x.1.congr (by rw [e12 77 (by omega)]) (e12 78 (by omega)) (e12 80 (by omega))
  have hPB : ∀ j, j < q.1 → wB (q.2.1 j).1 (q.2.1 j).2 := fun j hj => (hJ.2.2.2 j hj).B
  refine A_aload_n dX6_explore_114 rfl 2 rfl ?_
  refine A_aload_n dX6_explore_115 rfl 2 rfl ?_
  refine A_getR (b := 77) dX6_explore_116 fo_RX6_25 L55 rfl ?_
  refine A_aload_n dX6_explore_119 rfl 2 rfl ?_
  refine A_getR (b := 56) dX6_explore_120 fo_RX6_18 L55 rfl ?_
  refine A_callV (M' := MX7_keep) [.ref 56] [.ref 55] 77 dX6_explore_123 lk_RX6_71 oX7_keep iX7_keep rfl rfl ⟨lb rfl, lb rfl⟩ (lb rfl) ⟨lb rfl, lb rfl⟩ L77 rfl (x_keepL F2 (trS s k p t) (trK s k p t) D2_ w2.B q.1 q.2.1 K2 h600 hPB hl) ?_
  rintro _ g0 ⟨rfl, hg0⟩
  rw [hg0]
  have e3 : ∀ b, b ≠ 79 → (pkM F2 (trS s k p t) (trK s k p t)) b = F2 b := fun b hb => pkM_o _ _ _ hb
  refine A_iload_n dX6_explore_126 rfl 1 rfl ?_
  refine A_iload dX6_explore_127 0 rfl ?_
  refine A_aload_n dX6_explore_129 rfl 4 rfl ?_
  refine A_callV (M' := MX6_note) [.int (-1), .int (nI i), .int (nI t), .ref 51] [] 55 dX6_explore_130 lk_RX6_75 oX6_note iX6_note rfl rfl ⟨lb rfl, lb rfl⟩ (lb rfl) ⟨lb rfl, lb rfl⟩ L55 rfl (x_noteL _ (nI i) (nI t)) ?_
  rintro _ g0 ⟨rfl, hg0⟩
  rw [hg0]
  refine A_sub [0, 1, 2, 3, 4] rfl ?_
  exact kk _ ⟨x.c (fun i _ _ => by rw [e3 55 (by decide), e12 55 (by omega)]) (by rw [e3 77 (by decide), e12 77 (by omega)]) ((e3 78 (by decide)).trans (e12 78 (by omega))) (fun a a1 a2 => (e3 a (by omega)).trans (e12 a (by omega))), ⟨_, _, D2_.congr (fun a a1 a2 => e3 a (by omega))⟩, S2.congr (fun a a1 a2 => e3 a (by omega)), fun b hb => (e3 b (by omega)).trans ((e12 b (by omega)).trans (hf b hb)), by rw [e3 55 (by decide), e12 55 (by omega)]; exact h0⟩
theorem lx_exF (f0 F : Mem) (p : Ro) (d : Cd) (u : Pt) (q : Sr) (i t : Nat) (s : Sg) (k : Ro) (Q : Option Value → Mem → Prop) (hx : CX f0 p d u F q) (hJ : Jq p u q) (hNc : XNc f0 d.1 d.2.1 d.2.2.1 d.2.2.2) (hwN : wN d.1 d.2.1 d.2.2.1) (hi : i < q.1) (ht : t < u.1 13 0) (hal : ¬ q.2.2.2.2.2 = 0) (hsk : q.2.1 i = (s, k)) (h1 : s 1 t = 0) (hl : ¬ anyL q (trS s k p t, trK s k p t)) (h6 : ¬ q.1 < 600) (kk : ∀ h, CX f0 p d u h (endQ q) → A (cM MX6_explore 0 0 layT layT Q) 133 [(4, .int (nI t)), (3, .int (nI i)), (0, .ref 55), (1, .ref 1), (2, .ref 51)] [] h) : A (cM MX6_explore 0 0 layT layT Q) 80 [(4, .int (nI t)), (3, .int (nI i)), (0, .ref 55), (1, .ref 1), (2, .ref 51)] [] F := by
  have w : gW p u (s, k) := by rw [← hsk]; exact hJ.2.2.2 i hi
  have h13 : u.1 13 0 ≤ 4 := by have a := w.1.2.2.2.2.1; rw [w.2.1] at a; exact a
  obtain ⟨x, ⟨s0, k0, hD0⟩, hS0, hf, h0⟩ := hx
  have hBv := w.B
  have h600 := hJ.2.1
  refine A_aload_n dX6_explore_80 rfl 2 rfl ?_
  refine A_getR (b := 77) dX6_explore_81 fo_RX6_25 L55 rfl ?_
  refine A_iload_n dX6_explore_84 rfl 1 rfl ?_
  refine A_aload_n dX6_explore_85 rfl 2 rfl ?_
  refine A_getR (b := 56) dX6_explore_86 fo_RX6_18 L55 rfl ?_
  refine A_callV (M' := MX7_unpack) [.int (nI i), .ref 56] [] 77 dX6_explore_89 lk_RX6_85 oX7_unpack iX7_unpack rfl rfl ⟨lb rfl, lb rfl⟩ (lb rfl) ⟨lb rfl, lb rfl⟩ L77 rfl (x_unpack F s k hBv q.1 i x.1.1 h600 hi (fun j hj => by have a := x.1.2.1 i hi j hj; rw [hsk] at a; exact a)) ?_
  rintro _ F1 ⟨rfl, hF1⟩
  have o1 : ∀ b, b < 58 ∨ (60 < b ∧ b < 64) ∨ 68 < b → F1 b = F b := fun b hb => by rw [hF1]; exact unM_o F s k hb
  have D1_ : isD F1 56 s k := by rw [hF1]; exact unM_D hD0
  have S1 : dS F1 56 u.1 p := hS0.c3 (by rw [o1 56 (by omega)]) (o1 63 (by omega)) (fun a a1 a2 => o1 a (by omega))
  refine A_aload_n dX6_explore_92 rfl 2 rfl ?_
  refine A_getR (b := 56) dX6_explore_93 fo_RX6_18 L55 rfl ?_
  refine A_getR (b := 59) dX6_explore_96 fo_RX6_89 L56 rfl ?_
  refine A_iload dX6_explore_99 0 rfl ?_
  refine A_iaload t dX6_explore_101 L59 (rfl) (by omega) (lb rfl) ?_
  refine A_topi (nI (s 1 t)) (D1 D1_ (by omega)) ?_
  refine A_if_ne (tgt := 133) dX6_explore_102 rfl (fun h102 => by exact absurd (by rw [h1]; rfl) h102) (fun h102 => ?_)
  refine A_aload_n dX6_explore_105 rfl 2 rfl ?_
  refine A_getR (b := 56) dX6_explore_106 fo_RX6_18 L55 rfl ?_
  refine A_iload dX6_explore_109 0 rfl ?_
  refine A_callV (M' := MX1_take) [.int (nI t)] [] 56 dX6_explore_111 lk_RX6_92 oX1_take iX1_take rfl rfl ⟨lb rfl, lb rfl⟩ (lb rfl) ⟨lb rfl, lb rfl⟩ L56 rfl (x_tk56 t (by omega) D1_ (S1.g w) w h1) ?_
  rintro _ F2 ⟨rfl, hF2⟩
  obtain ⟨o2, z2, c2, a2, D2_⟩ := tk_f (show t < 4 by omega) hF2
  have e12 : ∀ b, b < 56 ∨ 76 < b → F2 b = F b := fun b hb => (o2 b hb).trans (o1 b (by omega))
  have S2 : dS F2 56 u.1 p := S1.c3 z2 c2 a2
  have w2 : gW p u (trS s k p t, trK s k p t) := w.nx ht h1
  have K2 : KT F2 q.1 q.2.1 := x.1.congr (by rw [e12 77 (by omega)]) (e12 78 (by omega)) (e12 80 (by omega))
  have hPB : ∀ j, j < q.1 → wB (q.2.1 j).1 (q.2.1 j).2 := fun j hj => (hJ.2.2.2 j hj).B
  refine A_aload_n dX6_explore_114 rfl 2 rfl ?_
  refine A_aload_n dX6_explore_115 rfl 2 rfl ?_
  refine A_getR (b := 77) dX6_explore_116 fo_RX6_25 L55 rfl ?_
  refine A_aload_n dX6_explore_119 rfl 2 rfl ?_
  refine A_getR (b := 56) dX6_explore_120 fo_RX6_18 L55 rfl ?_
  refine A_callV (M' := MX7_keep) [.ref 56] [.ref 55] 77 dX6_explore_123 lk_RX6_71 oX7_keep iX7_keep rfl rfl ⟨lb rfl, lb rfl⟩ (lb rfl) ⟨lb rfl, lb rfl⟩ L77 rfl (x_keepF F2 (trS s k p t) (trK s k p t) D2_ w2.B q.1 q.2.1 K2 h600 hPB hl h6) ?_
  rintro _ g0 ⟨rfl, hg0⟩
  rw [hg0]
  have e3 : ∀ b, b ≠ 79 → (pkM F2 (trS s k p t) (trK s k p t)) b = F2 b := fun b hb => pkM_o _ _ _ hb
  refine A_iload_n dX6_explore_126 rfl 1 rfl ?_
  refine A_iload dX6_explore_127 0 rfl ?_
  refine A_aload_n dX6_explore_129 rfl 4 rfl ?_
  refine A_callV (M' := MX6_note) [.int (-2), .int (nI i), .int (nI t), .ref 51] [] 55 dX6_explore_130 lk_RX6_75 oX6_note iX6_note rfl rfl ⟨lb rfl, lb rfl⟩ (lb rfl) ⟨lb rfl, lb rfl⟩ L55 rfl (x_noteF _ (nI i) (nI t)) ?_
  rintro _ g0 ⟨rfl, hg0⟩
  rw [hg0]
  refine A_sub [0, 1, 2, 3, 4] rfl ?_
  exact kk _ ⟨⟨x.1.congr (by rw [u2_n _ _ _ (by decide), e3 77 (by decide), e12 77 (by omega)]) ((u2_n _ _ _ (by decide)).trans ((e3 78 (by decide)).trans (e12 78 (by omega)))) ((u2_n _ _ _ (by decide)).trans ((e3 80 (by decide)).trans (e12 80 (by omega)))), x.2.1.c (fun i a1 a2 => by rw [u2, ur_s, upd_n _ _ (by omega), e3 55 (by decide), e12 55 (by omega)]) ((u2_n _ _ _ (by decide)).trans ((e3 84 (by decide)).trans (e12 84 (by omega)))) ((u2_n _ _ _ (by decide)).trans ((e3 85 (by decide)).trans (e12 85 (by omega)))), by rw [u2, ur_s, upd_s]; rfl, fun j a b => by rw [u2_n _ _ _ (by decide), u2_n _ _ _ (by decide), e3 81 (by decide), e3 82 (by decide), e12 81 (by omega), e12 82 (by omega)]; exact x.2.2.2.1 j a b, fun j b => by rw [u2_n _ _ _ (by decide), e3 83 (by decide), e12 83 (by omega)]; exact x.2.2.2.2 j b⟩, ⟨_, _, D2_.congr (fun a a1 a2 => (u2_n _ _ _ (by omega)).trans (e3 a (by omega)))⟩, S2.congr (fun a a1 a2 => (u2_n _ _ _ (by omega)).trans (e3 a (by omega))), fun b hb => (u2_n _ _ _ (by omega)).trans ((e3 b (by omega)).trans ((e12 b (by omega)).trans (hf b hb))), by rw [u2, ur_s, upd_n _ _ (by decide), e3 55 (by decide), e12 55 (by omega)]; exact h0⟩
theorem lx_exA (f0 F : Mem) (p : Ro) (d : Cd) (u : Pt) (q : Sr) (i t : Nat) (s : Sg) (k : Ro) (Q : Option Value → Mem → Prop) (hx : CX f0 p d u F q) (hJ : Jq p u q) (hNc : XNc f0 d.1 d.2.1 d.2.2.1 d.2.2.2) (hwN : wN d.1 d.2.1 d.2.2.1) (hi : i < q.1) (ht : t < u.1 13 0) (hal : ¬ q.2.2.2.2.2 = 0) (hsk : q.2.1 i = (s, k)) (h1 : s 1 t = 0) (hl : ¬ anyL q (trS s k p t, trK s k p t)) (h6 : q.1 < 600) (kk : ∀ h, CX f0 p d u h (addQ q i t (q.2.2.2.2.1 i + 1) (trS s k p t, trK s k p t)) → A (cM MX6_explore 0 0 layT layT Q) 133 [(4, .int (nI t)), (3, .int (nI i)), (0, .ref 55), (1, .ref 1), (2, .ref 51)] [] h) : A (cM MX6_explore 0 0 layT layT Q) 80 [(4, .int (nI t)), (3, .int (nI i)), (0, .ref 55), (1, .ref 1), (2, .ref 51)] [] F := by
  have w : gW p u (s, k) := by rw [← hsk]; exact hJ.2.2.2 i hi
  have h13 : u.1 13 0 ≤ 4 := by have a := w.1.2.2.2.2.1; rw [w.2.1] at a; exact a
  obtain ⟨x, ⟨s0, k0, hD0⟩, hS0, hf, h0⟩ := hx
  have hBv := w.B
  have h600 := hJ.2.1
  refine A_aload_n dX6_explore_80 rfl 2 rfl ?_
  refine A_getR (b := 77) dX6_explore_81 fo_RX6_25 L55 rfl ?_
  refine A_iload_n dX6_explore_84 rfl 1 rfl ?_
  refine A_aload_n dX6_explore_85 rfl 2 rfl ?_
  refine A_getR (b := 56) dX6_explore_86 fo_RX6_18 L55 rfl ?_
  refine A_callV (M' := MX7_unpack) [.int (nI i), .ref 56] [] 77 dX6_explore_89 lk_RX6_85 oX7_unpack iX7_unpack rfl rfl ⟨lb rfl, lb rfl⟩ (lb rfl) ⟨lb rfl, lb rfl⟩ L77 rfl (x_unpack F s k hBv q.1 i x.1.1 h600 hi (fun j hj => by have a := x.1.2.1 i hi j hj; rw [hsk] at a; exact a)) ?_
  rintro _ F1 ⟨rfl, hF1⟩
  have o1 : ∀ b, b < 58 ∨ (60 < b ∧ b < 64) ∨ 68 < b → F1 b = F b := fun b hb => by rw [hF1]; exact unM_o F s k hb
  have D1_ : isD F1 56 s k := by rw [hF1]; exact unM_D hD0
  have S1 : dS F1 56 u.1 p := hS0.c3 (by rw [o1 56 (by omega)]) (o1 63 (by omega)) (fun a a1 a2 => o1 a (by omega))
  refine A_aload_n dX6_explore_92 rfl 2 rfl ?_
  refine A_getR (b := 56) dX6_explore_93 fo_RX6_18 L55 rfl ?_
  refine A_getR (b := 59) dX6_explore_96 fo_RX6_89 L56 rfl ?_
  refine A_iload dX6_explore_99 0 rfl ?_
  refine A_iaload t dX6_explore_101 L59 (rfl) (by omega) (lb rfl) ?_
  refine A_topi (nI (s 1 t)) (D1 D1_ (by omega)) ?_
  refine A_if_ne (tgt := 133) dX6_explore_102 rfl (fun h102 => by exact absurd (by rw [h1]; rfl) h102) (fun h102 => ?_)
  refine A_aload_n dX6_explore_105 rfl 2 rfl ?_
  refine A_getR (b := 56) dX6_explore_106 fo_RX6_18 L55 rfl ?_
  refine A_iload dX6_explore_109 0 rfl ?_
  refine A_callV (M' := MX1_take) [.int (nI t)] [] 56 dX6_explore_111 lk_RX6_92 oX1_take iX1_take rfl rfl ⟨lb rfl, lb rfl⟩ (lb rfl) ⟨lb rfl, lb rfl⟩ L56 rfl (x_tk56 t (by omega) D1_ (S1.g w) w h1) ?_
  rintro _ F2 ⟨rfl, hF2⟩
  obtain ⟨o2, z2, c2, a2, D2_⟩ := tk_f (show t < 4 by omega) hF2
  have e12 : ∀ b, b < 56 ∨ 76 < b → F2 b = F b := fun b hb => (o2 b hb).trans (o1 b (by omega))
  have S2 : dS F2 56 u.1 p := S1.c3 z2 c2 a2
  have w2 : gW p u (trS s k p t, trK s k p t) := w.nx ht h1
  have K2 : KT F2 q.1 q.2.1 := x.1.congr (by rw [e12 77 (by omega)]) (e12 78 (by omega)) (e12 80 (by omega))
  have hPB : ∀ j, j < q.1 → wB (q.2.1 j).1 (q.2.1 j).2 := fun j hj => (hJ.2.2.2 j hj).B
  refine A_aload_n dX6_explore_114 rfl 2 rfl ?_
  refine A_aload_n dX6_explore_115 rfl 2 rfl ?_
  refine A_getR (b := 77) dX6_explore_116 fo_RX6_25 L55 rfl ?_
  refine A_aload_n dX6_explore_119 rfl 2 rfl ?_
  refine A_getR (b := 56) dX6_explore_120 fo_RX6_18 L55 rfl ?_
  refine A_callV (M' := MX7_keep) [.ref 56] [.ref 55] 77 dX6_explore_123 lk_RX6_71 oX7_keep iX7_keep rfl rfl ⟨lb rfl, lb rfl⟩ (lb rfl) ⟨lb rfl, lb rfl⟩ L77 rfl (x_keepA F2 (trS s k p t) (trK s k p t) D2_ w2.B q.1 q.2.1 K2 h600 hPB hl h6) ?_
  rintro _ H ⟨rfl, K3, e3⟩
  have eF : ∀ b, b < 56 ∨ 80 < b → H b = F b := fun b hb => (e3 b (by omega)).trans (e12 b (by omega))
  refine A_iload_n dX6_explore_126 rfl 1 rfl ?_
  refine A_iload dX6_explore_127 0 rfl ?_
  refine A_aload_n dX6_explore_129 rfl 4 rfl ?_
  refine A_callV (M' := MX6_note) [.int (nI q.1), .int (nI i), .int (nI t), .ref 51] [] 55 dX6_explore_130 lk_RX6_75 oX6_note iX6_note rfl rfl ⟨lb rfl, lb rfl⟩ (lb rfl) ⟨lb rfl, lb rfl⟩ L55 rfl (x_note1 H (trS s k p t) (trK s k p t) p u (u.1 13 0) q.1 q.2.1 (D2_.congr (fun a a1 a2 => e3 a (by omega))) ((S2.congr (fun a a1 a2 => e3 a (by omega))).g w2) w2 w2.2.1 h6 (fun j hj => (hJ.2.2.2 j hj).1.2.2.1) d (hNc.congr (fun a a1 a2 => (eF a (by omega)).trans (hf a (by omega)))) hwN (x.2.1.c (fun i _ _ => by rw [eF 55 (by omega)]) (eF 84 (by omega)) (eF 85 (by omega))) i t (by omega) (by omega)) ?_
  rintro _ h ⟨rfl, m4, a81, a82, a83, a55, ab⟩
  refine A_sub [0, 1, 2, 3, 4] rfl ?_
  exact kk _ ⟨XE_add x i t hJ.1 hi (K3.congr (by rw [ab 77 (by decide) (by omega)]) (ab 78 (by decide) (by omega)) (ab 80 (by decide) (by omega))) m4 (by rw [a55 8 (by decide), eF 55 (by omega), x.2.2.1, show q.2.2.2.2.2 = 1 by have := hJ.2.2.1; omega]; rfl) (by rw [a81, eF 81 (by omega)]) (by rw [a82, eF 82 (by omega)]) (by rw [a83, eF 83 (by omega)]), ⟨_, _, D2_.congr (fun a a1 a2 => (ab a (by omega) (by omega)).trans (e3 a (by omega)))⟩, S2.congr (fun a a1 a2 => (ab a (by omega) (by omega)).trans (e3 a (by omega))), fun b hb => (ab b (by omega) (by omega)).trans ((eF b (by omega)).trans (hf b hb)), by rw [a55 0 (by decide), eF 55 (by omega)]; exact h0⟩
theorem lx_ex (f0 F : Mem) (p : Ro) (d : Cd) (u : Pt) (q : Sr) (i t : Nat) (Q : Option Value → Mem → Prop) (hx : CX f0 p d u F q) (hJ : Jq p u q) (hNc : XNc f0 d.1 d.2.1 d.2.2.1 d.2.2.2) (hwN : wN d.1 d.2.1 d.2.2.1) (hi : i < q.1) (ht : t < u.1 13 0) (hal : ¬ q.2.2.2.2.2 = 0) (kk : ∀ h, CX f0 p d u h (one p i t q) → A (cM MX6_explore 0 0 layT layT Q) 133 [(4, .int (nI t)), (3, .int (nI i)), (0, .ref 55), (1, .ref 1), (2, .ref 51)] [] h) : A (cM MX6_explore 0 0 layT layT Q) 80 [(4, .int (nI t)), (3, .int (nI i)), (0, .ref 55), (1, .ref 1), (2, .ref 51)] [] F := by
  unfold one at kk
  by_cases h1 : (q.2.1 i).1 1 t = 0
  · rw [if_pos h1] at kk
    by_cases hl : anyL q (nx p (q.2.1 i) t)
    · rw [fnd_l _ _ _ hl] at kk
      exact lx_exL f0 F p d u q i t _ _ Q hx hJ hNc hwN hi ht hal rfl h1 hl kk
    · by_cases h6 : q.1 < 600
      · rw [fnd_a _ _ _ hl h6] at kk
        exact lx_exA f0 F p d u q i t _ _ Q hx hJ hNc hwN hi ht hal rfl h1 hl h6 kk
      · rw [fnd_e _ _ _ hl h6] at kk
        exact lx_exF f0 F p d u q i t _ _ Q hx hJ hNc hwN hi ht hal rfl h1 hl h6 kk
  · rw [if_neg h1] at kk
    exact lx_ex0 f0 F p d u q i t _ _ Q hx hJ hNc hwN hi ht hal rfl h1 kk
