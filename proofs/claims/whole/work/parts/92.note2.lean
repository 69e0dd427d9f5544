/-! the class notes a picture -/
theorem f5_r (G : Mem) (A B : Nat → Prop) : f5 G G A B := ⟨fun _ _ _ => rfl, fun _ _ => rfl⟩
theorem sub1 {a : Nat} (h : a < 2 ^ 31) : nI a - 1 = -1 ↔ a = 0 := by
  constructor
  · intro q
    have e : nI a = 0 := by
      have z : nI a - 1 + 1 = -1 + 1 := by rw [q]
      rw [Int32.sub_add_cancel] at z
      exact z
    exact (nI_z h).mp e
  · intro q; rw [q]; decide
theorem f5.D {G H : Mem} {A B : Nat → Prop} (q : f5 G H A B) (hB : ∀ b, 56 ≤ b → b ≤ 76 → ¬ B b) {s : Sg} {k : Ro} (h : isD G 56 s k) : isD H 56 s k := h.congr (fun a a1 a2 => q.1 a (by omega) (hB a a1 a2))
theorem f5.S {G H : Mem} {A B : Nat → Prop} (q : f5 G H A B) (hB : ∀ b, 56 ≤ b → b ≤ 76 → ¬ B b) {s : Sg} {p : Ro} (h : dS G 56 s p) : dS H 56 s p := h.congr (fun a a1 a2 => q.1 a (by omega) (hB a a1 a2))
theorem oL_s (n : Nat) (P : Nat → Pt) (N : Nat) (v : Pt) : oL n (upN P N v) (N + 1) = if ovb n v = 1 ∧ ∀ j, j < N → ¬ (ovb n (P j) = 1 ∧ cw (P j).2 = cw v.2) then ((oL n P N).1 + 1, upN (oL n P N).2 (oL n P N).1 N) else oL n P N := by
  have c : oL n (upN P N v) N = oL n P N := ol_c (fun i hi => by rw [up_lo i hi]; exact ⟨rfl, rfl⟩)
  show (if isO (fun i => ovb n (upN P N v i)) (fun i => cw (upN P N v i).2) N then ((oL n (upN P N v) N).1 + 1, upN (oL n (upN P N v) N).2 (oL n (upN P N v) N).1 N) else oL n (upN P N v) N) = _
  rw [c]
  have q : isO (fun i => ovb n (upN P N v i)) (fun i => cw (upN P N v i).2) N ↔ (ovb n v = 1 ∧ ∀ j, j < N → ¬ (ovb n (P j) = 1 ∧ cw (P j).2 = cw v.2)) := by
    show (ovb n (upN P N v N) = 1 ∧ ∀ j, j < N → ¬ (ovb n (upN P N v j) = 1 ∧ cw (upN P N v j).2 = cw (upN P N v N).2)) ↔ _
    rw [upN_s]
    refine and_congr_right (fun _ => forall_congr' (fun j => ?_))
    constructor
    · intro a hj; have := a hj; rw [up_lo j hj] at this; exact this
    · intro a hj; rw [up_lo j hj]; exact a hj
  by_cases z : isO (fun i => ovb n (upN P N v i)) (fun i => cw (upN P N v i).2) N
  · rw [if_pos z, if_pos (q.mp z)]
  · rw [if_neg z, if_neg (fun t => z (q.mpr t))]
theorem cnt_s (φ : Pt → Nat) (P : Nat → Pt) (N : Nat) (v : Pt) : cnt (fun i => φ (upN P N v i)) (N + 1) = cnt (fun i => φ (P i)) N + φ v := by
  show cnt (fun i => φ (upN P N v i)) N + φ (upN P N v N) = _
  rw [upN_s, cnt_c (h := fun i => φ (P i)) (fun i hi => by rw [up_lo i hi])]
theorem fi_s (φ : Pt → Nat) (P : Nat → Pt) (N : Nat) (v : Pt) : fi (fun i => φ (upN P N v i)) (N + 1) = if fi (fun i => φ (P i)) N = 0 then (if φ v = 1 then N + 1 else 0) else fi (fun i => φ (P i)) N := by
  show (if fi (fun i => φ (upN P N v i)) N = 0 then (if φ (upN P N v N) = 1 then N + 1 else 0) else fi (fun i => φ (upN P N v i)) N) = _
  rw [upN_s, fi_c (h := fun i => φ (P i)) (fun i hi => by rw [up_lo i hi])]
theorem x_ov56 {G : Mem} {s : Sg} {k p : Ro} {u : Pt} (hD : isD G 56 s k) (hS : dS G 56 s p) (w : gW p u (s, k)) : C0 MX1_isOver [.ref 56] G (rt (some (.int (bz (overP s (s 13 0))))) G) := by
  have e := x_isOver G 56 s k D56 (n := s 13 0) hS.1 w.1.2.2.2.2.1
  rw [hD.eq] at e
  exact e
theorem x_st56 {G : Mem} {s : Sg} {k p : Ro} {u : Pt} (hD : isD G 56 s k) (hS : dS G 56 s p) (w : gW p u (s, k)) : C0 MX1_sticks [.ref 56] G (rt (some (.int (bz (stickP s (s 13 0))))) G) := by
  have e := x_sticks G 56 s k D56 (n := s 13 0) hS.1 w.1.2.2.2.2.1
  rw [hD.eq] at e
  exact e
theorem s3_0 {G : Mem} {n N : Nat} {P : Nat → Pt} (h : s3 G n N P) {v : Pt} (hv : ¬ overP v.1 n) : s3 G n (N + 1) (upN P N v) := by
  have z : ovb n v = 0 := if_neg hv
  unfold s3
  rw [cnt_s (ovb n), oL_s, if_neg (fun q => by rw [z] at q; exact absurd q.1 (by decide)), z, Nat.add_zero]
  exact ⟨h.1, h.2.1, fun k hk => by rw [up_lo _ (ol_lt _ _ N k hk).1]; exact h.2.2 k hk⟩
theorem s3_L {G H : Mem} {n N : Nat} {P : Nat → Pt} (h : s3 G n N P) {v : Pt} (hv : overP v.1 n) (e : ∃ j, j < N ∧ ovb n (P j) = 1 ∧ cw (P j).2 = cw v.2) (h13 : H 55 13 = G 55 13 + 1) (h14 : H 55 14 = G 55 14) (h84 : H 84 = G 84) : s3 H n (N + 1) (upN P N v) := by
  have z : ovb n v = 1 := if_pos hv
  unfold s3
  rw [cnt_s (ovb n), oL_s, if_neg (fun q => by obtain ⟨j, hj, e⟩ := e; exact q.2 j hj e), z, h13, h14, h84, h.1]
  exact ⟨(nI_succ _).symm, h.2.1, fun k hk => by rw [up_lo _ (ol_lt _ _ N k hk).1]; exact h.2.2 k hk⟩
theorem s3_A {G H : Mem} {n N : Nat} {P : Nat → Pt} (h : s3 G n N P) {v : Pt} (hv : overP v.1 n) (e : ¬ ∃ j, j < N ∧ ovb n (P j) = 1 ∧ cw (P j).2 = cw v.2) (h13 : H 55 13 = G 55 13 + 1) (h14 : H 55 14 = nI (oL n P N).1 + 1) (h84 : H 84 = upd (G 84) (oL n P N).1 (nI (cw v.2))) : s3 H n (N + 1) (upN P N v) := by
  have z : ovb n v = 1 := if_pos hv
  unfold s3
  rw [cnt_s (ovb n), oL_s, if_pos ⟨z, fun j hj q => e ⟨j, hj, q⟩⟩, z, h13, h14, h84, h.1]
  refine ⟨(nI_succ _).symm, (nI_succ _).symm, fun k hk => ?_⟩
  have hk : k < (oL n P N).1 + 1 := hk
  show upd (G 84) (oL n P N).1 (nI (cw v.2)) k = nI (cw (upN P N v (upN (oL n P N).2 (oL n P N).1 N k)).2)
  by_cases q : k = (oL n P N).1
  · rw [q, upd_s, upN_s, upN_s]
  · rw [upd_n _ _ q, upN_n _ _ q, up_lo _ (ol_lt _ _ N k (show k < (oL n P N).1 by omega)).1]; exact h.2.2 k (by omega)
theorem oc_e {G : Mem} {n N : Nat} {P : Nat → Pt} (h : s3 G n N P) (hP : ∀ j, j < N → wfK (P j).2) {k : Ro} (hk : wfK k) : (∃ j, j < (oL n P N).1 ∧ G 84 j = nI (cw k)) ↔ ∃ j, j < N ∧ ovb n (P j) = 1 ∧ cw (P j).2 = cw k := by
  rw [← ol_mem (fun i => ovb n (P i)) (fun i => cw (P i).2) (cw k) N]
  constructor
  · rintro ⟨j, hj, e⟩
    rw [h.2.2 j hj] at e
    exact ⟨j, hj, nI_inj (cw_b (hP _ (ol_lt _ _ N j hj).1)) (cw_b hk) e⟩
  · rintro ⟨j, hj, e⟩
    exact ⟨j, hj, by rw [h.2.2 j hj, e]⟩
theorem lx_n152 (G : Mem) (s : Sg) (k p : Ro) (u : Pt) (n N : Nat) (P : Nat → Pt) (Q : Option Value → Mem → Prop) (hD : isD G 56 s k) (hS : dS G 56 s p) (w : gW p u (s, k)) (hn : s 13 0 = n) (hN : N < 600) (h4 : s4 G p n N P) (kk : ∀ h, s4 h p n (N + 1) (upN P N (s, k)) → f5 G h (fun i => i = 9) (fun b => b = 85) → Q none h) : A (cM MX6_note 0 0 layT layT Q) 152 [(0, .ref 55)] [] G := by
  refine A_aload_n dX6_note_152 rfl 0 rfl ?_
  refine A_callV (M' := MX6_noteMonitors) [] [] 55 dX6_note_153 lk_RX6_127 oX6_noteMonitors iX6_noteMonitors rfl rfl ⟨lb rfl, lb rfl⟩ (lb rfl) ⟨lb rfl, lb rfl⟩ L55 rfl (x_nm G (neP P N) s k p u hD hS w h4.1) ?_
  rintro _ g0 ⟨rfl, hg0⟩
  rw [hg0]
  exact A_vret dX6_note_156 rfl (kk _ (s4_n h4 (s, k) hn) (nm_f ..))
theorem lx_n1280 (G : Mem) (s : Sg) (k p : Ro) (u : Pt) (n N : Nat) (P : Nat → Pt) (Q : Option Value → Mem → Prop) (hD : isD G 56 s k) (hS : dS G 56 s p) (w : gW p u (s, k)) (hn : s 13 0 = n) (hN : N < 600) (h3 : s3 G n N P) (hP : ∀ j, j < N → wfK (P j).2) (hv : ¬ overP s n) (kk : ∀ h, s3 h n (N + 1) (upN P N (s, k)) → f5 G h (fun i => i = 13 ∨ i = 14) (fun b => b = 84) → A (cM MX6_note 0 0 layT layT Q) 152 [(0, .ref 55)] [] h) : A (cM MX6_note 0 0 layT layT Q) 128 [(0, .ref 55)] [] G := by
  refine A_aload_n dX6_note_128 rfl 0 rfl ?_
  refine A_getR (b := 56) dX6_note_129 fo_RX6_18 L55 rfl ?_
  refine A_callV (M' := MX1_isOver) [] [] 56 dX6_note_132 lk_RX6_121 oX1_isOver iX1_isOver rfl rfl ⟨lb rfl, lb rfl⟩ (lb rfl) ⟨lb rfl, lb rfl⟩ L56 rfl (x_ov56 hD hS w) ?_
  rintro _ g0 ⟨rfl, hg0⟩
  rw [hg0]
  refine A_topi (bz (overP s n)) (by rw [hn]) ?_
  refine A_if_eq (tgt := 152) dX6_note_135 rfl (fun h135 => ?_) (fun h135 => by exact absurd (bz_n0.mp h135) hv)
  exact kk G (s3_0 h3 hv) (f5_r G _ _)
theorem lx_n128L (G : Mem) (s : Sg) (k p : Ro) (u : Pt) (n N : Nat) (P : Nat → Pt) (Q : Option Value → Mem → Prop) (hD : isD G 56 s k) (hS : dS G 56 s p) (w : gW p u (s, k)) (hn : s 13 0 = n) (hN : N < 600) (h3 : s3 G n N P) (hP : ∀ j, j < N → wfK (P j).2) (hv : overP s n) (he : ∃ j, j < N ∧ ovb n (P j) = 1 ∧ cw (P j).2 = cw k) (kk : ∀ h, s3 h n (N + 1) (upN P N (s, k)) → f5 G h (fun i => i = 13 ∨ i = 14) (fun b => b = 84) → A (cM MX6_note 0 0 layT layT Q) 152 [(0, .ref 55)] [] h) : A (cM MX6_note 0 0 layT layT Q) 128 [(0, .ref 55)] [] G := by
  refine A_aload_n dX6_note_128 rfl 0 rfl ?_
  refine A_getR (b := 56) dX6_note_129 fo_RX6_18 L55 rfl ?_
  refine A_callV (M' := MX1_isOver) [] [] 56 dX6_note_132 lk_RX6_121 oX1_isOver iX1_isOver rfl rfl ⟨lb rfl, lb rfl⟩ (lb rfl) ⟨lb rfl, lb rfl⟩ L56 rfl (x_ov56 hD hS w) ?_
  rintro _ g0 ⟨rfl, hg0⟩
  rw [hg0]
  refine A_topi (bz (overP s n)) (by rw [hn]) ?_
  refine A_if_eq (tgt := 152) dX6_note_135 rfl (fun h135 => by exact absurd hv (bz_0.mp h135)) (fun h135 => ?_)
  refine A_aload_n dX6_note_138 rfl 0 rfl ?_
  refine A_dup dX6_note_139 rfl ?_
  refine A_getI dX6_note_140 fo_RX6_61 L55 rfl ?_
  refine A_iconst (v := 1) dX6_note_143 rfl ?_
  refine A_iadd dX6_note_144 ?_
  refine A_putI dX6_note_145 fo_RX6_61 L55 rfl ?_
  refine A_aload_n dX6_note_148 rfl 0 rfl ?_
  refine A_callV (M' := MX6_noteOutcome) [] [] 55 dX6_note_149 lk_RX6_124 oX6_noteOutcome iX6_noteOutcome rfl rfl ⟨lb rfl, lb rfl⟩ (lb rfl) ⟨lb rfl, lb rfl⟩ L55 rfl (x_noL (u2 G 55 13 (G 55 13 + 1)) s k (oL n P N).1 (hD.congr (fun a a1 a2 => u2_n _ _ _ (by omega))) w.1.2.2.1 (by rw [u2, ur_s, upd_n _ _ (by decide)]; exact h3.2.1) (by have q : (oL n P N).1 ≤ N := ol_le (fun i => ovb n (P i)) (fun i => cw (P i).2) N; omega) (by rw [u2_n _ _ _ (by decide)]; exact (oc_e h3 hP w.1.2.2.1).mpr he)) ?_
  rintro _ g0 ⟨rfl, hg0⟩
  rw [hg0]
  exact kk _ (s3_L h3 hv he (by rw [u2, ur_s, upd_s]) (by rw [u2, ur_s, upd_n _ _ (by decide)]) (u2_n _ _ _ (by decide))) ⟨fun b b1 b2 => u2_n _ _ _ b1, fun i hi => by rw [u2, ur_s, upd_n _ _ (fun q => hi (.inl q))]⟩
theorem lx_n128A (G : Mem) (s : Sg) (k p : Ro) (u : Pt) (n N : Nat) (P : Nat → Pt) (Q : Option Value → Mem → Prop) (hD : isD G 56 s k) (hS : dS G 56 s p) (w : gW p u (s, k)) (hn : s 13 0 = n) (hN : N < 600) (h3 : s3 G n N P) (hP : ∀ j, j < N → wfK (P j).2) (hv : overP s n) (he : ¬ ∃ j, j < N ∧ ovb n (P j) = 1 ∧ cw (P j).2 = cw k) (kk : ∀ h, s3 h n (N + 1) (upN P N (s, k)) → f5 G h (fun i => i = 13 ∨ i = 14) (fun b => b = 84) → A (cM MX6_note 0 0 layT layT Q) 152 [(0, .ref 55)] [] h) : A (cM MX6_note 0 0 layT layT Q) 128 [(0, .ref 55)] [] G := by
  refine A_aload_n dX6_note_128 rfl 0 rfl ?_
  refine A_getR (b := 56) dX6_note_129 fo_RX6_18 L55 rfl ?_
  refine A_callV (M' := MX1_isOver) [] [] 56 dX6_note_132 lk_RX6_121 oX1_isOver iX1_isOver rfl rfl ⟨lb rfl, lb rfl⟩ (lb rfl) ⟨lb rfl, lb rfl⟩ L56 rfl (x_ov56 hD hS w) ?_
  rintro _ g0 ⟨rfl, hg0⟩
  rw [hg0]
  refine A_topi (bz (overP s n)) (by rw [hn]) ?_
  refine A_if_eq (tgt := 152) dX6_note_135 rfl (fun h135 => by exact absurd hv (bz_0.mp h135)) (fun h135 => ?_)
  refine A_aload_n dX6_note_138 rfl 0 rfl ?_
  refine A_dup dX6_note_139 rfl ?_
  refine A_getI dX6_note_140 fo_RX6_61 L55 rfl ?_
  refine A_iconst (v := 1) dX6_note_143 rfl ?_
  refine A_iadd dX6_note_144 ?_
  refine A_putI dX6_note_145 fo_RX6_61 L55 rfl ?_
  refine A_aload_n dX6_note_148 rfl 0 rfl ?_
  refine A_callV (M' := MX6_noteOutcome) [] [] 55 dX6_note_149 lk_RX6_124 oX6_noteOutcome iX6_noteOutcome rfl rfl ⟨lb rfl, lb rfl⟩ (lb rfl) ⟨lb rfl, lb rfl⟩ L55 rfl (x_noA (u2 G 55 13 (G 55 13 + 1)) s k (oL n P N).1 (hD.congr (fun a a1 a2 => u2_n _ _ _ (by omega))) w.1.2.2.1 (by rw [u2, ur_s, upd_n _ _ (by decide)]; exact h3.2.1) (by have q : (oL n P N).1 ≤ N := ol_le (fun i => ovb n (P i)) (fun i => cw (P i).2) N; omega) (by rw [u2_n _ _ _ (by decide)]; exact fun q => he ((oc_e h3 hP w.1.2.2.1).mp q))) ?_
  rintro _ g0 ⟨rfl, hg0⟩
  rw [hg0]
  exact kk _ (s3_A h3 hv he (by rw [u2, ur_s, upd_n _ _ (by decide), u2_n _ _ _ (by decide), u2, ur_s, upd_s]) (by rw [u2, ur_s, upd_s]) (by rw [u2_n _ _ _ (by decide), u2, ur_s, u2_n _ _ _ (by decide)])) ⟨fun b b1 b2 => by rw [u2_n _ _ _ b1, u2_n _ _ _ b2, u2_n _ _ _ b1], fun i hi => by rw [u2, ur_s, upd_n _ _ (fun q => hi (.inr q)), u2_n _ _ _ (by decide), u2, ur_s, upd_n _ _ (fun q => hi (.inl q))]⟩
theorem lx_n128 (G : Mem) (s : Sg) (k p : Ro) (u : Pt) (n N : Nat) (P : Nat → Pt) (Q : Option Value → Mem → Prop) (hD : isD G 56 s k) (hS : dS G 56 s p) (w : gW p u (s, k)) (hn : s 13 0 = n) (hN : N < 600) (h3 : s3 G n N P) (hP : ∀ j, j < N → wfK (P j).2) (kk : ∀ h, s3 h n (N + 1) (upN P N (s, k)) → f5 G h (fun i => i = 13 ∨ i = 14) (fun b => b = 84) → A (cM MX6_note 0 0 layT layT Q) 152 [(0, .ref 55)] [] h) : A (cM MX6_note 0 0 layT layT Q) 128 [(0, .ref 55)] [] G := by
  by_cases hv : overP s n
  · by_cases he : ∃ j, j < N ∧ ovb n (P j) = 1 ∧ cw (P j).2 = cw k
    · exact lx_n128L G s k p u n N P Q hD hS w hn hN h3 hP hv he kk
    · exact lx_n128A G s k p u n N P Q hD hS w hn hN h3 hP hv he kk
  · exact lx_n1280 G s k p u n N P Q hD hS w hn hN h3 hP hv kk
