/-! the class notes a picture: failing, sticking, the whole -/
theorem s2_0 {G : Mem} {d : Cd} {N : Nat} {P : Nat → Pt} (h : s2' G d N P) {v : Pt} (hv : ¬ fi (fun i => fab d (P i)) N = 0 ∨ allS d.1 d.2.1 d.2.2.1 d.2.2.2 v.2) : s2' G d (N + 1) (upN P N v) := by
  unfold s2'
  rw [fi_s (fab d)]
  rcases hv with q | q
  · rw [if_neg q]; exact h
  · by_cases z : fi (fun i => fab d (P i)) N = 0
    · rw [if_pos z, if_neg (by unfold fab; rw [if_pos q]; decide)]
      rw [s2', z] at h; exact h
    · rw [if_neg z]; exact h
theorem s2_1 {G : Mem} {d : Cd} {N : Nat} {P : Nat → Pt} (z : fi (fun i => fab d (P i)) N = 0) {v : Pt} (hv : ¬ allS d.1 d.2.1 d.2.2.1 d.2.2.2 v.2) : s2' (u2 G 55 11 (nI N)) d (N + 1) (upN P N v) := by
  unfold s2'
  rw [fi_s (fab d), if_pos z, if_pos (by unfold fab; rw [if_neg hv]), u2, ur_s, upd_s, nI_pred]
theorem s1_0 {G : Mem} {n N : Nat} {P : Nat → Pt} (h : s1 G n N P) {v : Pt} (hv : ¬ stickP v.1 n) : s1 G n (N + 1) (upN P N v) := by
  have z : stb n v = 0 := if_neg hv
  unfold s1
  rw [cnt_s (stb n), fi_s (stb n), z, Nat.add_zero]
  refine ⟨h.1, ?_⟩
  by_cases q : fi (fun i => stb n (P i)) N = 0
  · rw [if_pos q, if_neg (by decide)]; have := h.2; rw [q] at this; exact this
  · rw [if_neg q]; exact h.2
theorem s1_1 {G : Mem} {n N : Nat} {P : Nat → Pt} (h : s1 G n N P) (hN : N < 600) {v : Pt} (hv : stickP v.1 n) (x : Int32) (hx : (G 55 10 = -1 ∧ x = nI N) ∨ (¬ G 55 10 = -1 ∧ x = G 55 10)) : s1 (u2 (u2 G 55 12 (G 55 12 + 1)) 55 10 x) n (N + 1) (upN P N v) := by
  have z : stb n v = 1 := if_pos hv
  have hl := fi_le (fun i => stb n (P i)) N
  unfold s1
  rw [cnt_s (stb n), fi_s (stb n), z, u2, ur_s, upd_n _ _ (by decide), upd_s, u2, ur_s, upd_s, h.1]
  refine ⟨(nI_succ _).symm, ?_⟩
  rw [h.2, sub1 (by omega)] at hx
  by_cases q : fi (fun i => stb n (P i)) N = 0
  · rw [if_pos q, if_pos rfl, nI_pred]
    rcases hx with e | e
    · exact e.2
    · exact absurd q e.1
  · rw [if_neg q]
    rcases hx with e | e
    · exact absurd e.1 q
    · exact e.2
theorem lx_n100 (G : Mem) (s : Sg) (k p : Ro) (u : Pt) (n N : Nat) (P : Nat → Pt) (Q : Option Value → Mem → Prop) (hD : isD G 56 s k) (hS : dS G 56 s p) (w : gW p u (s, k)) (hn : s 13 0 = n) (hN : N < 600) (d : Cd) (hNc : XNc G d.1 d.2.1 d.2.2.1 d.2.2.2) (hwN : wN d.1 d.2.1 d.2.2.1) (h2 : s2' G d N P) (kk : ∀ h, s2' h d (N + 1) (upN P N (s, k)) → f5 G h (fun i => i = 11) (fun _ => False) → A (cM MX6_note 0 0 layT layT Q) 128 [(0, .ref 55)] [] h) : A (cM MX6_note 0 0 layT layT Q) 100 [(0, .ref 55), (1, .int (nI N)), (4, .ref 51)] [] G := by
  refine A_aload_n dX6_note_100 rfl 0 rfl ?_
  refine A_getI dX6_note_101 fo_RX6_55 L55 rfl ?_
  refine A_topi (nI (fi (fun i => fab d (P i)) N) - 1) h2 ?_
  refine A_iconst (v := -1) dX6_note_104 rfl ?_
  refine A_icmp_ne (tgt := 128) dX6_note_105 rfl (fun h105 => ?_) (fun h105 => ?_)
  · have hl := fi_le (fun i => fab d (P i)) N
    rw [sub1 (by omega)] at h105
    refine A_sub [0] rfl ?_
    exact kk G (s2_0 h2 (by first | exact .inl h105 | exact .inr (bz_n0.mp h120))) (f5_r G _ _)
  · have hl := fi_le (fun i => fab d (P i)) N
    rw [sub1 (by omega)] at h105
    refine A_aload dX6_note_108 2 rfl ?_
    refine A_aload_n dX6_note_110 rfl 0 rfl ?_
    refine A_getR (b := 56) dX6_note_111 fo_RX6_18 L55 rfl ?_
    refine A_getR (b := 68) dX6_note_114 fo_RX6_112 L56 rfl ?_
    refine A_callV (M' := MX0_allSo) [.ref 68] [] 51 dX6_note_117 lk_RX6_115 oX0_allSo iX0_allSo rfl rfl ⟨lb rfl, lb rfl⟩ (lb rfl) ⟨lb rfl, lb rfl⟩ L51 rfl (x_allSo 68 k G d.1 d.2.1 d.2.2.1 d.2.2.2 rfl (fun c hc => D7 hD hc) hNc hwN) ?_
    rintro _ g0 ⟨rfl, hg0⟩
    rw [hg0]
    refine A_if_ne (tgt := 128) dX6_note_120 rfl (fun h120 => ?_) (fun h120 => ?_)
    · refine A_sub [0] rfl ?_
      exact kk G (s2_0 h2 (by first | exact .inl h105 | exact .inr (bz_n0.mp h120))) (f5_r G _ _)
    · refine A_aload_n dX6_note_123 rfl 0 rfl ?_
      refine A_iload_n dX6_note_124 rfl 1 rfl ?_
      refine A_putI dX6_note_125 fo_RX6_55 L55 rfl ?_
      refine A_sub [0] rfl ?_
      exact kk _ (s2_1 h105 (bz_0.mp h120)) ⟨fun b b1 _ => u2_n _ _ _ b1, fun i hi => by rw [u2, ur_s, upd_n _ _ hi]⟩
theorem lx_n60 (G : Mem) (s : Sg) (k p : Ro) (u : Pt) (n N : Nat) (P : Nat → Pt) (Q : Option Value → Mem → Prop) (hD : isD G 56 s k) (hS : dS G 56 s p) (w : gW p u (s, k)) (hn : s 13 0 = n) (hN : N < 600) (h1 : s1 G n N P) (kk : ∀ h, s1 h n (N + 1) (upN P N (s, k)) → f5 G h (fun i => i = 10 ∨ i = 12) (fun _ => False) → A (cM MX6_note 0 0 layT layT Q) 100 [(0, .ref 55), (1, .int (nI N)), (4, .ref 51)] [] h) : A (cM MX6_note 0 0 layT layT Q) 60 [(0, .ref 55), (1, .int (nI N)), (4, .ref 51)] [] G := by
  refine A_aload_n dX6_note_60 rfl 0 rfl ?_
  refine A_getR (b := 56) dX6_note_61 fo_RX6_18 L55 rfl ?_
  refine A_callV (M' := MX1_sticks) [] [] 56 dX6_note_64 lk_RX6_108 oX1_sticks iX1_sticks rfl rfl ⟨lb rfl, lb rfl⟩ (lb rfl) ⟨lb rfl, lb rfl⟩ L56 rfl (x_st56 hD hS w) ?_
  rintro _ g0 ⟨rfl, hg0⟩
  rw [hg0]
  refine A_topi (bz (stickP s n)) (by rw [hn]) ?_
  refine A_if_eq (tgt := 100) dX6_note_67 rfl (fun h67 => ?_) (fun h67 => ?_)
  · refine A_sub [0, 1, 2] rfl ?_
    exact kk G (s1_0 h1 (bz_0.mp h67)) (f5_r G _ _)
  · refine A_aload_n dX6_note_70 rfl 0 rfl ?_
    refine A_dup dX6_note_71 rfl ?_
    refine A_getI dX6_note_72 fo_RX6_58 L55 rfl ?_
    refine A_iconst (v := 1) dX6_note_75 rfl ?_
    refine A_iadd dX6_note_76 ?_
    refine A_putI dX6_note_77 fo_RX6_58 L55 rfl ?_
    refine A_aload_n dX6_note_80 rfl 0 rfl ?_
    refine A_aload_n dX6_note_81 rfl 0 rfl ?_
    refine A_getI dX6_note_82 fo_RX6_51 L55 rfl ?_
    refine A_topi (G 55 10) (by rw [u2, ur_s, upd_n _ _ (by decide)]) ?_
    refine A_iconst (v := -1) dX6_note_85 rfl ?_
    refine A_icmp_ne (tgt := 93) dX6_note_86 rfl (fun h86 => ?_) (fun h86 => ?_)
    · refine A_aload_n dX6_note_93 rfl 0 rfl ?_
      refine A_getI dX6_note_94 fo_RX6_51 L55 rfl ?_
      refine A_topi (G 55 10) (by rw [u2, ur_s, upd_n _ _ (by decide)]) ?_
      refine A_putI dX6_note_97 fo_RX6_51 L55 rfl ?_
      refine A_sub [0, 1, 2] rfl ?_
      exact kk _ (s1_1 h1 hN (bz_n0.mp h67) _ (by first | exact .inl ⟨h86, rfl⟩ | exact .inr ⟨h86, rfl⟩)) ⟨fun b b1 _ => by rw [u2_n _ _ _ b1, u2_n _ _ _ b1], fun i hi => by rw [u2, ur_s, upd_n _ _ (fun q => hi (.inl q)), u2, ur_s, upd_n _ _ (fun q => hi (.inr q))]⟩
    · refine A_iload_n dX6_note_89 rfl 1 rfl ?_
      refine A_goto (tgt := 97) dX6_note_90 rfl ?_
      refine A_putI dX6_note_97 fo_RX6_51 L55 rfl ?_
      refine A_sub [0, 1, 2] rfl ?_
      exact kk _ (s1_1 h1 hN (bz_n0.mp h67) _ (by first | exact .inl ⟨h86, rfl⟩ | exact .inr ⟨h86, rfl⟩)) ⟨fun b b1 _ => by rw [u2_n _ _ _ b1, u2_n _ _ _ b1], fun i hi => by rw [u2, ur_s, upd_n _ _ (fun q => hi (.inl q)), u2, ur_s, upd_n _ _ (fun q => hi (.inr q))]⟩
/-- the sums stay where nothing of theirs changes -/
theorem s1.c {G H : Mem} {n N : Nat} {P : Nat → Pt} (h : s1 G n N P) (e1 : H 55 12 = G 55 12) (e2 : H 55 10 = G 55 10) : s1 H n N P := by unfold s1; rw [e1, e2]; exact h
theorem s2'.c {G H : Mem} {d : Cd} {N : Nat} {P : Nat → Pt} (h : s2' G d N P) (e : H 55 11 = G 55 11) : s2' H d N P := by unfold s2'; rw [e]; exact h
theorem s3.c {G H : Mem} {n N : Nat} {P : Nat → Pt} (h : s3 G n N P) (e1 : H 55 13 = G 55 13) (e2 : H 55 14 = G 55 14) (e3 : H 84 = G 84) : s3 H n N P := by unfold s3; rw [e1, e2, e3]; exact h
theorem s4.c {G H : Mem} {p : Ro} {n N : Nat} {P : Nat → Pt} (h : s4 G p n N P) (e1 : H 55 9 = G 55 9) (e2 : H 85 = G 85) : s4 H p n N P := by unfold s4; rw [e1, e2]; exact h
def sm (f : Mem) (p : Ro) (d : Cd) (n N : Nat) (P : Nat → Pt) : Prop := s1 f n N P ∧ s2' f d N P ∧ s3 f n N P ∧ s4 f p n N P
theorem sm.c {G H : Mem} {p : Ro} {d : Cd} {n N : Nat} {P : Nat → Pt} (h : sm G p d n N P) (e5 : ∀ i, 9 ≤ i → i ≤ 14 → H 55 i = G 55 i) (e84 : H 84 = G 84) (e85 : H 85 = G 85) : sm H p d n N P :=
  ⟨h.1.c (e5 12 (by decide) (by decide)) (e5 10 (by decide) (by decide)), h.2.1.c (e5 11 (by decide) (by decide)), h.2.2.1.c (e5 13 (by decide) (by decide)) (e5 14 (by decide) (by decide)) e84, h.2.2.2.c (e5 9 (by decide) (by decide)) e85⟩
def ntP (f : Mem) (p : Ro) (d : Cd) (n N : Nat) (P : Nat → Pt) (v : Pt) (fr tk dd : Int32) : Option Value → Mem → Prop := fun r h => r = none ∧ sm h p d n (N + 1) (upN P N v) ∧ h 81 = upd (f 81) N fr ∧ h 82 = upd (f 82) N tk ∧ h 83 = upd (f 83) N dd ∧ (∀ i, i < 9 → h 55 i = f 55 i) ∧ ∀ b, b ≠ 55 → (b < 81 ∨ 85 < b) → h b = f b
theorem lx_nt (f : Mem) (s : Sg) (k p : Ro) (u : Pt) (n N : Nat) (P : Nat → Pt) (hD : isD f 56 s k) (hS : dS f 56 s p) (w : gW p u (s, k)) (hn : s 13 0 = n) (hN : N < 600) (hP : ∀ j, j < N → wfK (P j).2) (d : Cd) (hNc : XNc f d.1 d.2.1 d.2.2.1 d.2.2.2) (hwN : wN d.1 d.2.1 d.2.2.1) (hm : sm f p d n N P) (fr tk dd : Int32) : A (cM MX6_note 0 0 layT layT (ntP f p d n N P (s, k) fr tk dd)) 60 [(0, .ref 55), (1, .int (nI N)), (4, .ref 51)] [] (u2 (u2 (u2 f 81 N fr) 82 N tk) 83 N dd) := by
  have eb : ∀ b, (b < 81 ∨ 83 < b) → (u2 (u2 (u2 f 81 N fr) 82 N tk) 83 N dd) b = f b := fun b hb => by rw [u2_n _ _ _ (by omega), u2_n _ _ _ (by omega), u2_n _ _ _ (by omega)]
  have e81 : (u2 (u2 (u2 f 81 N fr) 82 N tk) 83 N dd) 81 = upd (f 81) N fr := by rw [u2_n _ _ _ (by decide), u2_n _ _ _ (by decide), u2, ur_s]
  have e82 : (u2 (u2 (u2 f 81 N fr) 82 N tk) 83 N dd) 82 = upd (f 82) N tk := by rw [u2_n _ _ _ (by decide), u2, ur_s, u2_n _ _ _ (by decide)]
  have e83 : (u2 (u2 (u2 f 81 N fr) 82 N tk) 83 N dd) 83 = upd (f 83) N dd := by rw [u2, ur_s, u2_n _ _ _ (by decide), u2_n _ _ _ (by decide)]
  generalize u2 (u2 (u2 f 81 N fr) 82 N tk) 83 N dd = G at *
  have hDG : isD G 56 s k := hD.congr (fun a a1 a2 => eb a (by omega))
  have hSG : dS G 56 s p := hS.congr (fun a a1 a2 => eb a (by omega))
  have e55 := eb 55 (by omega)
  refine lx_n60 G s k p u n N P _ hDG hSG w hn hN (hm.1.c (by rw [e55]) (by rw [e55])) (fun H1 a1 c1 => ?_)
  have hD1 := c1.D (fun _ _ _ => id) hDG
  have hS1 := c1.S (fun _ _ _ => id) hSG
  refine lx_n100 H1 s k p u n N P _ hD1 hS1 w hn hN d (hNc.congr (fun a x y => (c1.1 a (by omega) id).trans (eb a (by omega)))) hwN (hm.2.1.c ((c1.2 11 (by decide)).trans (by rw [e55]))) (fun H2 a2 c2 => ?_)
  have hD2 := c2.D (fun _ _ _ => id) hD1
  have hS2 := c2.S (fun _ _ _ => id) hS1
  refine lx_n128 H2 s k p u n N P _ hD2 hS2 w hn hN (hm.2.2.1.c ((c2.2 13 (by decide)).trans ((c1.2 13 (by decide)).trans (by rw [e55]))) ((c2.2 14 (by decide)).trans ((c1.2 14 (by decide)).trans (by rw [e55]))) ((c2.1 84 (by decide) id).trans ((c1.1 84 (by decide) id).trans (eb 84 (by omega))))) hP (fun H3 a3 c3 => ?_)
  have hD3 := c3.D (fun b x y => by omega) hD2
  have hS3 := c3.S (fun b x y => by omega) hS2
  refine lx_n152 H3 s k p u n N P _ hD3 hS3 w hn hN (hm.2.2.2.c ((c3.2 9 (by decide)).trans ((c2.2 9 (by decide)).trans ((c1.2 9 (by decide)).trans (by rw [e55])))) ((c3.1 85 (by decide) (by decide)).trans ((c2.1 85 (by decide) id).trans ((c1.1 85 (by decide) id).trans (eb 85 (by omega)))))) (fun h a4 c4 => ?_)
  have q : ∀ b, b ≠ 55 → b ≠ 84 → b ≠ 85 → h b = G b := fun b b1 b2 b3 => (c4.1 b b1 b3).trans ((c3.1 b b1 b2).trans ((c2.1 b b1 id).trans (c1.1 b b1 id)))
  refine ⟨rfl, ⟨a1.c ((c4.2 12 (by decide)).trans ((c3.2 12 (by decide)).trans (c2.2 12 (by decide)))) ((c4.2 10 (by decide)).trans ((c3.2 10 (by decide)).trans (c2.2 10 (by decide)))), a2.c ((c4.2 11 (by decide)).trans (c3.2 11 (by decide))), a3.c (c4.2 13 (by decide)) (c4.2 14 (by decide)) (c4.1 84 (by decide) (by decide)), a4⟩, (q 81 (by decide) (by decide) (by decide)).trans e81, (q 82 (by decide) (by decide) (by decide)).trans e82, (q 83 (by decide) (by decide) (by decide)).trans e83, fun i hi => ?_, fun b b1 b2 => (q b b1 (by omega) (by omega)).trans (eb b (by omega))⟩
  exact (c4.2 i (by omega)).trans ((c3.2 i (by omega)).trans ((c2.2 i (by omega)).trans ((c1.2 i (by omega)).trans (by rw [e55]))))
theorem x_note0 (f : Mem) (s : Sg) (k p : Ro) (u : Pt) (n N : Nat) (P : Nat → Pt) (hD : isD f 56 s k) (hS : dS f 56 s p) (w : gW p u (s, k)) (hn : s 13 0 = n) (hN : N < 600) (hP : ∀ j, j < N → wfK (P j).2) (d : Cd) (hNc : XNc f d.1 d.2.1 d.2.2.1 d.2.2.2) (hwN : wN d.1 d.2.1 d.2.2.1) (hm : sm f p d n N P) : C0 MX6_note [.ref 55, .int (nI N), .int 0, .int (-1), .ref 51] f (ntP f p d n N P (s, k) 0 (-1) (0)) := by
  refine Ct.of (lv := [(0, .ref 55), (1, .int (nI N)), (2, .int 0), (3, .int (-1)), (4, .ref 51)]) (by decide) (lb rfl) rfl ?_
  refine A_iload_n dX6_note_0 rfl 1 rfl ?_
  refine A_bipush (v := -2) dX6_note_1 rfl ?_
  refine A_icmp_ne (tgt := 11) dX6_note_3 rfl (fun h3 => ?_) (fun h3 => by exact absurd h3 (fun q => nI_nneg (i := N) (by omega) (by rw [q]; decide)))
  refine A_iload_n dX6_note_11 rfl 1 rfl ?_
  refine A_if_lt (tgt := 22) dX6_note_12 rfl (fun h12 => by exact absurd h12 (nI_nneg (by omega))) (fun h12 => ?_)
  refine A_iload_n dX6_note_15 rfl 1 rfl ?_
  refine A_sipush (v := 600) dX6_note_16 rfl ?_
  refine A_icmp_lt (tgt := 23) dX6_note_19 rfl (fun h19 => ?_) (fun h19 => by exact absurd ((nI_ltI (b := 600) (by omega) (by decide)).mpr hN) h19)
  refine A_aload_n dX6_note_23 rfl 0 rfl ?_
  refine A_getR (b := 81) dX6_note_24 fo_RX6_29 L55 rfl ?_
  refine A_iload_n dX6_note_27 rfl 1 rfl ?_
  refine A_iload_n dX6_note_28 rfl 2 rfl ?_
  refine A_iastore N dX6_note_29 L81 (rfl) (by omega) (lb rfl) ?_
  refine A_aload_n dX6_note_30 rfl 0 rfl ?_
  refine A_getR (b := 82) dX6_note_31 fo_RX6_33 L55 rfl ?_
  refine A_iload_n dX6_note_34 rfl 1 rfl ?_
  refine A_iload_n dX6_note_35 rfl 3 rfl ?_
  refine A_iastore N dX6_note_36 L82 (rfl) (by omega) (lb rfl) ?_
  refine A_aload_n dX6_note_37 rfl 0 rfl ?_
  refine A_getR (b := 83) dX6_note_38 fo_RX6_36 L55 rfl ?_
  refine A_iload_n dX6_note_41 rfl 1 rfl ?_
  refine A_iload_n dX6_note_42 rfl 3 rfl ?_
  refine A_iconst (v := -1) dX6_note_43 rfl ?_
  refine A_icmp_ne (tgt := 51) dX6_note_44 rfl (fun h44 => by exact absurd rfl h44) (fun h44 => ?_)
  refine A_iconst (v := 0) dX6_note_47 rfl ?_
  refine A_goto (tgt := 59) dX6_note_48 rfl ?_
  refine A_iastore N dX6_note_59 L83 (rfl) (by omega) (lb rfl) ?_
  refine A_sub [0, 1, 4] rfl ?_
  exact lx_nt f s k p u n N P hD hS w hn hN hP d hNc hwN hm 0 (-1) (0)
theorem x_note1 (f : Mem) (s : Sg) (k p : Ro) (u : Pt) (n N : Nat) (P : Nat → Pt) (hD : isD f 56 s k) (hS : dS f 56 s p) (w : gW p u (s, k)) (hn : s 13 0 = n) (hN : N < 600) (hP : ∀ j, j < N → wfK (P j).2) (d : Cd) (hNc : XNc f d.1 d.2.1 d.2.2.1 d.2.2.2) (hwN : wN d.1 d.2.1 d.2.2.1) (hm : sm f p d n N P) (i t : Nat) (hi : i < 600) (ht : t < 4) : C0 MX6_note [.ref 55, .int (nI N), .int (nI i), .int (nI t), .ref 51] f (ntP f p d n N P (s, k) (nI i) (nI t) (f 83 i + 1)) := by
  refine Ct.of (lv := [(0, .ref 55), (1, .int (nI N)), (2, .int (nI i)), (3, .int (nI t)), (4, .ref 51)]) (by decide) (lb rfl) rfl ?_
  refine A_iload_n dX6_note_0 rfl 1 rfl ?_
  refine A_bipush (v := -2) dX6_note_1 rfl ?_
  refine A_icmp_ne (tgt := 11) dX6_note_3 rfl (fun h3 => ?_) (fun h3 => by exact absurd h3 (fun q => nI_nneg (i := N) (by omega) (by rw [q]; decide)))
  refine A_iload_n dX6_note_11 rfl 1 rfl ?_
  refine A_if_lt (tgt := 22) dX6_note_12 rfl (fun h12 => by exact absurd h12 (nI_nneg (by omega))) (fun h12 => ?_)
  refine A_iload_n dX6_note_15 rfl 1 rfl ?_
  refine A_sipush (v := 600) dX6_note_16 rfl ?_
  refine A_icmp_lt (tgt := 23) dX6_note_19 rfl (fun h19 => ?_) (fun h19 => by exact absurd ((nI_ltI (b := 600) (by omega) (by decide)).mpr hN) h19)
  refine A_aload_n dX6_note_23 rfl 0 rfl ?_
  refine A_getR (b := 81) dX6_note_24 fo_RX6_29 L55 rfl ?_
  refine A_iload_n dX6_note_27 rfl 1 rfl ?_
  refine A_iload_n dX6_note_28 rfl 2 rfl ?_
  refine A_iastore N dX6_note_29 L81 (rfl) (by omega) (lb rfl) ?_
  refine A_aload_n dX6_note_30 rfl 0 rfl ?_
  refine A_getR (b := 82) dX6_note_31 fo_RX6_33 L55 rfl ?_
  refine A_iload_n dX6_note_34 rfl 1 rfl ?_
  refine A_iload_n dX6_note_35 rfl 3 rfl ?_
  refine A_iastore N dX6_note_36 L82 (rfl) (by omega) (lb rfl) ?_
  refine A_aload_n dX6_note_37 rfl 0 rfl ?_
  refine A_getR (b := 83) dX6_note_38 fo_RX6_36 L55 rfl ?_
  refine A_iload_n dX6_note_41 rfl 1 rfl ?_
  refine A_iload_n dX6_note_42 rfl 3 rfl ?_
  refine A_iconst (v := -1) dX6_note_43 rfl ?_
  refine A_icmp_ne (tgt := 51) dX6_note_44 rfl (fun h44 => ?_) (fun h44 => by exact absurd h44 (nI_n1 (by omega)))
  refine A_aload_n dX6_note_51 rfl 0 rfl ?_
  refine A_getR (b := 83) dX6_note_52 fo_RX6_36 L55 rfl ?_
  refine A_iload_n dX6_note_55 rfl 2 rfl ?_
  refine A_iaload i dX6_note_56 L83 (rfl) (by omega) (lb rfl) ?_
  refine A_topi (f 83 i) (by rw [u2_n _ _ _ (by decide), u2_n _ _ _ (by decide)]) ?_
  refine A_iconst (v := 1) dX6_note_57 rfl ?_
  refine A_iadd dX6_note_58 ?_
  refine A_iastore N dX6_note_59 L83 (rfl) (by omega) (lb rfl) ?_
  refine A_sub [0, 1, 4] rfl ?_
  exact lx_nt f s k p u n N P hD hS w hn hN hP d hNc hwN hm (nI i) (nI t) (f 83 i + 1)
theorem x_noteL (f : Mem) (x y : Int32) : C0 MX6_note [.ref 55, .int (-1), .int x, .int y, .ref 51] f (rt none f) := by
  refine Ct.of (lv := [(0, .ref 55), (1, .int (-1)), (2, .int x), (3, .int y), (4, .ref 51)]) (by decide) (lb rfl) rfl ?_
  refine A_iload_n dX6_note_0 rfl 1 rfl ?_
  refine A_bipush (v := -2) dX6_note_1 rfl ?_
  refine A_icmp_ne (tgt := 11) dX6_note_3 rfl (fun h3 => ?_) (fun h3 => by exact absurd h3 (by decide))
  refine A_iload_n dX6_note_11 rfl 1 rfl ?_
  refine A_if_lt (tgt := 22) dX6_note_12 rfl (fun h12 => ?_) (fun h12 => by exact absurd (by decide) h12)
  exact A_vret dX6_note_22 rfl (⟨rfl, rfl⟩)
theorem x_noteF (f : Mem) (x y : Int32) : C0 MX6_note [.ref 55, .int (-2), .int x, .int y, .ref 51] f (rt none (u2 f 55 8 0)) := by
  refine Ct.of (lv := [(0, .ref 55), (1, .int (-2)), (2, .int x), (3, .int y), (4, .ref 51)]) (by decide) (lb rfl) rfl ?_
  refine A_iload_n dX6_note_0 rfl 1 rfl ?_
  refine A_bipush (v := -2) dX6_note_1 rfl ?_
  refine A_icmp_ne (tgt := 11) dX6_note_3 rfl (fun h3 => by exact absurd rfl h3) (fun h3 => ?_)
  refine A_aload_n dX6_note_6 rfl 0 rfl ?_
  refine A_iconst (v := 0) dX6_note_7 rfl ?_
  refine A_putZ dX6_note_8 fo_RX6_45 L55 rfl (.inl rfl) ?_
  refine A_iload_n dX6_note_11 rfl 1 rfl ?_
  refine A_if_lt (tgt := 22) dX6_note_12 rfl (fun h12 => ?_) (fun h12 => by exact absurd (by decide) h12)
  exact A_vret dX6_note_22 rfl (⟨rfl, rfl⟩)
