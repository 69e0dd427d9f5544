/-! the class goes through all runs -/
theorem sm_0 {f : Mem} {p : Ro} {d : Cd} {n : Nat} {P : Nat → Pt} (h9 : f 55 9 = 0) (h10 : f 55 10 = -1) (h11 : f 55 11 = -1) (h12 : f 55 12 = 0) (h13 : f 55 13 = 0) (h14 : f 55 14 = 0) (h85 : ∀ m, m < 3 → f 85 m = 0) : sm f p d n 0 P :=
  ⟨⟨h12, h10⟩, h11, ⟨h13, h14, fun k hk => absurd hk (by show ¬ k < 0; omega)⟩, by rw [h9]; exact (bz_f (fun ⟨i, hi, _⟩ => absurd hi (by omega))).symm, h85⟩
def XS (f : Mem) (p : Ro) (d : Cd) (u : Pt) : Prop := (∃ s k, isD f 56 s k) ∧ (f 55 0 = 0 ∨ (f 55 0 = 1 ∧ XE f p d u (sch p u)))
theorem x_cp56 {f : Mem} {s : Sg} {k p rz lz : Ro} (hC : XC f s k p rz lz) (w : wfC s k p) (hD0 : ∃ s k, isD f 56 s k) : C0 MX1_copyFrom [.ref 56, .ref 1] f (fun r h => r = none ∧ isD h 56 s k ∧ dS h 56 s p ∧ ∀ b, b < 56 ∨ 76 < b → h b = f b) := by
  obtain ⟨t, l, hD⟩ := hD0
  have e := x_copy56_1 f s t k l hC.1.eq (fun m hm => by have q := hC.2.1.2.1 m hm; rw [show 1 + 7 = 8 from rfl] at q; rw [q]; exact n01 (w.2.2.2.1 m hm))
  rw [hD.eq] at e
  refine e.mono (fun r h q => ⟨q.1, ?_, ?_, fun b hb => ?_⟩)
  · rw [q.2]; exact isD_dM _ _ _ _
  · rw [q.2]; exact cpB56_1_S hC.2.1 (fun t ht => (w.2.1 t ht).1)
  · rw [q.2, dM_o _ _ _ _ (by omega), cpB56_1_o f hb]
theorem bg_e {f F1 F2 F3 : Mem} {s : Sg} {k p : Ro} (D1_ : isD F1 56 s k) (S1 : dS F1 56 s p) (o1 : ∀ b, b < 56 ∨ 76 < b → F1 b = f b) (o2 : ∀ b, b ≠ 77 → b ≠ 80 → F2 b = F1 b) (z77 : F2 77 0 = 0) (z80 : ∀ x, x < 2048 → F2 80 x = 0) (o3 : ∀ b, b ≠ 85 → F3 b = F2 b) (z85 : ∀ m, m < 3 → F3 85 m = 0) (h : Mem) (e : h = u2 (u2 (u2 (u2 (u2 (u2 (u2 F3 55 8 1) 55 9 0) 55 10 (-1)) 55 11 (-1)) 55 12 0) 55 13 0) 55 14 0) : (fun (r : Option Value) (h : Mem) => r = none ∧ isD h 56 s k ∧ dS h 56 s p ∧ (∀ P, KT h 0 P) ∧ (∀ d n P, sm h p d n 0 P) ∧ h 55 8 = 1 ∧ h 55 0 = f 55 0 ∧ ∀ b, b < 55 ∨ 85 < b → h b = f b) none h := by
  have ne : ∀ b, b ≠ 55 → h b = F3 b := fun b hb => by rw [e, u2_n _ _ _ hb, u2_n _ _ _ hb, u2_n _ _ _ hb, u2_n _ _ _ hb, u2_n _ _ _ hb, u2_n _ _ _ hb, u2_n _ _ _ hb]
  have e4 : ∀ b, 56 ≤ b → b ≤ 76 → h b = F1 b := fun b b1 b2 => (ne b (by omega)).trans ((o3 b (by omega)).trans (o2 b (by omega) (by omega)))
  refine ⟨rfl, D1_.congr e4, S1.congr e4, fun P => ⟨by rw [ne 77 (by decide), o3 77 (by decide), z77]; rfl, fun j hj => absurd hj (by omega), tB_0 (fun x hx => by rw [ne 80 (by decide), o3 80 (by decide)]; exact z80 x hx) _⟩, fun d n P => sm_0 ?_ ?_ ?_ ?_ ?_ ?_ (fun m hm => by rw [ne 85 (by decide)]; exact z85 m hm), ?_, ?_, fun b hb => (ne b (by omega)).trans ((o3 b (by omega)).trans ((o2 b (by omega) (by omega)).trans (o1 b (by omega))))⟩
  · rw [e]; simp [u2, ur, upd]
  · rw [e]; simp [u2, ur, upd]
  · rw [e]; simp [u2, ur, upd]
  · rw [e]; simp [u2, ur, upd]
  · rw [e]; simp [u2, ur, upd]
  · rw [e]; simp [u2, ur, upd]
  · rw [e]; simp [u2, ur, upd]
  · rw [e]; simp [u2, ur, upd]; rw [o3 55 (by decide), o2 55 (by decide) (by decide), o1 55 (by omega)]
theorem x_begin (f : Mem) (s : Sg) (k p rz lz : Ro) (hC : XC f s k p rz lz) (w : wfC s k p) (hD0 : ∃ s k, isD f 56 s k) : C0 MX6_begin [.ref 55, .ref 1] f (fun r h => r = none ∧ isD h 56 s k ∧ dS h 56 s p ∧ (∀ P, KT h 0 P) ∧ (∀ d n P, sm h p d n 0 P) ∧ h 55 8 = 1 ∧ h 55 0 = f 55 0 ∧ ∀ b, b < 55 ∨ 85 < b → h b = f b) := by
  refine Ct.of (lv := [(0, .ref 55), (1, .ref 1)]) (by decide) (lb rfl) rfl ?_
  refine A_aload_n dX6_begin_0 rfl 0 rfl ?_
  refine A_getR (b := 56) dX6_begin_1 fo_RX6_18 L55 rfl ?_
  refine A_aload_n dX6_begin_4 rfl 1 rfl ?_
  refine A_callV (M' := MX1_copyFrom) [.ref 1] [] 56 dX6_begin_5 lk_RX6_96 oX1_copyFrom iX1_copyFrom rfl rfl ⟨lb rfl, lb rfl⟩ (lb rfl) ⟨lb rfl, lb rfl⟩ L56 rfl (x_cp56 hC w hD0) ?_
  rintro _ F1 ⟨rfl, D1_, S1, o1⟩
  refine A_aload_n dX6_begin_8 rfl 0 rfl ?_
  refine A_getR (b := 77) dX6_begin_9 fo_RX6_25 L55 rfl ?_
  refine A_callV (M' := MX7_empty) [] [] 77 dX6_begin_12 lk_RX6_99 oX7_empty iX7_empty rfl rfl ⟨lb rfl, lb rfl⟩ (lb rfl) ⟨lb rfl, lb rfl⟩ L77 rfl (x_empty F1) ?_
  rintro _ F2 ⟨rfl, hF2⟩
  have o2 : ∀ b, b ≠ 77 → b ≠ 80 → F2 b = F1 b := fun b b1 b2 => by rw [hF2, ur_n _ _ b2, u2_n _ _ _ b1]
  have z77 : F2 77 0 = 0 := by rw [hF2, ur_n _ _ (by decide), u2, ur_s, upd_s]
  have z80 : ∀ x, x < 2048 → F2 80 x = 0 := fun x hx => by rw [hF2, ur_s, cpR, if_pos hx]
  refine A_aload_n dX6_begin_15 rfl 0 rfl ?_
  refine A_getR (b := 85) dX6_begin_16 fo_RX6_42 L55 rfl ?_
  refine A_iconst (v := 0) dX6_begin_19 rfl ?_
  refine A_callS (M' := MJ7_fill_53178) [.ref 85, .int 0] [] dX6_begin_20 lk_RX6_102 oJ7_fill_53178 sJ7_fill_53178 rfl rfl ⟨lb rfl, lb rfl⟩ (lb rfl) ⟨lb rfl, lb rfl⟩ (c_fill 85 3 0 F2 rfl (by decide)) ?_
  rintro _ F3 ⟨rfl, hF3⟩
  have o3 : ∀ b, b ≠ 85 → F3 b = F2 b := fun b b1 => by rw [hF3, ur_n _ _ b1]
  have z85 : ∀ m, m < 3 → F3 85 m = 0 := fun m hm => by rw [hF3, ur_s, cpR, if_pos hm]
  refine A_aload_n dX6_begin_23 rfl 0 rfl ?_
  refine A_iconst (v := 1) dX6_begin_24 rfl ?_
  refine A_putZ dX6_begin_25 fo_RX6_45 L55 rfl (.inr rfl) ?_
  refine A_aload_n dX6_begin_28 rfl 0 rfl ?_
  refine A_iconst (v := 0) dX6_begin_29 rfl ?_
  refine A_putZ dX6_begin_30 fo_RX6_48 L55 rfl (.inl rfl) ?_
  refine A_aload_n dX6_begin_33 rfl 0 rfl ?_
  refine A_iconst (v := -1) dX6_begin_34 rfl ?_
  refine A_putI dX6_begin_35 fo_RX6_51 L55 rfl ?_
  refine A_aload_n dX6_begin_38 rfl 0 rfl ?_
  refine A_iconst (v := -1) dX6_begin_39 rfl ?_
  refine A_putI dX6_begin_40 fo_RX6_55 L55 rfl ?_
  refine A_aload_n dX6_begin_43 rfl 0 rfl ?_
  refine A_iconst (v := 0) dX6_begin_44 rfl ?_
  refine A_putI dX6_begin_45 fo_RX6_58 L55 rfl ?_
  refine A_aload_n dX6_begin_48 rfl 0 rfl ?_
  refine A_iconst (v := 0) dX6_begin_49 rfl ?_
  refine A_putI dX6_begin_50 fo_RX6_61 L55 rfl ?_
  refine A_aload_n dX6_begin_53 rfl 0 rfl ?_
  refine A_iconst (v := 0) dX6_begin_54 rfl ?_
  refine A_putI dX6_begin_55 fo_RX6_64 L55 rfl ?_
  exact A_vret dX6_begin_58 rfl (bg_e D1_ S1 o1 o2 z77 z80 o3 z85 _ rfl)
theorem lx_in0 (f0 : Mem) (p : Ro) (d : Cd) (u : Pt) (i : Nat) (Q : Option Value → Mem → Prop) (hNc : XNc f0 d.1 d.2.1 d.2.2.1 d.2.2.2) (hwN : wN d.1 d.2.1 d.2.2.1) (h13 : u.1 13 0 ≤ 4) (t : Nat) (F : Mem) (q : Sr) (hx : CX f0 p d u F q) (hJ : Jq p u q) (ht : t = u.1 13 0) (kk : ∀ h, CX f0 p d u h q → A (cM MX6_explore 0 0 layT layT Q) 139 [(3, .int (nI i)), (0, .ref 55), (1, .ref 1), (2, .ref 51)] [] h) : A (cM MX6_explore 0 0 layT layT Q) 61 [(4, .int (nI t)), (3, .int (nI i)), (0, .ref 55), (1, .ref 1), (2, .ref 51)] [] F := by
  refine A_iload dX6_explore_61 0 rfl ?_
  refine A_aload_n dX6_explore_63 rfl 2 rfl ?_
  refine A_getR (b := 56) dX6_explore_64 fo_RX6_18 L55 rfl ?_
  refine A_getI dX6_explore_67 fo_RX6_82 L56 rfl ?_
  refine A_topi (nI (u.1 13 0)) (hx.2.2.1.1) ?_
  refine A_icmp_ge (tgt := 139) dX6_explore_70 rfl (fun h70 => ?_) (fun h70 => ?_)
  · rw [nI_leI (by omega) (by omega)] at h70
    refine A_sub [1, 2, 3, 4] rfl ?_
    exact kk F hx
  · rw [nI_leI (by omega) (by omega)] at h70
    omega
theorem lx_in1 (f0 : Mem) (p : Ro) (d : Cd) (u : Pt) (i : Nat) (Q : Option Value → Mem → Prop) (hNc : XNc f0 d.1 d.2.1 d.2.2.1 d.2.2.2) (hwN : wN d.1 d.2.1 d.2.2.1) (h13 : u.1 13 0 ≤ 4) (t : Nat) (F : Mem) (q : Sr) (hx : CX f0 p d u F q) (hJ : Jq p u q) (ht : t < u.1 13 0) (kk0 : q.2.2.2.2.2 = 0 → A (cM MX6_explore 0 0 layT layT Q) 139 [(3, .int (nI i)), (0, .ref 55), (1, .ref 1), (2, .ref 51)] [] F) (kk1 : ¬ q.2.2.2.2.2 = 0 → A (cM MX6_explore 0 0 layT layT Q) 80 [(4, .int (nI t)), (3, .int (nI i)), (0, .ref 55), (1, .ref 1), (2, .ref 51)] [] F) : A (cM MX6_explore 0 0 layT layT Q) 61 [(4, .int (nI t)), (3, .int (nI i)), (0, .ref 55), (1, .ref 1), (2, .ref 51)] [] F := by
  refine A_iload dX6_explore_61 0 rfl ?_
  refine A_aload_n dX6_explore_63 rfl 2 rfl ?_
  refine A_getR (b := 56) dX6_explore_64 fo_RX6_18 L55 rfl ?_
  refine A_getI dX6_explore_67 fo_RX6_82 L56 rfl ?_
  refine A_topi (nI (u.1 13 0)) (hx.2.2.1.1) ?_
  refine A_icmp_ge (tgt := 139) dX6_explore_70 rfl (fun h70 => by exact absurd h70 (fun z => by rw [nI_leI (by omega) (by omega)] at z; omega)) (fun h70 => ?_)
  refine A_aload_n dX6_explore_73 rfl 2 rfl ?_
  refine A_getI dX6_explore_74 fo_RX6_45 L55 rfl ?_
  refine A_topi (nI q.2.2.2.2.2) (hx.1.2.2.1) ?_
  refine A_if_eq (tgt := 139) dX6_explore_77 rfl (fun h77 => ?_) (fun h77 => ?_)
  · rw [nI_z (by have := hJ.2.2.1; omega)] at h77
    refine A_sub [1, 2, 3, 4] rfl ?_
    exact kk0 h77
  · rw [nI_z (by have := hJ.2.2.1; omega)] at h77
    refine A_sub [0, 1, 2, 3, 4] rfl ?_
    exact kk1 h77
theorem lx_in (f0 : Mem) (p : Ro) (d : Cd) (u : Pt) (i : Nat) (Q : Option Value → Mem → Prop) (hNc : XNc f0 d.1 d.2.1 d.2.2.1 d.2.2.2) (hwN : wN d.1 d.2.1 d.2.2.1) (h13 : u.1 13 0 ≤ 4) : ∀ (m t : Nat) (F : Mem) (q : Sr), CX f0 p d u F q → Jq p u q → i < q.1 → m + t = u.1 13 0 → (∀ h, CX f0 p d u h (inl p i m t q) → A (cM MX6_explore 0 0 layT layT Q) 139 [(3, .int (nI i)), (0, .ref 55), (1, .ref 1), (2, .ref 51)] [] h) → A (cM MX6_explore 0 0 layT layT Q) 61 [(4, .int (nI t)), (3, .int (nI i)), (0, .ref 55), (1, .ref 1), (2, .ref 51)] [] F
  | 0, t, F, q, hx, hJ, hi, ht, kk => lx_in0 f0 p d u i Q hNc hwN h13 t F q hx hJ (by omega) kk
  | m + 1, t, F, q, hx, hJ, hi, ht, kk => by
    unfold inl at kk
    refine lx_in1 f0 p d u i Q hNc hwN h13 t F q hx hJ (by omega) (fun h => ?_) (fun h => ?_)
    · rw [if_pos h] at kk; exact kk F hx
    · rw [if_neg h] at kk
      refine lx_ex f0 F p d u q i t Q hx hJ hNc hwN hi (by omega) h (fun h2 hx2 => ?_)
      refine A_iinc (lv' := [(4, .int (nI (t + 1))), (3, .int (nI i)), (0, .ref 55), (1, .ref 1), (2, .ref 51)]) dX6_explore_133 0 rfl (nI_add t 1) (lb rfl) rfl ?_
      refine A_goto (tgt := 61) dX6_explore_136 rfl ?_
      exact lx_in f0 p d u i Q hNc hwN h13 m (t + 1) h2 (one p i t q) hx2 (Jq_1 hJ hi (by omega)) (Nat.lt_of_lt_of_le hi (gr_1 p i t q).1) (by omega) kk
theorem lx_ou0 (f0 : Mem) (p : Ro) (d : Cd) (u : Pt) (Q : Option Value → Mem → Prop) (hNc : XNc f0 d.1 d.2.1 d.2.2.1 d.2.2.2) (hwN : wN d.1 d.2.1 d.2.2.1) (h13 : u.1 13 0 ≤ 4) (i : Nat) (F : Mem) (q : Sr) (hx : CX f0 p d u F q) (ht : i = 600) (kk : ∀ h, CX f0 p d u h q → A (cM MX6_explore 0 0 layT layT Q) 145 [(0, .ref 55)] [] h) : A (cM MX6_explore 0 0 layT layT Q) 33 [(3, .int (nI i)), (0, .ref 55), (1, .ref 1), (2, .ref 51)] [] F := by
  refine A_iload_n dX6_explore_33 rfl 0 rfl ?_
  refine A_sipush (v := 600) dX6_explore_34 rfl ?_
  refine A_icmp_ge (tgt := 145) dX6_explore_37 rfl (fun h37 => ?_) (fun h37 => by exact absurd (by rw [ht]; decide) h37)
  refine A_sub [1] rfl ?_
  exact kk F hx
theorem lx_ou1 (f0 : Mem) (p : Ro) (d : Cd) (u : Pt) (Q : Option Value → Mem → Prop) (hNc : XNc f0 d.1 d.2.1 d.2.2.1 d.2.2.2) (hwN : wN d.1 d.2.1 d.2.2.1) (h13 : u.1 13 0 ≤ 4) (i : Nat) (F : Mem) (q : Sr) (hx : CX f0 p d u F q) (hJ : Jq p u q) (ht : i < 600) (kk0 : ¬ (i < q.1 ∧ ¬ q.2.2.2.2.2 = 0) → A (cM MX6_explore 0 0 layT layT Q) 145 [(0, .ref 55)] [] F) (kk1 : i < q.1 ∧ ¬ q.2.2.2.2.2 = 0 → A (cM MX6_explore 0 0 layT layT Q) 61 [(4, .int 0), (3, .int (nI i)), (0, .ref 55), (1, .ref 1), (2, .ref 51)] [] F) : A (cM MX6_explore 0 0 layT layT Q) 33 [(3, .int (nI i)), (0, .ref 55), (1, .ref 1), (2, .ref 51)] [] F := by
  refine A_iload_n dX6_explore_33 rfl 0 rfl ?_
  refine A_sipush (v := 600) dX6_explore_34 rfl ?_
  refine A_icmp_ge (tgt := 145) dX6_explore_37 rfl (fun h37 => by exact absurd h37 (fun z => by rw [show (600 : Int32) = nI 600 from rfl, nI_leI (by decide) (by omega)] at z; omega)) (fun h37 => ?_)
  refine A_iload_n dX6_explore_40 rfl 0 rfl ?_
  refine A_aload_n dX6_explore_41 rfl 1 rfl ?_
  refine A_getR (b := 77) dX6_explore_42 fo_RX6_25 L55 rfl ?_
  refine A_getI dX6_explore_45 fo_RX6_79 L77 rfl ?_
  refine A_topi (nI q.1) (hx.1.1.1) ?_
  refine A_icmp_ge (tgt := 145) dX6_explore_48 rfl (fun h48 => ?_) (fun h48 => ?_)
  · rw [nI_leI (by have := hJ.2.1; omega) (by omega)] at h48
    refine A_sub [1] rfl ?_
    exact kk0 (fun z => by first | omega | exact z.2 h55)
  · rw [nI_leI (by have := hJ.2.1; omega) (by omega)] at h48
    refine A_aload_n dX6_explore_51 rfl 1 rfl ?_
    refine A_getI dX6_explore_52 fo_RX6_45 L55 rfl ?_
    refine A_topi (nI q.2.2.2.2.2) (hx.1.2.2.1) ?_
    refine A_if_eq (tgt := 145) dX6_explore_55 rfl (fun h55 => ?_) (fun h55 => ?_)
    · rw [nI_z (by have := hJ.2.2.1; omega)] at h55
      refine A_sub [1] rfl ?_
      exact kk0 (fun z => by first | omega | exact z.2 h55)
    · rw [nI_z (by have := hJ.2.2.1; omega)] at h55
      refine A_iconst (v := 0) dX6_explore_58 rfl ?_
      refine A_istore (lv' := [(4, .int 0), (3, .int (nI i)), (0, .ref 55), (1, .ref 1), (2, .ref 51)]) dX6_explore_59 (lb rfl) rfl ?_
      refine A_sub [0, 1, 2, 3, 4] rfl ?_
      exact kk1 ⟨by omega, h55⟩
theorem lx_ou (f0 : Mem) (p : Ro) (d : Cd) (u : Pt) (Q : Option Value → Mem → Prop) (hNc : XNc f0 d.1 d.2.1 d.2.2.1 d.2.2.2) (hwN : wN d.1 d.2.1 d.2.2.1) (h13 : u.1 13 0 ≤ 4) : ∀ (m i : Nat) (F : Mem) (q : Sr), CX f0 p d u F q → Jq p u q → m + i = 600 → (∀ h, CX f0 p d u h (out p (u.1 13 0) m i q) → A (cM MX6_explore 0 0 layT layT Q) 145 [(0, .ref 55)] [] h) → A (cM MX6_explore 0 0 layT layT Q) 33 [(3, .int (nI i)), (0, .ref 55), (1, .ref 1), (2, .ref 51)] [] F
  | 0, i, F, q, hx, hJ, ht, kk => lx_ou0 f0 p d u Q hNc hwN h13 i F q hx (by omega) kk
  | m + 1, i, F, q, hx, hJ, ht, kk => by
    unfold out at kk
    refine lx_ou1 f0 p d u Q hNc hwN h13 i F q hx hJ (by omega) (fun h => ?_) (fun h => ?_)
    · rw [if_neg h] at kk; exact kk F hx
    · rw [if_pos h] at kk
      refine lx_in f0 p d u i Q hNc hwN h13 (u.1 13 0) 0 F q hx hJ h.1 (by omega) (fun h2 hx2 => ?_)
      refine A_iinc (lv' := [(3, .int (nI (i + 1))), (0, .ref 55), (1, .ref 1), (2, .ref 51)]) dX6_explore_139 0 rfl (nI_add i 1) (lb rfl) rfl ?_
      refine A_goto (tgt := 33) dX6_explore_142 rfl ?_
      exact lx_ou f0 p d u Q hNc hwN h13 m (i + 1) h2 _ hx2 (Jq_i _ 0 q hJ h.1 (by omega)) (by omega) kk
theorem up_c {α : Type} (u : α) : upN (fun _ => u) 0 u = (fun _ => u) := by funext j; unfold upN; split <;> rfl
theorem x_explore0 (f : Mem) (s : Sg) (k p rz lz : Ro) (hC : XC f s k p rz lz) (w : wfC s k p) (d : Cd) (hNc : XNc f d.1 d.2.1 d.2.2.1 d.2.2.2) (hwN : wN d.1 d.2.1 d.2.2.1) (hD0 : ∃ s k, isD f 56 s k) (h0 : f 55 0 = 0) : C0 MX6_explore [.ref 55, .ref 1, .ref 51] f (fun r h => r = none ∧ XE h p d (s, k) (sch p (s, k)) ∧ XS h p d (s, k) ∧ ∀ b, b < 55 ∨ 85 < b → h b = f b) := by
  have gw : gW p (s, k) (s, k) := ⟨w, rfl, fun _ => rfl, fun _ => rfl⟩
  refine Ct.of (lv := [(0, .ref 55), (1, .ref 1), (2, .ref 51)]) (by decide) (lb rfl) rfl ?_
  refine A_aload_n dX6_explore_0 rfl 0 rfl ?_
  refine A_getI dX6_explore_1 fo_RX6_9 L55 rfl ?_
  refine A_topi (0) (h0) ?_
  refine A_if_eq (tgt := 8) dX6_explore_4 rfl (fun h4 => ?_) (fun h4 => by exact absurd rfl h4)
  refine A_aload_n dX6_explore_8 rfl 0 rfl ?_
  refine A_aload_n dX6_explore_9 rfl 1 rfl ?_
  refine A_callV (M' := MX6_begin) [.ref 1] [] 55 dX6_explore_10 lk_RX6_67 oX6_begin iX6_begin rfl rfl ⟨lb rfl, lb rfl⟩ (lb rfl) ⟨lb rfl, lb rfl⟩ L55 rfl (x_begin f s k p rz lz hC w hD0) ?_
  rintro _ F1 ⟨rfl, D1_, S1, K1, M1, e8, e0, hf⟩
  refine A_aload_n dX6_explore_13 rfl 0 rfl ?_
  refine A_aload_n dX6_explore_14 rfl 0 rfl ?_
  refine A_getR (b := 77) dX6_explore_15 fo_RX6_25 L55 rfl ?_
  refine A_aload_n dX6_explore_18 rfl 0 rfl ?_
  refine A_getR (b := 56) dX6_explore_19 fo_RX6_18 L55 rfl ?_
  refine A_callV (M' := MX7_keep) [.ref 56] [.ref 55] 77 dX6_explore_22 lk_RX6_71 oX7_keep iX7_keep rfl rfl ⟨lb rfl, lb rfl⟩ (lb rfl) ⟨lb rfl, lb rfl⟩ L77 rfl (x_keepA F1 s k D1_ gw.B 0 (fun _ => (s, k)) (K1 _) (by omega) (fun j hj => absurd hj (by omega)) (fun ⟨j, hj, _⟩ => absurd hj (by omega)) (by omega)) ?_
  rintro _ H ⟨rfl, K2, e2⟩
  refine A_iconst (v := 0) dX6_explore_25 rfl ?_
  refine A_iconst (v := -1) dX6_explore_26 rfl ?_
  refine A_aload_n dX6_explore_27 rfl 2 rfl ?_
  refine A_callV (M' := MX6_note) [.int (nI 0), .int 0, .int (-1), .ref 51] [] 55 dX6_explore_28 lk_RX6_75 oX6_note iX6_note rfl rfl ⟨lb rfl, lb rfl⟩ (lb rfl) ⟨lb rfl, lb rfl⟩ L55 rfl (x_note0 H s k p (s, k) (s 13 0) 0 (fun _ => (s, k)) (D1_.congr (fun a a1 a2 => e2 a (by omega))) (S1.congr (fun a a1 a2 => e2 a (by omega))) gw rfl (by omega) (fun j hj => absurd hj (by omega)) d (hNc.congr (fun a a1 a2 => (e2 a (by omega)).trans (hf a (by omega)))) hwN ((M1 d (s 13 0) _).c (fun i _ _ => by rw [e2 55 (by omega)]) (e2 84 (by omega)) (e2 85 (by omega)))) ?_
  rintro _ h ⟨rfl, m4, a81, a82, a83, a55, ab⟩
  rw [up_c] at m4 K2
  have hx : CX f p d (s, k) h (q0 (s, k)) := ⟨⟨K2.congr (by rw [ab 77 (by decide) (by omega)]) (ab 78 (by decide) (by omega)) (ab 80 (by decide) (by omega)), m4, by rw [a55 8 (by decide), e2 55 (by omega), e8]; rfl, fun j j1 j2 => absurd j2 (by show ¬ j < 1; omega), fun j j2 => by rw [a83, show j = 0 by have j2 : j < 1 := j2; omega, upd_s]; rfl⟩, ⟨s, k, D1_.congr (fun a a1 a2 => (ab a (by omega) (by omega)).trans (e2 a (by omega)))⟩, S1.congr (fun a a1 a2 => (ab a (by omega) (by omega)).trans (e2 a (by omega))), fun b hb => (ab b (by omega) (by omega)).trans ((e2 b (by omega)).trans (hf b hb)), by rw [a55 0 (by decide), e2 55 (by omega), e0]⟩
  refine A_iconst (v := 0) dX6_explore_31 rfl ?_
  refine A_istore_n (lv' := [(3, .int 0), (0, .ref 55), (1, .ref 1), (2, .ref 51)]) dX6_explore_32 rfl (lb rfl) rfl ?_
  refine A_sub [0, 1, 2, 3] rfl ?_
  refine lx_ou f p d (s, k) _ hNc hwN w.2.2.2.2.1 600 0 h (q0 (s, k)) hx (Jq_0 w) (by omega) (fun G hG => ?_)
  refine A_aload_n dX6_explore_145 rfl 0 rfl ?_
  refine A_iconst (v := 1) dX6_explore_146 rfl ?_
  refine A_putZ dX6_explore_147 fo_RX6_9 L55 rfl (.inr rfl) ?_
  obtain ⟨x, hD, _, hb, _⟩ := hG
  have x2 : XE (u2 G 55 0 1) p d (s, k) (sch p (s, k)) := x.c (fun i i1 i2 => by rw [u2, ur_s, upd_n _ _ (by omega)]) (by rw [u2_n _ _ _ (by decide)]) (u2_n _ _ _ (by decide)) (fun a a1 a2 => u2_n _ _ _ (by omega))
  obtain ⟨s9, k9, D9⟩ := hD
  exact A_vret dX6_explore_150 rfl ⟨rfl, x2, ⟨⟨s9, k9, D9.congr (fun a a1 a2 => u2_n _ _ _ (by omega))⟩, .inr ⟨by rw [u2, ur_s, upd_s], x2⟩⟩, fun b hb2 => (u2_n _ _ _ (by omega)).trans (hb b hb2)⟩
theorem x_explore1 (f : Mem) (h0 : f 55 0 = 1) : C0 MX6_explore [.ref 55, .ref 1, .ref 51] f (rt none f) := by
  refine Ct.of (lv := [(0, .ref 55), (1, .ref 1), (2, .ref 51)]) (by decide) (lb rfl) rfl ?_
  refine A_aload_n dX6_explore_0 rfl 0 rfl ?_
  refine A_getI dX6_explore_1 fo_RX6_9 L55 rfl ?_
  refine A_topi (1) (h0) ?_
  refine A_if_eq (tgt := 8) dX6_explore_4 rfl (fun h4 => by exact absurd h4 (by decide)) (fun h4 => ?_)
  exact A_vret dX6_explore_7 rfl (⟨rfl, rfl⟩)
theorem x_explore (f : Mem) (s : Sg) (k p rz lz : Ro) (hC : XC f s k p rz lz) (w : wfC s k p) (d : Cd) (hNc : XNc f d.1 d.2.1 d.2.2.1 d.2.2.2) (hwN : wN d.1 d.2.1 d.2.2.1) (hS : XS f p d (s, k)) : C0 MX6_explore [.ref 55, .ref 1, .ref 51] f (fun r h => r = none ∧ XE h p d (s, k) (sch p (s, k)) ∧ XS h p d (s, k) ∧ ∀ b, b < 55 ∨ 85 < b → h b = f b) := by
  obtain ⟨hD0, h | h⟩ := hS
  · exact x_explore0 f s k p rz lz hC w d hNc hwN hD0 h
  · exact (x_explore1 f h.1).mono (fun r g q => ⟨q.1, by rw [q.2]; exact h.2, by rw [q.2]; exact ⟨hD0, .inr h⟩, fun b _ => by rw [q.2]⟩)
