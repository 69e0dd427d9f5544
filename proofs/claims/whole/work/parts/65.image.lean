/-! image and back -/
theorem isD.c2 {f h : Mem} {d : Nat} {s : Sg} {k : Ro} (q : isD f d s k) (e : ∀ a, (a = d + 2 ∨ a = d + 3 ∨ a = d + 4 ∨ (d + 8 ≤ a ∧ a ≤ d + 12)) → h a = f a) : isD h d s k := by
  obtain ⟨h2, h3, h4, h8, h9, ha, hb, hc⟩ := q
  exact ⟨(e _ (by omega)).trans h2, (e _ (by omega)).trans h3, (e _ (by omega)).trans h4, (e _ (by omega)).trans h8, (e _ (by omega)).trans h9, (e _ (by omega)).trans ha, (e _ (by omega)).trans hb, (e _ (by omega)).trans hc⟩
theorem dS.c2 {f h : Mem} {d : Nat} {s : Sg} {p : Ro} (q : dS f d s p) (e : ∀ a, (a = d ∨ a = d + 7 ∨ (d + 13 ≤ a ∧ a ≤ d + 20)) → h a = f a) : dS h d s p :=
  ⟨by rw [e d (by omega)]; exact q.1, fun m hm => by rw [e _ (by omega)]; exact q.2.1 m hm, fun t ht => by rw [e _ (by omega)]; exact q.2.2.1 t ht, fun t ht j hj => by rw [e _ (by omega)]; exact q.2.2.2 t ht j hj⟩
theorem dS.z1 {f : Mem} {d : Nat} {s : Sg} {p : Ro} (q : dS f d s p) (h : wf14 s) : ∀ m, m < 3 → f (d + 7) m = 0 ∨ f (d + 7) m = 1 := fun m hm => by
  rw [q.2.1 m hm]; exact n01 (h m hm)
theorem x_image (f : Mem) (s : Sg) (k p rz lz : Ro) (hC : XC f s k p rz lz) (w : wfC s k p) (im : Nat) (s' : Sg) (k' p' : Ro) (hI : XI f im s' k' p') : C0 MX10_image [.ref 0] f (fun r h => r = some (.int (nI (s 13 0))) ∧ XI h 1 s k p ∧ (∀ b, b ≠ 0 → (b < 22 ∨ 42 < b) → h b = f b) ∧ ∀ j, j ≠ 2 → h 0 j = f 0 j) := by
  have hK := x_copy22_1 f s s' k k' hC.1.eq (hC.2.1.z1 w.2.2.2.1)
  rw [hI.2.1.eq] at hK
  refine Ct.of (lv := [(0, .ref 0)]) (by decide) (lb rfl) rfl ?_
  refine A_aload_n dX10_image_0 rfl 0 rfl ?_
  refine A_getR (b := 22) dX10_image_1 fo_RX10_16 L0 rfl ?_
  refine A_aload_n dX10_image_4 rfl 0 rfl ?_
  refine A_getR (b := 1) dX10_image_5 fo_RX10_10 L0 rfl ?_
  refine A_callV (M' := MX1_copyFrom) [.ref 1] [] 22 dX10_image_8 lk_RX10_283 oX1_copyFrom iX1_copyFrom rfl rfl ⟨lb rfl, lb rfl⟩ (lb rfl) ⟨lb rfl, lb rfl⟩ L22 rfl (hK) ?_
  rintro _ F ⟨rfl, hF⟩
  refine A_aload_n dX10_image_11 rfl 0 rfl ?_
  refine A_getR (b := 22) dX10_image_12 fo_RX10_16 L0 rfl ?_
  refine A_callV (M' := MX1_forgetReasons) [] [] 22 dX10_image_15 lk_RX10_286 oX1_forgetReasons iX1_forgetReasons rfl rfl ⟨lb rfl, lb rfl⟩ (lb rfl) ⟨lb rfl, lb rfl⟩ L22 rfl (x_forgetReasons F 22 (.inr (.inl rfl))) ?_
  rintro _ G ⟨rfl, hG⟩
  have hG0 : ∀ a, a ≠ 27 → a ≠ 28 → G a = F a := fun a a1 a2 => by rw [hG, frA, ur_n _ _ a2, ur_n _ _ a1]
  have hF0 : ∀ a, (a < 24 ∨ (26 < a ∧ a < 30) ∨ 34 < a) → F a = cpB22_1 f a := fun a ha => by rw [hF, dM_o _ _ _ _ (by omega)]
  refine A_aload_n dX10_image_18 rfl 0 rfl ?_
  refine A_iconst (v := 1) dX10_image_19 rfl ?_
  refine A_putZ dX10_image_20 fo_RX10_19 L0 rfl (by decide) ?_
  refine A_aload_n dX10_image_23 rfl 0 rfl ?_
  refine A_getR (b := 22) dX10_image_24 fo_RX10_16 L0 rfl ?_
  refine A_getI dX10_image_27 fo_RX10_63 L22 rfl ?_
  refine A_topi (nI (s 13 0)) (by rw [u2_n _ _ _ (by decide), hG0 22 (by decide) (by decide), hF0 22 (by omega), cpB22_1_0]; exact hC.n) ?_
  exact A_iret dX10_image_30 rfl (⟨rfl, ⟨by rw [u2_s, upd_s]; rfl, (isD_dM (cpB22_1 f) 22 s k).c2 (fun a ha => by rw [u2_n _ _ _ (by omega), hG0 a (by omega) (by omega), hF]), fun _ => ⟨(cpB22_1_S (k := k) hC.2.1 (fun t ht => (w.2.1 t ht).1)).c2 (fun a ha => by rw [u2_n _ _ _ (by omega), hG0 a (by omega) (by omega), hF]), by rw [u2_n _ _ _ (by decide), hG0 22 (by decide) (by decide), hF0 22 (by omega), cpB22_1_1]; exact hC.2.2.1, fun t ht => ⟨by rw [u2_n _ _ _ (by decide), hG, frA, ur_n _ _ (by decide), show (27 : Nat) = 22 + 5 from rfl, ur_s, cpR, if_pos ht], by rw [u2_n _ _ _ (by decide), hG, frA, show (28 : Nat) = 22 + 6 from rfl, ur_s, cpR, if_pos ht]⟩⟩⟩, fun b b0 b1 => by rw [u2_n _ _ _ b0, hG0 b (by omega) (by omega), hF0 b (by omega), cpB22_1_o f (by omega)], fun j hj => by rw [u2_s, upd_n _ _ hj, hG0 0 (by decide) (by decide), hF0 0 (by omega), cpB22_1_o f (by omega)]⟩)
theorem x_back2 (f : Mem) (s : Sg) (k p rz lz : Ro) (hC : XC f s k p rz lz) (w : wfC s k p) (im : Nat) (s' : Sg) (k' p' : Ro) (hI : XI f im s' k' p') (w' : wfC s' k' p') (h1 : im = 1) : C0 MX10_back [.ref 0] f (fun r h => r = some (.int (nI (s' 13 0))) ∧ XC h s' k' p' z0 z0 ∧ fC f h) := by
  refine Ct.of (lv := [(0, .ref 0)]) (by decide) (lb rfl) rfl ?_
  refine A_aload_n dX10_back_0 rfl 0 rfl ?_
  refine A_getI dX10_back_1 fo_RX10_19 L0 rfl ?_
  refine A_topi (nI im) hI.1 ?_
  refine A_if_ne (tgt := 10) dX10_back_4 rfl (fun h4 => ?_) (fun h4 => by exact absurd (by rw [h1] at h4; exact h4) (by decide))
  refine A_aload_n dX10_back_10 rfl 0 rfl ?_
  refine A_getR (b := 55) dX10_back_11 fo_RX10_52 L0 rfl ?_
  refine A_callV (M' := MX6_forget) [] [] 55 dX10_back_14 lk_RX10_67 oX6_forget iX6_forget rfl rfl ⟨lb rfl, lb rfl⟩ (lb rfl) ⟨lb rfl, lb rfl⟩ L55 rfl (x_forget f) ?_
  rintro _ F ⟨rfl, hF⟩
  have hF0 : ∀ a, a ≠ 55 → F a = f a := fun a ha => by rw [hF, u2_n _ _ _ ha]
  have hC1 : XC F s k p rz lz := hC.congr (fun a a1 a2 => hF0 a (by omega))
  have hI1 : XI F im s' k' p' := hI.congr (by rw [hF0 0 (by decide)]) (fun a a1 a2 => hF0 a (by omega))
  have hK := x_copy1_22 F s' s k' k hI1.2.1.eq ((hI1.2.2 h1).1.z1 w'.2.2.2.1)
  rw [hC1.1.eq] at hK
  refine A_aload_n dX10_back_17 rfl 0 rfl ?_
  refine A_getR (b := 1) dX10_back_18 fo_RX10_10 L0 rfl ?_
  refine A_aload_n dX10_back_21 rfl 0 rfl ?_
  refine A_getR (b := 22) dX10_back_22 fo_RX10_16 L0 rfl ?_
  refine A_callV (M' := MX1_copyFrom) [.ref 22] [] 1 dX10_back_25 lk_RX10_283 oX1_copyFrom iX1_copyFrom rfl rfl ⟨lb rfl, lb rfl⟩ (lb rfl) ⟨lb rfl, lb rfl⟩ L1 rfl (hK) ?_
  rintro _ G ⟨rfl, hG⟩
  refine A_aload_n dX10_back_28 rfl 0 rfl ?_
  refine A_getR (b := 1) dX10_back_29 fo_RX10_10 L0 rfl ?_
  refine A_getI dX10_back_32 fo_RX10_63 L1 rfl ?_
  refine A_topi (nI (s' 13 0)) (by rw [hG, dM_o _ _ _ _ (by omega), cpB1_22_0]; exact (hI1.2.2 h1).1.1) ?_
  exact A_iret dX10_back_35 rfl (⟨rfl, ⟨by rw [hG]; exact isD_dM .., by rw [hG]; exact cpB1_22_S (hI1.2.2 h1).1 (fun t ht => (w'.2.1 t ht).1), by rw [hG, dM_o _ _ _ _ (by omega), cpB1_22_1]; exact (hI1.2.2 h1).2.1, fun t ht => ⟨by rw [hG, dM_o _ _ _ _ (by omega)]; exact (cpB1_22_5 F ht).trans ((hI1.2.2 h1).2.2 t ht).1, by rw [hG, dM_o _ _ _ _ (by omega)]; exact (cpB1_22_6 F ht).trans ((hI1.2.2 h1).2.2 t ht).2⟩⟩, by rw [hG, dM_o _ _ _ _ (by omega), cpB1_22_o F (by omega), hF, u2_s, upd_s], fun b b1 b2 => by rw [hG, dM_o _ _ _ _ (by omega), cpB1_22_o F (by omega), hF0 b b2]⟩)
