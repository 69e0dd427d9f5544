/-! the desk anew: the reference; the image -/
theorem zS_lo {s : Sg} {c i : Nat} (h : c < 13) : zS s c i = 0 := by simp [zS, h]
theorem flat_z (s : Sg) (j : Nat) : flat (zS s) z0 j = 0 := by
  unfold flat
  by_cases q : j < 48
  · rw [if_pos q, zS_lo (fc_13 j q)]; rfl
  · rw [if_neg q]
    by_cases q2 : j < 52
    · rw [if_pos q2]
    · rw [if_neg q2]
theorem RC_anew {f h : Mem} {s : Sg} {k p rz lz : Ro} (hC : RC f s k p rz lz) (e : h 94 = upd (zf (f 94) 0 52) 56 (-5)) : RC h (zS s) z0 p z0 z0 := by
  refine ⟨fun j hj => ?_, fun t ht => ⟨fun q => ?_, fun q => ?_⟩⟩
  · rw [e]
    unfold upd zf
    by_cases q : j = 56
    · rw [if_pos q, q, gF_56]; rfl
    · rw [if_neg q]
      by_cases q2 : j < 52
      · rw [if_pos (by omega), gF_lo q2, flat_z]
      · rw [if_neg (by omega), hC.1 j hj]
        unfold gF
        rw [if_neg q2, if_neg q2, if_neg q, if_neg q]
        rfl
  · rw [zS_lo (by decide)] at q; omega
  · rw [zS_lo (by decide)] at q; omega
theorem lc_restart (f : Mem) (s : Sg) (k p rz lz : Ro) (hC : RC f s k p rz lz) (w : wfC s k p) : ∀ i, i ≤ 52 → A (cM MX11_restart 0 0 layT layT (fun r h => r = some (.int (nI (s 13 0))) ∧ RC h (zS s) z0 p z0 z0 ∧ fG f h)) 2 [(1, .int (nI i)), (0, .ref 93)] [] (ur f 94 (zf (f 94) 0 i)) := by
  refine up_ind 52 (fun i hi ih => ?_)
  refine A_iload_n dX11_restart_2 rfl 0 rfl ?_
  refine A_bipush (v := 52) dX11_restart_3 rfl ?_
  refine A_icmp_ge (tgt := 21) dX11_restart_5 rfl (fun h5 => ?_) (fun h5 => ?_)
  · rw [show (52 : Int32) = nI 52 from rfl, nI_leI (by omega) (by omega)] at h5
    have ei : i = 52 := by omega
    rw [ei]
    refine A_aload_n dX11_restart_21 rfl 1 rfl ?_
    refine A_getR (b := 94) dX11_restart_22 fo_RX11_9 L93 rfl ?_
    refine A_bipush (v := 56) dX11_restart_25 rfl ?_
    refine A_bipush (v := -5) dX11_restart_27 rfl ?_
    refine A_iastore 56 dX11_restart_29 L94 (rfl) (by decide) (lb rfl) ?_
    refine A_aload_n dX11_restart_30 rfl 1 rfl ?_
    refine A_getR (b := 94) dX11_restart_31 fo_RX11_9 L93 rfl ?_
    refine A_bipush (v := 52) dX11_restart_34 rfl ?_
    refine A_iaload 52 dX11_restart_36 L94 (rfl) (by decide) (lb rfl) ?_
    refine A_topi (nI (s 13 0)) (by rw [u2_s, upd_n _ _ (by decide), ur_s, zf, if_neg (by omega)]; exact hC.n) ?_
    exact A_iret dX11_restart_37 rfl (⟨rfl, RC_anew hC (by rw [u2_s, ur_s]), fun b hb => by rw [u2_n _ _ _ hb, ur_n _ _ hb]⟩)
  · rw [show (52 : Int32) = nI 52 from rfl, nI_leI (by omega) (by omega)] at h5
    refine A_aload_n dX11_restart_8 rfl 1 rfl ?_
    refine A_getR (b := 94) dX11_restart_9 fo_RX11_9 L93 rfl ?_
    refine A_iload_n dX11_restart_12 rfl 0 rfl ?_
    refine A_iconst (v := 0) dX11_restart_13 rfl ?_
    refine A_iastore i dX11_restart_14 L94 (rfl) (by omega) (lb rfl) ?_
    refine A_iinc (lv' := [(1, .int (nI (i + 1))), (0, .ref 93)]) dX11_restart_15 0 rfl (nI_add i 1) (lb rfl) rfl ?_
    refine A_goto (tgt := 2) dX11_restart_18 rfl ?_
    refine A_eq rfl rfl (f' := ur f 94 (zf (f 94) 0 (i + 1))) (by rw [u2, ur_s, ur_ur, ← zf_s, Nat.zero_add]) ?_
    exact ih (i + 1) (by omega) (by omega)
theorem c_restart (f : Mem) (s : Sg) (k p rz lz : Ro) (hC : RC f s k p rz lz) (w : wfC s k p) : C0 MX11_restart [.ref 93] f (fun r h => r = some (.int (nI (s 13 0))) ∧ RC h (zS s) z0 p z0 z0 ∧ fG f h) := by
  refine Ct.of (lv := [(0, .ref 93)]) (by decide) (lb rfl) rfl ?_
  refine A_iconst (v := 0) dX11_restart_0 rfl ?_
  refine A_istore_n (lv' := [(1, .int 0), (0, .ref 93)]) dX11_restart_1 rfl (lb rfl) rfl ?_
  refine A_eq rfl rfl (f' := ur f 94 (zf (f 94) 0 0)) (by rw [zf_0, ur_self]) ?_
  exact lc_restart f s k p rz lz hC w 0 (by omega)
theorem c_image (f : Mem) (s : Sg) (k p rz lz : Ro) (hC : RC f s k p rz lz) (w : wfC s k p) : C0 MX11_image [.ref 93] f (fun r h => r = some (.int (nI (s 13 0))) ∧ RI h 1 s k p ∧ (∀ b, b ≠ 93 → b ≠ 95 → h b = f b) ∧ ∀ j, j ≠ 5 → h 93 j = f 93 j) := by
  refine Ct.of (lv := [(0, .ref 93)]) (by decide) (lb rfl) rfl ?_
  refine A_aload_n dX11_image_0 rfl 0 rfl ?_
  refine A_getR (b := 94) dX11_image_1 fo_RX11_9 L93 rfl ?_
  refine A_iconst (v := 0) dX11_image_4 rfl ?_
  refine A_aload_n dX11_image_5 rfl 0 rfl ?_
  refine A_getR (b := 95) dX11_image_6 fo_RX11_13 L93 rfl ?_
  refine A_iconst (v := 0) dX11_image_9 rfl ?_
  refine A_sipush (v := 253) dX11_image_10 rfl ?_
  refine A_callS (M' := MX11_copies) [.ref 94, .int 0, .ref 95, .int 0, .int 253] [] dX11_image_13 lk_RX11_146 oX11_copies sX11_copies rfl rfl ⟨lb rfl, lb rfl⟩ (lb rfl) ⟨lb rfl, lb rfl⟩ (c_copies 0 0 253 f rfl rfl (by decide) (by decide) (by decide) (by decide) (by decide)) ?_
  rintro _ F ⟨rfl, hF⟩
  refine A_aload_n dX11_image_16 rfl 0 rfl ?_
  refine A_iconst (v := 1) dX11_image_17 rfl ?_
  refine A_putZ dX11_image_18 fo_RX11_289 L93 rfl (by decide) ?_
  refine A_aload_n dX11_image_21 rfl 0 rfl ?_
  refine A_getR (b := 94) dX11_image_22 fo_RX11_9 L93 rfl ?_
  refine A_bipush (v := 52) dX11_image_25 rfl ?_
  refine A_iaload 52 dX11_image_27 L94 (rfl) (by decide) (lb rfl) ?_
  refine A_topi (nI (s 13 0)) (by rw [u2_n _ _ _ (by decide), hF, gt_cpy, ur_n _ _ (by decide)]; exact hC.n) ?_
  exact A_iret dX11_image_28 rfl (⟨rfl, ⟨by rw [u2_s, upd_s]; rfl, fun _ j hj => by rw [u2_n _ _ _ (by decide), hF, gt_cpy, ur_s, cpy_R, cpR, if_pos hj]; exact hC.1 j hj⟩, fun b b1 b2 => by rw [u2_n _ _ _ b1, hF, gt_cpy, ur_n _ _ b2], fun j hj => by rw [u2_s, upd_n _ _ hj, hF, gt_cpy, ur_n _ _ (by decide)]⟩)
theorem c_back1 (f : Mem) (im : Nat) (s : Sg) (k p : Ro) (hI : RI f im s k p) (h0 : im = 0) : C0 MX11_back [.ref 93] f (rt (some (.int (-3))) f) := by
  refine Ct.of (lv := [(0, .ref 93)]) (by decide) (lb rfl) rfl ?_
  refine A_aload_n dX11_back_0 rfl 0 rfl ?_
  refine A_getI dX11_back_1 fo_RX11_289 L93 rfl ?_
  refine A_topi (nI im) (hI.1) ?_
  refine A_if_ne (tgt := 10) dX11_back_4 rfl (fun h4 => by exact absurd (by rw [h0]; rfl) h4) (fun h4 => ?_)
  refine A_bipush (v := -3) dX11_back_7 rfl ?_
  exact A_iret dX11_back_9 rfl (⟨rfl, rfl⟩)
theorem x_back1 (f : Mem) (im : Nat) (s : Sg) (k p : Ro) (hI : XI f im s k p) (h0 : im = 0) : C0 MX10_back [.ref 0] f (rt (some (.int (-3))) f) := by
  refine Ct.of (lv := [(0, .ref 0)]) (by decide) (lb rfl) rfl ?_
  refine A_aload_n dX10_back_0 rfl 0 rfl ?_
  refine A_getI dX10_back_1 fo_RX10_19 L0 rfl ?_
  refine A_topi (nI im) (hI.1) ?_
  refine A_if_ne (tgt := 10) dX10_back_4 rfl (fun h4 => by exact absurd (by rw [h0]; rfl) h4) (fun h4 => ?_)
  refine A_bipush (v := -3) dX10_back_7 rfl ?_
  exact A_iret dX10_back_9 rfl (⟨rfl, rfl⟩)
