/-! the reference finds all: the loops -/
def zz (g : Ro) (n : Nat) : Ro := fun i => if i < n then 0 else g i
theorem zz_0 (g : Ro) : zz g 0 = g := by funext i; unfold zz; rw [if_neg (by omega)]
theorem zz_s (g : Ro) (n : Nat) : upd (zz g n) n 0 = zz g (n + 1) := by
  funext i; simp only [zz, upd]
  by_cases h : i = n
  · rw [if_pos h, if_pos (by omega)]
  · rw [if_neg h]
    by_cases q : i < n
    · rw [if_pos q, if_pos (by omega)]
    · rw [if_neg q, if_neg (by omega)]
theorem lc_in0 (f0 : Mem) (p : Ro) (u : Pt) (i : Nat) (Q : Option Value → Mem → Prop) (h13 : u.1 13 0 ≤ 4) (t : Nat) (F : Mem) (q : Sr) (hx : CR f0 p u F q) (hJ : Jq p u q) (ht : t = u.1 13 0) (kk : ∀ h, CR f0 p u h q → A (cM MX11_findsAll 0 0 layT layT Q) 136 [(1, .int (nI i)), (0, .ref 93)] [] h) : A (cM MX11_findsAll 0 0 layT layT Q) 67 [(2, .int (nI t)), (1, .int (nI i)), (0, .ref 93)] [] F := by
  refine A_iload_n dX11_findsAll_67 rfl 0 rfl ?_
  refine A_aload_n dX11_findsAll_68 rfl 2 rfl ?_
  refine A_getR (b := 94) dX11_findsAll_69 fo_RX11_9 L93 rfl ?_
  refine A_bipush (v := 52) dX11_findsAll_72 rfl ?_
  refine A_iaload 52 dX11_findsAll_74 L94 (rfl) (by decide) (lb rfl) ?_
  refine A_topi (nI (u.1 13 0)) (hx.2.2.1.1) ?_
  refine A_icmp_ge (tgt := 136) dX11_findsAll_75 rfl (fun h75 => ?_) (fun h75 => ?_)
  · rw [nI_leI (by omega) (by omega)] at h75
    refine A_sub [1, 2] rfl ?_
    exact kk F hx
  · rw [nI_leI (by omega) (by omega)] at h75
    omega
theorem lc_in1 (f0 : Mem) (p : Ro) (u : Pt) (i : Nat) (Q : Option Value → Mem → Prop) (h13 : u.1 13 0 ≤ 4) (t : Nat) (F : Mem) (q : Sr) (hx : CR f0 p u F q) (hJ : Jq p u q) (ht : t < u.1 13 0) (kk0 : q.2.2.2.2.2 = 0 → A (cM MX11_findsAll 0 0 layT layT Q) 136 [(1, .int (nI i)), (0, .ref 93)] [] F) (kk1 : ¬ q.2.2.2.2.2 = 0 → A (cM MX11_findsAll 0 0 layT layT Q) 85 [(2, .int (nI t)), (1, .int (nI i)), (0, .ref 93)] [] F) : A (cM MX11_findsAll 0 0 layT layT Q) 67 [(2, .int (nI t)), (1, .int (nI i)), (0, .ref 93)] [] F := by
  refine A_iload_n dX11_findsAll_67 rfl 0 rfl ?_
  refine A_aload_n dX11_findsAll_68 rfl 2 rfl ?_
  refine A_getR (b := 94) dX11_findsAll_69 fo_RX11_9 L93 rfl ?_
  refine A_bipush (v := 52) dX11_findsAll_72 rfl ?_
  refine A_iaload 52 dX11_findsAll_74 L94 (rfl) (by decide) (lb rfl) ?_
  refine A_topi (nI (u.1 13 0)) (hx.2.2.1.1) ?_
  refine A_icmp_ge (tgt := 136) dX11_findsAll_75 rfl (fun h75 => by exact absurd h75 (fun z => by rw [nI_leI (by omega) (by omega)] at z; omega)) (fun h75 => ?_)
  refine A_aload_n dX11_findsAll_78 rfl 2 rfl ?_
  refine A_getI dX11_findsAll_79 fo_RX11_234 L93 rfl ?_
  refine A_topi (nI q.2.2.2.2.2) (hx.1.2.1) ?_
  refine A_if_eq (tgt := 136) dX11_findsAll_82 rfl (fun h82 => ?_) (fun h82 => ?_)
  · rw [nI_z (by have := hJ.2.2.1; omega)] at h82
    refine A_sub [1, 2] rfl ?_
    exact kk0 h82
  · rw [nI_z (by have := hJ.2.2.1; omega)] at h82
    refine A_sub [0, 1, 2] rfl ?_
    exact kk1 h82
theorem lc_in (f0 : Mem) (p : Ro) (u : Pt) (i : Nat) (Q : Option Value → Mem → Prop) (h13 : u.1 13 0 ≤ 4) : ∀ (m t : Nat) (F : Mem) (q : Sr), CR f0 p u F q → Jq p u q → i < q.1 → m + t = u.1 13 0 → (∀ h, CR f0 p u h (inl p i m t q) → A (cM MX11_findsAll 0 0 layT layT Q) 136 [(1, .int (nI i)), (0, .ref 93)] [] h) → A (cM MX11_findsAll 0 0 layT layT Q) 67 [(2, .int (nI t)), (1, .int (nI i)), (0, .ref 93)] [] F
  | 0, t, F, q, hx, hJ, hi, ht, kk => lc_in0 f0 p u i Q h13 t F q hx hJ (by omega) kk
  | m + 1, t, F, q, hx, hJ, hi, ht, kk => by
    unfold inl at kk
    refine lc_in1 f0 p u i Q h13 t F q hx hJ (by omega) (fun h => ?_) (fun h => ?_)
    · rw [if_pos h] at kk; exact kk F hx
    · rw [if_neg h] at kk
      refine lc_ex f0 F p u q i t Q hx hJ hi (by omega) h (fun h2 hx2 => ?_)
      refine A_iinc (lv' := [(2, .int (nI (t + 1))), (1, .int (nI i)), (0, .ref 93)]) dX11_findsAll_130 0 rfl (nI_add t 1) (lb rfl) rfl ?_
      refine A_goto (tgt := 67) dX11_findsAll_133 rfl ?_
      exact lc_in f0 p u i Q h13 m (t + 1) h2 (one p i t q) hx2 (Jq_1 hJ hi (by omega)) (Nat.lt_of_lt_of_le hi (gr_1 p i t q).1) (by omega) kk
theorem lc_ou1 (f0 : Mem) (p : Ro) (u : Pt) (Q : Option Value → Mem → Prop) (h13 : u.1 13 0 ≤ 4) (i : Nat) (F : Mem) (q : Sr) (hx : CR f0 p u F q) (hJ : Jq p u q) (ht : i ≤ 600) (kk0 : ¬ (i < q.1 ∧ ¬ q.2.2.2.2.2 = 0) → A (cM MX11_findsAll 0 0 layT layT Q) 142 [(0, .ref 93)] [] F) (kk1 : i < q.1 ∧ ¬ q.2.2.2.2.2 = 0 → A (cM MX11_findsAll 0 0 layT layT Q) 67 [(2, .int 0), (1, .int (nI i)), (0, .ref 93)] [] F) : A (cM MX11_findsAll 0 0 layT layT Q) 50 [(1, .int (nI i)), (0, .ref 93)] [] F := by
  refine A_iload_n dX11_findsAll_50 rfl 0 rfl ?_
  refine A_aload_n dX11_findsAll_51 rfl 1 rfl ?_
  refine A_getI dX11_findsAll_52 fo_RX11_231 L93 rfl ?_
  refine A_topi (nI q.1) (hx.1.1.1) ?_
  refine A_icmp_ge (tgt := 142) dX11_findsAll_55 rfl (fun h55 => ?_) (fun h55 => ?_)
  · rw [nI_leI (by have := hJ.2.1; omega) (by omega)] at h55
    refine A_sub [1] rfl ?_
    exact kk0 (fun z => by first | omega | exact z.2 h62)
  · rw [nI_leI (by have := hJ.2.1; omega) (by omega)] at h55
    refine A_aload_n dX11_findsAll_58 rfl 1 rfl ?_
    refine A_getI dX11_findsAll_59 fo_RX11_234 L93 rfl ?_
    refine A_topi (nI q.2.2.2.2.2) (hx.1.2.1) ?_
    refine A_if_eq (tgt := 142) dX11_findsAll_62 rfl (fun h62 => ?_) (fun h62 => ?_)
    · rw [nI_z (by have := hJ.2.2.1; omega)] at h62
      refine A_sub [1] rfl ?_
      exact kk0 (fun z => by first | omega | exact z.2 h62)
    · rw [nI_z (by have := hJ.2.2.1; omega)] at h62
      refine A_iconst (v := 0) dX11_findsAll_65 rfl ?_
      refine A_istore_n (lv' := [(2, .int 0), (1, .int (nI i)), (0, .ref 93)]) dX11_findsAll_66 rfl (lb rfl) rfl ?_
      refine A_sub [0, 1, 2] rfl ?_
      exact kk1 ⟨by omega, h62⟩
theorem lc_ou (f0 : Mem) (p : Ro) (u : Pt) (Q : Option Value → Mem → Prop) (h13 : u.1 13 0 ≤ 4) : ∀ (m i : Nat) (F : Mem) (q : Sr), CR f0 p u F q → Jq p u q → m + i = 600 → (∀ h, CR f0 p u h (out p (u.1 13 0) m i q) → A (cM MX11_findsAll 0 0 layT layT Q) 142 [(0, .ref 93)] [] h) → A (cM MX11_findsAll 0 0 layT layT Q) 50 [(1, .int (nI i)), (0, .ref 93)] [] F
  | 0, i, F, q, hx, hJ, ht, kk => lc_ou1 f0 p u Q h13 i F q hx hJ (by omega) (fun _ => kk F hx) (fun h => absurd h.1 (by have := hJ.2.1; omega))
  | m + 1, i, F, q, hx, hJ, ht, kk => by
    unfold out at kk
    refine lc_ou1 f0 p u Q h13 i F q hx hJ (by omega) (fun h => ?_) (fun h => ?_)
    · rw [if_neg h] at kk; exact kk F hx
    · rw [if_pos h] at kk
      refine lc_in f0 p u i Q h13 (u.1 13 0) 0 F q hx hJ h.1 (by omega) (fun h2 hx2 => ?_)
      refine A_iinc (lv' := [(1, .int (nI (i + 1))), (0, .ref 93)]) dX11_findsAll_136 0 rfl (nI_add i 1) (lb rfl) rfl ?_
      refine A_goto (tgt := 50) dX11_findsAll_139 rfl ?_
      exact lc_ou f0 p u Q h13 m (i + 1) h2 _ hx2 (Jq_i _ 0 q hJ h.1 (by omega)) (by omega) kk
theorem lc_fa (f : Mem) (s : Sg) (k p rz lz : Ro) (hC : RC f s k p rz lz) (w : wfC s k p) (h96 : R96 f) : ∀ i, i ≤ 2048 → A (cM MX11_findsAll 0 0 layT layT (fun r h => r = none ∧ RE h (sch p (s, k)) ∧ R96 h ∧ frS f h)) 2 [(1, .int (nI i)), (0, .ref 93)] [] (ur f 108 (zz (f 108) i)) := by
  refine up_ind 2048 (fun i hi ih => ?_)
  refine A_iload_n dX11_findsAll_2 rfl 0 rfl ?_
  refine A_sipush (v := 2048) dX11_findsAll_3 rfl ?_
  refine A_icmp_ge (tgt := 22) dX11_findsAll_6 rfl (fun h6 => ?_) (fun h6 => ?_)
  · rw [show (2048 : Int32) = nI 2048 from rfl, nI_leI (by omega) (by omega)] at h6
    have e2048 : i = 2048 := by omega
    subst e2048
    refine A_sub [1] rfl ?_
    refine A_aload_n dX11_findsAll_22 rfl 0 rfl ?_
    refine A_iconst (v := 0) dX11_findsAll_23 rfl ?_
    refine A_putI dX11_findsAll_24 fo_RX11_231 L93 rfl ?_
    refine A_aload_n dX11_findsAll_27 rfl 0 rfl ?_
    refine A_getR (b := 94) dX11_findsAll_28 fo_RX11_9 L93 rfl ?_
    refine A_iconst (v := 0) dX11_findsAll_31 rfl ?_
    refine A_aload_n dX11_findsAll_32 rfl 0 rfl ?_
    refine A_getR (b := 96) dX11_findsAll_33 fo_RX11_16 L93 rfl ?_
    refine A_iconst (v := 0) dX11_findsAll_36 rfl ?_
    refine A_bipush (v := 52) dX11_findsAll_37 rfl ?_
    refine A_callS (M' := MX11_copies) [.ref 94, .int 0, .ref 96, .int 0, .int 52] [] dX11_findsAll_39 lk_RX11_146 oX11_copies sX11_copies rfl rfl ⟨lb rfl, lb rfl⟩ (lb rfl) ⟨lb rfl, lb rfl⟩ (c_copies 0 0 52 _ rfl rfl (by decide) (by decide) (by decide) (by decide) (by decide)) ?_
    rintro _ g0 ⟨rfl, hg0⟩
    have e1 : ∀ b, b ≠ 93 → b ≠ 108 → (u2 (ur f 108 (zz (f 108) 2048)) 93 23 0) b = f b := fun b b1 b2 => by rw [u2_n _ _ _ b1, ur_n _ _ b2]
    have hC2 : RC (u2 (ur f 108 (zz (f 108) 2048)) 93 23 0) s k p rz lz := hC.congr (e1 94 (by decide) (by decide)) (e1 97 (by decide) (by decide)) (e1 98 (by decide) (by decide))
    have h962 : R96 (u2 (ur f 108 (zz (f 108) 2048)) 93 23 0) := fun j hj => by rw [e1 96 (by decide) (by decide)]; exact h96 j hj
    have e93 : ∀ i, i ≠ 23 → (u2 (ur f 108 (zz (f 108) 2048)) 93 23 0) 93 i = f 93 i := fun i hi => by rw [u2, ur_s, upd_n _ _ hi, ur_n _ _ (by decide)]
    have e23 : (u2 (ur f 108 (zz (f 108) 2048)) 93 23 0) 93 23 = 0 := by rw [u2, ur_s, upd_s]
    have e108 : ∀ x, x < 2048 → (u2 (ur f 108 (zz (f 108) 2048)) 93 23 0) 108 x = 0 := fun x hx => by rw [u2_n _ _ _ (by decide), ur_s]; unfold zz; rw [if_pos hx]
    rw [hg0, hC2.flat h962]
    generalize u2 (ur f 108 (zz (f 108) 2048)) 93 23 0 = G at *
    refine A_aload_n dX11_findsAll_42 rfl 0 rfl ?_
    refine A_iconst (v := -1) dX11_findsAll_43 rfl ?_
    refine A_iconst (v := -1) dX11_findsAll_44 rfl ?_
    refine A_callV (M' := MX11_finds) [.int (-1), .int (-1)] [] 93 dX11_findsAll_45 lk_RX11_238 oX11_finds iX11_finds rfl rfl ⟨lb rfl, lb rfl⟩ (lb rfl) ⟨lb rfl, lb rfl⟩ L93 rfl (c_findsA0 _ (s, k) 0 (fun _ => (s, k)) ⟨by rw [ur_n _ _ (by decide), e23]; rfl, fun j hj => absurd hj (by omega), tB_0 (fun x hx => by rw [ur_n _ _ (by decide)]; exact e108 x hx) _⟩ (by omega) (ur_s _ _ _) (fun ⟨j, hj, _⟩ => absurd hj (by omega)) (by omega)) ?_
    rintro _ h ⟨rfl, K3, a93, a5, a6, a7, ab⟩
    rw [up_c] at K3
    have hx : CR f p (s, k) h (q0 (s, k)) := ⟨⟨K3, by rw [a93, upd_n _ _ (by decide), upd_s]; rfl, fun j j1 j2 => absurd j2 (by show ¬ j < 1; omega), fun j j2 => by rw [a7, show j = 0 by have j2 : j < 1 := j2; omega, upd_s]; rfl⟩, R96_fl (v := (s, k)) ((ab 96 (by decide) (by omega)).trans (ur_s _ _ _)), gR_c ((ab 94 (by decide) (by omega)).trans (ur_n _ _ (by decide))) hC2.gR, ⟨fun b hb => (ab b (by omega) (by omega)).trans ((ur_n _ _ (by omega)).trans (e1 b (by omega) (by omega))), fun i i1 i2 i3 i4 => by rw [a93, upd_n _ _ i3, upd_n _ _ i4, ur_n _ _ (by decide)]; exact e93 i i3⟩⟩
    refine A_iconst (v := 0) dX11_findsAll_48 rfl ?_
    refine A_istore_n (lv' := [(1, .int 0), (0, .ref 93)]) dX11_findsAll_49 rfl (lb rfl) rfl ?_
    refine A_sub [0, 1] rfl ?_
    refine lc_ou f p (s, k) _ w.2.2.2.2.1 600 0 h (q0 (s, k)) hx (Jq_0 w) (by omega) (fun G hG => ?_)
    exact A_vret dX11_findsAll_142 rfl ⟨rfl, hG.1, hG.2.1, hG.2.2.2⟩
  · rw [show (2048 : Int32) = nI 2048 from rfl, nI_leI (by omega) (by omega)] at h6
    refine A_aload_n dX11_findsAll_9 rfl 1 rfl ?_
    refine A_getR (b := 108) dX11_findsAll_10 fo_RX11_52 L93 rfl ?_
    refine A_iload_n dX11_findsAll_13 rfl 0 rfl ?_
    refine A_iconst (v := 0) dX11_findsAll_14 rfl ?_
    refine A_iastore i dX11_findsAll_15 L108 (rfl) (by omega) (lb rfl) ?_
    refine A_eq rfl rfl (f' := ur f 108 (zz (f 108) (i + 1))) (by rw [u2, ur_s, ur_ur, zz_s]) ?_
    refine A_iinc (lv' := [(1, .int (nI (i + 1))), (0, .ref 93)]) dX11_findsAll_16 0 rfl (nI_add i 1) (lb rfl) rfl ?_
    refine A_goto (tgt := 2) dX11_findsAll_19 rfl ?_
    exact ih (i + 1) (by omega) (by omega)
theorem c_findsAll (f : Mem) (s : Sg) (k p rz lz : Ro) (hC : RC f s k p rz lz) (w : wfC s k p) (h96 : R96 f) : C0 MX11_findsAll [.ref 93] f (fun r h => r = none ∧ RE h (sch p (s, k)) ∧ R96 h ∧ frS f h) := by
  refine Ct.of (lv := [(0, .ref 93)]) (by decide) (lb rfl) rfl ?_
  refine A_iconst (v := 0) dX11_findsAll_0 rfl ?_
  refine A_istore_n (lv' := [(1, .int 0), (0, .ref 93)]) dX11_findsAll_1 rfl (lb rfl) rfl ?_
  refine A_eq rfl rfl (f' := ur f 108 (zz (f 108) 0)) (by rw [zz_0, ur_self]) ?_
  exact lc_fa f s k p rz lz hC w h96 0 (by omega)
