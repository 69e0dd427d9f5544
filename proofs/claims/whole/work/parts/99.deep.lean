/-! how deep; who moved -/
def Jd (q : Sr) (i : Nat) : Prop := (∀ a b, a ≤ b → b < q.1 → q.2.2.2.2.1 a ≤ q.2.2.2.2.1 b) ∧ (∀ b, b < q.1 → q.2.2.2.2.1 b ≤ q.2.2.2.2.1 i + 1) ∧ (∀ j, 1 ≤ j → j < q.1 → q.2.2.1 j < j ∧ q.2.2.2.2.1 j = q.2.2.2.2.1 (q.2.2.1 j) + 1 ∧ q.2.2.2.1 j < 4) ∧ q.2.2.2.2.1 0 = 0
theorem Jd_a {q : Sr} {i t : Nat} (h : Jd q i) (hi : i < q.1) (ht : t < 4) (v : Pt) : Jd (addQ q i t (q.2.2.2.2.1 i + 1) v) i := by
  have di : upN q.2.2.2.2.1 q.1 (q.2.2.2.2.1 i + 1) i = q.2.2.2.2.1 i := upN_n _ _ (by omega)
  refine ⟨fun a b ab hb => ?_, fun b hb => ?_, fun j j1 j2 => ?_, ?_⟩
  · have hb : b < q.1 + 1 := hb
    show upN q.2.2.2.2.1 q.1 (q.2.2.2.2.1 i + 1) a ≤ upN q.2.2.2.2.1 q.1 (q.2.2.2.2.1 i + 1) b
    by_cases e : b = q.1
    · rw [e, upN_s]
      by_cases e2 : a = q.1
      · rw [e2, upN_s]; exact Nat.le_refl _
      · rw [upN_n _ _ e2]; exact h.2.1 a (by omega)
    · rw [upN_n _ _ e, upN_n _ _ (show a ≠ q.1 by omega)]; exact h.1 a b ab (by omega)
  · have hb : b < q.1 + 1 := hb
    show upN q.2.2.2.2.1 q.1 (q.2.2.2.2.1 i + 1) b ≤ upN q.2.2.2.2.1 q.1 (q.2.2.2.2.1 i + 1) i + 1
    rw [di]
    by_cases e : b = q.1
    · rw [e, upN_s]; exact Nat.le_refl _
    · rw [upN_n _ _ e]; exact h.2.1 b (by omega)
  · have j2 : j < q.1 + 1 := j2
    show upN q.2.2.1 q.1 i j < j ∧ upN q.2.2.2.2.1 q.1 (q.2.2.2.2.1 i + 1) j = upN q.2.2.2.2.1 q.1 (q.2.2.2.2.1 i + 1) (upN q.2.2.1 q.1 i j) + 1 ∧ upN q.2.2.2.1 q.1 t j < 4
    by_cases e : j = q.1
    · rw [e, upN_s, upN_s, upN_s, di]; exact ⟨hi, rfl, ht⟩
    · have := h.2.2.1 j j1 (by omega)
      rw [upN_n _ _ e, upN_n _ _ e, upN_n _ _ e, upN_n _ _ (show q.2.2.1 j ≠ q.1 by omega)]; exact this
  · show upN q.2.2.2.2.1 q.1 (q.2.2.2.2.1 i + 1) 0 = 0
    rw [upN_n _ _ (by omega)]; exact h.2.2.2
theorem Jd_1 {p : Ro} {q : Sr} {i t : Nat} (h : Jd q i) (hi : i < q.1) (ht : t < 4) : Jd (one p i t q) i := by
  unfold one
  split
  · by_cases hl : anyL q (nx p (q.2.1 i) t)
    · rw [fnd_l _ _ _ hl]; exact h
    · by_cases h6 : q.1 < 600
      · rw [fnd_a _ _ _ hl h6]; exact Jd_a h hi ht _
      · rw [fnd_e _ _ _ hl h6]; exact h
  · exact h
theorem Jd_i {p : Ro} {i : Nat} : ∀ (m t : Nat) (q : Sr), Jd q i → i < q.1 → m + t ≤ 4 → Jd (inl p i m t q) i
  | 0, _, q, h, _, _ => h
  | m + 1, t, q, h, hi, ht => by
    unfold inl
    split
    · exact h
    · exact Jd_i m (t + 1) _ (Jd_1 h hi (by omega)) (Nat.lt_of_lt_of_le hi (gr_1 p i t q).1) (by omega)
theorem Jd_o {p : Ro} {n : Nat} (hn : n ≤ 4) : ∀ (m i : Nat) (q : Sr), (∃ j, Jd q j) → (i < q.1 → Jd q i) → ∃ j, Jd (out p n m i q) j
  | 0, _, q, h, _ => h
  | m + 1, i, q, h, hi => by
    unfold out
    split
    · rename_i c
      have r := Jd_i (p := p) n 0 q (hi c.1) c.1 (by omega)
      refine Jd_o hn m (i + 1) _ ⟨i, r⟩ (fun l => ⟨r.1, fun b hb => ?_, r.2.2⟩)
      have x := r.2.1 b hb
      have y := r.1 i (i + 1) (by omega) l
      omega
    · exact h
theorem Jd_s {p : Ro} {u : Pt} (w : wfC u.1 u.2 p) : ∃ j, Jd (sch p u) j := by
  have z : Jd (q0 u) 0 := ⟨fun _ _ _ _ => Nat.le_refl _, fun _ _ => by show 0 ≤ 0 + 1; omega, fun j a b => absurd b (by show ¬ j < 1; omega), rfl⟩
  exact Jd_o w.2.2.2.2.1 600 0 _ ⟨0, z⟩ (fun _ => z)
/-- what is told of depths and ways -/
def Jw (q : Sr) : Prop := 1 ≤ q.1 ∧ q.1 ≤ 600 ∧ (∀ a b, a ≤ b → b < q.1 → q.2.2.2.2.1 a ≤ q.2.2.2.2.1 b) ∧ (∀ j, 1 ≤ j → j < q.1 → q.2.2.1 j < j ∧ q.2.2.2.2.1 j = q.2.2.2.2.1 (q.2.2.1 j) + 1 ∧ q.2.2.2.1 j < 4) ∧ q.2.2.2.2.1 0 = 0
theorem Jw_s {p : Ro} {u : Pt} (w : wfC u.1 u.2 p) : Jw (sch p u) := by
  obtain ⟨j, h⟩ := Jd_s w
  have a := Jq_s w
  exact ⟨a.1, a.2.1, h.1, h.2.2⟩
theorem Jw.le {q : Sr} (h : Jw q) : ∀ j, j < q.1 → q.2.2.2.2.1 j ≤ j := by
  intro j
  induction j using Nat.strongRecOn with
  | _ j ih =>
    intro hj
    rcases Nat.eq_zero_or_pos j with z | z
    · rw [z, h.2.2.2.2]; exact Nat.le_refl _
    · have a := h.2.2.2.1 j z hj
      have b := ih _ a.1 (by omega)
      omega
def anc (q : Sr) (g : Nat) : Nat → Nat
  | 0 => g
  | m + 1 => q.2.2.1 (anc q g m)
theorem Jw.anc {q : Sr} (h : Jw q) {g : Nat} (hg : g < q.1) : ∀ m, m ≤ q.2.2.2.2.1 g → anc q g m < q.1 ∧ q.2.2.2.2.1 (anc q g m) + m = q.2.2.2.2.1 g
  | 0, _ => ⟨hg, rfl⟩
  | m + 1, hm => by
    have ih := h.anc hg m (by omega)
    have p1 : 1 ≤ Jvm.Pilot.CGateTurnsLaw_law_r6370_5cadf8.anc q g m := by
      rcases Nat.eq_zero_or_pos (Jvm.Pilot.CGateTurnsLaw_law_r6370_5cadf8.anc q g m) with z | z
      · have e := ih.2; rw [z, h.2.2.2.2] at e; omega
      · exact z
    have a := h.2.2.2.1 _ p1 ih.1
    show q.2.2.1 (Jvm.Pilot.CGateTurnsLaw_law_r6370_5cadf8.anc q g m) < q.1 ∧ _
    refine ⟨by omega, ?_⟩
    show q.2.2.2.2.1 (q.2.2.1 (Jvm.Pilot.CGateTurnsLaw_law_r6370_5cadf8.anc q g m)) + (m + 1) = _
    omega
def dpf (q : Sr) (a : Nat) : Int32 := if a = 0 then -5 else nI (q.2.2.2.2.1 (a - 1))
def mvV (q : Sr) (a : Nat) (y : Int32) : Int32 := if a = 0 ∨ ¬ inR y (q.2.2.2.2.1 (a - 1)) then -1 else nI (q.2.2.2.1 (anc q (a - 1) (q.2.2.2.2.1 (a - 1) - 1 - y.toNatClampNeg)))
theorem nI_dn (a : Nat) : nI (a + 1) + -1 = nI a := by rw [nI_succ, Int32.add_assoc, show (1 : Int32) + -1 = 0 by decide, Int32.add_zero]
theorem nI_p1 {a : Nat} (h : ¬ a = 0) : nI a - 1 = nI (a - 1) := by rw [show nI a = nI (a - 1 + 1) by congr 1; omega, nI_pred]
theorem x_isFound (f : Mem) (p : Ro) (d : Cd) (u : Pt) (q : Sr) (x : XE f p d u q) (hW : Jw q) (z : Int32) : C0 MX6_isFound [.ref 55, .int z] f (rt (some (.int (bz (inR z q.1)))) f) := by
  have h600 := hW.2.1
  refine Ct.of (lv := [(0, .ref 55), (1, .int z)]) (by decide) (lb rfl) rfl ?_
  refine A_iload_n dX6_isFound_0 rfl 1 rfl ?_
  refine A_if_lt (tgt := 19) dX6_isFound_1 rfl (fun h1 => ?_) (fun h1 => ?_)
  · refine A_iconst (v := 0) dX6_isFound_19 rfl ?_
    exact A_zret dX6_isFound_20 rfl (by decide) (rti (bz_f (by first | exact x_ninL h1 | exact x_ninR (by omega) (by simpa using h12))).symm rfl)
  · have a1 := x_nn h1
    refine A_iload_n dX6_isFound_4 rfl 1 rfl ?_
    refine A_aload_n dX6_isFound_5 rfl 0 rfl ?_
    refine A_getR (b := 77) dX6_isFound_6 fo_RX6_25 L55 rfl ?_
    refine A_getI dX6_isFound_9 fo_RX6_79 L77 rfl ?_
    refine A_topi (nI q.1) x.1.1 ?_
    refine A_icmp_ge (tgt := 19) dX6_isFound_12 rfl (fun h12 => ?_) (fun h12 => ?_)
    · refine A_iconst (v := 0) dX6_isFound_19 rfl ?_
      exact A_zret dX6_isFound_20 rfl (by decide) (rti (bz_f (by first | exact x_ninL h1 | exact x_ninR (by omega) (by simpa using h12))).symm rfl)
    · refine A_iconst (v := 1) dX6_isFound_15 rfl ?_
      refine A_goto (tgt := 20) dX6_isFound_16 rfl ?_
      exact A_zret dX6_isFound_20 rfl (by decide) (rti (bz_t ⟨a1, by have g := Classical.not_not.mp (show ¬ ¬ z < nI q.1 by simpa using h12); rw [Int32.lt_iff_toInt_lt, nI_toInt (by omega)] at g; exact g⟩).symm rfl)
theorem x_dp0 (f : Mem) (p : Ro) (d : Cd) (u : Pt) (q : Sr) (x : XE f p d u q) (hW : Jw q) (a : Nat) (ha : a = 0) : C0 MX6_depthOf [.ref 55, .int (nI a - 1)] f (rt (some (.int (dpf q a))) f) := by
  refine Ct.of (lv := [(0, .ref 55), (1, .int (nI a - 1))]) (by decide) (lb rfl) rfl ?_
  refine A_aload_n dX6_depthOf_0 rfl 0 rfl ?_
  refine A_iload_n dX6_depthOf_1 rfl 1 rfl ?_
  refine A_callV (M' := MX6_isFound) [.int (nI a - 1)] [] 55 dX6_depthOf_2 lk_RX6_147 oX6_isFound iX6_isFound rfl rfl ⟨lb rfl, lb rfl⟩ (lb rfl) ⟨lb rfl, lb rfl⟩ L55 rfl (x_isFound f p d u q x hW (nI a - 1)) ?_
  rintro _ g0 ⟨rfl, hg0⟩
  rw [hg0]
  refine A_if_eq (tgt := 17) dX6_depthOf_5 rfl (fun h5 => ?_) (fun h5 => absurd (bz_f (by rw [ha]; exact x_ninL (by decide))) h5)
  refine A_bipush (v := -5) dX6_depthOf_17 rfl ?_
  exact A_iret dX6_depthOf_19 rfl (rti (by rw [dpf, if_pos ha]) rfl)
theorem x_dp1 (f : Mem) (p : Ro) (d : Cd) (u : Pt) (q : Sr) (x : XE f p d u q) (hW : Jw q) (a : Nat) (ha : ¬ a = 0) (hl : a ≤ q.1) : C0 MX6_depthOf [.ref 55, .int (nI (a - 1))] f (rt (some (.int (dpf q a))) f) := by
  have h600 := hW.2.1
  refine Ct.of (lv := [(0, .ref 55), (1, .int (nI (a - 1)))]) (by decide) (lb rfl) rfl ?_
  refine A_aload_n dX6_depthOf_0 rfl 0 rfl ?_
  refine A_iload_n dX6_depthOf_1 rfl 1 rfl ?_
  refine A_callV (M' := MX6_isFound) [.int (nI (a - 1))] [] 55 dX6_depthOf_2 lk_RX6_147 oX6_isFound iX6_isFound rfl rfl ⟨lb rfl, lb rfl⟩ (lb rfl) ⟨lb rfl, lb rfl⟩ L55 rfl (x_isFound f p d u q x hW (nI (a - 1))) ?_
  rintro _ g0 ⟨rfl, hg0⟩
  rw [hg0]
  refine A_if_eq (tgt := 17) dX6_depthOf_5 rfl (fun h5 => absurd h5 (bz_n0.mpr ((inR_nI (by omega)).mpr (by omega)))) (fun h5 => ?_)
  refine A_aload_n dX6_depthOf_8 rfl 0 rfl ?_
  refine A_getR (b := 83) dX6_depthOf_9 fo_RX6_36 L55 rfl ?_
  refine A_iload_n dX6_depthOf_12 rfl 1 rfl ?_
  refine A_iaload (a - 1) dX6_depthOf_13 L83 (by simp only [lit, nI_add, pk_mul]) (by omega) (lb rfl) ?_
  refine A_topi (nI (q.2.2.2.2.1 (a - 1))) (x.2.2.2.2 _ (by omega)) ?_
  refine A_goto (tgt := 19) dX6_depthOf_14 rfl ?_
  exact A_iret dX6_depthOf_19 rfl (rti (by rw [dpf, if_neg ha]) rfl)
theorem x_depthOf (f : Mem) (p : Ro) (d : Cd) (u : Pt) (q : Sr) (x : XE f p d u q) (hW : Jw q) (a : Nat) (hl : a ≤ q.1) : C0 MX6_depthOf [.ref 55, .int (nI a - 1)] f (rt (some (.int (dpf q a))) f) := by
  by_cases ha : a = 0
  · exact x_dp0 f p d u q x hW a ha
  · rw [nI_p1 ha]; exact x_dp1 f p d u q x hW a ha hl
theorem mv_no {q : Sr} (hW : Jw q) {a : Nat} (hl : a ≤ q.1) {y : Int32} (hy : a = 0 ∨ ¬ inR y (q.2.2.2.2.1 (a - 1))) (h7 : ¬ y < 0) : ¬ y < dpf q a := by
  intro h
  unfold dpf at h
  by_cases z : a = 0
  · rw [if_pos z] at h
    rw [Int32.lt_iff_toInt_lt] at h
    have e : (-5 : Int32).toInt = -5 := by decide
    have := x_nn h7
    omega
  · rw [if_neg z] at h
    rcases hy with hy | hy
    · exact z hy
    · refine hy ⟨x_nn h7, ?_⟩
      rw [Int32.lt_iff_toInt_lt, nI_toInt (by have := hW.le (a - 1) (by omega); have := hW.2.1; omega)] at h
      exact h
theorem x_mv0 (f : Mem) (p : Ro) (d : Cd) (u : Pt) (q : Sr) (x : XE f p d u q) (hW : Jw q) (a : Nat) (hl : a ≤ q.1) (y : Int32) (hy : a = 0 ∨ ¬ inR y (q.2.2.2.2.1 (a - 1))) : C0 MX6_moverOf [.ref 55, .int (nI a - 1), .int y] f (rt (some (.int (mvV q a y))) f) := by
  refine Ct.of (lv := [(0, .ref 55), (1, .int (nI a - 1)), (2, .int y)]) (by decide) (lb rfl) rfl ?_
  refine A_aload_n dX6_moverOf_0 rfl 0 rfl ?_
  refine A_iload_n dX6_moverOf_1 rfl 1 rfl ?_
  refine A_callV (M' := MX6_depthOf) [.int (nI a - 1)] [] 55 dX6_moverOf_2 lk_RX6_144 oX6_depthOf iX6_depthOf rfl rfl ⟨lb rfl, lb rfl⟩ (lb rfl) ⟨lb rfl, lb rfl⟩ L55 rfl (x_depthOf f p d u q x hW a hl) ?_
  rintro _ g0 ⟨rfl, hg0⟩
  rw [hg0]
  refine A_istore_n (lv' := [(3, .int (dpf q a)), (0, .ref 55), (1, .int (nI a - 1)), (2, .int y)]) dX6_moverOf_5 rfl (lb rfl) rfl ?_
  refine A_iload_n dX6_moverOf_6 rfl 3 rfl ?_
  refine A_if_lt (tgt := 15) dX6_moverOf_7 rfl (fun h7 => ?_) (fun h7 => ?_)
  · refine A_iconst (v := -1) dX6_moverOf_15 rfl ?_
    exact A_iret dX6_moverOf_16 rfl (rti (by rw [mvV, if_pos hy]) rfl)
  · refine A_iload_n dX6_moverOf_10 rfl 3 rfl ?_
    refine A_iload_n dX6_moverOf_11 rfl 0 rfl ?_
    refine A_icmp_lt (tgt := 17) dX6_moverOf_12 rfl (fun h12 => ?_) (fun h12 => ?_)
    · exact absurd h12 (mv_no hW hl hy h7)
    · refine A_iconst (v := -1) dX6_moverOf_15 rfl ?_
      exact A_iret dX6_moverOf_16 rfl (rti (by rw [mvV, if_pos hy]) rfl)
theorem lx_mv (f : Mem) (p : Ro) (d : Cd) (u : Pt) (q : Sr) (x : XE f p d u q) (hW : Jw q) (a i : Nat) (ha : ¬ a = 0) (hl : a ≤ q.1) (hi : i < q.2.2.2.2.1 (a - 1)) : ∀ m, m ≤ q.2.2.2.2.1 (a - 1) - 1 - i → A (cM MX6_moverOf 0 0 layT layT (rt (some (.int (nI (q.2.2.2.1 (anc q (a - 1) (q.2.2.2.2.1 (a - 1) - 1 - i)))))) f)) 25 [(4, .int (nI (anc q (a - 1) m))), (5, .int (nI (q.2.2.2.2.1 (a - 1) - 1 - m))), (2, .int (nI i)), (0, .ref 55)] [] f := by
  have h600 := hW.2.1
  have hle := hW.le (a - 1) (by omega)
  refine up_ind (q.2.2.2.2.1 (a - 1) - 1 - i) (fun m hm ih => ?_)
  have ha0 := hW.anc (g := a - 1) (by omega) m (by omega)
  have hp : 1 ≤ anc q (a - 1) m := by
    rcases Nat.eq_zero_or_pos (anc q (a - 1) m) with z | z
    · have e := ha0.2; rw [z, hW.2.2.2.2] at e; omega
    · exact z
  refine A_iload dX6_moverOf_25 1 rfl ?_
  refine A_iload_n dX6_moverOf_27 rfl 2 rfl ?_
  refine A_icmp_le (tgt := 55) dX6_moverOf_28 rfl (fun h28 => ?_) (fun h28 => ?_)
  · rw [nI_leI (by omega) (by omega)] at h28
    refine A_aload_n dX6_moverOf_55 rfl 3 rfl ?_
    refine A_iload dX6_moverOf_56 0 rfl ?_
    refine A_callV (M' := MX6_isFound) [.int (nI (anc q (a - 1) m))] [] 55 dX6_moverOf_58 lk_RX6_147 oX6_isFound iX6_isFound rfl rfl ⟨lb rfl, lb rfl⟩ (lb rfl) ⟨lb rfl, lb rfl⟩ L55 rfl (x_isFound f p d u q x hW (nI (anc q (a - 1) m))) ?_
    rintro _ g0 ⟨rfl, hg0⟩
    rw [hg0]
    refine A_if_eq (tgt := 74) dX6_moverOf_61 rfl (fun h61 => absurd h61 (bz_n0.mpr ((inR_nI (by omega)).mpr ha0.1))) (fun h61 => ?_)
    refine A_aload_n dX6_moverOf_64 rfl 3 rfl ?_
    refine A_getR (b := 82) dX6_moverOf_65 fo_RX6_33 L55 rfl ?_
    refine A_iload dX6_moverOf_68 0 rfl ?_
    refine A_iaload (anc q (a - 1) m) dX6_moverOf_70 L82 (rfl) (by omega) (lb rfl) ?_
    refine A_topi (nI (q.2.2.2.1 (anc q (a - 1) m))) (x.2.2.2.1 _ hp ha0.1).2 ?_
    refine A_goto (tgt := 75) dX6_moverOf_71 rfl ?_
    exact A_iret dX6_moverOf_75 rfl (rti (by rw [show m = q.2.2.2.2.1 (a - 1) - 1 - i by omega]) rfl)
  · rw [nI_leI (by omega) (by omega)] at h28
    refine A_aload_n dX6_moverOf_31 rfl 3 rfl ?_
    refine A_iload dX6_moverOf_32 0 rfl ?_
    refine A_callV (M' := MX6_isFound) [.int (nI (anc q (a - 1) m))] [] 55 dX6_moverOf_34 lk_RX6_147 oX6_isFound iX6_isFound rfl rfl ⟨lb rfl, lb rfl⟩ (lb rfl) ⟨lb rfl, lb rfl⟩ L55 rfl (x_isFound f p d u q x hW (nI (anc q (a - 1) m))) ?_
    rintro _ g0 ⟨rfl, hg0⟩
    rw [hg0]
    refine A_if_eq (tgt := 55) dX6_moverOf_37 rfl (fun h37 => absurd h37 (bz_n0.mpr ((inR_nI (by omega)).mpr ha0.1))) (fun h37 => ?_)
    refine A_aload_n dX6_moverOf_40 rfl 3 rfl ?_
    refine A_getR (b := 81) dX6_moverOf_41 fo_RX6_29 L55 rfl ?_
    refine A_iload dX6_moverOf_44 0 rfl ?_
    refine A_iaload (anc q (a - 1) m) dX6_moverOf_46 L81 (rfl) (by omega) (lb rfl) ?_
    refine A_topi (nI (anc q (a - 1) (m + 1))) (x.2.2.2.1 _ hp ha0.1).1 ?_
    refine A_istore (lv' := [(4, .int (nI (anc q (a - 1) (m + 1)))), (5, .int (nI (q.2.2.2.2.1 (a - 1) - 1 - m))), (2, .int (nI i)), (0, .ref 55)]) dX6_moverOf_47 (lb rfl) rfl ?_
    refine A_iinc (lv' := [(5, .int ((nI (q.2.2.2.2.1 (a - 1) - 1 - m)) + -1)), (4, .int (nI (anc q (a - 1) (m + 1)))), (2, .int (nI i)), (0, .ref 55)]) dX6_moverOf_49 1 rfl rfl (lb rfl) rfl ?_
    refine A_goto (tgt := 25) dX6_moverOf_52 rfl ?_
    have r := ih (m + 1) (by omega) (by omega)
    refine A_eq (lv' := [(5, .int (nI (q.2.2.2.2.1 (a - 1) - 1 - (m + 1)))), (4, .int (nI (anc q (a - 1) (m + 1)))), (2, .int (nI i)), (0, .ref 55)]) (by rw [show nI (q.2.2.2.2.1 (a - 1) - 1 - m) + -1 = nI (q.2.2.2.2.1 (a - 1) - 1 - (m + 1)) from by rw [show q.2.2.2.2.1 (a - 1) - 1 - m = q.2.2.2.2.1 (a - 1) - 1 - (m + 1) + 1 by omega]; exact nI_dn _]) rfl rfl ?_
    refine A_sub [1, 0, 2, 3] rfl ?_
    exact r
theorem x_mv1 (f : Mem) (p : Ro) (d : Cd) (u : Pt) (q : Sr) (x : XE f p d u q) (hW : Jw q) (a i : Nat) (ha : ¬ a = 0) (hl : a ≤ q.1) (hi : i < q.2.2.2.2.1 (a - 1)) : C0 MX6_moverOf [.ref 55, .int (nI (a - 1)), .int (nI i)] f (rt (some (.int (nI (q.2.2.2.1 (anc q (a - 1) (q.2.2.2.2.1 (a - 1) - 1 - i)))))) f) := by
  have h600 := hW.2.1
  have hle := hW.le (a - 1) (by omega)
  refine Ct.of (lv := [(0, .ref 55), (1, .int (nI (a - 1))), (2, .int (nI i))]) (by decide) (lb rfl) rfl ?_
  refine A_aload_n dX6_moverOf_0 rfl 0 rfl ?_
  refine A_iload_n dX6_moverOf_1 rfl 1 rfl ?_
  refine A_callV (M' := MX6_depthOf) [.int (nI (a - 1))] [] 55 dX6_moverOf_2 lk_RX6_144 oX6_depthOf iX6_depthOf rfl rfl ⟨lb rfl, lb rfl⟩ (lb rfl) ⟨lb rfl, lb rfl⟩ L55 rfl (x_dp1 f p d u q x hW a ha hl) ?_
  rintro _ g0 ⟨rfl, hg0⟩
  rw [hg0]
  refine A_topi (nI (q.2.2.2.2.1 (a - 1))) (by rw [dpf, if_neg ha]) ?_
  refine A_istore_n (lv' := [(3, .int (nI (q.2.2.2.2.1 (a - 1)))), (0, .ref 55), (1, .int (nI (a - 1))), (2, .int (nI i))]) dX6_moverOf_5 rfl (lb rfl) rfl ?_
  refine A_iload_n dX6_moverOf_6 rfl 3 rfl ?_
  refine A_if_lt (tgt := 15) dX6_moverOf_7 rfl (fun h7 => by exact absurd h7 (nI_nneg (by omega))) (fun h7 => ?_)
  refine A_iload_n dX6_moverOf_10 rfl 3 rfl ?_
  refine A_iload_n dX6_moverOf_11 rfl 0 rfl ?_
  refine A_icmp_lt (tgt := 17) dX6_moverOf_12 rfl (fun h12 => ?_) (fun h12 => by exact absurd ((nI_ltI (by omega) (by omega)).mpr hi) h12)
  refine A_iload_n dX6_moverOf_17 rfl 2 rfl ?_
  refine A_istore (lv' := [(4, .int (nI (a - 1))), (3, .int (nI (q.2.2.2.2.1 (a - 1)))), (0, .ref 55), (1, .int (nI (a - 1))), (2, .int (nI i))]) dX6_moverOf_18 (lb rfl) rfl ?_
  refine A_iload_n dX6_moverOf_20 rfl 1 rfl ?_
  refine A_iconst (v := 1) dX6_moverOf_21 rfl ?_
  refine A_isub dX6_moverOf_22 ?_
  refine A_topi (nI (q.2.2.2.2.1 (a - 1) - 1 - 0)) (by rw [Nat.sub_zero]; exact nI_p1 (by omega)) ?_
  refine A_istore (lv' := [(5, .int (nI (q.2.2.2.2.1 (a - 1) - 1 - 0))), (4, .int (nI (a - 1))), (3, .int (nI (q.2.2.2.2.1 (a - 1)))), (0, .ref 55), (1, .int (nI (a - 1))), (2, .int (nI i))]) dX6_moverOf_23 (lb rfl) rfl ?_
  refine A_sub [1, 0, 5, 3] rfl ?_
  exact lx_mv f p d u q x hW a i ha hl hi 0 (by omega)
theorem x_moverOf (f : Mem) (p : Ro) (d : Cd) (u : Pt) (q : Sr) (x : XE f p d u q) (hW : Jw q) (a : Nat) (hl : a ≤ q.1) (y : Int32) : C0 MX6_moverOf [.ref 55, .int (nI a - 1), .int y] f (rt (some (.int (mvV q a y))) f) := by
  by_cases hy : a = 0 ∨ ¬ inR y (q.2.2.2.2.1 (a - 1))
  · exact x_mv0 f p d u q x hW a hl y hy
  · have ha : ¬ a = 0 := fun z => hy (.inl z)
    have hr : inR y (q.2.2.2.2.1 (a - 1)) := Classical.byContradiction (fun z => hy (.inr z))
    obtain ⟨i, hi, rfl⟩ := inR_of (by have := hW.le (a - 1) (by omega); have := hW.2.1; omega) hr
    have e := x_mv1 f p d u q x hW a i ha hl hi
    rw [nI_p1 ha]
    rw [show mvV q a (nI i) = nI (q.2.2.2.1 (anc q (a - 1) (q.2.2.2.2.1 (a - 1) - 1 - i))) by rw [mvV, if_neg hy, nI_clamp (by have := hW.le (a - 1) (by omega); have := hW.2.1; omega)]]
    exact e
