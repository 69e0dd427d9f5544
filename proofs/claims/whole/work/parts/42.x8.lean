/-! the desk anew; a desk's copy -/
abbrev z0 : Ro := fun _ => 0
def zS (s : Sg) : Sg := fun c i => if c < 13 then 0 else if c = 15 then 0 else s c i
theorem cp_r4 (a b : Nat → Nat) : cpR 4 (r4 a) (r4 b) = r4 a := by
  funext i; unfold cpR r4; split <;> rfl
theorem cp_r3 (a b : Nat → Nat) : cpR 3 (r3 a) (r3 b) = r3 a := by
  funext i; unfold cpR r3; split <;> rfl
theorem cp_rO (a b : Nat → Nat) : cpR 3 (rO a) (rO b) = rO a := by
  funext i; unfold cpR rO; split <;> rfl
theorem cp_rE (a b : Sg) : cpR 3 (rE a) (rE b) = rE a := by
  funext i; unfold cpR rE; split <;> rfl
theorem cp_rW (a b : Sg) : cpR 3 (rW a) (rW b) = rW a := by
  funext i; unfold cpR rW; split <;> rfl
theorem cp_rK (a b : Ro) : cpR 4 (rK a) (rK b) = rK a := by
  funext i; unfold cpR rK; split <;> rfl
theorem cz_r4 (a : Nat → Nat) : cpR 4 z0 (r4 a) = r4 (fun _ => 0) := by
  funext i; unfold cpR r4; split <;> rfl
theorem cz_r3 (a : Nat → Nat) : cpR 3 z0 (r3 a) = r3 (fun _ => 0) := by
  funext i; unfold cpR r3; split <;> rfl
theorem cz_rO (a : Nat → Nat) : cpR 3 (fun _ => -1) (rO a) = rO (fun _ => 0) := by
  funext i; unfold cpR rO; split <;> rfl
theorem cz_rE (a b : Sg) : cpR 3 z0 (rE a) = rE (zS b) := by
  funext i; unfold cpR rE zS
  by_cases h : i < 3
  · rw [if_pos h, if_pos h]; simp [pk, show 7 + i < 13 by omega]; rfl
  · rw [if_neg h, if_neg h, if_neg h]
theorem cz_rW (a b : Sg) : cpR 3 z0 (rW a) = rW (zS b) := by
  funext i; unfold cpR rW zS
  by_cases h : i < 3
  · rw [if_pos h, if_pos h]; simp [pk, show 7 + (3 + i) < 13 by omega]; rfl
  · rw [if_neg h, if_neg h, if_neg h]
theorem cz_rK (a : Ro) : cpR 4 z0 (rK a) = rK z0 := by
  funext i; unfold cpR rK; split <;> rfl
theorem zS_row (s : Sg) {c : Nat} (h : c < 13) : zS s c = fun _ => 0 := by funext i; simp [zS, h]
theorem x_startAgain (f : Mem) (d : Nat) (s : Sg) (k : Ro) (hd : isDesk d) : C0 MX1_startAgain [.ref d] (dM f d s k) (rt none (dM (frA (u2 f d 1 (-1)) d) d (zS s) z0)) := by
  show C0 MX1_startAgain [.ref d] (dR f d (r4 (s 0)) (r4 (s 1)) (r4 (s 2)) (rO (s 3)) (r3 (s 4)) (rE s) (rW s) (rK k)) _
  refine Ct.of (lv := [(0, .ref d)]) (by decide) (lb rfl) rfl ?_
  refine A_aload_n dX1_startAgain_0 rfl 0 rfl ?_
  refine A_iconst (v := -1) dX1_startAgain_1 rfl ?_
  refine A_putI dX1_startAgain_2 fo_RX1_15 (LD0 hd) rfl ?_
  refine A_eq rfl rfl (f' := dR (u2 f d 1 (-1)) d (r4 (s 0)) (r4 (s 1)) (r4 (s 2)) (rO (s 3)) (r3 (s 4)) (rE s) (rW s) (rK k)) (by rw [u2, dR_o _ _ _ _ _ _ _ _ _ (by omega), dR_uo _ _ _ _ _ _ _ _ _ _ (by omega)]; rfl) ?_
  refine A_aload_n dX1_startAgain_5 rfl 0 rfl ?_
  refine A_getR (b := d + 2) dX1_startAgain_6 fo_RX1_24 (LD0 hd) rfl ?_
  refine A_iconst (v := 0) dX1_startAgain_9 rfl ?_
  refine A_callS (M' := MJ7_fill_53178) [.ref (d + 2), .int 0] [] dX1_startAgain_10 lk_RX1_60 oJ7_fill_53178 sJ7_fill_53178 rfl rfl ⟨lb rfl, lb rfl⟩ (lb rfl) ⟨lb rfl, lb rfl⟩ (c_fill (d + 2) 4 0 _ (LD2 hd) (lb rfl)) ?_
  rintro _ _ ⟨rfl, rfl⟩
  refine A_eq rfl rfl (f' := dR (u2 f d 1 (-1)) d (cpR 4 (fun _ => 0) (r4 (s 0))) (r4 (s 1)) (r4 (s 2)) (rO (s 3)) (r3 (s 4)) (rE s) (rW s) (rK k)) (by rw [dR_2, dR_u2]) ?_
  refine A_aload_n dX1_startAgain_13 rfl 0 rfl ?_
  refine A_getR (b := d + 3) dX1_startAgain_14 fo_RX1_28 (LD0 hd) rfl ?_
  refine A_iconst (v := 0) dX1_startAgain_17 rfl ?_
  refine A_callS (M' := MJ7_fill_53178) [.ref (d + 3), .int 0] [] dX1_startAgain_18 lk_RX1_60 oJ7_fill_53178 sJ7_fill_53178 rfl rfl ⟨lb rfl, lb rfl⟩ (lb rfl) ⟨lb rfl, lb rfl⟩ (c_fill (d + 3) 4 0 _ (LD3 hd) (lb rfl)) ?_
  rintro _ _ ⟨rfl, rfl⟩
  refine A_eq rfl rfl (f' := dR (u2 f d 1 (-1)) d (cpR 4 (fun _ => 0) (r4 (s 0))) (cpR 4 (fun _ => 0) (r4 (s 1))) (r4 (s 2)) (rO (s 3)) (r3 (s 4)) (rE s) (rW s) (rK k)) (by rw [dR_3, dR_u3]) ?_
  refine A_aload_n dX1_startAgain_21 rfl 0 rfl ?_
  refine A_getR (b := d + 4) dX1_startAgain_22 fo_RX1_31 (LD0 hd) rfl ?_
  refine A_iconst (v := 0) dX1_startAgain_25 rfl ?_
  refine A_callS (M' := MJ7_fill_53178) [.ref (d + 4), .int 0] [] dX1_startAgain_26 lk_RX1_60 oJ7_fill_53178 sJ7_fill_53178 rfl rfl ⟨lb rfl, lb rfl⟩ (lb rfl) ⟨lb rfl, lb rfl⟩ (c_fill (d + 4) 4 0 _ (LD4 hd) (lb rfl)) ?_
  rintro _ _ ⟨rfl, rfl⟩
  refine A_eq rfl rfl (f' := dR (u2 f d 1 (-1)) d (cpR 4 (fun _ => 0) (r4 (s 0))) (cpR 4 (fun _ => 0) (r4 (s 1))) (cpR 4 (fun _ => 0) (r4 (s 2))) (rO (s 3)) (r3 (s 4)) (rE s) (rW s) (rK k)) (by rw [dR_4, dR_u4]) ?_
  refine A_aload_n dX1_startAgain_29 rfl 0 rfl ?_
  refine A_callV (M' := MX1_forgetReasons) [] [] d dX1_startAgain_30 lk_RX1_69 oX1_forgetReasons iX1_forgetReasons rfl rfl ⟨lb rfl, lb rfl⟩ (lb rfl) ⟨lb rfl, lb rfl⟩ (LD0 hd) rfl (x_forgetReasons _ d hd) ?_
  rintro _ _ ⟨rfl, rfl⟩
  refine A_eq rfl rfl (f' := dR (frA (u2 f d 1 (-1)) d) d (cpR 4 (fun _ => 0) (r4 (s 0))) (cpR 4 (fun _ => 0) (r4 (s 1))) (cpR 4 (fun _ => 0) (r4 (s 2))) (rO (s 3)) (r3 (s 4)) (rE s) (rW s) (rK k)) (by rw [frA, dR_o _ _ _ _ _ _ _ _ _ (show d + 5 < d + 2 ∨ (d + 4 < d + 5 ∧ d + 5 < d + 8) ∨ d + 12 < d + 5 by omega), dR_o _ _ _ _ _ _ _ _ _ (show d + 6 < d + 2 ∨ (d + 4 < d + 6 ∧ d + 6 < d + 8) ∨ d + 12 < d + 6 by omega), dR_uo _ _ _ _ _ _ _ _ _ _ (by omega), dR_uo _ _ _ _ _ _ _ _ _ _ (by omega)]; rfl) ?_
  refine A_aload_n dX1_startAgain_33 rfl 0 rfl ?_
  refine A_getR (b := d + 8) dX1_startAgain_34 fo_RX1_44 (LD0 hd) rfl ?_
  refine A_iconst (v := -1) dX1_startAgain_37 rfl ?_
  refine A_callS (M' := MJ7_fill_53178) [.ref (d + 8), .int (-1)] [] dX1_startAgain_38 lk_RX1_60 oJ7_fill_53178 sJ7_fill_53178 rfl rfl ⟨lb rfl, lb rfl⟩ (lb rfl) ⟨lb rfl, lb rfl⟩ (c_fill (d + 8) 3 (-1) _ (LD8 hd) (lb rfl)) ?_
  rintro _ _ ⟨rfl, rfl⟩
  refine A_eq rfl rfl (f' := dR (frA (u2 f d 1 (-1)) d) d (cpR 4 (fun _ => 0) (r4 (s 0))) (cpR 4 (fun _ => 0) (r4 (s 1))) (cpR 4 (fun _ => 0) (r4 (s 2))) (cpR 3 (fun _ => -1) (rO (s 3))) (r3 (s 4)) (rE s) (rW s) (rK k)) (by rw [dR_8, dR_u8]) ?_
  refine A_aload_n dX1_startAgain_41 rfl 0 rfl ?_
  refine A_getR (b := d + 9) dX1_startAgain_42 fo_RX1_47 (LD0 hd) rfl ?_
  refine A_iconst (v := 0) dX1_startAgain_45 rfl ?_
  refine A_callS (M' := MJ7_fill_53178) [.ref (d + 9), .int 0] [] dX1_startAgain_46 lk_RX1_60 oJ7_fill_53178 sJ7_fill_53178 rfl rfl ⟨lb rfl, lb rfl⟩ (lb rfl) ⟨lb rfl, lb rfl⟩ (c_fill (d + 9) 3 0 _ (LD9 hd) (lb rfl)) ?_
  rintro _ _ ⟨rfl, rfl⟩
  refine A_eq rfl rfl (f' := dR (frA (u2 f d 1 (-1)) d) d (cpR 4 (fun _ => 0) (r4 (s 0))) (cpR 4 (fun _ => 0) (r4 (s 1))) (cpR 4 (fun _ => 0) (r4 (s 2))) (cpR 3 (fun _ => -1) (rO (s 3))) (cpR 3 (fun _ => 0) (r3 (s 4))) (rE s) (rW s) (rK k)) (by rw [dR_9, dR_u9]) ?_
  refine A_aload_n dX1_startAgain_49 rfl 0 rfl ?_
  refine A_getR (b := d + 10) dX1_startAgain_50 fo_RX1_50 (LD0 hd) rfl ?_
  refine A_iconst (v := 0) dX1_startAgain_53 rfl ?_
  refine A_callS (M' := MJ7_fill_53178) [.ref (d + 10), .int 0] [] dX1_startAgain_54 lk_RX1_60 oJ7_fill_53178 sJ7_fill_53178 rfl rfl ⟨lb rfl, lb rfl⟩ (lb rfl) ⟨lb rfl, lb rfl⟩ (c_fill (d + 10) 3 0 _ (LD10 hd) (lb rfl)) ?_
  rintro _ _ ⟨rfl, rfl⟩
  refine A_eq rfl rfl (f' := dR (frA (u2 f d 1 (-1)) d) d (cpR 4 (fun _ => 0) (r4 (s 0))) (cpR 4 (fun _ => 0) (r4 (s 1))) (cpR 4 (fun _ => 0) (r4 (s 2))) (cpR 3 (fun _ => -1) (rO (s 3))) (cpR 3 (fun _ => 0) (r3 (s 4))) (cpR 3 (fun _ => 0) (rE s)) (rW s) (rK k)) (by rw [dR_10, dR_u10]) ?_
  refine A_aload_n dX1_startAgain_57 rfl 0 rfl ?_
  refine A_getR (b := d + 11) dX1_startAgain_58 fo_RX1_53 (LD0 hd) rfl ?_
  refine A_iconst (v := 0) dX1_startAgain_61 rfl ?_
  refine A_callS (M' := MJ7_fill_53178) [.ref (d + 11), .int 0] [] dX1_startAgain_62 lk_RX1_60 oJ7_fill_53178 sJ7_fill_53178 rfl rfl ⟨lb rfl, lb rfl⟩ (lb rfl) ⟨lb rfl, lb rfl⟩ (c_fill (d + 11) 3 0 _ (LD11 hd) (lb rfl)) ?_
  rintro _ _ ⟨rfl, rfl⟩
  refine A_eq rfl rfl (f' := dR (frA (u2 f d 1 (-1)) d) d (cpR 4 (fun _ => 0) (r4 (s 0))) (cpR 4 (fun _ => 0) (r4 (s 1))) (cpR 4 (fun _ => 0) (r4 (s 2))) (cpR 3 (fun _ => -1) (rO (s 3))) (cpR 3 (fun _ => 0) (r3 (s 4))) (cpR 3 (fun _ => 0) (rE s)) (cpR 3 (fun _ => 0) (rW s)) (rK k)) (by rw [dR_11, dR_u11]) ?_
  refine A_aload_n dX1_startAgain_65 rfl 0 rfl ?_
  refine A_getR (b := d + 12) dX1_startAgain_66 fo_RX1_56 (LD0 hd) rfl ?_
  refine A_iconst (v := 0) dX1_startAgain_69 rfl ?_
  refine A_callS (M' := MJ7_fill_53178) [.ref (d + 12), .int 0] [] dX1_startAgain_70 lk_RX1_60 oJ7_fill_53178 sJ7_fill_53178 rfl rfl ⟨lb rfl, lb rfl⟩ (lb rfl) ⟨lb rfl, lb rfl⟩ (c_fill (d + 12) 4 0 _ (LD12 hd) (lb rfl)) ?_
  rintro _ _ ⟨rfl, rfl⟩
  refine A_eq rfl rfl (f' := dR (frA (u2 f d 1 (-1)) d) d (cpR 4 (fun _ => 0) (r4 (s 0))) (cpR 4 (fun _ => 0) (r4 (s 1))) (cpR 4 (fun _ => 0) (r4 (s 2))) (cpR 3 (fun _ => -1) (rO (s 3))) (cpR 3 (fun _ => 0) (r3 (s 4))) (cpR 3 (fun _ => 0) (rE s)) (cpR 3 (fun _ => 0) (rW s)) (cpR 4 (fun _ => 0) (rK k))) (by rw [dR_12, dR_u12]) ?_
  exact A_vret dX1_startAgain_73 rfl (⟨rfl, by rw [dM, zS_row s (show 0 < 13 by decide), zS_row s (show 1 < 13 by decide), zS_row s (show 2 < 13 by decide), zS_row s (show 3 < 13 by decide), zS_row s (show 4 < 13 by decide), cz_r4, cz_r4, cz_r4, cz_rO, cz_r3, cz_rE s s, cz_rW s s, cz_rK]⟩)
def cpB22_1 (f : Mem) : Mem := u2 (u2 (u2 (ur (ur (ur (u2 (ur (u2 (ur (u2 (ur (u2 (u2 (u2 f 22 0 (f 1 0)) 22 1 (f 1 1)) 35 0 (f 14 0)) 36 (cpR 48 (f 15) (f 36))) 37 0 (f 16 0)) 38 (cpR 48 (f 17) (f 38))) 39 0 (f 18 0)) 40 (cpR 48 (f 19) (f 40))) 41 0 (f 20 0)) 42 (cpR 48 (f 21) (f 42))) 27 (cpR 4 (f 6) (f 27))) 28 (cpR 4 (f 7) (f 28))) 29 0 (f 8 0)) 29 1 (f 8 1)) 29 2 (f 8 2)
theorem x_copy22_1 (f : Mem) (s t : Sg) (k l : Ro) (hs : dM f 1 s k = f) (h01 : ∀ m, m < 3 → f 8 m = 0 ∨ f 8 m = 1) : C0 MX1_copyFrom [.ref 22, .ref 1] (dM f 22 t l) (rt none (dM (cpB22_1 f) 22 s k)) := by
  have g2 : f 3 = r4 (s 0) := by rw [← hs, show (3 : Nat) = 1 + 2 from rfl, dM, dR_2]
  have g3 : f 4 = r4 (s 1) := by rw [← hs, show (4 : Nat) = 1 + 3 from rfl, dM, dR_3]
  have g4 : f 5 = r4 (s 2) := by rw [← hs, show (5 : Nat) = 1 + 4 from rfl, dM, dR_4]
  have g8 : f 9 = rO (s 3) := by rw [← hs, show (9 : Nat) = 1 + 8 from rfl, dM, dR_8]
  have g9 : f 10 = r3 (s 4) := by rw [← hs, show (10 : Nat) = 1 + 9 from rfl, dM, dR_9]
  have ga : f 11 = rE s := by rw [← hs, show (11 : Nat) = 1 + 10 from rfl, dM, dR_10]
  have gb : f 12 = rW s := by rw [← hs, show (12 : Nat) = 1 + 11 from rfl, dM, dR_11]
  have gc : f 13 = rK k := by rw [← hs, show (13 : Nat) = 1 + 12 from rfl, dM, dR_12]
  show C0 MX1_copyFrom [.ref 22, .ref 1] (dR f 22 (r4 (t 0)) (r4 (t 1)) (r4 (t 2)) (rO (t 3)) (r3 (t 4)) (rE t) (rW t) (rK l)) _
  refine Ct.of (lv := [(0, .ref 22), (1, .ref 1)]) (by decide) (lb rfl) rfl ?_
  refine A_aload_n dX1_copyFrom_0 rfl 0 rfl ?_
  refine A_aload_n dX1_copyFrom_1 rfl 1 rfl ?_
  refine A_getI dX1_copyFrom_2 fo_RX1_9 L1 rfl ?_
  refine A_topi (f 1 0) (by rw [dR_o _ _ _ _ _ _ _ _ _ (by omega)] <;> simp [ur, u2, upd]) ?_
  refine A_putI dX1_copyFrom_5 fo_RX1_9 L22 rfl ?_
  refine A_eq rfl rfl (f' := dR (u2 f 22 0 (f 1 0)) 22 (r4 (t 0)) (r4 (t 1)) (r4 (t 2)) (rO (t 3)) (r3 (t 4)) (rE t) (rW t) (rK l)) (by rw [u2, dR_o _ _ _ _ _ _ _ _ _ (by omega), dR_uo _ _ _ _ _ _ _ _ _ _ (by omega)]; rfl) ?_
  refine A_aload_n dX1_copyFrom_8 rfl 0 rfl ?_
  refine A_aload_n dX1_copyFrom_9 rfl 1 rfl ?_
  refine A_getI dX1_copyFrom_10 fo_RX1_15 L1 rfl ?_
  refine A_topi (f 1 1) (by rw [dR_o _ _ _ _ _ _ _ _ _ (by omega)] <;> simp [ur, u2, upd]) ?_
  refine A_putI dX1_copyFrom_13 fo_RX1_15 L22 rfl ?_
  refine A_eq rfl rfl (f' := dR (u2 (u2 f 22 0 (f 1 0)) 22 1 (f 1 1)) 22 (r4 (t 0)) (r4 (t 1)) (r4 (t 2)) (rO (t 3)) (r3 (t 4)) (rE t) (rW t) (rK l)) (by rw [u2, dR_o _ _ _ _ _ _ _ _ _ (by omega), dR_uo _ _ _ _ _ _ _ _ _ _ (by omega)]; rfl) ?_
  refine A_iconst (v := 0) dX1_copyFrom_16 rfl ?_
  refine A_istore_n (lv' := [(2, .int 0), (0, .ref 22), (1, .ref 1)]) dX1_copyFrom_17 rfl (lb rfl) rfl ?_
  refine A_iload_n dX1_copyFrom_18 rfl 0 rfl ?_
  refine A_iconst (v := 4) dX1_copyFrom_19 rfl ?_
  refine A_icmp_ge (tgt := 44) dX1_copyFrom_20 rfl (fun h20 => absurd h20 (by decide)) (fun h20 => ?_)
  refine A_aload_n dX1_copyFrom_23 rfl 1 rfl ?_
  refine A_getR (b := 23) dX1_copyFrom_24 fo_RX1_20 L22 rfl ?_
  refine A_iload_n dX1_copyFrom_27 rfl 0 rfl ?_
  refine A_aaload2 (b := 35) 0 dX1_copyFrom_28 L23 (rfl) (by decide) (lb rfl) (rfl) ?_
  refine A_aload_n dX1_copyFrom_29 rfl 2 rfl ?_
  refine A_getR (b := 2) dX1_copyFrom_30 fo_RX1_20 L1 rfl ?_
  refine A_iload_n dX1_copyFrom_33 rfl 0 rfl ?_
  refine A_aaload2 (b := 14) 0 dX1_copyFrom_34 L2 (rfl) (by decide) (lb rfl) (rfl) ?_
  refine A_callV (M' := MX3_copyFrom) [.ref 14] [] 35 dX1_copyFrom_35 lk_RX1_72 oX3_copyFrom iX3_copyFrom rfl rfl ⟨lb rfl, lb rfl⟩ (lb rfl) ⟨lb rfl, lb rfl⟩ L35 rfl (x_pcopy _ 35 14 ⟨rfl, rfl⟩ ⟨rfl, rfl⟩ (by decide)) ?_
  rintro _ _ ⟨rfl, rfl⟩
  refine A_eq rfl rfl (f' := dR (ur (u2 (u2 (u2 f 22 0 (f 1 0)) 22 1 (f 1 1)) 35 0 (f 14 0)) 36 (cpR 48 (f 15) (f 36))) 22 (r4 (t 0)) (r4 (t 1)) (r4 (t 2)) (rO (t 3)) (r3 (t 4)) (rE t) (rW t) (rK l)) (by rw [u2, dR_o (u2 (u2 f 22 0 (f 1 0)) 22 1 (f 1 1)) (r4 (t 0)) (r4 (t 1)) (r4 (t 2)) (rO (t 3)) (r3 (t 4)) (rE t) (rW t) (rK l) (show 35 < 22 + 2 ∨ (22 + 4 < 35 ∧ 35 < 22 + 8) ∨ 22 + 12 < 35 by decide), dR_o (u2 (u2 f 22 0 (f 1 0)) 22 1 (f 1 1)) (d := 22) (a := 14) _ _ _ _ _ _ _ _ (by decide), dR_o (u2 (u2 f 22 0 (f 1 0)) 22 1 (f 1 1)) (d := 22) (a := 15) _ _ _ _ _ _ _ _ (by decide), dR_o (u2 (u2 f 22 0 (f 1 0)) 22 1 (f 1 1)) (d := 22) (a := 36) _ _ _ _ _ _ _ _ (by decide), dR_uo _ _ _ _ _ _ _ _ _ _ (by decide), dR_uo _ _ _ _ _ _ _ _ _ _ (by decide)]; simp [ur, u2, upd]) ?_
  refine A_iinc (lv' := [(2, .int 1), (0, .ref 22), (1, .ref 1)]) dX1_copyFrom_38 0 rfl rfl (lb rfl) rfl ?_
  refine A_goto (tgt := 18) dX1_copyFrom_41 rfl ?_
  refine A_iload_n dX1_copyFrom_18 rfl 0 rfl ?_
  refine A_iconst (v := 4) dX1_copyFrom_19 rfl ?_
  refine A_icmp_ge (tgt := 44) dX1_copyFrom_20 rfl (fun h20 => absurd h20 (by decide)) (fun h20 => ?_)
  refine A_aload_n dX1_copyFrom_23 rfl 1 rfl ?_
  refine A_getR (b := 23) dX1_copyFrom_24 fo_RX1_20 L22 rfl ?_
  refine A_iload_n dX1_copyFrom_27 rfl 0 rfl ?_
  refine A_aaload2 (b := 37) 1 dX1_copyFrom_28 L23 (rfl) (by decide) (lb rfl) (rfl) ?_
  refine A_aload_n dX1_copyFrom_29 rfl 2 rfl ?_
  refine A_getR (b := 2) dX1_copyFrom_30 fo_RX1_20 L1 rfl ?_
  refine A_iload_n dX1_copyFrom_33 rfl 0 rfl ?_
  refine A_aaload2 (b := 16) 1 dX1_copyFrom_34 L2 (rfl) (by decide) (lb rfl) (rfl) ?_
  refine A_callV (M' := MX3_copyFrom) [.ref 16] [] 37 dX1_copyFrom_35 lk_RX1_72 oX3_copyFrom iX3_copyFrom rfl rfl ⟨lb rfl, lb rfl⟩ (lb rfl) ⟨lb rfl, lb rfl⟩ L37 rfl (x_pcopy _ 37 16 ⟨rfl, rfl⟩ ⟨rfl, rfl⟩ (by decide)) ?_
  rintro _ _ ⟨rfl, rfl⟩
  refine A_eq rfl rfl (f' := dR (ur (u2 (ur (u2 (u2 (u2 f 22 0 (f 1 0)) 22 1 (f 1 1)) 35 0 (f 14 0)) 36 (cpR 48 (f 15) (f 36))) 37 0 (f 16 0)) 38 (cpR 48 (f 17) (f 38))) 22 (r4 (t 0)) (r4 (t 1)) (r4 (t 2)) (rO (t 3)) (r3 (t 4)) (rE t) (rW t) (rK l)) (by rw [u2, dR_o (ur (u2 (u2 (u2 f 22 0 (f 1 0)) 22 1 (f 1 1)) 35 0 (f 14 0)) 36 (cpR 48 (f 15) (f 36))) (r4 (t 0)) (r4 (t 1)) (r4 (t 2)) (rO (t 3)) (r3 (t 4)) (rE t) (rW t) (rK l) (show 37 < 22 + 2 ∨ (22 + 4 < 37 ∧ 37 < 22 + 8) ∨ 22 + 12 < 37 by decide), dR_o (ur (u2 (u2 (u2 f 22 0 (f 1 0)) 22 1 (f 1 1)) 35 0 (f 14 0)) 36 (cpR 48 (f 15) (f 36))) (d := 22) (a := 16) _ _ _ _ _ _ _ _ (by decide), dR_o (ur (u2 (u2 (u2 f 22 0 (f 1 0)) 22 1 (f 1 1)) 35 0 (f 14 0)) 36 (cpR 48 (f 15) (f 36))) (d := 22) (a := 17) _ _ _ _ _ _ _ _ (by decide), dR_o (ur (u2 (u2 (u2 f 22 0 (f 1 0)) 22 1 (f 1 1)) 35 0 (f 14 0)) 36 (cpR 48 (f 15) (f 36))) (d := 22) (a := 38) _ _ _ _ _ _ _ _ (by decide), dR_uo _ _ _ _ _ _ _ _ _ _ (by decide), dR_uo _ _ _ _ _ _ _ _ _ _ (by decide)]; simp [ur, u2, upd]) ?_
  refine A_iinc (lv' := [(2, .int 2), (0, .ref 22), (1, .ref 1)]) dX1_copyFrom_38 0 rfl rfl (lb rfl) rfl ?_
  refine A_goto (tgt := 18) dX1_copyFrom_41 rfl ?_
  refine A_iload_n dX1_copyFrom_18 rfl 0 rfl ?_
  refine A_iconst (v := 4) dX1_copyFrom_19 rfl ?_
  refine A_icmp_ge (tgt := 44) dX1_copyFrom_20 rfl (fun h20 => absurd h20 (by decide)) (fun h20 => ?_)
  refine A_aload_n dX1_copyFrom_23 rfl 1 rfl ?_
  refine A_getR (b := 23) dX1_copyFrom_24 fo_RX1_20 L22 rfl ?_
  refine A_iload_n dX1_copyFrom_27 rfl 0 rfl ?_
  refine A_aaload2 (b := 39) 2 dX1_copyFrom_28 L23 (rfl) (by decide) (lb rfl) (rfl) ?_
  refine A_aload_n dX1_copyFrom_29 rfl 2 rfl ?_
  refine A_getR (b := 2) dX1_copyFrom_30 fo_RX1_20 L1 rfl ?_
  refine A_iload_n dX1_copyFrom_33 rfl 0 rfl ?_
  refine A_aaload2 (b := 18) 2 dX1_copyFrom_34 L2 (rfl) (by decide) (lb rfl) (rfl) ?_
  refine A_callV (M' := MX3_copyFrom) [.ref 18] [] 39 dX1_copyFrom_35 lk_RX1_72 oX3_copyFrom iX3_copyFrom rfl rfl ⟨lb rfl, lb rfl⟩ (lb rfl) ⟨lb rfl, lb rfl⟩ L39 rfl (x_pcopy _ 39 18 ⟨rfl, rfl⟩ ⟨rfl, rfl⟩ (by decide)) ?_
  rintro _ _ ⟨rfl, rfl⟩
  refine A_eq rfl rfl (f' := dR (ur (u2 (ur (u2 (ur (u2 (u2 (u2 f 22 0 (f 1 0)) 22 1 (f 1 1)) 35 0 (f 14 0)) 36 (cpR 48 (f 15) (f 36))) 37 0 (f 16 0)) 38 (cpR 48 (f 17) (f 38))) 39 0 (f 18 0)) 40 (cpR 48 (f 19) (f 40))) 22 (r4 (t 0)) (r4 (t 1)) (r4 (t 2)) (rO (t 3)) (r3 (t 4)) (rE t) (rW t) (rK l)) (by rw [u2, dR_o (ur (u2 (ur (u2 (u2 (u2 f 22 0 (f 1 0)) 22 1 (f 1 1)) 35 0 (f 14 0)) 36 (cpR 48 (f 15) (f 36))) 37 0 (f 16 0)) 38 (cpR 48 (f 17) (f 38))) (r4 (t 0)) (r4 (t 1)) (r4 (t 2)) (rO (t 3)) (r3 (t 4)) (rE t) (rW t) (rK l) (show 39 < 22 + 2 ∨ (22 + 4 < 39 ∧ 39 < 22 + 8) ∨ 22 + 12 < 39 by decide), dR_o (ur (u2 (ur (u2 (u2 (u2 f 22 0 (f 1 0)) 22 1 (f 1 1)) 35 0 (f 14 0)) 36 (cpR 48 (f 15) (f 36))) 37 0 (f 16 0)) 38 (cpR 48 (f 17) (f 38))) (d := 22) (a := 18) _ _ _ _ _ _ _ _ (by decide), dR_o (ur (u2 (ur (u2 (u2 (u2 f 22 0 (f 1 0)) 22 1 (f 1 1)) 35 0 (f 14 0)) 36 (cpR 48 (f 15) (f 36))) 37 0 (f 16 0)) 38 (cpR 48 (f 17) (f 38))) (d := 22) (a := 19) _ _ _ _ _ _ _ _ (by decide), dR_o (ur (u2 (ur (u2 (u2 (u2 f 22 0 (f 1 0)) 22 1 (f 1 1)) 35 0 (f 14 0)) 36 (cpR 48 (f 15) (f 36))) 37 0 (f 16 0)) 38 (cpR 48 (f 17) (f 38))) (d := 22) (a := 40) _ _ _ _ _ _ _ _ (by decide), dR_uo _ _ _ _ _ _ _ _ _ _ (by decide), dR_uo _ _ _ _ _ _ _ _ _ _ (by decide)]; simp [ur, u2, upd]) ?_
  refine A_iinc (lv' := [(2, .int 3), (0, .ref 22), (1, .ref 1)]) dX1_copyFrom_38 0 rfl rfl (lb rfl) rfl ?_
  refine A_goto (tgt := 18) dX1_copyFrom_41 rfl ?_
  refine A_iload_n dX1_copyFrom_18 rfl 0 rfl ?_
  refine A_iconst (v := 4) dX1_copyFrom_19 rfl ?_
  refine A_icmp_ge (tgt := 44) dX1_copyFrom_20 rfl (fun h20 => absurd h20 (by decide)) (fun h20 => ?_)
  refine A_aload_n dX1_copyFrom_23 rfl 1 rfl ?_
  refine A_getR (b := 23) dX1_copyFrom_24 fo_RX1_20 L22 rfl ?_
  refine A_iload_n dX1_copyFrom_27 rfl 0 rfl ?_
  refine A_aaload2 (b := 41) 3 dX1_copyFrom_28 L23 (rfl) (by decide) (lb rfl) (rfl) ?_
  refine A_aload_n dX1_copyFrom_29 rfl 2 rfl ?_
  refine A_getR (b := 2) dX1_copyFrom_30 fo_RX1_20 L1 rfl ?_
  refine A_iload_n dX1_copyFrom_33 rfl 0 rfl ?_
  refine A_aaload2 (b := 20) 3 dX1_copyFrom_34 L2 (rfl) (by decide) (lb rfl) (rfl) ?_
  refine A_callV (M' := MX3_copyFrom) [.ref 20] [] 41 dX1_copyFrom_35 lk_RX1_72 oX3_copyFrom iX3_copyFrom rfl rfl ⟨lb rfl, lb rfl⟩ (lb rfl) ⟨lb rfl, lb rfl⟩ L41 rfl (x_pcopy _ 41 20 ⟨rfl, rfl⟩ ⟨rfl, rfl⟩ (by decide)) ?_
  rintro _ _ ⟨rfl, rfl⟩
  refine A_eq rfl rfl (f' := dR (ur (u2 (ur (u2 (ur (u2 (ur (u2 (u2 (u2 f 22 0 (f 1 0)) 22 1 (f 1 1)) 35 0 (f 14 0)) 36 (cpR 48 (f 15) (f 36))) 37 0 (f 16 0)) 38 (cpR 48 (f 17) (f 38))) 39 0 (f 18 0)) 40 (cpR 48 (f 19) (f 40))) 41 0 (f 20 0)) 42 (cpR 48 (f 21) (f 42))) 22 (r4 (t 0)) (r4 (t 1)) (r4 (t 2)) (rO (t 3)) (r3 (t 4)) (rE t) (rW t) (rK l)) (by rw [u2, dR_o (ur (u2 (ur (u2 (ur (u2 (u2 (u2 f 22 0 (f 1 0)) 22 1 (f 1 1)) 35 0 (f 14 0)) 36 (cpR 48 (f 15) (f 36))) 37 0 (f 16 0)) 38 (cpR 48 (f 17) (f 38))) 39 0 (f 18 0)) 40 (cpR 48 (f 19) (f 40))) (r4 (t 0)) (r4 (t 1)) (r4 (t 2)) (rO (t 3)) (r3 (t 4)) (rE t) (rW t) (rK l) (show 41 < 22 + 2 ∨ (22 + 4 < 41 ∧ 41 < 22 + 8) ∨ 22 + 12 < 41 by decide), dR_o (ur (u2 (ur (u2 (ur (u2 (u2 (u2 f 22 0 (f 1 0)) 22 1 (f 1 1)) 35 0 (f 14 0)) 36 (cpR 48 (f 15) (f 36))) 37 0 (f 16 0)) 38 (cpR 48 (f 17) (f 38))) 39 0 (f 18 0)) 40 (cpR 48 (f 19) (f 40))) (d := 22) (a := 20) _ _ _ _ _ _ _ _ (by decide), dR_o (ur (u2 (ur (u2 (ur (u2 (u2 (u2 f 22 0 (f 1 0)) 22 1 (f 1 1)) 35 0 (f 14 0)) 36 (cpR 48 (f 15) (f 36))) 37 0 (f 16 0)) 38 (cpR 48 (f 17) (f 38))) 39 0 (f 18 0)) 40 (cpR 48 (f 19) (f 40))) (d := 22) (a := 21) _ _ _ _ _ _ _ _ (by decide), dR_o (ur (u2 (ur (u2 (ur (u2 (u2 (u2 f 22 0 (f 1 0)) 22 1 (f 1 1)) 35 0 (f 14 0)) 36 (cpR 48 (f 15) (f 36))) 37 0 (f 16 0)) 38 (cpR 48 (f 17) (f 38))) 39 0 (f 18 0)) 40 (cpR 48 (f 19) (f 40))) (d := 22) (a := 42) _ _ _ _ _ _ _ _ (by decide), dR_uo _ _ _ _ _ _ _ _ _ _ (by decide), dR_uo _ _ _ _ _ _ _ _ _ _ (by decide)]; simp [ur, u2, upd]) ?_
  refine A_iinc (lv' := [(2, .int 4), (0, .ref 22), (1, .ref 1)]) dX1_copyFrom_38 0 rfl rfl (lb rfl) rfl ?_
  refine A_goto (tgt := 18) dX1_copyFrom_41 rfl ?_
  refine A_iload_n dX1_copyFrom_18 rfl 0 rfl ?_
  refine A_iconst (v := 4) dX1_copyFrom_19 rfl ?_
  refine A_icmp_ge (tgt := 44) dX1_copyFrom_20 rfl (fun h20 => ?_) (fun h20 => absurd (by decide) h20)
  refine A_aload_n dX1_copyFrom_44 rfl 2 rfl ?_
  refine A_getR (b := 3) dX1_copyFrom_45 fo_RX1_24 L1 rfl ?_
  refine A_iconst (v := 0) dX1_copyFrom_48 rfl ?_
  refine A_aload_n dX1_copyFrom_49 rfl 1 rfl ?_
  refine A_getR (b := 24) dX1_copyFrom_50 fo_RX1_24 L22 rfl ?_
  refine A_iconst (v := 0) dX1_copyFrom_53 rfl ?_
  refine A_iconst (v := 4) dX1_copyFrom_54 rfl ?_
  refine A_copy 0 0 4 dX1_copyFrom_55 lk_RX1_76 L3 L24 rfl rfl rfl (lb rfl) (lb rfl) ⟨lb rfl, lb rfl⟩ ⟨lb rfl, lb rfl⟩ ?_
  refine A_eq rfl rfl (f' := dR (ur (u2 (ur (u2 (ur (u2 (ur (u2 (u2 (u2 f 22 0 (f 1 0)) 22 1 (f 1 1)) 35 0 (f 14 0)) 36 (cpR 48 (f 15) (f 36))) 37 0 (f 16 0)) 38 (cpR 48 (f 17) (f 38))) 39 0 (f 18 0)) 40 (cpR 48 (f 19) (f 40))) 41 0 (f 20 0)) 42 (cpR 48 (f 21) (f 42))) 22 (cpR 4 (f 3) (r4 (t 0))) (r4 (t 1)) (r4 (t 2)) (rO (t 3)) (r3 (t 4)) (rE t) (rW t) (rK l)) (by rw [gt_cpy, cpy_R, dR_o _ (d := 22) (a := 3) _ _ _ _ _ _ _ _ (by decide), show (24 : Nat) = 22 + 2 from rfl, dR_2, dR_u2]; simp [ur, u2, upd]) ?_
  refine A_aload_n dX1_copyFrom_58 rfl 2 rfl ?_
  refine A_getR (b := 4) dX1_copyFrom_59 fo_RX1_28 L1 rfl ?_
  refine A_iconst (v := 0) dX1_copyFrom_62 rfl ?_
  refine A_aload_n dX1_copyFrom_63 rfl 1 rfl ?_
  refine A_getR (b := 25) dX1_copyFrom_64 fo_RX1_28 L22 rfl ?_
  refine A_iconst (v := 0) dX1_copyFrom_67 rfl ?_
  refine A_iconst (v := 4) dX1_copyFrom_68 rfl ?_
  refine A_copy 0 0 4 dX1_copyFrom_69 lk_RX1_76 L4 L25 rfl rfl rfl (lb rfl) (lb rfl) ⟨lb rfl, lb rfl⟩ ⟨lb rfl, lb rfl⟩ ?_
  refine A_eq rfl rfl (f' := dR (ur (u2 (ur (u2 (ur (u2 (ur (u2 (u2 (u2 f 22 0 (f 1 0)) 22 1 (f 1 1)) 35 0 (f 14 0)) 36 (cpR 48 (f 15) (f 36))) 37 0 (f 16 0)) 38 (cpR 48 (f 17) (f 38))) 39 0 (f 18 0)) 40 (cpR 48 (f 19) (f 40))) 41 0 (f 20 0)) 42 (cpR 48 (f 21) (f 42))) 22 (cpR 4 (f 3) (r4 (t 0))) (cpR 4 (f 4) (r4 (t 1))) (r4 (t 2)) (rO (t 3)) (r3 (t 4)) (rE t) (rW t) (rK l)) (by rw [gt_cpy, cpy_R, dR_o _ (d := 22) (a := 4) _ _ _ _ _ _ _ _ (by decide), show (25 : Nat) = 22 + 3 from rfl, dR_3, dR_u3]; simp [ur, u2, upd]) ?_
  refine A_aload_n dX1_copyFrom_72 rfl 2 rfl ?_
  refine A_getR (b := 5) dX1_copyFrom_73 fo_RX1_31 L1 rfl ?_
  refine A_iconst (v := 0) dX1_copyFrom_76 rfl ?_
  refine A_aload_n dX1_copyFrom_77 rfl 1 rfl ?_
  refine A_getR (b := 26) dX1_copyFrom_78 fo_RX1_31 L22 rfl ?_
  refine A_iconst (v := 0) dX1_copyFrom_81 rfl ?_
  refine A_iconst (v := 4) dX1_copyFrom_82 rfl ?_
  refine A_copy 0 0 4 dX1_copyFrom_83 lk_RX1_76 L5 L26 rfl rfl rfl (lb rfl) (lb rfl) ⟨lb rfl, lb rfl⟩ ⟨lb rfl, lb rfl⟩ ?_
  refine A_eq rfl rfl (f' := dR (ur (u2 (ur (u2 (ur (u2 (ur (u2 (u2 (u2 f 22 0 (f 1 0)) 22 1 (f 1 1)) 35 0 (f 14 0)) 36 (cpR 48 (f 15) (f 36))) 37 0 (f 16 0)) 38 (cpR 48 (f 17) (f 38))) 39 0 (f 18 0)) 40 (cpR 48 (f 19) (f 40))) 41 0 (f 20 0)) 42 (cpR 48 (f 21) (f 42))) 22 (cpR 4 (f 3) (r4 (t 0))) (cpR 4 (f 4) (r4 (t 1))) (cpR 4 (f 5) (r4 (t 2))) (rO (t 3)) (r3 (t 4)) (rE t) (rW t) (rK l)) (by rw [gt_cpy, cpy_R, dR_o _ (d := 22) (a := 5) _ _ _ _ _ _ _ _ (by decide), show (26 : Nat) = 22 + 4 from rfl, dR_4, dR_u4]; simp [ur, u2, upd]) ?_
  refine A_aload_n dX1_copyFrom_86 rfl 2 rfl ?_
  refine A_getR (b := 6) dX1_copyFrom_87 fo_RX1_34 L1 rfl ?_
  refine A_iconst (v := 0) dX1_copyFrom_90 rfl ?_
  refine A_aload_n dX1_copyFrom_91 rfl 1 rfl ?_
  refine A_getR (b := 27) dX1_copyFrom_92 fo_RX1_34 L22 rfl ?_
  refine A_iconst (v := 0) dX1_copyFrom_95 rfl ?_
  refine A_iconst (v := 4) dX1_copyFrom_96 rfl ?_
  refine A_copy 0 0 4 dX1_copyFrom_97 lk_RX1_76 L6 L27 rfl rfl rfl (lb rfl) (lb rfl) ⟨lb rfl, lb rfl⟩ ⟨lb rfl, lb rfl⟩ ?_
  refine A_eq rfl rfl (f' := dR (ur (ur (u2 (ur (u2 (ur (u2 (ur (u2 (u2 (u2 f 22 0 (f 1 0)) 22 1 (f 1 1)) 35 0 (f 14 0)) 36 (cpR 48 (f 15) (f 36))) 37 0 (f 16 0)) 38 (cpR 48 (f 17) (f 38))) 39 0 (f 18 0)) 40 (cpR 48 (f 19) (f 40))) 41 0 (f 20 0)) 42 (cpR 48 (f 21) (f 42))) 27 (cpR 4 (f 6) (f 27))) 22 (cpR 4 (f 3) (r4 (t 0))) (cpR 4 (f 4) (r4 (t 1))) (cpR 4 (f 5) (r4 (t 2))) (rO (t 3)) (r3 (t 4)) (rE t) (rW t) (rK l)) (by rw [gt_cpy, cpy_R, dR_o _ (d := 22) (a := 6) _ _ _ _ _ _ _ _ (by decide), dR_o _ (d := 22) (a := 27) _ _ _ _ _ _ _ _ (by decide), dR_uo _ _ _ _ _ _ _ _ _ _ (by decide)]; simp [ur, u2, upd]) ?_
  refine A_aload_n dX1_copyFrom_100 rfl 2 rfl ?_
  refine A_getR (b := 7) dX1_copyFrom_101 fo_RX1_37 L1 rfl ?_
  refine A_iconst (v := 0) dX1_copyFrom_104 rfl ?_
  refine A_aload_n dX1_copyFrom_105 rfl 1 rfl ?_
  refine A_getR (b := 28) dX1_copyFrom_106 fo_RX1_37 L22 rfl ?_
  refine A_iconst (v := 0) dX1_copyFrom_109 rfl ?_
  refine A_iconst (v := 4) dX1_copyFrom_110 rfl ?_
  refine A_copy 0 0 4 dX1_copyFrom_111 lk_RX1_76 L7 L28 rfl rfl rfl (lb rfl) (lb rfl) ⟨lb rfl, lb rfl⟩ ⟨lb rfl, lb rfl⟩ ?_
  refine A_eq rfl rfl (f' := dR (ur (ur (ur (u2 (ur (u2 (ur (u2 (ur (u2 (u2 (u2 f 22 0 (f 1 0)) 22 1 (f 1 1)) 35 0 (f 14 0)) 36 (cpR 48 (f 15) (f 36))) 37 0 (f 16 0)) 38 (cpR 48 (f 17) (f 38))) 39 0 (f 18 0)) 40 (cpR 48 (f 19) (f 40))) 41 0 (f 20 0)) 42 (cpR 48 (f 21) (f 42))) 27 (cpR 4 (f 6) (f 27))) 28 (cpR 4 (f 7) (f 28))) 22 (cpR 4 (f 3) (r4 (t 0))) (cpR 4 (f 4) (r4 (t 1))) (cpR 4 (f 5) (r4 (t 2))) (rO (t 3)) (r3 (t 4)) (rE t) (rW t) (rK l)) (by rw [gt_cpy, cpy_R, dR_o _ (d := 22) (a := 7) _ _ _ _ _ _ _ _ (by decide), dR_o _ (d := 22) (a := 28) _ _ _ _ _ _ _ _ (by decide), dR_uo _ _ _ _ _ _ _ _ _ _ (by decide)]; simp [ur, u2, upd]) ?_
  refine A_aload_n dX1_copyFrom_114 rfl 2 rfl ?_
  refine A_getR (b := 9) dX1_copyFrom_115 fo_RX1_44 L1 rfl ?_
  refine A_iconst (v := 0) dX1_copyFrom_118 rfl ?_
  refine A_aload_n dX1_copyFrom_119 rfl 1 rfl ?_
  refine A_getR (b := 30) dX1_copyFrom_120 fo_RX1_44 L22 rfl ?_
  refine A_iconst (v := 0) dX1_copyFrom_123 rfl ?_
  refine A_iconst (v := 3) dX1_copyFrom_124 rfl ?_
  refine A_copy 0 0 3 dX1_copyFrom_125 lk_RX1_76 L9 L30 rfl rfl rfl (lb rfl) (lb rfl) ⟨lb rfl, lb rfl⟩ ⟨lb rfl, lb rfl⟩ ?_
  refine A_eq rfl rfl (f' := dR (ur (ur (ur (u2 (ur (u2 (ur (u2 (ur (u2 (u2 (u2 f 22 0 (f 1 0)) 22 1 (f 1 1)) 35 0 (f 14 0)) 36 (cpR 48 (f 15) (f 36))) 37 0 (f 16 0)) 38 (cpR 48 (f 17) (f 38))) 39 0 (f 18 0)) 40 (cpR 48 (f 19) (f 40))) 41 0 (f 20 0)) 42 (cpR 48 (f 21) (f 42))) 27 (cpR 4 (f 6) (f 27))) 28 (cpR 4 (f 7) (f 28))) 22 (cpR 4 (f 3) (r4 (t 0))) (cpR 4 (f 4) (r4 (t 1))) (cpR 4 (f 5) (r4 (t 2))) (cpR 3 (f 9) (rO (t 3))) (r3 (t 4)) (rE t) (rW t) (rK l)) (by rw [gt_cpy, cpy_R, dR_o _ (d := 22) (a := 9) _ _ _ _ _ _ _ _ (by decide), show (30 : Nat) = 22 + 8 from rfl, dR_8, dR_u8]; simp [ur, u2, upd]) ?_
  refine A_aload_n dX1_copyFrom_128 rfl 2 rfl ?_
  refine A_getR (b := 10) dX1_copyFrom_129 fo_RX1_47 L1 rfl ?_
  refine A_iconst (v := 0) dX1_copyFrom_132 rfl ?_
  refine A_aload_n dX1_copyFrom_133 rfl 1 rfl ?_
  refine A_getR (b := 31) dX1_copyFrom_134 fo_RX1_47 L22 rfl ?_
  refine A_iconst (v := 0) dX1_copyFrom_137 rfl ?_
  refine A_iconst (v := 3) dX1_copyFrom_138 rfl ?_
  refine A_copy 0 0 3 dX1_copyFrom_139 lk_RX1_76 L10 L31 rfl rfl rfl (lb rfl) (lb rfl) ⟨lb rfl, lb rfl⟩ ⟨lb rfl, lb rfl⟩ ?_
  refine A_eq rfl rfl (f' := dR (ur (ur (ur (u2 (ur (u2 (ur (u2 (ur (u2 (u2 (u2 f 22 0 (f 1 0)) 22 1 (f 1 1)) 35 0 (f 14 0)) 36 (cpR 48 (f 15) (f 36))) 37 0 (f 16 0)) 38 (cpR 48 (f 17) (f 38))) 39 0 (f 18 0)) 40 (cpR 48 (f 19) (f 40))) 41 0 (f 20 0)) 42 (cpR 48 (f 21) (f 42))) 27 (cpR 4 (f 6) (f 27))) 28 (cpR 4 (f 7) (f 28))) 22 (cpR 4 (f 3) (r4 (t 0))) (cpR 4 (f 4) (r4 (t 1))) (cpR 4 (f 5) (r4 (t 2))) (cpR 3 (f 9) (rO (t 3))) (cpR 3 (f 10) (r3 (t 4))) (rE t) (rW t) (rK l)) (by rw [gt_cpy, cpy_R, dR_o _ (d := 22) (a := 10) _ _ _ _ _ _ _ _ (by decide), show (31 : Nat) = 22 + 9 from rfl, dR_9, dR_u9]; simp [ur, u2, upd]) ?_
  refine A_aload_n dX1_copyFrom_142 rfl 2 rfl ?_
  refine A_getR (b := 11) dX1_copyFrom_143 fo_RX1_50 L1 rfl ?_
  refine A_iconst (v := 0) dX1_copyFrom_146 rfl ?_
  refine A_aload_n dX1_copyFrom_147 rfl 1 rfl ?_
  refine A_getR (b := 32) dX1_copyFrom_148 fo_RX1_50 L22 rfl ?_
  refine A_iconst (v := 0) dX1_copyFrom_151 rfl ?_
  refine A_iconst (v := 3) dX1_copyFrom_152 rfl ?_
  refine A_copy 0 0 3 dX1_copyFrom_153 lk_RX1_76 L11 L32 rfl rfl rfl (lb rfl) (lb rfl) ⟨lb rfl, lb rfl⟩ ⟨lb rfl, lb rfl⟩ ?_
  refine A_eq rfl rfl (f' := dR (ur (ur (ur (u2 (ur (u2 (ur (u2 (ur (u2 (u2 (u2 f 22 0 (f 1 0)) 22 1 (f 1 1)) 35 0 (f 14 0)) 36 (cpR 48 (f 15) (f 36))) 37 0 (f 16 0)) 38 (cpR 48 (f 17) (f 38))) 39 0 (f 18 0)) 40 (cpR 48 (f 19) (f 40))) 41 0 (f 20 0)) 42 (cpR 48 (f 21) (f 42))) 27 (cpR 4 (f 6) (f 27))) 28 (cpR 4 (f 7) (f 28))) 22 (cpR 4 (f 3) (r4 (t 0))) (cpR 4 (f 4) (r4 (t 1))) (cpR 4 (f 5) (r4 (t 2))) (cpR 3 (f 9) (rO (t 3))) (cpR 3 (f 10) (r3 (t 4))) (cpR 3 (f 11) (rE t)) (rW t) (rK l)) (by rw [gt_cpy, cpy_R, dR_o _ (d := 22) (a := 11) _ _ _ _ _ _ _ _ (by decide), show (32 : Nat) = 22 + 10 from rfl, dR_10, dR_u10]; simp [ur, u2, upd]) ?_
  refine A_aload_n dX1_copyFrom_156 rfl 2 rfl ?_
  refine A_getR (b := 12) dX1_copyFrom_157 fo_RX1_53 L1 rfl ?_
  refine A_iconst (v := 0) dX1_copyFrom_160 rfl ?_
  refine A_aload_n dX1_copyFrom_161 rfl 1 rfl ?_
  refine A_getR (b := 33) dX1_copyFrom_162 fo_RX1_53 L22 rfl ?_
  refine A_iconst (v := 0) dX1_copyFrom_165 rfl ?_
  refine A_iconst (v := 3) dX1_copyFrom_166 rfl ?_
  refine A_copy 0 0 3 dX1_copyFrom_167 lk_RX1_76 L12 L33 rfl rfl rfl (lb rfl) (lb rfl) ⟨lb rfl, lb rfl⟩ ⟨lb rfl, lb rfl⟩ ?_
  refine A_eq rfl rfl (f' := dR (ur (ur (ur (u2 (ur (u2 (ur (u2 (ur (u2 (u2 (u2 f 22 0 (f 1 0)) 22 1 (f 1 1)) 35 0 (f 14 0)) 36 (cpR 48 (f 15) (f 36))) 37 0 (f 16 0)) 38 (cpR 48 (f 17) (f 38))) 39 0 (f 18 0)) 40 (cpR 48 (f 19) (f 40))) 41 0 (f 20 0)) 42 (cpR 48 (f 21) (f 42))) 27 (cpR 4 (f 6) (f 27))) 28 (cpR 4 (f 7) (f 28))) 22 (cpR 4 (f 3) (r4 (t 0))) (cpR 4 (f 4) (r4 (t 1))) (cpR 4 (f 5) (r4 (t 2))) (cpR 3 (f 9) (rO (t 3))) (cpR 3 (f 10) (r3 (t 4))) (cpR 3 (f 11) (rE t)) (cpR 3 (f 12) (rW t)) (rK l)) (by rw [gt_cpy, cpy_R, dR_o _ (d := 22) (a := 12) _ _ _ _ _ _ _ _ (by decide), show (33 : Nat) = 22 + 11 from rfl, dR_11, dR_u11]; simp [ur, u2, upd]) ?_
  refine A_aload_n dX1_copyFrom_170 rfl 2 rfl ?_
  refine A_getR (b := 13) dX1_copyFrom_171 fo_RX1_56 L1 rfl ?_
  refine A_iconst (v := 0) dX1_copyFrom_174 rfl ?_
  refine A_aload_n dX1_copyFrom_175 rfl 1 rfl ?_
  refine A_getR (b := 34) dX1_copyFrom_176 fo_RX1_56 L22 rfl ?_
  refine A_iconst (v := 0) dX1_copyFrom_179 rfl ?_
  refine A_iconst (v := 4) dX1_copyFrom_180 rfl ?_
  refine A_copy 0 0 4 dX1_copyFrom_181 lk_RX1_76 L13 L34 rfl rfl rfl (lb rfl) (lb rfl) ⟨lb rfl, lb rfl⟩ ⟨lb rfl, lb rfl⟩ ?_
  refine A_eq rfl rfl (f' := dR (ur (ur (ur (u2 (ur (u2 (ur (u2 (ur (u2 (u2 (u2 f 22 0 (f 1 0)) 22 1 (f 1 1)) 35 0 (f 14 0)) 36 (cpR 48 (f 15) (f 36))) 37 0 (f 16 0)) 38 (cpR 48 (f 17) (f 38))) 39 0 (f 18 0)) 40 (cpR 48 (f 19) (f 40))) 41 0 (f 20 0)) 42 (cpR 48 (f 21) (f 42))) 27 (cpR 4 (f 6) (f 27))) 28 (cpR 4 (f 7) (f 28))) 22 (cpR 4 (f 3) (r4 (t 0))) (cpR 4 (f 4) (r4 (t 1))) (cpR 4 (f 5) (r4 (t 2))) (cpR 3 (f 9) (rO (t 3))) (cpR 3 (f 10) (r3 (t 4))) (cpR 3 (f 11) (rE t)) (cpR 3 (f 12) (rW t)) (cpR 4 (f 13) (rK l))) (by rw [gt_cpy, cpy_R, dR_o _ (d := 22) (a := 13) _ _ _ _ _ _ _ _ (by decide), show (34 : Nat) = 22 + 12 from rfl, dR_12, dR_u12]; simp [ur, u2, upd]) ?_
  refine A_iconst (v := 0) dX1_copyFrom_184 rfl ?_
  refine A_istore_n (lv' := [(2, .int 0), (0, .ref 22), (1, .ref 1)]) dX1_copyFrom_185 rfl (lb rfl) rfl ?_
  refine A_iload_n dX1_copyFrom_186 rfl 0 rfl ?_
  refine A_iconst (v := 3) dX1_copyFrom_187 rfl ?_
  refine A_icmp_ge (tgt := 209) dX1_copyFrom_188 rfl (fun h188 => absurd h188 (by decide)) (fun h188 => ?_)
  refine A_aload_n dX1_copyFrom_191 rfl 1 rfl ?_
  refine A_getR (b := 29) dX1_copyFrom_192 fo_RX1_40 L22 rfl ?_
  refine A_iload_n dX1_copyFrom_195 rfl 0 rfl ?_
  refine A_aload_n dX1_copyFrom_196 rfl 2 rfl ?_
  refine A_getR (b := 8) dX1_copyFrom_197 fo_RX1_40 L1 rfl ?_
  refine A_iload_n dX1_copyFrom_200 rfl 0 rfl ?_
  refine A_zaload 0 dX1_copyFrom_201 L8 (rfl) (by decide) (lb rfl) ?_
  refine A_topi (f 8 0) (by rw [dR_o _ _ _ _ _ _ _ _ _ (by omega)] <;> simp [ur, u2, upd]) ?_
  refine A_zastore 0 dX1_copyFrom_202 L29 (rfl) (by decide) (lb rfl) (h01 0 (by decide)) ?_
  refine A_eq rfl rfl (f' := dR (u2 (ur (ur (ur (u2 (ur (u2 (ur (u2 (ur (u2 (u2 (u2 f 22 0 (f 1 0)) 22 1 (f 1 1)) 35 0 (f 14 0)) 36 (cpR 48 (f 15) (f 36))) 37 0 (f 16 0)) 38 (cpR 48 (f 17) (f 38))) 39 0 (f 18 0)) 40 (cpR 48 (f 19) (f 40))) 41 0 (f 20 0)) 42 (cpR 48 (f 21) (f 42))) 27 (cpR 4 (f 6) (f 27))) 28 (cpR 4 (f 7) (f 28))) 29 0 (f 8 0)) 22 (cpR 4 (f 3) (r4 (t 0))) (cpR 4 (f 4) (r4 (t 1))) (cpR 4 (f 5) (r4 (t 2))) (cpR 3 (f 9) (rO (t 3))) (cpR 3 (f 10) (r3 (t 4))) (cpR 3 (f 11) (rE t)) (cpR 3 (f 12) (rW t)) (cpR 4 (f 13) (rK l))) (by rw [u2, dR_o _ _ _ _ _ _ _ _ _ (by omega), dR_uo _ _ _ _ _ _ _ _ _ _ (by omega)]; rfl) ?_
  refine A_iinc (lv' := [(2, .int 1), (0, .ref 22), (1, .ref 1)]) dX1_copyFrom_203 0 rfl rfl (lb rfl) rfl ?_
  refine A_goto (tgt := 186) dX1_copyFrom_206 rfl ?_
  refine A_iload_n dX1_copyFrom_186 rfl 0 rfl ?_
  refine A_iconst (v := 3) dX1_copyFrom_187 rfl ?_
  refine A_icmp_ge (tgt := 209) dX1_copyFrom_188 rfl (fun h188 => absurd h188 (by decide)) (fun h188 => ?_)
  refine A_aload_n dX1_copyFrom_191 rfl 1 rfl ?_
  refine A_getR (b := 29) dX1_copyFrom_192 fo_RX1_40 L22 rfl ?_
  refine A_iload_n dX1_copyFrom_195 rfl 0 rfl ?_
  refine A_aload_n dX1_copyFrom_196 rfl 2 rfl ?_
  refine A_getR (b := 8) dX1_copyFrom_197 fo_RX1_40 L1 rfl ?_
  refine A_iload_n dX1_copyFrom_200 rfl 0 rfl ?_
  refine A_zaload 1 dX1_copyFrom_201 L8 (rfl) (by decide) (lb rfl) ?_
  refine A_topi (f 8 1) (by rw [dR_o _ _ _ _ _ _ _ _ _ (by omega)] <;> simp [ur, u2, upd]) ?_
  refine A_zastore 1 dX1_copyFrom_202 L29 (rfl) (by decide) (lb rfl) (h01 1 (by decide)) ?_
  refine A_eq rfl rfl (f' := dR (u2 (u2 (ur (ur (ur (u2 (ur (u2 (ur (u2 (ur (u2 (u2 (u2 f 22 0 (f 1 0)) 22 1 (f 1 1)) 35 0 (f 14 0)) 36 (cpR 48 (f 15) (f 36))) 37 0 (f 16 0)) 38 (cpR 48 (f 17) (f 38))) 39 0 (f 18 0)) 40 (cpR 48 (f 19) (f 40))) 41 0 (f 20 0)) 42 (cpR 48 (f 21) (f 42))) 27 (cpR 4 (f 6) (f 27))) 28 (cpR 4 (f 7) (f 28))) 29 0 (f 8 0)) 29 1 (f 8 1)) 22 (cpR 4 (f 3) (r4 (t 0))) (cpR 4 (f 4) (r4 (t 1))) (cpR 4 (f 5) (r4 (t 2))) (cpR 3 (f 9) (rO (t 3))) (cpR 3 (f 10) (r3 (t 4))) (cpR 3 (f 11) (rE t)) (cpR 3 (f 12) (rW t)) (cpR 4 (f 13) (rK l))) (by rw [u2, dR_o _ _ _ _ _ _ _ _ _ (by omega), dR_uo _ _ _ _ _ _ _ _ _ _ (by omega)]; rfl) ?_
  refine A_iinc (lv' := [(2, .int 2), (0, .ref 22), (1, .ref 1)]) dX1_copyFrom_203 0 rfl rfl (lb rfl) rfl ?_
  refine A_goto (tgt := 186) dX1_copyFrom_206 rfl ?_
  refine A_iload_n dX1_copyFrom_186 rfl 0 rfl ?_
  refine A_iconst (v := 3) dX1_copyFrom_187 rfl ?_
  refine A_icmp_ge (tgt := 209) dX1_copyFrom_188 rfl (fun h188 => absurd h188 (by decide)) (fun h188 => ?_)
  refine A_aload_n dX1_copyFrom_191 rfl 1 rfl ?_
  refine A_getR (b := 29) dX1_copyFrom_192 fo_RX1_40 L22 rfl ?_
  refine A_iload_n dX1_copyFrom_195 rfl 0 rfl ?_
  refine A_aload_n dX1_copyFrom_196 rfl 2 rfl ?_
  refine A_getR (b := 8) dX1_copyFrom_197 fo_RX1_40 L1 rfl ?_
  refine A_iload_n dX1_copyFrom_200 rfl 0 rfl ?_
  refine A_zaload 2 dX1_copyFrom_201 L8 (rfl) (by decide) (lb rfl) ?_
  refine A_topi (f 8 2) (by rw [dR_o _ _ _ _ _ _ _ _ _ (by omega)] <;> simp [ur, u2, upd]) ?_
  refine A_zastore 2 dX1_copyFrom_202 L29 (rfl) (by decide) (lb rfl) (h01 2 (by decide)) ?_
  refine A_eq rfl rfl (f' := dR (u2 (u2 (u2 (ur (ur (ur (u2 (ur (u2 (ur (u2 (ur (u2 (u2 (u2 f 22 0 (f 1 0)) 22 1 (f 1 1)) 35 0 (f 14 0)) 36 (cpR 48 (f 15) (f 36))) 37 0 (f 16 0)) 38 (cpR 48 (f 17) (f 38))) 39 0 (f 18 0)) 40 (cpR 48 (f 19) (f 40))) 41 0 (f 20 0)) 42 (cpR 48 (f 21) (f 42))) 27 (cpR 4 (f 6) (f 27))) 28 (cpR 4 (f 7) (f 28))) 29 0 (f 8 0)) 29 1 (f 8 1)) 29 2 (f 8 2)) 22 (cpR 4 (f 3) (r4 (t 0))) (cpR 4 (f 4) (r4 (t 1))) (cpR 4 (f 5) (r4 (t 2))) (cpR 3 (f 9) (rO (t 3))) (cpR 3 (f 10) (r3 (t 4))) (cpR 3 (f 11) (rE t)) (cpR 3 (f 12) (rW t)) (cpR 4 (f 13) (rK l))) (by rw [u2, dR_o _ _ _ _ _ _ _ _ _ (by omega), dR_uo _ _ _ _ _ _ _ _ _ _ (by omega)]; rfl) ?_
  refine A_iinc (lv' := [(2, .int 3), (0, .ref 22), (1, .ref 1)]) dX1_copyFrom_203 0 rfl rfl (lb rfl) rfl ?_
  refine A_goto (tgt := 186) dX1_copyFrom_206 rfl ?_
  refine A_iload_n dX1_copyFrom_186 rfl 0 rfl ?_
  refine A_iconst (v := 3) dX1_copyFrom_187 rfl ?_
  refine A_icmp_ge (tgt := 209) dX1_copyFrom_188 rfl (fun h188 => ?_) (fun h188 => absurd (by decide) h188)
  exact A_vret dX1_copyFrom_209 rfl (⟨rfl, by rw [dM, cpB22_1, g2, g3, g4, g8, g9, ga, gb, gc, cp_r4, cp_r4, cp_r4, cp_rO, cp_r3, cp_rE, cp_rW, cp_rK]⟩)
def cpB1_22 (f : Mem) : Mem := u2 (u2 (u2 (ur (ur (ur (u2 (ur (u2 (ur (u2 (ur (u2 (u2 (u2 f 1 0 (f 22 0)) 1 1 (f 22 1)) 14 0 (f 35 0)) 15 (cpR 48 (f 36) (f 15))) 16 0 (f 37 0)) 17 (cpR 48 (f 38) (f 17))) 18 0 (f 39 0)) 19 (cpR 48 (f 40) (f 19))) 20 0 (f 41 0)) 21 (cpR 48 (f 42) (f 21))) 6 (cpR 4 (f 27) (f 6))) 7 (cpR 4 (f 28) (f 7))) 8 0 (f 29 0)) 8 1 (f 29 1)) 8 2 (f 29 2)
theorem x_copy1_22 (f : Mem) (s t : Sg) (k l : Ro) (hs : dM f 22 s k = f) (h01 : ∀ m, m < 3 → f 29 m = 0 ∨ f 29 m = 1) : C0 MX1_copyFrom [.ref 1, .ref 22] (dM f 1 t l) (rt none (dM (cpB1_22 f) 1 s k)) := by
  have g2 : f 24 = r4 (s 0) := by rw [← hs, show (24 : Nat) = 22 + 2 from rfl, dM, dR_2]
  have g3 : f 25 = r4 (s 1) := by rw [← hs, show (25 : Nat) = 22 + 3 from rfl, dM, dR_3]
  have g4 : f 26 = r4 (s 2) := by rw [← hs, show (26 : Nat) = 22 + 4 from rfl, dM, dR_4]
  have g8 : f 30 = rO (s 3) := by rw [← hs, show (30 : Nat) = 22 + 8 from rfl, dM, dR_8]
  have g9 : f 31 = r3 (s 4) := by rw [← hs, show (31 : Nat) = 22 + 9 from rfl, dM, dR_9]
  have ga : f 32 = rE s := by rw [← hs, show (32 : Nat) = 22 + 10 from rfl, dM, dR_10]
  have gb : f 33 = rW s := by rw [← hs, show (33 : Nat) = 22 + 11 from rfl, dM, dR_11]
  have gc : f 34 = rK k := by rw [← hs, show (34 : Nat) = 22 + 12 from rfl, dM, dR_12]
  show C0 MX1_copyFrom [.ref 1, .ref 22] (dR f 1 (r4 (t 0)) (r4 (t 1)) (r4 (t 2)) (rO (t 3)) (r3 (t 4)) (rE t) (rW t) (rK l)) _
  refine Ct.of (lv := [(0, .ref 1), (1, .ref 22)]) (by decide) (lb rfl) rfl ?_
  refine A_aload_n dX1_copyFrom_0 rfl 0 rfl ?_
  refine A_aload_n dX1_copyFrom_1 rfl 1 rfl ?_
  refine A_getI dX1_copyFrom_2 fo_RX1_9 L22 rfl ?_
  refine A_topi (f 22 0) (by rw [dR_o _ _ _ _ _ _ _ _ _ (by omega)] <;> simp [ur, u2, upd]) ?_
  refine A_putI dX1_copyFrom_5 fo_RX1_9 L1 rfl ?_
  refine A_eq rfl rfl (f' := dR (u2 f 1 0 (f 22 0)) 1 (r4 (t 0)) (r4 (t 1)) (r4 (t 2)) (rO (t 3)) (r3 (t 4)) (rE t) (rW t) (rK l)) (by rw [u2, dR_o _ _ _ _ _ _ _ _ _ (by omega), dR_uo _ _ _ _ _ _ _ _ _ _ (by omega)]; rfl) ?_
  refine A_aload_n dX1_copyFrom_8 rfl 0 rfl ?_
  refine A_aload_n dX1_copyFrom_9 rfl 1 rfl ?_
  refine A_getI dX1_copyFrom_10 fo_RX1_15 L22 rfl ?_
  refine A_topi (f 22 1) (by rw [dR_o _ _ _ _ _ _ _ _ _ (by omega)] <;> simp [ur, u2, upd]) ?_
  refine A_putI dX1_copyFrom_13 fo_RX1_15 L1 rfl ?_
  refine A_eq rfl rfl (f' := dR (u2 (u2 f 1 0 (f 22 0)) 1 1 (f 22 1)) 1 (r4 (t 0)) (r4 (t 1)) (r4 (t 2)) (rO (t 3)) (r3 (t 4)) (rE t) (rW t) (rK l)) (by rw [u2, dR_o _ _ _ _ _ _ _ _ _ (by omega), dR_uo _ _ _ _ _ _ _ _ _ _ (by omega)]; rfl) ?_
  refine A_iconst (v := 0) dX1_copyFrom_16 rfl ?_
  refine A_istore_n (lv' := [(2, .int 0), (0, .ref 1), (1, .ref 22)]) dX1_copyFrom_17 rfl (lb rfl) rfl ?_
  refine A_iload_n dX1_copyFrom_18 rfl 0 rfl ?_
  refine A_iconst (v := 4) dX1_copyFrom_19 rfl ?_
  refine A_icmp_ge (tgt := 44) dX1_copyFrom_20 rfl (fun h20 => absurd h20 (by decide)) (fun h20 => ?_)
  refine A_aload_n dX1_copyFrom_23 rfl 1 rfl ?_
  refine A_getR (b := 2) dX1_copyFrom_24 fo_RX1_20 L1 rfl ?_
  refine A_iload_n dX1_copyFrom_27 rfl 0 rfl ?_
  refine A_aaload2 (b := 14) 0 dX1_copyFrom_28 L2 (rfl) (by decide) (lb rfl) (rfl) ?_
  refine A_aload_n dX1_copyFrom_29 rfl 2 rfl ?_
  refine A_getR (b := 23) dX1_copyFrom_30 fo_RX1_20 L22 rfl ?_
  refine A_iload_n dX1_copyFrom_33 rfl 0 rfl ?_
  refine A_aaload2 (b := 35) 0 dX1_copyFrom_34 L23 (rfl) (by decide) (lb rfl) (rfl) ?_
  refine A_callV (M' := MX3_copyFrom) [.ref 35] [] 14 dX1_copyFrom_35 lk_RX1_72 oX3_copyFrom iX3_copyFrom rfl rfl ⟨lb rfl, lb rfl⟩ (lb rfl) ⟨lb rfl, lb rfl⟩ L14 rfl (x_pcopy _ 14 35 ⟨rfl, rfl⟩ ⟨rfl, rfl⟩ (by decide)) ?_
  rintro _ _ ⟨rfl, rfl⟩
  refine A_eq rfl rfl (f' := dR (ur (u2 (u2 (u2 f 1 0 (f 22 0)) 1 1 (f 22 1)) 14 0 (f 35 0)) 15 (cpR 48 (f 36) (f 15))) 1 (r4 (t 0)) (r4 (t 1)) (r4 (t 2)) (rO (t 3)) (r3 (t 4)) (rE t) (rW t) (rK l)) (by rw [u2, dR_o (u2 (u2 f 1 0 (f 22 0)) 1 1 (f 22 1)) (r4 (t 0)) (r4 (t 1)) (r4 (t 2)) (rO (t 3)) (r3 (t 4)) (rE t) (rW t) (rK l) (show 14 < 1 + 2 ∨ (1 + 4 < 14 ∧ 14 < 1 + 8) ∨ 1 + 12 < 14 by decide), dR_o (u2 (u2 f 1 0 (f 22 0)) 1 1 (f 22 1)) (d := 1) (a := 35) _ _ _ _ _ _ _ _ (by decide), dR_o (u2 (u2 f 1 0 (f 22 0)) 1 1 (f 22 1)) (d := 1) (a := 36) _ _ _ _ _ _ _ _ (by decide), dR_o (u2 (u2 f 1 0 (f 22 0)) 1 1 (f 22 1)) (d := 1) (a := 15) _ _ _ _ _ _ _ _ (by decide), dR_uo _ _ _ _ _ _ _ _ _ _ (by decide), dR_uo _ _ _ _ _ _ _ _ _ _ (by decide)]; simp [ur, u2, upd]) ?_
  refine A_iinc (lv' := [(2, .int 1), (0, .ref 1), (1, .ref 22)]) dX1_copyFrom_38 0 rfl rfl (lb rfl) rfl ?_
  refine A_goto (tgt := 18) dX1_copyFrom_41 rfl ?_
  refine A_iload_n dX1_copyFrom_18 rfl 0 rfl ?_
  refine A_iconst (v := 4) dX1_copyFrom_19 rfl ?_
  refine A_icmp_ge (tgt := 44) dX1_copyFrom_20 rfl (fun h20 => absurd h20 (by decide)) (fun h20 => ?_)
  refine A_aload_n dX1_copyFrom_23 rfl 1 rfl ?_
  refine A_getR (b := 2) dX1_copyFrom_24 fo_RX1_20 L1 rfl ?_
  refine A_iload_n dX1_copyFrom_27 rfl 0 rfl ?_
  refine A_aaload2 (b := 16) 1 dX1_copyFrom_28 L2 (rfl) (by decide) (lb rfl) (rfl) ?_
  refine A_aload_n dX1_copyFrom_29 rfl 2 rfl ?_
  refine A_getR (b := 23) dX1_copyFrom_30 fo_RX1_20 L22 rfl ?_
  refine A_iload_n dX1_copyFrom_33 rfl 0 rfl ?_
  refine A_aaload2 (b := 37) 1 dX1_copyFrom_34 L23 (rfl) (by decide) (lb rfl) (rfl) ?_
  refine A_callV (M' := MX3_copyFrom) [.ref 37] [] 16 dX1_copyFrom_35 lk_RX1_72 oX3_copyFrom iX3_copyFrom rfl rfl ⟨lb rfl, lb rfl⟩ (lb rfl) ⟨lb rfl, lb rfl⟩ L16 rfl (x_pcopy _ 16 37 ⟨rfl, rfl⟩ ⟨rfl, rfl⟩ (by decide)) ?_
  rintro _ _ ⟨rfl, rfl⟩
  refine A_eq rfl rfl (f' := dR (ur (u2 (ur (u2 (u2 (u2 f 1 0 (f 22 0)) 1 1 (f 22 1)) 14 0 (f 35 0)) 15 (cpR 48 (f 36) (f 15))) 16 0 (f 37 0)) 17 (cpR 48 (f 38) (f 17))) 1 (r4 (t 0)) (r4 (t 1)) (r4 (t 2)) (rO (t 3)) (r3 (t 4)) (rE t) (rW t) (rK l)) (by rw [u2, dR_o (ur (u2 (u2 (u2 f 1 0 (f 22 0)) 1 1 (f 22 1)) 14 0 (f 35 0)) 15 (cpR 48 (f 36) (f 15))) (r4 (t 0)) (r4 (t 1)) (r4 (t 2)) (rO (t 3)) (r3 (t 4)) (rE t) (rW t) (rK l) (show 16 < 1 + 2 ∨ (1 + 4 < 16 ∧ 16 < 1 + 8) ∨ 1 + 12 < 16 by decide), dR_o (ur (u2 (u2 (u2 f 1 0 (f 22 0)) 1 1 (f 22 1)) 14 0 (f 35 0)) 15 (cpR 48 (f 36) (f 15))) (d := 1) (a := 37) _ _ _ _ _ _ _ _ (by decide), dR_o (ur (u2 (u2 (u2 f 1 0 (f 22 0)) 1 1 (f 22 1)) 14 0 (f 35 0)) 15 (cpR 48 (f 36) (f 15))) (d := 1) (a := 38) _ _ _ _ _ _ _ _ (by decide), dR_o (ur (u2 (u2 (u2 f 1 0 (f 22 0)) 1 1 (f 22 1)) 14 0 (f 35 0)) 15 (cpR 48 (f 36) (f 15))) (d := 1) (a := 17) _ _ _ _ _ _ _ _ (by decide), dR_uo _ _ _ _ _ _ _ _ _ _ (by decide), dR_uo _ _ _ _ _ _ _ _ _ _ (by decide)]; simp [ur, u2, upd]) ?_
  refine A_iinc (lv' := [(2, .int 2), (0, .ref 1), (1, .ref 22)]) dX1_copyFrom_38 0 rfl rfl (lb rfl) rfl ?_
  refine A_goto (tgt := 18) dX1_copyFrom_41 rfl ?_
  refine A_iload_n dX1_copyFrom_18 rfl 0 rfl ?_
  refine A_iconst (v := 4) dX1_copyFrom_19 rfl ?_
  refine A_icmp_ge (tgt := 44) dX1_copyFrom_20 rfl (fun h20 => absurd h20 (by decide)) (fun h20 => ?_)
  refine A_aload_n dX1_copyFrom_23 rfl 1 rfl ?_
  refine A_getR (b := 2) dX1_copyFrom_24 fo_RX1_20 L1 rfl ?_
  refine A_iload_n dX1_copyFrom_27 rfl 0 rfl ?_
  refine A_aaload2 (b := 18) 2 dX1_copyFrom_28 L2 (rfl) (by decide) (lb rfl) (rfl) ?_
  refine A_aload_n dX1_copyFrom_29 rfl 2 rfl ?_
  refine A_getR (b := 23) dX1_copyFrom_30 fo_RX1_20 L22 rfl ?_
  refine A_iload_n dX1_copyFrom_33 rfl 0 rfl ?_
  refine A_aaload2 (b := 39) 2 dX1_copyFrom_34 L23 (rfl) (by decide) (lb rfl) (rfl) ?_
  refine A_callV (M' := MX3_copyFrom) [.ref 39] [] 18 dX1_copyFrom_35 lk_RX1_72 oX3_copyFrom iX3_copyFrom rfl rfl ⟨lb rfl, lb rfl⟩ (lb rfl) ⟨lb rfl, lb rfl⟩ L18 rfl (x_pcopy _ 18 39 ⟨rfl, rfl⟩ ⟨rfl, rfl⟩ (by decide)) ?_
  rintro _ _ ⟨rfl, rfl⟩
  refine A_eq rfl rfl (f' := dR (ur (u2 (ur (u2 (ur (u2 (u2 (u2 f 1 0 (f 22 0)) 1 1 (f 22 1)) 14 0 (f 35 0)) 15 (cpR 48 (f 36) (f 15))) 16 0 (f 37 0)) 17 (cpR 48 (f 38) (f 17))) 18 0 (f 39 0)) 19 (cpR 48 (f 40) (f 19))) 1 (r4 (t 0)) (r4 (t 1)) (r4 (t 2)) (rO (t 3)) (r3 (t 4)) (rE t) (rW t) (rK l)) (by rw [u2, dR_o (ur (u2 (ur (u2 (u2 (u2 f 1 0 (f 22 0)) 1 1 (f 22 1)) 14 0 (f 35 0)) 15 (cpR 48 (f 36) (f 15))) 16 0 (f 37 0)) 17 (cpR 48 (f 38) (f 17))) (r4 (t 0)) (r4 (t 1)) (r4 (t 2)) (rO (t 3)) (r3 (t 4)) (rE t) (rW t) (rK l) (show 18 < 1 + 2 ∨ (1 + 4 < 18 ∧ 18 < 1 + 8) ∨ 1 + 12 < 18 by decide), dR_o (ur (u2 (ur (u2 (u2 (u2 f 1 0 (f 22 0)) 1 1 (f 22 1)) 14 0 (f 35 0)) 15 (cpR 48 (f 36) (f 15))) 16 0 (f 37 0)) 17 (cpR 48 (f 38) (f 17))) (d := 1) (a := 39) _ _ _ _ _ _ _ _ (by decide), dR_o (ur (u2 (ur (u2 (u2 (u2 f 1 0 (f 22 0)) 1 1 (f 22 1)) 14 0 (f 35 0)) 15 (cpR 48 (f 36) (f 15))) 16 0 (f 37 0)) 17 (cpR 48 (f 38) (f 17))) (d := 1) (a := 40) _ _ _ _ _ _ _ _ (by decide), dR_o (ur (u2 (ur (u2 (u2 (u2 f 1 0 (f 22 0)) 1 1 (f 22 1)) 14 0 (f 35 0)) 15 (cpR 48 (f 36) (f 15))) 16 0 (f 37 0)) 17 (cpR 48 (f 38) (f 17))) (d := 1) (a := 19) _ _ _ _ _ _ _ _ (by decide), dR_uo _ _ _ _ _ _ _ _ _ _ (by decide), dR_uo _ _ _ _ _ _ _ _ _ _ (by decide)]; simp [ur, u2, upd]) ?_
  refine A_iinc (lv' := [(2, .int 3), (0, .ref 1), (1, .ref 22)]) dX1_copyFrom_38 0 rfl rfl (lb rfl) rfl ?_
  refine A_goto (tgt := 18) dX1_copyFrom_41 rfl ?_
  refine A_iload_n dX1_copyFrom_18 rfl 0 rfl ?_
  refine A_iconst (v := 4) dX1_copyFrom_19 rfl ?_
  refine A_icmp_ge (tgt := 44) dX1_copyFrom_20 rfl (fun h20 => absurd h20 (by decide)) (fun h20 => ?_)
  refine A_aload_n dX1_copyFrom_23 rfl 1 rfl ?_
  refine A_getR (b := 2) dX1_copyFrom_24 fo_RX1_20 L1 rfl ?_
  refine A_iload_n dX1_copyFrom_27 rfl 0 rfl ?_
  refine A_aaload2 (b := 20) 3 dX1_copyFrom_28 L2 (rfl) (by decide) (lb rfl) (rfl) ?_
  refine A_aload_n dX1_copyFrom_29 rfl 2 rfl ?_
  refine A_getR (b := 23) dX1_copyFrom_30 fo_RX1_20 L22 rfl ?_
  refine A_iload_n dX1_copyFrom_33 rfl 0 rfl ?_
  refine A_aaload2 (b := 41) 3 dX1_copyFrom_34 L23 (rfl) (by decide) (lb rfl) (rfl) ?_
  refine A_callV (M' := MX3_copyFrom) [.ref 41] [] 20 dX1_copyFrom_35 lk_RX1_72 oX3_copyFrom iX3_copyFrom rfl rfl ⟨lb rfl, lb rfl⟩ (lb rfl) ⟨lb rfl, lb rfl⟩ L20 rfl (x_pcopy _ 20 41 ⟨rfl, rfl⟩ ⟨rfl, rfl⟩ (by decide)) ?_
  rintro _ _ ⟨rfl, rfl⟩
  refine A_eq rfl rfl (f' := dR (ur (u2 (ur (u2 (ur (u2 (ur (u2 (u2 (u2 f 1 0 (f 22 0)) 1 1 (f 22 1)) 14 0 (f 35 0)) 15 (cpR 48 (f 36) (f 15))) 16 0 (f 37 0)) 17 (cpR 48 (f 38) (f 17))) 18 0 (f 39 0)) 19 (cpR 48 (f 40) (f 19))) 20 0 (f 41 0)) 21 (cpR 48 (f 42) (f 21))) 1 (r4 (t 0)) (r4 (t 1)) (r4 (t 2)) (rO (t 3)) (r3 (t 4)) (rE t) (rW t) (rK l)) (by rw [u2, dR_o (ur (u2 (ur (u2 (ur (u2 (u2 (u2 f 1 0 (f 22 0)) 1 1 (f 22 1)) 14 0 (f 35 0)) 15 (cpR 48 (f 36) (f 15))) 16 0 (f 37 0)) 17 (cpR 48 (f 38) (f 17))) 18 0 (f 39 0)) 19 (cpR 48 (f 40) (f 19))) (r4 (t 0)) (r4 (t 1)) (r4 (t 2)) (rO (t 3)) (r3 (t 4)) (rE t) (rW t) (rK l) (show 20 < 1 + 2 ∨ (1 + 4 < 20 ∧ 20 < 1 + 8) ∨ 1 + 12 < 20 by decide), dR_o (ur (u2 (ur (u2 (ur (u2 (u2 (u2 f 1 0 (f 22 0)) 1 1 (f 22 1)) 14 0 (f 35 0)) 15 (cpR 48 (f 36) (f 15))) 16 0 (f 37 0)) 17 (cpR 48 (f 38) (f 17))) 18 0 (f 39 0)) 19 (cpR 48 (f 40) (f 19))) (d := 1) (a := 41) _ _ _ _ _ _ _ _ (by decide), dR_o (ur (u2 (ur (u2 (ur (u2 (u2 (u2 f 1 0 (f 22 0)) 1 1 (f 22 1)) 14 0 (f 35 0)) 15 (cpR 48 (f 36) (f 15))) 16 0 (f 37 0)) 17 (cpR 48 (f 38) (f 17))) 18 0 (f 39 0)) 19 (cpR 48 (f 40) (f 19))) (d := 1) (a := 42) _ _ _ _ _ _ _ _ (by decide), dR_o (ur (u2 (ur (u2 (ur (u2 (u2 (u2 f 1 0 (f 22 0)) 1 1 (f 22 1)) 14 0 (f 35 0)) 15 (cpR 48 (f 36) (f 15))) 16 0 (f 37 0)) 17 (cpR 48 (f 38) (f 17))) 18 0 (f 39 0)) 19 (cpR 48 (f 40) (f 19))) (d := 1) (a := 21) _ _ _ _ _ _ _ _ (by decide), dR_uo _ _ _ _ _ _ _ _ _ _ (by decide), dR_uo _ _ _ _ _ _ _ _ _ _ (by decide)]; simp [ur, u2, upd]) ?_
  refine A_iinc (lv' := [(2, .int 4), (0, .ref 1), (1, .ref 22)]) dX1_copyFrom_38 0 rfl rfl (lb rfl) rfl ?_
  refine A_goto (tgt := 18) dX1_copyFrom_41 rfl ?_
  refine A_iload_n dX1_copyFrom_18 rfl 0 rfl ?_
  refine A_iconst (v := 4) dX1_copyFrom_19 rfl ?_
  refine A_icmp_ge (tgt := 44) dX1_copyFrom_20 rfl (fun h20 => ?_) (fun h20 => absurd (by decide) h20)
  refine A_aload_n dX1_copyFrom_44 rfl 2 rfl ?_
  refine A_getR (b := 24) dX1_copyFrom_45 fo_RX1_24 L22 rfl ?_
  refine A_iconst (v := 0) dX1_copyFrom_48 rfl ?_
  refine A_aload_n dX1_copyFrom_49 rfl 1 rfl ?_
  refine A_getR (b := 3) dX1_copyFrom_50 fo_RX1_24 L1 rfl ?_
  refine A_iconst (v := 0) dX1_copyFrom_53 rfl ?_
  refine A_iconst (v := 4) dX1_copyFrom_54 rfl ?_
  refine A_copy 0 0 4 dX1_copyFrom_55 lk_RX1_76 L24 L3 rfl rfl rfl (lb rfl) (lb rfl) ⟨lb rfl, lb rfl⟩ ⟨lb rfl, lb rfl⟩ ?_
  refine A_eq rfl rfl (f' := dR (ur (u2 (ur (u2 (ur (u2 (ur (u2 (u2 (u2 f 1 0 (f 22 0)) 1 1 (f 22 1)) 14 0 (f 35 0)) 15 (cpR 48 (f 36) (f 15))) 16 0 (f 37 0)) 17 (cpR 48 (f 38) (f 17))) 18 0 (f 39 0)) 19 (cpR 48 (f 40) (f 19))) 20 0 (f 41 0)) 21 (cpR 48 (f 42) (f 21))) 1 (cpR 4 (f 24) (r4 (t 0))) (r4 (t 1)) (r4 (t 2)) (rO (t 3)) (r3 (t 4)) (rE t) (rW t) (rK l)) (by rw [gt_cpy, cpy_R, dR_o _ (d := 1) (a := 24) _ _ _ _ _ _ _ _ (by decide), show (3 : Nat) = 1 + 2 from rfl, dR_2, dR_u2]; simp [ur, u2, upd]) ?_
  refine A_aload_n dX1_copyFrom_58 rfl 2 rfl ?_
  refine A_getR (b := 25) dX1_copyFrom_59 fo_RX1_28 L22 rfl ?_
  refine A_iconst (v := 0) dX1_copyFrom_62 rfl ?_
  refine A_aload_n dX1_copyFrom_63 rfl 1 rfl ?_
  refine A_getR (b := 4) dX1_copyFrom_64 fo_RX1_28 L1 rfl ?_
  refine A_iconst (v := 0) dX1_copyFrom_67 rfl ?_
  refine A_iconst (v := 4) dX1_copyFrom_68 rfl ?_
  refine A_copy 0 0 4 dX1_copyFrom_69 lk_RX1_76 L25 L4 rfl rfl rfl (lb rfl) (lb rfl) ⟨lb rfl, lb rfl⟩ ⟨lb rfl, lb rfl⟩ ?_
  refine A_eq rfl rfl (f' := dR (ur (u2 (ur (u2 (ur (u2 (ur (u2 (u2 (u2 f 1 0 (f 22 0)) 1 1 (f 22 1)) 14 0 (f 35 0)) 15 (cpR 48 (f 36) (f 15))) 16 0 (f 37 0)) 17 (cpR 48 (f 38) (f 17))) 18 0 (f 39 0)) 19 (cpR 48 (f 40) (f 19))) 20 0 (f 41 0)) 21 (cpR 48 (f 42) (f 21))) 1 (cpR 4 (f 24) (r4 (t 0))) (cpR 4 (f 25) (r4 (t 1))) (r4 (t 2)) (rO (t 3)) (r3 (t 4)) (rE t) (rW t) (rK l)) (by rw [gt_cpy, cpy_R, dR_o _ (d := 1) (a := 25) _ _ _ _ _ _ _ _ (by decide), show (4 : Nat) = 1 + 3 from rfl, dR_3, dR_u3]; simp [ur, u2, upd]) ?_
  refine A_aload_n dX1_copyFrom_72 rfl 2 rfl ?_
  refine A_getR (b := 26) dX1_copyFrom_73 fo_RX1_31 L22 rfl ?_
  refine A_iconst (v := 0) dX1_copyFrom_76 rfl ?_
  refine A_aload_n dX1_copyFrom_77 rfl 1 rfl ?_
  refine A_getR (b := 5) dX1_copyFrom_78 fo_RX1_31 L1 rfl ?_
  refine A_iconst (v := 0) dX1_copyFrom_81 rfl ?_
  refine A_iconst (v := 4) dX1_copyFrom_82 rfl ?_
  refine A_copy 0 0 4 dX1_copyFrom_83 lk_RX1_76 L26 L5 rfl rfl rfl (lb rfl) (lb rfl) ⟨lb rfl, lb rfl⟩ ⟨lb rfl, lb rfl⟩ ?_
  refine A_eq rfl rfl (f' := dR (ur (u2 (ur (u2 (ur (u2 (ur (u2 (u2 (u2 f 1 0 (f 22 0)) 1 1 (f 22 1)) 14 0 (f 35 0)) 15 (cpR 48 (f 36) (f 15))) 16 0 (f 37 0)) 17 (cpR 48 (f 38) (f 17))) 18 0 (f 39 0)) 19 (cpR 48 (f 40) (f 19))) 20 0 (f 41 0)) 21 (cpR 48 (f 42) (f 21))) 1 (cpR 4 (f 24) (r4 (t 0))) (cpR 4 (f 25) (r4 (t 1))) (cpR 4 (f 26) (r4 (t 2))) (rO (t 3)) (r3 (t 4)) (rE t) (rW t) (rK l)) (by rw [gt_cpy, cpy_R, dR_o _ (d := 1) (a := 26) _ _ _ _ _ _ _ _ (by decide), show (5 : Nat) = 1 + 4 from rfl, dR_4, dR_u4]; simp [ur, u2, upd]) ?_
  refine A_aload_n dX1_copyFrom_86 rfl 2 rfl ?_
  refine A_getR (b := 27) dX1_copyFrom_87 fo_RX1_34 L22 rfl ?_
  refine A_iconst (v := 0) dX1_copyFrom_90 rfl ?_
  refine A_aload_n dX1_copyFrom_91 rfl 1 rfl ?_
  refine A_getR (b := 6) dX1_copyFrom_92 fo_RX1_34 L1 rfl ?_
  refine A_iconst (v := 0) dX1_copyFrom_95 rfl ?_
  refine A_iconst (v := 4) dX1_copyFrom_96 rfl ?_
  refine A_copy 0 0 4 dX1_copyFrom_97 lk_RX1_76 L27 L6 rfl rfl rfl (lb rfl) (lb rfl) ⟨lb rfl, lb rfl⟩ ⟨lb rfl, lb rfl⟩ ?_
  refine A_eq rfl rfl (f' := dR (ur (ur (u2 (ur (u2 (ur (u2 (ur (u2 (u2 (u2 f 1 0 (f 22 0)) 1 1 (f 22 1)) 14 0 (f 35 0)) 15 (cpR 48 (f 36) (f 15))) 16 0 (f 37 0)) 17 (cpR 48 (f 38) (f 17))) 18 0 (f 39 0)) 19 (cpR 48 (f 40) (f 19))) 20 0 (f 41 0)) 21 (cpR 48 (f 42) (f 21))) 6 (cpR 4 (f 27) (f 6))) 1 (cpR 4 (f 24) (r4 (t 0))) (cpR 4 (f 25) (r4 (t 1))) (cpR 4 (f 26) (r4 (t 2))) (rO (t 3)) (r3 (t 4)) (rE t) (rW t) (rK l)) (by rw [gt_cpy, cpy_R, dR_o _ (d := 1) (a := 27) _ _ _ _ _ _ _ _ (by decide), dR_o _ (d := 1) (a := 6) _ _ _ _ _ _ _ _ (by decide), dR_uo _ _ _ _ _ _ _ _ _ _ (by decide)]; simp [ur, u2, upd]) ?_
  refine A_aload_n dX1_copyFrom_100 rfl 2 rfl ?_
  refine A_getR (b := 28) dX1_copyFrom_101 fo_RX1_37 L22 rfl ?_
  refine A_iconst (v := 0) dX1_copyFrom_104 rfl ?_
  refine A_aload_n dX1_copyFrom_105 rfl 1 rfl ?_
  refine A_getR (b := 7) dX1_copyFrom_106 fo_RX1_37 L1 rfl ?_
  refine A_iconst (v := 0) dX1_copyFrom_109 rfl ?_
  refine A_iconst (v := 4) dX1_copyFrom_110 rfl ?_
  refine A_copy 0 0 4 dX1_copyFrom_111 lk_RX1_76 L28 L7 rfl rfl rfl (lb rfl) (lb rfl) ⟨lb rfl, lb rfl⟩ ⟨lb rfl, lb rfl⟩ ?_
  refine A_eq rfl rfl (f' := dR (ur (ur (ur (u2 (ur (u2 (ur (u2 (ur (u2 (u2 (u2 f 1 0 (f 22 0)) 1 1 (f 22 1)) 14 0 (f 35 0)) 15 (cpR 48 (f 36) (f 15))) 16 0 (f 37 0)) 17 (cpR 48 (f 38) (f 17))) 18 0 (f 39 0)) 19 (cpR 48 (f 40) (f 19))) 20 0 (f 41 0)) 21 (cpR 48 (f 42) (f 21))) 6 (cpR 4 (f 27) (f 6))) 7 (cpR 4 (f 28) (f 7))) 1 (cpR 4 (f 24) (r4 (t 0))) (cpR 4 (f 25) (r4 (t 1))) (cpR 4 (f 26) (r4 (t 2))) (rO (t 3)) (r3 (t 4)) (rE t) (rW t) (rK l)) (by rw [gt_cpy, cpy_R, dR_o _ (d := 1) (a := 28) _ _ _ _ _ _ _ _ (by decide), dR_o _ (d := 1) (a := 7) _ _ _ _ _ _ _ _ (by decide), dR_uo _ _ _ _ _ _ _ _ _ _ (by decide)]; simp [ur, u2, upd]) ?_
  refine A_aload_n dX1_copyFrom_114 rfl 2 rfl ?_
  refine A_getR (b := 30) dX1_copyFrom_115 fo_RX1_44 L22 rfl ?_
  refine A_iconst (v := 0) dX1_copyFrom_118 rfl ?_
  refine A_aload_n dX1_copyFrom_119 rfl 1 rfl ?_
  refine A_getR (b := 9) dX1_copyFrom_120 fo_RX1_44 L1 rfl ?_
  refine A_iconst (v := 0) dX1_copyFrom_123 rfl ?_
  refine A_iconst (v := 3) dX1_copyFrom_124 rfl ?_
  refine A_copy 0 0 3 dX1_copyFrom_125 lk_RX1_76 L30 L9 rfl rfl rfl (lb rfl) (lb rfl) ⟨lb rfl, lb rfl⟩ ⟨lb rfl, lb rfl⟩ ?_
  refine A_eq rfl rfl (f' := dR (ur (ur (ur (u2 (ur (u2 (ur (u2 (ur (u2 (u2 (u2 f 1 0 (f 22 0)) 1 1 (f 22 1)) 14 0 (f 35 0)) 15 (cpR 48 (f 36) (f 15))) 16 0 (f 37 0)) 17 (cpR 48 (f 38) (f 17))) 18 0 (f 39 0)) 19 (cpR 48 (f 40) (f 19))) 20 0 (f 41 0)) 21 (cpR 48 (f 42) (f 21))) 6 (cpR 4 (f 27) (f 6))) 7 (cpR 4 (f 28) (f 7))) 1 (cpR 4 (f 24) (r4 (t 0))) (cpR 4 (f 25) (r4 (t 1))) (cpR 4 (f 26) (r4 (t 2))) (cpR 3 (f 30) (rO (t 3))) (r3 (t 4)) (rE t) (rW t) (rK l)) (by rw [gt_cpy, cpy_R, dR_o _ (d := 1) (a := 30) _ _ _ _ _ _ _ _ (by decide), show (9 : Nat) = 1 + 8 from rfl, dR_8, dR_u8]; simp [ur, u2, upd]) ?_
  refine A_aload_n dX1_copyFrom_128 rfl 2 rfl ?_
  refine A_getR (b := 31) dX1_copyFrom_129 fo_RX1_47 L22 rfl ?_
  refine A_iconst (v := 0) dX1_copyFrom_132 rfl ?_
  refine A_aload_n dX1_copyFrom_133 rfl 1 rfl ?_
  refine A_getR (b := 10) dX1_copyFrom_134 fo_RX1_47 L1 rfl ?_
  refine A_iconst (v := 0) dX1_copyFrom_137 rfl ?_
  refine A_iconst (v := 3) dX1_copyFrom_138 rfl ?_
  refine A_copy 0 0 3 dX1_copyFrom_139 lk_RX1_76 L31 L10 rfl rfl rfl (lb rfl) (lb rfl) ⟨lb rfl, lb rfl⟩ ⟨lb rfl, lb rfl⟩ ?_
  refine A_eq rfl rfl (f' := dR (ur (ur (ur (u2 (ur (u2 (ur (u2 (ur (u2 (u2 (u2 f 1 0 (f 22 0)) 1 1 (f 22 1)) 14 0 (f 35 0)) 15 (cpR 48 (f 36) (f 15))) 16 0 (f 37 0)) 17 (cpR 48 (f 38) (f 17))) 18 0 (f 39 0)) 19 (cpR 48 (f 40) (f 19))) 20 0 (f 41 0)) 21 (cpR 48 (f 42) (f 21))) 6 (cpR 4 (f 27) (f 6))) 7 (cpR 4 (f 28) (f 7))) 1 (cpR 4 (f 24) (r4 (t 0))) (cpR 4 (f 25) (r4 (t 1))) (cpR 4 (f 26) (r4 (t 2))) (cpR 3 (f 30) (rO (t 3))) (cpR 3 (f 31) (r3 (t 4))) (rE t) (rW t) (rK l)) (by rw [gt_cpy, cpy_R, dR_o _ (d := 1) (a := 31) _ _ _ _ _ _ _ _ (by decide), show (10 : Nat) = 1 + 9 from rfl, dR_9, dR_u9]; simp [ur, u2, upd]) ?_
  refine A_aload_n dX1_copyFrom_142 rfl 2 rfl ?_
  refine A_getR (b := 32) dX1_copyFrom_143 fo_RX1_50 L22 rfl ?_
  refine A_iconst (v := 0) dX1_copyFrom_146 rfl ?_
  refine A_aload_n dX1_copyFrom_147 rfl 1 rfl ?_
  refine A_getR (b := 11) dX1_copyFrom_148 fo_RX1_50 L1 rfl ?_
  refine A_iconst (v := 0) dX1_copyFrom_151 rfl ?_
  refine A_iconst (v := 3) dX1_copyFrom_152 rfl ?_
  refine A_copy 0 0 3 dX1_copyFrom_153 lk_RX1_76 L32 L11 rfl rfl rfl (lb rfl) (lb rfl) ⟨lb rfl, lb rfl⟩ ⟨lb rfl, lb rfl⟩ ?_
  refine A_eq rfl rfl (f' := dR (ur (ur (ur (u2 (ur (u2 (ur (u2 (ur (u2 (u2 (u2 f 1 0 (f 22 0)) 1 1 (f 22 1)) 14 0 (f 35 0)) 15 (cpR 48 (f 36) (f 15))) 16 0 (f 37 0)) 17 (cpR 48 (f 38) (f 17))) 18 0 (f 39 0)) 19 (cpR 48 (f 40) (f 19))) 20 0 (f 41 0)) 21 (cpR 48 (f 42) (f 21))) 6 (cpR 4 (f 27) (f 6))) 7 (cpR 4 (f 28) (f 7))) 1 (cpR 4 (f 24) (r4 (t 0))) (cpR 4 (f 25) (r4 (t 1))) (cpR 4 (f 26) (r4 (t 2))) (cpR 3 (f 30) (rO (t 3))) (cpR 3 (f 31) (r3 (t 4))) (cpR 3 (f 32) (rE t)) (rW t) (rK l)) (by rw [gt_cpy, cpy_R, dR_o _ (d := 1) (a := 32) _ _ _ _ _ _ _ _ (by decide), show (11 : Nat) = 1 + 10 from rfl, dR_10, dR_u10]; simp [ur, u2, upd]) ?_
  refine A_aload_n dX1_copyFrom_156 rfl 2 rfl ?_
  refine A_getR (b := 33) dX1_copyFrom_157 fo_RX1_53 L22 rfl ?_
  refine A_iconst (v := 0) dX1_copyFrom_160 rfl ?_
  refine A_aload_n dX1_copyFrom_161 rfl 1 rfl ?_
  refine A_getR (b := 12) dX1_copyFrom_162 fo_RX1_53 L1 rfl ?_
  refine A_iconst (v := 0) dX1_copyFrom_165 rfl ?_
  refine A_iconst (v := 3) dX1_copyFrom_166 rfl ?_
  refine A_copy 0 0 3 dX1_copyFrom_167 lk_RX1_76 L33 L12 rfl rfl rfl (lb rfl) (lb rfl) ⟨lb rfl, lb rfl⟩ ⟨lb rfl, lb rfl⟩ ?_
  refine A_eq rfl rfl (f' := dR (ur (ur (ur (u2 (ur (u2 (ur (u2 (ur (u2 (u2 (u2 f 1 0 (f 22 0)) 1 1 (f 22 1)) 14 0 (f 35 0)) 15 (cpR 48 (f 36) (f 15))) 16 0 (f 37 0)) 17 (cpR 48 (f 38) (f 17))) 18 0 (f 39 0)) 19 (cpR 48 (f 40) (f 19))) 20 0 (f 41 0)) 21 (cpR 48 (f 42) (f 21))) 6 (cpR 4 (f 27) (f 6))) 7 (cpR 4 (f 28) (f 7))) 1 (cpR 4 (f 24) (r4 (t 0))) (cpR 4 (f 25) (r4 (t 1))) (cpR 4 (f 26) (r4 (t 2))) (cpR 3 (f 30) (rO (t 3))) (cpR 3 (f 31) (r3 (t 4))) (cpR 3 (f 32) (rE t)) (cpR 3 (f 33) (rW t)) (rK l)) (by rw [gt_cpy, cpy_R, dR_o _ (d := 1) (a := 33) _ _ _ _ _ _ _ _ (by decide), show (12 : Nat) = 1 + 11 from rfl, dR_11, dR_u11]; simp [ur, u2, upd]) ?_
  refine A_aload_n dX1_copyFrom_170 rfl 2 rfl ?_
  refine A_getR (b := 34) dX1_copyFrom_171 fo_RX1_56 L22 rfl ?_
  refine A_iconst (v := 0) dX1_copyFrom_174 rfl ?_
  refine A_aload_n dX1_copyFrom_175 rfl 1 rfl ?_
  refine A_getR (b := 13) dX1_copyFrom_176 fo_RX1_56 L1 rfl ?_
  refine A_iconst (v := 0) dX1_copyFrom_179 rfl ?_
  refine A_iconst (v := 4) dX1_copyFrom_180 rfl ?_
  refine A_copy 0 0 4 dX1_copyFrom_181 lk_RX1_76 L34 L13 rfl rfl rfl (lb rfl) (lb rfl) ⟨lb rfl, lb rfl⟩ ⟨lb rfl, lb rfl⟩ ?_
  refine A_eq rfl rfl (f' := dR (ur (ur (ur (u2 (ur (u2 (ur (u2 (ur (u2 (u2 (u2 f 1 0 (f 22 0)) 1 1 (f 22 1)) 14 0 (f 35 0)) 15 (cpR 48 (f 36) (f 15))) 16 0 (f 37 0)) 17 (cpR 48 (f 38) (f 17))) 18 0 (f 39 0)) 19 (cpR 48 (f 40) (f 19))) 20 0 (f 41 0)) 21 (cpR 48 (f 42) (f 21))) 6 (cpR 4 (f 27) (f 6))) 7 (cpR 4 (f 28) (f 7))) 1 (cpR 4 (f 24) (r4 (t 0))) (cpR 4 (f 25) (r4 (t 1))) (cpR 4 (f 26) (r4 (t 2))) (cpR 3 (f 30) (rO (t 3))) (cpR 3 (f 31) (r3 (t 4))) (cpR 3 (f 32) (rE t)) (cpR 3 (f 33) (rW t)) (cpR 4 (f 34) (rK l))) (by rw [gt_cpy, cpy_R, dR_o _ (d := 1) (a := 34) _ _ _ _ _ _ _ _ (by decide), show (13 : Nat) = 1 + 12 from rfl, dR_12, dR_u12]; simp [ur, u2, upd]) ?_
  refine A_iconst (v := 0) dX1_copyFrom_184 rfl ?_
  refine A_istore_n (lv' := [(2, .int 0), (0, .ref 1), (1, .ref 22)]) dX1_copyFrom_185 rfl (lb rfl) rfl ?_
  refine A_iload_n dX1_copyFrom_186 rfl 0 rfl ?_
  refine A_iconst (v := 3) dX1_copyFrom_187 rfl ?_
  refine A_icmp_ge (tgt := 209) dX1_copyFrom_188 rfl (fun h188 => absurd h188 (by decide)) (fun h188 => ?_)
  refine A_aload_n dX1_copyFrom_191 rfl 1 rfl ?_
  refine A_getR (b := 8) dX1_copyFrom_192 fo_RX1_40 L1 rfl ?_
  refine A_iload_n dX1_copyFrom_195 rfl 0 rfl ?_
  refine A_aload_n dX1_copyFrom_196 rfl 2 rfl ?_
  refine A_getR (b := 29) dX1_copyFrom_197 fo_RX1_40 L22 rfl ?_
  refine A_iload_n dX1_copyFrom_200 rfl 0 rfl ?_
  refine A_zaload 0 dX1_copyFrom_201 L29 (rfl) (by decide) (lb rfl) ?_
  refine A_topi (f 29 0) (by rw [dR_o _ _ _ _ _ _ _ _ _ (by omega)] <;> simp [ur, u2, upd]) ?_
  refine A_zastore 0 dX1_copyFrom_202 L8 (rfl) (by decide) (lb rfl) (h01 0 (by decide)) ?_
  refine A_eq rfl rfl (f' := dR (u2 (ur (ur (ur (u2 (ur (u2 (ur (u2 (ur (u2 (u2 (u2 f 1 0 (f 22 0)) 1 1 (f 22 1)) 14 0 (f 35 0)) 15 (cpR 48 (f 36) (f 15))) 16 0 (f 37 0)) 17 (cpR 48 (f 38) (f 17))) 18 0 (f 39 0)) 19 (cpR 48 (f 40) (f 19))) 20 0 (f 41 0)) 21 (cpR 48 (f 42) (f 21))) 6 (cpR 4 (f 27) (f 6))) 7 (cpR 4 (f 28) (f 7))) 8 0 (f 29 0)) 1 (cpR 4 (f 24) (r4 (t 0))) (cpR 4 (f 25) (r4 (t 1))) (cpR 4 (f 26) (r4 (t 2))) (cpR 3 (f 30) (rO (t 3))) (cpR 3 (f 31) (r3 (t 4))) (cpR 3 (f 32) (rE t)) (cpR 3 (f 33) (rW t)) (cpR 4 (f 34) (rK l))) (by rw [u2, dR_o _ _ _ _ _ _ _ _ _ (by omega), dR_uo _ _ _ _ _ _ _ _ _ _ (by omega)]; rfl) ?_
  refine A_iinc (lv' := [(2, .int 1), (0, .ref 1), (1, .ref 22)]) dX1_copyFrom_203 0 rfl rfl (lb rfl) rfl ?_
  refine A_goto (tgt := 186) dX1_copyFrom_206 rfl ?_
  refine A_iload_n dX1_copyFrom_186 rfl 0 rfl ?_
  refine A_iconst (v := 3) dX1_copyFrom_187 rfl ?_
  refine A_icmp_ge (tgt := 209) dX1_copyFrom_188 rfl (fun h188 => absurd h188 (by decide)) (fun h188 => ?_)
  refine A_aload_n dX1_copyFrom_191 rfl 1 rfl ?_
  refine A_getR (b := 8) dX1_copyFrom_192 fo_RX1_40 L1 rfl ?_
  refine A_iload_n dX1_copyFrom_195 rfl 0 rfl ?_
  refine A_aload_n dX1_copyFrom_196 rfl 2 rfl ?_
  refine A_getR (b := 29) dX1_copyFrom_197 fo_RX1_40 L22 rfl ?_
  refine A_iload_n dX1_copyFrom_200 rfl 0 rfl ?_
  refine A_zaload 1 dX1_copyFrom_201 L29 (rfl) (by decide) (lb rfl) ?_
  refine A_topi (f 29 1) (by rw [dR_o _ _ _ _ _ _ _ _ _ (by omega)] <;> simp [ur, u2, upd]) ?_
  refine A_zastore 1 dX1_copyFrom_202 L8 (rfl) (by decide) (lb rfl) (h01 1 (by decide)) ?_
  refine A_eq rfl rfl (f' := dR (u2 (u2 (ur (ur (ur (u2 (ur (u2 (ur (u2 (ur (u2 (u2 (u2 f 1 0 (f 22 0)) 1 1 (f 22 1)) 14 0 (f 35 0)) 15 (cpR 48 (f 36) (f 15))) 16 0 (f 37 0)) 17 (cpR 48 (f 38) (f 17))) 18 0 (f 39 0)) 19 (cpR 48 (f 40) (f 19))) 20 0 (f 41 0)) 21 (cpR 48 (f 42) (f 21))) 6 (cpR 4 (f 27) (f 6))) 7 (cpR 4 (f 28) (f 7))) 8 0 (f 29 0)) 8 1 (f 29 1)) 1 (cpR 4 (f 24) (r4 (t 0))) (cpR 4 (f 25) (r4 (t 1))) (cpR 4 (f 26) (r4 (t 2))) (cpR 3 (f 30) (rO (t 3))) (cpR 3 (f 31) (r3 (t 4))) (cpR 3 (f 32) (rE t)) (cpR 3 (f 33) (rW t)) (cpR 4 (f 34) (rK l))) (by rw [u2, dR_o _ _ _ _ _ _ _ _ _ (by omega), dR_uo _ _ _ _ _ _ _ _ _ _ (by omega)]; rfl) ?_
  refine A_iinc (lv' := [(2, .int 2), (0, .ref 1), (1, .ref 22)]) dX1_copyFrom_203 0 rfl rfl (lb rfl) rfl ?_
  refine A_goto (tgt := 186) dX1_copyFrom_206 rfl ?_
  refine A_iload_n dX1_copyFrom_186 rfl 0 rfl ?_
  refine A_iconst (v := 3) dX1_copyFrom_187 rfl ?_
  refine A_icmp_ge (tgt := 209) dX1_copyFrom_188 rfl (fun h188 => absurd h188 (by decide)) (fun h188 => ?_)
  refine A_aload_n dX1_copyFrom_191 rfl 1 rfl ?_
  refine A_getR (b := 8) dX1_copyFrom_192 fo_RX1_40 L1 rfl ?_
  refine A_iload_n dX1_copyFrom_195 rfl 0 rfl ?_
  refine A_aload_n dX1_copyFrom_196 rfl 2 rfl ?_
  refine A_getR (b := 29) dX1_copyFrom_197 fo_RX1_40 L22 rfl ?_
  refine A_iload_n dX1_copyFrom_200 rfl 0 rfl ?_
  refine A_zaload 2 dX1_copyFrom_201 L29 (rfl) (by decide) (lb rfl) ?_
  refine A_topi (f 29 2) (by rw [dR_o _ _ _ _ _ _ _ _ _ (by omega)] <;> simp [ur, u2, upd]) ?_
  refine A_zastore 2 dX1_copyFrom_202 L8 (rfl) (by decide) (lb rfl) (h01 2 (by decide)) ?_
  refine A_eq rfl rfl (f' := dR (u2 (u2 (u2 (ur (ur (ur (u2 (ur (u2 (ur (u2 (ur (u2 (u2 (u2 f 1 0 (f 22 0)) 1 1 (f 22 1)) 14 0 (f 35 0)) 15 (cpR 48 (f 36) (f 15))) 16 0 (f 37 0)) 17 (cpR 48 (f 38) (f 17))) 18 0 (f 39 0)) 19 (cpR 48 (f 40) (f 19))) 20 0 (f 41 0)) 21 (cpR 48 (f 42) (f 21))) 6 (cpR 4 (f 27) (f 6))) 7 (cpR 4 (f 28) (f 7))) 8 0 (f 29 0)) 8 1 (f 29 1)) 8 2 (f 29 2)) 1 (cpR 4 (f 24) (r4 (t 0))) (cpR 4 (f 25) (r4 (t 1))) (cpR 4 (f 26) (r4 (t 2))) (cpR 3 (f 30) (rO (t 3))) (cpR 3 (f 31) (r3 (t 4))) (cpR 3 (f 32) (rE t)) (cpR 3 (f 33) (rW t)) (cpR 4 (f 34) (rK l))) (by rw [u2, dR_o _ _ _ _ _ _ _ _ _ (by omega), dR_uo _ _ _ _ _ _ _ _ _ _ (by omega)]; rfl) ?_
  refine A_iinc (lv' := [(2, .int 3), (0, .ref 1), (1, .ref 22)]) dX1_copyFrom_203 0 rfl rfl (lb rfl) rfl ?_
  refine A_goto (tgt := 186) dX1_copyFrom_206 rfl ?_
  refine A_iload_n dX1_copyFrom_186 rfl 0 rfl ?_
  refine A_iconst (v := 3) dX1_copyFrom_187 rfl ?_
  refine A_icmp_ge (tgt := 209) dX1_copyFrom_188 rfl (fun h188 => ?_) (fun h188 => absurd (by decide) h188)
  exact A_vret dX1_copyFrom_209 rfl (⟨rfl, by rw [dM, cpB1_22, g2, g3, g4, g8, g9, ga, gb, gc, cp_r4, cp_r4, cp_r4, cp_rO, cp_r3, cp_rE, cp_rW, cp_rK]⟩)
def cpB56_1 (f : Mem) : Mem := u2 (u2 (u2 (ur (ur (ur (u2 (ur (u2 (ur (u2 (ur (u2 (u2 (u2 f 56 0 (f 1 0)) 56 1 (f 1 1)) 69 0 (f 14 0)) 70 (cpR 48 (f 15) (f 70))) 71 0 (f 16 0)) 72 (cpR 48 (f 17) (f 72))) 73 0 (f 18 0)) 74 (cpR 48 (f 19) (f 74))) 75 0 (f 20 0)) 76 (cpR 48 (f 21) (f 76))) 61 (cpR 4 (f 6) (f 61))) 62 (cpR 4 (f 7) (f 62))) 63 0 (f 8 0)) 63 1 (f 8 1)) 63 2 (f 8 2)
theorem x_copy56_1 (f : Mem) (s t : Sg) (k l : Ro) (hs : dM f 1 s k = f) (h01 : ∀ m, m < 3 → f 8 m = 0 ∨ f 8 m = 1) : C0 MX1_copyFrom [.ref 56, .ref 1] (dM f 56 t l) (rt none (dM (cpB56_1 f) 56 s k)) := by
  have g2 : f 3 = r4 (s 0) := by rw [← hs, show (3 : Nat) = 1 + 2 from rfl, dM, dR_2]
  have g3 : f 4 = r4 (s 1) := by rw [← hs, show (4 : Nat) = 1 + 3 from rfl, dM, dR_3]
  have g4 : f 5 = r4 (s 2) := by rw [← hs, show (5 : Nat) = 1 + 4 from rfl, dM, dR_4]
  have g8 : f 9 = rO (s 3) := by rw [← hs, show (9 : Nat) = 1 + 8 from rfl, dM, dR_8]
  have g9 : f 10 = r3 (s 4) := by rw [← hs, show (10 : Nat) = 1 + 9 from rfl, dM, dR_9]
  have ga : f 11 = rE s := by rw [← hs, show (11 : Nat) = 1 + 10 from rfl, dM, dR_10]
  have gb : f 12 = rW s := by rw [← hs, show (12 : Nat) = 1 + 11 from rfl, dM, dR_11]
  have gc : f 13 = rK k := by rw [← hs, show (13 : Nat) = 1 + 12 from rfl, dM, dR_12]
  show C0 MX1_copyFrom [.ref 56, .ref 1] (dR f 56 (r4 (t 0)) (r4 (t 1)) (r4 (t 2)) (rO (t 3)) (r3 (t 4)) (rE t) (rW t) (rK l)) _
  refine Ct.of (lv := [(0, .ref 56), (1, .ref 1)]) (by decide) (lb rfl) rfl ?_
  refine A_aload_n dX1_copyFrom_0 rfl 0 rfl ?_
  refine A_aload_n dX1_copyFrom_1 rfl 1 rfl ?_
  refine A_getI dX1_copyFrom_2 fo_RX1_9 L1 rfl ?_
  refine A_topi (f 1 0) (by rw [dR_o _ _ _ _ _ _ _ _ _ (by omega)] <;> simp [ur, u2, upd]) ?_
  refine A_putI dX1_copyFrom_5 fo_RX1_9 L56 rfl ?_
  refine A_eq rfl rfl (f' := dR (u2 f 56 0 (f 1 0)) 56 (r4 (t 0)) (r4 (t 1)) (r4 (t 2)) (rO (t 3)) (r3 (t 4)) (rE t) (rW t) (rK l)) (by rw [u2, dR_o _ _ _ _ _ _ _ _ _ (by omega), dR_uo _ _ _ _ _ _ _ _ _ _ (by omega)]; rfl) ?_
  refine A_aload_n dX1_copyFrom_8 rfl 0 rfl ?_
  refine A_aload_n dX1_copyFrom_9 rfl 1 rfl ?_
  refine A_getI dX1_copyFrom_10 fo_RX1_15 L1 rfl ?_
  refine A_topi (f 1 1) (by rw [dR_o _ _ _ _ _ _ _ _ _ (by omega)] <;> simp [ur, u2, upd]) ?_
  refine A_putI dX1_copyFrom_13 fo_RX1_15 L56 rfl ?_
  refine A_eq rfl rfl (f' := dR (u2 (u2 f 56 0 (f 1 0)) 56 1 (f 1 1)) 56 (r4 (t 0)) (r4 (t 1)) (r4 (t 2)) (rO (t 3)) (r3 (t 4)) (rE t) (rW t) (rK l)) (by rw [u2, dR_o _ _ _ _ _ _ _ _ _ (by omega), dR_uo _ _ _ _ _ _ _ _ _ _ (by omega)]; rfl) ?_
  refine A_iconst (v := 0) dX1_copyFrom_16 rfl ?_
  refine A_istore_n (lv' := [(2, .int 0), (0, .ref 56), (1, .ref 1)]) dX1_copyFrom_17 rfl (lb rfl) rfl ?_
  refine A_iload_n dX1_copyFrom_18 rfl 0 rfl ?_
  refine A_iconst (v := 4) dX1_copyFrom_19 rfl ?_
  refine A_icmp_ge (tgt := 44) dX1_copyFrom_20 rfl (fun h20 => absurd h20 (by decide)) (fun h20 => ?_)
  refine A_aload_n dX1_copyFrom_23 rfl 1 rfl ?_
  refine A_getR (b := 57) dX1_copyFrom_24 fo_RX1_20 L56 rfl ?_
  refine A_iload_n dX1_copyFrom_27 rfl 0 rfl ?_
  refine A_aaload2 (b := 69) 0 dX1_copyFrom_28 L57 (rfl) (by decide) (lb rfl) (rfl) ?_
  refine A_aload_n dX1_copyFrom_29 rfl 2 rfl ?_
  refine A_getR (b := 2) dX1_copyFrom_30 fo_RX1_20 L1 rfl ?_
  refine A_iload_n dX1_copyFrom_33 rfl 0 rfl ?_
  refine A_aaload2 (b := 14) 0 dX1_copyFrom_34 L2 (rfl) (by decide) (lb rfl) (rfl) ?_
  refine A_callV (M' := MX3_copyFrom) [.ref 14] [] 69 dX1_copyFrom_35 lk_RX1_72 oX3_copyFrom iX3_copyFrom rfl rfl ⟨lb rfl, lb rfl⟩ (lb rfl) ⟨lb rfl, lb rfl⟩ L69 rfl (x_pcopy _ 69 14 ⟨rfl, rfl⟩ ⟨rfl, rfl⟩ (by decide)) ?_
  rintro _ _ ⟨rfl, rfl⟩
  refine A_eq rfl rfl (f' := dR (ur (u2 (u2 (u2 f 56 0 (f 1 0)) 56 1 (f 1 1)) 69 0 (f 14 0)) 70 (cpR 48 (f 15) (f 70))) 56 (r4 (t 0)) (r4 (t 1)) (r4 (t 2)) (rO (t 3)) (r3 (t 4)) (rE t) (rW t) (rK l)) (by rw [u2, dR_o (u2 (u2 f 56 0 (f 1 0)) 56 1 (f 1 1)) (r4 (t 0)) (r4 (t 1)) (r4 (t 2)) (rO (t 3)) (r3 (t 4)) (rE t) (rW t) (rK l) (show 69 < 56 + 2 ∨ (56 + 4 < 69 ∧ 69 < 56 + 8) ∨ 56 + 12 < 69 by decide), dR_o (u2 (u2 f 56 0 (f 1 0)) 56 1 (f 1 1)) (d := 56) (a := 14) _ _ _ _ _ _ _ _ (by decide), dR_o (u2 (u2 f 56 0 (f 1 0)) 56 1 (f 1 1)) (d := 56) (a := 15) _ _ _ _ _ _ _ _ (by decide), dR_o (u2 (u2 f 56 0 (f 1 0)) 56 1 (f 1 1)) (d := 56) (a := 70) _ _ _ _ _ _ _ _ (by decide), dR_uo _ _ _ _ _ _ _ _ _ _ (by decide), dR_uo _ _ _ _ _ _ _ _ _ _ (by decide)]; simp [ur, u2, upd]) ?_
  refine A_iinc (lv' := [(2, .int 1), (0, .ref 56), (1, .ref 1)]) dX1_copyFrom_38 0 rfl rfl (lb rfl) rfl ?_
  refine A_goto (tgt := 18) dX1_copyFrom_41 rfl ?_
  refine A_iload_n dX1_copyFrom_18 rfl 0 rfl ?_
  refine A_iconst (v := 4) dX1_copyFrom_19 rfl ?_
  refine A_icmp_ge (tgt := 44) dX1_copyFrom_20 rfl (fun h20 => absurd h20 (by decide)) (fun h20 => ?_)
  refine A_aload_n dX1_copyFrom_23 rfl 1 rfl ?_
  refine A_getR (b := 57) dX1_copyFrom_24 fo_RX1_20 L56 rfl ?_
  refine A_iload_n dX1_copyFrom_27 rfl 0 rfl ?_
  refine A_aaload2 (b := 71) 1 dX1_copyFrom_28 L57 (rfl) (by decide) (lb rfl) (rfl) ?_
  refine A_aload_n dX1_copyFrom_29 rfl 2 rfl ?_
  refine A_getR (b := 2) dX1_copyFrom_30 fo_RX1_20 L1 rfl ?_
  refine A_iload_n dX1_copyFrom_33 rfl 0 rfl ?_
  refine A_aaload2 (b := 16) 1 dX1_copyFrom_34 L2 (rfl) (by decide) (lb rfl) (rfl) ?_
  refine A_callV (M' := MX3_copyFrom) [.ref 16] [] 71 dX1_copyFrom_35 lk_RX1_72 oX3_copyFrom iX3_copyFrom rfl rfl ⟨lb rfl, lb rfl⟩ (lb rfl) ⟨lb rfl, lb rfl⟩ L71 rfl (x_pcopy _ 71 16 ⟨rfl, rfl⟩ ⟨rfl, rfl⟩ (by decide)) ?_
  rintro _ _ ⟨rfl, rfl⟩
  refine A_eq rfl rfl (f' := dR (ur (u2 (ur (u2 (u2 (u2 f 56 0 (f 1 0)) 56 1 (f 1 1)) 69 0 (f 14 0)) 70 (cpR 48 (f 15) (f 70))) 71 0 (f 16 0)) 72 (cpR 48 (f 17) (f 72))) 56 (r4 (t 0)) (r4 (t 1)) (r4 (t 2)) (rO (t 3)) (r3 (t 4)) (rE t) (rW t) (rK l)) (by rw [u2, dR_o (ur (u2 (u2 (u2 f 56 0 (f 1 0)) 56 1 (f 1 1)) 69 0 (f 14 0)) 70 (cpR 48 (f 15) (f 70))) (r4 (t 0)) (r4 (t 1)) (r4 (t 2)) (rO (t 3)) (r3 (t 4)) (rE t) (rW t) (rK l) (show 71 < 56 + 2 ∨ (56 + 4 < 71 ∧ 71 < 56 + 8) ∨ 56 + 12 < 71 by decide), dR_o (ur (u2 (u2 (u2 f 56 0 (f 1 0)) 56 1 (f 1 1)) 69 0 (f 14 0)) 70 (cpR 48 (f 15) (f 70))) (d := 56) (a := 16) _ _ _ _ _ _ _ _ (by decide), dR_o (ur (u2 (u2 (u2 f 56 0 (f 1 0)) 56 1 (f 1 1)) 69 0 (f 14 0)) 70 (cpR 48 (f 15) (f 70))) (d := 56) (a := 17) _ _ _ _ _ _ _ _ (by decide), dR_o (ur (u2 (u2 (u2 f 56 0 (f 1 0)) 56 1 (f 1 1)) 69 0 (f 14 0)) 70 (cpR 48 (f 15) (f 70))) (d := 56) (a := 72) _ _ _ _ _ _ _ _ (by decide), dR_uo _ _ _ _ _ _ _ _ _ _ (by decide), dR_uo _ _ _ _ _ _ _ _ _ _ (by decide)]; simp [ur, u2, upd]) ?_
  refine A_iinc (lv' := [(2, .int 2), (0, .ref 56), (1, .ref 1)]) dX1_copyFrom_38 0 rfl rfl (lb rfl) rfl ?_
  refine A_goto (tgt := 18) dX1_copyFrom_41 rfl ?_
  refine A_iload_n dX1_copyFrom_18 rfl 0 rfl ?_
  refine A_iconst (v := 4) dX1_copyFrom_19 rfl ?_
  refine A_icmp_ge (tgt := 44) dX1_copyFrom_20 rfl (fun h20 => absurd h20 (by decide)) (fun h20 => ?_)
  refine A_aload_n dX1_copyFrom_23 rfl 1 rfl ?_
  refine A_getR (b := 57) dX1_copyFrom_24 fo_RX1_20 L56 rfl ?_
  refine A_iload_n dX1_copyFrom_27 rfl 0 rfl ?_
  refine A_aaload2 (b := 73) 2 dX1_copyFrom_28 L57 (rfl) (by decide) (lb rfl) (rfl) ?_
  refine A_aload_n dX1_copyFrom_29 rfl 2 rfl ?_
  refine A_getR (b := 2) dX1_copyFrom_30 fo_RX1_20 L1 rfl ?_
  refine A_iload_n dX1_copyFrom_33 rfl 0 rfl ?_
  refine A_aaload2 (b := 18) 2 dX1_copyFrom_34 L2 (rfl) (by decide) (lb rfl) (rfl) ?_
  refine A_callV (M' := MX3_copyFrom) [.ref 18] [] 73 dX1_copyFrom_35 lk_RX1_72 oX3_copyFrom iX3_copyFrom rfl rfl ⟨lb rfl, lb rfl⟩ (lb rfl) ⟨lb rfl, lb rfl⟩ L73 rfl (x_pcopy _ 73 18 ⟨rfl, rfl⟩ ⟨rfl, rfl⟩ (by decide)) ?_
  rintro _ _ ⟨rfl, rfl⟩
  refine A_eq rfl rfl (f' := dR (ur (u2 (ur (u2 (ur (u2 (u2 (u2 f 56 0 (f 1 0)) 56 1 (f 1 1)) 69 0 (f 14 0)) 70 (cpR 48 (f 15) (f 70))) 71 0 (f 16 0)) 72 (cpR 48 (f 17) (f 72))) 73 0 (f 18 0)) 74 (cpR 48 (f 19) (f 74))) 56 (r4 (t 0)) (r4 (t 1)) (r4 (t 2)) (rO (t 3)) (r3 (t 4)) (rE t) (rW t) (rK l)) (by rw [u2, dR_o (ur (u2 (ur (u2 (u2 (u2 f 56 0 (f 1 0)) 56 1 (f 1 1)) 69 0 (f 14 0)) 70 (cpR 48 (f 15) (f 70))) 71 0 (f 16 0)) 72 (cpR 48 (f 17) (f 72))) (r4 (t 0)) (r4 (t 1)) (r4 (t 2)) (rO (t 3)) (r3 (t 4)) (rE t) (rW t) (rK l) (show 73 < 56 + 2 ∨ (56 + 4 < 73 ∧ 73 < 56 + 8) ∨ 56 + 12 < 73 by decide), dR_o (ur (u2 (ur (u2 (u2 (u2 f 56 0 (f 1 0)) 56 1 (f 1 1)) 69 0 (f 14 0)) 70 (cpR 48 (f 15) (f 70))) 71 0 (f 16 0)) 72 (cpR 48 (f 17) (f 72))) (d := 56) (a := 18) _ _ _ _ _ _ _ _ (by decide), dR_o (ur (u2 (ur (u2 (u2 (u2 f 56 0 (f 1 0)) 56 1 (f 1 1)) 69 0 (f 14 0)) 70 (cpR 48 (f 15) (f 70))) 71 0 (f 16 0)) 72 (cpR 48 (f 17) (f 72))) (d := 56) (a := 19) _ _ _ _ _ _ _ _ (by decide), dR_o (ur (u2 (ur (u2 (u2 (u2 f 56 0 (f 1 0)) 56 1 (f 1 1)) 69 0 (f 14 0)) 70 (cpR 48 (f 15) (f 70))) 71 0 (f 16 0)) 72 (cpR 48 (f 17) (f 72))) (d := 56) (a := 74) _ _ _ _ _ _ _ _ (by decide), dR_uo _ _ _ _ _ _ _ _ _ _ (by decide), dR_uo _ _ _ _ _ _ _ _ _ _ (by decide)]; simp [ur, u2, upd]) ?_
  refine A_iinc (lv' := [(2, .int 3), (0, .ref 56), (1, .ref 1)]) dX1_copyFrom_38 0 rfl rfl (lb rfl) rfl ?_
  refine A_goto (tgt := 18) dX1_copyFrom_41 rfl ?_
  refine A_iload_n dX1_copyFrom_18 rfl 0 rfl ?_
  refine A_iconst (v := 4) dX1_copyFrom_19 rfl ?_
  refine A_icmp_ge (tgt := 44) dX1_copyFrom_20 rfl (fun h20 => absurd h20 (by decide)) (fun h20 => ?_)
  refine A_aload_n dX1_copyFrom_23 rfl 1 rfl ?_
  refine A_getR (b := 57) dX1_copyFrom_24 fo_RX1_20 L56 rfl ?_
  refine A_iload_n dX1_copyFrom_27 rfl 0 rfl ?_
  refine A_aaload2 (b := 75) 3 dX1_copyFrom_28 L57 (rfl) (by decide) (lb rfl) (rfl) ?_
  refine A_aload_n dX1_copyFrom_29 rfl 2 rfl ?_
  refine A_getR (b := 2) dX1_copyFrom_30 fo_RX1_20 L1 rfl ?_
  refine A_iload_n dX1_copyFrom_33 rfl 0 rfl ?_
  refine A_aaload2 (b := 20) 3 dX1_copyFrom_34 L2 (rfl) (by decide) (lb rfl) (rfl) ?_
  refine A_callV (M' := MX3_copyFrom) [.ref 20] [] 75 dX1_copyFrom_35 lk_RX1_72 oX3_copyFrom iX3_copyFrom rfl rfl ⟨lb rfl, lb rfl⟩ (lb rfl) ⟨lb rfl, lb rfl⟩ L75 rfl (x_pcopy _ 75 20 ⟨rfl, rfl⟩ ⟨rfl, rfl⟩ (by decide)) ?_
  rintro _ _ ⟨rfl, rfl⟩
  refine A_eq rfl rfl (f' := dR (ur (u2 (ur (u2 (ur (u2 (ur (u2 (u2 (u2 f 56 0 (f 1 0)) 56 1 (f 1 1)) 69 0 (f 14 0)) 70 (cpR 48 (f 15) (f 70))) 71 0 (f 16 0)) 72 (cpR 48 (f 17) (f 72))) 73 0 (f 18 0)) 74 (cpR 48 (f 19) (f 74))) 75 0 (f 20 0)) 76 (cpR 48 (f 21) (f 76))) 56 (r4 (t 0)) (r4 (t 1)) (r4 (t 2)) (rO (t 3)) (r3 (t 4)) (rE t) (rW t) (rK l)) (by rw [u2, dR_o (ur (u2 (ur (u2 (ur (u2 (u2 (u2 f 56 0 (f 1 0)) 56 1 (f 1 1)) 69 0 (f 14 0)) 70 (cpR 48 (f 15) (f 70))) 71 0 (f 16 0)) 72 (cpR 48 (f 17) (f 72))) 73 0 (f 18 0)) 74 (cpR 48 (f 19) (f 74))) (r4 (t 0)) (r4 (t 1)) (r4 (t 2)) (rO (t 3)) (r3 (t 4)) (rE t) (rW t) (rK l) (show 75 < 56 + 2 ∨ (56 + 4 < 75 ∧ 75 < 56 + 8) ∨ 56 + 12 < 75 by decide), dR_o (ur (u2 (ur (u2 (ur (u2 (u2 (u2 f 56 0 (f 1 0)) 56 1 (f 1 1)) 69 0 (f 14 0)) 70 (cpR 48 (f 15) (f 70))) 71 0 (f 16 0)) 72 (cpR 48 (f 17) (f 72))) 73 0 (f 18 0)) 74 (cpR 48 (f 19) (f 74))) (d := 56) (a := 20) _ _ _ _ _ _ _ _ (by decide), dR_o (ur (u2 (ur (u2 (ur (u2 (u2 (u2 f 56 0 (f 1 0)) 56 1 (f 1 1)) 69 0 (f 14 0)) 70 (cpR 48 (f 15) (f 70))) 71 0 (f 16 0)) 72 (cpR 48 (f 17) (f 72))) 73 0 (f 18 0)) 74 (cpR 48 (f 19) (f 74))) (d := 56) (a := 21) _ _ _ _ _ _ _ _ (by decide), dR_o (ur (u2 (ur (u2 (ur (u2 (u2 (u2 f 56 0 (f 1 0)) 56 1 (f 1 1)) 69 0 (f 14 0)) 70 (cpR 48 (f 15) (f 70))) 71 0 (f 16 0)) 72 (cpR 48 (f 17) (f 72))) 73 0 (f 18 0)) 74 (cpR 48 (f 19) (f 74))) (d := 56) (a := 76) _ _ _ _ _ _ _ _ (by decide), dR_uo _ _ _ _ _ _ _ _ _ _ (by decide), dR_uo _ _ _ _ _ _ _ _ _ _ (by decide)]; simp [ur, u2, upd]) ?_
  refine A_iinc (lv' := [(2, .int 4), (0, .ref 56), (1, .ref 1)]) dX1_copyFrom_38 0 rfl rfl (lb rfl) rfl ?_
  refine A_goto (tgt := 18) dX1_copyFrom_41 rfl ?_
  refine A_iload_n dX1_copyFrom_18 rfl 0 rfl ?_
  refine A_iconst (v := 4) dX1_copyFrom_19 rfl ?_
  refine A_icmp_ge (tgt := 44) dX1_copyFrom_20 rfl (fun h20 => ?_) (fun h20 => absurd (by decide) h20)
  refine A_aload_n dX1_copyFrom_44 rfl 2 rfl ?_
  refine A_getR (b := 3) dX1_copyFrom_45 fo_RX1_24 L1 rfl ?_
  refine A_iconst (v := 0) dX1_copyFrom_48 rfl ?_
  refine A_aload_n dX1_copyFrom_49 rfl 1 rfl ?_
  refine A_getR (b := 58) dX1_copyFrom_50 fo_RX1_24 L56 rfl ?_
  refine A_iconst (v := 0) dX1_copyFrom_53 rfl ?_
  refine A_iconst (v := 4) dX1_copyFrom_54 rfl ?_
  refine A_copy 0 0 4 dX1_copyFrom_55 lk_RX1_76 L3 L58 rfl rfl rfl (lb rfl) (lb rfl) ⟨lb rfl, lb rfl⟩ ⟨lb rfl, lb rfl⟩ ?_
  refine A_eq rfl rfl (f' := dR (ur (u2 (ur (u2 (ur (u2 (ur (u2 (u2 (u2 f 56 0 (f 1 0)) 56 1 (f 1 1)) 69 0 (f 14 0)) 70 (cpR 48 (f 15) (f 70))) 71 0 (f 16 0)) 72 (cpR 48 (f 17) (f 72))) 73 0 (f 18 0)) 74 (cpR 48 (f 19) (f 74))) 75 0 (f 20 0)) 76 (cpR 48 (f 21) (f 76))) 56 (cpR 4 (f 3) (r4 (t 0))) (r4 (t 1)) (r4 (t 2)) (rO (t 3)) (r3 (t 4)) (rE t) (rW t) (rK l)) (by rw [gt_cpy, cpy_R, dR_o _ (d := 56) (a := 3) _ _ _ _ _ _ _ _ (by decide), show (58 : Nat) = 56 + 2 from rfl, dR_2, dR_u2]; simp [ur, u2, upd]) ?_
  refine A_aload_n dX1_copyFrom_58 rfl 2 rfl ?_
  refine A_getR (b := 4) dX1_copyFrom_59 fo_RX1_28 L1 rfl ?_
  refine A_iconst (v := 0) dX1_copyFrom_62 rfl ?_
  refine A_aload_n dX1_copyFrom_63 rfl 1 rfl ?_
  refine A_getR (b := 59) dX1_copyFrom_64 fo_RX1_28 L56 rfl ?_
  refine A_iconst (v := 0) dX1_copyFrom_67 rfl ?_
  refine A_iconst (v := 4) dX1_copyFrom_68 rfl ?_
  refine A_copy 0 0 4 dX1_copyFrom_69 lk_RX1_76 L4 L59 rfl rfl rfl (lb rfl) (lb rfl) ⟨lb rfl, lb rfl⟩ ⟨lb rfl, lb rfl⟩ ?_
  refine A_eq rfl rfl (f' := dR (ur (u2 (ur (u2 (ur (u2 (ur (u2 (u2 (u2 f 56 0 (f 1 0)) 56 1 (f 1 1)) 69 0 (f 14 0)) 70 (cpR 48 (f 15) (f 70))) 71 0 (f 16 0)) 72 (cpR 48 (f 17) (f 72))) 73 0 (f 18 0)) 74 (cpR 48 (f 19) (f 74))) 75 0 (f 20 0)) 76 (cpR 48 (f 21) (f 76))) 56 (cpR 4 (f 3) (r4 (t 0))) (cpR 4 (f 4) (r4 (t 1))) (r4 (t 2)) (rO (t 3)) (r3 (t 4)) (rE t) (rW t) (rK l)) (by rw [gt_cpy, cpy_R, dR_o _ (d := 56) (a := 4) _ _ _ _ _ _ _ _ (by decide), show (59 : Nat) = 56 + 3 from rfl, dR_3, dR_u3]; simp [ur, u2, upd]) ?_
  refine A_aload_n dX1_copyFrom_72 rfl 2 rfl ?_
  refine A_getR (b := 5) dX1_copyFrom_73 fo_RX1_31 L1 rfl ?_
  refine A_iconst (v := 0) dX1_copyFrom_76 rfl ?_
  refine A_aload_n dX1_copyFrom_77 rfl 1 rfl ?_
  refine A_getR (b := 60) dX1_copyFrom_78 fo_RX1_31 L56 rfl ?_
  refine A_iconst (v := 0) dX1_copyFrom_81 rfl ?_
  refine A_iconst (v := 4) dX1_copyFrom_82 rfl ?_
  refine A_copy 0 0 4 dX1_copyFrom_83 lk_RX1_76 L5 L60 rfl rfl rfl (lb rfl) (lb rfl) ⟨lb rfl, lb rfl⟩ ⟨lb rfl, lb rfl⟩ ?_
  refine A_eq rfl rfl (f' := dR (ur (u2 (ur (u2 (ur (u2 (ur (u2 (u2 (u2 f 56 0 (f 1 0)) 56 1 (f 1 1)) 69 0 (f 14 0)) 70 (cpR 48 (f 15) (f 70))) 71 0 (f 16 0)) 72 (cpR 48 (f 17) (f 72))) 73 0 (f 18 0)) 74 (cpR 48 (f 19) (f 74))) 75 0 (f 20 0)) 76 (cpR 48 (f 21) (f 76))) 56 (cpR 4 (f 3) (r4 (t 0))) (cpR 4 (f 4) (r4 (t 1))) (cpR 4 (f 5) (r4 (t 2))) (rO (t 3)) (r3 (t 4)) (rE t) (rW t) (rK l)) (by rw [gt_cpy, cpy_R, dR_o _ (d := 56) (a := 5) _ _ _ _ _ _ _ _ (by decide), show (60 : Nat) = 56 + 4 from rfl, dR_4, dR_u4]; simp [ur, u2, upd]) ?_
  refine A_aload_n dX1_copyFrom_86 rfl 2 rfl ?_
  refine A_getR (b := 6) dX1_copyFrom_87 fo_RX1_34 L1 rfl ?_
  refine A_iconst (v := 0) dX1_copyFrom_90 rfl ?_
  refine A_aload_n dX1_copyFrom_91 rfl 1 rfl ?_
  refine A_getR (b := 61) dX1_copyFrom_92 fo_RX1_34 L56 rfl ?_
  refine A_iconst (v := 0) dX1_copyFrom_95 rfl ?_
  refine A_iconst (v := 4) dX1_copyFrom_96 rfl ?_
  refine A_copy 0 0 4 dX1_copyFrom_97 lk_RX1_76 L6 L61 rfl rfl rfl (lb rfl) (lb rfl) ⟨lb rfl, lb rfl⟩ ⟨lb rfl, lb rfl⟩ ?_
  refine A_eq rfl rfl (f' := dR (ur (ur (u2 (ur (u2 (ur (u2 (ur (u2 (u2 (u2 f 56 0 (f 1 0)) 56 1 (f 1 1)) 69 0 (f 14 0)) 70 (cpR 48 (f 15) (f 70))) 71 0 (f 16 0)) 72 (cpR 48 (f 17) (f 72))) 73 0 (f 18 0)) 74 (cpR 48 (f 19) (f 74))) 75 0 (f 20 0)) 76 (cpR 48 (f 21) (f 76))) 61 (cpR 4 (f 6) (f 61))) 56 (cpR 4 (f 3) (r4 (t 0))) (cpR 4 (f 4) (r4 (t 1))) (cpR 4 (f 5) (r4 (t 2))) (rO (t 3)) (r3 (t 4)) (rE t) (rW t) (rK l)) (by rw [gt_cpy, cpy_R, dR_o _ (d := 56) (a := 6) _ _ _ _ _ _ _ _ (by decide), dR_o _ (d := 56) (a := 61) _ _ _ _ _ _ _ _ (by decide), dR_uo _ _ _ _ _ _ _ _ _ _ (by decide)]; simp [ur, u2, upd]) ?_
  refine A_aload_n dX1_copyFrom_100 rfl 2 rfl ?_
  refine A_getR (b := 7) dX1_copyFrom_101 fo_RX1_37 L1 rfl ?_
  refine A_iconst (v := 0) dX1_copyFrom_104 rfl ?_
  refine A_aload_n dX1_copyFrom_105 rfl 1 rfl ?_
  refine A_getR (b := 62) dX1_copyFrom_106 fo_RX1_37 L56 rfl ?_
  refine A_iconst (v := 0) dX1_copyFrom_109 rfl ?_
  refine A_iconst (v := 4) dX1_copyFrom_110 rfl ?_
  refine A_copy 0 0 4 dX1_copyFrom_111 lk_RX1_76 L7 L62 rfl rfl rfl (lb rfl) (lb rfl) ⟨lb rfl, lb rfl⟩ ⟨lb rfl, lb rfl⟩ ?_
  refine A_eq rfl rfl (f' := dR (ur (ur (ur (u2 (ur (u2 (ur (u2 (ur (u2 (u2 (u2 f 56 0 (f 1 0)) 56 1 (f 1 1)) 69 0 (f 14 0)) 70 (cpR 48 (f 15) (f 70))) 71 0 (f 16 0)) 72 (cpR 48 (f 17) (f 72))) 73 0 (f 18 0)) 74 (cpR 48 (f 19) (f 74))) 75 0 (f 20 0)) 76 (cpR 48 (f 21) (f 76))) 61 (cpR 4 (f 6) (f 61))) 62 (cpR 4 (f 7) (f 62))) 56 (cpR 4 (f 3) (r4 (t 0))) (cpR 4 (f 4) (r4 (t 1))) (cpR 4 (f 5) (r4 (t 2))) (rO (t 3)) (r3 (t 4)) (rE t) (rW t) (rK l)) (by rw [gt_cpy, cpy_R, dR_o _ (d := 56) (a := 7) _ _ _ _ _ _ _ _ (by decide), dR_o _ (d := 56) (a := 62) _ _ _ _ _ _ _ _ (by decide), dR_uo _ _ _ _ _ _ _ _ _ _ (by decide)]; simp [ur, u2, upd]) ?_
  refine A_aload_n dX1_copyFrom_114 rfl 2 rfl ?_
  refine A_getR (b := 9) dX1_copyFrom_115 fo_RX1_44 L1 rfl ?_
  refine A_iconst (v := 0) dX1_copyFrom_118 rfl ?_
  refine A_aload_n dX1_copyFrom_119 rfl 1 rfl ?_
  refine A_getR (b := 64) dX1_copyFrom_120 fo_RX1_44 L56 rfl ?_
  refine A_iconst (v := 0) dX1_copyFrom_123 rfl ?_
  refine A_iconst (v := 3) dX1_copyFrom_124 rfl ?_
  refine A_copy 0 0 3 dX1_copyFrom_125 lk_RX1_76 L9 L64 rfl rfl rfl (lb rfl) (lb rfl) ⟨lb rfl, lb rfl⟩ ⟨lb rfl, lb rfl⟩ ?_
  refine A_eq rfl rfl (f' := dR (ur (ur (ur (u2 (ur (u2 (ur (u2 (ur (u2 (u2 (u2 f 56 0 (f 1 0)) 56 1 (f 1 1)) 69 0 (f 14 0)) 70 (cpR 48 (f 15) (f 70))) 71 0 (f 16 0)) 72 (cpR 48 (f 17) (f 72))) 73 0 (f 18 0)) 74 (cpR 48 (f 19) (f 74))) 75 0 (f 20 0)) 76 (cpR 48 (f 21) (f 76))) 61 (cpR 4 (f 6) (f 61))) 62 (cpR 4 (f 7) (f 62))) 56 (cpR 4 (f 3) (r4 (t 0))) (cpR 4 (f 4) (r4 (t 1))) (cpR 4 (f 5) (r4 (t 2))) (cpR 3 (f 9) (rO (t 3))) (r3 (t 4)) (rE t) (rW t) (rK l)) (by rw [gt_cpy, cpy_R, dR_o _ (d := 56) (a := 9) _ _ _ _ _ _ _ _ (by decide), show (64 : Nat) = 56 + 8 from rfl, dR_8, dR_u8]; simp [ur, u2, upd]) ?_
  refine A_aload_n dX1_copyFrom_128 rfl 2 rfl ?_
  refine A_getR (b := 10) dX1_copyFrom_129 fo_RX1_47 L1 rfl ?_
  refine A_iconst (v := 0) dX1_copyFrom_132 rfl ?_
  refine A_aload_n dX1_copyFrom_133 rfl 1 rfl ?_
  refine A_getR (b := 65) dX1_copyFrom_134 fo_RX1_47 L56 rfl ?_
  refine A_iconst (v := 0) dX1_copyFrom_137 rfl ?_
  refine A_iconst (v := 3) dX1_copyFrom_138 rfl ?_
  refine A_copy 0 0 3 dX1_copyFrom_139 lk_RX1_76 L10 L65 rfl rfl rfl (lb rfl) (lb rfl) ⟨lb rfl, lb rfl⟩ ⟨lb rfl, lb rfl⟩ ?_
  refine A_eq rfl rfl (f' := dR (ur (ur (ur (u2 (ur (u2 (ur (u2 (ur (u2 (u2 (u2 f 56 0 (f 1 0)) 56 1 (f 1 1)) 69 0 (f 14 0)) 70 (cpR 48 (f 15) (f 70))) 71 0 (f 16 0)) 72 (cpR 48 (f 17) (f 72))) 73 0 (f 18 0)) 74 (cpR 48 (f 19) (f 74))) 75 0 (f 20 0)) 76 (cpR 48 (f 21) (f 76))) 61 (cpR 4 (f 6) (f 61))) 62 (cpR 4 (f 7) (f 62))) 56 (cpR 4 (f 3) (r4 (t 0))) (cpR 4 (f 4) (r4 (t 1))) (cpR 4 (f 5) (r4 (t 2))) (cpR 3 (f 9) (rO (t 3))) (cpR 3 (f 10) (r3 (t 4))) (rE t) (rW t) (rK l)) (by rw [gt_cpy, cpy_R, dR_o _ (d := 56) (a := 10) _ _ _ _ _ _ _ _ (by decide), show (65 : Nat) = 56 + 9 from rfl, dR_9, dR_u9]; simp [ur, u2, upd]) ?_
  refine A_aload_n dX1_copyFrom_142 rfl 2 rfl ?_
  refine A_getR (b := 11) dX1_copyFrom_143 fo_RX1_50 L1 rfl ?_
  refine A_iconst (v := 0) dX1_copyFrom_146 rfl ?_
  refine A_aload_n dX1_copyFrom_147 rfl 1 rfl ?_
  refine A_getR (b := 66) dX1_copyFrom_148 fo_RX1_50 L56 rfl ?_
  refine A_iconst (v := 0) dX1_copyFrom_151 rfl ?_
  refine A_iconst (v := 3) dX1_copyFrom_152 rfl ?_
  refine A_copy 0 0 3 dX1_copyFrom_153 lk_RX1_76 L11 L66 rfl rfl rfl (lb rfl) (lb rfl) ⟨lb rfl, lb rfl⟩ ⟨lb rfl, lb rfl⟩ ?_
  refine A_eq rfl rfl (f' := dR (ur (ur (ur (u2 (ur (u2 (ur (u2 (ur (u2 (u2 (u2 f 56 0 (f 1 0)) 56 1 (f 1 1)) 69 0 (f 14 0)) 70 (cpR 48 (f 15) (f 70))) 71 0 (f 16 0)) 72 (cpR 48 (f 17) (f 72))) 73 0 (f 18 0)) 74 (cpR 48 (f 19) (f 74))) 75 0 (f 20 0)) 76 (cpR 48 (f 21) (f 76))) 61 (cpR 4 (f 6) (f 61))) 62 (cpR 4 (f 7) (f 62))) 56 (cpR 4 (f 3) (r4 (t 0))) (cpR 4 (f 4) (r4 (t 1))) (cpR 4 (f 5) (r4 (t 2))) (cpR 3 (f 9) (rO (t 3))) (cpR 3 (f 10) (r3 (t 4))) (cpR 3 (f 11) (rE t)) (rW t) (rK l)) (by rw [gt_cpy, cpy_R, dR_o _ (d := 56) (a := 11) _ _ _ _ _ _ _ _ (by decide), show (66 : Nat) = 56 + 10 from rfl, dR_10, dR_u10]; simp [ur, u2, upd]) ?_
  refine A_aload_n dX1_copyFrom_156 rfl 2 rfl ?_
  refine A_getR (b := 12) dX1_copyFrom_157 fo_RX1_53 L1 rfl ?_
  refine A_iconst (v := 0) dX1_copyFrom_160 rfl ?_
  refine A_aload_n dX1_copyFrom_161 rfl 1 rfl ?_
  refine A_getR (b := 67) dX1_copyFrom_162 fo_RX1_53 L56 rfl ?_
  refine A_iconst (v := 0) dX1_copyFrom_165 rfl ?_
  refine A_iconst (v := 3) dX1_copyFrom_166 rfl ?_
  refine A_copy 0 0 3 dX1_copyFrom_167 lk_RX1_76 L12 L67 rfl rfl rfl (lb rfl) (lb rfl) ⟨lb rfl, lb rfl⟩ ⟨lb rfl, lb rfl⟩ ?_
  refine A_eq rfl rfl (f' := dR (ur (ur (ur (u2 (ur (u2 (ur (u2 (ur (u2 (u2 (u2 f 56 0 (f 1 0)) 56 1 (f 1 1)) 69 0 (f 14 0)) 70 (cpR 48 (f 15) (f 70))) 71 0 (f 16 0)) 72 (cpR 48 (f 17) (f 72))) 73 0 (f 18 0)) 74 (cpR 48 (f 19) (f 74))) 75 0 (f 20 0)) 76 (cpR 48 (f 21) (f 76))) 61 (cpR 4 (f 6) (f 61))) 62 (cpR 4 (f 7) (f 62))) 56 (cpR 4 (f 3) (r4 (t 0))) (cpR 4 (f 4) (r4 (t 1))) (cpR 4 (f 5) (r4 (t 2))) (cpR 3 (f 9) (rO (t 3))) (cpR 3 (f 10) (r3 (t 4))) (cpR 3 (f 11) (rE t)) (cpR 3 (f 12) (rW t)) (rK l)) (by rw [gt_cpy, cpy_R, dR_o _ (d := 56) (a := 12) _ _ _ _ _ _ _ _ (by decide), show (67 : Nat) = 56 + 11 from rfl, dR_11, dR_u11]; simp [ur, u2, upd]) ?_
  refine A_aload_n dX1_copyFrom_170 rfl 2 rfl ?_
  refine A_getR (b := 13) dX1_copyFrom_171 fo_RX1_56 L1 rfl ?_
  refine A_iconst (v := 0) dX1_copyFrom_174 rfl ?_
  refine A_aload_n dX1_copyFrom_175 rfl 1 rfl ?_
  refine A_getR (b := 68) dX1_copyFrom_176 fo_RX1_56 L56 rfl ?_
  refine A_iconst (v := 0) dX1_copyFrom_179 rfl ?_
  refine A_iconst (v := 4) dX1_copyFrom_180 rfl ?_
  refine A_copy 0 0 4 dX1_copyFrom_181 lk_RX1_76 L13 L68 rfl rfl rfl (lb rfl) (lb rfl) ⟨lb rfl, lb rfl⟩ ⟨lb rfl, lb rfl⟩ ?_
  refine A_eq rfl rfl (f' := dR (ur (ur (ur (u2 (ur (u2 (ur (u2 (ur (u2 (u2 (u2 f 56 0 (f 1 0)) 56 1 (f 1 1)) 69 0 (f 14 0)) 70 (cpR 48 (f 15) (f 70))) 71 0 (f 16 0)) 72 (cpR 48 (f 17) (f 72))) 73 0 (f 18 0)) 74 (cpR 48 (f 19) (f 74))) 75 0 (f 20 0)) 76 (cpR 48 (f 21) (f 76))) 61 (cpR 4 (f 6) (f 61))) 62 (cpR 4 (f 7) (f 62))) 56 (cpR 4 (f 3) (r4 (t 0))) (cpR 4 (f 4) (r4 (t 1))) (cpR 4 (f 5) (r4 (t 2))) (cpR 3 (f 9) (rO (t 3))) (cpR 3 (f 10) (r3 (t 4))) (cpR 3 (f 11) (rE t)) (cpR 3 (f 12) (rW t)) (cpR 4 (f 13) (rK l))) (by rw [gt_cpy, cpy_R, dR_o _ (d := 56) (a := 13) _ _ _ _ _ _ _ _ (by decide), show (68 : Nat) = 56 + 12 from rfl, dR_12, dR_u12]; simp [ur, u2, upd]) ?_
  refine A_iconst (v := 0) dX1_copyFrom_184 rfl ?_
  refine A_istore_n (lv' := [(2, .int 0), (0, .ref 56), (1, .ref 1)]) dX1_copyFrom_185 rfl (lb rfl) rfl ?_
  refine A_iload_n dX1_copyFrom_186 rfl 0 rfl ?_
  refine A_iconst (v := 3) dX1_copyFrom_187 rfl ?_
  refine A_icmp_ge (tgt := 209) dX1_copyFrom_188 rfl (fun h188 => absurd h188 (by decide)) (fun h188 => ?_)
  refine A_aload_n dX1_copyFrom_191 rfl 1 rfl ?_
  refine A_getR (b := 63) dX1_copyFrom_192 fo_RX1_40 L56 rfl ?_
  refine A_iload_n dX1_copyFrom_195 rfl 0 rfl ?_
  refine A_aload_n dX1_copyFrom_196 rfl 2 rfl ?_
  refine A_getR (b := 8) dX1_copyFrom_197 fo_RX1_40 L1 rfl ?_
  refine A_iload_n dX1_copyFrom_200 rfl 0 rfl ?_
  refine A_zaload 0 dX1_copyFrom_201 L8 (rfl) (by decide) (lb rfl) ?_
  refine A_topi (f 8 0) (by rw [dR_o _ _ _ _ _ _ _ _ _ (by omega)] <;> simp [ur, u2, upd]) ?_
  refine A_zastore 0 dX1_copyFrom_202 L63 (rfl) (by decide) (lb rfl) (h01 0 (by decide)) ?_
  refine A_eq rfl rfl (f' := dR (u2 (ur (ur (ur (u2 (ur (u2 (ur (u2 (ur (u2 (u2 (u2 f 56 0 (f 1 0)) 56 1 (f 1 1)) 69 0 (f 14 0)) 70 (cpR 48 (f 15) (f 70))) 71 0 (f 16 0)) 72 (cpR 48 (f 17) (f 72))) 73 0 (f 18 0)) 74 (cpR 48 (f 19) (f 74))) 75 0 (f 20 0)) 76 (cpR 48 (f 21) (f 76))) 61 (cpR 4 (f 6) (f 61))) 62 (cpR 4 (f 7) (f 62))) 63 0 (f 8 0)) 56 (cpR 4 (f 3) (r4 (t 0))) (cpR 4 (f 4) (r4 (t 1))) (cpR 4 (f 5) (r4 (t 2))) (cpR 3 (f 9) (rO (t 3))) (cpR 3 (f 10) (r3 (t 4))) (cpR 3 (f 11) (rE t)) (cpR 3 (f 12) (rW t)) (cpR 4 (f 13) (rK l))) (by rw [u2, dR_o _ _ _ _ _ _ _ _ _ (by omega), dR_uo _ _ _ _ _ _ _ _ _ _ (by omega)]; rfl) ?_
  refine A_iinc (lv' := [(2, .int 1), (0, .ref 56), (1, .ref 1)]) dX1_copyFrom_203 0 rfl rfl (lb rfl) rfl ?_
  refine A_goto (tgt := 186) dX1_copyFrom_206 rfl ?_
  refine A_iload_n dX1_copyFrom_186 rfl 0 rfl ?_
  refine A_iconst (v := 3) dX1_copyFrom_187 rfl ?_
  refine A_icmp_ge (tgt := 209) dX1_copyFrom_188 rfl (fun h188 => absurd h188 (by decide)) (fun h188 => ?_)
  refine A_aload_n dX1_copyFrom_191 rfl 1 rfl ?_
  refine A_getR (b := 63) dX1_copyFrom_192 fo_RX1_40 L56 rfl ?_
  refine A_iload_n dX1_copyFrom_195 rfl 0 rfl ?_
  refine A_aload_n dX1_copyFrom_196 rfl 2 rfl ?_
  refine A_getR (b := 8) dX1_copyFrom_197 fo_RX1_40 L1 rfl ?_
  refine A_iload_n dX1_copyFrom_200 rfl 0 rfl ?_
  refine A_zaload 1 dX1_copyFrom_201 L8 (rfl) (by decide) (lb rfl) ?_
  refine A_topi (f 8 1) (by rw [dR_o _ _ _ _ _ _ _ _ _ (by omega)] <;> simp [ur, u2, upd]) ?_
  refine A_zastore 1 dX1_copyFrom_202 L63 (rfl) (by decide) (lb rfl) (h01 1 (by decide)) ?_
  refine A_eq rfl rfl (f' := dR (u2 (u2 (ur (ur (ur (u2 (ur (u2 (ur (u2 (ur (u2 (u2 (u2 f 56 0 (f 1 0)) 56 1 (f 1 1)) 69 0 (f 14 0)) 70 (cpR 48 (f 15) (f 70))) 71 0 (f 16 0)) 72 (cpR 48 (f 17) (f 72))) 73 0 (f 18 0)) 74 (cpR 48 (f 19) (f 74))) 75 0 (f 20 0)) 76 (cpR 48 (f 21) (f 76))) 61 (cpR 4 (f 6) (f 61))) 62 (cpR 4 (f 7) (f 62))) 63 0 (f 8 0)) 63 1 (f 8 1)) 56 (cpR 4 (f 3) (r4 (t 0))) (cpR 4 (f 4) (r4 (t 1))) (cpR 4 (f 5) (r4 (t 2))) (cpR 3 (f 9) (rO (t 3))) (cpR 3 (f 10) (r3 (t 4))) (cpR 3 (f 11) (rE t)) (cpR 3 (f 12) (rW t)) (cpR 4 (f 13) (rK l))) (by rw [u2, dR_o _ _ _ _ _ _ _ _ _ (by omega), dR_uo _ _ _ _ _ _ _ _ _ _ (by omega)]; rfl) ?_
  refine A_iinc (lv' := [(2, .int 2), (0, .ref 56), (1, .ref 1)]) dX1_copyFrom_203 0 rfl rfl (lb rfl) rfl ?_
  refine A_goto (tgt := 186) dX1_copyFrom_206 rfl ?_
  refine A_iload_n dX1_copyFrom_186 rfl 0 rfl ?_
  refine A_iconst (v := 3) dX1_copyFrom_187 rfl ?_
  refine A_icmp_ge (tgt := 209) dX1_copyFrom_188 rfl (fun h188 => absurd h188 (by decide)) (fun h188 => ?_)
  refine A_aload_n dX1_copyFrom_191 rfl 1 rfl ?_
  refine A_getR (b := 63) dX1_copyFrom_192 fo_RX1_40 L56 rfl ?_
  refine A_iload_n dX1_copyFrom_195 rfl 0 rfl ?_
  refine A_aload_n dX1_copyFrom_196 rfl 2 rfl ?_
  refine A_getR (b := 8) dX1_copyFrom_197 fo_RX1_40 L1 rfl ?_
  refine A_iload_n dX1_copyFrom_200 rfl 0 rfl ?_
  refine A_zaload 2 dX1_copyFrom_201 L8 (rfl) (by decide) (lb rfl) ?_
  refine A_topi (f 8 2) (by rw [dR_o _ _ _ _ _ _ _ _ _ (by omega)] <;> simp [ur, u2, upd]) ?_
  refine A_zastore 2 dX1_copyFrom_202 L63 (rfl) (by decide) (lb rfl) (h01 2 (by decide)) ?_
  refine A_eq rfl rfl (f' := dR (u2 (u2 (u2 (ur (ur (ur (u2 (ur (u2 (ur (u2 (ur (u2 (u2 (u2 f 56 0 (f 1 0)) 56 1 (f 1 1)) 69 0 (f 14 0)) 70 (cpR 48 (f 15) (f 70))) 71 0 (f 16 0)) 72 (cpR 48 (f 17) (f 72))) 73 0 (f 18 0)) 74 (cpR 48 (f 19) (f 74))) 75 0 (f 20 0)) 76 (cpR 48 (f 21) (f 76))) 61 (cpR 4 (f 6) (f 61))) 62 (cpR 4 (f 7) (f 62))) 63 0 (f 8 0)) 63 1 (f 8 1)) 63 2 (f 8 2)) 56 (cpR 4 (f 3) (r4 (t 0))) (cpR 4 (f 4) (r4 (t 1))) (cpR 4 (f 5) (r4 (t 2))) (cpR 3 (f 9) (rO (t 3))) (cpR 3 (f 10) (r3 (t 4))) (cpR 3 (f 11) (rE t)) (cpR 3 (f 12) (rW t)) (cpR 4 (f 13) (rK l))) (by rw [u2, dR_o _ _ _ _ _ _ _ _ _ (by omega), dR_uo _ _ _ _ _ _ _ _ _ _ (by omega)]; rfl) ?_
  refine A_iinc (lv' := [(2, .int 3), (0, .ref 56), (1, .ref 1)]) dX1_copyFrom_203 0 rfl rfl (lb rfl) rfl ?_
  refine A_goto (tgt := 186) dX1_copyFrom_206 rfl ?_
  refine A_iload_n dX1_copyFrom_186 rfl 0 rfl ?_
  refine A_iconst (v := 3) dX1_copyFrom_187 rfl ?_
  refine A_icmp_ge (tgt := 209) dX1_copyFrom_188 rfl (fun h188 => ?_) (fun h188 => absurd (by decide) h188)
  exact A_vret dX1_copyFrom_209 rfl (⟨rfl, by rw [dM, cpB56_1, g2, g3, g4, g8, g9, ga, gb, gc, cp_r4, cp_r4, cp_r4, cp_rO, cp_r3, cp_rE, cp_rW, cp_rK]⟩)
