/-! runs of steps: the reference -/
theorem fT.rfl' (f : Mem) : fT f f := ⟨fun _ _ => rfl, fun _ _ => rfl⟩
theorem fT.tr {f g h : Mem} (a : fT f g) (b : fT g h) : fT f h := ⟨fun i hi => (b.1 i hi).trans (a.1 i hi), fun j hj => (b.2 j hj).trans (a.2 j hj)⟩
theorem m1_neg : (-1 : Int32) < 0 := by decide
theorem in_40 {n : Nat} (h : n ≤ 40) : Int64.toInt 0 ≤ (nI n).toInt64.toInt ∧ (nI n).toInt64.toInt ≤ Int64.toInt 40 := by
  rw [Int32.toInt_toInt64, nI_toInt (by omega)]
  exact ⟨by show (0 : Int) ≤ _; omega, by show _ ≤ (40 : Int); omega⟩
theorem in_2 {n : Nat} (h : n < 3) : Int64.toInt 0 ≤ (nI n).toInt64.toInt ∧ (nI n).toInt64.toInt ≤ Int64.toInt 2 := by
  rw [Int32.toInt_toInt64, nI_toInt (by omega)]
  exact ⟨by show (0 : Int) ≤ _; omega, by show _ ≤ (2 : Int); omega⟩
theorem lc_run (f0 : Mem) (qf : Kt) (p : Ro) (tot n : Nat) (sch : Int32) (hn : n ≤ 40) (hs : inR sch 3) : ∀ m i (f : Mem) (q : Kt), i + m = n → runK p (chS sch) m i q = (qf, tot - i) → i ≤ tot → RK f p q → WK p q → fT f0 f → A (cM MX11_run 0 0 layT layT (fun r h => r = some (.int (nI tot)) ∧ RK h p qf ∧ fT f0 h)) 31 [(3, .int (nI i)), (0, .ref 93), (1, .int sch), (2, .int (nI n))] [] f := by
  intro m
  refine Nat.strongRecOn m (fun m ih => ?_)
  intro i f q hm hr hit hX hW hfr
  refine A_iload_n dX11_run_31 rfl 0 rfl ?_
  refine A_iload_n dX11_run_32 rfl 3 rfl ?_
  refine A_icmp_ge (tgt := 59) dX11_run_33 rfl (fun h33 => ?_) (fun h33 => ?_)
  · rw [nI_leI (by omega) (by omega)] at h33
    have em : m = 0 := by omega
    rw [em, runK] at hr
    have e1 := congrArg Prod.fst hr
    have e2 := congrArg Prod.snd hr
    dsimp only at e1 e2
    refine A_iload_n dX11_run_59 rfl 0 rfl ?_
    exact A_iret dX11_run_60 rfl (⟨by rw [show tot = i by omega], by rw [← e1]; exact hX, hfr⟩)
  · rw [nI_leI (by omega) (by omega)] at h33
    obtain ⟨m1, em⟩ : ∃ m1, m = m1 + 1 := ⟨m - 1, by omega⟩
    rw [em, runK] at hr
    have hc := okS_ch sch i q p hW
    refine A_aload_n dX11_run_36 rfl 1 rfl ?_
    refine A_iload_n dX11_run_37 rfl 2 rfl ?_
    refine A_callV (M' := MX11_chosen) [.int sch] [] 93 dX11_run_38 lk_RX11_199 oX11_chosen iX11_chosen rfl rfl ⟨lb rfl, lb rfl⟩ (lb rfl) ⟨lb rfl, lb rfl⟩ L93 rfl (c_chosen sch f q.1 q.2.1 p q.2.2.1 q.2.2.2.1 hX.1 hW.1 hs) ?_
    rintro _ g0 ⟨rfl, hg0⟩
    rw [hg0]
    refine A_topi (chS sch i q) rfl ?_
    refine A_if_lt (tgt := 59) dX11_run_41 rfl (fun h41 => ?_) (fun h41 => ?_)
    · have hm1 : chS sch i q = -1 := hc.resolve_right (fun ⟨t, ht, h1, et⟩ => absurd (by rw [et] at h41; exact h41) (nI_nneg (i := t) (by have := hW.1.2.2.2.2.1; omega)))
      rw [if_pos hm1] at hr
      have e1 := congrArg Prod.fst hr
      have e2 := congrArg Prod.snd hr
      dsimp only at e1 e2
      refine A_iload_n dX11_run_59 rfl 0 rfl ?_
      exact A_iret dX11_run_60 rfl (⟨by rw [show tot = i by omega], by rw [← e1]; exact hX, hfr⟩)
    · obtain ⟨t, ht, h1, et⟩ := hc.resolve_left (fun z => h41 (by rw [z]; exact m1_neg))
      have ht4 : t < 4 := by have := hW.1.2.2.2.2.1; omega
      rw [if_neg (by rw [et]; exact nI_nm1 ht4), et, nI_clamp (by omega)] at hr
      have e1 := congrArg Prod.fst hr
      have e2 := congrArg Prod.snd hr
      dsimp only at e1 e2
      refine A_aload_n dX11_run_44 rfl 1 rfl ?_
      refine A_aload_n dX11_run_45 rfl 1 rfl ?_
      refine A_iload_n dX11_run_46 rfl 2 rfl ?_
      refine A_callV (M' := MX11_chosen) [.int sch] [.ref 93] 93 dX11_run_47 lk_RX11_199 oX11_chosen iX11_chosen rfl rfl ⟨lb rfl, lb rfl⟩ (lb rfl) ⟨lb rfl, lb rfl⟩ L93 rfl (c_chosen sch f q.1 q.2.1 p q.2.2.1 q.2.2.2.1 hX.1 hW.1 hs) ?_
      rintro _ g0 ⟨rfl, hg0⟩
      rw [hg0]
      refine A_topi (chS sch i q) rfl ?_
      refine A_callV (M' := MX11_stepsTruly) [.int (chS sch i q)] [] 93 dX11_run_50 lk_RX11_194 oX11_stepsTruly iX11_stepsTruly rfl rfl ⟨lb rfl, lb rfl⟩ (lb rfl) ⟨lb rfl, lb rfl⟩ L93 rfl (by rw [et]; exact c_stepsTruly t f q.1 q.2.1 p q.2.2.1 q.2.2.2.1 q.2.2.2.2.1 q.2.2.2.2.2.1 q.2.2.2.2.2.2 hX.1 hX.2.1 hX.2.2 hW.1 ht h1) ?_
      rintro _ h ⟨rfl, hX2, h962, hQ2, hf2⟩
      refine A_iinc (lv' := [(3, .int (nI (i + 1))), (0, .ref 93), (1, .int sch), (2, .int (nI n))]) dX11_run_53 0 rfl (nI_add i 1) (lb rfl) rfl ?_
      refine A_goto (tgt := 31) dX11_run_56 rfl ?_
      refine A_sub [0, 1, 2, 3] rfl ?_
      exact ih m1 (by omega) (i + 1) h (sK p t q) (by omega) (Prod.ext e1 (by dsimp only; omega)) (by omega) ⟨hX2, h962, hQ2⟩ (WK_s hW ht h1) (hfr.tr hf2)
theorem c_run3 (j n : Nat) (f : Mem) (p : Ro) (q : Kt) (hj : j < 3) (hn : n ≤ 40) (hX : RK f p q) (hW : WK p q) : C0 MX11_run [.ref 93, .int (nI j), .int (nI n)] f (fun r h => r = some (.int (nI (runK p (chS (nI j)) n 0 q).2)) ∧ RK h p (runK p (chS (nI j)) n 0 q).1 ∧ fT f h) := by
  refine Ct.of (lv := [(0, .ref 93), (1, .int (nI j)), (2, .int (nI n))]) (by decide) (lb rfl) rfl ?_
  refine A_iload_n dX11_run_0 rfl 1 rfl ?_
  refine A_i2l dX11_run_1 ?_
  refine A_lconst (v := 0) dX11_run_2 rfl ?_
  refine A_ldc2 dX11_run_3 k_RX11_68 ?_
  refine A_callS (M' := MX11_in) [.long ((nI j).toInt64), .long 0, .long 2] [] dX11_run_6 lk_RX11_64 oX11_in sX11_in rfl rfl ⟨lb rfl, lb rfl⟩ (lb rfl) ⟨lb rfl, lb rfl⟩ (c_in ((nI j).toInt64) 0 2 _) ?_
  rintro _ g0 ⟨rfl, hg0⟩
  rw [hg0]
  refine A_if_ne (tgt := 14) dX11_run_9 rfl (fun h9 => ?_) (fun h9 => by exact absurd (in_2 hj) (bz_0.mp h9))
  refine A_iload_n dX11_run_14 rfl 2 rfl ?_
  refine A_i2l dX11_run_15 ?_
  refine A_lconst (v := 0) dX11_run_16 rfl ?_
  refine A_ldc2 dX11_run_17 k_RX11_197 ?_
  refine A_callS (M' := MX11_in) [.long ((nI n).toInt64), .long 0, .long 40] [] dX11_run_20 lk_RX11_64 oX11_in sX11_in rfl rfl ⟨lb rfl, lb rfl⟩ (lb rfl) ⟨lb rfl, lb rfl⟩ (c_in ((nI n).toInt64) 0 40 _) ?_
  rintro _ g0 ⟨rfl, hg0⟩
  rw [hg0]
  refine A_if_ne (tgt := 29) dX11_run_23 rfl (fun h23 => ?_) (fun h23 => by exact absurd (in_40 hn) (bz_0.mp h23))
  refine A_iconst (v := 0) dX11_run_29 rfl ?_
  refine A_istore_n (lv' := [(3, .int 0), (0, .ref 93), (1, .int (nI j)), (2, .int (nI n))]) dX11_run_30 rfl (lb rfl) rfl ?_
  refine A_sub [0, 1, 2, 3] rfl ?_
  exact lc_run f (runK p (chS (nI j)) n 0 q).1 p (runK p (chS (nI j)) n 0 q).2 n (nI j) hn ((inR_nI (by omega)).mpr hj) n 0 f q (by omega) rfl (by omega) hX hW (fT.rfl' f)
