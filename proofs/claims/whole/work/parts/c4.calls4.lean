/-! programs; schedules laid -/
theorem nI_all {z : Int32} (h : 0 ≤ z) : ∃ i, i < 2 ^ 31 ∧ z = nI i := by
  have h1 : (0 : Int32).toInt ≤ z.toInt := Int32.le_iff_toInt_le.mp h
  rw [show (0 : Int32).toInt = 0 from by decide] at h1
  have h2 := Int32.toInt_lt z
  refine ⟨z.toInt.toNat, by omega, Int32.toInt_inj.mp ?_⟩
  rw [nI_toInt (by omega)]
  omega
def tq3 (t W z : Nat) : Ro := fun i => if i = 0 then nI t else if i = 1 then nI W else nI z
def ts3 : Ro := fun i => if i = 0 then 1 else if i = 1 then 2 else 3
theorem op_program (xx : Int32) (q : QT) (w : WV q) : OP MX10_program MX11_program [.int xx] q := by
  obtain ⟨⟨s, k, p, rz, lz⟩, ⟨im, si, ki, pj⟩, ⟨tn, tb⟩, ⟨tq, qs, qn⟩, ⟨cn, cs, ch, cv⟩, ⟨ln, li⟩⟩ := q
  have w1 : wfC s k p := w.1
  have w2 : wR s rz lz := w.2.1
  have w13 : s 13 0 ≤ 4 := w1.2.2.2.2.1
  have w5 : wT tn tb := w.2.2.2.2.1
  have wz : wT 0 tb := ⟨by decide, fun i hi => absurd hi (by omega)⟩
  by_cases hx : inR xx (s 13 0)
  · obtain ⟨t, ht, rfl⟩ := inR_of (by omega) hx
    by_cases h0 : s 0 t = 0 ∧ s 1 t = 0
    · have hc := tc_w w5
      have hle := prg_le (tc tn tb) tn 12 0 0 z0 rfl
      have hok := prg_ok hc 12 0 0 z0 (fun i hi => absurd hi (by omega))
      generalize hR : prg (tc tn tb) tn 12 0 0 z0 = R at hle hok
      by_cases hz : R.1 = 0
      · refine ⟨nI R.2.1, ((s2 s 16 t R.2.1, k, nwP p t R.2.1 R.2.2, rz, lz), (im, si, ki, pj), (0, tb), (tq, qs, qn), (cn, cs, ch, cv), (ln, li)), ⟨wfC_prog w1 ht h0.1 hle hok, w2.c (fun u _ => s2_c (c := 16) (k := t) (x := R.2.1) (c' := 1) s (by decide)), w.2.2.1, w.2.2.2.1, wz, w.2.2.2.2.2⟩, fun f x => (x_prog4 t f s k p rz lz x.1 w1 tn (tc tn tb) x.2.2.1.tcx hc ht h0 hR hz).mono ?_, fun f x => (c_prog4 t f s k p rz lz x.1 w1 tn (tc tn tb) x.2.2.1.tcx hc x.2.2.2.2.2.2.1 ht h0 hR hz).mono ?_⟩
        · rintro r h ⟨e1, hC, e44, e55, e⟩
          have ee : ∀ b, 22 ≤ b → b ≠ 43 → b ≠ 44 → b ≠ 46 → b ≠ 47 → b ≠ 55 → h b = f b := fun b b0 b1 b2 b3 b4 b5 => e b b1 b2 b3 b4 b5 (Or.inr b0)
          have e0 := e 0 (by omega) (by omega) (by omega) (by omega) (by omega) (Or.inl rfl)
          exact ⟨e1, ⟨hC, x.2.1.congr (by rw [e0]) (fun a a1 a2 => ee a (by omega) (by omega) (by omega) (by omega) (by omega) (by omega)), ⟨e44, fun i hi => absurd hi (Nat.not_lt_zero i)⟩, x.2.2.2.1.congr (fun a a1 a2 => ee a (by omega) (by omega) (by omega) (by omega) (by omega) (by omega)), x.2.2.2.2.1.congr (fun a a1 a2 => ee a (by omega) (by omega) (by omega) (by omega) (by omega) (by omega)), x.2.2.2.2.2.1.congr (fun a a1 a2 => ee a (by omega) (by omega) (by omega) (by omega) (by omega) (by omega)), x.2.2.2.2.2.2.no e55 (fun a a1 a2 => ee a (by omega) (by omega) (by omega) (by omega) (by omega) (by omega))⟩, fun b hb => ee b (by omega) (by omega) (by omega) (by omega) (by omega) (by omega)⟩
        · rintro r h ⟨e1, hC, e9, e, e93⟩
          have ee : ∀ b, b ≠ 93 → b ≠ 94 → b ≠ 100 → h b = f b := e
          exact ⟨e1, ⟨hC, x.2.1.c2 (e93 5 (by omega) (by omega) (by omega) (by omega)) (ee 95 (by omega) (by omega) (by omega)), ⟨e9, fun i hi => absurd hi (Nat.not_lt_zero i)⟩, x.2.2.2.1.congr2 (e93 15 (by omega) (by omega) (by omega) (by omega)) (ee 102 (by omega) (by omega) (by omega)) (ee 103 (by omega) (by omega) (by omega)), x.2.2.2.2.1.c2 (e93 26 (by omega) (by omega) (by omega) (by omega)) (ee 109 (by omega) (by omega) (by omega)), x.2.2.2.2.2.1.congr (ee 110 (by omega) (by omega) (by omega)) (ee 111 (by omega) (by omega) (by omega)), x.2.2.2.2.2.2.1.c2 (ee 101 (by omega) (by omega) (by omega)), x.2.2.2.2.2.2.2.c2 (ee 96 (by omega) (by omega) (by omega))⟩, fun b hb => ee b (by omega) (by omega) (by omega)⟩
      · obtain ⟨z, hz1⟩ : ∃ z, R.1 = z + 1 := ⟨R.1 - 1, by omega⟩
        refine ⟨-100 - nI z, ((s, k, p, rz, lz), (im, si, ki, pj), (0, tb), (3, ts3, tq3 t R.2.1 z), (cn, cs, ch, cv), (ln, li)), ⟨w.1, w.2.1, w.2.2.1, w.2.2.2.1, wz, Nat.le_refl 3, w.2.2.2.2.2.2⟩, fun f x => (x_prog3 t f s k p rz lz x.1 w1 tn (tc tn tb) x.2.2.1.tcx hc ht h0 hR hz1).mono ?_, fun f x => (c_prog3 t f s k p rz lz x.1 w1 tn (tc tn tb) x.2.2.1.tcx hc x.2.2.2.2.2.2.1 ht h0 hR hz1).mono ?_⟩
        · rintro r h ⟨e1, e44, e48, ⟨a0, a1, a2⟩, ⟨c0, c1, c2⟩, e⟩
          have e0 := e 0 (by omega)
          refine ⟨e1, ⟨x.1.congr (fun a a1 a2 => e a (by omega)), x.2.1.congr (by rw [e0]) (fun a a1 a2 => e a (by omega)), ⟨e44, fun i hi => absurd hi (Nat.not_lt_zero i)⟩, ⟨e48, fun i hi => ?_⟩, x.2.2.2.2.1.congr (fun a a1 a2 => e a (by omega)), x.2.2.2.2.2.1.congr (fun a a1 a2 => e a (by omega)), x.2.2.2.2.2.2.c2 (fun a a1 a2 => e a (by omega))⟩, fun b hb => e b (by omega)⟩
          match i, hi with
          | 0, _ => exact ⟨a0, c0⟩
          | 1, _ => exact ⟨a1, c1⟩
          | 2, _ => exact ⟨a2, c2⟩
        · rintro r h ⟨e1, e9, e15, ⟨a0, a1, a2⟩, ⟨c0, c1, c2⟩, e, e93⟩
          refine ⟨e1, ⟨x.1.congr (e 94 (by omega) (by omega) (by omega) (by omega)) (e 97 (by omega) (by omega) (by omega) (by omega)) (e 98 (by omega) (by omega) (by omega) (by omega)), x.2.1.c2 (e93 5 (by omega) (by omega) (by omega) (by omega) (by omega)) (e 95 (by omega) (by omega) (by omega) (by omega)), ⟨e9, fun i hi => absurd hi (Nat.not_lt_zero i)⟩, ⟨e15, fun i hi => ?_⟩, x.2.2.2.2.1.c2 (e93 26 (by omega) (by omega) (by omega) (by omega) (by omega)) (e 109 (by omega) (by omega) (by omega) (by omega)), x.2.2.2.2.2.1.congr (e 110 (by omega) (by omega) (by omega) (by omega)) (e 111 (by omega) (by omega) (by omega) (by omega)), x.2.2.2.2.2.2.1.c2 (e 101 (by omega) (by omega) (by omega) (by omega)), x.2.2.2.2.2.2.2.c2 (e 96 (by omega) (by omega) (by omega) (by omega))⟩, fun b hb => e b (by omega) (by omega) (by omega) (by omega)⟩
          match i, hi with
          | 0, _ => exact ⟨a0, c0⟩
          | 1, _ => exact ⟨a1, c1⟩
          | 2, _ => exact ⟨a2, c2⟩
    · exact OP_same w (-3) (fun f x => x_prog2 t f s k p rz lz x.1 w1 ht h0) (fun f x => c_prog2 t f s k p rz lz x.1 w1 ht h0)
  · exact OP_same w (-1) (fun f x => x_prog1 xx f s k p rz lz x.1 w1 hx) (fun f x => c_prog1 xx f s k p rz lz x.1 w1 hx)
theorem op_lay (y xx z : Int32) (q : QT) (w : WV q) : OP MX10_lay MX11_lay [.int y, .int xx, .int z] q := by
  obtain ⟨⟨s, k, p, rz, lz⟩, ⟨im, si, ki, pj⟩, ⟨tn, tb⟩, ⟨tq, qs, qn⟩, ⟨cn, cs, ch, cv⟩, ⟨ln, li⟩⟩ := q
  have w1 : wfC s k p := w.1
  have w2 : wR s rz lz := w.2.1
  have w13 : s 13 0 ≤ 4 := w1.2.2.2.2.1
  have w8 : wL ln := w.2.2.2.2.2.2.2
  by_cases hy : inR y 2
  · by_cases hx : inR xx 4
    · obtain ⟨l, hl, rfl⟩ := inR_of (by decide) hx
      by_cases h0 : ln l = 0
      · exact OP_same w (-11) (fun f x => x_lay3 y z l f ln li x.2.2.2.2.2.1 w8 hy hl h0) (fun f x => c_lay3 y z l f ln li x.2.2.2.2.2.1 w8 hy hl h0)
      · by_cases ha : (gSt (s 13 0) (cn, cs, ch, cv) (sch p (s, k)) y) = 0
        · exact OP_find w (-5) (fun f x => x_lay4 y z l f s k p rz lz x.1 w1 (cn, cs, ch, cv) x.2.2.2.2.1 w.2.2.2.2.2.2.1 x.2.2.2.2.2.2 ln li x.2.2.2.2.2.1 w8 hy hl h0 ha) (fun f x => c_lay4 y z l f s k p rz lz x.1 w1 x.2.2.2.2.2.2.2 (cn, cs, ch, cv) x.2.2.2.2.1 w.2.2.2.2.2.2.1 ln li x.2.2.2.2.2.1 w8 hy hl h0 ha)
        · by_cases hd : ((sch p (s, k)).2.2.2.2.1 ((gSt (s 13 0) (cn, cs, ch, cv) (sch p (s, k)) y) - 1)) = 0
          · exact OP_find w 0 (fun f x => x_lay5 y z l f s k p rz lz x.1 w1 (cn, cs, ch, cv) x.2.2.2.2.1 w.2.2.2.2.2.2.1 x.2.2.2.2.2.2 ln li x.2.2.2.2.2.1 w8 hy hl h0 ha hd) (fun f x => c_lay5 y z l f s k p rz lz x.1 w1 x.2.2.2.2.2.2.2 (cn, cs, ch, cv) x.2.2.2.2.1 w.2.2.2.2.2.2.1 ln li x.2.2.2.2.2.1 w8 hy hl h0 ha hd)
          · have hd0 : 0 < ((sch p (s, k)).2.2.2.2.1 ((gSt (s 13 0) (cn, cs, ch, cv) (sch p (s, k)) y) - 1)) := Nat.pos_of_ne_zero hd
            by_cases hz : 0 ≤ z
            · obtain ⟨i, hi, rfl⟩ := nI_all hz
              refine ⟨(if (min ((sch p (s, k)).2.2.2.2.1 ((gSt (s 13 0) (cn, cs, ch, cv) (sch p (s, k)) y) - 1)) (ln l - 1 - i)) = ((sch p (s, k)).2.2.2.2.1 ((gSt (s 13 0) (cn, cs, ch, cv) (sch p (s, k)) y) - 1)) then nI ((sch p (s, k)).2.2.2.2.1 ((gSt (s 13 0) (cn, cs, ch, cv) (sch p (s, k)) y) - 1)) else -13), ((s, k, p, rz, lz), (im, si, ki, pj), (tn, tb), (tq, qs, qn), (cn, cs, ch, cv), (ln, lyL li l i (min ((sch p (s, k)).2.2.2.2.1 ((gSt (s 13 0) (cn, cs, ch, cv) (sch p (s, k)) y) - 1)) (ln l - 1 - i)) (fun t => mvV (sch p (s, k)) (gSt (s 13 0) (cn, cs, ch, cv) (sch p (s, k)) y) (nI t)))), w, fun f x => (x_lay7 y l i f s k p rz lz x.1 w1 (cn, cs, ch, cv) x.2.2.2.2.1 w.2.2.2.2.2.2.1 x.2.2.2.2.2.2 ln li x.2.2.2.2.2.1 w8 hy hl h0 ha hd0 hi).mono ?_, fun f x => (c_lay7 y l i f s k p rz lz x.1 w1 x.2.2.2.2.2.2.2 (cn, cs, ch, cv) x.2.2.2.2.1 w.2.2.2.2.2.2.1 ln li x.2.2.2.2.2.1 w8 hy hl h0 ha hd0 hi).mono ?_⟩
              · rintro r h ⟨e1, hL, hS, e⟩
                have e0 := e 0 (by omega) (by omega)
                have e44 := e 44 (by omega) (by omega)
                exact ⟨e1, ⟨x.1.congr (fun a a1 a2 => e a (by omega) (by omega)), x.2.1.congr (by rw [e0]) (fun a a1 a2 => e a (by omega) (by omega)), x.2.2.1.congr (by rw [e44]) (e 45 (by omega) (by omega)), x.2.2.2.1.congr (fun a a1 a2 => e a (by omega) (by omega)), x.2.2.2.2.1.congr (fun a a1 a2 => e a (by omega) (by omega)), hL, hS⟩, fun b hb => e b (by omega) (by omega)⟩
              · rintro r h ⟨e1, hL, h96, e, e93⟩
                exact ⟨e1, ⟨x.1.congr (e 94 (by omega) (by omega)) (e 97 (by omega) (by omega)) (e 98 (by omega) (by omega)), x.2.1.c2 (e93 5 (by omega) (by omega) (by omega) (by omega)) (e 95 (by omega) (by omega)), x.2.2.1.c2 (e93 9 (by omega) (by omega) (by omega) (by omega)) (e 99 (by omega) (by omega)), x.2.2.2.1.congr2 (e93 15 (by omega) (by omega) (by omega) (by omega)) (e 102 (by omega) (by omega)) (e 103 (by omega) (by omega)), x.2.2.2.2.1.c2 (e93 26 (by omega) (by omega) (by omega) (by omega)) (e 109 (by omega) (by omega)), hL, x.2.2.2.2.2.2.1.c2 (e 101 (by omega) (by omega)), h96⟩, fun b hb => e b (by omega) (by omega)⟩
            · exact OP_find w (-13) (fun f x => x_lay6 y z l f s k p rz lz x.1 w1 (cn, cs, ch, cv) x.2.2.2.2.1 w.2.2.2.2.2.2.1 x.2.2.2.2.2.2 ln li x.2.2.2.2.2.1 w8 hy hl h0 ha hd0 hz) (fun f x => c_lay6 y z l f s k p rz lz x.1 w1 x.2.2.2.2.2.2.2 (cn, cs, ch, cv) x.2.2.2.2.1 w.2.2.2.2.2.2.1 ln li x.2.2.2.2.2.1 w8 hy hl h0 ha hd0 (Int32.not_le.mp hz))
    · exact OP_same w (-1) (fun f x => x_lay2 y xx z f ln li x.2.2.2.2.2.1 w8 hy hx) (fun f x => c_lay2 y xx z f hy hx)
  · exact OP_same w (-1) (fun f x => x_lay1 y xx z f hy) (fun f x => c_lay1 y xx z f hy)
