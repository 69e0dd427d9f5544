/-! lists, the image, runs -/
theorem lnz {l ln : Nat} {x y : Int32} (h : ¬ ln = 0) : (if ln = 0 then x else y) = y := if_neg h
theorem op_list (xx y : Int32) (q : QT) (w : WV q) : OP MX10_list MX11_list [.int xx, .int y] q := by
  obtain ⟨⟨s, k, p, rz, lz⟩, ⟨im, si, ki, pj⟩, ⟨tn, tb⟩, ⟨tq, qs, qn⟩, ⟨cn, cs, ch, cv⟩, ⟨ln, li⟩⟩ := q
  have w1 : wfC s k p := w.1
  have w2 : wR s rz lz := w.2.1
  have w13 : s 13 0 ≤ 4 := w1.2.2.2.2.1
  have w8 : wL ln := w.2.2.2.2.2.2.2
  by_cases hx : inR xx 4
  · obtain ⟨l, hl, rfl⟩ := inR_of (by decide) hx
    by_cases hy : y ≤ 40
    · by_cases hn : 0 ≤ y
      · have hy1 : y.toInt ≤ (40 : Int32).toInt := Int32.le_iff_toInt_le.mp hy
        have hn1 : (0 : Int32).toInt ≤ y.toInt := Int32.le_iff_toInt_le.mp hn
        rw [show (40 : Int32).toInt = 40 from by decide] at hy1
        rw [show (0 : Int32).toInt = 0 from by decide] at hn1
        obtain ⟨n, hn41, rfl⟩ := inR_of (x := y) (n := 41) (by decide) ⟨hn1, by omega⟩
        have hn40 : n ≤ 40 := by omega
        have wz : wL (fun m => if m = l then n + 1 else ln m) := by
          intro m hm
          show (if m = l then n + 1 else ln m) ≤ 41
          by_cases e : m = l
          · rw [if_pos e]; omega
          · rw [if_neg e]; exact w8 m hm
        refine ⟨1, ((s, k, p, rz, lz), (im, si, ki, pj), (tn, tb), (tq, qs, qn), (cn, cs, ch, cv), ((fun m => if m = l then n + 1 else ln m), fun m => if m = l then (fun _ => 0) else li m)), ⟨w.1, w.2.1, w.2.2.1, w.2.2.2.1, w.2.2.2.2.1, w.2.2.2.2.2.1, w.2.2.2.2.2.2.1, wz⟩, fun f x => (x_list4 l n f hl hn40).mono ?_, fun f x => (c_list4 l n f hl hn40).mono ?_⟩
        · rintro r h ⟨e1, rfl⟩
          have hL : XL f ln li := x.2.2.2.2.2.1
          refine ⟨e1, xv_L x (fun a a1 => by rw [ur_n _ _ (by omega), u2_n _ _ _ (by omega)]) ⟨fun m hm => ?_, fun m hm i hi => ?_⟩, fun a ha => by rw [ur_n _ _ (by omega), u2_n _ _ _ (by omega)]⟩
          · rw [ur_n _ _ (by omega)]
            by_cases e : m = l
            · simp only [if_pos e]; rw [e, u2_at, if_neg (by omega), Nat.add_sub_cancel]
            · simp only [if_neg e]; rw [u2_ne _ _ _ e]; exact hL.1 m hm
          · by_cases e : m = l
            · simp only [if_pos e]; rw [e, ur_s, cpR, if_pos hi]
            · simp only [if_neg e]; rw [ur_n _ _ (by omega), u2_n _ _ _ (by omega)]; exact hL.2 m hm i hi
        · rintro r h ⟨e1, rfl⟩
          have hL : RLi f ln li := x.2.2.2.2.2.1
          refine ⟨e1, rv_L x (fun a a1 a2 => by rw [ur_n _ _ a2, u2_n _ _ _ a1]) ⟨fun m hm => ?_, fun m hm i hi => ?_⟩, fun a ha => by rw [ur_n _ _ (by omega), u2_n _ _ _ (by omega)]⟩
          · rw [ur_n _ _ (by omega)]
            by_cases e : m = l
            · simp only [if_pos e]; rw [e, u2_at, if_neg (by omega), Nat.add_sub_cancel]
            · simp only [if_neg e]; rw [u2_ne _ _ _ e]; exact hL.1 m hm
          · rw [ur_s, zf]
            by_cases e : m = l
            · simp only [if_pos e]; rw [if_pos (by rw [e]; omega)]
            · simp only [if_neg e]; rw [if_neg (by omega)]; exact hL.2 m hm i hi
      · exact OP_same w (-14) (fun f x => x_list3 l y f hl hy hn) (fun f x => c_list3 l y f hl hy hn)
    · exact OP_same w (-2) (fun f x => x_list2 l y f hl hy) (fun f x => c_list2 l y f hl hy)
  · exact OP_same w (-1) (fun f x => x_list1 xx y f hx) (fun f x => c_list1 xx y f hx)
theorem op_set (xx y v : Int32) (q : QT) (w : WV q) : OP MX10_set MX11_set [.int xx, .int y, .int v] q := by
  obtain ⟨⟨s, k, p, rz, lz⟩, ⟨im, si, ki, pj⟩, ⟨tn, tb⟩, ⟨tq, qs, qn⟩, ⟨cn, cs, ch, cv⟩, ⟨ln, li⟩⟩ := q
  have w1 : wfC s k p := w.1
  have w2 : wR s rz lz := w.2.1
  have w13 : s 13 0 ≤ 4 := w1.2.2.2.2.1
  have w8 : wL ln := w.2.2.2.2.2.2.2
  by_cases hx : inR xx 4
  · obtain ⟨l, hl, rfl⟩ := inR_of (by decide) hx
    have h41 := w8 l hl
    by_cases h0 : ln l = 0
    · exact OP_same w (-11) (fun f x => x_set2 l y v f ln li x.2.2.2.2.2.1 w8 hl h0) (fun f x => c_set2 l y v f ln li x.2.2.2.2.2.1 w8 hl h0)
    · by_cases hy : inR y (ln l - 1)
      · obtain ⟨j, hj, rfl⟩ := inR_of (by omega) hy
        refine ⟨1, ((s, k, p, rz, lz), (im, si, ki, pj), (tn, tb), (tq, qs, qn), (cn, cs, ch, cv), (ln, fun m => if m = l then upd (li l) j v else li m)), w, fun f x => (x_set4 l j v f ln li x.2.2.2.2.2.1 w8 hl h0 hj).mono ?_, fun f x => (c_set4 l j v f ln li x.2.2.2.2.2.1 w8 hl h0 hj).mono ?_⟩
        · rintro r h ⟨e1, rfl⟩
          have hL : XL f ln li := x.2.2.2.2.2.1
          refine ⟨e1, xv_L x (fun a a1 => u2_n _ _ _ (by omega)) ⟨fun m hm => ?_, fun m hm i hi => ?_⟩, fun a ha => u2_n _ _ _ (by omega)⟩
          · show u2 f (89 + l) j v 87 m = _
            rw [u2_n _ _ _ (by omega)]; exact hL.1 m hm
          · by_cases e : m = l
            · simp only [if_pos e]; rw [e, u2_s, upd, upd]
              by_cases ei : i = j
              · rw [if_pos ei, if_pos ei]
              · rw [if_neg ei, if_neg ei]; exact hL.2 l hl i hi
            · simp only [if_neg e]; rw [u2_n _ _ _ (by omega)]; exact hL.2 m hm i hi
        · rintro r h ⟨e1, rfl⟩
          have hL : RLi f ln li := x.2.2.2.2.2.1
          refine ⟨e1, rv_L x (fun a a1 a2 => u2_n _ _ _ a2) ⟨fun m hm => ?_, fun m hm i hi => ?_⟩, fun a ha => u2_n _ _ _ (by omega)⟩
          · show u2 f 111 (40 * l + j) v 110 m = _
            rw [u2_n _ _ _ (by omega)]; exact hL.1 m hm
          · by_cases e : m = l
            · simp only [if_pos e]; rw [e, upd]
              by_cases ei : i = j
              · rw [if_pos ei, ei, u2_at]
              · rw [if_neg ei, u2_ne _ _ _ (by omega)]; exact hL.2 l hl i hi
            · simp only [if_neg e]; rw [u2_ne _ _ _ (by omega)]; exact hL.2 m hm i hi
      · exact OP_same w (-13) (fun f x => x_set3 l y v f ln li x.2.2.2.2.2.1 w8 hl h0 hy) (fun f x => c_set3 l y v f ln li x.2.2.2.2.2.1 w8 hl h0 hy)
  · exact OP_same w (-1) (fun f x => x_set1 xx y v f ln li x.2.2.2.2.2.1 w8 hx) (fun f x => c_set1 xx y v f ln li x.2.2.2.2.2.1 w8 hx)
theorem op_image (q : QT) (w : WV q) : OP MX10_image MX11_image [] q := by
  obtain ⟨⟨s, k, p, rz, lz⟩, ⟨im, si, ki, pj⟩, ⟨tn, tb⟩, ⟨tq, qs, qn⟩, ⟨cn, cs, ch, cv⟩, ⟨ln, li⟩⟩ := q
  have w1 : wfC s k p := w.1
  have w2 : wR s rz lz := w.2.1
  have w13 : s 13 0 ≤ 4 := w1.2.2.2.2.1
  refine ⟨nI (s 13 0), ((s, k, p, rz, lz), (1, s, k, p), (tn, tb), (tq, qs, qn), (cn, cs, ch, cv), (ln, li)), ⟨w.1, w.2.1, Nat.le_refl 1, fun _ => w1, w.2.2.2.2⟩, fun f x => (x_image f s k p rz lz x.1 w1 im si ki pj x.2.1).mono ?_, fun f x => (c_image f s k p rz lz x.1 w1).mono ?_⟩
  · rintro r h ⟨e1, hI, e, e0⟩
    have e44 := e 44 (by omega) (by omega)
    exact ⟨e1, ⟨x.1.congr (fun a a1 a2 => e a (by omega) (by omega)), hI, x.2.2.1.congr (by rw [e44]) (e 45 (by omega) (by omega)), x.2.2.2.1.congr (fun a a1 a2 => e a (by omega) (by omega)), x.2.2.2.2.1.congr (fun a a1 a2 => e a (by omega) (by omega)), x.2.2.2.2.2.1.congr (fun a a1 a2 => e a (by omega) (by omega)), x.2.2.2.2.2.2.c2 (fun a a1 a2 => e a (by omega) (by omega))⟩, fun b hb => e b (by omega) (by omega)⟩
  · rintro r h ⟨e1, hI, e, e0⟩
    exact ⟨e1, ⟨x.1.congr (e 94 (by omega) (by omega)) (e 97 (by omega) (by omega)) (e 98 (by omega) (by omega)), hI, x.2.2.1.c2 (e0 9 (by omega)) (e 99 (by omega) (by omega)), x.2.2.2.1.congr2 (e0 15 (by omega)) (e 102 (by omega) (by omega)) (e 103 (by omega) (by omega)), x.2.2.2.2.1.c2 (e0 26 (by omega)) (e 109 (by omega) (by omega)), x.2.2.2.2.2.1.congr (e 110 (by omega) (by omega)) (e 111 (by omega) (by omega)), x.2.2.2.2.2.2.1.c2 (e 101 (by omega) (by omega)), x.2.2.2.2.2.2.2.c2 (e 96 (by omega) (by omega))⟩, fun b hb => e b (by omega) (by omega)⟩
theorem op_back (q : QT) (w : WV q) : OP MX10_back MX11_back [] q := by
  obtain ⟨⟨s, k, p, rz, lz⟩, ⟨im, si, ki, pj⟩, ⟨tn, tb⟩, ⟨tq, qs, qn⟩, ⟨cn, cs, ch, cv⟩, ⟨ln, li⟩⟩ := q
  have w1 : wfC s k p := w.1
  have w2 : wR s rz lz := w.2.1
  have w13 : s 13 0 ≤ 4 := w1.2.2.2.2.1
  have w3 : im ≤ 1 := w.2.2.1
  by_cases h0 : im = 0
  · exact OP_same w (-3) (fun f x => x_back1 f im si ki pj x.2.1 h0) (fun f x => c_back1 f im si ki pj x.2.1 h0)
  · have h1 : im = 1 := by omega
    have wi : wfC si ki pj := w.2.2.2.1 h1
    refine ⟨nI (si 13 0), ((si, ki, pj, z0, z0), (im, si, ki, pj), (tn, tb), (tq, qs, qn), (cn, cs, ch, cv), (ln, li)), ⟨wi, wR_z _, w.2.2⟩, fun f x => (x_back2 f s k p rz lz x.1 w1 im si ki pj x.2.1 wi h1).mono (fun r h e => ⟨e.1, xv_C x e.2.2 e.2.1, fr_C e.2.2⟩), fun f x => (c_back2 f im si ki pj x.2.1 h1).mono ?_⟩
    rintro r h ⟨e1, hC, e⟩
    exact ⟨e1, ⟨hC, x.2.1.congr (e 93 (by omega) (by omega) (by omega)) (e 95 (by omega) (by omega) (by omega)), x.2.2.1.congr (e 93 (by omega) (by omega) (by omega)) (e 99 (by omega) (by omega) (by omega)), x.2.2.2.1.congr (e 93 (by omega) (by omega) (by omega)) (e 102 (by omega) (by omega) (by omega)) (e 103 (by omega) (by omega) (by omega)), x.2.2.2.2.1.congr (e 93 (by omega) (by omega) (by omega)) (e 109 (by omega) (by omega) (by omega)), x.2.2.2.2.2.1.congr (e 110 (by omega) (by omega) (by omega)) (e 111 (by omega) (by omega) (by omega)), x.2.2.2.2.2.2.1.c2 (e 101 (by omega) (by omega) (by omega)), x.2.2.2.2.2.2.2.c2 (e 96 (by omega) (by omega) (by omega))⟩, fun b hb => e b (by omega) (by omega) (by omega)⟩
theorem runK_W {p : Ro} {ch : Nat → Kt → Int32} (ok : okCh ch) : ∀ (n i : Nat) (q : Kt), WK p q → q.2.2.2.2.1 ≤ 3 → WK p (runK p ch n i q).1 ∧ (runK p ch n i q).1.2.2.2.2.1 ≤ 3
  | 0, _, _, w, h3 => ⟨w, h3⟩
  | n + 1, i, q, w, h3 => by
    rw [runK]
    by_cases hc : ch i q = -1
    · rw [if_pos hc]; exact ⟨w, h3⟩
    · rw [if_neg hc]
      obtain hc1 | ⟨t, ht, h1, hc1⟩ := ok i q p w
      · exact absurd hc1 hc
      · have h4 : t < 4 := by have := w.1.2.2.2.2.1; omega
        have ec : (ch i q).toNatClampNeg = t := by rw [hc1]; exact nI_clamp (by omega)
        rw [ec]
        exact runK_W ok n (i + 1) (sK p t q) (WK_s w ht h1) (by show trQ _ _ _ _ _ ≤ 3; unfold trQ; split <;> omega)
theorem OP_run {M1 M2 : MT} {as : List Value} {s : Sg} {k p rz lz : Ro} {tq : Nat} {qs qn : Ro} {I : Nat × Sg × Ro × Ro} {tp : Nat × (Nat → Nat)} {d : Cd} {ls : (Nat → Nat) × (Nat → Ro)} (w : WV ((s, k, p, rz, lz), I, tp, (tq, qs, qn), d, ls)) (R : Kt × Nat) (hW : WK p R.1) (h3 : R.1.2.2.2.2.1 ≤ 3) (h1 : ∀ f, XV f ((s, k, p, rz, lz), I, tp, (tq, qs, qn), d, ls) → C0 M1 (.ref 0 :: as) f (fun r h => r = some (.int (nI R.2)) ∧ XK h p R.1 ∧ frK f h (s, k, rz, lz, tq, qs, qn) R.1)) (h2 : ∀ f, RV f ((s, k, p, rz, lz), I, tp, (tq, qs, qn), d, ls) → C0 M2 (.ref 93 :: as) f (fun r h => r = some (.int (nI R.2)) ∧ RK h p R.1 ∧ fT f h)) : OP M1 M2 as ((s, k, p, rz, lz), I, tp, (tq, qs, qn), d, ls) := by
  obtain ⟨⟨sz, kz, rzz, lzz, tqz, qsz, qnz⟩, n⟩ := R
  refine ⟨nI n, ((sz, kz, p, rzz, lzz), I, tp, (tqz, qsz, qnz), d, ls), ⟨hW.1, hW.2, w.2.2.1, w.2.2.2.1, w.2.2.2.2.1, h3, w.2.2.2.2.2.2⟩, fun f x => (h1 f x).mono ?_, fun f x => (h2 f x).mono (fun r h e => ⟨e.1, rv_T x e.2.2 e.2.1.1 e.2.1.2.1 e.2.1.2.2, fun b hb => e.2.2.1 b (by omega)⟩)⟩
  rintro r h ⟨e1, hX, e⟩
  rcases e with ⟨eh, eq⟩ | e
  · cases eq
    subst eh
    exact ⟨e1, x, fun _ _ => rfl⟩
  · exact ⟨e1, xv_S x e hX.1 hX.2, fr_S e⟩
theorem op_run (xx y : Int32) (q : QT) (w : WV q) : OP MX10_run MX11_run [.int xx, .int y] q := by
  obtain ⟨⟨s, k, p, rz, lz⟩, ⟨im, si, ki, pj⟩, ⟨tn, tb⟩, ⟨tq, qs, qn⟩, ⟨cn, cs, ch, cv⟩, ⟨ln, li⟩⟩ := q
  have w1 : wfC s k p := w.1
  have w2 : wR s rz lz := w.2.1
  have w13 : s 13 0 ≤ 4 := w1.2.2.2.2.1
  by_cases hx : inR xx 3
  · obtain ⟨j, hj, rfl⟩ := inR_of (by decide) hx
    by_cases hy : inR y 41
    · obtain ⟨n, hn, rfl⟩ := inR_of (by decide) hy
      have hR := runK_W (p := p) (okS_ch (nI j)) n 0 (s, k, rz, lz, tq, qs, qn) ⟨w1, w2⟩ w.2.2.2.2.2.1
      exact OP_run w (runK p (chS (nI j)) n 0 (s, k, rz, lz, tq, qs, qn)) hR.1 hR.2 (fun f x => x_run3 j n f p (s, k, rz, lz, tq, qs, qn) hj (by omega) ⟨x.1, x.2.2.2.1⟩ ⟨w1, w2⟩) (fun f x => c_run3 j n f p (s, k, rz, lz, tq, qs, qn) hj (by omega) ⟨x.1, x.2.2.2.2.2.2.2, x.2.2.2.1⟩ ⟨w1, w2⟩)
    · exact OP_same w (-2) (fun f x => x_run2 j y f hj hy) (fun f x => c_run2 j y f hj hy)
  · exact OP_same w (-1) (fun f x => x_run1 xx y f hx) (fun f x => c_run1 xx y f hx)
theorem op_follow (xx y v : Int32) (q : QT) (w : WV q) : OP MX10_follow MX11_follow [.int xx, .int y, .int v] q := by
  obtain ⟨⟨s, k, p, rz, lz⟩, ⟨im, si, ki, pj⟩, ⟨tn, tb⟩, ⟨tq, qs, qn⟩, ⟨cn, cs, ch, cv⟩, ⟨ln, li⟩⟩ := q
  have w1 : wfC s k p := w.1
  have w2 : wR s rz lz := w.2.1
  have w13 : s 13 0 ≤ 4 := w1.2.2.2.2.1
  have w8 : wL ln := w.2.2.2.2.2.2.2
  by_cases hx : inR xx 4
  · obtain ⟨l, hl, rfl⟩ := inR_of (by decide) hx
    have h41 := w8 l hl
    by_cases h0 : ln l = 0
    · exact OP_same w (-11) (fun f x => x_follow2 l y v f ln li x.2.2.2.2.2.1 w8 hl h0) (fun f x => c_follow2 l y v f ln li x.2.2.2.2.2.1 w8 hl h0)
    · by_cases hb : 0 ≤ y.toInt ∧ 0 ≤ v.toInt ∧ y.toInt + v.toInt ≤ ((ln l - 1 : Nat) : Int)
      · obtain ⟨b1, b2, b3⟩ := hb
        obtain ⟨i0, hi0, rfl⟩ := inR_of (x := y) (n := 42) (by decide) ⟨b1, by omega⟩
        obtain ⟨n, hn, rfl⟩ := inR_of (x := v) (n := 42) (by decide) ⟨b2, by omega⟩
        rw [nI_toInt (by omega), nI_toInt (by omega)] at b3
        have hb : i0 + n ≤ ln l - 1 := by omega
        have hR := runK_W (p := p) (okL_ch (li l) i0) n 0 (s, k, rz, lz, tq, qs, qn) ⟨w1, w2⟩ w.2.2.2.2.2.1
        exact OP_run w (runK p (chL (li l) i0) n 0 (s, k, rz, lz, tq, qs, qn)) hR.1 hR.2 (fun f x => x_follow4 l i0 n p (s, k, rz, lz, tq, qs, qn) f ln li x.2.2.2.2.2.1 w8 hl h0 hb ⟨x.1, x.2.2.2.1⟩ ⟨w1, w2⟩) (fun f x => c_follow4 l i0 n p (s, k, rz, lz, tq, qs, qn) f ln li x.2.2.2.2.2.1 w8 hl h0 hb ⟨x.1, x.2.2.2.2.2.2.2, x.2.2.2.1⟩ ⟨w1, w2⟩)
      · exact OP_same w (-13) (fun f x => x_follow3 l y v f ln li x.2.2.2.2.2.1 w8 hl h0 hb) (fun f x => c_follow3 l y v f ln li x.2.2.2.2.2.1 w8 hl h0 hb)
  · exact OP_same w (-1) (fun f x => x_follow1 xx y v f ln li x.2.2.2.2.2.1 w8 hx) (fun f x => c_follow1 xx y v f ln li x.2.2.2.2.2.1 w8 hx)
