/-! the calls that change the tape, the conditions, the lists, the image; runs -/
theorem xv_Tp {f h : Mem} {q : QT} (x : XV f q) (e : ∀ b, b ≠ 44 → b ≠ 45 → h b = f b) {tn : Nat} {tb : Nat → Nat} (hT : XTp h tn tb) : XV h (q.1, q.2.1, (tn, tb), q.2.2.2) := by
  have e0 := e 0 (by omega) (by omega)
  exact ⟨x.1.congr (fun a a1 a2 => e a (by omega) (by omega)), x.2.1.congr (by rw [e0]) (fun a a1 a2 => e a (by omega) (by omega)), hT, x.2.2.2.1.congr (fun a a1 a2 => e a (by omega) (by omega)), x.2.2.2.2.1.congr (fun a a1 a2 => e a (by omega) (by omega)), x.2.2.2.2.2.1.congr (fun a a1 a2 => e a (by omega) (by omega)), x.2.2.2.2.2.2.c2 (fun a a1 a2 => e a (by omega) (by omega))⟩
theorem rv_Tp {f h : Mem} {q : QT} (x : RV f q) (e : ∀ b, b ≠ 93 → b ≠ 99 → h b = f b) (e93 : ∀ j, j ≠ 9 → h 93 j = f 93 j) {tn : Nat} {tb : Nat → Nat} (hT : RTp h tn tb) : RV h (q.1, q.2.1, (tn, tb), q.2.2.2) :=
  ⟨x.1.congr (e 94 (by omega) (by omega)) (e 97 (by omega) (by omega)) (e 98 (by omega) (by omega)), x.2.1.c2 (e93 5 (by omega)) (e 95 (by omega) (by omega)), hT, x.2.2.2.1.congr2 (e93 15 (by omega)) (e 102 (by omega) (by omega)) (e 103 (by omega) (by omega)), x.2.2.2.2.1.c2 (e93 26 (by omega)) (e 109 (by omega) (by omega)), x.2.2.2.2.2.1.congr (e 110 (by omega) (by omega)) (e 111 (by omega) (by omega)), x.2.2.2.2.2.2.1.c2 (e 101 (by omega) (by omega)), x.2.2.2.2.2.2.2.c2 (e 96 (by omega) (by omega))⟩
theorem xv_N {f h : Mem} {q : QT} (x : XV f q) (e : ∀ b, b ≠ 55 → (b < 51 ∨ 54 < b) → h b = f b) (e0 : h 55 0 = 0) {d : Cd} (hN : XNc h d.1 d.2.1 d.2.2.1 d.2.2.2) : XV h (q.1, q.2.1, q.2.2.1, q.2.2.2.1, d, q.2.2.2.2.2) := by
  have e00 := e 0 (by omega) (by omega)
  have e44 := e 44 (by omega) (by omega)
  exact ⟨x.1.congr (fun a a1 a2 => e a (by omega) (by omega)), x.2.1.congr (by rw [e00]) (fun a a1 a2 => e a (by omega) (by omega)), x.2.2.1.congr (by rw [e44]) (e 45 (by omega) (by omega)), x.2.2.2.1.congr (fun a a1 a2 => e a (by omega) (by omega)), hN, x.2.2.2.2.2.1.congr (fun a a1 a2 => e a (by omega) (by omega)), x.2.2.2.2.2.2.no e0 (fun a a1 a2 => e a (by omega) (by omega))⟩
theorem rv_N {f h : Mem} {q : QT} (x : RV f q) (e : ∀ b, b ≠ 93 → b ≠ 109 → h b = f b) (e93 : ∀ j, j ≠ 26 → h 93 j = f 93 j) {d : Cd} (hN : RNc h d.1 d.2.1 d.2.2.1 d.2.2.2) : RV h (q.1, q.2.1, q.2.2.1, q.2.2.2.1, d, q.2.2.2.2.2) :=
  ⟨x.1.congr (e 94 (by omega) (by omega)) (e 97 (by omega) (by omega)) (e 98 (by omega) (by omega)), x.2.1.c2 (e93 5 (by omega)) (e 95 (by omega) (by omega)), x.2.2.1.c2 (e93 9 (by omega)) (e 99 (by omega) (by omega)), x.2.2.2.1.congr2 (e93 15 (by omega)) (e 102 (by omega) (by omega)) (e 103 (by omega) (by omega)), hN, x.2.2.2.2.2.1.congr (e 110 (by omega) (by omega)) (e 111 (by omega) (by omega)), x.2.2.2.2.2.2.1.c2 (e 101 (by omega) (by omega)), x.2.2.2.2.2.2.2.c2 (e 96 (by omega) (by omega))⟩
theorem xv_L {f h : Mem} {q : QT} (x : XV f q) (e : ∀ b, b < 86 ∨ 92 < b → h b = f b) {ln : Nat → Nat} {li : Nat → Ro} (hL : XL h ln li) : XV h (q.1, q.2.1, q.2.2.1, q.2.2.2.1, q.2.2.2.2.1, (ln, li)) := by
  have e0 := e 0 (by omega)
  have e44 := e 44 (by omega)
  exact ⟨x.1.congr (fun a a1 a2 => e a (by omega)), x.2.1.congr (by rw [e0]) (fun a a1 a2 => e a (by omega)), x.2.2.1.congr (by rw [e44]) (e 45 (by omega)), x.2.2.2.1.congr (fun a a1 a2 => e a (by omega)), x.2.2.2.2.1.congr (fun a a1 a2 => e a (by omega)), hL, x.2.2.2.2.2.2.c2 (fun a a1 a2 => e a (by omega))⟩
theorem rv_L {f h : Mem} {q : QT} (x : RV f q) (e : ∀ b, b ≠ 110 → b ≠ 111 → h b = f b) {ln : Nat → Nat} {li : Nat → Ro} (hL : RLi h ln li) : RV h (q.1, q.2.1, q.2.2.1, q.2.2.2.1, q.2.2.2.2.1, (ln, li)) :=
  ⟨x.1.congr (e 94 (by omega) (by omega)) (e 97 (by omega) (by omega)) (e 98 (by omega) (by omega)), x.2.1.congr (e 93 (by omega) (by omega)) (e 95 (by omega) (by omega)), x.2.2.1.congr (e 93 (by omega) (by omega)) (e 99 (by omega) (by omega)), x.2.2.2.1.congr (e 93 (by omega) (by omega)) (e 102 (by omega) (by omega)) (e 103 (by omega) (by omega)), x.2.2.2.2.1.congr (e 93 (by omega) (by omega)) (e 109 (by omega) (by omega)), hL, x.2.2.2.2.2.2.1.c2 (e 101 (by omega) (by omega)), x.2.2.2.2.2.2.2.c2 (e 96 (by omega) (by omega))⟩
theorem u2_at (f : Mem) (a j : Nat) (v : Int32) : u2 f a j v a j = v := by rw [u2_s]; simp [upd]
theorem u2_ne (f : Mem) (a : Nat) {j i : Nat} (v : Int32) (h : i ≠ j) : u2 f a j v a i = f a i := by rw [u2_s]; simp [upd, h]
theorem op_clear (q : QT) (w : WV q) : OP MX10_clear MX11_clear [] q := by
  obtain ⟨⟨s, k, p, rz, lz⟩, ⟨im, si, ki, pj⟩, ⟨tn, tb⟩, ⟨tq, qs, qn⟩, ⟨cn, cs, ch, cv⟩, ⟨ln, li⟩⟩ := q
  have w1 : wfC s k p := w.1
  have w2 : wR s rz lz := w.2.1
  have w13 : s 13 0 ≤ 4 := w1.2.2.2.2.1
  have wz : wT 0 tb := ⟨by decide, fun i hi => absurd hi (by omega)⟩
  refine ⟨nI tn, ((s, k, p, rz, lz), (im, si, ki, pj), (0, tb), (tq, qs, qn), (cn, cs, ch, cv), (ln, li)), ⟨w.1, w.2.1, w.2.2.1, w.2.2.2.1, wz, w.2.2.2.2.2⟩, fun f x => (x_clear f tn tb x.2.2.1).mono ?_, fun f x => (c_clear f tn tb x.2.2.1).mono ?_⟩
  · rintro r h ⟨e1, rfl⟩
    exact ⟨e1, xv_Tp x (fun b b1 b2 => u2_n f 1 0 b1) ⟨u2_at f 44 1 0, fun i hi => absurd hi (by omega)⟩, fun b hb => u2_n f 1 0 (by omega)⟩
  · rintro r h ⟨e1, rfl⟩
    exact ⟨e1, rv_Tp x (fun b b1 b2 => u2_n f 9 0 b1) (fun j hj => u2_ne f 93 0 hj) ⟨u2_at f 93 9 0, fun i hi => absurd hi (by omega)⟩, fun b hb => u2_n f 9 0 (by omega)⟩
theorem op_feed (xx : Int32) (q : QT) (w : WV q) : OP MX10_feed MX11_feed [.int xx] q := by
  obtain ⟨⟨s, k, p, rz, lz⟩, ⟨im, si, ki, pj⟩, ⟨tn, tb⟩, ⟨tq, qs, qn⟩, ⟨cn, cs, ch, cv⟩, ⟨ln, li⟩⟩ := q
  have w1 : wfC s k p := w.1
  have w2 : wR s rz lz := w.2.1
  have w13 : s 13 0 ≤ 4 := w1.2.2.2.2.1
  have w5 : wT tn tb := w.2.2.2.2.1
  by_cases hx : 1 ≤ xx.toInt ∧ xx.toInt ≤ 127
  · obtain ⟨b, hb, rfl⟩ := inR_of (x := xx) (n := 128) (by decide) ⟨by omega, by omega⟩
    rw [nI_toInt (by omega)] at hx
    have b1 : 1 ≤ b := by omega
    have b2 : b ≤ 127 := by omega
    by_cases hn : tn = 120
    · exact OP_same w (-4) (fun f x => x_feed2 b f tn tb x.2.2.1 b1 b2 hn) (fun f x => c_feed2 b f tn tb x.2.2.1 b1 b2 hn)
    · have hn2 : tn < 120 := by have := w5.1; omega
      have wz : wT (tn + 1) (fun i => if i = tn then b else tb i) := by
        refine ⟨by omega, fun i hi => ?_⟩
        show 1 ≤ (if i = tn then b else tb i) ∧ (if i = tn then b else tb i) ≤ 127
        by_cases e : i = tn
        · rw [if_pos e]; exact ⟨b1, b2⟩
        · rw [if_neg e]; exact w5.2 i (by omega)
      refine ⟨nI (tn + 1), ((s, k, p, rz, lz), (im, si, ki, pj), (tn + 1, fun i => if i = tn then b else tb i), (tq, qs, qn), (cn, cs, ch, cv), (ln, li)), ⟨w.1, w.2.1, w.2.2.1, w.2.2.2.1, wz, w.2.2.2.2.2⟩, fun f x => (x_feed3 b f tn tb x.2.2.1 b1 b2 hn2).mono ?_, fun f x => (c_feed3 b f tn tb x.2.2.1 b1 b2 hn2).mono ?_⟩
      · rintro r h ⟨e1, rfl⟩
        refine ⟨e1, xv_Tp x (fun a a1 a2 => by rw [u2_n _ _ _ a1, u2_n _ _ _ a2]) ⟨?_, fun i hi => ?_⟩, fun a ha => by rw [u2_n _ _ _ (by omega), u2_n _ _ _ (by omega)]⟩
        · rw [u2_at, nI_succ]
        · rw [u2_n _ _ _ (by decide)]
          by_cases e : i = tn
          · simp only [if_pos e]; rw [e, u2_at]
          · simp only [if_neg e]; rw [u2_ne _ _ _ e]; exact x.2.2.1.2 i (show i < tn by omega)
      · rintro r h ⟨e1, rfl⟩
        refine ⟨e1, rv_Tp x (fun a a1 a2 => by rw [u2_n _ _ _ a1, u2_n _ _ _ a2]) (fun j hj => by rw [u2_ne _ _ _ hj, u2_n _ _ _ (by decide)]) ⟨?_, fun i hi => ?_⟩, fun a ha => by rw [u2_n _ _ _ (by omega), u2_n _ _ _ (by omega)]⟩
        · rw [u2_at, nI_succ]
        · rw [u2_n _ _ _ (by decide)]
          by_cases e : i = tn
          · simp only [if_pos e]; rw [e, u2_at]
          · simp only [if_neg e]; rw [u2_ne _ _ _ e]; exact x.2.2.1.2 i (show i < tn by omega)
  · exact OP_same w (-2) (fun f x => x_feed1 xx f hx) (fun f x => c_feed1 xx f hx)
theorem op_cond (xx y v : Int32) (q : QT) (w : WV q) : OP MX10_condition MX11_condition [.int xx, .int y, .int v] q := by
  obtain ⟨⟨s, k, p, rz, lz⟩, ⟨im, si, ki, pj⟩, ⟨tn, tb⟩, ⟨tq, qs, qn⟩, ⟨cn, cs, ch, cv⟩, ⟨ln, li⟩⟩ := q
  have w1 : wfC s k p := w.1
  have w2 : wR s rz lz := w.2.1
  have w13 : s 13 0 ≤ 4 := w1.2.2.2.2.1
  have w7 : wN cn cs ch := w.2.2.2.2.2.2.1
  by_cases h1 : xx = -1
  · subst h1
    have wz : wN 0 cs ch := ⟨by decide, fun i hi => absurd hi (by omega)⟩
    refine ⟨0, ((s, k, p, rz, lz), (im, si, ki, pj), (tn, tb), (tq, qs, qn), (0, cs, ch, cv), (ln, li)), ⟨w.1, w.2.1, w.2.2.1, w.2.2.2.1, w.2.2.2.2.1, w.2.2.2.2.2.1, wz, w.2.2.2.2.2.2.2⟩, fun f x => (x_cond1 y v f).mono ?_, fun f x => (c_cond1 y v f).mono ?_⟩
    · rintro r h ⟨e1, rfl⟩
      exact ⟨e1, xv_N (d := (0, cs, ch, cv)) x (fun a a1 a2 => by rw [u2_n _ _ _ (by omega), u2_n _ _ _ a1]) (by rw [u2_n _ _ _ (by decide), u2_at]) ⟨u2_at _ 51 0 0, fun i hi => absurd hi (by omega)⟩, fun a ha => by rw [u2_n _ _ _ (by omega), u2_n _ _ _ (by omega)]⟩
    · rintro r h ⟨e1, rfl⟩
      exact ⟨e1, rv_N (d := (0, cs, ch, cv)) x (fun a a1 a2 => u2_n _ _ _ a1) (fun j hj => u2_ne _ _ _ hj) ⟨u2_at _ 93 26 0, fun i hi => absurd hi (by omega)⟩, fun a ha => u2_n _ _ _ (by omega)⟩
  · by_cases hx : inR xx 4 ∧ inR y 4
    · obtain ⟨hx1, hy⟩ := hx
      obtain ⟨c, hc, rfl⟩ := inR_of (by decide) hx1
      obtain ⟨hh, hhh, rfl⟩ := inR_of (by decide) hy
      by_cases hv : inCell v
      · by_cases hn : cn = 4
        · exact OP_same w (-4) (fun f x => x_cond4 c hh v f cn cs ch cv x.2.2.2.2.1 hc hhh hv hn) (fun f x => c_cond4 c hh v f cn cs ch cv x.2.2.2.2.1 hc hhh hv hn)
        · have hn4 : cn < 4 := by have := w7.1; omega
          have wz : wN (cn + 1) (fun i => if i = cn then c else cs i) (fun i => if i = cn then hh else ch i) := by
            refine ⟨by omega, fun i hi => ?_⟩
            show (if i = cn then c else cs i) < 4 ∧ (if i = cn then hh else ch i) < 4
            by_cases e : i = cn
            · rw [if_pos e, if_pos e]; exact ⟨hc, hhh⟩
            · rw [if_neg e, if_neg e]; exact w7.2 i (by omega)
          refine ⟨nI (cn + 1), ((s, k, p, rz, lz), (im, si, ki, pj), (tn, tb), (tq, qs, qn), (cn + 1, (fun i => if i = cn then c else cs i), (fun i => if i = cn then hh else ch i), (fun i => if i = cn then v else cv i)), (ln, li)), ⟨w.1, w.2.1, w.2.2.1, w.2.2.2.1, w.2.2.2.2.1, w.2.2.2.2.2.1, wz, w.2.2.2.2.2.2.2⟩, fun f x => (x_cond5 c hh v f cn cs ch cv x.2.2.2.2.1 hc hhh hv hn4).mono ?_, fun f x => (c_cond5 c hh v f cn cs ch cv x.2.2.2.2.1 hc hhh hv hn4).mono ?_⟩
          · rintro r h ⟨e1, rfl⟩
            refine ⟨e1, xv_N (d := (cn + 1, (fun i => if i = cn then c else cs i), (fun i => if i = cn then hh else ch i), (fun i => if i = cn then v else cv i))) x (fun a a1 a2 => by rw [u2_n _ _ _ (by omega), u2_n _ _ _ (by omega), u2_n _ _ _ (by omega), u2_n _ _ _ (by omega), u2_n _ _ _ a1]) (by rw [u2_n _ _ _ (by decide), u2_n _ _ _ (by decide), u2_n _ _ _ (by decide), u2_n _ _ _ (by decide), u2_at]) ⟨?_, fun i hi => ?_⟩, fun a ha => by rw [u2_n _ _ _ (by omega), u2_n _ _ _ (by omega), u2_n _ _ _ (by omega), u2_n _ _ _ (by omega), u2_n _ _ _ (by omega)]⟩
            · rw [u2_at, nI_succ]
            · have hN := x.2.2.2.2.1
              rw [u2_n _ _ _ (by decide : (52 : Nat) ≠ 51), u2_n _ _ _ (by decide : (53 : Nat) ≠ 51), u2_n _ _ _ (by decide : (54 : Nat) ≠ 51), u2_n _ _ _ (by decide : (52 : Nat) ≠ 54), u2_n _ _ _ (by decide : (53 : Nat) ≠ 54), u2_n _ _ _ (by decide : (52 : Nat) ≠ 53)]
              by_cases e : i = cn
              · simp only [if_pos e]
                subst e
                exact ⟨u2_at _ _ _ _, u2_at _ _ _ _, u2_at _ _ _ _⟩
              · simp only [if_neg e]
                rw [u2_ne _ _ _ e, u2_ne _ _ _ e, u2_ne _ _ _ e, u2_n _ _ _ (by decide : (53 : Nat) ≠ 52), u2_n _ _ _ (by decide : (54 : Nat) ≠ 53), u2_n _ _ _ (by decide : (54 : Nat) ≠ 52), u2_n _ _ _ (by decide : (52 : Nat) ≠ 55), u2_n _ _ _ (by decide : (53 : Nat) ≠ 55), u2_n _ _ _ (by decide : (54 : Nat) ≠ 55)]
                exact hN.2 i (show i < cn from by have hi2 : i < cn + 1 := hi; omega)
          · rintro r h ⟨e1, rfl⟩
            refine ⟨e1, rv_N (d := (cn + 1, (fun i => if i = cn then c else cs i), (fun i => if i = cn then hh else ch i), (fun i => if i = cn then v else cv i))) x (fun a a1 a2 => by rw [u2_n _ _ _ a1, u2_n _ _ _ a2, u2_n _ _ _ a2, u2_n _ _ _ a2]) (fun j hj => by rw [u2_ne _ _ _ hj, u2_n _ _ _ (by decide), u2_n _ _ _ (by decide), u2_n _ _ _ (by decide)]) ⟨?_, fun i hi => ?_⟩, fun a ha => by rw [u2_n _ _ _ (by omega), u2_n _ _ _ (by omega), u2_n _ _ _ (by omega), u2_n _ _ _ (by omega)]⟩
            · rw [u2_at, nI_succ]
            · have hN := x.2.2.2.2.1
              rw [u2_n _ _ _ (by decide : (109 : Nat) ≠ 93)]
              by_cases e : i = cn
              · simp only [if_pos e]
                subst e
                exact ⟨by rw [u2_ne _ _ _ (by omega), u2_ne _ _ _ (by omega), u2_at], by rw [u2_ne _ _ _ (by omega), u2_at], u2_at _ _ _ _⟩
              · simp only [if_neg e]
                rw [u2_ne _ _ _ (by omega), u2_ne _ _ _ (by omega), u2_ne _ _ _ (by omega), u2_ne _ _ _ (by omega), u2_ne _ _ _ (by omega), u2_ne _ _ _ (by omega), u2_ne _ _ _ (by omega), u2_ne _ _ _ (by omega), u2_ne _ _ _ (by omega)]
                exact hN.2 i (show i < cn from by have hi2 : i < cn + 1 := hi; omega)
      · exact OP_same w (-2) (fun f x => x_cond3 c hh v f hc hhh hv) (fun f x => c_cond3 c hh v f hc hhh hv)
    · exact OP_same w (-1) (fun f x => x_cond2 xx y v f h1 hx) (fun f x => c_cond2 xx y v f h1 hx)
