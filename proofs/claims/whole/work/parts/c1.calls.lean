/-! the calls, each on both sides -/
theorem OP_core {M1 M2 : MT} {as : List Value} {q : QT} (w : WV q) (a : Int32) {s : Sg} {k p rz lz : Ro} (w1 : wfC s k p) (w2 : wR s rz lz) (h1 : ∀ f, XV f q → C0 M1 (.ref 0 :: as) f (fun r h => r = some (.int a) ∧ XC h s k p rz lz ∧ fC f h)) (h2 : ∀ f, RV f q → C0 M2 (.ref 93 :: as) f (fun r h => r = some (.int a) ∧ RC h s k p rz lz ∧ fG f h)) : OP M1 M2 as q :=
  ⟨a, ((s, k, p, rz, lz), q.2), ⟨w1, w2, w.2.2⟩, fun f x => (h1 f x).mono (fun r h e => ⟨e.1, xv_C x e.2.2 e.2.1, fr_C e.2.2⟩), fun f x => (h2 f x).mono (fun r h e => ⟨e.1, rv_G x e.2.2 e.2.1, fun b hb => e.2.2 b (by omega)⟩)⟩
theorem OP_step {M1 M2 : MT} {as : List Value} {q : QT} (w : WV q) (a : Int32) {s : Sg} {k p rz lz : Ro} {tq : Nat} {qs qn : Ro} (w1 : wfC s k p) (w2 : wR s rz lz) (w3 : tq ≤ 3) (h1 : ∀ f, XV f q → C0 M1 (.ref 0 :: as) f (fun r h => r = some (.int a) ∧ XC h s k p rz lz ∧ XQ h tq qs qn ∧ fS f h)) (h2 : ∀ f, RV f q → C0 M2 (.ref 93 :: as) f (fun r h => r = some (.int a) ∧ RC h s k p rz lz ∧ R96 h ∧ RQ h tq qs qn ∧ fT f h)) : OP M1 M2 as q :=
  ⟨a, ((s, k, p, rz, lz), q.2.1, q.2.2.1, (tq, qs, qn), q.2.2.2.2), ⟨w1, w2, w.2.2.1, w.2.2.2.1, w.2.2.2.2.1, w3, w.2.2.2.2.2.2⟩, fun f x => (h1 f x).mono (fun r h e => ⟨e.1, xv_S x e.2.2.2 e.2.1 e.2.2.1, fr_S e.2.2.2⟩), fun f x => (h2 f x).mono (fun r h e => ⟨e.1, rv_T x e.2.2.2.2 e.2.1 e.2.2.1 e.2.2.2.1, fun b hb => e.2.2.2.2.1 b (by omega)⟩)⟩
theorem OP_find {M1 M2 : MT} {as : List Value} {q : QT} (w : WV q) (a : Int32) (h1 : ∀ f, XV f q → C0 M1 (.ref 0 :: as) f (fun r h => r = some (.int a) ∧ XS h q.1.2.2.1 q.2.2.2.2.1 (q.1.1, q.1.2.1) ∧ ∀ b, b < 55 ∨ 85 < b → h b = f b)) (h2 : ∀ f, RV f q → C0 M2 (.ref 93 :: as) f (fun r h => r = some (.int a) ∧ R96 h ∧ frS f h)) : OP M1 M2 as q :=
  ⟨a, q, w, fun f x => (h1 f x).mono (fun r h e => ⟨e.1, xv_F x e.2.2 e.2.1, fun b hb => e.2.2 b (by omega)⟩), fun f x => (h2 f x).mono (fun r h e => ⟨e.1, rv_F x e.2.2 e.2.1, fun b hb => e.2.2.1 b (by omega)⟩)⟩
theorem op_task (q : QT) (w : WV q) : OP MX10_task MX11_task [] q := by
  obtain ⟨⟨s, k, p, rz, lz⟩, ⟨im, si, ki, pj⟩, ⟨tn, tb⟩, ⟨tq, qs, qn⟩, ⟨cn, cs, ch, cv⟩, ⟨ln, li⟩⟩ := q
  have w1 : wfC s k p := w.1
  have w2 : wR s rz lz := w.2.1
  have w13 : s 13 0 ≤ 4 := w1.2.2.2.2.1
  by_cases hn : s 13 0 = 4
  · exact OP_same w (-4) (fun f x => x_task1 f s k p rz lz x.1 w1 hn) (fun f x => c_task1 f s k p rz lz x.1 w1 hn)
  · have hn4 : s 13 0 < 4 := by omega
    exact OP_core w (nI (s 13 0)) (wfC_task w1 hn4) (w2.c (fun t _ => s2_c s (by omega))) (fun f x => x_task2 f s k p rz lz x.1 w1 hn4) (fun f x => c_task2 f s k p rz lz x.1 w1 hn4)
theorem op_restart (q : QT) (w : WV q) : OP MX10_restart MX11_restart [] q := by
  obtain ⟨⟨s, k, p, rz, lz⟩, ⟨im, si, ki, pj⟩, ⟨tn, tb⟩, ⟨tq, qs, qn⟩, ⟨cn, cs, ch, cv⟩, ⟨ln, li⟩⟩ := q
  have w1 : wfC s k p := w.1
  have w2 : wR s rz lz := w.2.1
  have w13 : s 13 0 ≤ 4 := w1.2.2.2.2.1
  exact OP_core w (nI (s 13 0)) (wfC_anew w1) (wR_z _) (fun f x => x_restart f s k p rz lz x.1 w1) (fun f x => c_restart f s k p rz lz x.1 w1)
theorem op_missing (xx : Int32) (z : Nat) (hz : z ≤ 1) (q : QT) (w : WV q) : OP MX10_missing MX11_missing [.int xx, .int (nI z)] q := by
  obtain ⟨⟨s, k, p, rz, lz⟩, ⟨im, si, ki, pj⟩, ⟨tn, tb⟩, ⟨tq, qs, qn⟩, ⟨cn, cs, ch, cv⟩, ⟨ln, li⟩⟩ := q
  have w1 : wfC s k p := w.1
  have w2 : wR s rz lz := w.2.1
  have w13 : s 13 0 ≤ 4 := w1.2.2.2.2.1
  by_cases hx : inR xx 3
  · obtain ⟨m, hm, rfl⟩ := inR_of (by decide) hx
    by_cases hu : usedP s m
    · exact OP_same w (-3) (fun f x => x_missing2 m (nI z) f s k p rz lz x.1 w1 hm hu) (fun f x => c_missing2 m (nI z) f s k p rz lz x.1 w1 hm hu)
    · exact OP_core w (nI (s 14 m)) (wfC_miss w1 m hz) (w2.c (fun t _ => s2_c s (by omega))) (fun f x => x_missing3 m z f s k p rz lz x.1 w1 hm hu hz) (fun f x => c_missing3 m z f s k p rz lz x.1 w1 hm hu hz)
  · exact OP_same w (-1) (fun f x => x_missing1 xx (nI z) f hx) (fun f x => c_missing1 xx (nI z) f hx)
theorem op_put (xx v : Int32) (q : QT) (w : WV q) : OP MX10_put MX11_put [.int xx, .int v] q := by
  obtain ⟨⟨s, k, p, rz, lz⟩, ⟨im, si, ki, pj⟩, ⟨tn, tb⟩, ⟨tq, qs, qn⟩, ⟨cn, cs, ch, cv⟩, ⟨ln, li⟩⟩ := q
  have w1 : wfC s k p := w.1
  have w2 : wR s rz lz := w.2.1
  have w13 : s 13 0 ≤ 4 := w1.2.2.2.2.1
  by_cases hx : inR xx 4 ∧ inCell v
  · obtain ⟨hx1, hv⟩ := hx
    obtain ⟨c, hc, rfl⟩ := inR_of (by decide) hx1
    exact OP_core w (k c) (wfC_put w1 c hv) w2 (fun f x => x_put2 c v f s k p rz lz x.1 w1 hc hv) (fun f x => c_put2 c v f s k p rz lz x.1 w1 hc hv)
  · exact OP_same w (-100) (fun f x => x_put1 xx v f hx) (fun f x => c_put1 xx v f hx)
theorem op_cell (xx : Int32) (q : QT) (w : WV q) : OP MX10_cell MX11_cell [.int xx] q := by
  obtain ⟨⟨s, k, p, rz, lz⟩, ⟨im, si, ki, pj⟩, ⟨tn, tb⟩, ⟨tq, qs, qn⟩, ⟨cn, cs, ch, cv⟩, ⟨ln, li⟩⟩ := q
  have w1 : wfC s k p := w.1
  have w2 : wR s rz lz := w.2.1
  have w13 : s 13 0 ≤ 4 := w1.2.2.2.2.1
  exact OP_same w _ (fun f x => x_cell xx f s k p rz lz x.1 w1) (fun f x => c_cell xx f s k p rz lz x.1 w1)
theorem op_are (xx : Int32) (q : QT) (w : WV q) : OP MX10_are MX11_are [.int xx] q := by
  obtain ⟨⟨s, k, p, rz, lz⟩, ⟨im, si, ki, pj⟩, ⟨tn, tb⟩, ⟨tq, qs, qn⟩, ⟨cn, cs, ch, cv⟩, ⟨ln, li⟩⟩ := q
  have w1 : wfC s k p := w.1
  have w2 : wR s rz lz := w.2.1
  have w13 : s 13 0 ≤ 4 := w1.2.2.2.2.1
  exact OP_same w _ (fun f x => x_are5 xx f s k p rz lz x.1 w1) (fun f x => c_are5 xx f s k p rz lz x.1 w1)
theorem op_holds (q : QT) (w : WV q) : OP MX10_holds MX11_holds [] q := by
  obtain ⟨⟨s, k, p, rz, lz⟩, ⟨im, si, ki, pj⟩, ⟨tn, tb⟩, ⟨tq, qs, qn⟩, ⟨cn, cs, ch, cv⟩, ⟨ln, li⟩⟩ := q
  have w1 : wfC s k p := w.1
  have w2 : wR s rz lz := w.2.1
  have w13 : s 13 0 ≤ 4 := w1.2.2.2.2.1
  exact OP_same w _ (fun f x => x_holds f s k p rz lz x.1 w1 cn cs ch cv x.2.2.2.2.1 w.2.2.2.2.2.2.1) (fun f x => c_holds f s k p rz lz x.1 w1 cn cs ch cv x.2.2.2.2.1 w.2.2.2.2.2.2.1)
theorem op_get (xx y : Int32) (q : QT) (w : WV q) : OP MX10_get MX11_get [.int xx, .int y] q := by
  obtain ⟨⟨s, k, p, rz, lz⟩, ⟨im, si, ki, pj⟩, ⟨tn, tb⟩, ⟨tq, qs, qn⟩, ⟨cn, cs, ch, cv⟩, ⟨ln, li⟩⟩ := q
  have w1 : wfC s k p := w.1
  have w2 : wR s rz lz := w.2.1
  have w13 : s 13 0 ≤ 4 := w1.2.2.2.2.1
  exact OP_same w _ (fun f x => x_get xx y f ln li x.2.2.2.2.2.1 w.2.2.2.2.2.2.2) (fun f x => c_get xx y f ln li x.2.2.2.2.2.1 w.2.2.2.2.2.2.2)
theorem op_cause (xx y : Int32) (q : QT) (w : WV q) : OP MX10_cause MX11_cause [.int xx, .int y] q := by
  obtain ⟨⟨s, k, p, rz, lz⟩, ⟨im, si, ki, pj⟩, ⟨tn, tb⟩, ⟨tq, qs, qn⟩, ⟨cn, cs, ch, cv⟩, ⟨ln, li⟩⟩ := q
  have w1 : wfC s k p := w.1
  have w2 : wR s rz lz := w.2.1
  have w13 : s 13 0 ≤ 4 := w1.2.2.2.2.1
  exact OP_same w _ (fun f x => x_cause xx y f tq qs qn x.2.2.2.1 w.2.2.2.2.2.1) (fun f x => c_cause xx y f tq qs qn x.2.2.2.1 w.2.2.2.2.2.1)
theorem op_told (y : Int32) (q : QT) (w : WV q) : OP MX10_told MX11_told [.int y] q := by
  obtain ⟨⟨s, k, p, rz, lz⟩, ⟨im, si, ki, pj⟩, ⟨tn, tb⟩, ⟨tq, qs, qn⟩, ⟨cn, cs, ch, cv⟩, ⟨ln, li⟩⟩ := q
  have w1 : wfC s k p := w.1
  have w2 : wR s rz lz := w.2.1
  have w13 : s 13 0 ≤ 4 := w1.2.2.2.2.1
  exact OP_same w _ (fun f x => x_told y f s k p rz lz x.1 w1 tn tb x.2.2.1 cn cs ch cv x.2.2.2.2.1) (fun f x => c_told y f s k p rz lz x.1 w1 tn tb x.2.2.1 cn cs ch cv x.2.2.2.2.1)
theorem op_statement (xx y z : Int32) (q : QT) (w : WV q) : OP MX10_statement MX11_statement [.int xx, .int y, .int z] q := by
  obtain ⟨⟨s, k, p, rz, lz⟩, ⟨im, si, ki, pj⟩, ⟨tn, tb⟩, ⟨tq, qs, qn⟩, ⟨cn, cs, ch, cv⟩, ⟨ln, li⟩⟩ := q
  have w1 : wfC s k p := w.1
  have w2 : wR s rz lz := w.2.1
  have w13 : s 13 0 ≤ 4 := w1.2.2.2.2.1
  exact OP_same w _ (fun f x => x_statement xx y z f s k p rz lz x.1 w1) (fun f x => c_statement xx y z f s k p rz lz x.1 w1)
theorem op_gate (xx y : Int32) (q : QT) (w : WV q) : OP MX10_gate MX11_gate [.int xx, .int y] q := by
  obtain ⟨⟨s, k, p, rz, lz⟩, ⟨im, si, ki, pj⟩, ⟨tn, tb⟩, ⟨tq, qs, qn⟩, ⟨cn, cs, ch, cv⟩, ⟨ln, li⟩⟩ := q
  have w1 : wfC s k p := w.1
  have w2 : wR s rz lz := w.2.1
  have w13 : s 13 0 ≤ 4 := w1.2.2.2.2.1
  by_cases hx : inR xx 3
  · obtain ⟨m, hm, rfl⟩ := inR_of (by decide) hx
    exact OP_same w _ (fun f x => x_gate m y f s k p rz lz x.1 w1 hm) (fun f x => c_gate m y f s k p rz lz x.1 w1 hm)
  · exact OP_same w (-1) (fun f x => x_gate1 xx y f hx) (fun f x => c_gate1 xx y f hx)
theorem op_of (xx y : Int32) (q : QT) (w : WV q) : OP MX10_of MX11_of [.int xx, .int y] q := by
  obtain ⟨⟨s, k, p, rz, lz⟩, ⟨im, si, ki, pj⟩, ⟨tn, tb⟩, ⟨tq, qs, qn⟩, ⟨cn, cs, ch, cv⟩, ⟨ln, li⟩⟩ := q
  have w1 : wfC s k p := w.1
  have w2 : wR s rz lz := w.2.1
  have w13 : s 13 0 ≤ 4 := w1.2.2.2.2.1
  by_cases hx : inR xx (s 13 0)
  · obtain ⟨t, ht, rfl⟩ := inR_of (by omega) hx
    exact OP_same w _ (fun f x => x_of t y f s k p rz lz x.1 w1 ht) (fun f x => c_of t y f s k p rz lz x.1 w1 w2 ht)
  · exact OP_same w (-1) (fun f x => x_of1 xx y f s k p rz lz x.1 w1 hx) (fun f x => c_of1 xx y f s k p rz lz x.1 w1 hx)
theorem op_stands (xx y i : Int32) (q : QT) (w : WV q) : OP MX10_stands MX11_stands [.int xx, .int y, .int i] q := by
  obtain ⟨⟨s, k, p, rz, lz⟩, ⟨im, si, ki, pj⟩, ⟨tn, tb⟩, ⟨tq, qs, qn⟩, ⟨cn, cs, ch, cv⟩, ⟨ln, li⟩⟩ := q
  have w1 : wfC s k p := w.1
  have w2 : wR s rz lz := w.2.1
  have w13 : s 13 0 ≤ 4 := w1.2.2.2.2.1
  by_cases hx : inR xx 3 ∧ inR y 2
  · obtain ⟨hx1, hy⟩ := hx
    obtain ⟨m, hm, rfl⟩ := inR_of (by decide) hx1
    obtain ⟨j, hj, rfl⟩ := inR_of (by decide) hy
    match j, hj with
    | 0, _ => exact OP_same w _ (fun f x => x_standsE m i f s k p rz lz x.1 w1 hm) (fun f x => c_standsE m i f s k p rz lz x.1 w1 hm)
    | 1, _ => exact OP_same w _ (fun f x => x_standsW m i f s k p rz lz x.1 w1 hm) (fun f x => c_standsW m i f s k p rz lz x.1 w1 hm)
  · exact OP_same w (-1) (fun f x => x_stands1 xx y i f hx) (fun f x => c_stands1 xx y i f hx)
theorem op_step (xx : Int32) (q : QT) (w : WV q) : OP MX10_step MX11_step [.int xx] q := by
  obtain ⟨⟨s, k, p, rz, lz⟩, ⟨im, si, ki, pj⟩, ⟨tn, tb⟩, ⟨tq, qs, qn⟩, ⟨cn, cs, ch, cv⟩, ⟨ln, li⟩⟩ := q
  have w1 : wfC s k p := w.1
  have w2 : wR s rz lz := w.2.1
  have w13 : s 13 0 ≤ 4 := w1.2.2.2.2.1
  by_cases hx : inR xx (s 13 0)
  · obtain ⟨t, ht, rfl⟩ := inR_of (by omega) hx
    by_cases h1 : s 1 t = 0
    · have ht4 : t < 4 := by omega
      have hW := WK_s (p := p) (q := (s, k, rz, lz, tq, qs, qn)) ⟨w1, w2⟩ ht h1
      have w3 : tq ≤ 3 := w.2.2.2.2.2.1
      exact OP_step w (nI (trS s k p t 1 t)) hW.1 hW.2 (by unfold trQ; split <;> omega) (fun f x => x_step3 t f s k p rz lz x.1 w1 tq qs qn x.2.2.2.1 w2 ht h1) (fun f x => c_step3 t f s k p rz lz x.1 w1 tq qs qn x.2.2.2.2.2.2.2 x.2.2.2.1 ht h1)
    · exact OP_same w (-3) (fun f x => x_step2 t f s k p rz lz x.1 w1 ht h1) (fun f x => c_step2 t f s k p rz lz x.1 w1 ht h1)
  · exact OP_same w (-1) (fun f x => x_step1 xx f s k p rz lz x.1 w1 hx) (fun f x => c_step1 xx f s k p rz lz x.1 w1 hx)
theorem op_found (y : Int32) (q : QT) (w : WV q) : OP MX10_found MX11_found [.int y] q := by
  obtain ⟨⟨s, k, p, rz, lz⟩, ⟨im, si, ki, pj⟩, ⟨tn, tb⟩, ⟨tq, qs, qn⟩, ⟨cn, cs, ch, cv⟩, ⟨ln, li⟩⟩ := q
  have w1 : wfC s k p := w.1
  have w2 : wR s rz lz := w.2.1
  have w13 : s 13 0 ≤ 4 := w1.2.2.2.2.1
  by_cases hy : inR y 9
  · exact OP_find w _ (fun f x => x_found2 y f s k p rz lz x.1 w1 (cn, cs, ch, cv) x.2.2.2.2.1 w.2.2.2.2.2.2.1 x.2.2.2.2.2.2 hy) (fun f x => c_found2 y f s k p rz lz x.1 w1 x.2.2.2.2.2.2.2 (cn, cs, ch, cv) x.2.2.2.2.1 w.2.2.2.2.2.2.1 hy)
  · exact OP_same w (-1) (fun f x => x_found1 y f hy) (fun f x => c_found1 y f hy)
theorem op_sched (y z : Int32) (q : QT) (w : WV q) : OP MX10_schedule MX11_schedule [.int y, .int z] q := by
  obtain ⟨⟨s, k, p, rz, lz⟩, ⟨im, si, ki, pj⟩, ⟨tn, tb⟩, ⟨tq, qs, qn⟩, ⟨cn, cs, ch, cv⟩, ⟨ln, li⟩⟩ := q
  have w1 : wfC s k p := w.1
  have w2 : wR s rz lz := w.2.1
  have w13 : s 13 0 ≤ 4 := w1.2.2.2.2.1
  by_cases hy : inR y 2
  · exact OP_find w _ (fun f x => x_sched2 y z f s k p rz lz x.1 w1 (cn, cs, ch, cv) x.2.2.2.2.1 w.2.2.2.2.2.2.1 x.2.2.2.2.2.2 hy) (fun f x => c_sched2 y z f s k p rz lz x.1 w1 x.2.2.2.2.2.2.2 (cn, cs, ch, cv) x.2.2.2.2.1 w.2.2.2.2.2.2.1 hy)
  · exact OP_same w (-1) (fun f x => x_sched1 y z f hy) (fun f x => c_sched1 y z f hy)
theorem op_outc (y z : Int32) (q : QT) (w : WV q) : OP MX10_outcome MX11_outcome [.int y, .int z] q := by
  obtain ⟨⟨s, k, p, rz, lz⟩, ⟨im, si, ki, pj⟩, ⟨tn, tb⟩, ⟨tq, qs, qn⟩, ⟨cn, cs, ch, cv⟩, ⟨ln, li⟩⟩ := q
  have w1 : wfC s k p := w.1
  have w2 : wR s rz lz := w.2.1
  have w13 : s 13 0 ≤ 4 := w1.2.2.2.2.1
  by_cases hy : ¬ y < 0 ∧ inR z 4
  · obtain ⟨hy1, hz⟩ := hy
    obtain ⟨c, hc, rfl⟩ := inR_of (by decide) hz
    by_cases hy2 : inR y (oL (s 13 0) (sch p (s, k)).2.1 (sch p (s, k)).1).1
    · exact OP_find w _ (fun f x => x_outc2 y c f s k p rz lz x.1 w1 (cn, cs, ch, cv) x.2.2.2.2.1 w.2.2.2.2.2.2.1 x.2.2.2.2.2.2 hy1 hc) (fun f x => c_outc2 y c f s k p rz lz x.1 w1 x.2.2.2.2.2.2.2 (cn, cs, ch, cv) x.2.2.2.2.1 w.2.2.2.2.2.2.1 hy1 hc hy2)
    · exact OP_find w _ (fun f x => x_outc2 y c f s k p rz lz x.1 w1 (cn, cs, ch, cv) x.2.2.2.2.1 w.2.2.2.2.2.2.1 x.2.2.2.2.2.2 hy1 hc) (fun f x => c_outc3 y c f s k p rz lz x.1 w1 x.2.2.2.2.2.2.2 (cn, cs, ch, cv) x.2.2.2.2.1 w.2.2.2.2.2.2.1 hy1 hc hy2)
  · exact OP_same w (-100) (fun f x => x_outc1 y z f hy) (fun f x => c_outc1 y z f hy)
theorem op_under (xx : Int32) (q : QT) (w : WV q) : OP MX10_under MX11_under [.int xx] q := by
  obtain ⟨⟨s, k, p, rz, lz⟩, ⟨im, si, ki, pj⟩, ⟨tn, tb⟩, ⟨tq, qs, qn⟩, ⟨cn, cs, ch, cv⟩, ⟨ln, li⟩⟩ := q
  have w1 : wfC s k p := w.1
  have w2 : wR s rz lz := w.2.1
  have w13 : s 13 0 ≤ 4 := w1.2.2.2.2.1
  by_cases hx : inR xx 3
  · obtain ⟨m, hm, rfl⟩ := inR_of (by decide) hx
    exact OP_find w _ (fun f x => x_under2 m f s k p rz lz x.1 w1 (cn, cs, ch, cv) x.2.2.2.2.1 w.2.2.2.2.2.2.1 x.2.2.2.2.2.2 hm) (fun f x => c_under2 m f s k p rz lz x.1 w1 x.2.2.2.2.2.2.2 (cn, cs, ch, cv) x.2.2.2.2.1 w.2.2.2.2.2.2.1 hm)
  · exact OP_same w (-1) (fun f x => x_under1 xx f hx) (fun f x => c_under1 xx f hx)
theorem op_round (q : QT) (w : WV q) : OP MX10_round MX11_round [] q := by
  obtain ⟨⟨s, k, p, rz, lz⟩, ⟨im, si, ki, pj⟩, ⟨tn, tb⟩, ⟨tq, qs, qn⟩, ⟨cn, cs, ch, cv⟩, ⟨ln, li⟩⟩ := q
  have w1 : wfC s k p := w.1
  have w2 : wR s rz lz := w.2.1
  have w13 : s 13 0 ≤ 4 := w1.2.2.2.2.1
  exact OP_find w _ (fun f x => x_round f s k p rz lz x.1 w1 (cn, cs, ch, cv) x.2.2.2.2.1 w.2.2.2.2.2.2.1 x.2.2.2.2.2.2) (fun f x => c_round f s k p rz lz x.1 w1 x.2.2.2.2.2.2.2 (cn, cs, ch, cv) x.2.2.2.2.1 w.2.2.2.2.2.2.1)
