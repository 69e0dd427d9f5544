/-! the search: what is found; tables by open places -/
abbrev Pt : Type := Sg × Ro
abbrev fl (u : Pt) : Ro := flat u.1 u.2
abbrev lkR (a b : Ro) : Prop := ∀ j, j < 52 → a j = b j
/-- how many, the pictures, from which, by whom, how deep, whether all -/
abbrev Sr : Type := Nat × (Nat → Pt) × (Nat → Nat) × (Nat → Nat) × (Nat → Nat) × Nat
def upN {α : Type} (g : Nat → α) (n : Nat) (x : α) : Nat → α := fun i => if i = n then x else g i
theorem upN_s {α : Type} (g : Nat → α) (n : Nat) (x : α) : upN g n x n = x := if_pos rfl
theorem upN_n {α : Type} (g : Nat → α) {n i : Nat} (x : α) (h : i ≠ n) : upN g n x i = g i := if_neg h
def anyL (q : Sr) (u : Pt) : Prop := ∃ j, j < q.1 ∧ lk (q.2.1 j) u
def addQ (q : Sr) (i t d : Nat) (u : Pt) : Sr := (q.1 + 1, upN q.2.1 q.1 u, upN q.2.2.1 q.1 i, upN q.2.2.2.1 q.1 t, upN q.2.2.2.2.1 q.1 d, 1)
def endQ (q : Sr) : Sr := (q.1, q.2.1, q.2.2.1, q.2.2.2.1, q.2.2.2.2.1, 0)
def fnd (q : Sr) (i t d : Nat) (u : Pt) : Sr :=
  if ∃ j, j < q.1 ∧ lkR (fl (q.2.1 j)) (fl u) then q else if q.1 < 600 then addQ q i t d u else endQ q
theorem fnd_l {q : Sr} {u : Pt} (i t d : Nat) (h : anyL q u) : fnd q i t d u = q := if_pos h
theorem fnd_a {q : Sr} {u : Pt} (i t d : Nat) (h : ¬ anyL q u) (h6 : q.1 < 600) : fnd q i t d u = addQ q i t d u := (if_neg h).trans (if_pos h6)
theorem fnd_e {q : Sr} {u : Pt} (i t d : Nat) (h : ¬ anyL q u) (h6 : ¬ q.1 < 600) : fnd q i t d u = endQ q := (if_neg h).trans (if_neg h6)
def nx (p : Ro) (u : Pt) (t : Nat) : Pt := (trS u.1 u.2 p t, trK u.1 u.2 p t)
def one (p : Ro) (i t : Nat) (q : Sr) : Sr := if (q.2.1 i).1 1 t = 0 then fnd q i t (q.2.2.2.2.1 i + 1) (nx p (q.2.1 i) t) else q
def inl (p : Ro) (i : Nat) : Nat → Nat → Sr → Sr
  | 0, _, q => q
  | m + 1, t, q => if q.2.2.2.2.2 = 0 then q else inl p i m (t + 1) (one p i t q)
def out (p : Ro) (n : Nat) : Nat → Nat → Sr → Sr
  | 0, _, q => q
  | m + 1, i, q => if i < q.1 ∧ ¬ q.2.2.2.2.2 = 0 then out p n m (i + 1) (inl p i n 0 q) else q
def q0 (u : Pt) : Sr := (1, fun _ => u, fun _ => 0, fun _ => 0, fun _ => 0, 1)
def sch (p : Ro) (u : Pt) : Sr := out p (u.1 13 0) 600 0 (q0 u)
/-- what holds of all that is found -/
def gW (p : Ro) (u v : Pt) : Prop := wfC v.1 v.2 p ∧ v.1 13 0 = u.1 13 0 ∧ (∀ m, v.1 14 m = u.1 14 m) ∧ ∀ t, v.1 16 t = u.1 16 t
theorem gW.B {p : Ro} {u v : Pt} (h : gW p u v) : wB v.1 v.2 := ⟨h.1.1, fun t ht => by have := (h.1.2.1 t ht).1; have := (h.1.2.1 t ht).2.1; omega, h.1.2.2.1⟩
theorem gW.nx {p : Ro} {u v : Pt} (h : gW p u v) {t : Nat} (ht : t < u.1 13 0) (h1 : v.1 1 t = 0) : gW p u (nx p v t) := by
  have h4 := h.1.2.2.2.2.1
  have e := trS_hi (k := v.2) h.1.1 h.1.2.1 h.1.2.2.1 (show t < 4 by rw [← h.2.1] at ht; omega) h1
  exact ⟨wfC_step h.1 (by rw [h.2.1]; exact ht) h1, (e 13 0 (by decide) (by decide)).trans h.2.1, fun m => (e 14 m (by decide) (by decide)).trans (h.2.2.1 m), fun x => (e 16 x (by decide) (by decide)).trans (h.2.2.2 x)⟩
def Jq (p : Ro) (u : Pt) (q : Sr) : Prop := 1 ≤ q.1 ∧ q.1 ≤ 600 ∧ q.2.2.2.2.2 ≤ 1 ∧ ∀ j, j < q.1 → gW p u (q.2.1 j)
theorem Jq_0 {p : Ro} {u : Pt} (w : wfC u.1 u.2 p) : Jq p u (q0 u) := ⟨Nat.le_refl _, by show 1 ≤ 600; omega, Nat.le_refl _, fun _ _ => ⟨w, rfl, fun _ => rfl, fun _ => rfl⟩⟩
theorem Jq_f {p : Ro} {u : Pt} {q : Sr} (h : Jq p u q) (i t d : Nat) {v : Pt} (hv : gW p u v) : Jq p u (fnd q i t d v) := by
  by_cases hl : anyL q v
  · rw [fnd_l _ _ _ hl]; exact h
  · by_cases h6 : q.1 < 600
    · rw [fnd_a _ _ _ hl h6]
      refine ⟨by show 1 ≤ q.1 + 1; omega, by show q.1 + 1 ≤ 600; omega, Nat.le_refl _, fun j hj => ?_⟩
      have hj : j < q.1 + 1 := hj
      show gW p u (upN q.2.1 q.1 v j)
      by_cases e : j = q.1
      · rw [e, upN_s]; exact hv
      · rw [upN_n _ _ e]; exact h.2.2.2 j (by omega)
    · rw [fnd_e _ _ _ hl h6]; exact ⟨h.1, h.2.1, by show 0 ≤ 1; omega, h.2.2.2⟩
theorem Jq_1 {p : Ro} {u : Pt} {q : Sr} (h : Jq p u q) {i t : Nat} (hi : i < q.1) (ht : t < u.1 13 0) : Jq p u (one p i t q) := by
  unfold one
  by_cases e : (q.2.1 i).1 1 t = 0
  · rw [if_pos e]; exact Jq_f h _ _ _ ((h.2.2.2 i hi).nx ht e)
  · rw [if_neg e]; exact h
/-- what is found stays -/
def gr (q q' : Sr) : Prop := q.1 ≤ q'.1 ∧ ∀ j, j < q.1 → q'.2.1 j = q.2.1 j ∧ q'.2.2.1 j = q.2.2.1 j ∧ q'.2.2.2.1 j = q.2.2.2.1 j ∧ q'.2.2.2.2.1 j = q.2.2.2.2.1 j
theorem gr_r (q : Sr) : gr q q := ⟨Nat.le_refl _, fun _ _ => ⟨rfl, rfl, rfl, rfl⟩⟩
theorem gr_t {a b c : Sr} (h : gr a b) (h' : gr b c) : gr a c := ⟨Nat.le_trans h.1 h'.1, fun j hj => by
  have x := h.2 j hj
  have y := h'.2 j (Nat.lt_of_lt_of_le hj h.1)
  exact ⟨y.1.trans x.1, y.2.1.trans x.2.1, y.2.2.1.trans x.2.2.1, y.2.2.2.trans x.2.2.2⟩⟩
theorem gr_f (q : Sr) (i t d : Nat) (v : Pt) : gr q (fnd q i t d v) := by
  by_cases hl : anyL q v
  · rw [fnd_l _ _ _ hl]; exact gr_r q
  · by_cases h6 : q.1 < 600
    · rw [fnd_a _ _ _ hl h6]
      exact ⟨Nat.le_succ _, fun j hj => ⟨upN_n _ _ (by omega), upN_n _ _ (by omega), upN_n _ _ (by omega), upN_n _ _ (by omega)⟩⟩
    · rw [fnd_e _ _ _ hl h6]; exact ⟨Nat.le_refl _, fun _ _ => ⟨rfl, rfl, rfl, rfl⟩⟩
theorem gr_1 (p : Ro) (i t : Nat) (q : Sr) : gr q (one p i t q) := by
  unfold one
  split
  · exact gr_f _ _ _ _ _
  · exact gr_r q
theorem gr_i (p : Ro) (i : Nat) : ∀ (m t : Nat) (q : Sr), gr q (inl p i m t q)
  | 0, _, q => gr_r q
  | m + 1, t, q => by
    unfold inl
    split
    · exact gr_r q
    · exact gr_t (gr_1 p i t q) (gr_i p i m (t + 1) _)
theorem Jq_i {p : Ro} {u : Pt} {i : Nat} : ∀ (m t : Nat) (q : Sr), Jq p u q → i < q.1 → m + t = u.1 13 0 → Jq p u (inl p i m t q)
  | 0, _, q, h, _, _ => h
  | m + 1, t, q, h, hi, ht => by
    unfold inl
    split
    · exact h
    · exact Jq_i m (t + 1) _ (Jq_1 h hi (by omega)) (Nat.lt_of_lt_of_le hi (gr_1 p i t q).1) (by omega)
theorem Jq_o {p : Ro} {u : Pt} : ∀ (m i : Nat) (q : Sr), Jq p u q → Jq p u (out p (u.1 13 0) m i q)
  | 0, _, q, h => h
  | m + 1, i, q, h => by
    unfold out
    split
    · rename_i c; exact Jq_o m (i + 1) _ (Jq_i _ 0 q h c.1 (by omega))
    · exact h
theorem Jq_s {p : Ro} {u : Pt} (w : wfC u.1 u.2 p) : Jq p u (sch p u) := Jq_o _ _ _ (Jq_0 w)
-- tables
theorem pig : ∀ (m n : Nat) (φ : Nat → Nat), (∀ x, x < n → φ x < m) → (∀ x y, x < n → y < n → φ x = φ y → x = y) → n ≤ m
  | 0, n, φ, h, _ => Nat.le_of_not_lt (fun hn => absurd (h 0 hn) (by omega))
  | m + 1, 0, φ, _, _ => Nat.zero_le _
  | m + 1, n + 1, φ, h, inj => by
    refine Nat.succ_le_succ (pig m n (fun x => if φ x = m then φ n else φ x) (fun x hx => ?_) (fun x y hx hy e => ?_))
    · have hn := h n (by omega)
      have hxm := h x (by omega)
      split
      · rename_i q
        have : φ n ≠ m := fun q2 => by have := inj x n (by omega) (by omega) (q.trans q2.symm); omega
        omega
      · omega
    · by_cases qx : φ x = m
      · by_cases qy : φ y = m
        · exact inj x y (by omega) (by omega) (qx.trans qy.symm)
        · rw [if_pos qx, if_neg qy] at e
          have := inj n y (by omega) (by omega) e; omega
      · by_cases qy : φ y = m
        · rw [if_neg qx, if_pos qy] at e
          have := inj x n (by omega) (by omega) e; omega
        · rw [if_neg qx, if_neg qy] at e
          exact inj x y (by omega) (by omega) e
theorem least {P : Nat → Prop} (n : Nat) (h : P n) : ∃ d, d ≤ n ∧ P d ∧ ∀ e, e < d → ¬ P e := by
  induction n using Nat.strongRecOn with
  | _ n ih =>
    by_cases q : ∃ e, e < n ∧ P e
    · obtain ⟨e, he, pe⟩ := q
      obtain ⟨d, d1, d2, d3⟩ := ih e he pe
      exact ⟨d, by omega, d2, d3⟩
    · exact ⟨n, Nat.le_refl _, h, fun e he pe => q ⟨e, he, pe⟩⟩
def tB (g : Ro) (N : Nat) (h : Nat → Nat) : Prop := (∀ x, x < 2048 → ∃ v, v ≤ N ∧ g x = nI v) ∧ (∀ x y v, x < 2048 → y < 2048 → 1 ≤ v → v ≤ N → g x = nI v → g y = nI v → x = y) ∧ ∀ j, j < N → ∃ d, d < 2048 ∧ g ((h j + d) % 2048) = nI (j + 1) ∧ ∀ e, e < d → ¬ g ((h j + e) % 2048) = 0
theorem tB_0 {g : Ro} (h0 : ∀ x, x < 2048 → g x = 0) (h : Nat → Nat) : tB g 0 h := ⟨fun x hx => ⟨0, Nat.le_refl _, h0 x hx⟩, fun _ _ v _ _ a b => by omega, fun j hj => by omega⟩
/-- the first open place from a on -/
def opn (g : Ro) (a D : Nat) : Prop := D < 2048 ∧ g ((a + D) % 2048) = 0 ∧ ∀ e, e < D → ¬ g ((a + e) % 2048) = 0
theorem tB.fst {g : Ro} {N : Nat} {h : Nat → Nat} (t : tB g N h) (hN : N ≤ 600) (a : Nat) : ∃ D, opn g a D := by
  have ex : ∃ d, d < 2048 ∧ g ((a + d) % 2048) = 0 := by
    refine Classical.byContradiction (fun no => ?_)
    have all : ∀ x, x < 2048 → ¬ g x = 0 := fun x hx e => no ⟨(x + 2048 - a % 2048) % 2048, Nat.mod_lt _ (by decide), by rw [show (a + (x + 2048 - a % 2048) % 2048) % 2048 = x by omega]; exact e⟩
    have ch : ∀ x, ∃ v, x < 2048 → 1 ≤ v ∧ v ≤ N ∧ g x = nI v := fun x => by
      by_cases hx : x < 2048
      · obtain ⟨v, v1, v2⟩ := t.1 x hx
        refine ⟨v, fun _ => ⟨?_, v1, v2⟩⟩
        rcases Nat.eq_zero_or_pos v with z | z
        · rw [z] at v2; exact absurd v2 (all x hx)
        · exact z
      · exact ⟨0, fun q => absurd q hx⟩
    obtain ⟨φ, hφ⟩ := Classical.axiomOfChoice ch
    have := pig N 2048 (fun x => φ x - 1) (fun x hx => by have := hφ x hx; omega) (fun x y hx hy e => by
      have a1 := hφ x hx
      have a2 := hφ y hy
      have e2 : φ x = φ y := by omega
      exact t.2.1 x y (φ x) hx hy a1.1 a1.2.1 a1.2.2 (by rw [e2]; exact a2.2.2))
    omega
  obtain ⟨d, d1, d2⟩ := ex
  obtain ⟨D, D1, D2, D3⟩ := least (P := fun d => g ((a + d) % 2048) = 0) d d2
  exact ⟨D, by omega, D2, D3⟩
theorem tB.hit {g : Ro} {N : Nat} {h : Nat → Nat} (t : tB g N h) (hN : N ≤ 600) {a D : Nat} (o : opn g a D) {j : Nat} (hj : j < N) (ha : a = h j) : ∃ e, e < D ∧ g ((a + e) % 2048) = nI (j + 1) := by
  obtain ⟨d, d1, d2, d3⟩ := t.2.2 j hj
  rw [← ha] at d2 d3
  refine ⟨d, ?_, d2⟩
  rcases Nat.lt_trichotomy d D with q | q | q
  · exact q
  · rw [q, o.2.1] at d2
    exact absurd (nI_inj (a := 0) (by decide) (by omega) d2) (by omega)
  · exact absurd o.2.1 (d3 D q)
theorem tB.ins {g : Ro} {N : Nat} {h : Nat → Nat} (t : tB g N h) (hN : N ≤ 600) {a D : Nat} (o : opn g a D) : tB (upd g ((a + D) % 2048) (nI (N + 1))) (N + 1) (upN h N a) := by
  have n0 : ∀ v, 1 ≤ v → v ≤ 601 → ¬ nI v = 0 := fun v v1 v2 e => by have := nI_inj (b := 0) (by omega) (by decide) e; omega
  refine ⟨fun x hx => ?_, fun x y v hx hy v1 v2 ex ey => ?_, fun j hj => ?_⟩
  · unfold upd
    split
    · exact ⟨N + 1, Nat.le_refl _, rfl⟩
    · obtain ⟨v, v1, v2⟩ := t.1 x hx; exact ⟨v, by omega, v2⟩
  · have key : ∀ z, z < 2048 → ¬ z = (a + D) % 2048 → ¬ g z = nI (N + 1) := fun z hz _ e => by
      obtain ⟨w, w1, w2⟩ := t.1 z hz
      have := nI_inj (by omega) (by omega) (w2.symm.trans e)
      omega
    by_cases px : x = (a + D) % 2048
    · by_cases py : y = (a + D) % 2048
      · rw [px, py]
      · rw [px, upd_s] at ex
        rw [upd_n _ _ py, ← ex] at ey
        exact absurd ey (key y hy py)
    · rw [upd_n _ _ px] at ex
      by_cases py : y = (a + D) % 2048
      · rw [py, upd_s] at ey
        rw [← ey] at ex
        exact absurd ex (key x hx px)
      · rw [upd_n _ _ py] at ey
        obtain ⟨w, w1, w2⟩ := t.1 x hx
        have := nI_inj (by omega) (by omega) (w2.symm.trans ex)
        exact t.2.1 x y v hx hy v1 (by omega) ex ey
  · by_cases e : j = N
    · rw [e, upN_s]
      refine ⟨D, o.1, upd_s _ _ _, fun e he => ?_⟩
      unfold upd
      split
      · exact n0 _ (by omega) (by omega)
      · exact o.2.2 e he
    · obtain ⟨d, d1, d2, d3⟩ := t.2.2 j (by omega)
      rw [upN_n _ _ e]
      refine ⟨d, d1, ?_, fun e' he => ?_⟩
      · rw [upd_n _ _ (fun z => by rw [z, o.2.1] at d2; exact absurd d2.symm (n0 _ (by omega) (by omega)))]; exact d2
      · unfold upd
        split
        · exact n0 _ (by omega) (by omega)
        · exact d3 e' he
theorem nxt (a e : Nat) : nI ((a + e) % 2048) + 1 &&& 2047 = nI ((a + (e + 1)) % 2048) := by
  rw [← nI_succ, show (2047 : Int32) = nI (2 ^ 11 - 1) from rfl, and_m _ 11 (by decide) (by omega)]
  congr 1; omega
