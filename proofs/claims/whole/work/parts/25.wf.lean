/-! what holds of every picture that the law comes to -/
def nst (s : Sg) (t : Nat) : Prop := ∀ r, r < 6 → ∀ i, i < 4 → s (7 + r) i ≠ t + 1
def wfL (s : Sg) : Prop := ∀ r, r < 6 → s 5 r ≤ 4 ∧ ∀ i, i < 4 → (i < s 5 r → 1 ≤ s (7 + r) i ∧ s (7 + r) i ≤ 4) ∧ (s 5 r ≤ i → s (7 + r) i = 0)
def wfD (s : Sg) : Prop := ∀ r r', r < 6 → r' < 6 → ∀ i i', i < 4 → i' < 4 → s (7 + r) i = s (7 + r') i' → s (7 + r) i ≠ 0 → r = r' ∧ i = i'
def wfS (s : Sg) : Prop := ∀ r, r < 6 → ∀ i, i < 4 → s (7 + r) i ≠ 0 → s 1 (s (7 + r) i - 1) ≠ 0 ∧ 1 ≤ s 2 (s (7 + r) i - 1)
def wfT (s : Sg) : Prop := ∀ t, t < 4 → s 1 t ≤ 4 ∧ s 2 t ≤ 9
def wfM (s : Sg) : Prop := ∀ m, m < 3 → s 3 m ≤ 4 ∧ s 4 m ≤ 9 ∧ (s 3 m ≠ 0 → 1 ≤ s 4 m)
def wf (s : Sg) : Prop := wfL s ∧ wfD s ∧ wfS s ∧ wfT s ∧ wfM s
theorem wfL_c {s s' : Sg} (h5 : ∀ r, r < 6 → s' 5 r = s 5 r) (h7 : ∀ r, r < 6 → ∀ i, i < 4 → s' (7 + r) i = s (7 + r) i) (h : wfL s) : wfL s' := by
  intro r hr
  rw [h5 r hr]
  refine ⟨(h r hr).1, fun i hi => ?_⟩
  rw [h7 r hr i hi]
  exact (h r hr).2 i hi
theorem wfD_c {s s' : Sg} (h7 : ∀ r, r < 6 → ∀ i, i < 4 → s' (7 + r) i = s (7 + r) i) (h : wfD s) : wfD s' := by
  intro r r' hr hr' i i' hi hi'
  rw [h7 r hr i hi, h7 r' hr' i' hi']
  exact h r r' hr hr' i i' hi hi'
/-- a READY task stands nowhere -/
theorem wf.nst {s : Sg} (h : wf s) {t : Nat} (ht : s 1 t = 0) : nst s t := by
  intro r hr i hi e
  have h1 := (h.2.2.1 r hr i hi (by omega)).1
  rw [e] at h1
  exact h1 ht
theorem row3 {s : Sg} (hL : wfL s) (hD : wfD s) {t r : Nat} (ht : t < 4) (hr : r < 6) (hn : nst s t) : s 5 r ≤ 3 := by
  obtain ⟨h4, hs⟩ := hL r hr
  rcases Nat.lt_or_ge (s 5 r) 4 with h | h
  · omega
  · have a0 := (hs 0 (by omega)).1 (by omega)
    have a1 := (hs 1 (by omega)).1 (by omega)
    have a2 := (hs 2 (by omega)).1 (by omega)
    have a3 := (hs 3 (by omega)).1 (by omega)
    have n0 := hn r hr 0 (by omega)
    have n1 := hn r hr 1 (by omega)
    have n2 := hn r hr 2 (by omega)
    have n3 := hn r hr 3 (by omega)
    have d01 : s (7 + r) 0 ≠ s (7 + r) 1 := fun e => absurd (hD r r hr hr 0 1 (by omega) (by omega) e (by omega)).2 (by omega)
    have d02 : s (7 + r) 0 ≠ s (7 + r) 2 := fun e => absurd (hD r r hr hr 0 2 (by omega) (by omega) e (by omega)).2 (by omega)
    have d03 : s (7 + r) 0 ≠ s (7 + r) 3 := fun e => absurd (hD r r hr hr 0 3 (by omega) (by omega) e (by omega)).2 (by omega)
    have d12 : s (7 + r) 1 ≠ s (7 + r) 2 := fun e => absurd (hD r r hr hr 1 2 (by omega) (by omega) e (by omega)).2 (by omega)
    have d13 : s (7 + r) 1 ≠ s (7 + r) 3 := fun e => absurd (hD r r hr hr 1 3 (by omega) (by omega) e (by omega)).2 (by omega)
    have d23 : s (7 + r) 2 ≠ s (7 + r) 3 := fun e => absurd (hD r r hr hr 2 3 (by omega) (by omega) e (by omega)).2 (by omega)
    omega
theorem comes_5 (s : Sg) (r t r' : Nat) : comesA s r t 5 r' = if r' = r then s 5 r + 1 else s 5 r' := by
  simp [comesA, s2, n75, n75']
theorem comes_7 (s : Sg) (r t r' i : Nat) : comesA s r t (7 + r') i = if r' = r ∧ i = s 5 r then t + 1 else s (7 + r') i := by
  simp [comesA, s2, n75, n75']
theorem comes_c (s : Sg) (r t i : Nat) {c : Nat} (h : c < 5) : comesA s r t c i = s c i := by
  simp only [comesA, s2]
  rw [if_neg (by omega), if_neg (by omega)]
theorem comes_hi (s : Sg) {r t i c : Nat} (hr : r < 6) (h : 13 ≤ c) : comesA s r t c i = s c i := by
  simp only [comesA, s2]
  rw [if_neg (by omega), if_neg (by omega)]
theorem comes_x (s : Sg) {r t i c : Nat} (hr : r < 6) (h : c = 0 ∨ 13 ≤ c) : comesA s r t c i = s c i := by
  rcases h with h | h
  · exact comes_c s r t i (by omega)
  · exact comes_hi s hr h
theorem wf_comes {s : Sg} (hL : wfL s) (hD : wfD s) (hS : wfS s) {t r : Nat} (ht : t < 4) (hr : r < 6) (hn : nst s t) (h1 : s 1 t ≠ 0) (h2 : 1 ≤ s 2 t) : wfL (comesA s r t) ∧ wfD (comesA s r t) ∧ wfS (comesA s r t) := by
  have h3 := row3 hL hD ht hr hn
  refine ⟨fun r' hr' => ?_, fun r1 r2 hr1 hr2 i1 i2 hi1 hi2 => ?_, fun r' hr' i hi => ?_⟩
  · rw [comes_5]
    by_cases e : r' = r
    · subst e
      rw [if_pos rfl]
      refine ⟨by omega, fun i hi => ?_⟩
      rw [comes_7]
      by_cases ei : i = s 5 r'
      · subst ei; simp; omega
      · rw [if_neg (fun q => ei q.2)]
        have := (hL r' hr').2 i hi
        exact ⟨fun q => this.1 (by omega), fun q => this.2 (by omega)⟩
    · rw [if_neg e]
      refine ⟨(hL r' hr').1, fun i hi => ?_⟩
      rw [comes_7, if_neg (fun q => e q.1)]
      exact (hL r' hr').2 i hi
  · rw [comes_7, comes_7]
    by_cases e1 : r1 = r ∧ i1 = s 5 r <;> by_cases e2 : r2 = r ∧ i2 = s 5 r
    · intro _ _; exact ⟨e1.1.trans e2.1.symm, e1.2.trans e2.2.symm⟩
    · rw [if_pos e1, if_neg e2]; intro e _; exact absurd e.symm (hn r2 hr2 i2 hi2)
    · rw [if_neg e1, if_pos e2]; intro e _; exact absurd e (hn r1 hr1 i1 hi1)
    · rw [if_neg e1, if_neg e2]; exact hD r1 r2 hr1 hr2 i1 i2 hi1 hi2
  · rw [comes_7, comes_c s r t _ (by omega), comes_c s r t _ (by omega)]
    by_cases e : r' = r ∧ i = s 5 r
    · rw [if_pos e]; intro _; simpa using ⟨h1, h2⟩
    · rw [if_neg e]; exact hS r' hr' i hi
theorem leaves_5 (s : Sg) (r r' : Nat) : leavesA s r 5 r' = if r' = r then s 5 r - 1 else s 5 r' := by
  simp [leavesA, sr, s2, n75]
theorem leaves_7 (s : Sg) (r r' i : Nat) : leavesA s r (7 + r') i = if r' = r then (if i < s 5 r - 1 then s (7 + r) (i + 1) else 0) else s (7 + r') i := by
  simp [leavesA, sr, s2, n75']
theorem leaves_c (s : Sg) (r i : Nat) {c : Nat} (h : c < 5) : leavesA s r c i = s c i := by
  simp only [leavesA, sr, s2]
  rw [if_neg (by omega), if_neg (by omega)]
theorem leaves_hi (s : Sg) {r i c : Nat} (hr : r < 6) (h : 13 ≤ c) : leavesA s r c i = s c i := by
  simp only [leavesA, sr, s2]
  rw [if_neg (by omega), if_neg (by omega)]
theorem wf_leaves {s : Sg} (hL : wfL s) (hD : wfD s) (hS : wfS s) {r : Nat} (hr : r < 6) (hl : 1 ≤ s 5 r) : wfL (leavesA s r) ∧ wfD (leavesA s r) ∧ wfS (leavesA s r) ∧ nst (leavesA s r) (s (7 + r) 0 - 1) := by
  have h4 := (hL r hr).1
  refine ⟨fun r' hr' => ?_, fun r1 r2 hr1 hr2 i1 i2 hi1 hi2 => ?_, fun r' hr' i hi => ?_, fun r' hr' i hi => ?_⟩
  · rw [leaves_5]
    by_cases e : r' = r
    · subst e
      rw [if_pos rfl]
      refine ⟨by omega, fun i hi => ?_⟩
      rw [leaves_7, if_pos rfl]
      by_cases ei : i < s 5 r' - 1
      · rw [if_pos ei]; exact ⟨fun _ => ((hL r' hr').2 (i + 1) (by omega)).1 (by omega), fun q => by omega⟩
      · rw [if_neg ei]; exact ⟨fun q => by omega, fun _ => rfl⟩
    · rw [if_neg e]
      refine ⟨(hL r' hr').1, fun i hi => ?_⟩
      rw [leaves_7, if_neg e]
      exact (hL r' hr').2 i hi
  · rw [leaves_7, leaves_7]
    by_cases e1 : r1 = r <;> by_cases e2 : r2 = r
    · subst e1; subst e2
      rw [if_pos rfl, if_pos rfl]
      by_cases c1 : i1 < s 5 r2 - 1 <;> by_cases c2 : i2 < s 5 r2 - 1
      · rw [if_pos c1, if_pos c2]; intro e n
        have := hD r2 r2 hr1 hr1 (i1 + 1) (i2 + 1) (by omega) (by omega) e n
        exact ⟨rfl, by omega⟩
      · rw [if_pos c1, if_neg c2]; intro e n; exact absurd e n
      · rw [if_neg c1]; intro _ n; exact absurd rfl n
      · rw [if_neg c1]; intro _ n; exact absurd rfl n
    · subst e1
      rw [if_pos rfl, if_neg e2]
      by_cases c1 : i1 < s 5 r1 - 1
      · rw [if_pos c1]; intro e n
        exact absurd (hD r1 r2 hr1 hr2 (i1 + 1) i2 (by omega) hi2 e n).1.symm e2
      · rw [if_neg c1]; intro _ n; exact absurd rfl n
    · subst e2
      rw [if_neg e1, if_pos rfl]
      by_cases c1 : i2 < s 5 r2 - 1
      · rw [if_pos c1]; intro e n
        exact absurd (hD r1 r2 hr1 hr2 i1 (i2 + 1) hi1 (by omega) e n).1 e1
      · rw [if_neg c1]; intro e n; exact absurd e n
    · rw [if_neg e1, if_neg e2]; exact hD r1 r2 hr1 hr2 i1 i2 hi1 hi2
  · rw [leaves_7, leaves_c s r _ (by omega), leaves_c s r _ (by omega)]
    by_cases e : r' = r
    · subst e
      rw [if_pos rfl]
      by_cases c1 : i < s 5 r' - 1
      · rw [if_pos c1]; exact hS r' hr' (i + 1) (by omega)
      · rw [if_neg c1]; intro n; exact absurd rfl n
    · rw [if_neg e]; exact hS r' hr' i hi
  · have h0 := ((hL r hr).2 0 (by omega)).1 (by omega)
    rw [leaves_7]
    by_cases e : r' = r
    · subst e
      rw [if_pos rfl]
      by_cases c1 : i < s 5 r' - 1
      · rw [if_pos c1]; intro q
        have := (hD r' r' hr' hr' (i + 1) 0 (by omega) (by omega) (by omega) (by omega)).2
        omega
      · rw [if_neg c1]; omega
    · rw [if_neg e]; intro q
      exact e (hD r' r hr' hr i 0 hi (by omega) (by omega) (by omega)).1
/-- a task that stands nowhere may change its status and what it saved -/
theorem wfS_set {s : Sg} (hS : wfS s) {t x y : Nat} (hn : nst s t) : wfS (s2 (s2 s 1 t x) 2 t y) := by
  intro r hr i hi
  have e7 : s2 (s2 s 1 t x) 2 t y (7 + r) i = s (7 + r) i := by simp [s2, n71', n72']
  rw [e7]
  intro h0
  have hne : s (7 + r) i - 1 ≠ t := fun e => hn r hr i hi (by omega)
  have := hS r hr i hi h0
  simp [s2, hne]
  exact this
theorem wfS_c {s s' : Sg} (h7 : ∀ r, r < 6 → ∀ i, i < 4 → s' (7 + r) i = s (7 + r) i) (h1 : ∀ t, s' 1 t = s 1 t) (h2 : ∀ t, s' 2 t = s 2 t) (h : wfS s) : wfS s' := by
  intro r hr i hi
  rw [h7 r hr i hi, h1, h2]
  exact h r hr i hi
theorem nst_c {s s' : Sg} {t : Nat} (h7 : ∀ r, r < 6 → ∀ i, i < 4 → s' (7 + r) i = s (7 + r) i) (h : nst s t) : nst s' t := by
  intro r hr i hi
  rw [h7 r hr i hi]
  exact h r hr i hi
theorem wfT_c {s s' : Sg} (h1 : ∀ t, s' 1 t = s 1 t) (h2 : ∀ t, s' 2 t = s 2 t) (h : wfT s) : wfT s' := by
  intro t ht
  rw [h1, h2]
  exact h t ht
theorem wfM_c {s s' : Sg} (h3 : ∀ m, s' 3 m = s 3 m) (h4 : ∀ m, s' 4 m = s 4 m) (h : wfM s) : wfM s' := by
  intro m hm
  rw [h3, h4]
  exact h m hm
theorem wf_34 {s : Sg} (h : wf s) {m x y : Nat} (hx : x ≤ 4) (hy : y ≤ 9) (hxy : x ≠ 0 → 1 ≤ y) : wf (s2 (s2 s 3 m x) 4 m y) := by
  have h7 : ∀ r, r < 6 → ∀ i, i < 4 → s2 (s2 s 3 m x) 4 m y (7 + r) i = s (7 + r) i := fun r _ i _ => by simp [s2, n73', n74']
  refine ⟨wfL_c (fun r _ => by simp [s2]) h7 h.1, wfD_c h7 h.2.1, wfS_c h7 (fun t => by simp [s2]) (fun t => by simp [s2]) h.2.2.1, wfT_c (fun t => by simp [s2]) (fun t => by simp [s2]) h.2.2.2.1, fun m' hm' => ?_⟩
  by_cases e : m' = m
  · subst e; simp [s2, hx, hy]; exact hxy
  · simp [s2, e]; exact h.2.2.2.2 m' hm'
theorem wf_4 {s : Sg} (h : wf s) {m y : Nat} (hy : y ≤ 9) (hxy : s 3 m ≠ 0 → 1 ≤ y) : wf (s2 s 4 m y) := by
  have h7 : ∀ r, r < 6 → ∀ i, i < 4 → s2 s 4 m y (7 + r) i = s (7 + r) i := fun r _ i _ => by simp [s2, n74']
  refine ⟨wfL_c (fun r _ => by simp [s2]) h7 h.1, wfD_c h7 h.2.1, wfS_c h7 (fun t => by simp [s2]) (fun t => by simp [s2]) h.2.2.1, wfT_c (fun t => by simp [s2]) (fun t => by simp [s2]) h.2.2.2.1, fun m' hm' => ?_⟩
  by_cases e : m' = m
  · subst e; simp [s2, hy]; exact ⟨(h.2.2.2.2 m' hm').1, hxy⟩
  · simp [s2, e]; exact h.2.2.2.2 m' hm'
theorem wf_12 {s : Sg} (h : wf s) {t x y : Nat} (hn : nst s t) (hx : x ≤ 4) (hy : y ≤ 9) : wf (s2 (s2 s 1 t x) 2 t y) := by
  have h7 : ∀ r, r < 6 → ∀ i, i < 4 → s2 (s2 s 1 t x) 2 t y (7 + r) i = s (7 + r) i := fun r _ i _ => by simp [s2, n71', n72']
  refine ⟨wfL_c (fun r _ => by simp [s2]) h7 h.1, wfD_c h7 h.2.1, wfS_set h.2.2.1 hn, fun t' ht' => ?_, wfM_c (fun m => by simp [s2]) (fun m => by simp [s2]) h.2.2.2.2⟩
  by_cases e : t' = t
  · subst e; simp [s2, hx, hy]
  · simp [s2, e]; exact h.2.2.2.1 t' ht'
theorem s2_self (s : Sg) (c k : Nat) : s2 s c k (s c k) = s := by
  funext c' k'
  simp only [s2]
  split
  · rename_i q; rw [q.1, q.2]
  · rfl
theorem s2_cm (s : Sg) {c c' : Nat} (k x k' x' : Nat) (h : c ≠ c') : s2 (s2 s c k x) c' k' x' = s2 (s2 s c' k' x') c k x := by
  funext a b
  simp only [s2]
  by_cases h1 : a = c' ∧ b = k'
  · rw [if_pos h1, if_neg (fun q => h (q.1.symm.trans h1.1)), if_pos h1]
  · rw [if_neg h1]
    by_cases h2 : a = c ∧ b = k
    · rw [if_pos h2, if_pos h2]
    · rw [if_neg h2, if_neg h2, if_neg h1]
theorem wf_1 {s : Sg} (h : wf s) {t x : Nat} (ht : t < 4) (hn : nst s t) (hx : x ≤ 4) : wf (s2 s 1 t x) := by
  have e := wf_12 h hn hx (h.2.2.2.1 t ht).2
  rw [s2_cm s t x t _ (by decide), s2_self] at e
  exact e
theorem wf_cm {s : Sg} (h : wf s) {t r : Nat} (ht : t < 4) (hr : r < 6) (hn : nst s t) (h1 : s 1 t ≠ 0) (h2 : 1 ≤ s 2 t) : wf (comesA s r t) := by
  obtain ⟨a, b, c⟩ := wf_comes h.1 h.2.1 h.2.2.1 ht hr hn h1 h2
  exact ⟨a, b, c, wfT_c (fun t' => comes_c s r t _ (by omega)) (fun t' => comes_c s r t _ (by omega)) h.2.2.2.1, wfM_c (fun t' => comes_c s r t _ (by omega)) (fun t' => comes_c s r t _ (by omega)) h.2.2.2.2⟩
theorem wf_lv {s : Sg} (h : wf s) {r : Nat} (hr : r < 6) (hl : 1 ≤ s 5 r) : wf (leavesA s r) ∧ nst (leavesA s r) (s (7 + r) 0 - 1) := by
  obtain ⟨a, b, c, d⟩ := wf_leaves h.1 h.2.1 h.2.2.1 hr hl
  exact ⟨⟨a, b, c, wfT_c (fun t' => leaves_c s r _ (by omega)) (fun t' => leaves_c s r _ (by omega)) h.2.2.2.1, wfM_c (fun t' => leaves_c s r _ (by omega)) (fun t' => leaves_c s r _ (by omega)) h.2.2.2.2⟩, d⟩
/-- the first of a row that isn't empty -/
theorem wf.first {s : Sg} (h : wf s) {r : Nat} (hr : r < 6) (hl : ¬ s 5 r = 0) : 1 ≤ s (7 + r) 0 ∧ s (7 + r) 0 ≤ 4 ∧ s 1 (s (7 + r) 0 - 1) ≠ 0 ∧ 1 ≤ s 2 (s (7 + r) 0 - 1) ∧ s 2 (s (7 + r) 0 - 1) ≤ 9 ∧ s 1 (s (7 + r) 0 - 1) ≤ 4 := by
  have a := ((h.1 r hr).2 0 (by omega)).1 (by omega)
  have b := h.2.2.1 r hr 0 (by omega) (by omega)
  have c := h.2.2.2.1 (s (7 + r) 0 - 1) (by omega)
  exact ⟨a.1, a.2, b.1, b.2, c.2, c.1⟩
theorem wf_free {s : Sg} (h : wf s) {m : Nat} (hm : m < 3) : wf (freeA s m) := by
  unfold freeA
  by_cases h5 : s 5 m = 0
  · rw [if_pos h5]; exact wf_34 h (by omega) (by omega) (fun q => absurd rfl q)
  · rw [if_neg h5]
    obtain ⟨a1, a2, a3, a4, a5, a6⟩ := h.first (by omega) h5
    have h1 : wf (s2 (s2 s 3 m 0) 4 m 0) := wf_34 h (by omega) (by omega) (fun q => absurd rfl q)
    have e5 : s2 (s2 s 3 m 0) 4 m 0 5 m = s 5 m := by simp [s2]
    have e7 : s2 (s2 s 3 m 0) 4 m 0 (7 + m) 0 = s (7 + m) 0 := by simp [s2, n73', n74']
    obtain ⟨h2, h3⟩ := wf_lv h1 (r := m) (by omega) (by rw [e5]; omega)
    rw [e7] at h3
    have h4 := wf_34 h2 (m := m) a2 a5 (fun _ => a4)
    rw [s2_cm _ _ 0 _ 0 (by decide : (2 : Nat) ≠ 1)]
    exact wf_12 h4 (nst_c (fun r _ i _ => by simp [s2, n73', n74']) h3) (by omega) (by omega)
theorem free_nst {s : Sg} (h : wf s) {m t : Nat} (hm : m < 3) (hn : nst s t) : nst (freeA s m) t := by
  unfold freeA
  by_cases h5 : s 5 m = 0
  · rw [if_pos h5]; exact nst_c (fun r _ i _ => by simp [s2, n73', n74']) hn
  · rw [if_neg h5]
    refine nst_c (s := leavesA (s2 (s2 s 3 m 0) 4 m 0) m) (fun r _ i _ => by simp [s2, n71', n72', n73', n74']) ?_
    intro r hr i hi
    rw [leaves_7]
    have e5 : s2 (s2 s 3 m 0) 4 m 0 5 m = s 5 m := by simp [s2]
    have h4 := (h.1 m (by omega)).1
    split
    · rw [e5]
      split
      · have e7 : s2 (s2 s 3 m 0) 4 m 0 (7 + m) (i + 1) = s (7 + m) (i + 1) := by simp [s2, n73', n74']
        rw [e7]; exact hn m (by omega) (i + 1) (by omega)
      · omega
    · have e7 : s2 (s2 s 3 m 0) 4 m 0 (7 + r) i = s (7 + r) i := by simp [s2, n73', n74']
      rw [e7]; exact hn r hr i hi
/-- rows that no freeing, entering, waking touches -/
theorem free_c (s : Sg) {m c i : Nat} (hm : m < 3) (h : c = 0 ∨ 13 ≤ c) : freeA s m c i = s c i := by
  unfold freeA
  split
  · simp only [s2]; rw [if_neg (by omega), if_neg (by omega)]
  · simp only [leavesA, sr, s2]
    rw [if_neg (by omega), if_neg (by omega), if_neg (by omega), if_neg (by omega), if_neg (by omega), if_neg (by omega), if_neg (by omega), if_neg (by omega)]
def endN (s : Sg) (t x : Nat) : Nat → Sg × Nat
  | 0 => (s2 s 1 t x, 0)
  | i + 1 => end1A t (endN s t x i) i
theorem end_3 (s : Sg) (t x : Nat) : endN s t x 3 = endA s t x := rfl
theorem wf_endN {s : Sg} (h : wf s) {t x : Nat} (ht : t < 4) (h1 : s 1 t = 0) (hx : x ≤ 4) : ∀ i, i ≤ 3 → wf (endN s t x i).1 ∧ nst (endN s t x i).1 t ∧ (endN s t x i).2 ≤ i
  | 0, _ => ⟨wf_1 h ht (h.nst h1) hx, nst_c (fun r _ i _ => by simp [endN, s2, n71']) (h.nst h1), Nat.le_refl _⟩
  | i + 1, hi => by
    obtain ⟨a, b, c⟩ := wf_endN h ht h1 hx i (by omega)
    rw [endN, end1A]
    split
    · exact ⟨wf_free a (by omega), free_nst a (by omega) b, by dsimp only; omega⟩
    · exact ⟨a, b, by omega⟩
theorem endN_c (s : Sg) {t x c j : Nat} (h : c = 0 ∨ 13 ≤ c) : ∀ i, i ≤ 3 → (endN s t x i).1 c j = s c j
  | 0, _ => by simp only [endN, s2]; rw [if_neg (by omega)]
  | i + 1, hi => by
    have e := endN_c s (t := t) (x := x) (j := j) h i (by omega)
    rw [endN, end1A]
    split
    · dsimp only; rw [free_c _ (by omega) h, e]
    · exact e
theorem wf_enter {s : Sg} (h : wf s) {t m : Nat} (ht : t < 4) (hm : m < 3) (h1 : s 1 t = 0) : wf (enterA s t m).1 := by
  have hn := h.nst h1
  have hM := h.2.2.2.2 m hm
  unfold enterA
  split
  · exact wf_34 h (by omega) (by omega) (fun _ => by omega)
  · split
    · split
      · exact h
      · exact wf_4 h (by omega) (fun _ => by omega)
    · exact wf_cm (wf_12 h hn (by omega) (by omega)) ht (by omega) (nst_c (fun r _ i _ => by simp [s2, n71', n72']) hn) (by simp [s2]) (by simp [s2])
theorem enter_c (s : Sg) {t m c j : Nat} (hm : m < 3) (h : c = 0 ∨ 13 ≤ c) : (enterA s t m).1 c j = s c j := by
  unfold enterA
  split
  · simp only [s2]; rw [if_neg (by omega), if_neg (by omega)]
  · split
    · split
      · rfl
      · simp only [s2]; rw [if_neg (by omega)]
    · dsimp only; rw [comes_x _ (by omega) h, s2_c _ (by omega), s2_c _ (by omega)]
theorem wf_wake1 {s : Sg} (h : wf s) {m : Nat} (hm : m < 3) (h5 : ¬ s 5 (3 + m) = 0) : wf (wake1A s m) := by
  obtain ⟨a1, a2, a3, a4, a5, a6⟩ := h.first (r := 3 + m) (by omega) h5
  obtain ⟨h2, h3⟩ := wf_lv h (r := 3 + m) (by omega) (by omega)
  unfold wake1A
  refine wf_cm (wf_1 h2 (by omega) h3 (by omega)) (by omega) (by omega) (nst_c (fun r _ i _ => by simp [s2, n71']) h3) (by simp [s2]) ?_
  rw [s2_c _ (by decide), leaves_c _ _ _ (by omega)]
  exact a4
theorem wake1_5 {s : Sg} {m : Nat} (hm : m < 3) : wake1A s m 5 (3 + m) = s 5 (3 + m) - 1 := by
  unfold wake1A
  rw [comes_5, if_neg (by omega), s2_c _ (by decide), leaves_5, if_pos rfl]
theorem wake1_c (s : Sg) {m c j : Nat} (hm : m < 3) (h : c = 0 ∨ 13 ≤ c) : wake1A s m c j = s c j := by
  simp only [wake1A, comesA, leavesA, sr, s2]; rw [if_neg (by omega), if_neg (by omega), if_neg (by omega), if_neg (by omega), if_neg (by omega)]
theorem wf_wake : ∀ (n : Nat) {s : Sg} (_ : wf s) {m : Nat} (_ : m < 3) (_ : n ≤ s 5 (3 + m)), wf (wakeA n s m)
  | 0, _, h, _, _, _ => h
  | n + 1, s, h, m, hm, hn => by
    rw [wakeA]
    exact wf_wake n (wf_wake1 h hm (by omega)) hm (by rw [wake1_5 hm]; omega)
theorem wake_c : ∀ (n : Nat) (s : Sg) {m c j : Nat} (_ : m < 3) (_ : c = 0 ∨ 13 ≤ c), wakeA n s m c j = s c j
  | 0, _, _, _, _, _, _ => rfl
  | n + 1, s, m, c, j, hm, h => by rw [wakeA, wake_c n _ hm h, wake1_c s hm h]
theorem wf_mon {s : Sg} (h : wf s) {t so m : Nat} (ht : t < 4) (hm : m < 3) (h1 : s 1 t = 0) : wf (monA s t so m).1 := by
  have hn := h.nst h1
  have hM := h.2.2.2.2 m hm
  unfold monA
  split
  · exact h
  · split
    · exact wf_enter h ht hm h1
    · split
      · exact h
      · rename_i ho
        have ho : s 3 m = t + 1 := by omega
        split
        · split
          · dsimp only
            rename_i hc
            have e : s2 s 4 m (s 4 m - 1) = s2 s 4 m 0 := by rw [hc]
            -- the count is nought for a moment: freed at once
            rw [e]
            have w : wf (freeA s m) := wf_free h hm
            have e2 : freeA (s2 s 4 m 0) m = freeA s m := by
              have b3 : ∀ x, s2 (s2 (s2 s 4 m 0) 3 m x) 4 m 0 = s2 (s2 s 3 m x) 4 m 0 := fun x => by
                funext c k
                simp only [s2]
                by_cases q : c = 4 ∧ k = m
                · rw [if_pos q, if_pos q]
                · rw [if_neg q, if_neg q, if_neg q]
              unfold freeA
              have e5 : s2 s 4 m 0 5 m = s 5 m := by simp [s2]
              have e7 : s2 s 4 m 0 (7 + m) 0 = s (7 + m) 0 := by simp [s2, n74']
              have e2' : ∀ z, s2 s 4 m 0 2 z = s 2 z := fun z => by simp [s2]
              rw [e5, e7, e2', b3]
            rw [e2]
            exact w
          · exact wf_4 h (by omega) (fun _ => by omega)
        · split
          · have hw : wf (s2 (s2 s 1 t 2) 2 t (s 4 m)) := wf_12 h hn (by omega) (by omega)
            exact wf_free (wf_cm hw ht (by omega) (nst_c (fun r _ i _ => by simp [s2, n71', n72']) hn) (by simp [s2]) (by simp [s2]; omega)) hm
          · refine wf_wake _ h hm ?_
            split
            · omega
            · split <;> omega
theorem mon_c (s : Sg) {t so m c j : Nat} (hm : m < 3) (h : c = 0 ∨ 13 ≤ c) : (monA s t so m).1 c j = s c j := by
  unfold monA
  split
  · rfl
  · split
    · exact enter_c s hm h
    · split
      · rfl
      · split
        · split
          · dsimp only; rw [free_c _ hm h]; simp only [s2]; rw [if_neg (by omega)]
          · simp only [s2]; rw [if_neg (by omega)]
        · split
          · dsimp only; rw [free_c _ hm h, comes_x _ (by omega) h, s2_c _ (by omega), s2_c _ (by omega)]
          · exact wake_c _ s hm h
/-- all but the counts -/
def wf4 (s : Sg) : Prop := wfL s ∧ wfD s ∧ wfS s ∧ wfT s
theorem wf.w4 {s : Sg} (h : wf s) : wf4 s := ⟨h.1, h.2.1, h.2.2.1, h.2.2.2.1⟩
theorem wf4.first {s : Sg} (h : wf4 s) {r : Nat} (hr : r < 6) (hl : ¬ s 5 r = 0) : 1 ≤ s (7 + r) 0 ∧ s (7 + r) 0 ≤ 4 ∧ s 1 (s (7 + r) 0 - 1) ≠ 0 ∧ 1 ≤ s 2 (s (7 + r) 0 - 1) ∧ s 2 (s (7 + r) 0 - 1) ≤ 9 ∧ s 1 (s (7 + r) 0 - 1) ≤ 4 := by
  have a := ((h.1 r hr).2 0 (by omega)).1 (by omega)
  have b := h.2.2.1 r hr 0 (by omega) (by omega)
  have c := h.2.2.2 (s (7 + r) 0 - 1) (by omega)
  exact ⟨a.1, a.2, b.1, b.2, c.2, c.1⟩
theorem wf.c4 {s : Sg} (h : wf s) (m y : Nat) : wf4 (s2 s 4 m y) := by
  have h7 : ∀ r, r < 6 → ∀ i, i < 4 → s2 s 4 m y (7 + r) i = s (7 + r) i := fun r _ i _ => by simp [s2, n74']
  exact ⟨wfL_c (fun r _ => by simp [s2]) h7 h.1, wfD_c h7 h.2.1, wfS_c h7 (fun t => by simp [s2]) (fun t => by simp [s2]) h.2.2.1, wfT_c (fun t => by simp [s2]) (fun t => by simp [s2]) h.2.2.2.1⟩
