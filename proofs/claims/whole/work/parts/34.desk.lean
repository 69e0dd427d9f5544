/-! the class's desk at d: its rows by the picture -/
def dR (f : Mem) (d : Nat) (q2 q3 q4 q8 q9 qa qb qc : Ro) : Mem := fun a => if a = d + 2 then q2 else if a = d + 3 then q3 else if a = d + 4 then q4 else if a = d + 8 then q8 else if a = d + 9 then q9 else if a = d + 10 then qa else if a = d + 11 then qb else if a = d + 12 then qc else f a
theorem dR_2 (f : Mem) (d : Nat) (q2 q3 q4 q8 q9 qa qb qc : Ro) : dR f d q2 q3 q4 q8 q9 qa qb qc (d + 2) = q2 := by simp [dR]
theorem dR_u2 (f : Mem) (d : Nat) (q2 q3 q4 q8 q9 qa qb qc g : Ro) : ur (dR f d q2 q3 q4 q8 q9 qa qb qc) (d + 2) g = dR f d g q3 q4 q8 q9 qa qb qc := by
  funext a
  simp only [ur, dR]
  by_cases h : a = d + 2
  · subst h; simp
  · simp [h]
theorem dR_3 (f : Mem) (d : Nat) (q2 q3 q4 q8 q9 qa qb qc : Ro) : dR f d q2 q3 q4 q8 q9 qa qb qc (d + 3) = q3 := by simp [dR]
theorem dR_u3 (f : Mem) (d : Nat) (q2 q3 q4 q8 q9 qa qb qc g : Ro) : ur (dR f d q2 q3 q4 q8 q9 qa qb qc) (d + 3) g = dR f d q2 g q4 q8 q9 qa qb qc := by
  funext a
  simp only [ur, dR]
  by_cases h : a = d + 3
  · subst h; simp
  · simp [h]
theorem dR_4 (f : Mem) (d : Nat) (q2 q3 q4 q8 q9 qa qb qc : Ro) : dR f d q2 q3 q4 q8 q9 qa qb qc (d + 4) = q4 := by simp [dR]
theorem dR_u4 (f : Mem) (d : Nat) (q2 q3 q4 q8 q9 qa qb qc g : Ro) : ur (dR f d q2 q3 q4 q8 q9 qa qb qc) (d + 4) g = dR f d q2 q3 g q8 q9 qa qb qc := by
  funext a
  simp only [ur, dR]
  by_cases h : a = d + 4
  · subst h; simp
  · simp [h]
theorem dR_8 (f : Mem) (d : Nat) (q2 q3 q4 q8 q9 qa qb qc : Ro) : dR f d q2 q3 q4 q8 q9 qa qb qc (d + 8) = q8 := by simp [dR]
theorem dR_u8 (f : Mem) (d : Nat) (q2 q3 q4 q8 q9 qa qb qc g : Ro) : ur (dR f d q2 q3 q4 q8 q9 qa qb qc) (d + 8) g = dR f d q2 q3 q4 g q9 qa qb qc := by
  funext a
  simp only [ur, dR]
  by_cases h : a = d + 8
  · subst h; simp
  · simp [h]
theorem dR_9 (f : Mem) (d : Nat) (q2 q3 q4 q8 q9 qa qb qc : Ro) : dR f d q2 q3 q4 q8 q9 qa qb qc (d + 9) = q9 := by simp [dR]
theorem dR_u9 (f : Mem) (d : Nat) (q2 q3 q4 q8 q9 qa qb qc g : Ro) : ur (dR f d q2 q3 q4 q8 q9 qa qb qc) (d + 9) g = dR f d q2 q3 q4 q8 g qa qb qc := by
  funext a
  simp only [ur, dR]
  by_cases h : a = d + 9
  · subst h; simp
  · simp [h]
theorem dR_10 (f : Mem) (d : Nat) (q2 q3 q4 q8 q9 qa qb qc : Ro) : dR f d q2 q3 q4 q8 q9 qa qb qc (d + 10) = qa := by simp [dR]
theorem dR_u10 (f : Mem) (d : Nat) (q2 q3 q4 q8 q9 qa qb qc g : Ro) : ur (dR f d q2 q3 q4 q8 q9 qa qb qc) (d + 10) g = dR f d q2 q3 q4 q8 q9 g qb qc := by
  funext a
  simp only [ur, dR]
  by_cases h : a = d + 10
  · subst h; simp
  · simp [h]
theorem dR_11 (f : Mem) (d : Nat) (q2 q3 q4 q8 q9 qa qb qc : Ro) : dR f d q2 q3 q4 q8 q9 qa qb qc (d + 11) = qb := by simp [dR]
theorem dR_u11 (f : Mem) (d : Nat) (q2 q3 q4 q8 q9 qa qb qc g : Ro) : ur (dR f d q2 q3 q4 q8 q9 qa qb qc) (d + 11) g = dR f d q2 q3 q4 q8 q9 qa g qc := by
  funext a
  simp only [ur, dR]
  by_cases h : a = d + 11
  · subst h; simp
  · simp [h]
theorem dR_12 (f : Mem) (d : Nat) (q2 q3 q4 q8 q9 qa qb qc : Ro) : dR f d q2 q3 q4 q8 q9 qa qb qc (d + 12) = qc := by simp [dR]
theorem dR_u12 (f : Mem) (d : Nat) (q2 q3 q4 q8 q9 qa qb qc g : Ro) : ur (dR f d q2 q3 q4 q8 q9 qa qb qc) (d + 12) g = dR f d q2 q3 q4 q8 q9 qa qb g := by
  funext a
  simp only [ur, dR]
  by_cases h : a = d + 12
  · subst h; simp
  · simp [h]
theorem dR_o (f : Mem) {d a : Nat} (q2 q3 q4 q8 q9 qa qb qc : Ro) (h : a < d + 2 ∨ (d + 4 < a ∧ a < d + 8) ∨ d + 12 < a) : dR f d q2 q3 q4 q8 q9 qa qb qc a = f a := by
  simp only [dR]
  rw [if_neg (by omega), if_neg (by omega), if_neg (by omega), if_neg (by omega), if_neg (by omega), if_neg (by omega), if_neg (by omega), if_neg (by omega)]
theorem dR_uo (f : Mem) {d a : Nat} (q2 q3 q4 q8 q9 qa qb qc g : Ro) (h : a < d + 2 ∨ (d + 4 < a ∧ a < d + 8) ∨ d + 12 < a) : ur (dR f d q2 q3 q4 q8 q9 qa qb qc) a g = dR (ur f a g) d q2 q3 q4 q8 q9 qa qb qc := by
  funext b
  by_cases hb : b = a
  · subst hb; rw [ur_s, dR_o _ _ _ _ _ _ _ _ _ h, ur_s]
  · rw [ur_n _ _ hb]
    simp only [dR, ur, hb, if_false]
def r4 (g : Nat → Nat) : Ro := fun t => if t < 4 then nI (g t) else 0
def r3 (g : Nat → Nat) : Ro := fun t => if t < 3 then nI (g t) else 0
def rO (g : Nat → Nat) : Ro := fun t => if t < 3 then nI (g t) - 1 else 0
def rE (s : Sg) : Ro := fun m => if m < 3 then pk (s (7 + m)) else 0
def rW (s : Sg) : Ro := fun m => if m < 3 then pk (s (7 + (3 + m))) else 0
def rK (k : Ro) : Ro := fun c => if c < 4 then k c else 0
def dM (f : Mem) (d : Nat) (s : Sg) (k : Ro) : Mem := dR f d (r4 (s 0)) (r4 (s 1)) (r4 (s 2)) (rO (s 3)) (r3 (s 4)) (rE s) (rW s) (rK k)
theorem r4_u (g : Nat → Nat) {t : Nat} (x : Nat) (h : t < 4) : upd (r4 g) t (nI x) = r4 (fun i => if i = t then x else g i) := by
  funext j
  simp only [upd, r4]
  by_cases e : j = t
  · subst e; simp [h]
  · simp [e]
theorem r3_u (g : Nat → Nat) {t : Nat} (x : Nat) (h : t < 3) : upd (r3 g) t (nI x) = r3 (fun i => if i = t then x else g i) := by
  funext j
  simp only [upd, r3]
  by_cases e : j = t
  · subst e; simp [h]
  · simp [e]
theorem rO_u (g : Nat → Nat) {t : Nat} (x : Nat) (h : t < 3) : upd (rO g) t (nI x - 1) = rO (fun i => if i = t then x else g i) := by
  funext j
  simp only [upd, rO]
  by_cases e : j = t
  · subst e; simp [h]
  · simp [e]
theorem rK_u (k : Ro) {t : Nat} (x : Int32) (h : t < 4) : upd (rK k) t x = rK (upd k t x) := by
  funext j
  simp only [upd, rK]
  by_cases e : j = t
  · subst e; simp [h]
  · simp [e]
theorem rE_c {s s' : Sg} (h : ∀ m, m < 3 → ∀ i, i < 4 → s' (7 + m) i = s (7 + m) i) : rE s' = rE s := by
  funext m
  simp only [rE]
  split
  · rename_i hm; exact pk_ext (h m hm)
  · rfl
theorem rW_c {s s' : Sg} (h : ∀ m, m < 3 → ∀ i, i < 4 → s' (7 + (3 + m)) i = s (7 + (3 + m)) i) : rW s' = rW s := by
  funext m
  simp only [rW]
  split
  · rename_i hm; exact pk_ext (h m hm)
  · rfl
theorem s2_row (s : Sg) {c k x c' : Nat} (h : c' ≠ c) : s2 s c k x c' = s c' := by funext i; exact s2_c s h
theorem s2_rowe (s : Sg) (c k x : Nat) : s2 s c k x c = fun i => if i = k then x else s c i := by funext i; exact s2_e s c k x i
section
variable (f : Mem) (d : Nat) (s : Sg) (k : Ro)
theorem dM_2 {t : Nat} (h : t < 4) : dM f d s k (d + 2) t = nI (s 0 t) := by rw [dM, dR_2]; simp [r4, h]
theorem dM_3 {t : Nat} (h : t < 4) : dM f d s k (d + 3) t = nI (s 1 t) := by rw [dM, dR_3]; simp [r4, h]
theorem dM_4 {t : Nat} (h : t < 4) : dM f d s k (d + 4) t = nI (s 2 t) := by rw [dM, dR_4]; simp [r4, h]
theorem dM_8 {t : Nat} (h : t < 3) : dM f d s k (d + 8) t = nI (s 3 t) - 1 := by rw [dM, dR_8]; simp [rO, h]
theorem dM_9 {t : Nat} (h : t < 3) : dM f d s k (d + 9) t = nI (s 4 t) := by rw [dM, dR_9]; simp [r3, h]
theorem dM_10 {t : Nat} (h : t < 3) : dM f d s k (d + 10) t = pk (s (7 + t)) := by rw [dM, dR_10]; simp [rE, h]
theorem dM_11 {t : Nat} (h : t < 3) : dM f d s k (d + 11) t = pk (s (7 + (3 + t))) := by rw [dM, dR_11]; simp [rW, h]
theorem dM_12 {t : Nat} (h : t < 4) : dM f d s k (d + 12) t = k t := by rw [dM, dR_12]; simp [rK, h]
theorem dM_o {a : Nat} (h : a < d + 2 ∨ (d + 4 < a ∧ a < d + 8) ∨ d + 12 < a) : dM f d s k a = f a := dR_o f _ _ _ _ _ _ _ _ h
theorem dM_uo {a j : Nat} {v : Int32} (h : a < d + 2 ∨ (d + 4 < a ∧ a < d + 8) ∨ d + 12 < a) : u2 (dM f d s k) a j v = dM (u2 f a j v) d s k := by
  unfold u2
  rw [dM_o f d s k h]
  exact dR_uo f _ _ _ _ _ _ _ _ _ h
theorem dM_u2 {t : Nat} {v : Int32} (x : Nat) (hv : v = nI x) (h : t < 4) : u2 (dM f d s k) (d + 2) t v = dM f d (s2 s 0 t x) k := by
  subst hv
  unfold u2
  rw [dM, dR_2, r4_u (s 0) x h, dR_u2, dM, s2_rowe s 0 t x, s2_row s (c := 0) (k := t) (x := x) (show 1 ≠ 0 by decide), s2_row s (c := 0) (k := t) (x := x) (show 2 ≠ 0 by decide), s2_row s (c := 0) (k := t) (x := x) (show 3 ≠ 0 by decide), s2_row s (c := 0) (k := t) (x := x) (show 4 ≠ 0 by decide), rE_c (s := s) (fun m _ i _ => s2_c s (by omega)), rW_c (s := s) (fun m _ i _ => s2_c s (by omega))]
theorem dM_u3 {t : Nat} {v : Int32} (x : Nat) (hv : v = nI x) (h : t < 4) : u2 (dM f d s k) (d + 3) t v = dM f d (s2 s 1 t x) k := by
  subst hv
  unfold u2
  rw [dM, dR_3, r4_u (s 1) x h, dR_u3, dM, s2_row s (c := 1) (k := t) (x := x) (show 0 ≠ 1 by decide), s2_rowe s 1 t x, s2_row s (c := 1) (k := t) (x := x) (show 2 ≠ 1 by decide), s2_row s (c := 1) (k := t) (x := x) (show 3 ≠ 1 by decide), s2_row s (c := 1) (k := t) (x := x) (show 4 ≠ 1 by decide), rE_c (s := s) (fun m _ i _ => s2_c s (by omega)), rW_c (s := s) (fun m _ i _ => s2_c s (by omega))]
theorem dM_u4 {t : Nat} {v : Int32} (x : Nat) (hv : v = nI x) (h : t < 4) : u2 (dM f d s k) (d + 4) t v = dM f d (s2 s 2 t x) k := by
  subst hv
  unfold u2
  rw [dM, dR_4, r4_u (s 2) x h, dR_u4, dM, s2_row s (c := 2) (k := t) (x := x) (show 0 ≠ 2 by decide), s2_row s (c := 2) (k := t) (x := x) (show 1 ≠ 2 by decide), s2_rowe s 2 t x, s2_row s (c := 2) (k := t) (x := x) (show 3 ≠ 2 by decide), s2_row s (c := 2) (k := t) (x := x) (show 4 ≠ 2 by decide), rE_c (s := s) (fun m _ i _ => s2_c s (by omega)), rW_c (s := s) (fun m _ i _ => s2_c s (by omega))]
theorem dM_u8 {t : Nat} {v : Int32} (x : Nat) (hv : v = nI x - 1) (h : t < 3) : u2 (dM f d s k) (d + 8) t v = dM f d (s2 s 3 t x) k := by
  subst hv
  unfold u2
  rw [dM, dR_8, rO_u (s 3) x h, dR_u8, dM, s2_row s (c := 3) (k := t) (x := x) (show 0 ≠ 3 by decide), s2_row s (c := 3) (k := t) (x := x) (show 1 ≠ 3 by decide), s2_row s (c := 3) (k := t) (x := x) (show 2 ≠ 3 by decide), s2_rowe s 3 t x, s2_row s (c := 3) (k := t) (x := x) (show 4 ≠ 3 by decide), rE_c (s := s) (fun m _ i _ => s2_c s (by omega)), rW_c (s := s) (fun m _ i _ => s2_c s (by omega))]
theorem dM_u9 {t : Nat} {v : Int32} (x : Nat) (hv : v = nI x) (h : t < 3) : u2 (dM f d s k) (d + 9) t v = dM f d (s2 s 4 t x) k := by
  subst hv
  unfold u2
  rw [dM, dR_9, r3_u (s 4) x h, dR_u9, dM, s2_row s (c := 4) (k := t) (x := x) (show 0 ≠ 4 by decide), s2_row s (c := 4) (k := t) (x := x) (show 1 ≠ 4 by decide), s2_row s (c := 4) (k := t) (x := x) (show 2 ≠ 4 by decide), s2_row s (c := 4) (k := t) (x := x) (show 3 ≠ 4 by decide), s2_rowe s 4 t x, rE_c (s := s) (fun m _ i _ => s2_c s (by omega)), rW_c (s := s) (fun m _ i _ => s2_c s (by omega))]
theorem dM_u12 {t : Nat} (v : Int32) (h : t < 4) : u2 (dM f d s k) (d + 12) t v = dM f d s (upd k t v) := by
  unfold u2
  rw [dM, dR_12, rK_u k v h, dR_u12, dM]
/-- a row of the picture changes: m's ENTRY -/
theorem dM_uE {m : Nat} {v : Int32} {s' : Sg} (h : m < 3) (hv : v = pk (s' (7 + m))) (h5 : ∀ c, c < 5 → s' c = s c) (h7 : ∀ r, r < 6 → r ≠ m → ∀ i, i < 4 → s' (7 + r) i = s (7 + r) i) : u2 (dM f d s k) (d + 10) m v = dM f d s' k := by
  subst hv
  unfold u2
  have e : upd (rE s) m (pk (s' (7 + m))) = rE s' := by
    funext j
    simp only [upd, rE]
    by_cases q : j = m
    · subst q; simp [h]
    · simp only [q, if_false]
      split
      · exact (pk_ext (h7 j (by omega) q)).symm
      · rfl
  rw [dM, dR_10, e, dR_u10, dM, h5 0 (by omega), h5 1 (by omega), h5 2 (by omega), h5 3 (by omega), h5 4 (by omega), rW_c (s := s) (s' := s') (fun q hq i hi => h7 (3 + q) (by omega) (by omega) i hi)]
theorem dM_uW {m : Nat} {v : Int32} {s' : Sg} (h : m < 3) (hv : v = pk (s' (7 + (3 + m)))) (h5 : ∀ c, c < 5 → s' c = s c) (h7 : ∀ r, r < 6 → r ≠ 3 + m → ∀ i, i < 4 → s' (7 + r) i = s (7 + r) i) : u2 (dM f d s k) (d + 11) m v = dM f d s' k := by
  subst hv
  unfold u2
  have e : upd (rW s) m (pk (s' (7 + (3 + m)))) = rW s' := by
    funext j
    simp only [upd, rW]
    by_cases q : j = m
    · subst q; simp [h]
    · simp only [q, if_false]
      split
      · exact (pk_ext (h7 (3 + j) (by omega) (by omega))).symm
      · rfl
  rw [dM, dR_11, e, dR_u11, dM, h5 0 (by omega), h5 1 (by omega), h5 2 (by omega), h5 3 (by omega), h5 4 (by omega), rE_c (s := s) (s' := s') (fun q hq i hi => h7 q (by omega) (by omega) i hi)]
theorem dM_cE {m t : Nat} (h : m < 3) : u2 (dM f d s k) (d + 10) m (pk (rPush (s (7 + m)) (s 5 m) t)) = dM f d (comesA s m t) k := by
  refine dM_uE f d s k h (pk_ext (fun i _ => ?_)) (fun c hc => ?_) (fun r _ hr i _ => ?_)
  · rw [comes_7, rPush]; simp
  · funext i; exact comes_c s m t i hc
  · rw [comes_7, if_neg (fun q => hr q.1)]
theorem dM_cW {m t : Nat} (h : m < 3) : u2 (dM f d s k) (d + 11) m (pk (rPush (s (7 + (3 + m))) (s 5 (3 + m)) t)) = dM f d (comesA s (3 + m) t) k := by
  refine dM_uW f d s k h (pk_ext (fun i _ => ?_)) (fun c hc => ?_) (fun r _ hr i _ => ?_)
  · rw [comes_7, rPush]; simp
  · funext i; exact comes_c s (3 + m) t i hc
  · rw [comes_7, if_neg (fun q => hr q.1)]
theorem lv_tail {r n : Nat} (hw : isRow (s (7 + r)) n) (hn : s 5 r = n) (h1 : 1 ≤ n) (i : Nat) (hi : i < 4) : (if i < 3 then s (7 + r) (i + 1) else 0) = leavesA s r (7 + r) i := by
  rw [leaves_7, if_pos rfl, hn]
  by_cases h3 : i < 3
  · rw [if_pos h3]
    split
    · rfl
    · exact (hw.2 (i + 1) (by omega)).2 (by omega)
  · rw [if_neg h3]
    have := hw.1
    rw [if_neg (by omega)]
theorem dM_lE {m n : Nat} (h : m < 3) (hw : isRow (s (7 + m)) n) (hn : s 5 m = n) (h1 : 1 ≤ n) : u2 (dM f d s k) (d + 10) m (pk (fun i => if i < 3 then s (7 + m) (i + 1) else 0)) = dM f d (leavesA s m) k := by
  refine dM_uE f d s k h (pk_ext (fun i hi => lv_tail s hw hn h1 i hi)) (fun c hc => ?_) (fun r _ hr i _ => ?_)
  · funext i; exact leaves_c s m i hc
  · rw [leaves_7, if_neg hr]
theorem dM_lW {m n : Nat} (h : m < 3) (hw : isRow (s (7 + (3 + m))) n) (hn : s 5 (3 + m) = n) (h1 : 1 ≤ n) : u2 (dM f d s k) (d + 11) m (pk (fun i => if i < 3 then s (7 + (3 + m)) (i + 1) else 0)) = dM f d (leavesA s (3 + m)) k := by
  refine dM_uW f d s k h (pk_ext (fun i hi => lv_tail s hw hn h1 i hi)) (fun c hc => ?_) (fun r _ hr i _ => ?_)
  · funext i; exact leaves_c s (3 + m) i hc
  · rw [leaves_7, if_neg hr]
end
theorem wf4.row {s : Sg} (h : wfL s) {r : Nat} (hr : r < 6) : isRow (s (7 + r)) (s 5 r) := h r hr
