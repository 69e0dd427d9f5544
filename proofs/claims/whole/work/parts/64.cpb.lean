/-! the image and back: the class -/
theorem cpB22_1_o (f : Mem) {a : Nat} (h : a < 22 ∨ 42 < a) : cpB22_1 f a = f a := by
  unfold cpB22_1
  simp [u2, ur, show ¬ a = 22 by omega, show ¬ a = 27 by omega, show ¬ a = 28 by omega, show ¬ a = 29 by omega, show ¬ a = 35 by omega, show ¬ a = 36 by omega, show ¬ a = 37 by omega, show ¬ a = 38 by omega, show ¬ a = 39 by omega, show ¬ a = 40 by omega, show ¬ a = 41 by omega, show ¬ a = 42 by omega]
theorem cpB22_1_0 (f : Mem) : cpB22_1 f 22 0 = f 1 0 := by unfold cpB22_1; simp [u2, ur, upd]
theorem cpB22_1_1 (f : Mem) : cpB22_1 f 22 1 = f 1 1 := by unfold cpB22_1; simp [u2, ur, upd]
theorem cpB22_1_7 (f : Mem) : ∀ m, m < 3 → cpB22_1 f 29 m = f 8 m
  | 0, _ => by unfold cpB22_1; simp [u2, ur, upd]
  | 1, _ => by unfold cpB22_1; simp [u2, ur, upd]
  | 2, _ => by unfold cpB22_1; simp [u2, ur, upd]
theorem cpB22_1_5 (f : Mem) {t : Nat} (h : t < 4) : cpB22_1 f 27 t = f 6 t := by unfold cpB22_1; simp [u2, ur, upd, cpR, h]
theorem cpB22_1_6 (f : Mem) {t : Nat} (h : t < 4) : cpB22_1 f 28 t = f 7 t := by unfold cpB22_1; simp [u2, ur, upd, cpR, h]
theorem cpB22_1_p (f : Mem) : ∀ t, t < 4 → cpB22_1 f (22 + 13 + 2 * t) 0 = f (1 + 13 + 2 * t) 0
  | 0, _ => by show cpB22_1 f 35 0 = f 14 0; unfold cpB22_1; simp [u2, ur, upd]
  | 1, _ => by show cpB22_1 f 37 0 = f 16 0; unfold cpB22_1; simp [u2, ur, upd]
  | 2, _ => by show cpB22_1 f 39 0 = f 18 0; unfold cpB22_1; simp [u2, ur, upd]
  | 3, _ => by show cpB22_1 f 41 0 = f 20 0; unfold cpB22_1; simp [u2, ur, upd]
theorem cpB22_1_q (f : Mem) : ∀ t, t < 4 → ∀ j, j < 48 → cpB22_1 f (22 + 13 + 2 * t + 1) j = f (1 + 13 + 2 * t + 1) j
  | 0, _ => fun j hj => by show cpB22_1 f 36 j = f 15 j; unfold cpB22_1; simp [u2, ur, upd, cpR, hj]
  | 1, _ => fun j hj => by show cpB22_1 f 38 j = f 17 j; unfold cpB22_1; simp [u2, ur, upd, cpR, hj]
  | 2, _ => fun j hj => by show cpB22_1 f 40 j = f 19 j; unfold cpB22_1; simp [u2, ur, upd, cpR, hj]
  | 3, _ => fun j hj => by show cpB22_1 f 42 j = f 21 j; unfold cpB22_1; simp [u2, ur, upd, cpR, hj]
theorem cpB22_1_S {f : Mem} {s : Sg} {k p : Ro} (h : dS f 1 s p) (h12 : ∀ t, t < 4 → s 16 t ≤ 12) : dS (dM (cpB22_1 f) 22 s k) 22 s p := by
  refine ⟨?_, fun m hm => ?_, fun t ht => ?_, fun t ht j hj => ?_⟩
  · rw [dM_o _ _ _ _ (by omega), cpB22_1_0]; exact h.1
  · rw [dM_o _ _ _ _ (by omega)]; exact (cpB22_1_7 f m hm).trans (h.2.1 m hm)
  · rw [dM_o _ _ _ _ (by omega), cpB22_1_p f t ht]; exact h.2.2.1 t ht
  · rw [dM_o _ _ _ _ (by omega), cpB22_1_q f t ht j (by have := h12 t ht; omega)]; exact h.2.2.2 t ht j hj
theorem cpB1_22_o (f : Mem) {a : Nat} (h : a < 1 ∨ 21 < a) : cpB1_22 f a = f a := by
  unfold cpB1_22
  simp [u2, ur, show ¬ a = 1 by omega, show ¬ a = 6 by omega, show ¬ a = 7 by omega, show ¬ a = 8 by omega, show ¬ a = 14 by omega, show ¬ a = 15 by omega, show ¬ a = 16 by omega, show ¬ a = 17 by omega, show ¬ a = 18 by omega, show ¬ a = 19 by omega, show ¬ a = 20 by omega, show ¬ a = 21 by omega]
theorem cpB1_22_0 (f : Mem) : cpB1_22 f 1 0 = f 22 0 := by unfold cpB1_22; simp [u2, ur, upd]
theorem cpB1_22_1 (f : Mem) : cpB1_22 f 1 1 = f 22 1 := by unfold cpB1_22; simp [u2, ur, upd]
theorem cpB1_22_7 (f : Mem) : ∀ m, m < 3 → cpB1_22 f 8 m = f 29 m
  | 0, _ => by unfold cpB1_22; simp [u2, ur, upd]
  | 1, _ => by unfold cpB1_22; simp [u2, ur, upd]
  | 2, _ => by unfold cpB1_22; simp [u2, ur, upd]
theorem cpB1_22_5 (f : Mem) {t : Nat} (h : t < 4) : cpB1_22 f 6 t = f 27 t := by unfold cpB1_22; simp [u2, ur, upd, cpR, h]
theorem cpB1_22_6 (f : Mem) {t : Nat} (h : t < 4) : cpB1_22 f 7 t = f 28 t := by unfold cpB1_22; simp [u2, ur, upd, cpR, h]
theorem cpB1_22_p (f : Mem) : ∀ t, t < 4 → cpB1_22 f (1 + 13 + 2 * t) 0 = f (22 + 13 + 2 * t) 0
  | 0, _ => by show cpB1_22 f 14 0 = f 35 0; unfold cpB1_22; simp [u2, ur, upd]
  | 1, _ => by show cpB1_22 f 16 0 = f 37 0; unfold cpB1_22; simp [u2, ur, upd]
  | 2, _ => by show cpB1_22 f 18 0 = f 39 0; unfold cpB1_22; simp [u2, ur, upd]
  | 3, _ => by show cpB1_22 f 20 0 = f 41 0; unfold cpB1_22; simp [u2, ur, upd]
theorem cpB1_22_q (f : Mem) : ∀ t, t < 4 → ∀ j, j < 48 → cpB1_22 f (1 + 13 + 2 * t + 1) j = f (22 + 13 + 2 * t + 1) j
  | 0, _ => fun j hj => by show cpB1_22 f 15 j = f 36 j; unfold cpB1_22; simp [u2, ur, upd, cpR, hj]
  | 1, _ => fun j hj => by show cpB1_22 f 17 j = f 38 j; unfold cpB1_22; simp [u2, ur, upd, cpR, hj]
  | 2, _ => fun j hj => by show cpB1_22 f 19 j = f 40 j; unfold cpB1_22; simp [u2, ur, upd, cpR, hj]
  | 3, _ => fun j hj => by show cpB1_22 f 21 j = f 42 j; unfold cpB1_22; simp [u2, ur, upd, cpR, hj]
theorem cpB1_22_S {f : Mem} {s : Sg} {k p : Ro} (h : dS f 22 s p) (h12 : ∀ t, t < 4 → s 16 t ≤ 12) : dS (dM (cpB1_22 f) 1 s k) 1 s p := by
  refine ⟨?_, fun m hm => ?_, fun t ht => ?_, fun t ht j hj => ?_⟩
  · rw [dM_o _ _ _ _ (by omega), cpB1_22_0]; exact h.1
  · rw [dM_o _ _ _ _ (by omega)]; exact (cpB1_22_7 f m hm).trans (h.2.1 m hm)
  · rw [dM_o _ _ _ _ (by omega), cpB1_22_p f t ht]; exact h.2.2.1 t ht
  · rw [dM_o _ _ _ _ (by omega), cpB1_22_q f t ht j (by have := h12 t ht; omega)]; exact h.2.2.2 t ht j hj
theorem cpB56_1_o (f : Mem) {a : Nat} (h : a < 56 ∨ 76 < a) : cpB56_1 f a = f a := by
  unfold cpB56_1
  simp [u2, ur, show ¬ a = 56 by omega, show ¬ a = 61 by omega, show ¬ a = 62 by omega, show ¬ a = 63 by omega, show ¬ a = 69 by omega, show ¬ a = 70 by omega, show ¬ a = 71 by omega, show ¬ a = 72 by omega, show ¬ a = 73 by omega, show ¬ a = 74 by omega, show ¬ a = 75 by omega, show ¬ a = 76 by omega]
theorem cpB56_1_0 (f : Mem) : cpB56_1 f 56 0 = f 1 0 := by unfold cpB56_1; simp [u2, ur, upd]
theorem cpB56_1_1 (f : Mem) : cpB56_1 f 56 1 = f 1 1 := by unfold cpB56_1; simp [u2, ur, upd]
theorem cpB56_1_7 (f : Mem) : ∀ m, m < 3 → cpB56_1 f 63 m = f 8 m
  | 0, _ => by unfold cpB56_1; simp [u2, ur, upd]
  | 1, _ => by unfold cpB56_1; simp [u2, ur, upd]
  | 2, _ => by unfold cpB56_1; simp [u2, ur, upd]
theorem cpB56_1_5 (f : Mem) {t : Nat} (h : t < 4) : cpB56_1 f 61 t = f 6 t := by unfold cpB56_1; simp [u2, ur, upd, cpR, h]
theorem cpB56_1_6 (f : Mem) {t : Nat} (h : t < 4) : cpB56_1 f 62 t = f 7 t := by unfold cpB56_1; simp [u2, ur, upd, cpR, h]
theorem cpB56_1_p (f : Mem) : ∀ t, t < 4 → cpB56_1 f (56 + 13 + 2 * t) 0 = f (1 + 13 + 2 * t) 0
  | 0, _ => by show cpB56_1 f 69 0 = f 14 0; unfold cpB56_1; simp [u2, ur, upd]
  | 1, _ => by show cpB56_1 f 71 0 = f 16 0; unfold cpB56_1; simp [u2, ur, upd]
  | 2, _ => by show cpB56_1 f 73 0 = f 18 0; unfold cpB56_1; simp [u2, ur, upd]
  | 3, _ => by show cpB56_1 f 75 0 = f 20 0; unfold cpB56_1; simp [u2, ur, upd]
theorem cpB56_1_q (f : Mem) : ∀ t, t < 4 → ∀ j, j < 48 → cpB56_1 f (56 + 13 + 2 * t + 1) j = f (1 + 13 + 2 * t + 1) j
  | 0, _ => fun j hj => by show cpB56_1 f 70 j = f 15 j; unfold cpB56_1; simp [u2, ur, upd, cpR, hj]
  | 1, _ => fun j hj => by show cpB56_1 f 72 j = f 17 j; unfold cpB56_1; simp [u2, ur, upd, cpR, hj]
  | 2, _ => fun j hj => by show cpB56_1 f 74 j = f 19 j; unfold cpB56_1; simp [u2, ur, upd, cpR, hj]
  | 3, _ => fun j hj => by show cpB56_1 f 76 j = f 21 j; unfold cpB56_1; simp [u2, ur, upd, cpR, hj]
theorem cpB56_1_S {f : Mem} {s : Sg} {k p : Ro} (h : dS f 1 s p) (h12 : ∀ t, t < 4 → s 16 t ≤ 12) : dS (dM (cpB56_1 f) 56 s k) 56 s p := by
  refine ⟨?_, fun m hm => ?_, fun t ht => ?_, fun t ht j hj => ?_⟩
  · rw [dM_o _ _ _ _ (by omega), cpB56_1_0]; exact h.1
  · rw [dM_o _ _ _ _ (by omega)]; exact (cpB56_1_7 f m hm).trans (h.2.1 m hm)
  · rw [dM_o _ _ _ _ (by omega), cpB56_1_p f t ht]; exact h.2.2.1 t ht
  · rw [dM_o _ _ _ _ (by omega), cpB56_1_q f t ht j (by have := h12 t ht; omega)]; exact h.2.2.2 t ht j hj
