theorem free_nst4 {s : Sg} (h : wf4 s) {m t : Nat} (hm : m < 3) (hn : nst s t) : nst (freeA s m) t := by
  unfold freeA
  by_cases h5 : s 5 m = 0
  · rw [if_pos h5]; exact nst_c (fun r _ i _ => by simp [s2, n73', n74']) hn
  · rw [if_neg h5]
    refine nst_c (s := leavesA (s2 (s2 s 3 m 0) 4 m 0) m) (fun r _ i _ => by simp [s2, n71', n72', n73', n74']) ?_
    intro r hr i hi
    rw [leaves_7]
    have e5 : s2 (s2 s 3 m 0) 4 m 0 5 m = s 5 m := by simp [s2]
    have h4 := (h.1 m (by omega)).1
    split
    · rw [e5]
      split
      · have e7 : s2 (s2 s 3 m 0) 4 m 0 (7 + m) (i + 1) = s (7 + m) (i + 1) := by simp [s2, n73', n74']
        rw [e7]; exact hn m (by omega) (i + 1) (by omega)
      · omega
    · have e7 : s2 (s2 s 3 m 0) 4 m 0 (7 + r) i = s (7 + r) i := by simp [s2, n73', n74']
      rw [e7]; exact hn r hr i hi
theorem free_le {s : Sg} {m x : Nat} (q : s 1 x ≤ 2) : freeA s m 1 x ≤ 2 := by
  unfold freeA
  split
  · simpa [s2] using q
  · by_cases e : x = s (7 + m) 0 - 1
    · rw [e, s2_s]; omega
    · rw [s2_k _ e, s2_c _ (by decide), s2_c _ (by decide), s2_c _ (by decide), leaves_c _ _ _ (by decide), s2_c _ (by decide), s2_c _ (by decide)]; exact q
/-! a step and the other tasks: who ended stays so -/
def PS (s s1 : Sg) (t : Nat) : Prop := ∀ x, x ≠ t → (nst s x → nst s1 x ∧ s1 1 x = s 1 x) ∧ (s 1 x ≤ 2 → s1 1 x ≤ 2)
theorem PS.rfl' (s : Sg) (t : Nat) : PS s s t := fun _ _ => ⟨fun h => ⟨h, rfl⟩, fun h => h⟩
theorem PS.tr {a b c : Sg} {t : Nat} (h : PS a b t) (g : PS b c t) : PS a c t := fun x hx =>
  ⟨fun q => ⟨((g x hx).1 ((h x hx).1 q).1).1, ((g x hx).1 ((h x hx).1 q).1).2.trans ((h x hx).1 q).2⟩, fun q => (g x hx).2 ((h x hx).2 q)⟩
theorem PS_of {s s1 : Sg} {t : Nat} (h7 : ∀ r, r < 6 → ∀ i, i < 4 → s1 (7 + r) i = s (7 + r) i) (h1 : ∀ x, x ≠ t → s1 1 x = s 1 x) : PS s s1 t := fun x hx =>
  ⟨fun q => ⟨fun r hr i hi => by rw [h7 r hr i hi]; exact q r hr i hi, h1 x hx⟩, fun q => by rw [h1 x hx]; exact q⟩
theorem PS_s2 (s : Sg) {c i x t : Nat} (hc : c < 5) (h1 : c = 1 → i = t) : PS s (s2 s c i x) t :=
  PS_of (fun r _ j _ => s2_c s (by omega)) (fun y hy => by
    by_cases e : c = 1
    · exact s2_k s (by rw [h1 e]; exact hy)
    · exact s2_c s (fun q => e q.symm))
theorem PS_comes (s : Sg) (r t : Nat) : PS s (comesA s r t) t := fun x hx =>
  ⟨fun q => ⟨fun r' hr' i hi => by
    rw [comes_7]
    split
    · omega
    · exact q r' hr' i hi, comes_c s r t x (by decide)⟩, fun q => by rw [comes_c s r t x (by decide)]; exact q⟩
theorem PS_free {s : Sg} (h : wf s) {m : Nat} (hm : m < 3) (t : Nat) : PS s (freeA s m) t := fun x _ =>
  ⟨fun q => ⟨free_nst h hm q, free_st h.w4 hm q⟩, fun q => by
    unfold freeA
    split
    · simpa [s2] using q
    · by_cases e : x = s (7 + m) 0 - 1
      · rw [e, s2_s]; omega
      · rw [s2_k _ e, s2_c _ (by decide), s2_c _ (by decide), s2_c _ (by decide), leaves_c _ _ _ (by decide), s2_c _ (by decide), s2_c _ (by decide)]; exact q⟩
theorem PS_wake1 {s : Sg} (h : wf s) {m : Nat} (hm : m < 3) (h5 : ¬ s 5 (3 + m) = 0) (t : Nat) : PS s (wake1A s m) t := fun x _ => by
  obtain ⟨a1, a2, a3, a4, a5, a6⟩ := h.first (r := 3 + m) (by omega) h5
  have h4 := (h.1 (3 + m) (by omega)).1
  refine ⟨fun q => ?_, fun q => ?_⟩
  · have hx : x ≠ s (7 + (3 + m)) 0 - 1 := fun e => q (3 + m) (by omega) 0 (by omega) (by omega)
    refine ⟨fun r hr i hi => ?_, ?_⟩
    · unfold wake1A
      rw [comes_7]
      split
      · omega
      · rw [s2_c _ (by omega), leaves_7]
        split
        · split
          · exact q (3 + m) (by omega) (i + 1) (by omega)
          · omega
        · exact q r hr i hi
    · unfold wake1A
      rw [comes_c _ _ _ _ (by decide), s2_k _ hx, leaves_c _ _ _ (by decide)]
  · unfold wake1A
    rw [comes_c _ _ _ _ (by decide)]
    by_cases e : x = s (7 + (3 + m)) 0 - 1
    · rw [e, s2_s]; omega
    · rw [s2_k _ e, leaves_c _ _ _ (by decide)]; exact q
theorem PS_wake : ∀ (n : Nat) {s : Sg} (_ : wf s) {m : Nat} (_ : m < 3) (_ : n ≤ s 5 (3 + m)) (t : Nat), PS s (wakeA n s m) t
  | 0, s, _, _, _, _, t => PS.rfl' s t
  | n + 1, s, h, m, hm, hn, t => by
    rw [wakeA]
    exact (PS_wake1 h hm (by omega) t).tr (PS_wake n (wf_wake1 h hm (by omega)) hm (by rw [wake1_5 hm]; omega) t)
theorem PS_endN {s : Sg} (h : wf s) {t x : Nat} (ht : t < 4) (h1 : s 1 t = 0) (hx : x ≤ 4) : ∀ i, i ≤ 3 → PS s (endN s t x i).1 t
  | 0, _ => PS_s2 s (by decide) (fun _ => rfl)
  | i + 1, hi => by
    have a := PS_endN h ht h1 hx i (by omega)
    have b := wf_endN h ht h1 hx i (by omega)
    rw [endN, end1A]
    split
    · exact a.tr (PS_free b.1 (by omega) t)
    · exact a
theorem PS_enter {s : Sg} {t m : Nat} : PS s (enterA s t m).1 t := by
  unfold enterA
  split
  · exact (PS_s2 s (by decide) (by omega)).tr (PS_s2 _ (by decide) (by omega))
  · split
    · split
      · exact PS.rfl' s t
      · exact PS_s2 s (by decide) (by omega)
    · exact ((PS_s2 s (by decide) (fun _ => rfl)).tr (PS_s2 _ (by decide) (by omega))).tr (PS_comes _ m t)
theorem PS_mon {s : Sg} (h : wf s) {t so m : Nat} (ht : t < 4) (hm : m < 3) (h1 : s 1 t = 0) : PS s (monA s t so m).1 t := by
  have hn := h.nst h1
  unfold monA
  split
  · exact PS.rfl' s t
  · split
    · exact PS_enter
    · split
      · exact PS.rfl' s t
      · rename_i a b c
        have ow : s 3 m = t + 1 := Classical.not_not.mp c
        have c1 := (h.2.2.2.2 m hm)
        split
        · dsimp only
          split
          · refine (PS_s2 (c := 4) (i := m) (x := s 4 m - 1) s (by decide) (by omega)).tr ?_
            intro x hx
            have hwf := h.c4 m (s 4 m - 1)
            exact ⟨fun q => ⟨free_nst4 hwf hm q, free_st hwf hm q⟩, fun q => free_le q⟩
          · exact PS_s2 s (by decide) (by omega)
        · split
          · have hw2 := wf_12 (x := 2) (y := s 4 m) h hn (by omega) (by omega)
            have hw3 := wf_cm (r := 3 + m) hw2 ht (by omega) (nst_c (fun r _ i _ => by simp [s2, n71', n72']) hn) (by simp [s2]) (by simp [s2]; omega)
            exact (((PS_s2 s (by decide) (fun _ => rfl)).tr (PS_s2 _ (by decide) (by omega))).tr (PS_comes _ (3 + m) t)).tr (PS_free hw3 hm t)
          · exact PS_wake _ h hm (by (repeat' split) <;> omega) t
/-- all of a step -/
theorem step_all {s : Sg} {k p : Ro} {t : Nat} (h : wf s) (hp : wfP s p) (ht : t < 4) (h1 : s 1 t = 0) :
    PS s (stepA s k p t).1 t ∧ (¬ (stepA s k p t).2.2.1 = 0 → (stepA s k p t).1 1 t = 4 ∧ (stepA s k p t).1 0 t = s 0 t ∧ s 0 t < s 16 t) ∧
    ((stepA s k p t).2.2.1 = 0 → (stepA s k p t).1 1 t ≠ 4) ∧ (s 0 t = s 16 t → (stepA s k p t).1 1 t = 3 ∧ (stepA s k p t).2.2.1 = 0) ∧
    (3 ≤ (stepA s k p t).1 1 t → nst (stepA s k p t).1 t) ∧ (stepA s k p t).2.2.1 ≤ 4 ∧ (stepA s k p t).2.2.2 ≤ 3 := by
  have e3 := endN_st h ht h1 (x := 3) (by omega) 3 (by omega)
  have e4 := endN_st h ht h1 (x := 4) (by omega) 3 (by omega)
  have w3 := wf_endN h ht h1 (x := 3) (by omega) 3 (by omega)
  have w4 := wf_endN h ht h1 (x := 4) (by omega) 3 (by omega)
  have p3 := PS_endN h ht h1 (x := 3) (by omega) 3 (by omega)
  have p4 := PS_endN h ht h1 (x := 4) (by omega) 3 (by omega)
  have c4 := endN_c s (t := t) (x := 4) (c := 0) (j := t) (by omega) 3 (by omega)
  rw [end_3] at e3 e4 w3 w4 p3 p4 c4
  obtain ⟨h12, hle, hok⟩ := hp t ht
  have P0 : ∀ y, PS s (s2 s 0 t y) t := fun y => PS_s2 s (by decide) (by omega)
  have S0 : ∀ y, s2 s 0 t y 1 t = 0 := fun y => by rw [s2_c _ (by decide)]; exact h1
  unfold stepA
  by_cases hd : s 0 t = s 16 t
  · rw [if_pos hd]
    exact ⟨p3, fun q => absurd rfl q, fun _ => by dsimp only; omega, fun _ => ⟨e3, rfl⟩, fun _ => w3.2.1, by dsimp only; omega, w3.2.2⟩
  · rw [if_neg hd]
    have ok := hok (s 0 t) (by omega)
    by_cases h5 : pS p t (s 0 t) < 5
    · rw [if_pos h5]
      have hm := ok.2.2.2.1 h5
      have hwp := wf_place h t (s 0 t + 1)
      have hst := mon_st (so := pS p t (s 0 t)) hwp ht hm (S0 (s 0 t + 1))
      have hPS := PS_mon (so := pS p t (s 0 t)) hwp ht hm (S0 (s 0 t + 1))
      have hml := mon_le (s2 s 0 t (s 0 t + 1)) t (pS p t (s 0 t)) (pO p t (s 0 t))
      split
      · exact ⟨(P0 _).tr hPS, fun q => absurd rfl q, fun _ => by dsimp only; omega, fun q => absurd q hd, fun q => by dsimp only at q; omega, by dsimp only; omega, by dsimp only; omega⟩
      · rename_i hz
        exact ⟨p4, fun _ => ⟨e4, c4, by omega⟩, fun q => absurd q hz, fun q => absurd q hd, fun _ => w4.2.1, by dsimp only; omega, w4.2.2⟩
    · rw [if_neg h5]
      have G : ∀ (y : Nat) (kk : Ro), PS s (s2 s 0 t y, kk, 0, 0).1 t ∧ (¬ ((s2 s 0 t y, kk, 0, 0) : Sg × Ro × Nat × Nat).2.2.1 = 0 → ((s2 s 0 t y, kk, 0, 0) : Sg × Ro × Nat × Nat).1 1 t = 4 ∧ ((s2 s 0 t y, kk, 0, 0) : Sg × Ro × Nat × Nat).1 0 t = s 0 t ∧ s 0 t < s 16 t) ∧
        (((s2 s 0 t y, kk, 0, 0) : Sg × Ro × Nat × Nat).2.2.1 = 0 → ((s2 s 0 t y, kk, 0, 0) : Sg × Ro × Nat × Nat).1 1 t ≠ 4) ∧ (s 0 t = s 16 t → ((s2 s 0 t y, kk, 0, 0) : Sg × Ro × Nat × Nat).1 1 t = 3 ∧ ((s2 s 0 t y, kk, 0, 0) : Sg × Ro × Nat × Nat).2.2.1 = 0) ∧
        (3 ≤ ((s2 s 0 t y, kk, 0, 0) : Sg × Ro × Nat × Nat).1 1 t → nst ((s2 s 0 t y, kk, 0, 0) : Sg × Ro × Nat × Nat).1 t) ∧ ((s2 s 0 t y, kk, 0, 0) : Sg × Ro × Nat × Nat).2.2.1 ≤ 4 ∧ ((s2 s 0 t y, kk, 0, 0) : Sg × Ro × Nat × Nat).2.2.2 ≤ 3 := fun y kk => by
        have := S0 y
        exact ⟨P0 y, fun q => absurd rfl q, fun _ => by dsimp only; omega, fun q => absurd q hd, fun q => by dsimp only at q; omega, by dsimp only; omega, by dsimp only; omega⟩
      split
      · split
        · exact G _ _
        · exact ⟨p4, fun _ => ⟨e4, c4, by omega⟩, fun q => absurd (show (4 : Nat) = 0 from q) (by decide), fun q => absurd q hd, fun _ => w4.2.1, by dsimp only; omega, w4.2.2⟩
      · split
        · exact G _ _
        · split
          · exact G _ _
          · exact G _ _
theorem wfE_step {s : Sg} {k p : Ro} {t : Nat} (h : wf s) (hp : wfP s p) (ht : t < 4) (h1 : s 1 t = 0) (hE : wfE s) : wfE (stepA s k p t).1 := by
  obtain ⟨a, _, _, _, e, _⟩ := step_all (k := k) h hp ht h1
  intro x hx q
  by_cases ex : x = t
  · rw [ex] at q ⊢; exact e q
  · by_cases q2 : s 1 x ≤ 2
    · have := (a x ex).2 q2; omega
    · exact ((a x ex).1 (hE x hx (by omega))).1
theorem wR_step {s : Sg} {k p rz lz : Ro} {t : Nat} (h : wf s) (hp : wfP s p) (ht : t < 4) (h1 : s 1 t = 0) (hE : wfE s) (hr : wR s rz lz) :
    wR (stepA s k p t).1 (upd rz t (nI (stepA s k p t).2.2.1)) (upd lz t (nI (if s 0 t = s 16 t then (stepA s k p t).2.2.2 else 0))) := by
  obtain ⟨a, b, c, d, e, _⟩ := step_all (k := k) h hp ht h1
  intro x hx
  by_cases ex : x = t
  · rw [ex, upd_s, upd_s]
    refine ⟨fun q => ?_, fun q => ?_⟩
    · by_cases z : (stepA s k p t).2.2.1 = 0
      · rw [z]; rfl
      · exact absurd (b z).1 q
    · by_cases z : s 0 t = s 16 t
      · exact absurd (d z).1 q
      · rw [if_neg z]; rfl
  · rw [upd_n _ _ ex, upd_n _ _ ex]
    by_cases q2 : s 1 x ≤ 2
    · exact ⟨fun _ => (hr x hx).1 (by omega), fun _ => (hr x hx).2 (by omega)⟩
    · have := ((a x ex).1 (hE x hx (by omega))).2
      rw [this]; exact hr x hx
theorem st_other {s : Sg} {k p : Ro} {t : Nat} (h : wf s) (hp : wfP s p) (ht : t < 4) (h1 : s 1 t = 0) (hE : wfE s) {x : Nat} (hx : x < 4) (ex : x ≠ t) (h3 : 3 ≤ (stepA s k p t).1 1 x) : s 1 x = (stepA s k p t).1 1 x := by
  obtain ⟨a, _⟩ := step_all (k := k) h hp ht h1
  by_cases q2 : s 1 x ≤ 2
  · have := (a x ex).2 q2; omega
  · exact ((a x ex).1 (hE x hx (by omega))).2.symm
