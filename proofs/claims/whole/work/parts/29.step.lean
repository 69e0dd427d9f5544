/-! a step of the picture; programs that were read -/
abbrev inCell (x : Int32) : Prop := -99 ≤ x.toInt ∧ x.toInt ≤ 99
def wfK (k : Ro) : Prop := ∀ c, c < 4 → inCell (k c)
def okS (p : Ro) (t i : Nat) : Prop := p (48 * t + 4 * i) = nI (pS p t i) ∧ pS p t i < 9 ∧ p (48 * t + 4 * i + 1) = nI (pO p t i) ∧ (pS p t i < 5 → pO p t i < 3) ∧ (5 ≤ pS p t i → pS p t i < 8 → pO p t i < 4 ∧ inCell (pN p t i)) ∧ pO p t i ≤ 12 ∧ p (48 * t + 4 * i + 3) = nI (pT p t i) ∧ pT p t i ≤ 12
def wfP (s : Sg) (p : Ro) : Prop := ∀ t, t < 4 → s 16 t ≤ 12 ∧ s 0 t ≤ s 16 t ∧ ∀ i, i < s 16 t → okS p t i
def stepA (s : Sg) (k p : Ro) (t : Nat) : Sg × Ro × Nat × Nat :=
  if s 0 t = s 16 t then ((endA s t 3).1, k, 0, (endA s t 3).2)
  else if pS p t (s 0 t) < 5 then
    (if (monA (s2 s 0 t (s 0 t + 1)) t (pS p t (s 0 t)) (pO p t (s 0 t))).2 = 0 then ((monA (s2 s 0 t (s 0 t + 1)) t (pS p t (s 0 t)) (pO p t (s 0 t))).1, k, 0, 0)
     else ((endA s t 4).1, k, (monA (s2 s 0 t (s 0 t + 1)) t (pS p t (s 0 t)) (pO p t (s 0 t))).2, (endA s t 4).2))
  else if pS p t (s 0 t) = 5 then
    (if inCell (k (pO p t (s 0 t)) + pN p t (s 0 t)) then (s2 s 0 t (s 0 t + 1), upd k (pO p t (s 0 t)) (k (pO p t (s 0 t)) + pN p t (s 0 t)), 0, 0) else ((endA s t 4).1, k, 4, (endA s t 4).2))
  else if pS p t (s 0 t) = 6 then (s2 s 0 t (s 0 t + 1), upd k (pO p t (s 0 t)) (pN p t (s 0 t)), 0, 0)
  else if pS p t (s 0 t) = 7 then (s2 s 0 t (if k (pO p t (s 0 t)) = pN p t (s 0 t) then s 0 t + 1 else min (pT p t (s 0 t)) (s 16 t)), k, 0, 0)
  else (s2 s 0 t (min (pO p t (s 0 t)) (s 16 t)), k, 0, 0)
theorem s2_s2 (s : Sg) (c i x y : Nat) : s2 (s2 s c i x) c i y = s2 s c i y := by
  funext a b
  simp only [s2]
  by_cases h : a = c ∧ b = i
  · rw [if_pos h, if_pos h]
  · rw [if_neg h, if_neg h, if_neg h]
theorem mon_same {s : Sg} {t so m : Nat} (h : ¬ (monA s t so m).2 = 0) : (monA s t so m).1 = s := by
  unfold monA enterA at h ⊢
  by_cases h1 : s 14 m = 1
  · rw [if_pos h1]
  · rw [if_neg h1] at h ⊢
    by_cases h2 : so = 0
    · rw [if_pos h2] at h ⊢
      by_cases h3 : s 3 m = 0
      · rw [if_pos h3] at h; exact absurd rfl h
      · rw [if_neg h3] at h ⊢
        by_cases h4 : s 3 m = t + 1
        · rw [if_pos h4] at h ⊢
          by_cases h5 : s 4 m = 9
          · rw [if_pos h5]
          · rw [if_neg h5] at h; exact absurd rfl h
        · rw [if_neg h4] at h; exact absurd rfl h
    · rw [if_neg h2] at h ⊢
      by_cases h3 : s 3 m ≠ t + 1
      · rw [if_pos h3]
      · rw [if_neg h3] at h
        by_cases h4 : so = 1
        · rw [if_pos h4] at h; exact absurd rfl h
        · rw [if_neg h4] at h
          by_cases h5 : so = 2
          · rw [if_pos h5] at h; exact absurd rfl h
          · rw [if_neg h5] at h; exact absurd rfl h
theorem mon_le (s : Sg) (t so m : Nat) : (monA s t so m).2 ≤ 3 := by
  unfold monA enterA
  repeat' split
  all_goals (first | omega | decide)
/-- the status of a task that stands nowhere stays -/
theorem free_sx {s : Sg} {m t : Nat} (h : ¬ s 5 m = 0 → t ≠ s (7 + m) 0 - 1) : freeA s m 1 t = s 1 t := by
  unfold freeA
  split
  · simp [s2]
  · rename_i h5
    rw [s2_k _ (h h5), s2_c _ (by decide), s2_c _ (by decide), s2_c _ (by decide), leaves_c _ _ _ (by decide), s2_c _ (by decide), s2_c _ (by decide)]
theorem free_st {s : Sg} (h : wf4 s) {m t : Nat} (hm : m < 3) (hn : nst s t) : freeA s m 1 t = s 1 t := by
  refine free_sx (fun h5 e => ?_)
  obtain ⟨a1, a2, -⟩ := h.first (r := m) (by omega) h5
  exact hn m (by omega) 0 (by omega) (by omega)
theorem endN_st {s : Sg} (h : wf s) {t x : Nat} (ht : t < 4) (h1 : s 1 t = 0) (hx : x ≤ 4) : ∀ i, i ≤ 3 → (endN s t x i).1 1 t = x
  | 0, _ => by simp [endN, s2]
  | i + 1, hi => by
    obtain ⟨a, b, c⟩ := wf_endN h ht h1 hx i (by omega)
    have e := endN_st h ht h1 hx i (by omega)
    rw [endN, end1A]
    split
    · dsimp only; rw [free_st a.w4 (by omega) b, e]
    · exact e
theorem mon_st {s : Sg} (h : wf s) {t so m : Nat} (ht : t < 4) (hm : m < 3) (h1 : s 1 t = 0) : (monA s t so m).1 1 t ≤ 2 := by
  have hn := h.nst h1
  unfold monA
  split
  · dsimp only; omega
  · split
    · unfold enterA
      split
      · simp [s2, h1]
      · split
        · split
          · dsimp only; omega
          · simp [s2, h1]
        · dsimp only; rw [comes_c _ _ _ _ (by omega)]; simp [s2]
    · split
      · dsimp only; omega
      · split
        · split
          · dsimp only
            rw [free_st (h.c4 m _) hm (nst_c (fun r _ i _ => by simp [s2, n74']) hn)]
            simp [s2, h1]
          · simp [s2, h1]
        · rename_i ho hso1
          split
          · dsimp only
            have e5 : comesA (s2 (s2 s 1 t 2) 2 t (s 4 m)) (3 + m) t 5 m = s 5 m := by
              rw [comes_5, if_neg (by omega), s2_c _ (by decide), s2_c _ (by decide)]
            have e7 : comesA (s2 (s2 s 1 t 2) 2 t (s 4 m)) (3 + m) t (7 + m) 0 = s (7 + m) 0 := by
              rw [comes_7, if_neg (by omega)]; simp [s2, n71', n72']
            rw [free_sx (fun h5 e => ?_), comes_c _ _ _ _ (by omega), s2_c _ (by decide), s2_s]
            · omega
            · rw [e5] at h5
              rw [e7] at e
              obtain ⟨a1, a2, -⟩ := h.first (r := m) (by omega) h5
              exact hn m (by omega) 0 (by omega) (by omega)
          · have key : ∀ (n : Nat) (s : Sg), wf s → nst s t → n ≤ s 5 (3 + m) → wakeA n s m 1 t = s 1 t := by
              intro n
              induction n with
              | zero => intro s _ _ _; rfl
              | succ n ih =>
                intro s hs hns hn5
                obtain ⟨a1, a2, -⟩ := hs.first (r := 3 + m) (by omega) (by omega)
                have hne : t ≠ s (7 + (3 + m)) 0 - 1 := fun e => hns (3 + m) (by omega) 0 (by omega) (by omega)
                have e1 : wake1A s m 1 t = s 1 t := by
                  unfold wake1A
                  rw [comes_c _ _ _ _ (by omega), s2_k _ hne, leaves_c _ _ _ (by decide)]
                rw [wakeA, ih (wake1A s m) (wf_wake1 hs hm (by omega)) ?_ (by rw [wake1_5 hm]; omega), e1]
                intro r hr i hi
                unfold wake1A
                rw [comes_7]
                split
                · omega
                · rw [s2_c _ (by omega), leaves_7]
                  have h4 := (hs.1 (3 + m) (by omega)).1
                  split
                  · split
                    · exact hns (3 + m) (by omega) (i + 1) (by omega)
                    · omega
                  · exact hns r hr i hi
            dsimp only
            rw [key _ s h hn (by (repeat' split) <;> omega), h1]
            omega
theorem wf_place {s : Sg} (h : wf s) (t x : Nat) : wf (s2 s 0 t x) := by
  have h7 : ∀ r, r < 6 → ∀ i, i < 4 → s2 s 0 t x (7 + r) i = s (7 + r) i := fun r _ i _ => by simp [s2, n70']
  exact ⟨wfL_c (fun r _ => by simp [s2]) h7 h.1, wfD_c h7 h.2.1, wfS_c h7 (fun t => by simp [s2]) (fun t => by simp [s2]) h.2.2.1, wfT_c (fun t => by simp [s2]) (fun t => by simp [s2]) h.2.2.2.1, wfM_c (fun t => by simp [s2]) (fun t => by simp [s2]) h.2.2.2.2⟩
theorem step_st {s : Sg} {k p : Ro} {t : Nat} (h : wf s) (hp : wfP s p) (ht : t < 4) (h1 : s 1 t = 0) (hd : ¬ s 0 t = s 16 t) : (stepA s k p t).1 1 t ≠ 3 := by
  have e4 : (endA s t 4).1 1 t = 4 := endN_st h ht h1 (by omega) 3 (by omega)
  obtain ⟨h12, hle, hok⟩ := hp t ht
  have ok := hok (s 0 t) (by omega)
  unfold stepA
  rw [if_neg hd]
  split
  · rename_i h5
    split
    · have := mon_st (wf_place h t (s 0 t + 1)) (so := pS p t (s 0 t)) (m := pO p t (s 0 t)) ht (ok.2.2.2.1 h5) (by simp [s2, h1])
      dsimp only; omega
    · dsimp only; omega
  · split
    · split
      · simp [s2, h1]
      · dsimp only; omega
    · split
      · simp [s2, h1]
      · split
        · simp [s2, h1]
        · simp [s2, h1]
/-- a step keeps the pictures well made -/
theorem wf_step {s : Sg} {k p : Ro} {t : Nat} (h : wf s) (hp : wfP s p) (hk : wfK k) (ht : t < 4) (h1 : s 1 t = 0) : wf (stepA s k p t).1 ∧ wfP (stepA s k p t).1 p ∧ wfK (stepA s k p t).2.1 ∧ (∀ c j, 13 ≤ c → (stepA s k p t).1 c j = s c j) ∧ (∀ t', t' ≠ t → (stepA s k p t).1 0 t' = s 0 t') := by
  obtain ⟨h12, hle, hok⟩ := hp t ht
  have hpl : ∀ x, x ≤ s 16 t → wfP (s2 s 0 t x) p := fun x hx t' ht' => by
    have e16 : ∀ q, s2 s 0 t x 16 q = s 16 q := fun q => by simp [s2]
    rw [e16]
    refine ⟨(hp t' ht').1, ?_, (hp t' ht').2.2⟩
    rw [s2_e]
    split
    · rename_i e; rw [e]; exact hx
    · exact (hp t' ht').2.1
  have hc0 : ∀ x, (∀ c j, 13 ≤ c → s2 s 0 t x c j = s c j) ∧ ∀ t', t' ≠ t → s2 s 0 t x 0 t' = s 0 t' := fun x => ⟨fun c j hc => s2_c _ (by omega), fun t' h' => s2_k _ h'⟩
  have hend : ∀ x, x ≤ 4 → wf (endA s t x).1 ∧ wfP (endA s t x).1 p ∧ (∀ c j, 13 ≤ c → (endA s t x).1 c j = s c j) ∧ ∀ t', t' ≠ t → (endA s t x).1 0 t' = s 0 t' := fun x hx => by
    have c0 : ∀ j, (endA s t x).1 0 j = s 0 j := fun j => endN_c s (Or.inl rfl) 3 (by omega)
    have c13 : ∀ c j, 13 ≤ c → (endA s t x).1 c j = s c j := fun c j hc => endN_c s (Or.inr hc) 3 (by omega)
    refine ⟨(wf_endN h ht h1 hx 3 (by omega)).1, fun t' ht' => ?_, c13, fun t' _ => c0 t'⟩
    rw [c0, c13 16 _ (by omega)]
    exact hp t' ht'
  have kadd : ∀ (c : Nat) (x : Int32), inCell x → wfK (upd k c x) := fun c x hx c' hc' => by
    unfold upd
    split
    · exact hx
    · exact hk c' hc'
  unfold stepA
  split
  · obtain ⟨a, b, c, d⟩ := hend 3 (by omega); exact ⟨a, b, hk, c, d⟩
  · rename_i hd
    have hlt : s 0 t < s 16 t := by omega
    have ok := hok (s 0 t) hlt
    split
    · rename_i h5
      have hm := ok.2.2.2.1 h5
      split
      · have c0 : ∀ j, (monA (s2 s 0 t (s 0 t + 1)) t (pS p t (s 0 t)) (pO p t (s 0 t))).1 0 j = s2 s 0 t (s 0 t + 1) 0 j := fun j => mon_c _ hm (Or.inl rfl)
        have c13 : ∀ c j, 13 ≤ c → (monA (s2 s 0 t (s 0 t + 1)) t (pS p t (s 0 t)) (pO p t (s 0 t))).1 c j = s c j := fun c j hc => by
          rw [mon_c _ hm (Or.inr hc), s2_c _ (by omega)]
        refine ⟨wf_mon (wf_place h t _) ht hm (by simp [s2, h1]), fun t' ht' => ?_, hk, c13, fun t' h' => by rw [c0, s2_k _ h']⟩
        dsimp only
        rw [c0, c13 16 _ (by omega)]
        have := hpl (s 0 t + 1) hlt t' ht'
        rw [s2_c _ (by decide)] at this
        exact this
      · obtain ⟨a, b, c, d⟩ := hend 4 (by omega); exact ⟨a, b, hk, c, d⟩
    · split
      · split
        · rename_i hin
          exact ⟨wf_place h t _, hpl _ hlt, kadd _ _ hin, (hc0 _).1, (hc0 _).2⟩
        · obtain ⟨a, b, c, d⟩ := hend 4 (by omega); exact ⟨a, b, hk, c, d⟩
      · split
        · exact ⟨wf_place h t _, hpl _ hlt, kadd _ _ (ok.2.2.2.2.1 (by omega) (by omega)).2, (hc0 _).1, (hc0 _).2⟩
        · split
          · refine ⟨wf_place h t _, hpl _ ?_, hk, (hc0 _).1, (hc0 _).2⟩
            split
            · omega
            · exact Nat.min_le_right _ _
          · exact ⟨wf_place h t _, hpl _ (Nat.min_le_right _ _), hk, (hc0 _).1, (hc0 _).2⟩
