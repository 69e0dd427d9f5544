/-! program: both sides -/
theorem prg_le (c : Nat → Nat) (tn : Nat) : ∀ (n k a : Nat) (g : Ro), n + k = 12 → (prg c tn n k a g).2.1 ≤ 12
  | 0, k, a, g, h => by unfold prg; dsimp only; omega
  | n + 1, k, a, g, h => by
    unfold prg
    cases e : stm c a with
    | inl z => dsimp only; omega
    | inr q =>
      dsimp only
      split
      · exact prg_le c tn n (k + 1) _ _ (by omega)
      · dsimp only; omega
theorem prg_z {c : Nat → Nat} {tn : Nat} (hc : tcW c tn) : ∀ (n k a : Nat) (g : Ro), a ≤ 121 → (prg c tn n k a g).1 ≤ 131
  | 0, k, a, g, h => by unfold prg; dsimp only; omega
  | n + 1, k, a, g, h => by
    unfold prg
    cases e : stm c a with
    | inl z => dsimp only; have := stm_l hc h e; omega
    | inr q =>
      dsimp only
      have h1 := (stm_r hc e).1
      have h2 := hc.1
      split
      · exact prg_z hc n (k + 1) _ _ (by omega)
      · dsimp only; split <;> omega
def okG (g : Ro) (i : Nat) : Prop := ∃ q : St, stO q ∧ g (4 * i) = nI q.1 ∧ g (4 * i + 1) = q.2.1 ∧ g (4 * i + 2) = q.2.2.1 ∧ g (4 * i + 3) = q.2.2.2.1
theorem okG_ap {g : Ro} {k : Nat} (h : ∀ i, i < k → okG g i) {q : St} (hq : stO q) : ∀ i, i < k + 1 → okG (ap4 g k (nI q.1) q.2.1 q.2.2.1 q.2.2.2.1) i := by
  intro i hi
  rcases Nat.lt_or_ge i k with l | l
  · obtain ⟨r, r0, r1, r2, r3, r4⟩ := h i l
    exact ⟨r, r0, by rw [ap4_lo _ _ _ _ _ _ (by omega)]; exact r1, by rw [ap4_lo _ _ _ _ _ _ (by omega)]; exact r2, by rw [ap4_lo _ _ _ _ _ _ (by omega)]; exact r3, by rw [ap4_lo _ _ _ _ _ _ (by omega)]; exact r4⟩
  · have e : i = k := by omega
    subst e
    refine ⟨q, hq, ?_, ?_, ?_, ?_⟩
    · simp only [ap4, upd]; rw [if_neg (by omega), if_neg (by omega), if_neg (by omega), if_pos (by omega)]
    · simp only [ap4, upd]; rw [if_neg (by omega), if_neg (by omega), if_pos (by omega)]
    · simp only [ap4, upd]; rw [if_neg (by omega), if_pos (by omega)]
    · simp only [ap4, upd]; rw [if_pos (by omega)]
theorem prg_ok {c : Nat → Nat} {tn : Nat} (hc : tcW c tn) : ∀ (n k a : Nat) (g : Ro), (∀ i, i < k → okG g i) → ∀ i, i < (prg c tn n k a g).2.1 → okG (prg c tn n k a g).2.2 i
  | 0, k, a, g, h => by unfold prg; exact h
  | n + 1, k, a, g, h => by
    unfold prg
    cases e : stm c a with
    | inl z => exact h
    | inr q =>
      dsimp only
      split
      · exact prg_ok hc n (k + 1) _ _ (okG_ap h (stm_r hc e).2)
      · exact okG_ap h (stm_r hc e).2
def nwP (p : Ro) (t n : Nat) (g : Ro) : Ro := fun j => if 48 * t ≤ j ∧ j < 48 * t + 4 * n then g (j - 48 * t) else p j
theorem nwP_i (p : Ro) (t n : Nat) (g : Ro) {j : Nat} (h : j < 4 * n) : nwP p t n g (48 * t + j) = g j := by
  unfold nwP; rw [if_pos (by omega), show 48 * t + j - 48 * t = j by omega]
theorem nwP_o (p : Ro) {t u n : Nat} (g : Ro) (h : u ≠ t) (hn : n ≤ 12) {j : Nat} (hj : j < 48) : nwP p t n g (48 * u + j) = p (48 * u + j) := by
  unfold nwP; rw [if_neg (by omega)]
theorem okS_c {p p' : Ro} {t i : Nat} (h : okS p t i) (e : ∀ q, q < 4 → p' (48 * t + 4 * i + q) = p (48 * t + 4 * i + q)) : okS p' t i := by
  have e0 := e 0 (by omega)
  have e1 := e 1 (by omega)
  have e2 := e 2 (by omega)
  have e3 := e 3 (by omega)
  rw [Nat.add_zero] at e0
  unfold okS pS pO pN pT at h ⊢
  rw [e0, e1, e2, e3]
  exact h
theorem okS_n {p : Ro} {t n i : Nat} {g : Ro} (hi : i < n) (h : okG g i) : okS (nwP p t n g) t i := by
  obtain ⟨q, ⟨h9, o, eo, o1, o2, o3, u, eu, u1⟩, q0, q1, q2, q3⟩ := h
  have e0 : nwP p t n g (48 * t + 4 * i) = nI q.1 := (nwP_i p t n g (j := 4 * i) (by omega)).trans q0
  have e1 : nwP p t n g (48 * t + 4 * i + 1) = nI o := (nwP_i p t n g (j := 4 * i + 1) (by omega)).trans (q1.trans eo)
  have e2 : nwP p t n g (48 * t + 4 * i + 2) = q.2.2.1 := (nwP_i p t n g (j := 4 * i + 2) (by omega)).trans q2
  have e3 : nwP p t n g (48 * t + 4 * i + 3) = nI u := (nwP_i p t n g (j := 4 * i + 3) (by omega)).trans (q3.trans eu)
  unfold okS pS pO pN pT
  rw [e0, e1, e2, e3, nI_clamp (by omega), nI_clamp (by omega), nI_clamp (by omega)]
  exact ⟨rfl, h9, rfl, o1, o2, o3, rfl, u1⟩
theorem wfC_prog {s : Sg} {k p : Ro} (w : wfC s k p) {t n : Nat} {g : Ro} (ht : t < s 13 0) (h0 : s 0 t = 0) (hn : n ≤ 12) (hg : ∀ i, i < n → okG g i) : wfC (s2 s 16 t n) k (nwP p t n g) := by
  obtain ⟨a, b, c, d, e, f, h, i⟩ := w
  have lo := s2_o s (c := 16) (i := t) (x := n) (by decide)
  refine ⟨wf_hi lo a, fun u hu => ?_, c, fun m hm => ?_, ?_, ?_, fun u t1 t2 => ?_, wfE_hi lo i⟩
  · rw [s2_e, s2_c _ (by decide)]
    by_cases q : u = t
    · subst q
      rw [if_pos rfl, h0]
      exact ⟨hn, by omega, fun i hi => okS_n hi (hg i hi)⟩
    · rw [if_neg q]
      exact ⟨(b u hu).1, (b u hu).2.1, fun i hi => okS_c ((b u hu).2.2 i hi) (fun z hz => by rw [Nat.add_assoc]; exact nwP_o p g q hn (by have := (b u hu).1; omega))⟩
  · rw [s2_c _ (by decide)]; exact d m hm
  · rw [s2_c _ (by decide)]; exact e
  · rw [s2_c _ (by decide), s2_c _ (by decide)]; exact f
  · rw [s2_c _ (by decide)] at t1
    rw [s2_e, if_neg (by omega)]; exact h u t1 t2
theorem gF_pr (s : Sg) (k p : Ro) {t n : Nat} (g x : Ro) (ht : t < 4) (hn : n ≤ 12) (hx : ∀ j, j < 4 * n → x j = g j) {j : Nat} (hj : j < 253) : va_cpy x (upd (gF s k p) (57 + t) (nI n)) 0 (61 + 48 * t) (4 * n) j = gF (s2 s 16 t n) k (nwP p t n g) j := by
  by_cases q : 61 + 48 * t ≤ j ∧ j < 61 + 48 * t + 4 * n
  · rw [pk_cpy_in q.1 q.2]
    obtain ⟨i, rfl⟩ : ∃ i, j = 61 + (48 * t + i) := ⟨j - 61 - 48 * t, by omega⟩
    rw [gF_p, nwP_i _ _ _ _ (by omega), ← hx i (by omega)]
    congr 1; omega
  · rw [pk_cpy_out (by omega)]
    rcases Nat.lt_or_ge j 61 with l | l
    · by_cases z : j = 57 + t
      · rw [z, upd_s, gF_z _ _ _ t ht, s2_s]
      · rw [upd_n _ _ z]
        unfold gF
        rw [flat_hi (s2_o s (by decide)), s2_c s (show (13 : Nat) ≠ 16 by decide), s2_c s (show (14 : Nat) ≠ 16 by decide), s2_c s (show (15 : Nat) ≠ 16 by decide)]
        by_cases l1 : j < 52
        · rw [if_pos l1, if_pos l1]
        · rw [if_neg l1, if_neg l1]
          by_cases l2 : j = 52
          · rw [if_pos l2, if_pos l2]
          · rw [if_neg l2, if_neg l2]
            by_cases l3 : j < 56
            · rw [if_pos l3, if_pos l3]
            · rw [if_neg l3, if_neg l3]
              by_cases l4 : j = 56
              · rw [if_pos l4, if_pos l4]
              · rw [if_neg l4, if_neg l4, if_pos l, if_pos l, s2_e, if_neg (by omega)]
    · rw [upd_n _ _ (by omega)]
      obtain ⟨i, rfl⟩ : ∃ i, j = 61 + i := ⟨j - 61, by omega⟩
      rw [gF_p, gF_p]
      unfold nwP
      rw [if_neg (by omega)]
def pQ3 (f : Mem) (t W z : Nat) : Option Value → Mem → Prop := fun r h => r = some (.int (-100 - nI z)) ∧ h 93 9 = 0 ∧ h 93 15 = 3 ∧ (h 102 0 = 1 ∧ h 102 1 = 2 ∧ h 102 2 = 3) ∧ (h 103 0 = nI t ∧ h 103 1 = nI W ∧ h 103 2 = nI z) ∧ (∀ b, b ≠ 93 → b ≠ 100 → b ≠ 102 → b ≠ 103 → h b = f b) ∧ ∀ j, j ≠ 9 → j ≠ 10 → j ≠ 11 → j ≠ 12 → j ≠ 15 → h 93 j = f 93 j
def pQ4 (f : Mem) (s : Sg) (k p rz lz : Ro) (t W : Nat) (g : Ro) : Option Value → Mem → Prop := fun r h => r = some (.int (nI W)) ∧ RC h (s2 s 16 t W) k (nwP p t W g) rz lz ∧ h 93 9 = 0 ∧ (∀ b, b ≠ 93 → b ≠ 94 → b ≠ 100 → h b = f b) ∧ ∀ j, j ≠ 9 → j ≠ 10 → j ≠ 11 → j ≠ 12 → h 93 j = f 93 j
def pX3 (f : Mem) (t W z : Nat) : Option Value → Mem → Prop := fun r h => r = some (.int (-100 - nI z)) ∧ h 44 1 = 0 ∧ h 48 0 = 3 ∧ (h 49 0 = 1 ∧ h 49 1 = 2 ∧ h 49 2 = 3) ∧ (h 50 0 = nI t ∧ h 50 1 = nI W ∧ h 50 2 = nI z) ∧ ∀ b, (b < 43 ∨ b = 45 ∨ 50 < b) → h b = f b
def pX4 (f : Mem) (s : Sg) (k p rz lz : Ro) (t W : Nat) (g : Ro) : Option Value → Mem → Prop := fun r h => r = some (.int (nI W)) ∧ XC h (s2 s 16 t W) k (nwP p t W g) rz lz ∧ h 44 1 = 0 ∧ h 55 0 = 0 ∧ ∀ b, b ≠ 43 → b ≠ 44 → b ≠ 46 → b ≠ 47 → b ≠ 55 → (b = 0 ∨ 22 ≤ b) → h b = f b
theorem RC.pr {f h : Mem} {s : Sg} {k p rz lz : Ro} (q : RC f s k p rz lz) {t n : Nat} {g x : Ro} (ht : t < 4) (hn : n ≤ 12) (hx : ∀ j, j < 4 * n → x j = g j) (e94 : h 94 = va_cpy x (upd (f 94) (57 + t) (nI n)) 0 (61 + 48 * t) (4 * n)) (e97 : h 97 = f 97) (e98 : h 98 = f 98) : RC h (s2 s 16 t n) k (nwP p t n g) rz lz := by
  refine ⟨fun j hj => ?_, fun u hu => ?_⟩
  · rw [e94, ← gF_pr s k p g x ht hn hx hj]
    unfold va_cpy upd
    split
    · rfl
    · split
      · rfl
      · exact q.1 j hj
  · rw [s2_c _ (by decide), e97, e98]; exact q.2 u hu
theorem lc_pe3 (f F : Mem) (b t W z : Nat) (hz : z < 2 ^ 30) (h1 : F 93 12 = nI W) (h3 : frQ f F) : A (cM MX11_program 0 0 layT layT (pQ3 f t W z)) 166 [(1, .int (nI t)), (0, .ref 93)] [] (rd 93 10 11 F b (nI z)) := by
  refine A_aload_n dX11_program_166 rfl 1 rfl ?_
  refine A_iconst (v := 0) dX11_program_167 rfl ?_
  refine A_putI dX11_program_168 fo_RX11_85 L93 rfl ?_
  refine A_eq rfl rfl (f' := rd 93 10 11 (u2 F 93 9 0) b (nI z)) (rd_uk F b (nI z) 0 (by decide) (by decide)) ?_
  refine A_aload_n dX11_program_171 rfl 1 rfl ?_
  refine A_getI dX11_program_172 fo_RX11_92 L93 rfl ?_
  refine A_topi (nI z) (rd_z (u2 F 93 9 0) b (nI z)) ?_
  refine A_if_lt (tgt := 201) dX11_program_175 rfl (fun h175 => by exact absurd h175 (nI_nneg (by omega))) (fun h175 => ?_)
  refine A_aload_n dX11_program_178 rfl 1 rfl ?_
  refine A_iconst (v := 1) dX11_program_179 rfl ?_
  refine A_iload_n dX11_program_180 rfl 0 rfl ?_
  refine A_aload_n dX11_program_181 rfl 1 rfl ?_
  refine A_getI dX11_program_182 fo_RX11_136 L93 rfl ?_
  refine A_topi (F 93 12) ((rd_k (u2 F 93 9 0) b (nI z) (by decide) (by decide)).trans (by simp [u2, ur, upd])) ?_
  refine A_topi (nI W) (h1) ?_
  refine A_iconst (v := 3) dX11_program_185 rfl ?_
  refine A_aload_n dX11_program_186 rfl 1 rfl ?_
  refine A_getI dX11_program_187 fo_RX11_92 L93 rfl ?_
  refine A_topi (nI z) (rd_z (u2 F 93 9 0) b (nI z)) ?_
  refine A_callV (M' := MX11_tells) [.int 1, .int (nI t), .int (nI W), .int 3, .int (nI z)] [] 93 dX11_program_190 lk_RX11_142 oX11_tells iX11_tells rfl rfl ⟨lb rfl, lb rfl⟩ (lb rfl) ⟨lb rfl, lb rfl⟩ L93 rfl (c_tells _ 1 (nI t) (nI W) 3 (nI z)) ?_
  rintro _ G ⟨rfl, q1, q2, q3, q4, q5⟩
  refine A_bipush (v := -100) dX11_program_193 rfl ?_
  refine A_aload_n dX11_program_195 rfl 1 rfl ?_
  refine A_getI dX11_program_196 fo_RX11_92 L93 rfl ?_
  refine A_topi (nI z) ((q5 11 (by decide)).trans (rd_z _ _ _)) ?_
  refine A_isub dX11_program_199 ?_
  exact A_iret dX11_program_200 rfl (⟨rfl, (q5 9 (by decide)).trans ((rd_k _ _ _ (by decide) (by decide)).trans (by simp [u2, ur, upd])), q1, ⟨q2.1, q2.2.1, q2.2.2⟩, q3, fun b b1 b2 b3 b4 => (q4 b b1 b3 b4).trans ((rd_o _ _ _ b1).trans ((u2_n _ _ _ b1).trans (h3.1 b b1 b2))), fun j j1 j2 j3 j4 j5 => (q5 j j5).trans ((rd_k _ _ _ j2 j3).trans ((show u2 F 93 9 0 93 j = F 93 j by simp [u2, ur, upd, j1]).trans (h3.2 j j2 j3 j4)))⟩)
theorem lc_pe4 (f : Mem) (s : Sg) (k p rz lz : Ro) (hC : RC f s k p rz lz) (w : wfC s k p) (F : Mem) (b t W : Nat) (g : Ro) (ht : t < 4) (hW : W ≤ 12) (h1 : F 93 12 = nI W) (h2 : ∀ j, j < 4 * W → F 100 j = g j) (h3 : frQ f F) : A (cM MX11_program 0 0 layT layT (pQ4 f s k p rz lz t W g)) 166 [(1, .int (nI t)), (0, .ref 93)] [] (rd 93 10 11 F b (-1)) := by
  refine A_aload_n dX11_program_166 rfl 1 rfl ?_
  refine A_iconst (v := 0) dX11_program_167 rfl ?_
  refine A_putI dX11_program_168 fo_RX11_85 L93 rfl ?_
  refine A_eq rfl rfl (f' := rd 93 10 11 (u2 F 93 9 0) b (-1)) (rd_uk F b (-1) 0 (by decide) (by decide)) ?_
  refine A_aload_n dX11_program_171 rfl 1 rfl ?_
  refine A_getI dX11_program_172 fo_RX11_92 L93 rfl ?_
  refine A_topi (-1) (rd_z (u2 F 93 9 0) b (-1)) ?_
  refine A_if_lt (tgt := 201) dX11_program_175 rfl (fun h175 => ?_) (fun h175 => by exact absurd (by decide) h175)
  refine A_aload_n dX11_program_201 rfl 1 rfl ?_
  refine A_getR (b := 94) dX11_program_202 fo_RX11_9 L93 rfl ?_
  refine A_bipush (v := 57) dX11_program_205 rfl ?_
  refine A_iload_n dX11_program_207 rfl 0 rfl ?_
  refine A_iadd dX11_program_208 ?_
  refine A_aload_n dX11_program_209 rfl 1 rfl ?_
  refine A_getI dX11_program_210 fo_RX11_136 L93 rfl ?_
  refine A_topi (F 93 12) ((rd_k (u2 F 93 9 0) b (-1) (by decide) (by decide)).trans (by simp [u2, ur, upd])) ?_
  refine A_topi (nI W) (h1) ?_
  refine A_iastore (57 + t) dX11_program_213 L94 (by simp only [lit, nI_add, pk_mul]) (by omega) (lb rfl) ?_
  refine A_eq rfl rfl (f' := rd 93 10 11 (u2 (u2 F 93 9 0) 94 (57 + t) (nI W)) b (-1)) (rd_uo (u2 F 93 9 0) b (-1) (nI W) (by decide)) ?_
  refine A_aload_n dX11_program_214 rfl 1 rfl ?_
  refine A_getR (b := 100) dX11_program_215 fo_RX11_28 L93 rfl ?_
  refine A_iconst (v := 0) dX11_program_218 rfl ?_
  refine A_aload_n dX11_program_219 rfl 1 rfl ?_
  refine A_getR (b := 94) dX11_program_220 fo_RX11_9 L93 rfl ?_
  refine A_bipush (v := 61) dX11_program_223 rfl ?_
  refine A_bipush (v := 48) dX11_program_225 rfl ?_
  refine A_iload_n dX11_program_227 rfl 0 rfl ?_
  refine A_imul dX11_program_228 ?_
  refine A_iadd dX11_program_229 ?_
  refine A_topi (nI (61 + 48 * t)) (by simp only [lit, nI_add, pk_mul]) ?_
  refine A_iconst (v := 4) dX11_program_230 rfl ?_
  refine A_aload_n dX11_program_231 rfl 1 rfl ?_
  refine A_getI dX11_program_232 fo_RX11_136 L93 rfl ?_
  refine A_topi (F 93 12) ((rd_k (u2 (u2 F 93 9 0) 94 (57 + t) (nI W)) b (-1) (by decide) (by decide)).trans (by simp [u2, ur, upd])) ?_
  refine A_topi (nI W) (h1) ?_
  refine A_imul dX11_program_235 ?_
  refine A_topi (nI (4 * W)) (by simp only [lit, nI_add, pk_mul]) ?_
  refine A_callS (M' := MX11_copies) [.ref 100, .int 0, .ref 94, .int (nI (61 + 48 * t)), .int (nI (4 * W))] [] dX11_program_236 lk_RX11_146 oX11_copies sX11_copies rfl rfl ⟨lb rfl, lb rfl⟩ (lb rfl) ⟨lb rfl, lb rfl⟩ (c_copies 0 (61 + 48 * t) (4 * W) _ rfl rfl (by decide) (by omega) (by omega) (by decide) (by decide)) ?_
  rintro _ G ⟨rfl, hG⟩
  have o1 : ∀ b', b' ≠ 94 → G b' = rd 93 10 11 (u2 (u2 F 93 9 0) 94 (57 + t) (nI W)) b (-1) b' := fun b' hb => by rw [hG, gt_cpy, ur_n _ _ hb]
  have o2 : G 94 = va_cpy (F 100) (upd (f 94) (57 + t) (nI W)) 0 (61 + 48 * t) (4 * W) := by
    rw [hG, gt_cpy, ur_s, rd_o _ _ _ (by decide), rd_o _ _ _ (by decide), u2_n _ _ _ (by decide), u2_n _ _ _ (by decide), u2, ur_s, u2_n _ _ _ (by decide), h3.1 94 (by decide) (by decide)]
  refine A_aload_n dX11_program_239 rfl 1 rfl ?_
  refine A_getI dX11_program_240 fo_RX11_136 L93 rfl ?_
  refine A_topi (nI W) ((congrFun (o1 93 (by decide)) _).trans ((rd_k _ _ _ (by decide) (by decide)).trans ((show u2 (u2 F 93 9 0) 94 (57 + t) (nI W) 93 12 = F 93 12 by simp [u2, ur, upd]).trans h1))) ?_
  exact A_iret dX11_program_243 rfl (⟨rfl, hC.pr ht hW h2 o2 ((o1 97 (by decide)).trans ((rd_o _ _ _ (by decide)).trans ((u2_n _ _ _ (by decide)).trans ((u2_n _ _ _ (by decide)).trans (h3.1 97 (by decide) (by decide)))))) ((o1 98 (by decide)).trans ((rd_o _ _ _ (by decide)).trans ((u2_n _ _ _ (by decide)).trans ((u2_n _ _ _ (by decide)).trans (h3.1 98 (by decide) (by decide)))))), (congrFun (o1 93 (by decide)) _).trans ((rd_k _ _ _ (by decide) (by decide)).trans (by simp [u2, ur, upd])), fun b b1 b2 b3 => (o1 b b2).trans ((rd_o _ _ _ b1).trans ((u2_n _ _ _ b2).trans ((u2_n _ _ _ b1).trans (h3.1 b b1 b3)))), fun j j1 j2 j3 j4 => (congrFun (o1 93 (by decide)) _).trans ((rd_k _ _ _ j2 j3).trans ((show u2 (u2 F 93 9 0) 94 (57 + t) (nI W) 93 j = F 93 j by simp [u2, ur, upd, j1]).trans (h3.2 j j2 j3 j4)))⟩)
theorem c_prog1 (x : Int32) (f : Mem) (s : Sg) (k p rz lz : Ro) (hC : RC f s k p rz lz) (w : wfC s k p) (hx : ¬ inR x (s 13 0)) : C0 MX11_program [.ref 93, .int x] f (rt (some (.int (-1))) f) := by
  refine Ct.of (lv := [(0, .ref 93), (1, .int x)]) (by decide) (lb rfl) rfl ?_
  refine A_aload_n dX11_program_0 rfl 0 rfl ?_
  refine A_iload_n dX11_program_1 rfl 1 rfl ?_
  refine A_callV (M' := MX11_isTask) [.int x] [] 93 dX11_program_2 lk_RX11_133 oX11_isTask iX11_isTask rfl rfl ⟨lb rfl, lb rfl⟩ (lb rfl) ⟨lb rfl, lb rfl⟩ L93 rfl (c_isTask x _ hC.n w.2.2.2.2.1) ?_
  rintro _ g0 ⟨rfl, hg0⟩
  rw [hg0]
  refine A_if_ne (tgt := 10) dX11_program_5 rfl (fun h5 => by exact absurd (bz_n0.mp h5) hx) (fun h5 => ?_)
  refine A_iconst (v := -1) dX11_program_8 rfl ?_
  exact A_iret dX11_program_9 rfl (⟨rfl, rfl⟩)
theorem c_prog2 (t : Nat) (f : Mem) (s : Sg) (k p rz lz : Ro) (hC : RC f s k p rz lz) (w : wfC s k p) (ht : t < s 13 0) (h0 : ¬ (s 0 t = 0 ∧ s 1 t = 0)) : C0 MX11_program [.ref 93, .int (nI t)] f (rt (some (.int (-3))) f) := by
  have h13 := w.2.2.2.2.1
  refine Ct.of (lv := [(0, .ref 93), (1, .int (nI t))]) (by decide) (lb rfl) rfl ?_
  refine A_aload_n dX11_program_0 rfl 0 rfl ?_
  refine A_iload_n dX11_program_1 rfl 1 rfl ?_
  refine A_callV (M' := MX11_isTask) [.int (nI t)] [] 93 dX11_program_2 lk_RX11_133 oX11_isTask iX11_isTask rfl rfl ⟨lb rfl, lb rfl⟩ (lb rfl) ⟨lb rfl, lb rfl⟩ L93 rfl (c_isTask (nI t) _ hC.n w.2.2.2.2.1) ?_
  rintro _ g0 ⟨rfl, hg0⟩
  rw [hg0]
  refine A_if_ne (tgt := 10) dX11_program_5 rfl (fun h5 => ?_) (fun h5 => by exact absurd ((inR_nI (by omega)).mpr ht) (bz_0.mp h5))
  refine A_aload_n dX11_program_10 rfl 0 rfl ?_
  refine A_getR (b := 94) dX11_program_11 fo_RX11_9 L93 rfl ?_
  refine A_iload_n dX11_program_14 rfl 1 rfl ?_
  refine A_iaload t dX11_program_15 L94 (rfl) (by omega) (lb rfl) ?_
  refine A_topi (nI (s 0 t)) (hC.pl (by omega)) ?_
  refine A_if_ne (tgt := 30) dX11_program_16 rfl (fun h16 => ?_) (fun h16 => ?_)
  · refine A_bipush (v := -3) dX11_program_30 rfl ?_
    exact A_iret dX11_program_32 rfl (⟨rfl, rfl⟩)
  · refine A_aload_n dX11_program_19 rfl 0 rfl ?_
    refine A_getR (b := 94) dX11_program_20 fo_RX11_9 L93 rfl ?_
    refine A_iconst (v := 4) dX11_program_23 rfl ?_
    refine A_iload_n dX11_program_24 rfl 1 rfl ?_
    refine A_iadd dX11_program_25 ?_
    refine A_iaload (4 + t) dX11_program_26 L94 (by simp only [lit, nI_add, pk_mul]) (by omega) (lb rfl) ?_
    refine A_topi (nI (s 1 t)) (hC.st (by omega)) ?_
    refine A_if_eq (tgt := 33) dX11_program_27 rfl (fun h27 => ?_) (fun h27 => ?_)
    · exact absurd ⟨(nI_z (by have := (w.2.1 t (by omega)).2.1; have := (w.2.1 t (by omega)).1; omega)).mp h16, (nI_z (by have := w.s4 (t := t) (by omega); omega)).mp h27⟩ h0
    · refine A_bipush (v := -3) dX11_program_30 rfl ?_
      exact A_iret dX11_program_32 rfl (⟨rfl, rfl⟩)
theorem c_prog3 (t : Nat) (f : Mem) (s : Sg) (k p rz lz : Ro) (hC : RC f s k p rz lz) (w : wfC s k p) (tn : Nat) (c : Nat → Nat) (hT : RTp f tn c) (hc : tcW c tn) (hA : RA f) (ht : t < s 13 0) (h0 : s 0 t = 0 ∧ s 1 t = 0) {R : Nat × Nat × Ro} (hR : prg c tn 12 0 0 z0 = R) {z : Nat} (hz : R.1 = z + 1) : C0 MX11_program [.ref 93, .int (nI t)] f (pQ3 f t R.2.1 z) := by
  have h13 := w.2.2.2.2.1
  have h12 : R.2.1 ≤ 12 := by rw [← hR]; exact prg_le c tn 12 0 0 z0 (by omega)
  have h131 : R.1 ≤ 131 := by rw [← hR]; exact prg_z hc 12 0 0 z0 (by omega)
  refine Ct.of (lv := [(0, .ref 93), (1, .int (nI t))]) (by decide) (lb rfl) rfl ?_
  refine A_aload_n dX11_program_0 rfl 0 rfl ?_
  refine A_iload_n dX11_program_1 rfl 1 rfl ?_
  refine A_callV (M' := MX11_isTask) [.int (nI t)] [] 93 dX11_program_2 lk_RX11_133 oX11_isTask iX11_isTask rfl rfl ⟨lb rfl, lb rfl⟩ (lb rfl) ⟨lb rfl, lb rfl⟩ L93 rfl (c_isTask (nI t) _ hC.n w.2.2.2.2.1) ?_
  rintro _ g0 ⟨rfl, hg0⟩
  rw [hg0]
  refine A_if_ne (tgt := 10) dX11_program_5 rfl (fun h5 => ?_) (fun h5 => by exact absurd ((inR_nI (by omega)).mpr ht) (bz_0.mp h5))
  refine A_aload_n dX11_program_10 rfl 0 rfl ?_
  refine A_getR (b := 94) dX11_program_11 fo_RX11_9 L93 rfl ?_
  refine A_iload_n dX11_program_14 rfl 1 rfl ?_
  refine A_iaload t dX11_program_15 L94 (rfl) (by omega) (lb rfl) ?_
  refine A_topi (nI (s 0 t)) (hC.pl (by omega)) ?_
  refine A_if_ne (tgt := 30) dX11_program_16 rfl (fun h16 => by exact absurd (by rw [h0.1]; rfl) h16) (fun h16 => ?_)
  refine A_aload_n dX11_program_19 rfl 0 rfl ?_
  refine A_getR (b := 94) dX11_program_20 fo_RX11_9 L93 rfl ?_
  refine A_iconst (v := 4) dX11_program_23 rfl ?_
  refine A_iload_n dX11_program_24 rfl 1 rfl ?_
  refine A_iadd dX11_program_25 ?_
  refine A_iaload (4 + t) dX11_program_26 L94 (by simp only [lit, nI_add, pk_mul]) (by omega) (lb rfl) ?_
  refine A_topi (nI (s 1 t)) (hC.st (by omega)) ?_
  refine A_if_eq (tgt := 33) dX11_program_27 rfl (fun h27 => ?_) (fun h27 => by exact absurd (by rw [h0.2]; rfl) h27)
  refine A_aload_n dX11_program_33 rfl 0 rfl ?_
  refine A_iconst (v := 0) dX11_program_34 rfl ?_
  refine A_putI dX11_program_35 fo_RX11_89 L93 rfl ?_
  refine A_aload_n dX11_program_38 rfl 0 rfl ?_
  refine A_iconst (v := -1) dX11_program_39 rfl ?_
  refine A_putI dX11_program_40 fo_RX11_92 L93 rfl ?_
  refine A_aload_n dX11_program_43 rfl 0 rfl ?_
  refine A_iconst (v := 0) dX11_program_44 rfl ?_
  refine A_putI dX11_program_45 fo_RX11_136 L93 rfl ?_
  refine A_iconst (v := 1) dX11_program_48 rfl ?_
  refine A_istore_n (lv' := [(2, .int 1), (0, .ref 93), (1, .int (nI t))]) dX11_program_49 rfl (lb rfl) rfl ?_
  refine A_eq rfl rfl (f' := rd 93 10 11 (u2 f 93 12 0) 0 (-1)) (rd_uk f 0 (-1) 0 (by decide) (by decide)) ?_
  refine A_sub [0, 2, 1] rfl ?_
  exact lc_pr f tn c hT hc hA _ t 11 0 0 z0 (u2 f 93 12 0) R hR (by omega) (by omega) (by simp [u2, ur, upd]; rfl) (fun j hj => absurd hj (by omega)) ⟨fun b b1 _ => u2_n _ _ _ b1, fun i _ _ i3 => by simp [u2, ur, upd, i3]⟩ (fun F' b' a1 a2 a3 => by rw [hz, fz_s]; exact lc_pe3 f F' b' t R.2.1 z (by omega) a1 a3)
theorem c_prog4 (t : Nat) (f : Mem) (s : Sg) (k p rz lz : Ro) (hC : RC f s k p rz lz) (w : wfC s k p) (tn : Nat) (c : Nat → Nat) (hT : RTp f tn c) (hc : tcW c tn) (hA : RA f) (ht : t < s 13 0) (h0 : s 0 t = 0 ∧ s 1 t = 0) {R : Nat × Nat × Ro} (hR : prg c tn 12 0 0 z0 = R) (hz : R.1 = 0) : C0 MX11_program [.ref 93, .int (nI t)] f (pQ4 f s k p rz lz t R.2.1 R.2.2) := by
  have h13 := w.2.2.2.2.1
  have h12 : R.2.1 ≤ 12 := by rw [← hR]; exact prg_le c tn 12 0 0 z0 (by omega)
  have h131 : R.1 ≤ 131 := by rw [← hR]; exact prg_z hc 12 0 0 z0 (by omega)
  refine Ct.of (lv := [(0, .ref 93), (1, .int (nI t))]) (by decide) (lb rfl) rfl ?_
  refine A_aload_n dX11_program_0 rfl 0 rfl ?_
  refine A_iload_n dX11_program_1 rfl 1 rfl ?_
  refine A_callV (M' := MX11_isTask) [.int (nI t)] [] 93 dX11_program_2 lk_RX11_133 oX11_isTask iX11_isTask rfl rfl ⟨lb rfl, lb rfl⟩ (lb rfl) ⟨lb rfl, lb rfl⟩ L93 rfl (c_isTask (nI t) _ hC.n w.2.2.2.2.1) ?_
  rintro _ g0 ⟨rfl, hg0⟩
  rw [hg0]
  refine A_if_ne (tgt := 10) dX11_program_5 rfl (fun h5 => ?_) (fun h5 => by exact absurd ((inR_nI (by omega)).mpr ht) (bz_0.mp h5))
  refine A_aload_n dX11_program_10 rfl 0 rfl ?_
  refine A_getR (b := 94) dX11_program_11 fo_RX11_9 L93 rfl ?_
  refine A_iload_n dX11_program_14 rfl 1 rfl ?_
  refine A_iaload t dX11_program_15 L94 (rfl) (by omega) (lb rfl) ?_
  refine A_topi (nI (s 0 t)) (hC.pl (by omega)) ?_
  refine A_if_ne (tgt := 30) dX11_program_16 rfl (fun h16 => by exact absurd (by rw [h0.1]; rfl) h16) (fun h16 => ?_)
  refine A_aload_n dX11_program_19 rfl 0 rfl ?_
  refine A_getR (b := 94) dX11_program_20 fo_RX11_9 L93 rfl ?_
  refine A_iconst (v := 4) dX11_program_23 rfl ?_
  refine A_iload_n dX11_program_24 rfl 1 rfl ?_
  refine A_iadd dX11_program_25 ?_
  refine A_iaload (4 + t) dX11_program_26 L94 (by simp only [lit, nI_add, pk_mul]) (by omega) (lb rfl) ?_
  refine A_topi (nI (s 1 t)) (hC.st (by omega)) ?_
  refine A_if_eq (tgt := 33) dX11_program_27 rfl (fun h27 => ?_) (fun h27 => by exact absurd (by rw [h0.2]; rfl) h27)
  refine A_aload_n dX11_program_33 rfl 0 rfl ?_
  refine A_iconst (v := 0) dX11_program_34 rfl ?_
  refine A_putI dX11_program_35 fo_RX11_89 L93 rfl ?_
  refine A_aload_n dX11_program_38 rfl 0 rfl ?_
  refine A_iconst (v := -1) dX11_program_39 rfl ?_
  refine A_putI dX11_program_40 fo_RX11_92 L93 rfl ?_
  refine A_aload_n dX11_program_43 rfl 0 rfl ?_
  refine A_iconst (v := 0) dX11_program_44 rfl ?_
  refine A_putI dX11_program_45 fo_RX11_136 L93 rfl ?_
  refine A_iconst (v := 1) dX11_program_48 rfl ?_
  refine A_istore_n (lv' := [(2, .int 1), (0, .ref 93), (1, .int (nI t))]) dX11_program_49 rfl (lb rfl) rfl ?_
  refine A_eq rfl rfl (f' := rd 93 10 11 (u2 f 93 12 0) 0 (-1)) (rd_uk f 0 (-1) 0 (by decide) (by decide)) ?_
  refine A_sub [0, 2, 1] rfl ?_
  exact lc_pr f tn c hT hc hA _ t 11 0 0 z0 (u2 f 93 12 0) R hR (by omega) (by omega) (by simp [u2, ur, upd]; rfl) (fun j hj => absurd hj (by omega)) ⟨fun b b1 _ => u2_n _ _ _ b1, fun i _ _ i3 => by simp [u2, ur, upd, i3]⟩ (fun F' b' a1 a2 a3 => by rw [hz, fz_0]; exact lc_pe4 f s k p rz lz hC w F' b' t R.2.1 R.2.2 (by omega) h12 a1 a2 a3)
