/-! the parser: the two numbers of a reader; what is read -/
def rd (A i j : Nat) (f : Mem) (a : Nat) (z : Int32) : Mem := u2 (u2 f A i (nI a)) A j z
theorem rd_a {A i j : Nat} (f : Mem) (a : Nat) (z : Int32) (h : i ≠ j) : rd A i j f a z A i = nI a := by simp [rd, u2, ur, upd, h]
theorem rd_z {A i j : Nat} (f : Mem) (a : Nat) (z : Int32) : rd A i j f a z A j = z := by simp [rd, u2, ur, upd]
theorem rd_o {A i j b : Nat} (f : Mem) (a : Nat) (z : Int32) (h : b ≠ A) : rd A i j f a z b = f b := by simp [rd, u2, ur, h]
theorem rd_k {A i j k : Nat} (f : Mem) (a : Nat) (z : Int32) (h1 : k ≠ i) (h2 : k ≠ j) : rd A i j f a z A k = f A k := by simp [rd, u2, ur, upd, h1, h2]
theorem rd_ua {A i j : Nat} (f : Mem) (a b : Nat) (z : Int32) {x : Int32} (h : i ≠ j) (e : x = nI b) : u2 (rd A i j f a z) A i x = rd A i j f b z := by
  subst e
  funext p q; simp only [rd, u2, ur, upd]
  by_cases h1 : p = A <;> by_cases h2 : q = i <;> by_cases h3 : q = j <;> simp_all [upd]
theorem rd_uz {A i j : Nat} (f : Mem) (a : Nat) (z x : Int32) : u2 (rd A i j f a z) A j x = rd A i j f a x := by
  funext p q; simp only [rd, u2, ur, upd]
  by_cases h1 : p = A <;> by_cases h2 : q = i <;> by_cases h3 : q = j <;> simp_all [upd]
theorem rd_uo {A i j b k : Nat} (f : Mem) (a : Nat) (z x : Int32) (h : b ≠ A) : u2 (rd A i j f a z) b k x = rd A i j (u2 f b k x) a z := by
  funext p q; simp only [rd, u2, ur, upd]
  by_cases h1 : p = A <;> by_cases h2 : p = b <;> simp_all
theorem rd_uk {A i j k : Nat} (f : Mem) (a : Nat) (z x : Int32) (h1 : k ≠ i) (h2 : k ≠ j) : u2 (rd A i j f a z) A k x = rd A i j (u2 f A k x) a z := by
  funext p q; simp only [rd, u2, ur, upd]
  by_cases h3 : p = A <;> by_cases h4 : q = i <;> by_cases h5 : q = j <;> by_cases h6 : q = k <;> simp_all [upd]
theorem rd_self (A i j : Nat) (f : Mem) (a : Nat) (z : Int32) (h1 : f A i = nI a) (h2 : f A j = z) : rd A i j f a z = f := by
  funext p q; simp only [rd, u2, ur, upd]
  by_cases h3 : p = A <;> by_cases h4 : q = i <;> by_cases h5 : q = j <;> simp_all [upd]
/-- letters of a tape; 0 behind it -/
def tcW (c : Nat → Nat) (tn : Nat) : Prop := tn ≤ 120 ∧ (∀ i, tn ≤ i → c i = 0) ∧ (∀ i, i < tn → 1 ≤ c i) ∧ ∀ i, c i ≤ 127
def tc (tn : Nat) (tb : Nat → Nat) : Nat → Nat := fun i => if i < tn then tb i else 0
theorem tc_w {tn : Nat} {tb : Nat → Nat} (h : wT tn tb) : tcW (tc tn tb) tn := by
  refine ⟨h.1, fun i hi => if_neg (by omega), fun i hi => ?_, fun i => ?_⟩
  · unfold tc; rw [if_pos hi]; exact (h.2 i hi).1
  · unfold tc; split
    · rename_i q; exact (h.2 i q).2
    · omega
theorem XTp.tcx {f : Mem} {tn : Nat} {tb : Nat → Nat} (h : XTp f tn tb) : XTp f tn (tc tn tb) := ⟨h.1, fun i hi => by unfold tc; rw [if_pos hi]; exact h.2 i hi⟩
theorem RTp.tcx {f : Mem} {tn : Nat} {tb : Nat → Nat} (h : RTp f tn tb) : RTp f tn (tc tn tb) := ⟨h.1, fun i hi => by unfold tc; rw [if_pos hi]; exact h.2 i hi⟩
abbrev isL (n : Nat) : Prop := 97 ≤ n ∧ n ≤ 122
abbrev isF (n : Nat) : Prop := 48 ≤ n ∧ n ≤ 57
def isWE (c : Nat → Nat) (a e : Nat) : Prop := a ≤ e ∧ (∀ i, a ≤ i → i < e → isL (c i)) ∧ ¬ isL (c e)
theorem isWE.uni {c : Nat → Nat} {a e e' : Nat} (h : isWE c a e) (h' : isWE c a e') : e = e' := by
  rcases Nat.lt_trichotomy e e' with q | q | q
  · exact absurd (h'.2.1 e h.1 q) h.2.2
  · exact q
  · exact absurd (h.2.1 e' h'.1 q) h'.2.2
def wE (c : Nat → Nat) : Nat → Nat → Nat
  | 0, a => a
  | n + 1, a => if isL (c a) then wE c n (a + 1) else a
theorem wE_is {c : Nat → Nat} : ∀ (n a : Nat), (∀ i, a + n ≤ i → ¬ isL (c i)) → isWE c a (wE c n a)
  | 0, a, h => ⟨Nat.le_refl _, fun i h1 h2 => by simp only [wE] at h2; omega, h a (by omega)⟩
  | n + 1, a, h => by
    unfold wE
    by_cases q : isL (c a)
    · rw [if_pos q]
      have r := wE_is n (a + 1) (fun i hi => h i (by omega))
      refine ⟨by have := r.1; omega, fun i h1 h2 => ?_, r.2.2⟩
      rcases Nat.lt_or_ge a i with g | g
      · exact r.2.1 i g h2
      · rw [show i = a by omega]; exact q
    · rw [if_neg q]
      exact ⟨Nat.le_refl _, fun i h1 h2 => by omega, q⟩
theorem tcW.wE {c : Nat → Nat} {tn : Nat} (hc : tcW c tn) (a : Nat) : isWE c a (wE c 120 a) := wE_is 120 a (fun i hi => by rw [hc.2.1 i (by have := hc.1; omega)]; decide)
theorem tcW.wL {c : Nat → Nat} {tn a e : Nat} (hc : tcW c tn) (h : isWE c a e) : e ≤ tn ∨ e = a := by
  rcases Nat.lt_or_ge tn e with q | q
  · refine .inr (Nat.le_antisymm ?_ h.1)
    refine Nat.not_lt.mp (fun g => ?_)
    have := h.2.1 (e - 1) (by omega) (by omega)
    rw [hc.2.1 (e - 1) (by omega)] at this
    exact absurd this (by decide)
  · exact .inl q
def Lt (w k : Nat) : Nat := lett.getD (6 * w + k) 0
abbrev mW (c : Nat → Nat) (b e w : Nat) : Prop := e ≤ b + 6 ∧ ∀ k, k < 6 → Lt w k = if b + k < e then c (b + k) else 0
theorem Lt_ne : ∀ w, w < 9 → ∀ v, v < 9 → w ≠ v → ∃ k, k < 6 ∧ Lt w k ≠ Lt v k := by decide +kernel
theorem mW_uni {c : Nat → Nat} {b e w v : Nat} (hw : w < 9) (hv : v < 9) (h1 : mW c b e w) (h2 : mW c b e v) : w = v := by
  by_cases q : w = v
  · exact q
  · obtain ⟨k, hk, hne⟩ := Lt_ne w hw v hv q
    exact absurd ((h1.2 k hk).trans (h2.2 k hk).symm) hne
def wD (c : Nat → Nat) (b e : Nat) : Nat → Nat
  | 0 => 9
  | n + 1 => if mW c b e n then n else wD c b e n
theorem wD_no {c : Nat → Nat} {b e : Nat} : ∀ (n : Nat), (∀ w, w < n → ¬ mW c b e w) → wD c b e n = 9
  | 0, _ => rfl
  | n + 1, h => by unfold wD; rw [if_neg (h n (by omega))]; exact wD_no n (fun w hw => h w (by omega))
theorem wD_yes {c : Nat → Nat} {b e w : Nat} (h : mW c b e w) (hw9 : w < 9) : ∀ (n : Nat), w < n → n ≤ 9 → wD c b e n = w
  | n + 1, hn, h9 => by
    unfold wD
    by_cases q : mW c b e n
    · rw [if_pos q]; exact mW_uni (by omega) hw9 q h
    · rw [if_neg q]
      have : w ≠ n := fun z => q (z ▸ h)
      exact wD_yes h hw9 n (by omega) (by omega)
theorem wD_lt {c : Nat → Nat} {b e : Nat} : ∀ (n : Nat), n ≤ 9 → wD c b e n ≤ 9
  | 0, _ => Nat.le_refl _
  | n + 1, h => by unfold wD; split
                   · omega
                   · exact wD_lt n (by omega)
/-- figures: up to m of them -/
def fg (m : Nat) (c : Nat → Nat) (a : Nat) : Nat ⊕ (Nat × Nat) :=
  if isF (c a) then (if m = 2 ∧ isF (c (a + 1)) then .inr (10 * (c a - 48) + (c (a + 1) - 48), a + 2) else .inr (c a - 48, a + 1)) else .inl a
theorem fg_l {m : Nat} {c : Nat → Nat} {a z : Nat} (h : fg m c a = .inl z) : z = a ∧ ¬ isF (c a) := by
  unfold fg at h
  split at h
  · split at h <;> cases h
  · rename_i q; cases h; exact ⟨rfl, q⟩
theorem fg_r {m : Nat} {c : Nat → Nat} {a v e : Nat} (h : fg m c a = .inr (v, e)) : isF (c a) ∧ ((m = 2 ∧ isF (c (a + 1)) ∧ v = 10 * (c a - 48) + (c (a + 1) - 48) ∧ e = a + 2) ∨ (¬ (m = 2 ∧ isF (c (a + 1))) ∧ v = c a - 48 ∧ e = a + 1)) := by
  unfold fg at h
  split at h
  · rename_i q
    refine ⟨q, ?_⟩
    split at h
    · rename_i q2; cases h; exact .inl ⟨q2.1, q2.2, rfl, rfl⟩
    · rename_i q2; cases h; exact .inr ⟨q2, rfl, rfl⟩
  · cases h
theorem fg_b {m : Nat} {c : Nat → Nat} {a v e : Nat} (h : fg m c a = .inr (v, e)) : v ≤ 99 ∧ a < e ∧ e ≤ a + 2 := by
  obtain ⟨h1, ⟨_, h2, h3, h4⟩ | ⟨_, h3, h4⟩⟩ := fg_r h
  · omega
  · omega
/-- a blank, figures, no more than B -/
def nu (m B : Nat) (c : Nat → Nat) (a : Nat) : Nat ⊕ (Int32 × Nat) :=
  if c a = 32 then (match fg m c (a + 1) with | .inl z => .inl z | .inr q => if q.1 ≤ B then .inr (nI q.1, q.2) else .inl (a + 1)) else .inl a
/-- a blank, a sign or none, figures -/
def nuS (c : Nat → Nat) (a : Nat) : Nat ⊕ (Int32 × Nat) :=
  if c a = 32 then (if c (a + 1) = 45 then (match fg 2 c (a + 2) with | .inl z => .inl z | .inr q => .inr (-nI q.1, q.2)) else (match fg 2 c (a + 1) with | .inl z => .inl z | .inr q => .inr (nI q.1, q.2))) else .inl a
abbrev St : Type := Nat × Int32 × Int32 × Int32 × Nat
def stm (c : Nat → Nat) (a : Nat) : Nat ⊕ St :=
  if wD c a (wE c 120 a) 9 = 9 then .inl a
  else if wD c a (wE c 120 a) 9 = 8 then (match nu 2 12 c (wE c 120 a) with | .inl z => .inl z | .inr q => .inr (8, q.1, 0, 0, q.2))
  else match nu 1 (if wD c a (wE c 120 a) 9 < 5 then 2 else 3) c (wE c 120 a) with
    | .inl z => .inl z
    | .inr q => if wD c a (wE c 120 a) 9 < 5 then .inr (wD c a (wE c 120 a) 9, q.1, 0, 0, q.2)
      else match nuS c q.2 with
        | .inl z => .inl z
        | .inr r => if wD c a (wE c 120 a) 9 < 7 then .inr (wD c a (wE c 120 a) 9, q.1, r.1, 0, r.2)
          else match nu 2 12 c r.2 with
            | .inl z => .inl z
            | .inr u => .inr (7, q.1, r.1, u.1, u.2)
/-- what a reader's method leaves -/
def oR (A i j : Nat) (f : Mem) (o : Nat ⊕ (Int32 × Nat)) : Option Value → Mem → Prop := fun r h =>
  match o with
  | .inl z => ∃ (x : Int32) (b : Nat), r = some (.int x) ∧ h = rd A i j f b (nI z)
  | .inr q => r = some (.int q.1) ∧ h = rd A i j f q.2 (-1)
theorem nI_n1 {a : Nat} (h : a < 2 ^ 31) : ¬ nI a = -1 := fun e => by
  have := nI_nneg h
  rw [e] at this
  exact this (by decide)
theorem x_at (f : Mem) {tn : Nat} {c : Nat → Nat} (hT : XTp f tn c) (hc : tcW c tn) (i : Nat) (hi : i < 2 ^ 31) : C0 MX8_at [.ref 44, .int (nI i)] f (rt (some (.int (nI (c i)))) f) := by
  have e := x_tapeAt f tn i hT.1 hc.1 hi
  rw [show (if i < tn then f 45 i else 0) = nI (c i) by
    by_cases q : i < tn
    · rw [if_pos q, hT.2 i q]
    · rw [if_neg q, hc.2.1 i (by omega)]; rfl] at e
  exact e
theorem XTp.rd {f : Mem} {tn : Nat} {c : Nat → Nat} (h : XTp f tn c) (a : Nat) (z : Int32) : XTp (rd 43 2 3 f a z) tn c := h.congr (by rw [rd_o _ _ _ (by decide)]) (by rw [rd_o _ _ _ (by decide)])
theorem fig1 : ∀ x, x < 58 → 48 ≤ x → (0 : Int32) + nI x - 48 = nI (x - 48) := by decide +kernel
theorem fig2 : ∀ x, x < 58 → 48 ≤ x → ∀ y, y < 58 → 48 ≤ y → nI (x - 48) * 10 + nI y - 48 = nI (10 * (x - 48) + (y - 48)) := by decide +kernel
theorem x_rb0 (f : Mem) (a : Nat) (z : Int32) (hz : ¬ z = -1) : C0 MX4_readBlank [.ref 43] (rd 43 2 3 f a z) (rt none (rd 43 2 3 f a z)) := by
  refine Ct.of (lv := [(0, .ref 43)]) (by decide) (lb rfl) rfl ?_
  refine A_aload_n dX4_readBlank_0 rfl 0 rfl ?_
  refine A_getI dX4_readBlank_1 fo_RX4_29 L43 rfl ?_
  refine A_topi (z) (rd_z f a z) ?_
  refine A_iconst (v := -1) dX4_readBlank_4 rfl ?_
  refine A_icmp_eq (tgt := 9) dX4_readBlank_5 rfl (fun h5 => by exact absurd h5 hz) (fun h5 => ?_)
  exact A_vret dX4_readBlank_8 rfl (⟨rfl, rfl⟩)
theorem x_rb1 (f : Mem) (tn : Nat) (c : Nat → Nat) (hT : XTp f tn c) (hc : tcW c tn) (a : Nat) (ha : a < 2 ^ 30) (h : c a = 32) : C0 MX4_readBlank [.ref 43] (rd 43 2 3 f a (-1)) (rt none (rd 43 2 3 f (a + 1) (-1))) := by
  refine Ct.of (lv := [(0, .ref 43)]) (by decide) (lb rfl) rfl ?_
  refine A_aload_n dX4_readBlank_0 rfl 0 rfl ?_
  refine A_getI dX4_readBlank_1 fo_RX4_29 L43 rfl ?_
  refine A_topi (-1) (rd_z f a (-1)) ?_
  refine A_iconst (v := -1) dX4_readBlank_4 rfl ?_
  refine A_icmp_eq (tgt := 9) dX4_readBlank_5 rfl (fun h5 => ?_) (fun h5 => by exact absurd rfl h5)
  refine A_aload_n dX4_readBlank_9 rfl 0 rfl ?_
  refine A_getR (b := 44) dX4_readBlank_10 fo_RX4_12 L43 rfl ?_
  refine A_aload_n dX4_readBlank_13 rfl 0 rfl ?_
  refine A_getI dX4_readBlank_14 fo_RX4_25 L43 rfl ?_
  refine A_topi (nI a) (rd_a f a (-1) (by decide)) ?_
  refine A_callV (M' := MX8_at) [.int (nI a)] [] 44 dX4_readBlank_17 lk_RX4_38 oX8_at iX8_at rfl rfl ⟨lb rfl, lb rfl⟩ (lb rfl) ⟨lb rfl, lb rfl⟩ L44 rfl (x_at _ (hT.rd a (-1)) hc a (by omega)) ?_
  rintro _ g0 ⟨rfl, hg0⟩
  rw [hg0]
  refine A_bipush (v := 32) dX4_readBlank_20 rfl ?_
  refine A_icmp_ne (tgt := 38) dX4_readBlank_22 rfl (fun h22 => by exact absurd (by rw [h]; rfl) h22) (fun h22 => ?_)
  refine A_aload_n dX4_readBlank_25 rfl 0 rfl ?_
  refine A_dup dX4_readBlank_26 rfl ?_
  refine A_getI dX4_readBlank_27 fo_RX4_25 L43 rfl ?_
  refine A_topi (nI a) (rd_a f a (-1) (by decide)) ?_
  refine A_iconst (v := 1) dX4_readBlank_30 rfl ?_
  refine A_iadd dX4_readBlank_31 ?_
  refine A_putI dX4_readBlank_32 fo_RX4_25 L43 rfl ?_
  refine A_eq rfl rfl (f' := rd 43 2 3 f (a + 1) (-1)) (rd_ua f a (a + 1) (-1) (by decide) (by simp only [lit, nI_add, pk_mul, Nat.add_zero])) ?_
  refine A_goto (tgt := 46) dX4_readBlank_35 rfl ?_
  exact A_vret dX4_readBlank_46 rfl (⟨rfl, rfl⟩)
theorem x_rb2 (f : Mem) (tn : Nat) (c : Nat → Nat) (hT : XTp f tn c) (hc : tcW c tn) (a : Nat) (ha : a < 2 ^ 30) (h : ¬ c a = 32) : C0 MX4_readBlank [.ref 43] (rd 43 2 3 f a (-1)) (rt none (rd 43 2 3 f a (nI a))) := by
  refine Ct.of (lv := [(0, .ref 43)]) (by decide) (lb rfl) rfl ?_
  refine A_aload_n dX4_readBlank_0 rfl 0 rfl ?_
  refine A_getI dX4_readBlank_1 fo_RX4_29 L43 rfl ?_
  refine A_topi (-1) (rd_z f a (-1)) ?_
  refine A_iconst (v := -1) dX4_readBlank_4 rfl ?_
  refine A_icmp_eq (tgt := 9) dX4_readBlank_5 rfl (fun h5 => ?_) (fun h5 => by exact absurd rfl h5)
  refine A_aload_n dX4_readBlank_9 rfl 0 rfl ?_
  refine A_getR (b := 44) dX4_readBlank_10 fo_RX4_12 L43 rfl ?_
  refine A_aload_n dX4_readBlank_13 rfl 0 rfl ?_
  refine A_getI dX4_readBlank_14 fo_RX4_25 L43 rfl ?_
  refine A_topi (nI a) (rd_a f a (-1) (by decide)) ?_
  refine A_callV (M' := MX8_at) [.int (nI a)] [] 44 dX4_readBlank_17 lk_RX4_38 oX8_at iX8_at rfl rfl ⟨lb rfl, lb rfl⟩ (lb rfl) ⟨lb rfl, lb rfl⟩ L44 rfl (x_at _ (hT.rd a (-1)) hc a (by omega)) ?_
  rintro _ g0 ⟨rfl, hg0⟩
  rw [hg0]
  refine A_bipush (v := 32) dX4_readBlank_20 rfl ?_
  refine A_icmp_ne (tgt := 38) dX4_readBlank_22 rfl (fun h22 => ?_) (fun h22 => by exact absurd ((nI_eq (by have := hc.2.2.2 a; omega) (by decide)).mp h22) h)
  refine A_aload_n dX4_readBlank_38 rfl 0 rfl ?_
  refine A_aload_n dX4_readBlank_39 rfl 0 rfl ?_
  refine A_getI dX4_readBlank_40 fo_RX4_25 L43 rfl ?_
  refine A_topi (nI a) (rd_a f a (-1) (by decide)) ?_
  refine A_putI dX4_readBlank_43 fo_RX4_29 L43 rfl ?_
  refine A_eq rfl rfl (f' := rd 43 2 3 f a (nI a)) (rd_uz f a (-1) (nI a)) ?_
  exact A_vret dX4_readBlank_46 rfl (⟨rfl, rfl⟩)
theorem x_tf1z (f : Mem) (a : Nat) (z : Int32) (hz : ¬ z = -1) : C0 MX4_takeFigures [.ref 43, .int 1] (rd 43 2 3 f a z) (rt (some (.int 0)) (rd 43 2 3 f a z)) := by
  refine Ct.of (lv := [(0, .ref 43), (1, .int 1)]) (by decide) (lb rfl) rfl ?_
  refine A_aload_n dX4_takeFigures_0 rfl 0 rfl ?_
  refine A_getI dX4_takeFigures_1 fo_RX4_25 L43 rfl ?_
  refine A_topi (nI a) (rd_a f a z (by decide)) ?_
  refine A_istore_n (lv' := [(2, .int (nI a)), (0, .ref 43), (1, .int 1)]) dX4_takeFigures_4 rfl (lb rfl) rfl ?_
  refine A_iconst (v := 0) dX4_takeFigures_5 rfl ?_
  refine A_istore_n (lv' := [(3, .int 0), (2, .int (nI a)), (0, .ref 43), (1, .int 1)]) dX4_takeFigures_6 rfl (lb rfl) rfl ?_
  refine A_iconst (v := 0) dX4_takeFigures_7 rfl ?_
  refine A_istore (lv' := [(4, .int 0), (3, .int 0), (2, .int (nI a)), (0, .ref 43), (1, .int 1)]) dX4_takeFigures_8 (lb rfl) rfl ?_
  refine A_iload dX4_takeFigures_10 0 rfl ?_
  refine A_iload_n dX4_takeFigures_12 rfl 4 rfl ?_
  refine A_icmp_ge (tgt := 92) dX4_takeFigures_13 rfl (fun h13 => absurd h13 (by decide)) (fun h13 => ?_)
  refine A_aload_n dX4_takeFigures_16 rfl 3 rfl ?_
  refine A_getI dX4_takeFigures_17 fo_RX4_29 L43 rfl ?_
  refine A_topi (z) (rd_z f a z) ?_
  refine A_iconst (v := -1) dX4_takeFigures_20 rfl ?_
  refine A_icmp_ne (tgt := 92) dX4_takeFigures_21 rfl (fun h21 => ?_) (fun h21 => by exact absurd h21 hz)
  refine A_aload_n dX4_takeFigures_92 rfl 3 rfl ?_
  refine A_getI dX4_takeFigures_93 fo_RX4_25 L43 rfl ?_
  refine A_topi (nI a) (rd_a f a z (by decide)) ?_
  refine A_iload_n dX4_takeFigures_96 rfl 2 rfl ?_
  refine A_icmp_ne (tgt := 116) dX4_takeFigures_97 rfl (fun h97 => by exact absurd rfl h97) (fun h97 => ?_)
  refine A_aload_n dX4_takeFigures_100 rfl 3 rfl ?_
  refine A_getI dX4_takeFigures_101 fo_RX4_29 L43 rfl ?_
  refine A_topi (z) (rd_z f a z) ?_
  refine A_iconst (v := -1) dX4_takeFigures_104 rfl ?_
  refine A_icmp_ne (tgt := 116) dX4_takeFigures_105 rfl (fun h105 => ?_) (fun h105 => by exact absurd h105 hz)
  refine A_iload_n dX4_takeFigures_116 rfl 1 rfl ?_
  exact A_iret dX4_takeFigures_117 rfl (⟨rfl, rfl⟩)
theorem x_tf2z (f : Mem) (a : Nat) (z : Int32) (hz : ¬ z = -1) : C0 MX4_takeFigures [.ref 43, .int 2] (rd 43 2 3 f a z) (rt (some (.int 0)) (rd 43 2 3 f a z)) := by
  refine Ct.of (lv := [(0, .ref 43), (1, .int 2)]) (by decide) (lb rfl) rfl ?_
  refine A_aload_n dX4_takeFigures_0 rfl 0 rfl ?_
  refine A_getI dX4_takeFigures_1 fo_RX4_25 L43 rfl ?_
  refine A_topi (nI a) (rd_a f a z (by decide)) ?_
  refine A_istore_n (lv' := [(2, .int (nI a)), (0, .ref 43), (1, .int 2)]) dX4_takeFigures_4 rfl (lb rfl) rfl ?_
  refine A_iconst (v := 0) dX4_takeFigures_5 rfl ?_
  refine A_istore_n (lv' := [(3, .int 0), (2, .int (nI a)), (0, .ref 43), (1, .int 2)]) dX4_takeFigures_6 rfl (lb rfl) rfl ?_
  refine A_iconst (v := 0) dX4_takeFigures_7 rfl ?_
  refine A_istore (lv' := [(4, .int 0), (3, .int 0), (2, .int (nI a)), (0, .ref 43), (1, .int 2)]) dX4_takeFigures_8 (lb rfl) rfl ?_
  refine A_iload dX4_takeFigures_10 0 rfl ?_
  refine A_iload_n dX4_takeFigures_12 rfl 4 rfl ?_
  refine A_icmp_ge (tgt := 92) dX4_takeFigures_13 rfl (fun h13 => absurd h13 (by decide)) (fun h13 => ?_)
  refine A_aload_n dX4_takeFigures_16 rfl 3 rfl ?_
  refine A_getI dX4_takeFigures_17 fo_RX4_29 L43 rfl ?_
  refine A_topi (z) (rd_z f a z) ?_
  refine A_iconst (v := -1) dX4_takeFigures_20 rfl ?_
  refine A_icmp_ne (tgt := 92) dX4_takeFigures_21 rfl (fun h21 => ?_) (fun h21 => by exact absurd h21 hz)
  refine A_aload_n dX4_takeFigures_92 rfl 3 rfl ?_
  refine A_getI dX4_takeFigures_93 fo_RX4_25 L43 rfl ?_
  refine A_topi (nI a) (rd_a f a z (by decide)) ?_
  refine A_iload_n dX4_takeFigures_96 rfl 2 rfl ?_
  refine A_icmp_ne (tgt := 116) dX4_takeFigures_97 rfl (fun h97 => by exact absurd rfl h97) (fun h97 => ?_)
  refine A_aload_n dX4_takeFigures_100 rfl 3 rfl ?_
  refine A_getI dX4_takeFigures_101 fo_RX4_29 L43 rfl ?_
  refine A_topi (z) (rd_z f a z) ?_
  refine A_iconst (v := -1) dX4_takeFigures_104 rfl ?_
  refine A_icmp_ne (tgt := 116) dX4_takeFigures_105 rfl (fun h105 => ?_) (fun h105 => by exact absurd h105 hz)
  refine A_iload_n dX4_takeFigures_116 rfl 1 rfl ?_
  exact A_iret dX4_takeFigures_117 rfl (⟨rfl, rfl⟩)
theorem F_lo {x : Nat} (h : isF x) : ¬ nI x < 48 := by rw [show (48 : Int32) = nI 48 from rfl, nI_ltI (by omega) (by omega)]; omega
theorem F_hi {x : Nat} (h : isF x) : ¬ 57 < nI x := by rw [show (57 : Int32) = nI 57 from rfl, nI_ltI (by omega) (by omega)]; omega
theorem F_of {x : Nat} (hx : x ≤ 127) (h1 : ¬ nI x < 48) (h2 : ¬ 57 < nI x) : isF x := by
  rw [show (48 : Int32) = nI 48 from rfl, nI_ltI (by omega) (by omega)] at h1
  rw [show (57 : Int32) = nI 57 from rfl, nI_ltI (by omega) (by omega)] at h2
  omega
theorem x_tf1n (f : Mem) (tn : Nat) (c : Nat → Nat) (hT : XTp f tn c) (hc : tcW c tn) (a : Nat) (ha : a < 2 ^ 30) (h1 : ¬ isF (c a)) : C0 MX4_takeFigures [.ref 43, .int 1] (rd 43 2 3 f a (-1)) (rt (some (.int 0)) (rd 43 2 3 f a (nI a))) := by
  refine Ct.of (lv := [(0, .ref 43), (1, .int 1)]) (by decide) (lb rfl) rfl ?_
  refine A_aload_n dX4_takeFigures_0 rfl 0 rfl ?_
  refine A_getI dX4_takeFigures_1 fo_RX4_25 L43 rfl ?_
  refine A_topi (nI a) (rd_a f a (-1) (by decide)) ?_
  refine A_istore_n (lv' := [(2, .int (nI a)), (0, .ref 43), (1, .int 1)]) dX4_takeFigures_4 rfl (lb rfl) rfl ?_
  refine A_iconst (v := 0) dX4_takeFigures_5 rfl ?_
  refine A_istore_n (lv' := [(3, .int 0), (2, .int (nI a)), (0, .ref 43), (1, .int 1)]) dX4_takeFigures_6 rfl (lb rfl) rfl ?_
  refine A_iconst (v := 0) dX4_takeFigures_7 rfl ?_
  refine A_istore (lv' := [(4, .int 0), (3, .int 0), (2, .int (nI a)), (0, .ref 43), (1, .int 1)]) dX4_takeFigures_8 (lb rfl) rfl ?_
  refine A_iload dX4_takeFigures_10 0 rfl ?_
  refine A_iload_n dX4_takeFigures_12 rfl 4 rfl ?_
  refine A_icmp_ge (tgt := 92) dX4_takeFigures_13 rfl (fun h13 => by exact absurd h13 (by decide)) (fun h13 => ?_)
  refine A_aload_n dX4_takeFigures_16 rfl 3 rfl ?_
  refine A_getI dX4_takeFigures_17 fo_RX4_29 L43 rfl ?_
  refine A_topi (-1) (rd_z f a (-1)) ?_
  refine A_iconst (v := -1) dX4_takeFigures_20 rfl ?_
  refine A_icmp_ne (tgt := 92) dX4_takeFigures_21 rfl (fun h21 => by exact absurd rfl h21) (fun h21 => ?_)
  refine A_aload_n dX4_takeFigures_24 rfl 3 rfl ?_
  refine A_getR (b := 44) dX4_takeFigures_25 fo_RX4_12 L43 rfl ?_
  refine A_aload_n dX4_takeFigures_28 rfl 3 rfl ?_
  refine A_getI dX4_takeFigures_29 fo_RX4_25 L43 rfl ?_
  refine A_topi (nI a) (rd_a f a (-1) (by decide)) ?_
  refine A_callV (M' := MX8_at) [.int (nI a)] [] 44 dX4_takeFigures_32 lk_RX4_38 oX8_at iX8_at rfl rfl ⟨lb rfl, lb rfl⟩ (lb rfl) ⟨lb rfl, lb rfl⟩ L44 rfl (x_at _ (hT.rd a (-1)) hc a (by omega)) ?_
  rintro _ g0 ⟨rfl, hg0⟩
  rw [hg0]
  refine A_bipush (v := 48) dX4_takeFigures_35 rfl ?_
  refine A_icmp_lt (tgt := 92) dX4_takeFigures_37 rfl (fun h37 => ?_) (fun h37 => ?_)
  · refine A_aload_n dX4_takeFigures_92 rfl 3 rfl ?_
    refine A_getI dX4_takeFigures_93 fo_RX4_25 L43 rfl ?_
    refine A_topi (nI a) (rd_a f a (-1) (by decide)) ?_
    refine A_iload_n dX4_takeFigures_96 rfl 2 rfl ?_
    refine A_icmp_ne (tgt := 116) dX4_takeFigures_97 rfl (fun h97 => by exact absurd rfl h97) (fun h97 => ?_)
    refine A_aload_n dX4_takeFigures_100 rfl 3 rfl ?_
    refine A_getI dX4_takeFigures_101 fo_RX4_29 L43 rfl ?_
    refine A_topi (-1) (rd_z f a (-1)) ?_
    refine A_iconst (v := -1) dX4_takeFigures_104 rfl ?_
    refine A_icmp_ne (tgt := 116) dX4_takeFigures_105 rfl (fun h105 => by exact absurd rfl h105) (fun h105 => ?_)
    refine A_aload_n dX4_takeFigures_108 rfl 3 rfl ?_
    refine A_aload_n dX4_takeFigures_109 rfl 3 rfl ?_
    refine A_getI dX4_takeFigures_110 fo_RX4_25 L43 rfl ?_
    refine A_topi (nI a) (rd_a f a (-1) (by decide)) ?_
    refine A_putI dX4_takeFigures_113 fo_RX4_29 L43 rfl ?_
    refine A_eq rfl rfl (f' := rd 43 2 3 f a (nI a)) (rd_uz f a (-1) (nI a)) ?_
    refine A_iload_n dX4_takeFigures_116 rfl 1 rfl ?_
    exact A_iret dX4_takeFigures_117 rfl (⟨rfl, rfl⟩)
  · refine A_aload_n dX4_takeFigures_40 rfl 3 rfl ?_
    refine A_getR (b := 44) dX4_takeFigures_41 fo_RX4_12 L43 rfl ?_
    refine A_aload_n dX4_takeFigures_44 rfl 3 rfl ?_
    refine A_getI dX4_takeFigures_45 fo_RX4_25 L43 rfl ?_
    refine A_topi (nI a) (rd_a f a (-1) (by decide)) ?_
    refine A_callV (M' := MX8_at) [.int (nI a)] [] 44 dX4_takeFigures_48 lk_RX4_38 oX8_at iX8_at rfl rfl ⟨lb rfl, lb rfl⟩ (lb rfl) ⟨lb rfl, lb rfl⟩ L44 rfl (x_at _ (hT.rd a (-1)) hc a (by omega)) ?_
    rintro _ g0 ⟨rfl, hg0⟩
    rw [hg0]
    refine A_bipush (v := 57) dX4_takeFigures_51 rfl ?_
    refine A_icmp_gt (tgt := 92) dX4_takeFigures_53 rfl (fun h53 => ?_) (fun h53 => by exact absurd (F_of (hc.2.2.2 _) h37 h53) h1)
    refine A_aload_n dX4_takeFigures_92 rfl 3 rfl ?_
    refine A_getI dX4_takeFigures_93 fo_RX4_25 L43 rfl ?_
    refine A_topi (nI a) (rd_a f a (-1) (by decide)) ?_
    refine A_iload_n dX4_takeFigures_96 rfl 2 rfl ?_
    refine A_icmp_ne (tgt := 116) dX4_takeFigures_97 rfl (fun h97 => by exact absurd rfl h97) (fun h97 => ?_)
    refine A_aload_n dX4_takeFigures_100 rfl 3 rfl ?_
    refine A_getI dX4_takeFigures_101 fo_RX4_29 L43 rfl ?_
    refine A_topi (-1) (rd_z f a (-1)) ?_
    refine A_iconst (v := -1) dX4_takeFigures_104 rfl ?_
    refine A_icmp_ne (tgt := 116) dX4_takeFigures_105 rfl (fun h105 => by exact absurd rfl h105) (fun h105 => ?_)
    refine A_aload_n dX4_takeFigures_108 rfl 3 rfl ?_
    refine A_aload_n dX4_takeFigures_109 rfl 3 rfl ?_
    refine A_getI dX4_takeFigures_110 fo_RX4_25 L43 rfl ?_
    refine A_topi (nI a) (rd_a f a (-1) (by decide)) ?_
    refine A_putI dX4_takeFigures_113 fo_RX4_29 L43 rfl ?_
    refine A_eq rfl rfl (f' := rd 43 2 3 f a (nI a)) (rd_uz f a (-1) (nI a)) ?_
    refine A_iload_n dX4_takeFigures_116 rfl 1 rfl ?_
    exact A_iret dX4_takeFigures_117 rfl (⟨rfl, rfl⟩)
theorem x_tf1s (f : Mem) (tn : Nat) (c : Nat → Nat) (hT : XTp f tn c) (hc : tcW c tn) (a : Nat) (ha : a < 2 ^ 30) (h1 : isF (c a)) : C0 MX4_takeFigures [.ref 43, .int 1] (rd 43 2 3 f a (-1)) (rt (some (.int (nI (c a - 48)))) (rd 43 2 3 f (a + 1) (-1))) := by
  refine Ct.of (lv := [(0, .ref 43), (1, .int 1)]) (by decide) (lb rfl) rfl ?_
  refine A_aload_n dX4_takeFigures_0 rfl 0 rfl ?_
  refine A_getI dX4_takeFigures_1 fo_RX4_25 L43 rfl ?_
  refine A_topi (nI a) (rd_a f a (-1) (by decide)) ?_
  refine A_istore_n (lv' := [(2, .int (nI a)), (0, .ref 43), (1, .int 1)]) dX4_takeFigures_4 rfl (lb rfl) rfl ?_
  refine A_iconst (v := 0) dX4_takeFigures_5 rfl ?_
  refine A_istore_n (lv' := [(3, .int 0), (2, .int (nI a)), (0, .ref 43), (1, .int 1)]) dX4_takeFigures_6 rfl (lb rfl) rfl ?_
  refine A_iconst (v := 0) dX4_takeFigures_7 rfl ?_
  refine A_istore (lv' := [(4, .int 0), (3, .int 0), (2, .int (nI a)), (0, .ref 43), (1, .int 1)]) dX4_takeFigures_8 (lb rfl) rfl ?_
  refine A_iload dX4_takeFigures_10 0 rfl ?_
  refine A_iload_n dX4_takeFigures_12 rfl 4 rfl ?_
  refine A_icmp_ge (tgt := 92) dX4_takeFigures_13 rfl (fun h13 => by exact absurd h13 (by decide)) (fun h13 => ?_)
  refine A_aload_n dX4_takeFigures_16 rfl 3 rfl ?_
  refine A_getI dX4_takeFigures_17 fo_RX4_29 L43 rfl ?_
  refine A_topi (-1) (rd_z f a (-1)) ?_
  refine A_iconst (v := -1) dX4_takeFigures_20 rfl ?_
  refine A_icmp_ne (tgt := 92) dX4_takeFigures_21 rfl (fun h21 => by exact absurd rfl h21) (fun h21 => ?_)
  refine A_aload_n dX4_takeFigures_24 rfl 3 rfl ?_
  refine A_getR (b := 44) dX4_takeFigures_25 fo_RX4_12 L43 rfl ?_
  refine A_aload_n dX4_takeFigures_28 rfl 3 rfl ?_
  refine A_getI dX4_takeFigures_29 fo_RX4_25 L43 rfl ?_
  refine A_topi (nI a) (rd_a f a (-1) (by decide)) ?_
  refine A_callV (M' := MX8_at) [.int (nI a)] [] 44 dX4_takeFigures_32 lk_RX4_38 oX8_at iX8_at rfl rfl ⟨lb rfl, lb rfl⟩ (lb rfl) ⟨lb rfl, lb rfl⟩ L44 rfl (x_at _ (hT.rd a (-1)) hc a (by omega)) ?_
  rintro _ g0 ⟨rfl, hg0⟩
  rw [hg0]
  refine A_bipush (v := 48) dX4_takeFigures_35 rfl ?_
  refine A_icmp_lt (tgt := 92) dX4_takeFigures_37 rfl (fun h37 => by exact absurd h37 (F_lo h1)) (fun h37 => ?_)
  refine A_aload_n dX4_takeFigures_40 rfl 3 rfl ?_
  refine A_getR (b := 44) dX4_takeFigures_41 fo_RX4_12 L43 rfl ?_
  refine A_aload_n dX4_takeFigures_44 rfl 3 rfl ?_
  refine A_getI dX4_takeFigures_45 fo_RX4_25 L43 rfl ?_
  refine A_topi (nI a) (rd_a f a (-1) (by decide)) ?_
  refine A_callV (M' := MX8_at) [.int (nI a)] [] 44 dX4_takeFigures_48 lk_RX4_38 oX8_at iX8_at rfl rfl ⟨lb rfl, lb rfl⟩ (lb rfl) ⟨lb rfl, lb rfl⟩ L44 rfl (x_at _ (hT.rd a (-1)) hc a (by omega)) ?_
  rintro _ g0 ⟨rfl, hg0⟩
  rw [hg0]
  refine A_bipush (v := 57) dX4_takeFigures_51 rfl ?_
  refine A_icmp_gt (tgt := 92) dX4_takeFigures_53 rfl (fun h53 => by exact absurd h53 (F_hi h1)) (fun h53 => ?_)
  refine A_iload_n dX4_takeFigures_56 rfl 1 rfl ?_
  refine A_bipush (v := 10) dX4_takeFigures_57 rfl ?_
  refine A_imul dX4_takeFigures_59 ?_
  refine A_topi (0) (by decide) ?_
  refine A_aload_n dX4_takeFigures_60 rfl 3 rfl ?_
  refine A_getR (b := 44) dX4_takeFigures_61 fo_RX4_12 L43 rfl ?_
  refine A_aload_n dX4_takeFigures_64 rfl 3 rfl ?_
  refine A_getI dX4_takeFigures_65 fo_RX4_25 L43 rfl ?_
  refine A_topi (nI a) (rd_a f a (-1) (by decide)) ?_
  refine A_callV (M' := MX8_at) [.int (nI a)] [.int 0] 44 dX4_takeFigures_68 lk_RX4_38 oX8_at iX8_at rfl rfl ⟨lb rfl, lb rfl⟩ (lb rfl) ⟨lb rfl, lb rfl⟩ L44 rfl (x_at _ (hT.rd a (-1)) hc a (by omega)) ?_
  rintro _ g0 ⟨rfl, hg0⟩
  rw [hg0]
  refine A_iadd dX4_takeFigures_71 ?_
  refine A_bipush (v := 48) dX4_takeFigures_72 rfl ?_
  refine A_isub dX4_takeFigures_74 ?_
  refine A_topi (nI (c a - 48)) (fig1 _ (by omega) (by omega)) ?_
  refine A_istore_n (lv' := [(3, .int (nI (c a - 48))), (4, .int 0), (2, .int (nI a)), (0, .ref 43), (1, .int 1)]) dX4_takeFigures_75 rfl (lb rfl) rfl ?_
  refine A_aload_n dX4_takeFigures_76 rfl 3 rfl ?_
  refine A_dup dX4_takeFigures_77 rfl ?_
  refine A_getI dX4_takeFigures_78 fo_RX4_25 L43 rfl ?_
  refine A_topi (nI a) (rd_a f a (-1) (by decide)) ?_
  refine A_iconst (v := 1) dX4_takeFigures_81 rfl ?_
  refine A_iadd dX4_takeFigures_82 ?_
  refine A_putI dX4_takeFigures_83 fo_RX4_25 L43 rfl ?_
  refine A_eq rfl rfl (f' := rd 43 2 3 f (a + 1) (-1)) (rd_ua f a (a + 1) (-1) (by decide) (by simp only [lit, nI_add, pk_mul, Nat.add_zero])) ?_
  refine A_iinc (lv' := [(4, .int 1), (3, .int (nI (c a - 48))), (2, .int (nI a)), (0, .ref 43), (1, .int 1)]) dX4_takeFigures_86 1 rfl rfl (lb rfl) rfl ?_
  refine A_goto (tgt := 10) dX4_takeFigures_89 rfl ?_
  refine A_iload dX4_takeFigures_10 0 rfl ?_
  refine A_iload_n dX4_takeFigures_12 rfl 4 rfl ?_
  refine A_icmp_ge (tgt := 92) dX4_takeFigures_13 rfl (fun h13 => ?_) (fun h13 => by exact absurd (by decide) h13)
  refine A_aload_n dX4_takeFigures_92 rfl 3 rfl ?_
  refine A_getI dX4_takeFigures_93 fo_RX4_25 L43 rfl ?_
  refine A_topi (nI (a + 1)) (rd_a f (a + 1) (-1) (by decide)) ?_
  refine A_iload_n dX4_takeFigures_96 rfl 2 rfl ?_
  refine A_icmp_ne (tgt := 116) dX4_takeFigures_97 rfl (fun h97 => ?_) (fun h97 => by exact absurd ((nI_eq (by omega) (by omega)).mp h97) (by omega))
  refine A_iload_n dX4_takeFigures_116 rfl 1 rfl ?_
  exact A_iret dX4_takeFigures_117 rfl (⟨rfl, rfl⟩)
theorem x_tf2n (f : Mem) (tn : Nat) (c : Nat → Nat) (hT : XTp f tn c) (hc : tcW c tn) (a : Nat) (ha : a < 2 ^ 30) (h1 : ¬ isF (c a)) : C0 MX4_takeFigures [.ref 43, .int 2] (rd 43 2 3 f a (-1)) (rt (some (.int 0)) (rd 43 2 3 f a (nI a))) := by
  refine Ct.of (lv := [(0, .ref 43), (1, .int 2)]) (by decide) (lb rfl) rfl ?_
  refine A_aload_n dX4_takeFigures_0 rfl 0 rfl ?_
  refine A_getI dX4_takeFigures_1 fo_RX4_25 L43 rfl ?_
  refine A_topi (nI a) (rd_a f a (-1) (by decide)) ?_
  refine A_istore_n (lv' := [(2, .int (nI a)), (0, .ref 43), (1, .int 2)]) dX4_takeFigures_4 rfl (lb rfl) rfl ?_
  refine A_iconst (v := 0) dX4_takeFigures_5 rfl ?_
  refine A_istore_n (lv' := [(3, .int 0), (2, .int (nI a)), (0, .ref 43), (1, .int 2)]) dX4_takeFigures_6 rfl (lb rfl) rfl ?_
  refine A_iconst (v := 0) dX4_takeFigures_7 rfl ?_
  refine A_istore (lv' := [(4, .int 0), (3, .int 0), (2, .int (nI a)), (0, .ref 43), (1, .int 2)]) dX4_takeFigures_8 (lb rfl) rfl ?_
  refine A_iload dX4_takeFigures_10 0 rfl ?_
  refine A_iload_n dX4_takeFigures_12 rfl 4 rfl ?_
  refine A_icmp_ge (tgt := 92) dX4_takeFigures_13 rfl (fun h13 => by exact absurd h13 (by decide)) (fun h13 => ?_)
  refine A_aload_n dX4_takeFigures_16 rfl 3 rfl ?_
  refine A_getI dX4_takeFigures_17 fo_RX4_29 L43 rfl ?_
  refine A_topi (-1) (rd_z f a (-1)) ?_
  refine A_iconst (v := -1) dX4_takeFigures_20 rfl ?_
  refine A_icmp_ne (tgt := 92) dX4_takeFigures_21 rfl (fun h21 => by exact absurd rfl h21) (fun h21 => ?_)
  refine A_aload_n dX4_takeFigures_24 rfl 3 rfl ?_
  refine A_getR (b := 44) dX4_takeFigures_25 fo_RX4_12 L43 rfl ?_
  refine A_aload_n dX4_takeFigures_28 rfl 3 rfl ?_
  refine A_getI dX4_takeFigures_29 fo_RX4_25 L43 rfl ?_
  refine A_topi (nI a) (rd_a f a (-1) (by decide)) ?_
  refine A_callV (M' := MX8_at) [.int (nI a)] [] 44 dX4_takeFigures_32 lk_RX4_38 oX8_at iX8_at rfl rfl ⟨lb rfl, lb rfl⟩ (lb rfl) ⟨lb rfl, lb rfl⟩ L44 rfl (x_at _ (hT.rd a (-1)) hc a (by omega)) ?_
  rintro _ g0 ⟨rfl, hg0⟩
  rw [hg0]
  refine A_bipush (v := 48) dX4_takeFigures_35 rfl ?_
  refine A_icmp_lt (tgt := 92) dX4_takeFigures_37 rfl (fun h37 => ?_) (fun h37 => ?_)
  · refine A_aload_n dX4_takeFigures_92 rfl 3 rfl ?_
    refine A_getI dX4_takeFigures_93 fo_RX4_25 L43 rfl ?_
    refine A_topi (nI a) (rd_a f a (-1) (by decide)) ?_
    refine A_iload_n dX4_takeFigures_96 rfl 2 rfl ?_
    refine A_icmp_ne (tgt := 116) dX4_takeFigures_97 rfl (fun h97 => by exact absurd rfl h97) (fun h97 => ?_)
    refine A_aload_n dX4_takeFigures_100 rfl 3 rfl ?_
    refine A_getI dX4_takeFigures_101 fo_RX4_29 L43 rfl ?_
    refine A_topi (-1) (rd_z f a (-1)) ?_
    refine A_iconst (v := -1) dX4_takeFigures_104 rfl ?_
    refine A_icmp_ne (tgt := 116) dX4_takeFigures_105 rfl (fun h105 => by exact absurd rfl h105) (fun h105 => ?_)
    refine A_aload_n dX4_takeFigures_108 rfl 3 rfl ?_
    refine A_aload_n dX4_takeFigures_109 rfl 3 rfl ?_
    refine A_getI dX4_takeFigures_110 fo_RX4_25 L43 rfl ?_
    refine A_topi (nI a) (rd_a f a (-1) (by decide)) ?_
    refine A_putI dX4_takeFigures_113 fo_RX4_29 L43 rfl ?_
    refine A_eq rfl rfl (f' := rd 43 2 3 f a (nI a)) (rd_uz f a (-1) (nI a)) ?_
    refine A_iload_n dX4_takeFigures_116 rfl 1 rfl ?_
    exact A_iret dX4_takeFigures_117 rfl (⟨rfl, rfl⟩)
  · refine A_aload_n dX4_takeFigures_40 rfl 3 rfl ?_
    refine A_getR (b := 44) dX4_takeFigures_41 fo_RX4_12 L43 rfl ?_
    refine A_aload_n dX4_takeFigures_44 rfl 3 rfl ?_
    refine A_getI dX4_takeFigures_45 fo_RX4_25 L43 rfl ?_
    refine A_topi (nI a) (rd_a f a (-1) (by decide)) ?_
    refine A_callV (M' := MX8_at) [.int (nI a)] [] 44 dX4_takeFigures_48 lk_RX4_38 oX8_at iX8_at rfl rfl ⟨lb rfl, lb rfl⟩ (lb rfl) ⟨lb rfl, lb rfl⟩ L44 rfl (x_at _ (hT.rd a (-1)) hc a (by omega)) ?_
    rintro _ g0 ⟨rfl, hg0⟩
    rw [hg0]
    refine A_bipush (v := 57) dX4_takeFigures_51 rfl ?_
    refine A_icmp_gt (tgt := 92) dX4_takeFigures_53 rfl (fun h53 => ?_) (fun h53 => by exact absurd (F_of (hc.2.2.2 _) h37 h53) h1)
    refine A_aload_n dX4_takeFigures_92 rfl 3 rfl ?_
    refine A_getI dX4_takeFigures_93 fo_RX4_25 L43 rfl ?_
    refine A_topi (nI a) (rd_a f a (-1) (by decide)) ?_
    refine A_iload_n dX4_takeFigures_96 rfl 2 rfl ?_
    refine A_icmp_ne (tgt := 116) dX4_takeFigures_97 rfl (fun h97 => by exact absurd rfl h97) (fun h97 => ?_)
    refine A_aload_n dX4_takeFigures_100 rfl 3 rfl ?_
    refine A_getI dX4_takeFigures_101 fo_RX4_29 L43 rfl ?_
    refine A_topi (-1) (rd_z f a (-1)) ?_
    refine A_iconst (v := -1) dX4_takeFigures_104 rfl ?_
    refine A_icmp_ne (tgt := 116) dX4_takeFigures_105 rfl (fun h105 => by exact absurd rfl h105) (fun h105 => ?_)
    refine A_aload_n dX4_takeFigures_108 rfl 3 rfl ?_
    refine A_aload_n dX4_takeFigures_109 rfl 3 rfl ?_
    refine A_getI dX4_takeFigures_110 fo_RX4_25 L43 rfl ?_
    refine A_topi (nI a) (rd_a f a (-1) (by decide)) ?_
    refine A_putI dX4_takeFigures_113 fo_RX4_29 L43 rfl ?_
    refine A_eq rfl rfl (f' := rd 43 2 3 f a (nI a)) (rd_uz f a (-1) (nI a)) ?_
    refine A_iload_n dX4_takeFigures_116 rfl 1 rfl ?_
    exact A_iret dX4_takeFigures_117 rfl (⟨rfl, rfl⟩)
theorem x_tf2s (f : Mem) (tn : Nat) (c : Nat → Nat) (hT : XTp f tn c) (hc : tcW c tn) (a : Nat) (ha : a < 2 ^ 30) (h1 : isF (c a)) (h2 : ¬ isF (c (a + 1))) : C0 MX4_takeFigures [.ref 43, .int 2] (rd 43 2 3 f a (-1)) (rt (some (.int (nI (c a - 48)))) (rd 43 2 3 f (a + 1) (-1))) := by
  refine Ct.of (lv := [(0, .ref 43), (1, .int 2)]) (by decide) (lb rfl) rfl ?_
  refine A_aload_n dX4_takeFigures_0 rfl 0 rfl ?_
  refine A_getI dX4_takeFigures_1 fo_RX4_25 L43 rfl ?_
  refine A_topi (nI a) (rd_a f a (-1) (by decide)) ?_
  refine A_istore_n (lv' := [(2, .int (nI a)), (0, .ref 43), (1, .int 2)]) dX4_takeFigures_4 rfl (lb rfl) rfl ?_
  refine A_iconst (v := 0) dX4_takeFigures_5 rfl ?_
  refine A_istore_n (lv' := [(3, .int 0), (2, .int (nI a)), (0, .ref 43), (1, .int 2)]) dX4_takeFigures_6 rfl (lb rfl) rfl ?_
  refine A_iconst (v := 0) dX4_takeFigures_7 rfl ?_
  refine A_istore (lv' := [(4, .int 0), (3, .int 0), (2, .int (nI a)), (0, .ref 43), (1, .int 2)]) dX4_takeFigures_8 (lb rfl) rfl ?_
  refine A_iload dX4_takeFigures_10 0 rfl ?_
  refine A_iload_n dX4_takeFigures_12 rfl 4 rfl ?_
  refine A_icmp_ge (tgt := 92) dX4_takeFigures_13 rfl (fun h13 => by exact absurd h13 (by decide)) (fun h13 => ?_)
  refine A_aload_n dX4_takeFigures_16 rfl 3 rfl ?_
  refine A_getI dX4_takeFigures_17 fo_RX4_29 L43 rfl ?_
  refine A_topi (-1) (rd_z f a (-1)) ?_
  refine A_iconst (v := -1) dX4_takeFigures_20 rfl ?_
  refine A_icmp_ne (tgt := 92) dX4_takeFigures_21 rfl (fun h21 => by exact absurd rfl h21) (fun h21 => ?_)
  refine A_aload_n dX4_takeFigures_24 rfl 3 rfl ?_
  refine A_getR (b := 44) dX4_takeFigures_25 fo_RX4_12 L43 rfl ?_
  refine A_aload_n dX4_takeFigures_28 rfl 3 rfl ?_
  refine A_getI dX4_takeFigures_29 fo_RX4_25 L43 rfl ?_
  refine A_topi (nI a) (rd_a f a (-1) (by decide)) ?_
  refine A_callV (M' := MX8_at) [.int (nI a)] [] 44 dX4_takeFigures_32 lk_RX4_38 oX8_at iX8_at rfl rfl ⟨lb rfl, lb rfl⟩ (lb rfl) ⟨lb rfl, lb rfl⟩ L44 rfl (x_at _ (hT.rd a (-1)) hc a (by omega)) ?_
  rintro _ g0 ⟨rfl, hg0⟩
  rw [hg0]
  refine A_bipush (v := 48) dX4_takeFigures_35 rfl ?_
  refine A_icmp_lt (tgt := 92) dX4_takeFigures_37 rfl (fun h37 => by exact absurd h37 (F_lo h1)) (fun h37 => ?_)
  refine A_aload_n dX4_takeFigures_40 rfl 3 rfl ?_
  refine A_getR (b := 44) dX4_takeFigures_41 fo_RX4_12 L43 rfl ?_
  refine A_aload_n dX4_takeFigures_44 rfl 3 rfl ?_
  refine A_getI dX4_takeFigures_45 fo_RX4_25 L43 rfl ?_
  refine A_topi (nI a) (rd_a f a (-1) (by decide)) ?_
  refine A_callV (M' := MX8_at) [.int (nI a)] [] 44 dX4_takeFigures_48 lk_RX4_38 oX8_at iX8_at rfl rfl ⟨lb rfl, lb rfl⟩ (lb rfl) ⟨lb rfl, lb rfl⟩ L44 rfl (x_at _ (hT.rd a (-1)) hc a (by omega)) ?_
  rintro _ g0 ⟨rfl, hg0⟩
  rw [hg0]
  refine A_bipush (v := 57) dX4_takeFigures_51 rfl ?_
  refine A_icmp_gt (tgt := 92) dX4_takeFigures_53 rfl (fun h53 => by exact absurd h53 (F_hi h1)) (fun h53 => ?_)
  refine A_iload_n dX4_takeFigures_56 rfl 1 rfl ?_
  refine A_bipush (v := 10) dX4_takeFigures_57 rfl ?_
  refine A_imul dX4_takeFigures_59 ?_
  refine A_topi (0) (by decide) ?_
  refine A_aload_n dX4_takeFigures_60 rfl 3 rfl ?_
  refine A_getR (b := 44) dX4_takeFigures_61 fo_RX4_12 L43 rfl ?_
  refine A_aload_n dX4_takeFigures_64 rfl 3 rfl ?_
  refine A_getI dX4_takeFigures_65 fo_RX4_25 L43 rfl ?_
  refine A_topi (nI a) (rd_a f a (-1) (by decide)) ?_
  refine A_callV (M' := MX8_at) [.int (nI a)] [.int 0] 44 dX4_takeFigures_68 lk_RX4_38 oX8_at iX8_at rfl rfl ⟨lb rfl, lb rfl⟩ (lb rfl) ⟨lb rfl, lb rfl⟩ L44 rfl (x_at _ (hT.rd a (-1)) hc a (by omega)) ?_
  rintro _ g0 ⟨rfl, hg0⟩
  rw [hg0]
  refine A_iadd dX4_takeFigures_71 ?_
  refine A_bipush (v := 48) dX4_takeFigures_72 rfl ?_
  refine A_isub dX4_takeFigures_74 ?_
  refine A_topi (nI (c a - 48)) (fig1 _ (by omega) (by omega)) ?_
  refine A_istore_n (lv' := [(3, .int (nI (c a - 48))), (4, .int 0), (2, .int (nI a)), (0, .ref 43), (1, .int 2)]) dX4_takeFigures_75 rfl (lb rfl) rfl ?_
  refine A_aload_n dX4_takeFigures_76 rfl 3 rfl ?_
  refine A_dup dX4_takeFigures_77 rfl ?_
  refine A_getI dX4_takeFigures_78 fo_RX4_25 L43 rfl ?_
  refine A_topi (nI a) (rd_a f a (-1) (by decide)) ?_
  refine A_iconst (v := 1) dX4_takeFigures_81 rfl ?_
  refine A_iadd dX4_takeFigures_82 ?_
  refine A_putI dX4_takeFigures_83 fo_RX4_25 L43 rfl ?_
  refine A_eq rfl rfl (f' := rd 43 2 3 f (a + 1) (-1)) (rd_ua f a (a + 1) (-1) (by decide) (by simp only [lit, nI_add, pk_mul, Nat.add_zero])) ?_
  refine A_iinc (lv' := [(4, .int 1), (3, .int (nI (c a - 48))), (2, .int (nI a)), (0, .ref 43), (1, .int 2)]) dX4_takeFigures_86 1 rfl rfl (lb rfl) rfl ?_
  refine A_goto (tgt := 10) dX4_takeFigures_89 rfl ?_
  refine A_iload dX4_takeFigures_10 0 rfl ?_
  refine A_iload_n dX4_takeFigures_12 rfl 4 rfl ?_
  refine A_icmp_ge (tgt := 92) dX4_takeFigures_13 rfl (fun h13 => by exact absurd h13 (by decide)) (fun h13 => ?_)
  refine A_aload_n dX4_takeFigures_16 rfl 3 rfl ?_
  refine A_getI dX4_takeFigures_17 fo_RX4_29 L43 rfl ?_
  refine A_topi (-1) (rd_z f (a + 1) (-1)) ?_
  refine A_iconst (v := -1) dX4_takeFigures_20 rfl ?_
  refine A_icmp_ne (tgt := 92) dX4_takeFigures_21 rfl (fun h21 => by exact absurd rfl h21) (fun h21 => ?_)
  refine A_aload_n dX4_takeFigures_24 rfl 3 rfl ?_
  refine A_getR (b := 44) dX4_takeFigures_25 fo_RX4_12 L43 rfl ?_
  refine A_aload_n dX4_takeFigures_28 rfl 3 rfl ?_
  refine A_getI dX4_takeFigures_29 fo_RX4_25 L43 rfl ?_
  refine A_topi (nI (a + 1)) (rd_a f (a + 1) (-1) (by decide)) ?_
  refine A_callV (M' := MX8_at) [.int (nI (a + 1))] [] 44 dX4_takeFigures_32 lk_RX4_38 oX8_at iX8_at rfl rfl ⟨lb rfl, lb rfl⟩ (lb rfl) ⟨lb rfl, lb rfl⟩ L44 rfl (x_at _ (hT.rd (a + 1) (-1)) hc (a + 1) (by omega)) ?_
  rintro _ g0 ⟨rfl, hg0⟩
  rw [hg0]
  refine A_bipush (v := 48) dX4_takeFigures_35 rfl ?_
  refine A_icmp_lt (tgt := 92) dX4_takeFigures_37 rfl (fun h37 => ?_) (fun h37 => ?_)
  · refine A_aload_n dX4_takeFigures_92 rfl 3 rfl ?_
    refine A_getI dX4_takeFigures_93 fo_RX4_25 L43 rfl ?_
    refine A_topi (nI (a + 1)) (rd_a f (a + 1) (-1) (by decide)) ?_
    refine A_iload_n dX4_takeFigures_96 rfl 2 rfl ?_
    refine A_icmp_ne (tgt := 116) dX4_takeFigures_97 rfl (fun h97 => ?_) (fun h97 => by exact absurd ((nI_eq (by omega) (by omega)).mp h97) (by omega))
    refine A_iload_n dX4_takeFigures_116 rfl 1 rfl ?_
    exact A_iret dX4_takeFigures_117 rfl (⟨rfl, rfl⟩)
  · refine A_aload_n dX4_takeFigures_40 rfl 3 rfl ?_
    refine A_getR (b := 44) dX4_takeFigures_41 fo_RX4_12 L43 rfl ?_
    refine A_aload_n dX4_takeFigures_44 rfl 3 rfl ?_
    refine A_getI dX4_takeFigures_45 fo_RX4_25 L43 rfl ?_
    refine A_topi (nI (a + 1)) (rd_a f (a + 1) (-1) (by decide)) ?_
    refine A_callV (M' := MX8_at) [.int (nI (a + 1))] [] 44 dX4_takeFigures_48 lk_RX4_38 oX8_at iX8_at rfl rfl ⟨lb rfl, lb rfl⟩ (lb rfl) ⟨lb rfl, lb rfl⟩ L44 rfl (x_at _ (hT.rd (a + 1) (-1)) hc (a + 1) (by omega)) ?_
    rintro _ g0 ⟨rfl, hg0⟩
    rw [hg0]
    refine A_bipush (v := 57) dX4_takeFigures_51 rfl ?_
    refine A_icmp_gt (tgt := 92) dX4_takeFigures_53 rfl (fun h53 => ?_) (fun h53 => by exact absurd (F_of (hc.2.2.2 _) h37 h53) h2)
    refine A_aload_n dX4_takeFigures_92 rfl 3 rfl ?_
    refine A_getI dX4_takeFigures_93 fo_RX4_25 L43 rfl ?_
    refine A_topi (nI (a + 1)) (rd_a f (a + 1) (-1) (by decide)) ?_
    refine A_iload_n dX4_takeFigures_96 rfl 2 rfl ?_
    refine A_icmp_ne (tgt := 116) dX4_takeFigures_97 rfl (fun h97 => ?_) (fun h97 => by exact absurd ((nI_eq (by omega) (by omega)).mp h97) (by omega))
    refine A_iload_n dX4_takeFigures_116 rfl 1 rfl ?_
    exact A_iret dX4_takeFigures_117 rfl (⟨rfl, rfl⟩)
theorem x_tf2d (f : Mem) (tn : Nat) (c : Nat → Nat) (hT : XTp f tn c) (hc : tcW c tn) (a : Nat) (ha : a < 2 ^ 30) (h1 : isF (c a)) (h2 : isF (c (a + 1))) : C0 MX4_takeFigures [.ref 43, .int 2] (rd 43 2 3 f a (-1)) (rt (some (.int (nI (10 * (c a - 48) + (c (a + 1) - 48))))) (rd 43 2 3 f (a + 2) (-1))) := by
  refine Ct.of (lv := [(0, .ref 43), (1, .int 2)]) (by decide) (lb rfl) rfl ?_
  refine A_aload_n dX4_takeFigures_0 rfl 0 rfl ?_
  refine A_getI dX4_takeFigures_1 fo_RX4_25 L43 rfl ?_
  refine A_topi (nI a) (rd_a f a (-1) (by decide)) ?_
  refine A_istore_n (lv' := [(2, .int (nI a)), (0, .ref 43), (1, .int 2)]) dX4_takeFigures_4 rfl (lb rfl) rfl ?_
  refine A_iconst (v := 0) dX4_takeFigures_5 rfl ?_
  refine A_istore_n (lv' := [(3, .int 0), (2, .int (nI a)), (0, .ref 43), (1, .int 2)]) dX4_takeFigures_6 rfl (lb rfl) rfl ?_
  refine A_iconst (v := 0) dX4_takeFigures_7 rfl ?_
  refine A_istore (lv' := [(4, .int 0), (3, .int 0), (2, .int (nI a)), (0, .ref 43), (1, .int 2)]) dX4_takeFigures_8 (lb rfl) rfl ?_
  refine A_iload dX4_takeFigures_10 0 rfl ?_
  refine A_iload_n dX4_takeFigures_12 rfl 4 rfl ?_
  refine A_icmp_ge (tgt := 92) dX4_takeFigures_13 rfl (fun h13 => by exact absurd h13 (by decide)) (fun h13 => ?_)
  refine A_aload_n dX4_takeFigures_16 rfl 3 rfl ?_
  refine A_getI dX4_takeFigures_17 fo_RX4_29 L43 rfl ?_
  refine A_topi (-1) (rd_z f a (-1)) ?_
  refine A_iconst (v := -1) dX4_takeFigures_20 rfl ?_
  refine A_icmp_ne (tgt := 92) dX4_takeFigures_21 rfl (fun h21 => by exact absurd rfl h21) (fun h21 => ?_)
  refine A_aload_n dX4_takeFigures_24 rfl 3 rfl ?_
  refine A_getR (b := 44) dX4_takeFigures_25 fo_RX4_12 L43 rfl ?_
  refine A_aload_n dX4_takeFigures_28 rfl 3 rfl ?_
  refine A_getI dX4_takeFigures_29 fo_RX4_25 L43 rfl ?_
  refine A_topi (nI a) (rd_a f a (-1) (by decide)) ?_
  refine A_callV (M' := MX8_at) [.int (nI a)] [] 44 dX4_takeFigures_32 lk_RX4_38 oX8_at iX8_at rfl rfl ⟨lb rfl, lb rfl⟩ (lb rfl) ⟨lb rfl, lb rfl⟩ L44 rfl (x_at _ (hT.rd a (-1)) hc a (by omega)) ?_
  rintro _ g0 ⟨rfl, hg0⟩
  rw [hg0]
  refine A_bipush (v := 48) dX4_takeFigures_35 rfl ?_
  refine A_icmp_lt (tgt := 92) dX4_takeFigures_37 rfl (fun h37 => by exact absurd h37 (F_lo h1)) (fun h37 => ?_)
  refine A_aload_n dX4_takeFigures_40 rfl 3 rfl ?_
  refine A_getR (b := 44) dX4_takeFigures_41 fo_RX4_12 L43 rfl ?_
  refine A_aload_n dX4_takeFigures_44 rfl 3 rfl ?_
  refine A_getI dX4_takeFigures_45 fo_RX4_25 L43 rfl ?_
  refine A_topi (nI a) (rd_a f a (-1) (by decide)) ?_
  refine A_callV (M' := MX8_at) [.int (nI a)] [] 44 dX4_takeFigures_48 lk_RX4_38 oX8_at iX8_at rfl rfl ⟨lb rfl, lb rfl⟩ (lb rfl) ⟨lb rfl, lb rfl⟩ L44 rfl (x_at _ (hT.rd a (-1)) hc a (by omega)) ?_
  rintro _ g0 ⟨rfl, hg0⟩
  rw [hg0]
  refine A_bipush (v := 57) dX4_takeFigures_51 rfl ?_
  refine A_icmp_gt (tgt := 92) dX4_takeFigures_53 rfl (fun h53 => by exact absurd h53 (F_hi h1)) (fun h53 => ?_)
  refine A_iload_n dX4_takeFigures_56 rfl 1 rfl ?_
  refine A_bipush (v := 10) dX4_takeFigures_57 rfl ?_
  refine A_imul dX4_takeFigures_59 ?_
  refine A_topi (0) (by decide) ?_
  refine A_aload_n dX4_takeFigures_60 rfl 3 rfl ?_
  refine A_getR (b := 44) dX4_takeFigures_61 fo_RX4_12 L43 rfl ?_
  refine A_aload_n dX4_takeFigures_64 rfl 3 rfl ?_
  refine A_getI dX4_takeFigures_65 fo_RX4_25 L43 rfl ?_
  refine A_topi (nI a) (rd_a f a (-1) (by decide)) ?_
  refine A_callV (M' := MX8_at) [.int (nI a)] [.int 0] 44 dX4_takeFigures_68 lk_RX4_38 oX8_at iX8_at rfl rfl ⟨lb rfl, lb rfl⟩ (lb rfl) ⟨lb rfl, lb rfl⟩ L44 rfl (x_at _ (hT.rd a (-1)) hc a (by omega)) ?_
  rintro _ g0 ⟨rfl, hg0⟩
  rw [hg0]
  refine A_iadd dX4_takeFigures_71 ?_
  refine A_bipush (v := 48) dX4_takeFigures_72 rfl ?_
  refine A_isub dX4_takeFigures_74 ?_
  refine A_topi (nI (c a - 48)) (fig1 _ (by omega) (by omega)) ?_
  refine A_istore_n (lv' := [(3, .int (nI (c a - 48))), (4, .int 0), (2, .int (nI a)), (0, .ref 43), (1, .int 2)]) dX4_takeFigures_75 rfl (lb rfl) rfl ?_
  refine A_aload_n dX4_takeFigures_76 rfl 3 rfl ?_
  refine A_dup dX4_takeFigures_77 rfl ?_
  refine A_getI dX4_takeFigures_78 fo_RX4_25 L43 rfl ?_
  refine A_topi (nI a) (rd_a f a (-1) (by decide)) ?_
  refine A_iconst (v := 1) dX4_takeFigures_81 rfl ?_
  refine A_iadd dX4_takeFigures_82 ?_
  refine A_putI dX4_takeFigures_83 fo_RX4_25 L43 rfl ?_
  refine A_eq rfl rfl (f' := rd 43 2 3 f (a + 1) (-1)) (rd_ua f a (a + 1) (-1) (by decide) (by simp only [lit, nI_add, pk_mul, Nat.add_zero])) ?_
  refine A_iinc (lv' := [(4, .int 1), (3, .int (nI (c a - 48))), (2, .int (nI a)), (0, .ref 43), (1, .int 2)]) dX4_takeFigures_86 1 rfl rfl (lb rfl) rfl ?_
  refine A_goto (tgt := 10) dX4_takeFigures_89 rfl ?_
  refine A_iload dX4_takeFigures_10 0 rfl ?_
  refine A_iload_n dX4_takeFigures_12 rfl 4 rfl ?_
  refine A_icmp_ge (tgt := 92) dX4_takeFigures_13 rfl (fun h13 => by exact absurd h13 (by decide)) (fun h13 => ?_)
  refine A_aload_n dX4_takeFigures_16 rfl 3 rfl ?_
  refine A_getI dX4_takeFigures_17 fo_RX4_29 L43 rfl ?_
  refine A_topi (-1) (rd_z f (a + 1) (-1)) ?_
  refine A_iconst (v := -1) dX4_takeFigures_20 rfl ?_
  refine A_icmp_ne (tgt := 92) dX4_takeFigures_21 rfl (fun h21 => by exact absurd rfl h21) (fun h21 => ?_)
  refine A_aload_n dX4_takeFigures_24 rfl 3 rfl ?_
  refine A_getR (b := 44) dX4_takeFigures_25 fo_RX4_12 L43 rfl ?_
  refine A_aload_n dX4_takeFigures_28 rfl 3 rfl ?_
  refine A_getI dX4_takeFigures_29 fo_RX4_25 L43 rfl ?_
  refine A_topi (nI (a + 1)) (rd_a f (a + 1) (-1) (by decide)) ?_
  refine A_callV (M' := MX8_at) [.int (nI (a + 1))] [] 44 dX4_takeFigures_32 lk_RX4_38 oX8_at iX8_at rfl rfl ⟨lb rfl, lb rfl⟩ (lb rfl) ⟨lb rfl, lb rfl⟩ L44 rfl (x_at _ (hT.rd (a + 1) (-1)) hc (a + 1) (by omega)) ?_
  rintro _ g0 ⟨rfl, hg0⟩
  rw [hg0]
  refine A_bipush (v := 48) dX4_takeFigures_35 rfl ?_
  refine A_icmp_lt (tgt := 92) dX4_takeFigures_37 rfl (fun h37 => by exact absurd h37 (F_lo h2)) (fun h37 => ?_)
  refine A_aload_n dX4_takeFigures_40 rfl 3 rfl ?_
  refine A_getR (b := 44) dX4_takeFigures_41 fo_RX4_12 L43 rfl ?_
  refine A_aload_n dX4_takeFigures_44 rfl 3 rfl ?_
  refine A_getI dX4_takeFigures_45 fo_RX4_25 L43 rfl ?_
  refine A_topi (nI (a + 1)) (rd_a f (a + 1) (-1) (by decide)) ?_
  refine A_callV (M' := MX8_at) [.int (nI (a + 1))] [] 44 dX4_takeFigures_48 lk_RX4_38 oX8_at iX8_at rfl rfl ⟨lb rfl, lb rfl⟩ (lb rfl) ⟨lb rfl, lb rfl⟩ L44 rfl (x_at _ (hT.rd (a + 1) (-1)) hc (a + 1) (by omega)) ?_
  rintro _ g0 ⟨rfl, hg0⟩
  rw [hg0]
  refine A_bipush (v := 57) dX4_takeFigures_51 rfl ?_
  refine A_icmp_gt (tgt := 92) dX4_takeFigures_53 rfl (fun h53 => by exact absurd h53 (F_hi h2)) (fun h53 => ?_)
  refine A_iload_n dX4_takeFigures_56 rfl 1 rfl ?_
  refine A_bipush (v := 10) dX4_takeFigures_57 rfl ?_
  refine A_imul dX4_takeFigures_59 ?_
  refine A_aload_n dX4_takeFigures_60 rfl 3 rfl ?_
  refine A_getR (b := 44) dX4_takeFigures_61 fo_RX4_12 L43 rfl ?_
  refine A_aload_n dX4_takeFigures_64 rfl 3 rfl ?_
  refine A_getI dX4_takeFigures_65 fo_RX4_25 L43 rfl ?_
  refine A_topi (nI (a + 1)) (rd_a f (a + 1) (-1) (by decide)) ?_
  refine A_callV (M' := MX8_at) [.int (nI (a + 1))] [.int ((nI (c a - 48)) * 10)] 44 dX4_takeFigures_68 lk_RX4_38 oX8_at iX8_at rfl rfl ⟨lb rfl, lb rfl⟩ (lb rfl) ⟨lb rfl, lb rfl⟩ L44 rfl (x_at _ (hT.rd (a + 1) (-1)) hc (a + 1) (by omega)) ?_
  rintro _ g0 ⟨rfl, hg0⟩
  rw [hg0]
  refine A_iadd dX4_takeFigures_71 ?_
  refine A_bipush (v := 48) dX4_takeFigures_72 rfl ?_
  refine A_isub dX4_takeFigures_74 ?_
  refine A_topi (nI (10 * (c a - 48) + (c (a + 1) - 48))) (fig2 _ (by omega) (by omega) _ (by omega) (by omega)) ?_
  refine A_istore_n (lv' := [(3, .int (nI (10 * (c a - 48) + (c (a + 1) - 48)))), (4, .int 1), (2, .int (nI a)), (0, .ref 43), (1, .int 2)]) dX4_takeFigures_75 rfl (lb rfl) rfl ?_
  refine A_aload_n dX4_takeFigures_76 rfl 3 rfl ?_
  refine A_dup dX4_takeFigures_77 rfl ?_
  refine A_getI dX4_takeFigures_78 fo_RX4_25 L43 rfl ?_
  refine A_topi (nI (a + 1)) (rd_a f (a + 1) (-1) (by decide)) ?_
  refine A_iconst (v := 1) dX4_takeFigures_81 rfl ?_
  refine A_iadd dX4_takeFigures_82 ?_
  refine A_putI dX4_takeFigures_83 fo_RX4_25 L43 rfl ?_
  refine A_eq rfl rfl (f' := rd 43 2 3 f (a + 1 + 1) (-1)) (rd_ua f (a + 1) (a + 1 + 1) (-1) (by decide) (by simp only [lit, nI_add, pk_mul, Nat.add_zero])) ?_
  refine A_iinc (lv' := [(4, .int 2), (3, .int (nI (10 * (c a - 48) + (c (a + 1) - 48)))), (2, .int (nI a)), (0, .ref 43), (1, .int 2)]) dX4_takeFigures_86 1 rfl rfl (lb rfl) rfl ?_
  refine A_goto (tgt := 10) dX4_takeFigures_89 rfl ?_
  refine A_iload dX4_takeFigures_10 0 rfl ?_
  refine A_iload_n dX4_takeFigures_12 rfl 4 rfl ?_
  refine A_icmp_ge (tgt := 92) dX4_takeFigures_13 rfl (fun h13 => ?_) (fun h13 => by exact absurd (by decide) h13)
  refine A_aload_n dX4_takeFigures_92 rfl 3 rfl ?_
  refine A_getI dX4_takeFigures_93 fo_RX4_25 L43 rfl ?_
  refine A_topi (nI (a + 1 + 1)) (rd_a f (a + 1 + 1) (-1) (by decide)) ?_
  refine A_iload_n dX4_takeFigures_96 rfl 2 rfl ?_
  refine A_icmp_ne (tgt := 116) dX4_takeFigures_97 rfl (fun h97 => ?_) (fun h97 => by exact absurd ((nI_eq (by omega) (by omega)).mp h97) (by omega))
  refine A_iload_n dX4_takeFigures_116 rfl 1 rfl ?_
  exact A_iret dX4_takeFigures_117 rfl (⟨rfl, rfl⟩)
theorem x_tf (m : Nat) (hm : m = 1 ∨ m = 2) (f : Mem) (tn : Nat) (c : Nat → Nat) (hT : XTp f tn c) (hc : tcW c tn) (a : Nat) (ha : a < 2 ^ 30) : C0 MX4_takeFigures [.ref 43, .int (nI m)] (rd 43 2 3 f a (-1)) (fun r h => match fg m c a with | .inl _ => r = some (.int 0) ∧ h = rd 43 2 3 f a (nI a) | .inr q => r = some (.int (nI q.1)) ∧ h = rd 43 2 3 f q.2 (-1)) := by
  unfold fg
  rcases hm with rfl | rfl
  · by_cases h1 : isF (c a)
    · rw [if_pos h1, if_neg (fun q => absurd q.1 (by decide))]; exact x_tf1s f tn c hT hc a ha h1
    · rw [if_neg h1]; exact x_tf1n f tn c hT hc a ha h1
  · by_cases h1 : isF (c a)
    · rw [if_pos h1]
      by_cases h2 : isF (c (a + 1))
      · rw [if_pos ⟨rfl, h2⟩]; exact x_tf2d f tn c hT hc a ha h1 h2
      · rw [if_neg (fun q => h2 q.2)]; exact x_tf2s f tn c hT hc a ha h1 h2
    · rw [if_neg h1]; exact x_tf2n f tn c hT hc a ha h1
theorem x_al0 (f : Mem) (a : Nat) (z x y b : Int32) (hz : ¬ z = -1) : C0 MX4_allowed [.ref 43, .int x, .int y, .int b] (rd 43 2 3 f a z) (rt (some (.int x)) (rd 43 2 3 f a z)) := by
  refine Ct.of (lv := [(0, .ref 43), (1, .int x), (2, .int y), (3, .int b)]) (by decide) (lb rfl) rfl ?_
  refine A_aload_n dX4_allowed_0 rfl 0 rfl ?_
  refine A_getI dX4_allowed_1 fo_RX4_29 L43 rfl ?_
  refine A_topi (z) (rd_z f a z) ?_
  refine A_iconst (v := -1) dX4_allowed_4 rfl ?_
  refine A_icmp_ne (tgt := 18) dX4_allowed_5 rfl (fun h5 => ?_) (fun h5 => by exact absurd h5 hz)
  refine A_iload_n dX4_allowed_18 rfl 1 rfl ?_
  exact A_iret dX4_allowed_19 rfl (⟨rfl, rfl⟩)
theorem x_al1 (f : Mem) (a : Nat) (x y b : Int32) (h : x ≤ y) : C0 MX4_allowed [.ref 43, .int x, .int y, .int b] (rd 43 2 3 f a (-1)) (rt (some (.int x)) (rd 43 2 3 f a (-1))) := by
  refine Ct.of (lv := [(0, .ref 43), (1, .int x), (2, .int y), (3, .int b)]) (by decide) (lb rfl) rfl ?_
  refine A_aload_n dX4_allowed_0 rfl 0 rfl ?_
  refine A_getI dX4_allowed_1 fo_RX4_29 L43 rfl ?_
  refine A_topi (-1) (rd_z f a (-1)) ?_
  refine A_iconst (v := -1) dX4_allowed_4 rfl ?_
  refine A_icmp_ne (tgt := 18) dX4_allowed_5 rfl (fun h5 => by exact absurd rfl h5) (fun h5 => ?_)
  refine A_iload_n dX4_allowed_8 rfl 1 rfl ?_
  refine A_iload_n dX4_allowed_9 rfl 2 rfl ?_
  refine A_icmp_le (tgt := 18) dX4_allowed_10 rfl (fun h10 => ?_) (fun h10 => by exact absurd h h10)
  refine A_iload_n dX4_allowed_18 rfl 1 rfl ?_
  exact A_iret dX4_allowed_19 rfl (⟨rfl, rfl⟩)
theorem x_al2 (f : Mem) (a : Nat) (x y b : Int32) (h : ¬ x ≤ y) : C0 MX4_allowed [.ref 43, .int x, .int y, .int b] (rd 43 2 3 f a (-1)) (rt (some (.int x)) (rd 43 2 3 f a b)) := by
  refine Ct.of (lv := [(0, .ref 43), (1, .int x), (2, .int y), (3, .int b)]) (by decide) (lb rfl) rfl ?_
  refine A_aload_n dX4_allowed_0 rfl 0 rfl ?_
  refine A_getI dX4_allowed_1 fo_RX4_29 L43 rfl ?_
  refine A_topi (-1) (rd_z f a (-1)) ?_
  refine A_iconst (v := -1) dX4_allowed_4 rfl ?_
  refine A_icmp_ne (tgt := 18) dX4_allowed_5 rfl (fun h5 => by exact absurd rfl h5) (fun h5 => ?_)
  refine A_iload_n dX4_allowed_8 rfl 1 rfl ?_
  refine A_iload_n dX4_allowed_9 rfl 2 rfl ?_
  refine A_icmp_le (tgt := 18) dX4_allowed_10 rfl (fun h10 => by exact absurd h10 h) (fun h10 => ?_)
  refine A_aload_n dX4_allowed_13 rfl 0 rfl ?_
  refine A_iload_n dX4_allowed_14 rfl 3 rfl ?_
  refine A_putI dX4_allowed_15 fo_RX4_29 L43 rfl ?_
  refine A_eq rfl rfl (f' := rd 43 2 3 f a b) (rd_uz f a (-1) b) ?_
  refine A_iload_n dX4_allowed_18 rfl 1 rfl ?_
  exact A_iret dX4_allowed_19 rfl (⟨rfl, rfl⟩)
