/-! what is known of all pictures found, as the class takes it down -/
def cnt (g : Nat → Nat) : Nat → Nat
  | 0 => 0
  | n + 1 => cnt g n + g n
def fi (g : Nat → Nat) : Nat → Nat
  | 0 => 0
  | n + 1 => if fi g n = 0 then (if g n = 1 then n + 1 else 0) else fi g n
theorem cnt_c {g h : Nat → Nat} : ∀ {n : Nat}, (∀ i, i < n → g i = h i) → cnt g n = cnt h n
  | 0, _ => rfl
  | n + 1, e => by unfold cnt; rw [cnt_c (n := n) (fun i hi => e i (by omega)), e n (by omega)]
theorem fi_c {g h : Nat → Nat} : ∀ {n : Nat}, (∀ i, i < n → g i = h i) → fi g n = fi h n
  | 0, _ => rfl
  | n + 1, e => by unfold fi; rw [fi_c (n := n) (fun i hi => e i (by omega)), e n (by omega)]
theorem fi_le (g : Nat → Nat) : ∀ n, fi g n ≤ n
  | 0 => Nat.le_refl _
  | n + 1 => by
    unfold fi
    have := fi_le g n
    repeat' split
    all_goals omega
theorem cnt_le {g : Nat → Nat} (h : ∀ i, g i ≤ 1) : ∀ n, cnt g n ≤ n
  | 0 => Nat.le_refl _
  | n + 1 => by unfold cnt; have := cnt_le h n; have := h n; omega
abbrev isO (g x : Nat → Nat) (i : Nat) : Prop := g i = 1 ∧ ∀ j, j < i → ¬ (g j = 1 ∧ x j = x i)
def ol (g x : Nat → Nat) : Nat → Nat × (Nat → Nat)
  | 0 => (0, fun _ => 0)
  | n + 1 => if isO g x n then ((ol g x n).1 + 1, upN (ol g x n).2 (ol g x n).1 n) else ol g x n
theorem ol_c {g h x y : Nat → Nat} : ∀ {n : Nat}, (∀ i, i < n → g i = h i ∧ x i = y i) → ol g x n = ol h y n
  | 0, _ => rfl
  | n + 1, e => by
    have q : isO g x n ↔ isO h y n := by
      unfold isO
      rw [(e n (by omega)).1, (e n (by omega)).2]
      refine and_congr_right (fun _ => forall_congr' (fun j => ?_))
      constructor
      · intro a hj; rw [← (e j (by omega)).1, ← (e j (by omega)).2]; exact a hj
      · intro a hj; rw [(e j (by omega)).1, (e j (by omega)).2]; exact a hj
    unfold ol
    rw [ol_c (n := n) (fun i hi => e i (by omega))]
    by_cases z : isO g x n
    · rw [if_pos z, if_pos (q.mp z)]
    · rw [if_neg z, if_neg (fun t => z (q.mpr t))]
theorem ol_le (g x : Nat → Nat) : ∀ n, (ol g x n).1 ≤ n
  | 0 => Nat.le_refl _
  | n + 1 => by
    unfold ol; have := ol_le g x n
    split
    · show (ol g x n).1 + 1 ≤ n + 1; omega
    · omega
theorem ol_lt (g x : Nat → Nat) : ∀ n k, k < (ol g x n).1 → (ol g x n).2 k < n ∧ g ((ol g x n).2 k) = 1
  | 0, k, h => absurd h (by show ¬ k < 0; omega)
  | n + 1, k, h => by
    unfold ol at h ⊢
    by_cases z : isO g x n
    · rw [if_pos z] at h ⊢
      show upN (ol g x n).2 (ol g x n).1 n k < n + 1 ∧ g (upN (ol g x n).2 (ol g x n).1 n k) = 1
      by_cases e : k = (ol g x n).1
      · rw [e, upN_s]; exact ⟨by omega, z.1⟩
      · rw [upN_n _ _ e]
        have h : k < (ol g x n).1 + 1 := h
        have := ol_lt g x n k (by omega); exact ⟨by omega, this.2⟩
    · rw [if_neg z] at h ⊢
      have := ol_lt g x n k h; exact ⟨by omega, this.2⟩
theorem ol_mem (g x : Nat → Nat) (y : Nat) : ∀ n, (∃ k, k < (ol g x n).1 ∧ x ((ol g x n).2 k) = y) ↔ ∃ j, j < n ∧ g j = 1 ∧ x j = y
  | 0 => ⟨fun ⟨k, h, _⟩ => absurd h (by show ¬ k < 0; omega), fun ⟨k, h, _⟩ => absurd h (by omega)⟩
  | n + 1 => by
    have ih := ol_mem g x y n
    constructor
    · rintro ⟨k, hk, e⟩
      have := ol_lt g x (n + 1) k hk
      exact ⟨_, this.1, this.2, e⟩
    · rintro ⟨j, hj, gj, xj⟩
      by_cases old : ∃ i, i < n ∧ g i = 1 ∧ x i = y
      · obtain ⟨k, hk, ek⟩ := ih.mpr old
        unfold ol
        by_cases z : isO g x n
        · rw [if_pos z]
          refine ⟨k, by show k < (ol g x n).1 + 1; omega, ?_⟩
          show x (upN (ol g x n).2 (ol g x n).1 n k) = y
          rw [upN_n _ _ (by omega)]; exact ek
        · rw [if_neg z]; exact ⟨k, hk, ek⟩
      · have e : j = n := by
          rcases Nat.lt_or_ge j n with q | q
          · exact absurd ⟨j, q, gj, xj⟩ old
          · omega
        subst e
        have z : isO g x j := ⟨gj, fun i hi q => old ⟨i, hi, q.1, q.2.trans xj⟩⟩
        unfold ol
        rw [if_pos z]
        refine ⟨(ol g x j).1, by show (ol g x j).1 < (ol g x j).1 + 1; omega, ?_⟩
        show x (upN (ol g x j).2 (ol g x j).1 j (ol g x j).1) = y
        rw [upN_s]; exact xj
def stb (n : Nat) (v : Pt) : Nat := if stickP v.1 n then 1 else 0
def ovb (n : Nat) (v : Pt) : Nat := if overP v.1 n then 1 else 0
/-- cells, how, number of what is told: (how many, cells, hows, numbers) -/
abbrev Cd : Type := Nat × (Nat → Nat) × (Nat → Nat) × Ro
def fab (d : Cd) (v : Pt) : Nat := if allS d.1 d.2.1 d.2.2.1 d.2.2.2 v.2 then 0 else 1
def un (p : Ro) (n : Nat) (P : Nat → Pt) : Nat → Nat → Int32
  | 0, _ => 0
  | N + 1, m => uA (un p n P N m) (P N).1 p m n
theorem un_c {p : Ro} {n : Nat} {P P' : Nat → Pt} : ∀ {N : Nat}, (∀ i, i < N → P i = P' i) → ∀ m, un p n P N m = un p n P' N m
  | 0, _, _ => rfl
  | N + 1, e, m => by unfold un; rw [un_c (N := N) (fun i hi => e i (by omega)) m, e N (by omega)]
abbrev neP (P : Nat → Pt) (N : Nat) : Prop := ∃ i, i < N ∧ ∃ m, m < 3 ∧ 2 ≤ (P i).1 4 m
def s1 (f : Mem) (n N : Nat) (P : Nat → Pt) : Prop := f 55 12 = nI (cnt (fun i => stb n (P i)) N) ∧ f 55 10 = nI (fi (fun i => stb n (P i)) N) - 1
def s2' (f : Mem) (d : Cd) (N : Nat) (P : Nat → Pt) : Prop := f 55 11 = nI (fi (fun i => fab d (P i)) N) - 1
abbrev oL (n : Nat) (P : Nat → Pt) (N : Nat) : Nat × (Nat → Nat) := ol (fun i => ovb n (P i)) (fun i => cw (P i).2) N
def s3 (f : Mem) (n N : Nat) (P : Nat → Pt) : Prop := f 55 13 = nI (cnt (fun i => ovb n (P i)) N) ∧ f 55 14 = nI (oL n P N).1 ∧ ∀ k, k < (oL n P N).1 → f 84 k = nI (cw (P ((oL n P N).2 k)).2)
def s4 (f : Mem) (p : Ro) (n N : Nat) (P : Nat → Pt) : Prop := f 55 9 = bz (neP P N) ∧ ∀ m, m < 3 → f 85 m = un p n P N m
theorem up_lo {P : Nat → Pt} {N : Nat} {v : Pt} : ∀ i, i < N → upN P N v i = P i := fun i hi => upN_n _ _ (by omega)
theorem ne_s {P : Nat → Pt} {N : Nat} {v : Pt} : neP (upN P N v) (N + 1) ↔ nsP (neP P N) v.1 3 := by
  constructor
  · rintro ⟨i, hi, m, hm, h⟩
    by_cases e : i = N
    · rw [e, upN_s] at h; exact .inr ⟨m, hm, h⟩
    · rw [upN_n _ _ e] at h; exact .inl ⟨i, by omega, m, hm, h⟩
  · rintro (⟨i, hi, m, hm, h⟩ | ⟨m, hm, h⟩)
    · exact ⟨i, by omega, m, hm, by rw [upN_n _ _ (by omega)]; exact h⟩
    · exact ⟨N, by omega, m, hm, by rw [upN_s]; exact h⟩
/-- only these change: fields of 55, rows -/
def f5 (G H : Mem) (A : Nat → Prop) (B : Nat → Prop) : Prop := (∀ b, b ≠ 55 → ¬ B b → H b = G b) ∧ ∀ i, ¬ A i → H 55 i = G 55 i
theorem s4_n {f : Mem} {p : Ro} {n N : Nat} {P : Nat → Pt} (h : s4 f p n N P) (v : Pt) (hn : v.1 13 0 = n) : s4 (nmM f (neP P N) v.1 p (v.1 13 0)) p n (N + 1) (upN P N v) := by
  refine ⟨?_, fun m hm => ?_⟩
  · unfold nmM; rw [ur_n _ _ (by decide), u2, ur_s, upd_s]; exact bz_c ne_s.symm
  · unfold nmM; rw [ur_s]; unfold uR; rw [if_pos hm, h.2 m hm, hn]
    show _ = uA (un p n (upN P N v) N m) (upN P N v N).1 p m n
    rw [upN_s, un_c up_lo]
theorem nm_f (f : Mem) (Q : Prop) [Decidable Q] (s : Sg) (p : Ro) (n : Nat) : f5 f (nmM f Q s p n) (fun i => i = 9) (fun b => b = 85) :=
  ⟨fun b b1 b2 => by unfold nmM; rw [ur_n _ _ b2, u2_n _ _ _ b1], fun i hi => by unfold nmM; rw [ur_n _ _ (by decide), u2, ur_s, upd_n _ _ hi]⟩
theorem lx_noL (f : Mem) (s : Sg) (k : Ro) (m : Nat) (hD : isD f 56 s k) (hK : wfK k) (hm : f 55 14 = nI m) (hm6 : m < 600) (h : ∃ j, j < m ∧ f 84 j = nI (cw k)) : ∀ i, i ≤ m → (∀ j, j < i → ¬ f 84 j = nI (cw k)) → A (cM MX6_noteOutcome 0 0 layT layT (rt none f)) 13 [(2, .int (nI i)), (1, .int (nI (cw k))), (0, .ref 55)] [] f := by
  refine up_ind m (fun i hi ih hi2 => ?_)
  refine A_iload_n dX6_noteOutcome_13 rfl 0 rfl ?_
  refine A_aload_n dX6_noteOutcome_14 rfl 2 rfl ?_
  refine A_getI dX6_noteOutcome_15 fo_RX6_64 L55 rfl ?_
  refine A_topi (nI m) (hm) ?_
  refine A_icmp_ge (tgt := 38) dX6_noteOutcome_18 rfl (fun h18 => ?_) (fun h18 => ?_)
  · rw [nI_leI (by omega) (by omega)] at h18
    obtain ⟨j, hj, e⟩ := h
    exact absurd e (hi2 j (by omega))
  · rw [nI_leI (by omega) (by omega)] at h18
    refine A_aload_n dX6_noteOutcome_21 rfl 2 rfl ?_
    refine A_getR (b := 84) dX6_noteOutcome_22 fo_RX6_39 L55 rfl ?_
    refine A_iload_n dX6_noteOutcome_25 rfl 0 rfl ?_
    refine A_iaload i dX6_noteOutcome_26 L84 (rfl) (by omega) (lb rfl) ?_
    refine A_iload_n dX6_noteOutcome_27 rfl 1 rfl ?_
    refine A_icmp_ne (tgt := 32) dX6_noteOutcome_28 rfl (fun h28 => ?_) (fun h28 => ?_)
    · refine A_iinc (lv' := [(2, .int (nI (i + 1))), (1, .int (nI (cw k))), (0, .ref 55)]) dX6_noteOutcome_32 0 rfl (nI_add i 1) (lb rfl) rfl ?_
      refine A_goto (tgt := 13) dX6_noteOutcome_35 rfl ?_
      exact ih (i + 1) (by omega) (by omega) (fun j hj => by rcases Nat.lt_or_ge j i with q | q; exact hi2 j q; rw [show j = i by omega]; exact h28)
    · exact A_vret dX6_noteOutcome_31 rfl (⟨rfl, rfl⟩)
theorem x_noL (f : Mem) (s : Sg) (k : Ro) (m : Nat) (hD : isD f 56 s k) (hK : wfK k) (hm : f 55 14 = nI m) (hm6 : m < 600) (h : ∃ j, j < m ∧ f 84 j = nI (cw k)) : C0 MX6_noteOutcome [.ref 55] f (rt none f) := by
  refine Ct.of (lv := [(0, .ref 55)]) (by decide) (lb rfl) rfl ?_
  refine A_aload_n dX6_noteOutcome_0 rfl 0 rfl ?_
  refine A_getR (b := 56) dX6_noteOutcome_1 fo_RX6_18 L55 rfl ?_
  refine A_getR (b := 68) dX6_noteOutcome_4 fo_RX6_112 L56 rfl ?_
  refine A_callS (M' := MX7_packedCells) [.ref 68] [] dX6_noteOutcome_7 lk_RX6_130 oX7_packedCells sX7_packedCells rfl rfl ⟨lb rfl, lb rfl⟩ (lb rfl) ⟨lb rfl, lb rfl⟩ (x_pkCells f s k hD hK) ?_
  rintro _ g0 ⟨rfl, hg0⟩
  rw [hg0]
  refine A_istore_n (lv' := [(1, .int (nI (cw k))), (0, .ref 55)]) dX6_noteOutcome_10 rfl (lb rfl) rfl ?_
  refine A_iconst (v := 0) dX6_noteOutcome_11 rfl ?_
  refine A_istore_n (lv' := [(2, .int 0), (1, .int (nI (cw k))), (0, .ref 55)]) dX6_noteOutcome_12 rfl (lb rfl) rfl ?_
  refine A_sub [0, 1, 2] rfl ?_
  exact lx_noL f s k m hD hK hm hm6 h 0 (by omega) (fun j hj => by omega)
theorem lx_noA (f : Mem) (s : Sg) (k : Ro) (m : Nat) (hD : isD f 56 s k) (hK : wfK k) (hm : f 55 14 = nI m) (hm6 : m < 600) (h : ¬ ∃ j, j < m ∧ f 84 j = nI (cw k)) : ∀ i, i ≤ m → (∀ j, j < i → ¬ f 84 j = nI (cw k)) → A (cM MX6_noteOutcome 0 0 layT layT (rt none (u2 (u2 f 84 m (nI (cw k))) 55 14 (nI m + 1)))) 13 [(2, .int (nI i)), (1, .int (nI (cw k))), (0, .ref 55)] [] f := by
  refine up_ind m (fun i hi ih hi2 => ?_)
  refine A_iload_n dX6_noteOutcome_13 rfl 0 rfl ?_
  refine A_aload_n dX6_noteOutcome_14 rfl 2 rfl ?_
  refine A_getI dX6_noteOutcome_15 fo_RX6_64 L55 rfl ?_
  refine A_topi (nI m) (hm) ?_
  refine A_icmp_ge (tgt := 38) dX6_noteOutcome_18 rfl (fun h18 => ?_) (fun h18 => ?_)
  · rw [nI_leI (by omega) (by omega)] at h18
    refine A_aload_n dX6_noteOutcome_38 rfl 2 rfl ?_
    refine A_getI dX6_noteOutcome_39 fo_RX6_64 L55 rfl ?_
    refine A_topi (nI m) (hm) ?_
    refine A_sipush (v := 600) dX6_noteOutcome_42 rfl ?_
    refine A_icmp_ge (tgt := 68) dX6_noteOutcome_45 rfl (fun h45 => by exact absurd h45 (fun q => by rw [show (600 : Int32) = nI 600 from rfl, nI_leI (by decide) (by omega)] at q; omega)) (fun h45 => ?_)
    refine A_aload_n dX6_noteOutcome_48 rfl 2 rfl ?_
    refine A_getR (b := 84) dX6_noteOutcome_49 fo_RX6_39 L55 rfl ?_
    refine A_aload_n dX6_noteOutcome_52 rfl 2 rfl ?_
    refine A_getI dX6_noteOutcome_53 fo_RX6_64 L55 rfl ?_
    refine A_topi (nI m) (hm) ?_
    refine A_iload_n dX6_noteOutcome_56 rfl 1 rfl ?_
    refine A_iastore m dX6_noteOutcome_57 L84 (rfl) (by omega) (lb rfl) ?_
    refine A_aload_n dX6_noteOutcome_58 rfl 2 rfl ?_
    refine A_dup dX6_noteOutcome_59 rfl ?_
    refine A_getI dX6_noteOutcome_60 fo_RX6_64 L55 rfl ?_
    refine A_topi (f 55 14) (by simp [u2, ur, upd]) ?_
    refine A_topi (nI m) (hm) ?_
    refine A_iconst (v := 1) dX6_noteOutcome_63 rfl ?_
    refine A_iadd dX6_noteOutcome_64 ?_
    refine A_putI dX6_noteOutcome_65 fo_RX6_64 L55 rfl ?_
    exact A_vret dX6_noteOutcome_68 rfl (⟨rfl, rfl⟩)
  · rw [nI_leI (by omega) (by omega)] at h18
    refine A_aload_n dX6_noteOutcome_21 rfl 2 rfl ?_
    refine A_getR (b := 84) dX6_noteOutcome_22 fo_RX6_39 L55 rfl ?_
    refine A_iload_n dX6_noteOutcome_25 rfl 0 rfl ?_
    refine A_iaload i dX6_noteOutcome_26 L84 (rfl) (by omega) (lb rfl) ?_
    refine A_iload_n dX6_noteOutcome_27 rfl 1 rfl ?_
    refine A_icmp_ne (tgt := 32) dX6_noteOutcome_28 rfl (fun h28 => ?_) (fun h28 => ?_)
    · refine A_iinc (lv' := [(2, .int (nI (i + 1))), (1, .int (nI (cw k))), (0, .ref 55)]) dX6_noteOutcome_32 0 rfl (nI_add i 1) (lb rfl) rfl ?_
      refine A_goto (tgt := 13) dX6_noteOutcome_35 rfl ?_
      exact ih (i + 1) (by omega) (by omega) (fun j hj => by rcases Nat.lt_or_ge j i with q | q; exact hi2 j q; rw [show j = i by omega]; exact h28)
    · exact absurd ⟨i, by omega, h28⟩ h
theorem x_noA (f : Mem) (s : Sg) (k : Ro) (m : Nat) (hD : isD f 56 s k) (hK : wfK k) (hm : f 55 14 = nI m) (hm6 : m < 600) (h : ¬ ∃ j, j < m ∧ f 84 j = nI (cw k)) : C0 MX6_noteOutcome [.ref 55] f (rt none (u2 (u2 f 84 m (nI (cw k))) 55 14 (nI m + 1))) := by
  refine Ct.of (lv := [(0, .ref 55)]) (by decide) (lb rfl) rfl ?_
  refine A_aload_n dX6_noteOutcome_0 rfl 0 rfl ?_
  refine A_getR (b := 56) dX6_noteOutcome_1 fo_RX6_18 L55 rfl ?_
  refine A_getR (b := 68) dX6_noteOutcome_4 fo_RX6_112 L56 rfl ?_
  refine A_callS (M' := MX7_packedCells) [.ref 68] [] dX6_noteOutcome_7 lk_RX6_130 oX7_packedCells sX7_packedCells rfl rfl ⟨lb rfl, lb rfl⟩ (lb rfl) ⟨lb rfl, lb rfl⟩ (x_pkCells f s k hD hK) ?_
  rintro _ g0 ⟨rfl, hg0⟩
  rw [hg0]
  refine A_istore_n (lv' := [(1, .int (nI (cw k))), (0, .ref 55)]) dX6_noteOutcome_10 rfl (lb rfl) rfl ?_
  refine A_iconst (v := 0) dX6_noteOutcome_11 rfl ?_
  refine A_istore_n (lv' := [(2, .int 0), (1, .int (nI (cw k))), (0, .ref 55)]) dX6_noteOutcome_12 rfl (lb rfl) rfl ?_
  refine A_sub [0, 1, 2] rfl ?_
  exact lx_noA f s k m hD hK hm hm6 h 0 (by omega) (fun j hj => by omega)
