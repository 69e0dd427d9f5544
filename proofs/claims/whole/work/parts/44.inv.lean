/-! the two sides of the law's invariant -/
def isD (f : Mem) (d : Nat) (s : Sg) (k : Ro) : Prop := f (d + 2) = r4 (s 0) ∧ f (d + 3) = r4 (s 1) ∧ f (d + 4) = r4 (s 2) ∧ f (d + 8) = rO (s 3) ∧ f (d + 9) = r3 (s 4) ∧ f (d + 10) = rE s ∧ f (d + 11) = rW s ∧ f (d + 12) = rK k
theorem isD.eq {f : Mem} {d : Nat} {s : Sg} {k : Ro} (h : isD f d s k) : dM f d s k = f := by
  obtain ⟨h2, h3, h4, h8, h9, ha, hb, hc⟩ := h
  funext a
  unfold dM dR
  split
  · rename_i e; rw [e, h2]
  · split
    · rename_i e; rw [e, h3]
    · split
      · rename_i e; rw [e, h4]
      · split
        · rename_i e; rw [e, h8]
        · split
          · rename_i e; rw [e, h9]
          · split
            · rename_i e; rw [e, ha]
            · split
              · rename_i e; rw [e, hb]
              · split
                · rename_i e; rw [e, hc]
                · rfl
theorem isD_dM (f : Mem) (d : Nat) (s : Sg) (k : Ro) : isD (dM f d s k) d s k :=
  ⟨dR_2 .., dR_3 .., dR_4 .., dR_8 .., dR_9 .., dR_10 .., dR_11 .., dR_12 ..⟩
theorem isD.congr {f h : Mem} {d : Nat} {s : Sg} {k : Ro} (q : isD f d s k) (e : ∀ a, d ≤ a → a ≤ d + 20 → h a = f a) : isD h d s k := by
  obtain ⟨h2, h3, h4, h8, h9, ha, hb, hc⟩ := q
  exact ⟨(e _ (by omega) (by omega)).trans h2, (e _ (by omega) (by omega)).trans h3, (e _ (by omega) (by omega)).trans h4, (e _ (by omega) (by omega)).trans h8, (e _ (by omega) (by omega)).trans h9, (e _ (by omega) (by omega)).trans ha, (e _ (by omega) (by omega)).trans hb, (e _ (by omega) (by omega)).trans hc⟩
theorem dS.congr {f h : Mem} {d : Nat} {s : Sg} {p : Ro} (q : dS f d s p) (e : ∀ a, d ≤ a → a ≤ d + 20 → h a = f a) : dS h d s p :=
  ⟨by rw [e d (by omega) (by omega)]; exact q.1, fun m hm => by rw [e _ (by omega) (by omega)]; exact q.2.1 m hm, fun t ht => by rw [e _ (by omega) (by omega)]; exact q.2.2.1 t ht, fun t ht j hj => by rw [e _ (by omega) (by omega)]; exact q.2.2.2 t ht j hj⟩
def wfE (s : Sg) : Prop := ∀ x, x < 4 → 3 ≤ s 1 x → nst s x
def wfC (s : Sg) (k p : Ro) : Prop := wf s ∧ wfP s p ∧ wfK k ∧ wf14 s ∧ s 13 0 ≤ 4 ∧ s 15 0 ≤ s 13 0 ∧ (∀ t, s 13 0 ≤ t → t < 4 → s 16 t = 0) ∧ wfE s
def wR (s : Sg) (rz lz : Ro) : Prop := ∀ t, t < 4 → (s 1 t ≠ 4 → rz t = 0) ∧ (s 1 t ≠ 3 → lz t = 0)
def wT (tn : Nat) (tb : Nat → Nat) : Prop := tn ≤ 120 ∧ ∀ i, i < tn → 1 ≤ tb i ∧ tb i ≤ 127
def wN (cn : Nat) (cs ch : Nat → Nat) : Prop := cn ≤ 4 ∧ ∀ i, i < cn → cs i < 4 ∧ ch i < 4
def wL (ln : Nat → Nat) : Prop := ∀ l, l < 4 → ln l ≤ 41
-- the class's side
def XC (f : Mem) (s : Sg) (k p rz lz : Ro) : Prop := isD f 1 s k ∧ dS f 1 s p ∧ f 1 1 = nI (s 15 0) - 1 ∧ ∀ t, t < 4 → f 6 t = rz t ∧ f 7 t = lz t
def XI (f : Mem) (im : Nat) (s : Sg) (k p : Ro) : Prop := f 0 2 = nI im ∧ isD f 22 s k ∧ (im = 1 → dS f 22 s p ∧ f 22 1 = nI (s 15 0) - 1 ∧ ∀ t, t < 4 → f 27 t = 0 ∧ f 28 t = 0)
def XTp (f : Mem) (tn : Nat) (tb : Nat → Nat) : Prop := f 44 1 = nI tn ∧ ∀ i, i < tn → f 45 i = nI (tb i)
def XQ (f : Mem) (tq : Nat) (qs qn : Ro) : Prop := f 48 0 = nI tq ∧ ∀ i, i < tq → f 49 i = qs i ∧ f 50 i = qn i
def XNc (f : Mem) (cn : Nat) (cs ch : Nat → Nat) (cv : Ro) : Prop := f 51 0 = nI cn ∧ ∀ i, i < cn → f 52 i = nI (cs i) ∧ f 53 i = nI (ch i) ∧ f 54 i = cv i
def XL (f : Mem) (ln : Nat → Nat) (li : Nat → Ro) : Prop := (∀ l, l < 4 → f 87 l = if ln l = 0 then -11 else nI (ln l - 1)) ∧ ∀ l, l < 4 → ∀ i, i < 40 → f (89 + l) i = li l i
-- the reference's side
def lat5 (n : Nat) : Int32 := if n = 0 then -5 else nI n - 1
def gF (s : Sg) (k p : Ro) : Ro := fun j => if j < 52 then flat s k j else if j = 52 then nI (s 13 0) else if j < 56 then nI (s 14 (j - 53)) else if j = 56 then lat5 (s 15 0) else if j < 61 then nI (s 16 (j - 57)) else p (j - 61)
def RC (f : Mem) (s : Sg) (k p rz lz : Ro) : Prop := (∀ j, j < 253 → f 94 j = gF s k p j) ∧ ∀ t, t < 4 → (s 1 t = 4 → f 97 t = rz t) ∧ (s 1 t = 3 → f 98 t = lz t)
def RI (f : Mem) (im : Nat) (s : Sg) (k p : Ro) : Prop := f 93 5 = nI im ∧ (im = 1 → ∀ j, j < 253 → f 95 j = gF s k p j)
def RTp (f : Mem) (tn : Nat) (tb : Nat → Nat) : Prop := f 93 9 = nI tn ∧ ∀ i, i < tn → f 99 i = nI (tb i)
def RQ (f : Mem) (tq : Nat) (qs qn : Ro) : Prop := f 93 15 = nI tq ∧ ∀ i, i < tq → f 102 i = qs i ∧ f 103 i = qn i
def RNc (f : Mem) (cn : Nat) (cs ch : Nat → Nat) (cv : Ro) : Prop := f 93 26 = nI cn ∧ ∀ i, i < cn → f 109 (3 * i) = nI (cs i) ∧ f 109 (3 * i + 1) = nI (ch i) ∧ f 109 (3 * i + 2) = cv i
def RLi (f : Mem) (ln : Nat → Nat) (li : Nat → Ro) : Prop := (∀ l, l < 4 → f 110 l = if ln l = 0 then -1 else nI (ln l - 1)) ∧ ∀ l, l < 4 → ∀ i, i < 40 → f 111 (40 * l + i) = li l i
def lett : List Nat := [101, 110, 116, 101, 114, 0, 108, 101, 97, 118, 101, 0, 119, 97, 105, 116, 0, 0, 110, 111, 116, 105, 102, 121, 97, 108, 108, 0, 0, 0, 97, 100, 100, 0, 0, 0, 115, 101, 116, 0, 0, 0, 105, 102, 0, 0, 0, 0, 106, 117, 109, 112, 0, 0]
def RA (f : Mem) : Prop := ∀ j, j < 54 → f 101 j = nI (lett.getD j 0)
def sX (f h : Mem) : Prop := ∀ a, a < 93 → h a = f a
def sR (f h : Mem) : Prop := ∀ a, 93 ≤ a → h a = f a
theorem XC.congr {f h : Mem} {s : Sg} {k p rz lz : Ro} (q : XC f s k p rz lz) (e : ∀ a, 1 ≤ a → a ≤ 21 → h a = f a) : XC h s k p rz lz :=
  ⟨q.1.congr e, q.2.1.congr e, by rw [e 1 (by omega) (by omega)]; exact q.2.2.1, fun t ht => by rw [e 6 (by omega) (by omega), e 7 (by omega) (by omega)]; exact q.2.2.2 t ht⟩
theorem XI.congr {f h : Mem} {im : Nat} {s : Sg} {k p : Ro} (q : XI f im s k p) (e0 : h 0 2 = f 0 2) (e : ∀ a, 22 ≤ a → a ≤ 42 → h a = f a) : XI h im s k p :=
  ⟨e0.trans q.1, q.2.1.congr e, fun z => ⟨(q.2.2 z).1.congr e, by rw [e 22 (by omega) (by omega)]; exact (q.2.2 z).2.1, fun t ht => by rw [e 27 (by omega) (by omega), e 28 (by omega) (by omega)]; exact (q.2.2 z).2.2 t ht⟩⟩
theorem XTp.congr {f h : Mem} {tn : Nat} {tb : Nat → Nat} (q : XTp f tn tb) (e : h 44 1 = f 44 1) (e2 : h 45 = f 45) : XTp h tn tb := ⟨e.trans q.1, by rw [e2]; exact q.2⟩
theorem XQ.congr {f h : Mem} {tq : Nat} {qs qn : Ro} (q : XQ f tq qs qn) (e : ∀ a, 48 ≤ a → a ≤ 50 → h a = f a) : XQ h tq qs qn := by
  unfold XQ; rw [e 48 (by omega) (by omega), e 49 (by omega) (by omega), e 50 (by omega) (by omega)]; exact q
theorem XNc.congr {f h : Mem} {cn : Nat} {cs ch : Nat → Nat} {cv : Ro} (q : XNc f cn cs ch cv) (e : ∀ a, 51 ≤ a → a ≤ 54 → h a = f a) : XNc h cn cs ch cv := by
  unfold XNc; rw [e 51 (by omega) (by omega), e 52 (by omega) (by omega), e 53 (by omega) (by omega), e 54 (by omega) (by omega)]; exact q
theorem XL.congr {f h : Mem} {ln : Nat → Nat} {li : Nat → Ro} (q : XL f ln li) (e : ∀ a, 86 ≤ a → a ≤ 92 → h a = f a) : XL h ln li :=
  ⟨by rw [e 87 (by omega) (by omega)]; exact q.1, fun l hl => by rw [e (89 + l) (by omega) (by omega)]; exact q.2 l hl⟩
theorem RC.congr {f h : Mem} {s : Sg} {k p rz lz : Ro} (q : RC f s k p rz lz) (e94 : h 94 = f 94) (e97 : h 97 = f 97) (e98 : h 98 = f 98) : RC h s k p rz lz := by
  unfold RC; rw [e94, e97, e98]; exact q
theorem RI.congr {f h : Mem} {im : Nat} {s : Sg} {k p : Ro} (q : RI f im s k p) (e93 : h 93 = f 93) (e95 : h 95 = f 95) : RI h im s k p := by
  unfold RI; rw [e93, e95]; exact q
theorem RTp.congr {f h : Mem} {tn : Nat} {tb : Nat → Nat} (q : RTp f tn tb) (e93 : h 93 = f 93) (e99 : h 99 = f 99) : RTp h tn tb := by
  unfold RTp; rw [e93, e99]; exact q
theorem RQ.congr {f h : Mem} {tq : Nat} {qs qn : Ro} (q : RQ f tq qs qn) (e93 : h 93 = f 93) (e102 : h 102 = f 102) (e103 : h 103 = f 103) : RQ h tq qs qn := by
  unfold RQ; rw [e93, e102, e103]; exact q
theorem RNc.congr {f h : Mem} {cn : Nat} {cs ch : Nat → Nat} {cv : Ro} (q : RNc f cn cs ch cv) (e93 : h 93 = f 93) (e109 : h 109 = f 109) : RNc h cn cs ch cv := by
  unfold RNc; rw [e93, e109]; exact q
theorem RLi.congr {f h : Mem} {ln : Nat → Nat} {li : Nat → Ro} (q : RLi f ln li) (e110 : h 110 = f 110) (e111 : h 111 = f 111) : RLi h ln li := by
  unfold RLi; rw [e110, e111]; exact q
