/-! the law's invariant, and a call of both -/
abbrev QT : Type := (Sg × Ro × Ro × Ro × Ro) × (Nat × Sg × Ro × Ro) × (Nat × (Nat → Nat)) × (Nat × Ro × Ro) × Cd × ((Nat → Nat) × (Nat → Ro))
abbrev XV (f : Mem) (q : QT) : Prop := XC f q.1.1 q.1.2.1 q.1.2.2.1 q.1.2.2.2.1 q.1.2.2.2.2 ∧ XI f q.2.1.1 q.2.1.2.1 q.2.1.2.2.1 q.2.1.2.2.2 ∧ XTp f q.2.2.1.1 q.2.2.1.2 ∧ XQ f q.2.2.2.1.1 q.2.2.2.1.2.1 q.2.2.2.1.2.2 ∧ XNc f q.2.2.2.2.1.1 q.2.2.2.2.1.2.1 q.2.2.2.2.1.2.2.1 q.2.2.2.2.1.2.2.2 ∧ XL f q.2.2.2.2.2.1 q.2.2.2.2.2.2 ∧ XS f q.1.2.2.1 q.2.2.2.2.1 (q.1.1, q.1.2.1)
abbrev RV (f : Mem) (q : QT) : Prop := RC f q.1.1 q.1.2.1 q.1.2.2.1 q.1.2.2.2.1 q.1.2.2.2.2 ∧ RI f q.2.1.1 q.2.1.2.1 q.2.1.2.2.1 q.2.1.2.2.2 ∧ RTp f q.2.2.1.1 q.2.2.1.2 ∧ RQ f q.2.2.2.1.1 q.2.2.2.1.2.1 q.2.2.2.1.2.2 ∧ RNc f q.2.2.2.2.1.1 q.2.2.2.2.1.2.1 q.2.2.2.2.1.2.2.1 q.2.2.2.2.1.2.2.2 ∧ RLi f q.2.2.2.2.2.1 q.2.2.2.2.2.2 ∧ RA f ∧ R96 f
abbrev WV (q : QT) : Prop := wfC q.1.1 q.1.2.1 q.1.2.2.1 ∧ wR q.1.1 q.1.2.2.2.1 q.1.2.2.2.2 ∧ q.2.1.1 ≤ 1 ∧ (q.2.1.1 = 1 → wfC q.2.1.2.1 q.2.1.2.2.1 q.2.1.2.2.2) ∧ wT q.2.2.1.1 q.2.2.1.2 ∧ q.2.2.2.1.1 ≤ 3 ∧ wN q.2.2.2.2.1.1 q.2.2.2.2.1.2.1 q.2.2.2.2.1.2.2.1 ∧ wL q.2.2.2.2.2.1
abbrev xvP (f : Mem) (a : Int32) (q : QT) : Option Value → Mem → Prop := fun r h => r = some (.int a) ∧ XV h q ∧ ∀ b, 93 ≤ b → h b = f b
abbrev rvP (f : Mem) (a : Int32) (q : QT) : Option Value → Mem → Prop := fun r h => r = some (.int a) ∧ RV h q ∧ ∀ b, b < 93 → h b = f b
def OP (M1 M2 : MT) (as : List Value) (q : QT) : Prop := ∃ (a : Int32) (qz : QT), WV qz ∧ (∀ f, XV f q → C0 M1 (.ref 0 :: as) f (xvP f a qz)) ∧ ∀ f, RV f q → C0 M2 (.ref 93 :: as) f (rvP f a qz)
theorem OP_same {M1 M2 : MT} {as : List Value} {q : QT} (w : WV q) (a : Int32) (h1 : ∀ f, XV f q → C0 M1 (.ref 0 :: as) f (rt (some (.int a)) f)) (h2 : ∀ f, RV f q → C0 M2 (.ref 93 :: as) f (rt (some (.int a)) f)) : OP M1 M2 as q :=
  ⟨a, q, w, fun f x => (h1 f x).mono (fun r h e => ⟨e.1, by rw [e.2]; exact x, fun b _ => by rw [e.2]⟩), fun f x => (h2 f x).mono (fun r h e => ⟨e.1, by rw [e.2]; exact x, fun b _ => by rw [e.2]⟩)⟩
theorem RI.c2 {f h : Mem} {im : Nat} {s : Sg} {k p : Ro} (q : RI f im s k p) (e : h 93 5 = f 93 5) (e95 : h 95 = f 95) : RI h im s k p := ⟨e.trans q.1, by rw [e95]; exact q.2⟩
theorem RTp.c2 {f h : Mem} {tn : Nat} {tb : Nat → Nat} (q : RTp f tn tb) (e : h 93 9 = f 93 9) (e99 : h 99 = f 99) : RTp h tn tb := ⟨e.trans q.1, by rw [e99]; exact q.2⟩
theorem RNc.c2 {f h : Mem} {cn : Nat} {cs ch : Nat → Nat} {cv : Ro} (q : RNc f cn cs ch cv) (e : h 93 26 = f 93 26) (e109 : h 109 = f 109) : RNc h cn cs ch cv := ⟨e.trans q.1, by rw [e109]; exact q.2⟩
theorem RA.c2 {f h : Mem} (q : RA f) (e : h 101 = f 101) : RA h := fun j hj => by rw [e]; exact q j hj
theorem R96.c2 {f h : Mem} (q : R96 f) (e : h 96 = f 96) : R96 h := fun j hj => by rw [e]; exact q j hj
theorem XS.no {f h : Mem} {p pz : Ro} {d dz : Cd} {u uz : Pt} (q : XS f p d u) (e0 : h 55 0 = 0) (e : ∀ a, 56 ≤ a → a ≤ 76 → h a = f a) : XS h pz dz uz := by
  obtain ⟨s0, k0, h0⟩ := q.1
  exact ⟨⟨s0, k0, h0.congr (fun a a1 a2 => e a a1 (by omega))⟩, Or.inl e0⟩
theorem XE.c2 {f h : Mem} {p : Ro} {d : Cd} {u : Pt} {q : Sr} (x : XE f p d u q) (e : ∀ a, 55 ≤ a → a ≤ 85 → h a = f a) : XE h p d u q := by
  have e1 : ∀ a, 55 ≤ a → a ≤ 85 → f a = h a := fun a a1 a2 => (e a a1 a2).symm
  have e55 := e1 55 (by omega) (by omega)
  have e77 := e1 77 (by omega) (by omega)
  have e78 := e1 78 (by omega) (by omega)
  have e79 := e1 79 (by omega) (by omega)
  have e80 := e1 80 (by omega) (by omega)
  have e81 := e1 81 (by omega) (by omega)
  have e82 := e1 82 (by omega) (by omega)
  have e83 := e1 83 (by omega) (by omega)
  have e84 := e1 84 (by omega) (by omega)
  have e85 := e1 85 (by omega) (by omega)
  unfold XE KT sm s1 s2' s3 s4 at x ⊢
  simp only [e55, e77, e78, e79, e80, e81, e82, e83, e84, e85] at x
  exact x
theorem XS.c2 {f h : Mem} {p : Ro} {d : Cd} {u : Pt} (q : XS f p d u) (e : ∀ a, 55 ≤ a → a ≤ 85 → h a = f a) : XS h p d u := by
  obtain ⟨s0, k0, h0⟩ := q.1
  refine ⟨⟨s0, k0, h0.congr (fun a a1 a2 => e a (by omega) (by omega))⟩, ?_⟩
  rw [e 55 (by omega) (by omega)]
  exact q.2.imp id (fun z => ⟨z.1, z.2.c2 e⟩)
theorem wR.c {s sz : Sg} {rz lz : Ro} (q : wR s rz lz) (e : ∀ t, t < 4 → sz 1 t = s 1 t) : wR sz rz lz := fun t ht => by rw [e t ht]; exact q t ht
/-! what a call leaves of the class's cells -/
theorem xv_C {f h : Mem} {q : QT} (x : XV f q) (e : fC f h) {s : Sg} {k p rz lz : Ro} (hC : XC h s k p rz lz) : XV h ((s, k, p, rz, lz), q.2) := by
  have e0 := e.2 0 (by omega) (by omega)
  have e44 := e.2 44 (by omega) (by omega)
  exact ⟨hC, x.2.1.congr (by rw [e0]) (fun a a1 a2 => e.2 a (by omega) (by omega)), x.2.2.1.congr (by rw [e44]) (e.2 45 (by omega) (by omega)), x.2.2.2.1.congr (fun a a1 a2 => e.2 a (by omega) (by omega)), x.2.2.2.2.1.congr (fun a a1 a2 => e.2 a (by omega) (by omega)), x.2.2.2.2.2.1.congr (fun a a1 a2 => e.2 a (by omega) (by omega)), x.2.2.2.2.2.2.no e.1 (fun a a1 a2 => e.2 a (by omega) (by omega))⟩
theorem fr_C {f h : Mem} (e : fC f h) (b : Nat) (hb : 93 ≤ b) : h b = f b := e.2 b (by omega) (by omega)
theorem xv_S {f h : Mem} {q : QT} (x : XV f q) (e : fS f h) {s : Sg} {k p rz lz : Ro} (hC : XC h s k p rz lz) {tq : Nat} {qs qn : Ro} (hQ : XQ h tq qs qn) : XV h ((s, k, p, rz, lz), q.2.1, q.2.2.1, (tq, qs, qn), q.2.2.2.2) := by
  have e0 := e.2 0 (by omega) (by omega) (by omega)
  have e44 := e.2 44 (by omega) (by omega) (by omega)
  exact ⟨hC, x.2.1.congr (by rw [e0]) (fun a a1 a2 => e.2 a (by omega) (by omega) (by omega)), x.2.2.1.congr (by rw [e44]) (e.2 45 (by omega) (by omega) (by omega)), hQ, x.2.2.2.2.1.congr (fun a a1 a2 => e.2 a (by omega) (by omega) (by omega)), x.2.2.2.2.2.1.congr (fun a a1 a2 => e.2 a (by omega) (by omega) (by omega)), x.2.2.2.2.2.2.no e.1 (fun a a1 a2 => e.2 a (by omega) (by omega) (by omega))⟩
theorem fr_S {f h : Mem} (e : fS f h) (b : Nat) (hb : 93 ≤ b) : h b = f b := e.2 b (by omega) (by omega) (by omega)
abbrev fF (f h : Mem) : Prop := ∀ b, b < 55 ∨ 85 < b → h b = f b
theorem xv_F {f h : Mem} {q : QT} (x : XV f q) (e : fF f h) (hS : XS h q.1.2.2.1 q.2.2.2.2.1 (q.1.1, q.1.2.1)) : XV h q := by
  have e0 := e 0 (by omega)
  have e44 := e 44 (by omega)
  exact ⟨x.1.congr (fun a a1 a2 => e a (by omega)), x.2.1.congr (by rw [e0]) (fun a a1 a2 => e a (by omega)), x.2.2.1.congr (by rw [e44]) (e 45 (by omega)), x.2.2.2.1.congr (fun a a1 a2 => e a (by omega)), x.2.2.2.2.1.congr (fun a a1 a2 => e a (by omega)), x.2.2.2.2.2.1.congr (fun a a1 a2 => e a (by omega)), hS⟩
/-! of the reference's -/
theorem rv_G {f h : Mem} {q : QT} (x : RV f q) (e : fG f h) {s : Sg} {k p rz lz : Ro} (hC : RC h s k p rz lz) : RV h ((s, k, p, rz, lz), q.2) :=
  ⟨hC, x.2.1.congr (e 93 (by omega)) (e 95 (by omega)), x.2.2.1.congr (e 93 (by omega)) (e 99 (by omega)), x.2.2.2.1.congr (e 93 (by omega)) (e 102 (by omega)) (e 103 (by omega)), x.2.2.2.2.1.congr (e 93 (by omega)) (e 109 (by omega)), x.2.2.2.2.2.1.congr (e 110 (by omega)) (e 111 (by omega)), x.2.2.2.2.2.2.1.c2 (e 101 (by omega)), x.2.2.2.2.2.2.2.c2 (e 96 (by omega))⟩
theorem rv_T {f h : Mem} {q : QT} (x : RV f q) (e : fT f h) {s : Sg} {k p rz lz : Ro} (hC : RC h s k p rz lz) (h96 : R96 h) {tq : Nat} {qs qn : Ro} (hQ : RQ h tq qs qn) : RV h ((s, k, p, rz, lz), q.2.1, q.2.2.1, (tq, qs, qn), q.2.2.2.2) :=
  ⟨hC, x.2.1.c2 (e.2 5 (by omega)) (e.1 95 (by omega)), x.2.2.1.c2 (e.2 9 (by omega)) (e.1 99 (by omega)), hQ, x.2.2.2.2.1.c2 (e.2 26 (by omega)) (e.1 109 (by omega)), x.2.2.2.2.2.1.congr (e.1 110 (by omega)) (e.1 111 (by omega)), x.2.2.2.2.2.2.1.c2 (e.1 101 (by omega)), h96⟩
theorem rv_F {f h : Mem} {q : QT} (x : RV f q) (e : frS f h) (h96 : R96 h) : RV h q :=
  ⟨x.1.congr (e.1 94 (by omega)) (e.1 97 (by omega)) (e.1 98 (by omega)), x.2.1.c2 (e.2 5 (by omega) (by omega) (by omega) (by omega)) (e.1 95 (by omega)), x.2.2.1.c2 (e.2 9 (by omega) (by omega) (by omega) (by omega)) (e.1 99 (by omega)), x.2.2.2.1.congr2 (e.2 15 (by omega) (by omega) (by omega) (by omega)) (e.1 102 (by omega)) (e.1 103 (by omega)), x.2.2.2.2.1.c2 (e.2 26 (by omega) (by omega) (by omega) (by omega)) (e.1 109 (by omega)), x.2.2.2.2.2.1.congr (e.1 110 (by omega)) (e.1 111 (by omega)), x.2.2.2.2.2.2.1.c2 (e.1 101 (by omega)), h96⟩
