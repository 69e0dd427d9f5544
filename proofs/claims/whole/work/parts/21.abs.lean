/-! THE PICTURE: s c k, by rows c: 0 place, 1 status, 2 saved, 3 owner + 1, 4 count, 5 lengths of the six rows (ENTRY 0..2, WAIT 3..5), 7 + r the row r (task + 1), 13 0 how many tasks, 14 missing, 15 0 latest + 1, 16 sizes of programs; k: cells; p: programs, 48 places a task -/
abbrev Sg : Type := Nat → Nat → Nat
abbrev Ro : Type := Nat → Int32
def s2 (s : Sg) (c k x : Nat) : Sg := fun c' k' => if c' = c ∧ k' = k then x else s c' k'
def sr (s : Sg) (c : Nat) (g : Nat → Nat) : Sg := fun c' k' => if c' = c then g k' else s c' k'
theorem n70 (r : Nat) : (0 = 7 + r) = False := eq_false (by omega)
theorem n70' (r : Nat) : (7 + r = 0) = False := eq_false (by omega)
theorem n71 (r : Nat) : (1 = 7 + r) = False := eq_false (by omega)
theorem n71' (r : Nat) : (7 + r = 1) = False := eq_false (by omega)
theorem n72 (r : Nat) : (2 = 7 + r) = False := eq_false (by omega)
theorem n72' (r : Nat) : (7 + r = 2) = False := eq_false (by omega)
theorem n73 (r : Nat) : (3 = 7 + r) = False := eq_false (by omega)
theorem n73' (r : Nat) : (7 + r = 3) = False := eq_false (by omega)
theorem n74 (r : Nat) : (4 = 7 + r) = False := eq_false (by omega)
theorem n74' (r : Nat) : (7 + r = 4) = False := eq_false (by omega)
theorem n75 (r : Nat) : (5 = 7 + r) = False := eq_false (by omega)
theorem n75' (r : Nat) : (7 + r = 5) = False := eq_false (by omega)
theorem s2_s (s : Sg) (c k x : Nat) : s2 s c k x c k = x := by simp [s2]
theorem s2_c (s : Sg) {c k x c' k' : Nat} (h : c' ≠ c) : s2 s c k x c' k' = s c' k' := by simp [s2, h]
theorem s2_k (s : Sg) {c k x c' k' : Nat} (h : k' ≠ k) : s2 s c k x c' k' = s c' k' := by simp [s2, h]
theorem s2_e (s : Sg) (c k x k' : Nat) : s2 s c k x c k' = if k' = k then x else s c k' := by simp [s2]
theorem sr_c (s : Sg) {c c' k' : Nat} {g : Nat → Nat} (h : c' ≠ c) : sr s c g c' k' = s c' k' := by simp [sr, h]
theorem sr_s (s : Sg) (c k' : Nat) (g : Nat → Nat) : sr s c g c k' = g k' := by simp [sr]
theorem lit (n : Nat) : (OfNat.ofNat n : Int32) = nI n := rfl
/-- the reference's row of 52 numbers: which row, which place -/
def fc (j : Nat) : Nat := if j < 4 then 0 else if j < 8 then 1 else if j < 12 then 2 else if j < 15 then 3 else if j < 18 then 4 else if j < 21 then 5 else if j < 33 then 7 + (j - 21) / 4 else if j < 36 then 5 else 10 + (j - 36) / 4
def fk (j : Nat) : Nat := if j < 4 then j else if j < 8 then j - 4 else if j < 12 then j - 8 else if j < 15 then j - 12 else if j < 18 then j - 15 else if j < 21 then j - 18 else if j < 33 then (j - 21) % 4 else if j < 36 then j - 30 else (j - 36) % 4
def flat (s : Sg) (k : Ro) : Ro := fun j => if j < 48 then nI (s (fc j) (fk j)) else if j < 52 then k (j - 48) else 0
theorem f_inj : ∀ j, j < 48 → ∀ i, i < 48 → fc j = fc i → fk j = fk i → j = i := by decide +kernel
theorem f_0 : ∀ t, t < 4 → fc t = 0 ∧ fk t = t := by decide
theorem f_1 : ∀ t, t < 4 → fc (4 + t) = 1 ∧ fk (4 + t) = t := by decide
theorem f_2 : ∀ t, t < 4 → fc (8 + t) = 2 ∧ fk (8 + t) = t := by decide
theorem f_3 : ∀ t, t < 3 → fc (12 + t) = 3 ∧ fk (12 + t) = t := by decide
theorem f_4 : ∀ t, t < 3 → fc (15 + t) = 4 ∧ fk (15 + t) = t := by decide
theorem f_5 : ∀ t, t < 3 → fc (18 + t) = 5 ∧ fk (18 + t) = t := by decide
theorem f_6 : ∀ t, t < 3 → fc (33 + t) = 5 ∧ fk (33 + t) = 3 + t := by decide
theorem f_7 : ∀ m, m < 3 → ∀ i, i < 4 → fc (21 + 4 * m + i) = 7 + m ∧ fk (21 + 4 * m + i) = i := by decide
theorem f_10 : ∀ m, m < 3 → ∀ i, i < 4 → fc (36 + 4 * m + i) = 7 + (3 + m) ∧ fk (36 + 4 * m + i) = i := by decide
section
variable (s : Sg) (k : Ro)
theorem flat_at {j c i : Nat} (h : j < 48) (e : fc j = c ∧ fk j = i) : flat s k j = nI (s c i) := by simp [flat, h, e]
theorem flat_up {j c i : Nat} (x : Nat) (h : j < 48) (e : fc j = c ∧ fk j = i) : upd (flat s k) j (nI x) = flat (s2 s c i x) k := by
  funext z
  obtain ⟨rfl, rfl⟩ := e
  by_cases hz : z = j
  · subst hz; simp [upd, flat, h, s2]
  · simp only [upd, if_neg hz, flat]
    by_cases h8 : z < 48
    · rw [if_pos h8, if_pos h8]
      simp only [s2]
      rw [if_neg (fun q => hz (f_inj z h8 j h q.1 q.2))]
    · rw [if_neg h8, if_neg h8]
theorem flat_0 {t : Nat} (h : t < 4) : flat s k t = nI (s 0 t) := flat_at s k (by omega) (f_0 t h)
theorem flat_1 {t : Nat} (h : t < 4) : flat s k (4 + t) = nI (s 1 t) := flat_at s k (by omega) (f_1 t h)
theorem flat_2 {t : Nat} (h : t < 4) : flat s k (8 + t) = nI (s 2 t) := flat_at s k (by omega) (f_2 t h)
theorem flat_3 {m : Nat} (h : m < 3) : flat s k (12 + m) = nI (s 3 m) := flat_at s k (by omega) (f_3 m h)
theorem flat_4 {m : Nat} (h : m < 3) : flat s k (15 + m) = nI (s 4 m) := flat_at s k (by omega) (f_4 m h)
theorem flat_5 {m : Nat} (h : m < 3) : flat s k (18 + m) = nI (s 5 m) := flat_at s k (by omega) (f_5 m h)
theorem flat_6 {m : Nat} (h : m < 3) : flat s k (33 + m) = nI (s 5 (3 + m)) := flat_at s k (by omega) (f_6 m h)
theorem flat_7 {m i : Nat} (h : m < 3) (hi : i < 4) : flat s k (21 + 4 * m + i) = nI (s (7 + m) i) := flat_at s k (by omega) (f_7 m h i hi)
theorem flat_10 {m i : Nat} (h : m < 3) (hi : i < 4) : flat s k (36 + 4 * m + i) = nI (s (7 + (3 + m)) i) := flat_at s k (by omega) (f_10 m h i hi)
theorem flat_k {c : Nat} (h : c < 4) : flat s k (48 + c) = k c := by
  simp only [flat]; rw [if_neg (by omega), if_pos (by omega), Nat.add_sub_cancel_left]
theorem flat_u0 {t : Nat} (x : Nat) (h : t < 4) : upd (flat s k) t (nI x) = flat (s2 s 0 t x) k := flat_up s k x (by omega) (f_0 t h)
theorem flat_u1 {t : Nat} (x : Nat) (h : t < 4) : upd (flat s k) (4 + t) (nI x) = flat (s2 s 1 t x) k := flat_up s k x (by omega) (f_1 t h)
theorem flat_u2 {t : Nat} (x : Nat) (h : t < 4) : upd (flat s k) (8 + t) (nI x) = flat (s2 s 2 t x) k := flat_up s k x (by omega) (f_2 t h)
theorem flat_u3 {m : Nat} (x : Nat) (h : m < 3) : upd (flat s k) (12 + m) (nI x) = flat (s2 s 3 m x) k := flat_up s k x (by omega) (f_3 m h)
theorem flat_u4 {m : Nat} (x : Nat) (h : m < 3) : upd (flat s k) (15 + m) (nI x) = flat (s2 s 4 m x) k := flat_up s k x (by omega) (f_4 m h)
theorem flat_u5 {m : Nat} (x : Nat) (h : m < 3) : upd (flat s k) (18 + m) (nI x) = flat (s2 s 5 m x) k := flat_up s k x (by omega) (f_5 m h)
theorem flat_u6 {m : Nat} (x : Nat) (h : m < 3) : upd (flat s k) (33 + m) (nI x) = flat (s2 s 5 (3 + m) x) k := flat_up s k x (by omega) (f_6 m h)
theorem flat_u7 {m i : Nat} (x : Nat) (h : m < 3) (hi : i < 4) : upd (flat s k) (21 + 4 * m + i) (nI x) = flat (s2 s (7 + m) i x) k := flat_up s k x (by omega) (f_7 m h i hi)
theorem flat_u10 {m i : Nat} (x : Nat) (h : m < 3) (hi : i < 4) : upd (flat s k) (36 + 4 * m + i) (nI x) = flat (s2 s (7 + (3 + m)) i x) k := flat_up s k x (by omega) (f_10 m h i hi)
theorem flat_uk {c : Nat} (x : Int32) (h : c < 4) : upd (flat s k) (48 + c) x = flat s (upd k c x) := by
  funext z
  by_cases hz : z = 48 + c
  · subst hz
    simp only [upd, flat]
    rw [if_pos trivial, if_neg (by omega), if_pos (by omega), if_pos (by omega)]
  · simp only [upd, if_neg hz, flat]
    by_cases h8 : z < 48
    · rw [if_pos h8, if_pos h8]
    · rw [if_neg h8, if_neg h8]
      by_cases h9 : z < 52
      · rw [if_pos h9, if_pos h9, if_neg (by omega)]
      · rw [if_neg h9, if_neg h9]
end
/-! the steps of the picture -/
def comesA (s : Sg) (r t : Nat) : Sg := s2 (s2 s (7 + r) (s 5 r) (t + 1)) 5 r (s 5 r + 1)
def leavesA (s : Sg) (r : Nat) : Sg := sr (s2 s 5 r (s 5 r - 1)) (7 + r) (fun i => if i < s 5 r - 1 then s (7 + r) (i + 1) else 0)
def freeA (s : Sg) (m : Nat) : Sg :=
  if s 5 m = 0 then s2 (s2 s 3 m 0) 4 m 0
  else s2 (s2 (s2 (s2 (leavesA (s2 (s2 s 3 m 0) 4 m 0) m) 3 m (s (7 + m) 0)) 4 m (s 2 (s (7 + m) 0 - 1))) 2 (s (7 + m) 0 - 1) 0) 1 (s (7 + m) 0 - 1) 0
def end1A (t : Nat) (q : Sg × Nat) (m : Nat) : Sg × Nat := if q.1 3 m = t + 1 then (freeA q.1 m, q.2 + 1) else q
def endA (s : Sg) (t x : Nat) : Sg × Nat := end1A t (end1A t (end1A t (s2 s 1 t x, 0) 0) 1) 2
def enterA (s : Sg) (t m : Nat) : Sg × Nat :=
  if s 3 m = 0 then (s2 (s2 s 3 m (t + 1)) 4 m 1, 0)
  else if s 3 m = t + 1 then (if s 4 m = 9 then (s, 3) else (s2 s 4 m (s 4 m + 1), 0))
  else (comesA (s2 (s2 s 1 t 1) 2 t 1) m t, 0)
def wake1A (s : Sg) (m : Nat) : Sg := comesA (s2 (leavesA s (3 + m)) 1 (s (7 + (3 + m)) 0 - 1) 1) m (s (7 + (3 + m)) 0 - 1)
def wakeA : Nat → Sg → Nat → Sg
  | 0, s, _ => s
  | n + 1, s, m => wakeA n (wake1A s m) m
def monA (s : Sg) (t so m : Nat) : Sg × Nat :=
  if s 14 m = 1 then (s, 1) else if so = 0 then enterA s t m else if s 3 m ≠ t + 1 then (s, 2)
  else if so = 1 then (if s 4 m - 1 = 0 then freeA (s2 s 4 m (s 4 m - 1)) m else s2 s 4 m (s 4 m - 1), 0)
  else if so = 2 then (freeA (comesA (s2 (s2 s 1 t 2) 2 t (s 4 m)) (3 + m) t) m, 0)
  else (wakeA (if s 5 (3 + m) = 0 then 0 else if so = 4 then s 5 (3 + m) else 1) s m, 0)
/-- sort, first, number, goal of a statement -/
def pS (p : Ro) (t i : Nat) : Nat := (p (48 * t + 4 * i)).toNatClampNeg
def pO (p : Ro) (t i : Nat) : Nat := (p (48 * t + 4 * i + 1)).toNatClampNeg
def pN (p : Ro) (t i : Nat) : Int32 := p (48 * t + 4 * i + 2)
def pT (p : Ro) (t i : Nat) : Nat := (p (48 * t + 4 * i + 3)).toNatClampNeg
def inC (x : Int32) : Prop := -99 ≤ x.toInt ∧ x.toInt ≤ 99
/-- a truth as the machine has it -/
def bz (p : Prop) [Decidable p] : Int32 := if p then 1 else 0
theorem bz_01 (p : Prop) [Decidable p] : bz p = 0 ∨ bz p = 1 := by unfold bz; split <;> simp
theorem bz_t {p : Prop} [Decidable p] (h : p) : bz p = 1 := if_pos h
theorem bz_f {p : Prop} [Decidable p] (h : ¬ p) : bz p = 0 := if_neg h
theorem bz_0 {p : Prop} [Decidable p] : bz p = 0 ↔ ¬ p := by
  unfold bz; split <;> simp [*]
theorem bz_1 {p : Prop} [Decidable p] : bz p = 1 ↔ p := by
  unfold bz; split <;> simp [*]
theorem bz_n0 {p : Prop} [Decidable p] : ¬ bz p = 0 ↔ p := by
  unfold bz; split <;> simp [*]
theorem bz_c {p q : Prop} [Decidable p] [Decidable q] (h : p ↔ q) : bz p = bz q := by
  unfold bz; simp [h]
theorem lc_lt (x y : Int64) : lg_cmp x y < 0 ↔ x.toInt < y.toInt := by
  unfold lg_cmp
  have h1 := Int64.lt_iff_toInt_lt (x := x) (y := y)
  by_cases h : x > y
  · have h2 := Int64.lt_iff_toInt_lt.mp h
    simp [h]; omega
  · by_cases e : x = y
    · subst e; simp
    · have h3 : ¬ y.toInt < x.toInt := fun q => h (Int64.lt_iff_toInt_lt.mpr q)
      have h4 : x.toInt ≠ y.toInt := fun q => e (Int64.toInt_inj.mp q)
      simp [h, e]; omega
theorem lc_gt (x y : Int64) : 0 < lg_cmp x y ↔ y.toInt < x.toInt := by
  unfold lg_cmp
  by_cases h : x > y
  · have h2 := Int64.lt_iff_toInt_lt.mp h
    simp [h, h2]
  · have h3 : ¬ y.toInt < x.toInt := fun q => h (Int64.lt_iff_toInt_lt.mpr q)
    by_cases e : x = y
    · subst e; simp
    · simp [h, e]; omega
