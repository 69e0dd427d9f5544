/-! THE FLAT MEMORY: every cell that the law makes stands at a number; its ints are f a k; its layout (kind, length, references) is a list. A method's walk is a judgement 'A' over locals, stack and memory; the machine's own words stand behind it. -/
abbrev Mem : Type := Nat → Nat → Int32
/-- kind (0 int[], 1 boolean[], 2 Program[], 3 int[][], 4 + c an object of the class c), length, for each place 0 (a number), 1 (null), a + 2 (the cell a) -/
abbrev Ly : Type := Nat × Nat × List Nat
/-- name, bytes, locals, answer, frames, words -/
abbrev MT : Type := MethodName × ByteArray × Nat × Option FieldType × Nat × Nat
def gw : List Cond := lw_tbl.filter goodWord
theorem mem_gw {w : Cond} (i : Nat) (h : lw_tbl[i]? = some w) (hg : goodWord w = true) : w ∈ gw := List.mem_filter.mpr ⟨List.mem_of_getElem? h, hg⟩
abbrev gt_y (M : MT) : MethodName := M.1
abbrev gt_c (M : MT) : ByteArray := M.2.1
abbrev gt_L (M : MT) : Nat := M.2.2.1
abbrev gt_r (M : MT) : Option FieldType := M.2.2.2.1
abbrev gt_fr (M : MT) : Nat := M.2.2.2.2.1
abbrev gt_wo (M : MT) : Nat := M.2.2.2.2.2
abbrev gt_R (M : MT) (mc ms : Nat) : Room := { frames := gt_fr M, cells := mc, slots := ms, locals := gt_wo M }
abbrev gt_ws (M : MT) : List Cond := Cond.code (gt_y M) (gt_c M) (gt_L M) (gt_r M) :: gw
def cz (al : Nat → Nat) : Value → Value
  | .ref a => .ref (al a)
  | .int x => .int x
  | .long x => .long x
  | .float x => .float x
  | .double x => .double x
  | .null => .null
  | .retAddr x => .retAddr x
theorem cz_cat (al : Nat → Nat) (v : Value) : (cz al v).category = v.category := by cases v <;> rfl
/-- one row becomes g -/
def ur (f : Mem) (a : Nat) (g : Nat → Int32) : Mem := fun b => if b = a then g else f b
/-- one number becomes x -/
def u2 (f : Mem) (a k : Nat) (x : Int32) : Mem := ur f a (upd (f a) k x)
theorem ur_s (f : Mem) (a : Nat) (g : Nat → Int32) : ur f a g a = g := if_pos rfl
theorem ur_n (f : Mem) {a b : Nat} (g : Nat → Int32) (h : b ≠ a) : ur f a g b = f b := if_neg h
theorem u2_s (f : Mem) (a k : Nat) (x : Int32) : u2 f a k x a = upd (f a) k x := if_pos rfl
theorem u2_n (f : Mem) {a b : Nat} (k : Nat) (x : Int32) (h : b ≠ a) : u2 f a k x b = f b := if_neg h
theorem upd_s (f : Nat → Int32) (k : Nat) (x : Int32) : upd f k x k = x := if_pos rfl
theorem upd_n (f : Nat → Int32) {k j : Nat} (x : Int32) (h : j ≠ k) : upd f k x j = f j := if_neg h
def gt_fv (al : Nat → Nat) (f : Nat → Int32) (k : Nat) : Nat → Value
  | 0 => .int (f k)
  | 1 => .null
  | n + 2 => .ref (al n)
def gt_fl (al : Nat → Nat) (f : Nat → Int32) : Nat → List Nat → List Value
  | _, [] => []
  | k, o :: t => gt_fv al f k o :: gt_fl al f (k + 1) t
def gt_ro (al : Nat → Nat) : Nat → Option Nat
  | n + 2 => some (al n)
  | _ => none
def gt_ra (al : Nat → Nat) (l : List Nat) (j : Nat) : Option Nat := gt_ro al (l.getD j 1)
def gt_we (al : Nat → Nat) (ac : Nat → ClassId) (f : Nat → Int32) (q : Ly) : va_E := match q.1 with
  | 0 => .inl (ac 0, q.2.1, .inl f)
  | 1 => .inl (ac 1, q.2.1, .inl f)
  | 2 => .inl (ac 2, q.2.1, .inr (.inr (.inr (.inr (gt_ra al q.2.2)))))
  | 3 => .inl (ac 3, q.2.1, .inr (.inr (.inr (.inr (gt_ra al q.2.2)))))
  | n + 4 => .inr (n, gt_fl al f 0 q.2.2)
def gt_wl (al : Nat → Nat) (ac : Nat → ClassId) (f : Mem) : Nat → List Ly → va_W
  | _, [] => []
  | i, q :: t => (al i, gt_we al ac (f i) q) :: gt_wl al ac f (i + 1) t
theorem gt_fl_at (al : Nat → Nat) (f : Nat → Int32) : ∀ (l : List Nat) (k0 k : Nat), (gt_fl al f k0 l)[k]? = (l[k]?).map (gt_fv al f (k0 + k))
  | [], _, _ => by simp [gt_fl]
  | o :: t, k0, 0 => by simp [gt_fl]
  | o :: t, k0, k + 1 => by
    rw [gt_fl, List.getElem?_cons_succ, List.getElem?_cons_succ, gt_fl_at al f t (k0 + 1) k]
    rw [show k0 + 1 + k = k0 + (k + 1) by omega]
theorem gt_fl_len (al : Nat → Nat) (f : Nat → Int32) : ∀ (l : List Nat) (k0 : Nat), (gt_fl al f k0 l).length = l.length
  | [], _ => rfl
  | o :: t, k0 => by simp [gt_fl, gt_fl_len al f t (k0 + 1)]
theorem gt_fv_upd (al : Nat → Nat) (f : Nat → Int32) {j k : Nat} (x : Int32) (h : k ≠ j) (o : Nat) : gt_fv al (upd f j x) k o = gt_fv al f k o := by
  match o with
  | 0 => simp [gt_fv, upd_n f x h]
  | 1 => rfl
  | n + 2 => rfl
theorem gt_fl_out (al : Nat → Nat) (f : Nat → Int32) (x : Int32) : ∀ (l : List Nat) (k0 j : Nat), j < k0 → gt_fl al (upd f j x) k0 l = gt_fl al f k0 l
  | [], _, _, _ => rfl
  | o :: t, k0, j, h => by
    rw [gt_fl, gt_fl, gt_fl_out al f x t (k0 + 1) j (by omega), gt_fv_upd al f x (by omega)]
theorem gt_fl_set (al : Nat → Nat) (f : Nat → Int32) (x : Int32) : ∀ (l : List Nat) (k0 k : Nat), l[k]? = some 0 → (gt_fl al f k0 l).set k (.int x) = gt_fl al (upd f (k0 + k) x) k0 l
  | [], _, _, h => by simp at h
  | o :: t, k0, 0, h => by
    simp at h
    subst h
    simp only [gt_fl, List.set_cons_zero, Nat.add_zero]
    rw [gt_fl_out al f x t (k0 + 1) k0 (by omega)]
    simp [gt_fv, upd_s]
  | o :: t, k0, k + 1, h => by
    rw [List.getElem?_cons_succ] at h
    simp only [gt_fl, List.set_cons_succ]
    rw [gt_fl_set al f x t (k0 + 1) k h, gt_fv_upd al f x (by omega), show k0 + 1 + k = k0 + (k + 1) by omega]
theorem gt_fl_setq (al : Nat → Nat) (f : Nat → Int32) (a : Nat) : ∀ (l : List Nat) (k0 k : Nat), (gt_fl al f k0 l).set k (.ref (al a)) = gt_fl al f k0 (l.set k (a + 2))
  | [], _, _ => by simp [gt_fl]
  | o :: t, k0, 0 => by simp [gt_fl, gt_fv]
  | o :: t, k0, k + 1 => by
    simp only [gt_fl, List.set_cons_succ]
    rw [gt_fl_setq al f a t (k0 + 1) k]
theorem gt_wl_at (al : Nat → Nat) (ac : Nat → ClassId) (f : Mem) : ∀ (l : List Ly) (i0 k : Nat), (gt_wl al ac f i0 l)[k]? = (l[k]?).map (fun q => (al (i0 + k), gt_we al ac (f (i0 + k)) q))
  | [], _, _ => by simp [gt_wl]
  | o :: t, i0, 0 => by simp [gt_wl]
  | o :: t, i0, k + 1 => by
    rw [gt_wl, List.getElem?_cons_succ, List.getElem?_cons_succ, gt_wl_at al ac f t (i0 + 1) k]
    rw [show i0 + 1 + k = i0 + (k + 1) by omega]
theorem gt_wl_len (al : Nat → Nat) (ac : Nat → ClassId) (f : Mem) : ∀ (l : List Ly) (i0 : Nat), (gt_wl al ac f i0 l).length = l.length
  | [], _ => rfl
  | o :: t, i0 => by simp [gt_wl, gt_wl_len al ac f t (i0 + 1)]
theorem gt_wl_low (al : Nat → Nat) (ac : Nat → ClassId) (f : Mem) (g : Nat → Int32) : ∀ (l : List Ly) (i0 j : Nat), j < i0 → gt_wl al ac (ur f j g) i0 l = gt_wl al ac f i0 l
  | [], _, _, _ => rfl
  | o :: t, i0, j, h => by
    rw [gt_wl, gt_wl, gt_wl_low al ac f g t (i0 + 1) j (by omega), ur_n f g (by omega)]
theorem gt_wl_high (al : Nat → Nat) (ac : Nat → ClassId) (f : Mem) (g : Nat → Int32) : ∀ (l : List Ly) (i0 j : Nat), i0 + l.length ≤ j → gt_wl al ac (ur f j g) i0 l = gt_wl al ac f i0 l
  | [], _, _, _ => rfl
  | o :: t, i0, j, h => by
    simp only [List.length_cons] at h
    rw [gt_wl, gt_wl, gt_wl_high al ac f g t (i0 + 1) j (by omega), ur_n f g (by omega)]
theorem gt_wl_set (al : Nat → Nat) (ac : Nat → ClassId) (f : Mem) (g : Nat → Int32) : ∀ (l : List Ly) (i0 k : Nat) (q : Ly), l[k]? = some q → (gt_wl al ac f i0 l).set k (al (i0 + k), gt_we al ac g q) = gt_wl al ac (ur f (i0 + k) g) i0 l
  | [], _, _, _, h => by simp at h
  | o :: t, i0, 0, q, h => by
    simp at h
    subst h
    simp only [gt_wl, List.set_cons_zero, Nat.add_zero]
    rw [gt_wl_low al ac f g t (i0 + 1) i0 (by omega), ur_s]
  | o :: t, i0, k + 1, q, h => by
    rw [List.getElem?_cons_succ] at h
    have e := gt_wl_set al ac f g t (i0 + 1) k q h
    rw [show i0 + 1 + k = i0 + (k + 1) by omega] at e
    simp only [gt_wl, List.set_cons_succ]
    rw [e, ur_n f g (by omega)]
theorem gt_wl_setq (al : Nat → Nat) (ac : Nat → ClassId) (f : Mem) (q' : Ly) : ∀ (l : List Ly) (i0 k : Nat), (gt_wl al ac f i0 l).set k (al (i0 + k), gt_we al ac (f (i0 + k)) q') = gt_wl al ac f i0 (l.set k q')
  | [], _, _ => by simp [gt_wl]
  | o :: t, i0, 0 => by simp [gt_wl]
  | o :: t, i0, k + 1 => by
    have e := gt_wl_setq al ac f q' t (i0 + 1) k
    rw [show i0 + 1 + k = i0 + (k + 1) by omega] at e
    simp only [gt_wl, List.set_cons_succ]
    rw [e]
theorem gt_wl_app (al : Nat → Nat) (ac : Nat → ClassId) (f : Mem) (q : Ly) : ∀ (l : List Ly) (i0 : Nat), gt_wl al ac f i0 (l ++ [q]) = gt_wl al ac f i0 l ++ [(al (i0 + l.length), gt_we al ac (f (i0 + l.length)) q)]
  | [], _ => by simp [gt_wl]
  | o :: t, i0 => by
    simp only [gt_wl, List.cons_append, List.length_cons]
    rw [gt_wl_app al ac f q t (i0 + 1), show i0 + 1 + t.length = i0 + (t.length + 1) by omega]
abbrev gt_wd (al : Nat → Nat) (ac : Nat → ClassId) (lay : List Ly) (f : Mem) : va_W := gt_wl al ac f 0 lay
theorem gt_wd_at {al : Nat → Nat} {ac : Nat → ClassId} {lay : List Ly} {f : Mem} {a : Nat} {q : Ly} (h : lay[a]? = some q) : (gt_wd al ac lay f)[a]? = some (al a, gt_we al ac (f a) q) := by
  rw [gt_wl_at, h, Nat.zero_add]
  rfl
theorem gt_wd_set {al : Nat → Nat} {ac : Nat → ClassId} {lay : List Ly} {f : Mem} {a : Nat} {q : Ly} (h : lay[a]? = some q) (g : Nat → Int32) : (gt_wd al ac lay f).set a (al a, gt_we al ac g q) = gt_wd al ac lay (ur f a g) := by
  have e := gt_wl_set al ac f g lay 0 a q h
  rw [Nat.zero_add] at e
  exact e
/-- the law's cells lie side by side, from al 0 on -/
def gt_al (al : Nat → Nat) : Prop := ∀ i, i < 1000 → al i = al 0 + i
abbrev gt_A (al : Nat → Nat) : Nat → Prop := fun q => al 0 ≤ q
theorem gt_D {al : Nat → Nat} (h : gt_al al) (ac : Nat → ClassId) {lay : List Ly} (hl : lay.length < 1000) (f : Mem) : va_D (gt_A al) (gt_wd al ac lay f) := by
  have key : ∀ (k : Nat) (q : Nat × va_E), (gt_wd al ac lay f)[k]? = some q → q.1 = al 0 + k := by
    intro k q hk
    have hlt : k < lay.length := by
      have := (List.getElem?_eq_some_iff.mp hk).1
      rwa [gt_wl_len] at this
    rw [gt_wl_at, Nat.zero_add] at hk
    cases hq : lay[k]? with
    | none => rw [hq] at hk; cases hk
    | some z =>
      rw [hq] at hk
      cases hk
      exact h k (by omega)
  refine ⟨fun i j p q hi hj e => ?_, fun k q hk => ?_⟩
  · have h1 := key i p hi
    have h2 := key j q hj
    omega
  · have h1 := key k q hk
    show al 0 ≤ q.1
    omega
def gt_tx (i : Nat) : String := ["enter", "leave", "wait", "notify", "all", "add", "set", "if", "jump"].getD i ""
def gt_len : List Nat := [5, 5, 4, 6, 3, 3, 3, 2, 4]
def gt_byt : List (List Int32) := [[101, 110, 116, 101, 114], [108, 101, 97, 118, 101], [119, 97, 105, 116], [110, 111, 116, 105, 102, 121], [97, 108, 108], [97, 100, 100], [115, 101, 116], [105, 102], [106, 117, 109, 112]]
