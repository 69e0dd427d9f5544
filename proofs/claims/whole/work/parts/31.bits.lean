/-! the class's rows of tasks: three bits a place -/
def pk (r : Nat → Nat) : Int32 := nI (r 0 + 8 * r 1 + 64 * r 2 + 512 * r 3)
def sm4 (r : Nat → Nat) : Prop := ∀ i, i < 4 → r i ≤ 4
theorem pk_sl' : ∀ a, a < 5 → ∀ b, b < 5 → ∀ c, c < 5 → ∀ e, e < 5 → ∀ j, j < 4 → ((nI (a + 8 * b + 64 * c + 512 * e)).toUInt32 >>> ((nI (3 * j)).toUInt32 &&& Int32.toUInt32 31)).toInt32 &&& 7 = nI ([a, b, c, e].getD j 0) := by decide +kernel
theorem pk_sl {r : Nat → Nat} (h : sm4 r) {j : Nat} (hj : j < 4) : ((pk r).toUInt32 >>> ((nI (3 * j)).toUInt32 &&& Int32.toUInt32 31)).toInt32 &&& 7 = nI (r j) := by
  have e := pk_sl' (r 0) (by have := h 0 (by omega); omega) (r 1) (by have := h 1 (by omega); omega) (r 2) (by have := h 2 (by omega); omega) (r 3) (by have := h 3 (by omega); omega) j hj
  unfold pk
  rw [e]
  match j, hj with
  | 0, _ => rfl
  | 1, _ => rfl
  | 2, _ => rfl
  | 3, _ => rfl
theorem pk_wf' : ∀ a, a < 5 → ∀ b, b < 5 → ∀ c, c < 5 → ∀ e, e < 5 → ((nI (a + 8 * b + 64 * c + 512 * e)).toUInt32 >>> ((3 : Int32).toUInt32 &&& Int32.toUInt32 31)).toInt32 = nI (b + 8 * c + 64 * e + 512 * 0) := by decide +kernel
theorem pk_wf {r : Nat → Nat} (h : sm4 r) : ((pk r).toUInt32 >>> ((3 : Int32).toUInt32 &&& Int32.toUInt32 31)).toInt32 = pk (fun i => if i < 3 then r (i + 1) else 0) := by
  unfold pk
  rw [pk_wf' (r 0) (by have := h 0 (by omega); omega) (r 1) (by have := h 1 (by omega); omega) (r 2) (by have := h 2 (by omega); omega) (r 3) (by have := h 3 (by omega); omega)]
  rfl
theorem pk_or0 : ∀ t, t < 4 → nI 0 ||| ((nI t + 1) <<< ((0 : Int32) &&& 31)) = nI (t + 1) := by decide +kernel
theorem pk_or1 : ∀ a, a < 5 → ∀ t, t < 4 → nI a ||| ((nI t + 1) <<< ((3 : Int32) &&& 31)) = nI (a + 8 * (t + 1)) := by decide +kernel
theorem pk_or2 : ∀ a, a < 5 → ∀ b, b < 5 → ∀ t, t < 4 → nI (a + 8 * b) ||| ((nI t + 1) <<< ((6 : Int32) &&& 31)) = nI (a + 8 * b + 64 * (t + 1)) := by decide +kernel
theorem pk_or3 : ∀ a, a < 5 → ∀ b, b < 5 → ∀ c, c < 5 → ∀ t, t < 4 → nI (a + 8 * b + 64 * c) ||| ((nI t + 1) <<< ((9 : Int32) &&& 31)) = nI (a + 8 * b + 64 * c + 512 * (t + 1)) := by decide +kernel

