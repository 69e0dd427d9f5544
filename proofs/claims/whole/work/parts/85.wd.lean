/-! the words of a picture -/
theorem sh_k : ∀ k, k < 32 → ((BitVec.ofNat 32 k &&& 31#32).smod 32#32).toNat = k := by decide +kernel
theorem sh_k2 : ∀ k, k < 32 → ((k % 4294967296 &&& 31) % 32) = k := by decide +kernel
theorem or_sh (x y k : Nat) (hk : k < 32) (hx : x < 2 ^ k) (h : x + y * 2 ^ k < 2 ^ 32) : nI x ||| (nI y <<< (nI k &&& 31)) = nI (x + y * 2 ^ k) := by
  apply Int32.toBitVec_inj.mp
  simp only [nI, Int32.toBitVec_or, Int32.toBitVec_shiftLeft, Int32.toBitVec_and, Int32.toBitVec_ofNat']
  rw [show Int32.toBitVec 31 = 31#32 from rfl, BitVec.shiftLeft_eq', show (32 : BitVec 32) = 32#32 from rfl, sh_k k hk]
  apply BitVec.eq_of_toNat_eq
  have hp : 0 < 2 ^ k := Nat.two_pow_pos k
  have hx2 : x < 2 ^ 32 := by
    have : 0 ≤ y * 2 ^ k := Nat.zero_le _
    omega
  have hy : y * 2 ^ k < 2 ^ 32 := by omega
  have hy2 : y < 2 ^ 32 := Nat.lt_of_le_of_lt (Nat.le_mul_of_pos_right y hp) hy
  rw [BitVec.toNat_or, BitVec.toNat_shiftLeft, BitVec.toNat_ofNat, BitVec.toNat_ofNat, BitVec.toNat_ofNat, Nat.mod_eq_of_lt hx2, Nat.mod_eq_of_lt hy2, Nat.mod_eq_of_lt h, Nat.shiftLeft_eq, Nat.mod_eq_of_lt hy, Nat.or_comm, ← Nat.shiftLeft_eq, ← Nat.shiftLeft_add_eq_or_of_lt hx, Nat.shiftLeft_eq, Nat.add_comm]
theorem sr_and (N k m : Nat) (hk : k < 32) (hm : m < 32) (h : N < 2 ^ 32) : ((nI N).toUInt32 >>> ((nI k).toUInt32 &&& Int32.toUInt32 31)).toInt32 &&& nI (2 ^ m - 1) = nI (N / 2 ^ k % 2 ^ m) := by
  apply Int32.toBitVec_inj.mp
  have e : (((nI N).toUInt32 >>> ((nI k).toUInt32 &&& Int32.toUInt32 31)).toInt32 &&& nI (2 ^ m - 1)).toBitVec = BitVec.ofNat 32 N >>> k &&& BitVec.ofNat 32 (2 ^ m - 1) := by
    simp [nI, Int32.toBitVec_and]
    rw [sh_k2 k hk]
    rfl
  rw [e]
  apply BitVec.eq_of_toNat_eq
  have h2 : 2 ^ m < 2 ^ 32 := Nat.pow_lt_pow_right (by decide) hm
  have h1 : N / 2 ^ k % 2 ^ m < 2 ^ 32 := Nat.lt_trans (Nat.mod_lt _ (Nat.two_pow_pos m)) h2
  rw [BitVec.toNat_and, BitVec.toNat_ushiftRight, BitVec.toNat_ofNat, BitVec.toNat_ofNat, Nat.mod_eq_of_lt h, Nat.mod_eq_of_lt (show 2 ^ m - 1 < 2 ^ 32 by omega), Nat.and_two_pow_sub_one_eq_mod, Nat.shiftRight_eq_div_pow]
  show _ = (nI (N / 2 ^ k % 2 ^ m)).toBitVec.toNat
  simp only [nI, Int32.toBitVec_ofNat']
  rw [BitVec.toNat_ofNat, Nat.mod_eq_of_lt h1]
theorem sr_0 (N k : Nat) (hk : k < 32) (h : N < 2 ^ 32) : ((nI N).toUInt32 >>> ((nI k).toUInt32 &&& Int32.toUInt32 31)).toInt32 = nI (N / 2 ^ k) := by
  apply Int32.toBitVec_inj.mp
  have e : ((nI N).toUInt32 >>> ((nI k).toUInt32 &&& Int32.toUInt32 31)).toInt32.toBitVec = BitVec.ofNat 32 N >>> k := by
    simp [nI]
    rw [sh_k2 k hk]
    rfl
  rw [e]
  apply BitVec.eq_of_toNat_eq
  have h1 : N / 2 ^ k < 2 ^ 32 := Nat.lt_of_le_of_lt (Nat.div_le_self _ _) h
  rw [BitVec.toNat_ushiftRight, BitVec.toNat_ofNat, Nat.mod_eq_of_lt h, Nat.shiftRight_eq_div_pow]
  simp only [nI, Int32.toBitVec_ofNat']
  rw [BitVec.toNat_ofNat, Nat.mod_eq_of_lt h1]
theorem and_m (N m : Nat) (hm : m < 32) (h : N < 2 ^ 32) : nI N &&& nI (2 ^ m - 1) = nI (N % 2 ^ m) := by
  apply Int32.toBitVec_inj.mp
  apply BitVec.eq_of_toNat_eq
  have h2 : 2 ^ m < 2 ^ 32 := Nat.pow_lt_pow_right (by decide) hm
  have h1 : N % 2 ^ m < 2 ^ 32 := Nat.lt_trans (Nat.mod_lt _ (Nat.two_pow_pos m)) h2
  simp only [nI, Int32.toBitVec_and, Int32.toBitVec_ofNat']
  rw [BitVec.toNat_and, BitVec.toNat_ofNat, BitVec.toNat_ofNat, BitVec.toNat_ofNat, Nat.mod_eq_of_lt h, Nat.mod_eq_of_lt (show 2 ^ m - 1 < 2 ^ 32 by omega), Nat.and_two_pow_sub_one_eq_mod, Nat.mod_eq_of_lt h1]
theorem nI_inj {a b : Nat} (ha : a < 2 ^ 32) (hb : b < 2 ^ 32) (e : nI a = nI b) : a = b := by
  have := congrArg (fun x => x.toBitVec.toNat) e
  simp only [nI, Int32.toBitVec_ofNat', BitVec.toNat_ofNat] at this
  rw [Nat.mod_eq_of_lt ha, Nat.mod_eq_of_lt hb] at this
  exact this
theorem lo_11 (x : Int32) : ∃ j, j < 2048 ∧ x &&& 2047 = nI j := by
  refine ⟨x.toBitVec.toNat % 2 ^ 11, Nat.mod_lt _ (by decide), ?_⟩
  apply Int32.toBitVec_inj.mp
  apply BitVec.eq_of_toNat_eq
  simp only [nI, Int32.toBitVec_and, Int32.toBitVec_ofNat']
  rw [BitVec.toNat_and, BitVec.toNat_ofNat, show (Int32.toBitVec 2047).toNat = 2 ^ 11 - 1 from rfl, Nat.and_two_pow_sub_one_eq_mod, Nat.mod_eq_of_lt (Nat.lt_trans (Nat.mod_lt _ (by decide)) (show 2 ^ 11 < 2 ^ 32 by decide))]

def tw (s : Sg) (t : Nat) : Nat := s 0 t + s 1 t * 16 + s 2 t * 128
def pkN (r : Nat → Nat) : Nat := r 0 + 8 * r 1 + 64 * r 2 + 512 * r 3
theorem pk_N (r : Nat → Nat) : pk r = nI (pkN r) := rfl
def mw (s : Sg) (m : Nat) : Nat := s 3 m + s 4 m * 8 + pkN (s (7 + m)) * 128 + pkN (s (7 + (3 + m))) * 524288
def kn (k : Ro) (c : Nat) : Nat := ((k c).toInt + 99).toNat
def cw (k : Ro) : Nat := kn k 0 + kn k 1 * 256 + kn k 2 * 65536 + kn k 3 * 16777216
def wd (s : Sg) (k : Ro) (i : Nat) : Nat := if i = 0 then tw s 0 + tw s 1 * 2048 else if i = 1 then tw s 2 + tw s 3 * 2048 else if i < 5 then mw s (i - 2) else cw k
/-- what the words hold -/
def wB (s : Sg) (k : Ro) : Prop := wf s ∧ (∀ t, t < 4 → s 0 t ≤ 12) ∧ wfK k
theorem wB.t {s : Sg} {k : Ro} (h : wB s k) {t : Nat} (ht : t < 4) : s 0 t ≤ 12 ∧ s 1 t ≤ 4 ∧ s 2 t ≤ 9 := ⟨h.2.1 t ht, h.1.2.2.2.1 t ht⟩
theorem wB.m {s : Sg} {k : Ro} (h : wB s k) {m : Nat} (hm : m < 3) : s 3 m ≤ 4 ∧ s 4 m ≤ 9 := ⟨(h.1.2.2.2.2 m hm).1, (h.1.2.2.2.2 m hm).2.1⟩
theorem wB.r {s : Sg} {k : Ro} (h : wB s k) {r : Nat} (hr : r < 6) : sm4 (s (7 + r)) := (wf4.row h.1.1 hr).sm
theorem pkN_b {r : Nat → Nat} (h : sm4 r) : pkN r < 4096 := by
  have h0 := h 0 (by omega)
  have h1 := h 1 (by omega)
  have h2 := h 2 (by omega)
  have h3 := h 3 (by omega)
  unfold pkN; omega
theorem kn_b {k : Ro} {c : Nat} (h : inCell (k c)) : kn k c ≤ 198 := by unfold kn; have := h; omega
theorem kn_v {k : Ro} {c : Nat} (h : inCell (k c)) : k c + 99 = nI (kn k c) ∧ nI (kn k c) - 99 = k c := by
  have key : k c + 99 = nI (kn k c) := by
    apply Int32.toInt_inj.mp
    rw [Int32.toInt_add, show (99 : Int32).toInt = 99 from rfl]
    have h1 := h.1
    have h2 := h.2
    have e : (nI (kn k c)).toInt = ((kn k c : Nat) : Int) := nI_toInt (by have := kn_b h; omega)
    rw [e]
    unfold kn
    have : ((k c).toInt + 99).bmod (2 ^ 32) = (k c).toInt + 99 := by
      rw [Int.bmod_eq_of_le] <;> omega
    rw [this]; omega
  refine ⟨key, ?_⟩
  rw [← key]; exact Int32.add_sub_cancel _ _
theorem tw_b {s : Sg} {k : Ro} (h : wB s k) {t : Nat} (ht : t < 4) : tw s t < 2048 := by have := h.t ht; unfold tw; omega
theorem mw_b {s : Sg} {k : Ro} (h : wB s k) {m : Nat} (hm : m < 3) : mw s m < 2 ^ 31 := by
  have h1 := h.m hm
  have h2 := pkN_b (h.r (r := m) (by omega))
  have h3 := pkN_b (h.r (r := 3 + m) (by omega))
  unfold mw; omega
theorem cw_b {k : Ro} (h : wfK k) : cw k < 2 ^ 32 := by
  have h0 := kn_b (h 0 (by omega))
  have h1 := kn_b (h 1 (by omega))
  have h2 := kn_b (h 2 (by omega))
  have h3 := kn_b (h 3 (by omega))
  unfold cw; omega
theorem wd_b {s : Sg} {k : Ro} (h : wB s k) {i : Nat} (hi : i < 6) : wd s k i < 2 ^ 32 := by
  unfold wd
  split
  · have := tw_b h (t := 0) (by omega); have := tw_b h (t := 1) (by omega); omega
  · split
    · have := tw_b h (t := 2) (by omega); have := tw_b h (t := 3) (by omega); omega
    · split
      · have := mw_b h (m := i - 2) (by omega); omega
      · exact cw_b h.2.2
/-- two pictures are alike -/
def lk (u v : Sg × Ro) : Prop := ∀ j, j < 52 → flat u.1 u.2 j = flat v.1 v.2 j
def lkE (s : Sg) (k : Ro) (s' : Sg) (k' : Ro) : Prop := (∀ t, t < 4 → s 0 t = s' 0 t ∧ s 1 t = s' 1 t ∧ s 2 t = s' 2 t) ∧ (∀ m, m < 3 → s 3 m = s' 3 m ∧ s 4 m = s' 4 m) ∧ (∀ r, r < 6 → ∀ i, i < 4 → s (7 + r) i = s' (7 + r) i) ∧ ∀ c, c < 4 → k c = k' c
theorem lk_E {s s' : Sg} {k k' : Ro} (h : wB s k) (h' : wB s' k') (e : lk (s, k) (s', k')) : lkE s k s' k' := by
  have key : ∀ {j c i : Nat}, j < 48 → fc j = c ∧ fk j = i → s c i < 100 → s' c i < 100 → s c i = s' c i := by
    intro j c i hj hfc b b'
    have q := e j (by omega)
    dsimp only at q
    rw [flat_at s k hj hfc, flat_at s' k' hj hfc] at q
    exact nI_inj (by omega) (by omega) q
  refine ⟨fun t ht => ?_, fun m hm => ?_, fun r hr i hi => ?_, fun c hc => ?_⟩
  · have a := h.t ht
    have b := h'.t ht
    exact ⟨key (j := t) (by omega) (f_0 t ht) (by omega) (by omega), key (j := 4 + t) (by omega) (f_1 t ht) (by omega) (by omega), key (j := 8 + t) (by omega) (f_2 t ht) (by omega) (by omega)⟩
  · have a := h.m hm
    have b := h'.m hm
    exact ⟨key (j := 12 + m) (by omega) (f_3 m hm) (by omega) (by omega), key (j := 15 + m) (by omega) (f_4 m hm) (by omega) (by omega)⟩
  · have a := h.r hr i hi
    have b := h'.r hr i hi
    rcases Nat.lt_or_ge r 3 with q | q
    · exact key (j := 21 + 4 * r + i) (by omega) (f_7 r q i hi) (by omega) (by omega)
    · obtain ⟨m, rfl⟩ : ∃ m, r = 3 + m := ⟨r - 3, by omega⟩
      exact key (j := 36 + 4 * m + i) (by omega) (f_10 m (by omega) i hi) (by omega) (by omega)
  · have q := e (48 + c) (by omega)
    dsimp only at q
    rw [flat_k s k hc, flat_k s' k' hc] at q
    exact q
theorem wfL_5 {s s' : Sg} (h : wfL s) (h' : wfL s') {r : Nat} (hr : r < 6) (e : ∀ i, i < 4 → s (7 + r) i = s' (7 + r) i) : s 5 r = s' 5 r := by
  rcases Nat.lt_trichotomy (s 5 r) (s' 5 r) with q | q | q
  · have b := (h' r hr).1
    have a := ((h r hr).2 (s 5 r) (by omega)).2 (Nat.le_refl _)
    have c := (((h' r hr).2 (s 5 r) (by omega)).1 q).1
    rw [e _ (by omega)] at a
    omega
  · exact q
  · have b := (h r hr).1
    have a := ((h' r hr).2 (s' 5 r) (by omega)).2 (Nat.le_refl _)
    have c := (((h r hr).2 (s' 5 r) (by omega)).1 q).1
    rw [e _ (by omega)] at c
    omega
theorem E_lk {s s' : Sg} {k k' : Ro} (h : wB s k) (h' : wB s' k') (e : lkE s k s' k') : lk (s, k) (s', k') := by
  obtain ⟨e1, e2, e3, e4⟩ := e
  intro j hj
  dsimp only
  unfold flat
  by_cases q : j < 48
  · rw [if_pos q, if_pos q]
    congr 1
    unfold fc fk
    repeat' split
    · exact (e1 j (by omega)).1
    · exact (e1 _ (by omega)).2.1
    · exact (e1 _ (by omega)).2.2
    · exact (e2 _ (by omega)).1
    · exact (e2 _ (by omega)).2
    · exact wfL_5 h.1.1 h'.1.1 (by omega) (e3 _ (by omega))
    · exact e3 ((j - 21) / 4) (by omega) _ (by omega)
    · exact wfL_5 h.1.1 h'.1.1 (by omega) (e3 _ (by omega))
    · have q2 := e3 (3 + (j - 36) / 4) (by omega) ((j - 36) % 4) (by omega)
      first | exact q2 | (rw [show 7 + (3 + (j - 36) / 4) = 10 + (j - 36) / 4 by omega] at q2; exact q2)
  · rw [if_neg q, if_neg q, if_pos hj, if_pos hj]
    exact e4 _ (by omega)
theorem pkN_inj {r r' : Nat → Nat} (h : sm4 r) (h' : sm4 r') (e : pkN r = pkN r') : ∀ i, i < 4 → r i = r' i := pk_inj h h' (by rw [pk_N, pk_N, e])
theorem kn_inj {k k' : Ro} {c : Nat} (h : inCell (k c)) (h' : inCell (k' c)) (e : kn k c = kn k' c) : k c = k' c := by
  rw [← (kn_v h).2, ← (kn_v h').2, e]
theorem wd_m (s : Sg) (k : Ro) {m : Nat} (hm : m < 3) : wd s k (2 + m) = mw s m := by
  unfold wd
  rw [if_neg (by omega), if_neg (by omega), if_pos (by omega), show 2 + m - 2 = m by omega]
theorem wd_E {s s' : Sg} {k k' : Ro} (h : wB s k) (h' : wB s' k') (e : ∀ i, i < 6 → wd s k i = wd s' k' i) : lkE s k s' k' := by
  have T : ∀ t, t < 4 → tw s t = tw s' t := by
    have e0 : tw s 0 + tw s 1 * 2048 = tw s' 0 + tw s' 1 * 2048 := e 0 (by omega)
    have e1 : tw s 2 + tw s 3 * 2048 = tw s' 2 + tw s' 3 * 2048 := e 1 (by omega)
    intro t ht
    have a0 := tw_b h (t := 0) (by omega); have a1 := tw_b h (t := 1) (by omega); have a2 := tw_b h (t := 2) (by omega); have a3 := tw_b h (t := 3) (by omega)
    have b0 := tw_b h' (t := 0) (by omega); have b1 := tw_b h' (t := 1) (by omega); have b2 := tw_b h' (t := 2) (by omega); have b3 := tw_b h' (t := 3) (by omega)
    match t, ht with
    | 0, _ => omega
    | 1, _ => omega
    | 2, _ => omega
    | 3, _ => omega
  have Mm : ∀ m, m < 3 → mw s m = mw s' m := by
    intro m hm
    have e2 := e (2 + m) (by omega)
    rw [wd_m _ _ hm, wd_m _ _ hm] at e2
    exact e2
  have C : cw k = cw k' := e 5 (by omega)
  have Mp : ∀ m, m < 3 → s 3 m = s' 3 m ∧ s 4 m = s' 4 m ∧ pkN (s (7 + m)) = pkN (s' (7 + m)) ∧ pkN (s (7 + (3 + m))) = pkN (s' (7 + (3 + m))) := by
    intro m hm
    have q := Mm m hm
    have a := h.m hm
    have b := h'.m hm
    have a1 := pkN_b (h.r (r := m) (by omega))
    have a2 := pkN_b (h.r (r := 3 + m) (by omega))
    have b1 := pkN_b (h'.r (r := m) (by omega))
    have b2 := pkN_b (h'.r (r := 3 + m) (by omega))
    unfold mw at q
    omega
  refine ⟨fun t ht => ?_, fun m hm => ⟨(Mp m hm).1, (Mp m hm).2.1⟩, fun r hr i hi => ?_, fun c hc => ?_⟩
  · have q := T t ht
    have a := h.t ht
    have b := h'.t ht
    unfold tw at q
    omega
  · rcases Nat.lt_or_ge r 3 with q | q
    · exact pkN_inj (h.r hr) (h'.r hr) (Mp r q).2.2.1 i hi
    · obtain ⟨m, rfl⟩ : ∃ m, r = 3 + m := ⟨r - 3, by omega⟩
      exact pkN_inj (h.r hr) (h'.r hr) (Mp m (by omega)).2.2.2 i hi
  · have a0 := kn_b (h.2.2 0 (by omega)); have a1 := kn_b (h.2.2 1 (by omega)); have a2 := kn_b (h.2.2 2 (by omega)); have a3 := kn_b (h.2.2 3 (by omega))
    have b0 := kn_b (h'.2.2 0 (by omega)); have b1 := kn_b (h'.2.2 1 (by omega)); have b2 := kn_b (h'.2.2 2 (by omega)); have b3 := kn_b (h'.2.2 3 (by omega))
    unfold cw at C
    refine kn_inj (h.2.2 c hc) (h'.2.2 c hc) ?_
    match c, hc with
    | 0, _ => omega
    | 1, _ => omega
    | 2, _ => omega
    | 3, _ => omega
theorem E_wd {s s' : Sg} {k k' : Ro} (e : lkE s k s' k') : ∀ i, i < 6 → wd s k i = wd s' k' i := by
  obtain ⟨e1, e2, e3, e4⟩ := e
  have T : ∀ t, t < 4 → tw s t = tw s' t := fun t ht => by unfold tw; rw [(e1 t ht).1, (e1 t ht).2.1, (e1 t ht).2.2]
  have P : ∀ r, r < 6 → pkN (s (7 + r)) = pkN (s' (7 + r)) := fun r hr => by unfold pkN; rw [e3 r hr 0 (by omega), e3 r hr 1 (by omega), e3 r hr 2 (by omega), e3 r hr 3 (by omega)]
  intro i hi
  unfold wd
  rw [T 0 (by omega), T 1 (by omega), T 2 (by omega), T 3 (by omega)]
  split
  · rfl
  · split
    · rfl
    · split
      · unfold mw; rw [(e2 (i - 2) (by omega)).1, (e2 (i - 2) (by omega)).2, P (i - 2) (by omega), P (3 + (i - 2)) (by omega)]
      · unfold cw kn; rw [e4 0 (by omega), e4 1 (by omega), e4 2 (by omega), e4 3 (by omega)]
theorem lk_wd {s s' : Sg} {k k' : Ro} (h : wB s k) (h' : wB s' k') : (∀ i, i < 6 → nI (wd s k i) = nI (wd s' k' i)) ↔ lk (s, k) (s', k') :=
  ⟨fun e => E_lk h h' (wd_E h h' (fun i hi => nI_inj (wd_b h hi) (wd_b h' hi) (e i hi))), fun e i hi => by rw [E_wd (lk_E h h' e) i hi]⟩
