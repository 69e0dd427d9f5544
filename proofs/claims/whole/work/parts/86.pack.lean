/-! the class packs and unpacks -/
theorem D0 {f : Mem} {s : Sg} {k : Ro} (h : isD f 56 s k) {t : Nat} (ht : t < 4) : f 58 t = nI (s 0 t) := by rw [show (58 : Nat) = 56 + 2 from rfl, h.1]; simp [r4, ht]
theorem D1 {f : Mem} {s : Sg} {k : Ro} (h : isD f 56 s k) {t : Nat} (ht : t < 4) : f 59 t = nI (s 1 t) := by rw [show (59 : Nat) = 56 + 3 from rfl, h.2.1]; simp [r4, ht]
theorem D2 {f : Mem} {s : Sg} {k : Ro} (h : isD f 56 s k) {t : Nat} (ht : t < 4) : f 60 t = nI (s 2 t) := by rw [show (60 : Nat) = 56 + 4 from rfl, h.2.2.1]; simp [r4, ht]
theorem D3 {f : Mem} {s : Sg} {k : Ro} (h : isD f 56 s k) {m : Nat} (hm : m < 3) : f 64 m = nI (s 3 m) - 1 := by rw [show (64 : Nat) = 56 + 8 from rfl, h.2.2.2.1]; simp [rO, hm]
theorem D4 {f : Mem} {s : Sg} {k : Ro} (h : isD f 56 s k) {m : Nat} (hm : m < 3) : f 65 m = nI (s 4 m) := by rw [show (65 : Nat) = 56 + 9 from rfl, h.2.2.2.2.1]; simp [r3, hm]
theorem D5 {f : Mem} {s : Sg} {k : Ro} (h : isD f 56 s k) {m : Nat} (hm : m < 3) : f 66 m = pk (s (7 + m)) := by rw [show (66 : Nat) = 56 + 10 from rfl, h.2.2.2.2.2.1]; simp [rE, hm]
theorem D6 {f : Mem} {s : Sg} {k : Ro} (h : isD f 56 s k) {m : Nat} (hm : m < 3) : f 67 m = pk (s (7 + (3 + m))) := by rw [show (67 : Nat) = 56 + 11 from rfl, h.2.2.2.2.2.2.1]; simp [rW, hm]
theorem D7 {f : Mem} {s : Sg} {k : Ro} (h : isD f 56 s k) {c : Nat} (hc : c < 4) : f 68 c = k c := by rw [show (68 : Nat) = 56 + 12 from rfl, h.2.2.2.2.2.2.2]; simp [rK, hc]
theorem pt_v {s : Sg} {k : Ro} (hB : wB s k) {t : Nat} (ht : t < 4) : (nI (s 0 t) ||| (nI (s 1 t) <<< ((4 : Int32) &&& 31))) ||| (nI (s 2 t) <<< ((7 : Int32) &&& 31)) = nI (tw s t) := by
  have a := hB.t ht
  show (nI (s 0 t) ||| (nI (s 1 t) <<< (nI 4 &&& 31))) ||| (nI (s 2 t) <<< (nI 7 &&& 31)) = _
  rw [or_sh _ _ 4 (by decide) (by omega) (by omega), or_sh _ _ 7 (by decide) (by omega) (by omega)]
  rfl
theorem pw_v {x y : Nat} (hx : x < 2048) (hy : y < 2048) : nI x ||| (nI y <<< ((11 : Int32) &&& 31)) = nI (x + y * 2048) := by
  show nI x ||| (nI y <<< (nI 11 &&& 31)) = _
  rw [or_sh _ _ 11 (by decide) (by omega) (by omega)]
theorem pm_v {s : Sg} {k : Ro} (hB : wB s k) {m : Nat} (hm : m < 3) : ((nI (s 3 m) ||| (nI (s 4 m) <<< ((3 : Int32) &&& 31))) ||| (pk (s (7 + m)) <<< ((7 : Int32) &&& 31))) ||| (pk (s (7 + (3 + m))) <<< ((19 : Int32) &&& 31)) = nI (mw s m) := by
  have a := hB.m hm
  have h2 := pkN_b (hB.r (r := m) (by omega))
  have h3 := pkN_b (hB.r (r := 3 + m) (by omega))
  rw [pk_N, pk_N]
  show ((nI (s 3 m) ||| (nI (s 4 m) <<< (nI 3 &&& 31))) ||| (nI (pkN (s (7 + m))) <<< (nI 7 &&& 31))) ||| (nI (pkN (s (7 + (3 + m)))) <<< (nI 19 &&& 31)) = _
  rw [or_sh _ _ 3 (by decide) (by omega) (by omega), or_sh _ _ 7 (by decide) (by omega) (by omega), or_sh _ _ 19 (by decide) (by omega) (by omega)]
  rfl
theorem pc_v {x y n : Nat} (hn : n < 4) (hx : x < 2 ^ (8 * n)) (hy : y ≤ 198) : nI x ||| (nI y <<< (nI (8 * n) &&& 31)) = nI (x + y * 2 ^ (8 * n)) := by
  refine or_sh _ _ (8 * n) (by omega) hx ?_
  have hP : 2 ^ (8 * n) ≤ 2 ^ 24 := Nat.pow_le_pow_right (by decide) (by omega)
  have h1 : y * 2 ^ (8 * n) ≤ 198 * 2 ^ (8 * n) := Nat.mul_le_mul_right _ hy
  generalize 2 ^ (8 * n) = P at *
  omega
theorem Is_ac (x : Int32) : x - 1 + 1 = x := Int32.sub_add_cancel _ _
def pkM (f : Mem) (s : Sg) (k : Ro) : Mem := u2 (u2 (u2 (u2 (u2 (u2 f 79 0 (nI (wd s k 0))) 79 1 (nI (wd s k 1))) 79 2 (nI (wd s k 2))) 79 3 (nI (wd s k 3))) 79 4 (nI (wd s k 4))) 79 5 (nI (wd s k 5))
theorem pkM_o (f : Mem) (s : Sg) (k : Ro) {b : Nat} (h : b ≠ 79) : pkM f s k b = f b := by
  unfold pkM
  rw [u2_n _ _ _ h, u2_n _ _ _ h, u2_n _ _ _ h, u2_n _ _ _ h, u2_n _ _ _ h, u2_n _ _ _ h]
theorem pkM_w (f : Mem) (s : Sg) (k : Ro) : ∀ i, i < 6 → pkM f s k 79 i = nI (wd s k i)
  | 0, _ => by simp [pkM, u2, ur, upd]
  | 1, _ => by simp [pkM, u2, ur, upd]
  | 2, _ => by simp [pkM, u2, ur, upd]
  | 3, _ => by simp [pkM, u2, ur, upd]
  | 4, _ => by simp [pkM, u2, ur, upd]
  | 5, _ => by simp [pkM, u2, ur, upd]
def mix (w : Ro) : Nat → Int32
  | 0 => 0
  | n + 1 => ((mix w n ^^^ w n) * (-1640531535)) ^^^ (((mix w n ^^^ w n) * (-1640531535)).toUInt32 >>> ((15 : Int32).toUInt32 &&& Int32.toUInt32 31)).toInt32
def hs (w : Ro) : Nat := (mix w 6).toBitVec.toNat % 2048
theorem lo_v (x : Int32) : x &&& 2047 = nI (x.toBitVec.toNat % 2048) := by
  apply Int32.toBitVec_inj.mp
  apply BitVec.eq_of_toNat_eq
  simp only [nI, Int32.toBitVec_and, Int32.toBitVec_ofNat']
  rw [BitVec.toNat_and, BitVec.toNat_ofNat, show (Int32.toBitVec 2047).toNat = 2 ^ 11 - 1 from rfl, Nat.and_two_pow_sub_one_eq_mod, Nat.mod_eq_of_lt (show x.toBitVec.toNat % 2048 < 2 ^ 32 by have := Nat.mod_lt x.toBitVec.toNat (show 0 < 2048 by decide); omega)]
theorem hs_v (w : Ro) : mix w 6 &&& 2047 = nI (hs w) := lo_v _
theorem hs_lt (w : Ro) : hs w < 2048 := Nat.mod_lt _ (by decide)
theorem mix_c {w w' : Ro} : ∀ {n : Nat}, (∀ i, i < n → w i = w' i) → mix w n = mix w' n
  | 0, _ => rfl
  | n + 1, h => by unfold mix; rw [mix_c (n := n) (fun i hi => h i (by omega)), h n (by omega)]
theorem hs_c {w w' : Ro} (h : ∀ i, i < 6 → w i = w' i) : hs w = hs w' := by unfold hs; rw [mix_c h]
theorem x_pkTask (f : Mem) (s : Sg) (k : Ro) (hD : isD f 56 s k) (hB : wB s k) (t : Nat) (ht : t < 4) : C0 MX7_packedTask [.ref 56, .int (nI t)] f (rt (some (.int (nI (tw s t)))) f) := by
  refine Ct.of (lv := [(0, .ref 56), (1, .int (nI t))]) (by decide) (lb rfl) rfl ?_
  refine A_aload_n dX7_packedTask_0 rfl 0 rfl ?_
  refine A_getR (b := 58) dX7_packedTask_1 fo_RX7_75 L56 rfl ?_
  refine A_iload_n dX7_packedTask_4 rfl 1 rfl ?_
  refine A_iaload t dX7_packedTask_5 L58 (rfl) (by omega) (lb rfl) ?_
  refine A_topi (nI (s 0 t)) (D0 hD ht) ?_
  refine A_aload_n dX7_packedTask_6 rfl 0 rfl ?_
  refine A_getR (b := 59) dX7_packedTask_7 fo_RX7_78 L56 rfl ?_
  refine A_iload_n dX7_packedTask_10 rfl 1 rfl ?_
  refine A_iaload t dX7_packedTask_11 L59 (rfl) (by omega) (lb rfl) ?_
  refine A_topi (nI (s 1 t)) (D1 hD ht) ?_
  refine A_iconst (v := 4) dX7_packedTask_12 rfl ?_
  refine A_ishl dX7_packedTask_13 ?_
  refine A_ior dX7_packedTask_14 ?_
  refine A_aload_n dX7_packedTask_15 rfl 0 rfl ?_
  refine A_getR (b := 60) dX7_packedTask_16 fo_RX7_81 L56 rfl ?_
  refine A_iload_n dX7_packedTask_19 rfl 1 rfl ?_
  refine A_iaload t dX7_packedTask_20 L60 (rfl) (by omega) (lb rfl) ?_
  refine A_topi (nI (s 2 t)) (D2 hD ht) ?_
  refine A_bipush (v := 7) dX7_packedTask_21 rfl ?_
  refine A_ishl dX7_packedTask_23 ?_
  refine A_ior dX7_packedTask_24 ?_
  exact A_iret dX7_packedTask_25 rfl (rti (pt_v hB ht) rfl)
theorem x_pkCells (f : Mem) (s : Sg) (k : Ro) (hD : isD f 56 s k) (hK : wfK k) : C0 MX7_packedCells [.ref 68] f (rt (some (.int (nI (cw k)))) f) := by
  refine Ct.of (lv := [(0, .ref 68)]) (by decide) (lb rfl) rfl ?_
  refine A_iconst (v := 0) dX7_packedCells_0 rfl ?_
  refine A_istore_n (lv' := [(1, .int 0), (0, .ref 68)]) dX7_packedCells_1 rfl (lb rfl) rfl ?_
  refine A_iconst (v := 0) dX7_packedCells_2 rfl ?_
  refine A_istore_n (lv' := [(2, .int 0), (1, .int 0), (0, .ref 68)]) dX7_packedCells_3 rfl (lb rfl) rfl ?_
  refine A_iload_n dX7_packedCells_4 rfl 0 rfl ?_
  refine A_iconst (v := 4) dX7_packedCells_5 rfl ?_
  refine A_icmp_ge (tgt := 29) dX7_packedCells_6 rfl (fun h6 => by exact absurd h6 (by decide)) (fun h6 => ?_)
  refine A_iload_n dX7_packedCells_9 rfl 1 rfl ?_
  refine A_aload_n dX7_packedCells_10 rfl 2 rfl ?_
  refine A_iload_n dX7_packedCells_11 rfl 0 rfl ?_
  refine A_iaload 0 dX7_packedCells_12 L68 (rfl) (by decide) (lb rfl) ?_
  refine A_topi (k 0) (D7 hD (c := 0) (by decide)) ?_
  refine A_bipush (v := 99) dX7_packedCells_13 rfl ?_
  refine A_iadd dX7_packedCells_15 ?_
  refine A_topi (nI (kn k 0)) (kn_v (hK 0 (by decide))).1 ?_
  refine A_bipush (v := 8) dX7_packedCells_16 rfl ?_
  refine A_iload_n dX7_packedCells_18 rfl 0 rfl ?_
  refine A_imul dX7_packedCells_19 ?_
  refine A_topi (0) (by decide) ?_
  refine A_ishl dX7_packedCells_20 ?_
  refine A_ior dX7_packedCells_21 ?_
  refine A_topi (nI (kn k 0)) (by have b0 := kn_b (hK 0 (by decide)); have b1 := kn_b (hK 1 (by decide)); have b2 := kn_b (hK 2 (by decide)); have b3 := kn_b (hK 3 (by decide)); exact (pc_v (x := 0) (y := kn k 0) (n := 0) (by decide) (by rw [show (2 ^ (8 * 0) : Nat) = 1 from rfl]; omega) (by omega)).trans (by rw [show (2 ^ (8 * 0) : Nat) = 1 from rfl, show 0 + kn k 0 * 1 = kn k 0 by omega])) ?_
  refine A_istore_n (lv' := [(1, .int (nI (kn k 0))), (2, .int 0), (0, .ref 68)]) dX7_packedCells_22 rfl (lb rfl) rfl ?_
  refine A_iinc (lv' := [(2, .int 1), (1, .int (nI (kn k 0))), (0, .ref 68)]) dX7_packedCells_23 1 rfl rfl (lb rfl) rfl ?_
  refine A_goto (tgt := 4) dX7_packedCells_26 rfl ?_
  refine A_iload_n dX7_packedCells_4 rfl 0 rfl ?_
  refine A_iconst (v := 4) dX7_packedCells_5 rfl ?_
  refine A_icmp_ge (tgt := 29) dX7_packedCells_6 rfl (fun h6 => by exact absurd h6 (by decide)) (fun h6 => ?_)
  refine A_iload_n dX7_packedCells_9 rfl 1 rfl ?_
  refine A_aload_n dX7_packedCells_10 rfl 2 rfl ?_
  refine A_iload_n dX7_packedCells_11 rfl 0 rfl ?_
  refine A_iaload 1 dX7_packedCells_12 L68 (rfl) (by decide) (lb rfl) ?_
  refine A_topi (k 1) (D7 hD (c := 1) (by decide)) ?_
  refine A_bipush (v := 99) dX7_packedCells_13 rfl ?_
  refine A_iadd dX7_packedCells_15 ?_
  refine A_topi (nI (kn k 1)) (kn_v (hK 1 (by decide))).1 ?_
  refine A_bipush (v := 8) dX7_packedCells_16 rfl ?_
  refine A_iload_n dX7_packedCells_18 rfl 0 rfl ?_
  refine A_imul dX7_packedCells_19 ?_
  refine A_topi (8) (by decide) ?_
  refine A_ishl dX7_packedCells_20 ?_
  refine A_ior dX7_packedCells_21 ?_
  refine A_topi (nI (kn k 0 + kn k 1 * 256)) (by have b0 := kn_b (hK 0 (by decide)); have b1 := kn_b (hK 1 (by decide)); have b2 := kn_b (hK 2 (by decide)); have b3 := kn_b (hK 3 (by decide)); exact (pc_v (x := kn k 0) (y := kn k 1) (n := 1) (by decide) (by rw [show (2 ^ (8 * 1) : Nat) = 256 from rfl]; omega) (by omega)).trans (by rw [show (2 ^ (8 * 1) : Nat) = 256 from rfl, show kn k 0 + kn k 1 * 256 = kn k 0 + kn k 1 * 256 by omega])) ?_
  refine A_istore_n (lv' := [(1, .int (nI (kn k 0 + kn k 1 * 256))), (2, .int 1), (0, .ref 68)]) dX7_packedCells_22 rfl (lb rfl) rfl ?_
  refine A_iinc (lv' := [(2, .int 2), (1, .int (nI (kn k 0 + kn k 1 * 256))), (0, .ref 68)]) dX7_packedCells_23 1 rfl rfl (lb rfl) rfl ?_
  refine A_goto (tgt := 4) dX7_packedCells_26 rfl ?_
  refine A_iload_n dX7_packedCells_4 rfl 0 rfl ?_
  refine A_iconst (v := 4) dX7_packedCells_5 rfl ?_
  refine A_icmp_ge (tgt := 29) dX7_packedCells_6 rfl (fun h6 => by exact absurd h6 (by decide)) (fun h6 => ?_)
  refine A_iload_n dX7_packedCells_9 rfl 1 rfl ?_
  refine A_aload_n dX7_packedCells_10 rfl 2 rfl ?_
  refine A_iload_n dX7_packedCells_11 rfl 0 rfl ?_
  refine A_iaload 2 dX7_packedCells_12 L68 (rfl) (by decide) (lb rfl) ?_
  refine A_topi (k 2) (D7 hD (c := 2) (by decide)) ?_
  refine A_bipush (v := 99) dX7_packedCells_13 rfl ?_
  refine A_iadd dX7_packedCells_15 ?_
  refine A_topi (nI (kn k 2)) (kn_v (hK 2 (by decide))).1 ?_
  refine A_bipush (v := 8) dX7_packedCells_16 rfl ?_
  refine A_iload_n dX7_packedCells_18 rfl 0 rfl ?_
  refine A_imul dX7_packedCells_19 ?_
  refine A_topi (16) (by decide) ?_
  refine A_ishl dX7_packedCells_20 ?_
  refine A_ior dX7_packedCells_21 ?_
  refine A_topi (nI (kn k 0 + kn k 1 * 256 + kn k 2 * 65536)) (by have b0 := kn_b (hK 0 (by decide)); have b1 := kn_b (hK 1 (by decide)); have b2 := kn_b (hK 2 (by decide)); have b3 := kn_b (hK 3 (by decide)); exact (pc_v (x := kn k 0 + kn k 1 * 256) (y := kn k 2) (n := 2) (by decide) (by rw [show (2 ^ (8 * 2) : Nat) = 65536 from rfl]; omega) (by omega)).trans (by rw [show (2 ^ (8 * 2) : Nat) = 65536 from rfl, show kn k 0 + kn k 1 * 256 + kn k 2 * 65536 = kn k 0 + kn k 1 * 256 + kn k 2 * 65536 by omega])) ?_
  refine A_istore_n (lv' := [(1, .int (nI (kn k 0 + kn k 1 * 256 + kn k 2 * 65536))), (2, .int 2), (0, .ref 68)]) dX7_packedCells_22 rfl (lb rfl) rfl ?_
  refine A_iinc (lv' := [(2, .int 3), (1, .int (nI (kn k 0 + kn k 1 * 256 + kn k 2 * 65536))), (0, .ref 68)]) dX7_packedCells_23 1 rfl rfl (lb rfl) rfl ?_
  refine A_goto (tgt := 4) dX7_packedCells_26 rfl ?_
  refine A_iload_n dX7_packedCells_4 rfl 0 rfl ?_
  refine A_iconst (v := 4) dX7_packedCells_5 rfl ?_
  refine A_icmp_ge (tgt := 29) dX7_packedCells_6 rfl (fun h6 => by exact absurd h6 (by decide)) (fun h6 => ?_)
  refine A_iload_n dX7_packedCells_9 rfl 1 rfl ?_
  refine A_aload_n dX7_packedCells_10 rfl 2 rfl ?_
  refine A_iload_n dX7_packedCells_11 rfl 0 rfl ?_
  refine A_iaload 3 dX7_packedCells_12 L68 (rfl) (by decide) (lb rfl) ?_
  refine A_topi (k 3) (D7 hD (c := 3) (by decide)) ?_
  refine A_bipush (v := 99) dX7_packedCells_13 rfl ?_
  refine A_iadd dX7_packedCells_15 ?_
  refine A_topi (nI (kn k 3)) (kn_v (hK 3 (by decide))).1 ?_
  refine A_bipush (v := 8) dX7_packedCells_16 rfl ?_
  refine A_iload_n dX7_packedCells_18 rfl 0 rfl ?_
  refine A_imul dX7_packedCells_19 ?_
  refine A_topi (24) (by decide) ?_
  refine A_ishl dX7_packedCells_20 ?_
  refine A_ior dX7_packedCells_21 ?_
  refine A_topi (nI (kn k 0 + kn k 1 * 256 + kn k 2 * 65536 + kn k 3 * 16777216)) (by have b0 := kn_b (hK 0 (by decide)); have b1 := kn_b (hK 1 (by decide)); have b2 := kn_b (hK 2 (by decide)); have b3 := kn_b (hK 3 (by decide)); exact (pc_v (x := kn k 0 + kn k 1 * 256 + kn k 2 * 65536) (y := kn k 3) (n := 3) (by decide) (by rw [show (2 ^ (8 * 3) : Nat) = 16777216 from rfl]; omega) (by omega)).trans (by rw [show (2 ^ (8 * 3) : Nat) = 16777216 from rfl, show kn k 0 + kn k 1 * 256 + kn k 2 * 65536 + kn k 3 * 16777216 = kn k 0 + kn k 1 * 256 + kn k 2 * 65536 + kn k 3 * 16777216 by omega])) ?_
  refine A_istore_n (lv' := [(1, .int (nI (kn k 0 + kn k 1 * 256 + kn k 2 * 65536 + kn k 3 * 16777216))), (2, .int 3), (0, .ref 68)]) dX7_packedCells_22 rfl (lb rfl) rfl ?_
  refine A_iinc (lv' := [(2, .int 4), (1, .int (nI (kn k 0 + kn k 1 * 256 + kn k 2 * 65536 + kn k 3 * 16777216))), (0, .ref 68)]) dX7_packedCells_23 1 rfl rfl (lb rfl) rfl ?_
  refine A_goto (tgt := 4) dX7_packedCells_26 rfl ?_
  refine A_iload_n dX7_packedCells_4 rfl 0 rfl ?_
  refine A_iconst (v := 4) dX7_packedCells_5 rfl ?_
  refine A_icmp_ge (tgt := 29) dX7_packedCells_6 rfl (fun h6 => ?_) (fun h6 => by exact absurd (by decide) h6)
  refine A_iload_n dX7_packedCells_29 rfl 1 rfl ?_
  exact A_iret dX7_packedCells_30 rfl (⟨rfl, rfl⟩)
theorem x_pack (f : Mem) (s : Sg) (k : Ro) (hD : isD f 56 s k) (hB : wB s k) : C0 MX7_pack [.ref 77, .ref 56] f (rt none (pkM f s k)) := by
  refine Ct.of (lv := [(0, .ref 77), (1, .ref 56)]) (by decide) (lb rfl) rfl ?_
  refine A_aload_n dX7_pack_0 rfl 0 rfl ?_
  refine A_getR (b := 79) dX7_pack_1 fo_RX7_19 L77 rfl ?_
  refine A_iconst (v := 0) dX7_pack_4 rfl ?_
  refine A_aload_n dX7_pack_5 rfl 1 rfl ?_
  refine A_iconst (v := 0) dX7_pack_6 rfl ?_
  refine A_callS (M' := MX7_packedTask) [.ref 56, .int 0] [.int 0, .ref 79] dX7_pack_7 lk_RX7_50 oX7_packedTask sX7_packedTask rfl rfl ⟨lb rfl, lb rfl⟩ (lb rfl) ⟨lb rfl, lb rfl⟩ (x_pkTask _ s k hD hB 0 (by decide)) ?_
  rintro _ g0 ⟨rfl, hg0⟩
  rw [hg0]
  refine A_aload_n dX7_pack_10 rfl 1 rfl ?_
  refine A_iconst (v := 1) dX7_pack_11 rfl ?_
  refine A_callS (M' := MX7_packedTask) [.ref 56, .int 1] [.int (nI (tw s 0)), .int 0, .ref 79] dX7_pack_12 lk_RX7_50 oX7_packedTask sX7_packedTask rfl rfl ⟨lb rfl, lb rfl⟩ (lb rfl) ⟨lb rfl, lb rfl⟩ (x_pkTask _ s k hD hB 1 (by decide)) ?_
  rintro _ g0 ⟨rfl, hg0⟩
  rw [hg0]
  refine A_bipush (v := 11) dX7_pack_15 rfl ?_
  refine A_ishl dX7_pack_17 ?_
  refine A_ior dX7_pack_18 ?_
  refine A_topi (nI (tw s 0 + tw s 1 * 2048)) (pw_v (tw_b hB (by decide)) (tw_b hB (by decide))) ?_
  refine A_iastore 0 dX7_pack_19 L79 (rfl) (by decide) (lb rfl) ?_
  refine A_aload_n dX7_pack_20 rfl 0 rfl ?_
  refine A_getR (b := 79) dX7_pack_21 fo_RX7_19 L77 rfl ?_
  refine A_iconst (v := 1) dX7_pack_24 rfl ?_
  refine A_aload_n dX7_pack_25 rfl 1 rfl ?_
  refine A_iconst (v := 2) dX7_pack_26 rfl ?_
  refine A_callS (M' := MX7_packedTask) [.ref 56, .int 2] [.int 1, .ref 79] dX7_pack_27 lk_RX7_50 oX7_packedTask sX7_packedTask rfl rfl ⟨lb rfl, lb rfl⟩ (lb rfl) ⟨lb rfl, lb rfl⟩ (x_pkTask _ s k (hD.congr (fun a a1 a2 => by simp only [u2_n _ _ _ (show a ≠ 79 by omega)])) hB 2 (by decide)) ?_
  rintro _ g0 ⟨rfl, hg0⟩
  rw [hg0]
  refine A_aload_n dX7_pack_30 rfl 1 rfl ?_
  refine A_iconst (v := 3) dX7_pack_31 rfl ?_
  refine A_callS (M' := MX7_packedTask) [.ref 56, .int 3] [.int (nI (tw s 2)), .int 1, .ref 79] dX7_pack_32 lk_RX7_50 oX7_packedTask sX7_packedTask rfl rfl ⟨lb rfl, lb rfl⟩ (lb rfl) ⟨lb rfl, lb rfl⟩ (x_pkTask _ s k (hD.congr (fun a a1 a2 => by simp only [u2_n _ _ _ (show a ≠ 79 by omega)])) hB 3 (by decide)) ?_
  rintro _ g0 ⟨rfl, hg0⟩
  rw [hg0]
  refine A_bipush (v := 11) dX7_pack_35 rfl ?_
  refine A_ishl dX7_pack_37 ?_
  refine A_ior dX7_pack_38 ?_
  refine A_topi (nI (tw s 2 + tw s 3 * 2048)) (pw_v (tw_b hB (by decide)) (tw_b hB (by decide))) ?_
  refine A_iastore 1 dX7_pack_39 L79 (rfl) (by decide) (lb rfl) ?_
  refine A_iconst (v := 0) dX7_pack_40 rfl ?_
  refine A_istore_n (lv' := [(2, .int 0), (0, .ref 77), (1, .ref 56)]) dX7_pack_41 rfl (lb rfl) rfl ?_
  refine A_iload_n dX7_pack_42 rfl 0 rfl ?_
  refine A_iconst (v := 3) dX7_pack_43 rfl ?_
  refine A_icmp_ge (tgt := 98) dX7_pack_44 rfl (fun h44 => by exact absurd h44 (by decide)) (fun h44 => ?_)
  refine A_aload_n dX7_pack_47 rfl 1 rfl ?_
  refine A_getR (b := 79) dX7_pack_48 fo_RX7_19 L77 rfl ?_
  refine A_iconst (v := 2) dX7_pack_51 rfl ?_
  refine A_iload_n dX7_pack_52 rfl 0 rfl ?_
  refine A_iadd dX7_pack_53 ?_
  refine A_topi (2) (by decide) ?_
  refine A_aload_n dX7_pack_54 rfl 2 rfl ?_
  refine A_getR (b := 64) dX7_pack_55 fo_RX7_54 L56 rfl ?_
  refine A_iload_n dX7_pack_58 rfl 0 rfl ?_
  refine A_iaload 0 dX7_pack_59 L64 (rfl) (by decide) (lb rfl) ?_
  refine A_topi (f 64 0) (by simp [u2, ur, upd]) ?_
  refine A_topi (nI (s 3 0) - 1) (D3 hD (by decide)) ?_
  refine A_iconst (v := 1) dX7_pack_60 rfl ?_
  refine A_iadd dX7_pack_61 ?_
  refine A_topi (nI (s 3 0)) (Is_ac _) ?_
  refine A_aload_n dX7_pack_62 rfl 2 rfl ?_
  refine A_getR (b := 65) dX7_pack_63 fo_RX7_59 L56 rfl ?_
  refine A_iload_n dX7_pack_66 rfl 0 rfl ?_
  refine A_iaload 0 dX7_pack_67 L65 (rfl) (by decide) (lb rfl) ?_
  refine A_topi (f 65 0) (by simp [u2, ur, upd]) ?_
  refine A_topi (nI (s 4 0)) (D4 hD (by decide)) ?_
  refine A_iconst (v := 3) dX7_pack_68 rfl ?_
  refine A_ishl dX7_pack_69 ?_
  refine A_ior dX7_pack_70 ?_
  refine A_aload_n dX7_pack_71 rfl 2 rfl ?_
  refine A_getR (b := 66) dX7_pack_72 fo_RX7_62 L56 rfl ?_
  refine A_iload_n dX7_pack_75 rfl 0 rfl ?_
  refine A_iaload 0 dX7_pack_76 L66 (rfl) (by decide) (lb rfl) ?_
  refine A_topi (f 66 0) (by simp [u2, ur, upd]) ?_
  refine A_topi (pk (s (7 + 0))) (D5 hD (by decide)) ?_
  refine A_bipush (v := 7) dX7_pack_77 rfl ?_
  refine A_ishl dX7_pack_79 ?_
  refine A_ior dX7_pack_80 ?_
  refine A_aload_n dX7_pack_81 rfl 2 rfl ?_
  refine A_getR (b := 67) dX7_pack_82 fo_RX7_65 L56 rfl ?_
  refine A_iload_n dX7_pack_85 rfl 0 rfl ?_
  refine A_iaload 0 dX7_pack_86 L67 (rfl) (by decide) (lb rfl) ?_
  refine A_topi (f 67 0) (by simp [u2, ur, upd]) ?_
  refine A_topi (pk (s (7 + (3 + 0)))) (D6 hD (by decide)) ?_
  refine A_bipush (v := 19) dX7_pack_87 rfl ?_
  refine A_ishl dX7_pack_89 ?_
  refine A_ior dX7_pack_90 ?_
  refine A_topi (nI (mw s 0)) (pm_v hB (m := 0) (by decide)) ?_
  refine A_iastore 2 dX7_pack_91 L79 (rfl) (by decide) (lb rfl) ?_
  refine A_iinc (lv' := [(2, .int 1), (0, .ref 77), (1, .ref 56)]) dX7_pack_92 0 rfl rfl (lb rfl) rfl ?_
  refine A_goto (tgt := 42) dX7_pack_95 rfl ?_
  refine A_iload_n dX7_pack_42 rfl 0 rfl ?_
  refine A_iconst (v := 3) dX7_pack_43 rfl ?_
  refine A_icmp_ge (tgt := 98) dX7_pack_44 rfl (fun h44 => by exact absurd h44 (by decide)) (fun h44 => ?_)
  refine A_aload_n dX7_pack_47 rfl 1 rfl ?_
  refine A_getR (b := 79) dX7_pack_48 fo_RX7_19 L77 rfl ?_
  refine A_iconst (v := 2) dX7_pack_51 rfl ?_
  refine A_iload_n dX7_pack_52 rfl 0 rfl ?_
  refine A_iadd dX7_pack_53 ?_
  refine A_topi (3) (by decide) ?_
  refine A_aload_n dX7_pack_54 rfl 2 rfl ?_
  refine A_getR (b := 64) dX7_pack_55 fo_RX7_54 L56 rfl ?_
  refine A_iload_n dX7_pack_58 rfl 0 rfl ?_
  refine A_iaload 1 dX7_pack_59 L64 (rfl) (by decide) (lb rfl) ?_
  refine A_topi (f 64 1) (by simp [u2, ur, upd]) ?_
  refine A_topi (nI (s 3 1) - 1) (D3 hD (by decide)) ?_
  refine A_iconst (v := 1) dX7_pack_60 rfl ?_
  refine A_iadd dX7_pack_61 ?_
  refine A_topi (nI (s 3 1)) (Is_ac _) ?_
  refine A_aload_n dX7_pack_62 rfl 2 rfl ?_
  refine A_getR (b := 65) dX7_pack_63 fo_RX7_59 L56 rfl ?_
  refine A_iload_n dX7_pack_66 rfl 0 rfl ?_
  refine A_iaload 1 dX7_pack_67 L65 (rfl) (by decide) (lb rfl) ?_
  refine A_topi (f 65 1) (by simp [u2, ur, upd]) ?_
  refine A_topi (nI (s 4 1)) (D4 hD (by decide)) ?_
  refine A_iconst (v := 3) dX7_pack_68 rfl ?_
  refine A_ishl dX7_pack_69 ?_
  refine A_ior dX7_pack_70 ?_
  refine A_aload_n dX7_pack_71 rfl 2 rfl ?_
  refine A_getR (b := 66) dX7_pack_72 fo_RX7_62 L56 rfl ?_
  refine A_iload_n dX7_pack_75 rfl 0 rfl ?_
  refine A_iaload 1 dX7_pack_76 L66 (rfl) (by decide) (lb rfl) ?_
  refine A_topi (f 66 1) (by simp [u2, ur, upd]) ?_
  refine A_topi (pk (s (7 + 1))) (D5 hD (by decide)) ?_
  refine A_bipush (v := 7) dX7_pack_77 rfl ?_
  refine A_ishl dX7_pack_79 ?_
  refine A_ior dX7_pack_80 ?_
  refine A_aload_n dX7_pack_81 rfl 2 rfl ?_
  refine A_getR (b := 67) dX7_pack_82 fo_RX7_65 L56 rfl ?_
  refine A_iload_n dX7_pack_85 rfl 0 rfl ?_
  refine A_iaload 1 dX7_pack_86 L67 (rfl) (by decide) (lb rfl) ?_
  refine A_topi (f 67 1) (by simp [u2, ur, upd]) ?_
  refine A_topi (pk (s (7 + (3 + 1)))) (D6 hD (by decide)) ?_
  refine A_bipush (v := 19) dX7_pack_87 rfl ?_
  refine A_ishl dX7_pack_89 ?_
  refine A_ior dX7_pack_90 ?_
  refine A_topi (nI (mw s 1)) (pm_v hB (m := 1) (by decide)) ?_
  refine A_iastore 3 dX7_pack_91 L79 (rfl) (by decide) (lb rfl) ?_
  refine A_iinc (lv' := [(2, .int 2), (0, .ref 77), (1, .ref 56)]) dX7_pack_92 0 rfl rfl (lb rfl) rfl ?_
  refine A_goto (tgt := 42) dX7_pack_95 rfl ?_
  refine A_iload_n dX7_pack_42 rfl 0 rfl ?_
  refine A_iconst (v := 3) dX7_pack_43 rfl ?_
  refine A_icmp_ge (tgt := 98) dX7_pack_44 rfl (fun h44 => by exact absurd h44 (by decide)) (fun h44 => ?_)
  refine A_aload_n dX7_pack_47 rfl 1 rfl ?_
  refine A_getR (b := 79) dX7_pack_48 fo_RX7_19 L77 rfl ?_
  refine A_iconst (v := 2) dX7_pack_51 rfl ?_
  refine A_iload_n dX7_pack_52 rfl 0 rfl ?_
  refine A_iadd dX7_pack_53 ?_
  refine A_topi (4) (by decide) ?_
  refine A_aload_n dX7_pack_54 rfl 2 rfl ?_
  refine A_getR (b := 64) dX7_pack_55 fo_RX7_54 L56 rfl ?_
  refine A_iload_n dX7_pack_58 rfl 0 rfl ?_
  refine A_iaload 2 dX7_pack_59 L64 (rfl) (by decide) (lb rfl) ?_
  refine A_topi (f 64 2) (by simp [u2, ur, upd]) ?_
  refine A_topi (nI (s 3 2) - 1) (D3 hD (by decide)) ?_
  refine A_iconst (v := 1) dX7_pack_60 rfl ?_
  refine A_iadd dX7_pack_61 ?_
  refine A_topi (nI (s 3 2)) (Is_ac _) ?_
  refine A_aload_n dX7_pack_62 rfl 2 rfl ?_
  refine A_getR (b := 65) dX7_pack_63 fo_RX7_59 L56 rfl ?_
  refine A_iload_n dX7_pack_66 rfl 0 rfl ?_
  refine A_iaload 2 dX7_pack_67 L65 (rfl) (by decide) (lb rfl) ?_
  refine A_topi (f 65 2) (by simp [u2, ur, upd]) ?_
  refine A_topi (nI (s 4 2)) (D4 hD (by decide)) ?_
  refine A_iconst (v := 3) dX7_pack_68 rfl ?_
  refine A_ishl dX7_pack_69 ?_
  refine A_ior dX7_pack_70 ?_
  refine A_aload_n dX7_pack_71 rfl 2 rfl ?_
  refine A_getR (b := 66) dX7_pack_72 fo_RX7_62 L56 rfl ?_
  refine A_iload_n dX7_pack_75 rfl 0 rfl ?_
  refine A_iaload 2 dX7_pack_76 L66 (rfl) (by decide) (lb rfl) ?_
  refine A_topi (f 66 2) (by simp [u2, ur, upd]) ?_
  refine A_topi (pk (s (7 + 2))) (D5 hD (by decide)) ?_
  refine A_bipush (v := 7) dX7_pack_77 rfl ?_
  refine A_ishl dX7_pack_79 ?_
  refine A_ior dX7_pack_80 ?_
  refine A_aload_n dX7_pack_81 rfl 2 rfl ?_
  refine A_getR (b := 67) dX7_pack_82 fo_RX7_65 L56 rfl ?_
  refine A_iload_n dX7_pack_85 rfl 0 rfl ?_
  refine A_iaload 2 dX7_pack_86 L67 (rfl) (by decide) (lb rfl) ?_
  refine A_topi (f 67 2) (by simp [u2, ur, upd]) ?_
  refine A_topi (pk (s (7 + (3 + 2)))) (D6 hD (by decide)) ?_
  refine A_bipush (v := 19) dX7_pack_87 rfl ?_
  refine A_ishl dX7_pack_89 ?_
  refine A_ior dX7_pack_90 ?_
  refine A_topi (nI (mw s 2)) (pm_v hB (m := 2) (by decide)) ?_
  refine A_iastore 4 dX7_pack_91 L79 (rfl) (by decide) (lb rfl) ?_
  refine A_iinc (lv' := [(2, .int 3), (0, .ref 77), (1, .ref 56)]) dX7_pack_92 0 rfl rfl (lb rfl) rfl ?_
  refine A_goto (tgt := 42) dX7_pack_95 rfl ?_
  refine A_iload_n dX7_pack_42 rfl 0 rfl ?_
  refine A_iconst (v := 3) dX7_pack_43 rfl ?_
  refine A_icmp_ge (tgt := 98) dX7_pack_44 rfl (fun h44 => ?_) (fun h44 => by exact absurd (by decide) h44)
  refine A_aload_n dX7_pack_98 rfl 1 rfl ?_
  refine A_getR (b := 79) dX7_pack_99 fo_RX7_19 L77 rfl ?_
  refine A_iconst (v := 5) dX7_pack_102 rfl ?_
  refine A_aload_n dX7_pack_103 rfl 2 rfl ?_
  refine A_getR (b := 68) dX7_pack_104 fo_RX7_68 L56 rfl ?_
  refine A_callS (M' := MX7_packedCells) [.ref 68] [.int 5, .ref 79] dX7_pack_107 lk_RX7_71 oX7_packedCells sX7_packedCells rfl rfl ⟨lb rfl, lb rfl⟩ (lb rfl) ⟨lb rfl, lb rfl⟩ (x_pkCells _ s k (hD.congr (fun a a1 a2 => by simp only [u2_n _ _ _ (show a ≠ 79 by omega)])) hB.2.2) ?_
  rintro _ g0 ⟨rfl, hg0⟩
  rw [hg0]
  refine A_iastore 5 dX7_pack_110 L79 (rfl) (by decide) (lb rfl) ?_
  exact A_vret dX7_pack_111 rfl (⟨rfl, rfl⟩)
theorem lx_firstSlot (f : Mem) : ∀ i, i ≤ 6 → A (cM MX7_firstSlot 0 0 layT layT (rt (some (.int (nI (hs (f 79))))) f)) 4 [(2, .int (nI i)), (1, .int (mix (f 79) i)), (0, .ref 77)] [] f := by
  refine up_ind 6 (fun i hi ih => ?_)
  refine A_iload_n dX7_firstSlot_4 rfl 0 rfl ?_
  refine A_bipush (v := 6) dX7_firstSlot_5 rfl ?_
  refine A_icmp_ge (tgt := 35) dX7_firstSlot_7 rfl (fun h7 => ?_) (fun h7 => ?_)
  · rw [show (6 : Int32) = nI 6 from rfl, nI_leI (by omega) (by omega)] at h7
    have ei : i = 6 := by omega
    subst ei
    refine A_iload_n dX7_firstSlot_35 rfl 1 rfl ?_
    refine A_sipush (v := 2047) dX7_firstSlot_36 rfl ?_
    refine A_iand dX7_firstSlot_39 ?_
    exact A_iret dX7_firstSlot_40 rfl (rti (hs_v _) rfl)
  · rw [show (6 : Int32) = nI 6 from rfl, nI_leI (by omega) (by omega)] at h7
    refine A_iload_n dX7_firstSlot_10 rfl 1 rfl ?_
    refine A_aload_n dX7_firstSlot_11 rfl 2 rfl ?_
    refine A_getR (b := 79) dX7_firstSlot_12 fo_RX7_19 L77 rfl ?_
    refine A_iload_n dX7_firstSlot_15 rfl 0 rfl ?_
    refine A_iaload i dX7_firstSlot_16 L79 (rfl) (by omega) (lb rfl) ?_
    refine A_ixor dX7_firstSlot_17 ?_
    refine A_ldc dX7_firstSlot_18 k_RX7_49 ?_
    refine A_imul dX7_firstSlot_20 ?_
    refine A_istore_n (lv' := [(1, .int (((mix (f 79) i) ^^^ (f 79 i)) * (-1640531535))), (2, .int (nI i)), (0, .ref 77)]) dX7_firstSlot_21 rfl (lb rfl) rfl ?_
    refine A_iload_n dX7_firstSlot_22 rfl 0 rfl ?_
    refine A_iload_n dX7_firstSlot_23 rfl 0 rfl ?_
    refine A_bipush (v := 15) dX7_firstSlot_24 rfl ?_
    refine A_iushr dX7_firstSlot_26 ?_
    refine A_ixor dX7_firstSlot_27 ?_
    refine A_istore_n (lv' := [(1, .int ((((mix (f 79) i) ^^^ (f 79 i)) * (-1640531535)) ^^^ (((((mix (f 79) i) ^^^ (f 79 i)) * (-1640531535)).toUInt32 >>> ((15 : Int32).toUInt32 &&& Int32.toUInt32 31)).toInt32))), (2, .int (nI i)), (0, .ref 77)]) dX7_firstSlot_28 rfl (lb rfl) rfl ?_
    refine A_iinc (lv' := [(2, .int (nI (i + 1))), (1, .int ((((mix (f 79) i) ^^^ (f 79 i)) * (-1640531535)) ^^^ (((((mix (f 79) i) ^^^ (f 79 i)) * (-1640531535)).toUInt32 >>> ((15 : Int32).toUInt32 &&& Int32.toUInt32 31)).toInt32))), (0, .ref 77)]) dX7_firstSlot_29 1 rfl (nI_add i 1) (lb rfl) rfl ?_
    refine A_goto (tgt := 4) dX7_firstSlot_32 rfl ?_
    refine A_sub [0, 1, 2] rfl ?_
    exact ih (i + 1) (by omega) (by omega)
theorem x_firstSlot (f : Mem) : C0 MX7_firstSlot [.ref 77] f (rt (some (.int (nI (hs (f 79))))) f) := by
  refine Ct.of (lv := [(0, .ref 77)]) (by decide) (lb rfl) rfl ?_
  refine A_iconst (v := 0) dX7_firstSlot_0 rfl ?_
  refine A_istore_n (lv' := [(1, .int 0), (0, .ref 77)]) dX7_firstSlot_1 rfl (lb rfl) rfl ?_
  refine A_iconst (v := 0) dX7_firstSlot_2 rfl ?_
  refine A_istore_n (lv' := [(2, .int 0), (1, .int 0), (0, .ref 77)]) dX7_firstSlot_3 rfl (lb rfl) rfl ?_
  exact lx_firstSlot f 0 (by omega)
theorem x_isDraft (f : Mem) (j : Nat) (hj : j < 600) : C0 MX7_isDraft [.ref 77, .int (nI j)] f (rt (some (.int (bz (f 78 (j * 6 + 0) = f 79 0 ∧ f 78 (j * 6 + 1) = f 79 1 ∧ f 78 (j * 6 + 2) = f 79 2 ∧ f 78 (j * 6 + 3) = f 79 3 ∧ f 78 (j * 6 + 4) = f 79 4 ∧ f 78 (j * 6 + 5) = f 79 5)))) f) := by
  refine Ct.of (lv := [(0, .ref 77), (1, .int (nI j))]) (by decide) (lb rfl) rfl ?_
  refine A_iconst (v := 0) dX7_isDraft_0 rfl ?_
  refine A_istore_n (lv' := [(2, .int 0), (0, .ref 77), (1, .int (nI j))]) dX7_isDraft_1 rfl (lb rfl) rfl ?_
  refine A_iload_n dX7_isDraft_2 rfl 0 rfl ?_
  refine A_bipush (v := 6) dX7_isDraft_3 rfl ?_
  refine A_icmp_ge (tgt := 36) dX7_isDraft_5 rfl (fun h5 => by exact absurd h5 (by decide)) (fun h5 => ?_)
  refine A_aload_n dX7_isDraft_8 rfl 1 rfl ?_
  refine A_getR (b := 78) dX7_isDraft_9 fo_RX7_15 L77 rfl ?_
  refine A_iload_n dX7_isDraft_12 rfl 2 rfl ?_
  refine A_bipush (v := 6) dX7_isDraft_13 rfl ?_
  refine A_imul dX7_isDraft_15 ?_
  refine A_iload_n dX7_isDraft_16 rfl 0 rfl ?_
  refine A_iadd dX7_isDraft_17 ?_
  refine A_iaload (j * 6 + 0) dX7_isDraft_18 L78 (by simp only [lit, nI_add, pk_mul]) (by omega) (lb rfl) ?_
  refine A_aload_n dX7_isDraft_19 rfl 1 rfl ?_
  refine A_getR (b := 79) dX7_isDraft_20 fo_RX7_19 L77 rfl ?_
  refine A_iload_n dX7_isDraft_23 rfl 0 rfl ?_
  refine A_iaload 0 dX7_isDraft_24 L79 (rfl) (by decide) (lb rfl) ?_
  refine A_icmp_eq (tgt := 30) dX7_isDraft_25 rfl (fun h25 => ?_) (fun h25 => ?_)
  · have e0 := h25
    refine A_iinc (lv' := [(2, .int 1), (0, .ref 77), (1, .int (nI j))]) dX7_isDraft_30 0 rfl rfl (lb rfl) rfl ?_
    refine A_goto (tgt := 2) dX7_isDraft_33 rfl ?_
    refine A_iload_n dX7_isDraft_2 rfl 0 rfl ?_
    refine A_bipush (v := 6) dX7_isDraft_3 rfl ?_
    refine A_icmp_ge (tgt := 36) dX7_isDraft_5 rfl (fun h5 => by exact absurd h5 (by decide)) (fun h5 => ?_)
    refine A_aload_n dX7_isDraft_8 rfl 1 rfl ?_
    refine A_getR (b := 78) dX7_isDraft_9 fo_RX7_15 L77 rfl ?_
    refine A_iload_n dX7_isDraft_12 rfl 2 rfl ?_
    refine A_bipush (v := 6) dX7_isDraft_13 rfl ?_
    refine A_imul dX7_isDraft_15 ?_
    refine A_iload_n dX7_isDraft_16 rfl 0 rfl ?_
    refine A_iadd dX7_isDraft_17 ?_
    refine A_iaload (j * 6 + 1) dX7_isDraft_18 L78 (by simp only [lit, nI_add, pk_mul]) (by omega) (lb rfl) ?_
    refine A_aload_n dX7_isDraft_19 rfl 1 rfl ?_
    refine A_getR (b := 79) dX7_isDraft_20 fo_RX7_19 L77 rfl ?_
    refine A_iload_n dX7_isDraft_23 rfl 0 rfl ?_
    refine A_iaload 1 dX7_isDraft_24 L79 (rfl) (by decide) (lb rfl) ?_
    refine A_icmp_eq (tgt := 30) dX7_isDraft_25 rfl (fun h25 => ?_) (fun h25 => ?_)
    · have e1 := h25
      refine A_iinc (lv' := [(2, .int 2), (0, .ref 77), (1, .int (nI j))]) dX7_isDraft_30 0 rfl rfl (lb rfl) rfl ?_
      refine A_goto (tgt := 2) dX7_isDraft_33 rfl ?_
      refine A_iload_n dX7_isDraft_2 rfl 0 rfl ?_
      refine A_bipush (v := 6) dX7_isDraft_3 rfl ?_
      refine A_icmp_ge (tgt := 36) dX7_isDraft_5 rfl (fun h5 => by exact absurd h5 (by decide)) (fun h5 => ?_)
      refine A_aload_n dX7_isDraft_8 rfl 1 rfl ?_
      refine A_getR (b := 78) dX7_isDraft_9 fo_RX7_15 L77 rfl ?_
      refine A_iload_n dX7_isDraft_12 rfl 2 rfl ?_
      refine A_bipush (v := 6) dX7_isDraft_13 rfl ?_
      refine A_imul dX7_isDraft_15 ?_
      refine A_iload_n dX7_isDraft_16 rfl 0 rfl ?_
      refine A_iadd dX7_isDraft_17 ?_
      refine A_iaload (j * 6 + 2) dX7_isDraft_18 L78 (by simp only [lit, nI_add, pk_mul]) (by omega) (lb rfl) ?_
      refine A_aload_n dX7_isDraft_19 rfl 1 rfl ?_
      refine A_getR (b := 79) dX7_isDraft_20 fo_RX7_19 L77 rfl ?_
      refine A_iload_n dX7_isDraft_23 rfl 0 rfl ?_
      refine A_iaload 2 dX7_isDraft_24 L79 (rfl) (by decide) (lb rfl) ?_
      refine A_icmp_eq (tgt := 30) dX7_isDraft_25 rfl (fun h25 => ?_) (fun h25 => ?_)
      · have e2 := h25
        refine A_iinc (lv' := [(2, .int 3), (0, .ref 77), (1, .int (nI j))]) dX7_isDraft_30 0 rfl rfl (lb rfl) rfl ?_
        refine A_goto (tgt := 2) dX7_isDraft_33 rfl ?_
        refine A_iload_n dX7_isDraft_2 rfl 0 rfl ?_
        refine A_bipush (v := 6) dX7_isDraft_3 rfl ?_
        refine A_icmp_ge (tgt := 36) dX7_isDraft_5 rfl (fun h5 => by exact absurd h5 (by decide)) (fun h5 => ?_)
        refine A_aload_n dX7_isDraft_8 rfl 1 rfl ?_
        refine A_getR (b := 78) dX7_isDraft_9 fo_RX7_15 L77 rfl ?_
        refine A_iload_n dX7_isDraft_12 rfl 2 rfl ?_
        refine A_bipush (v := 6) dX7_isDraft_13 rfl ?_
        refine A_imul dX7_isDraft_15 ?_
        refine A_iload_n dX7_isDraft_16 rfl 0 rfl ?_
        refine A_iadd dX7_isDraft_17 ?_
        refine A_iaload (j * 6 + 3) dX7_isDraft_18 L78 (by simp only [lit, nI_add, pk_mul]) (by omega) (lb rfl) ?_
        refine A_aload_n dX7_isDraft_19 rfl 1 rfl ?_
        refine A_getR (b := 79) dX7_isDraft_20 fo_RX7_19 L77 rfl ?_
        refine A_iload_n dX7_isDraft_23 rfl 0 rfl ?_
        refine A_iaload 3 dX7_isDraft_24 L79 (rfl) (by decide) (lb rfl) ?_
        refine A_icmp_eq (tgt := 30) dX7_isDraft_25 rfl (fun h25 => ?_) (fun h25 => ?_)
        · have e3 := h25
          refine A_iinc (lv' := [(2, .int 4), (0, .ref 77), (1, .int (nI j))]) dX7_isDraft_30 0 rfl rfl (lb rfl) rfl ?_
          refine A_goto (tgt := 2) dX7_isDraft_33 rfl ?_
          refine A_iload_n dX7_isDraft_2 rfl 0 rfl ?_
          refine A_bipush (v := 6) dX7_isDraft_3 rfl ?_
          refine A_icmp_ge (tgt := 36) dX7_isDraft_5 rfl (fun h5 => by exact absurd h5 (by decide)) (fun h5 => ?_)
          refine A_aload_n dX7_isDraft_8 rfl 1 rfl ?_
          refine A_getR (b := 78) dX7_isDraft_9 fo_RX7_15 L77 rfl ?_
          refine A_iload_n dX7_isDraft_12 rfl 2 rfl ?_
          refine A_bipush (v := 6) dX7_isDraft_13 rfl ?_
          refine A_imul dX7_isDraft_15 ?_
          refine A_iload_n dX7_isDraft_16 rfl 0 rfl ?_
          refine A_iadd dX7_isDraft_17 ?_
          refine A_iaload (j * 6 + 4) dX7_isDraft_18 L78 (by simp only [lit, nI_add, pk_mul]) (by omega) (lb rfl) ?_
          refine A_aload_n dX7_isDraft_19 rfl 1 rfl ?_
          refine A_getR (b := 79) dX7_isDraft_20 fo_RX7_19 L77 rfl ?_
          refine A_iload_n dX7_isDraft_23 rfl 0 rfl ?_
          refine A_iaload 4 dX7_isDraft_24 L79 (rfl) (by decide) (lb rfl) ?_
          refine A_icmp_eq (tgt := 30) dX7_isDraft_25 rfl (fun h25 => ?_) (fun h25 => ?_)
          · have e4 := h25
            refine A_iinc (lv' := [(2, .int 5), (0, .ref 77), (1, .int (nI j))]) dX7_isDraft_30 0 rfl rfl (lb rfl) rfl ?_
            refine A_goto (tgt := 2) dX7_isDraft_33 rfl ?_
            refine A_iload_n dX7_isDraft_2 rfl 0 rfl ?_
            refine A_bipush (v := 6) dX7_isDraft_3 rfl ?_
            refine A_icmp_ge (tgt := 36) dX7_isDraft_5 rfl (fun h5 => by exact absurd h5 (by decide)) (fun h5 => ?_)
            refine A_aload_n dX7_isDraft_8 rfl 1 rfl ?_
            refine A_getR (b := 78) dX7_isDraft_9 fo_RX7_15 L77 rfl ?_
            refine A_iload_n dX7_isDraft_12 rfl 2 rfl ?_
            refine A_bipush (v := 6) dX7_isDraft_13 rfl ?_
            refine A_imul dX7_isDraft_15 ?_
            refine A_iload_n dX7_isDraft_16 rfl 0 rfl ?_
            refine A_iadd dX7_isDraft_17 ?_
            refine A_iaload (j * 6 + 5) dX7_isDraft_18 L78 (by simp only [lit, nI_add, pk_mul]) (by omega) (lb rfl) ?_
            refine A_aload_n dX7_isDraft_19 rfl 1 rfl ?_
            refine A_getR (b := 79) dX7_isDraft_20 fo_RX7_19 L77 rfl ?_
            refine A_iload_n dX7_isDraft_23 rfl 0 rfl ?_
            refine A_iaload 5 dX7_isDraft_24 L79 (rfl) (by decide) (lb rfl) ?_
            refine A_icmp_eq (tgt := 30) dX7_isDraft_25 rfl (fun h25 => ?_) (fun h25 => ?_)
            · have e5 := h25
              refine A_iinc (lv' := [(2, .int 6), (0, .ref 77), (1, .int (nI j))]) dX7_isDraft_30 0 rfl rfl (lb rfl) rfl ?_
              refine A_goto (tgt := 2) dX7_isDraft_33 rfl ?_
              refine A_iload_n dX7_isDraft_2 rfl 0 rfl ?_
              refine A_bipush (v := 6) dX7_isDraft_3 rfl ?_
              refine A_icmp_ge (tgt := 36) dX7_isDraft_5 rfl (fun h5 => ?_) (fun h5 => by exact absurd (by decide) h5)
              refine A_iconst (v := 1) dX7_isDraft_36 rfl ?_
              exact A_zret dX7_isDraft_37 rfl (by decide) (rti (bz_t ⟨e0, e1, e2, e3, e4, e5⟩).symm rfl)
            · refine A_iconst (v := 0) dX7_isDraft_28 rfl ?_
              exact A_zret dX7_isDraft_29 rfl (by decide) (rti (bz_f (fun q => h25 (q.2.2.2.2.2))).symm rfl)
          · refine A_iconst (v := 0) dX7_isDraft_28 rfl ?_
            exact A_zret dX7_isDraft_29 rfl (by decide) (rti (bz_f (fun q => h25 (q.2.2.2.2.1))).symm rfl)
        · refine A_iconst (v := 0) dX7_isDraft_28 rfl ?_
          exact A_zret dX7_isDraft_29 rfl (by decide) (rti (bz_f (fun q => h25 (q.2.2.2.1))).symm rfl)
      · refine A_iconst (v := 0) dX7_isDraft_28 rfl ?_
        exact A_zret dX7_isDraft_29 rfl (by decide) (rti (bz_f (fun q => h25 (q.2.2.1))).symm rfl)
    · refine A_iconst (v := 0) dX7_isDraft_28 rfl ?_
      exact A_zret dX7_isDraft_29 rfl (by decide) (rti (bz_f (fun q => h25 (q.2.1))).symm rfl)
  · refine A_iconst (v := 0) dX7_isDraft_28 rfl ?_
    exact A_zret dX7_isDraft_29 rfl (by decide) (rti (bz_f (fun q => h25 (q.1))).symm rfl)
theorem uc_v {k : Ro} (h : wfK k) {c : Nat} (hc : c < 4) : (((nI (cw k)).toUInt32 >>> ((8 * nI c).toUInt32 &&& Int32.toUInt32 31)).toInt32 &&& 255) - 99 = k c := by
  have b0 := kn_b (h 0 (by decide)); have b1 := kn_b (h 1 (by decide)); have b2 := kn_b (h 2 (by decide)); have b3 := kn_b (h 3 (by decide))
  rw [show (8 : Int32) * nI c = nI (8 * c) from pk_mul 8 c, show (255 : Int32) = nI (2 ^ 8 - 1) from rfl, sr_and (cw k) (8 * c) 8 (by omega) (by decide) (cw_b h)]
  refine Eq.trans ?_ (kn_v (h c hc)).2
  congr 2
  unfold cw
  match c, hc with
  | 0, _ => omega
  | 1, _ => omega
  | 2, _ => omega
  | 3, _ => omega
theorem x_unCell {lay : List Ly} (f : Mem) (k : Ro) (c : Nat) (h : wfK k) (hc : c < 4) : Ct MX7_unpackedCell 0 0 lay lay [.int (nI (cw k)), .int (nI c)] f (rt (some (.int (k c))) f) := by
  refine Ct.of (lv := [(0, .int (nI (cw k))), (1, .int (nI c))]) (by decide) (lb rfl) rfl ?_
  refine A_iload_n dX7_unpackedCell_0 rfl 0 rfl ?_
  refine A_bipush (v := 8) dX7_unpackedCell_1 rfl ?_
  refine A_iload_n dX7_unpackedCell_3 rfl 1 rfl ?_
  refine A_imul dX7_unpackedCell_4 ?_
  refine A_iushr dX7_unpackedCell_5 ?_
  refine A_sipush (v := 255) dX7_unpackedCell_6 rfl ?_
  refine A_iand dX7_unpackedCell_9 ?_
  refine A_bipush (v := 99) dX7_unpackedCell_10 rfl ?_
  refine A_isub dX7_unpackedCell_12 ?_
  exact A_iret dX7_unpackedCell_13 rfl (rti (uc_v h hc) rfl)
theorem x_empty (f : Mem) : C0 MX7_empty [.ref 77] f (rt none (ur (u2 f 77 0 0) 80 (cpR 2048 (fun _ => 0) (u2 f 77 0 0 80)))) := by
  refine Ct.of (lv := [(0, .ref 77)]) (by decide) (lb rfl) rfl ?_
  refine A_aload_n dX7_empty_0 rfl 0 rfl ?_
  refine A_iconst (v := 0) dX7_empty_1 rfl ?_
  refine A_putI dX7_empty_2 fo_RX7_9 L77 rfl ?_
  refine A_aload_n dX7_empty_5 rfl 0 rfl ?_
  refine A_getR (b := 80) dX7_empty_6 fo_RX7_22 L77 rfl ?_
  refine A_iconst (v := 0) dX7_empty_9 rfl ?_
  refine A_callS (M' := MJ7_fill_53178) [.ref 80, .int 0] [] dX7_empty_10 lk_RX7_25 oJ7_fill_53178 sJ7_fill_53178 rfl rfl ⟨lb rfl, lb rfl⟩ (lb rfl) ⟨lb rfl, lb rfl⟩ (c_fill 80 2048 0 _ rfl (by decide)) ?_
  rintro _ _ ⟨rfl, rfl⟩
  exact A_vret dX7_empty_13 rfl (⟨rfl, rfl⟩)
