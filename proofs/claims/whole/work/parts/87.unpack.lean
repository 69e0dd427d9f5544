/-! the class unpacks -/
def tU (X : Mem) (s : Sg) (t : Nat) : Mem := u2 (u2 (u2 X 58 t (nI (s 0 t))) 59 t (nI (s 1 t))) 60 t (nI (s 2 t))
def mU (X : Mem) (s : Sg) (m : Nat) : Mem := u2 (u2 (u2 (u2 X 64 m (nI (s 3 m) - 1)) 65 m (nI (s 4 m))) 66 m (pk (s (7 + m)))) 67 m (pk (s (7 + (3 + m))))
def unM (f : Mem) (s : Sg) (k : Ro) : Mem := u2 (u2 (u2 (u2 (mU (mU (mU (tU (tU (tU (tU f s 0) s 1) s 2) s 3) s 0) s 1) s 2) 68 0 (k 0)) 68 1 (k 1)) 68 2 (k 2)) 68 3 (k 3)
theorem tU_o (X : Mem) (s : Sg) (t : Nat) {b : Nat} (h : b < 58 ∨ 60 < b) : tU X s t b = X b := by unfold tU; rw [u2_n _ _ _ (by omega), u2_n _ _ _ (by omega), u2_n _ _ _ (by omega)]
theorem mU_o (X : Mem) (s : Sg) (t : Nat) {b : Nat} (h : b < 64 ∨ 67 < b) : mU X s t b = X b := by unfold mU; rw [u2_n _ _ _ (by omega), u2_n _ _ _ (by omega), u2_n _ _ _ (by omega), u2_n _ _ _ (by omega)]
theorem tU_0 (X : Mem) (s : Sg) (t : Nat) : tU X s t 58 = upd (X 58) t (nI (s 0 t)) := by unfold tU; rw [u2_n _ _ _ (by decide), u2_n _ _ _ (by decide), u2, ur_s]
theorem tU_1 (X : Mem) (s : Sg) (t : Nat) : tU X s t 59 = upd (X 59) t (nI (s 1 t)) := by unfold tU; rw [u2_n _ _ _ (by decide), u2, ur_s, u2_n _ _ _ (by decide)]
theorem tU_2 (X : Mem) (s : Sg) (t : Nat) : tU X s t 60 = upd (X 60) t (nI (s 2 t)) := by unfold tU; rw [u2, ur_s, u2_n _ _ _ (by decide), u2_n _ _ _ (by decide)]
theorem mU_0 (X : Mem) (s : Sg) (t : Nat) : mU X s t 64 = upd (X 64) t (nI (s 3 t) - 1) := by unfold mU; rw [u2_n _ _ _ (by decide), u2_n _ _ _ (by decide), u2_n _ _ _ (by decide), u2, ur_s]
theorem mU_1 (X : Mem) (s : Sg) (t : Nat) : mU X s t 65 = upd (X 65) t (nI (s 4 t)) := by unfold mU; rw [u2_n _ _ _ (by decide), u2_n _ _ _ (by decide), u2, ur_s, u2_n _ _ _ (by decide)]
theorem mU_2 (X : Mem) (s : Sg) (t : Nat) : mU X s t 66 = upd (X 66) t (pk (s (7 + t))) := by unfold mU; rw [u2_n _ _ _ (by decide), u2, ur_s, u2_n _ _ _ (by decide), u2_n _ _ _ (by decide)]
theorem mU_3 (X : Mem) (s : Sg) (t : Nat) : mU X s t 67 = upd (X 67) t (pk (s (7 + (3 + t)))) := by unfold mU; rw [u2, ur_s, u2_n _ _ _ (by decide), u2_n _ _ _ (by decide), u2_n _ _ _ (by decide)]
theorem up4 {g : Ro} {x y : Ro} (h : ∀ t, 4 ≤ t → g t = y t) (hx : ∀ t, t < 4 → x t = y t) : upd (upd (upd (upd g 0 (x 0)) 1 (x 1)) 2 (x 2)) 3 (x 3) = y := by
  funext t
  match t with
  | 0 => simp [upd]; exact hx 0 (by omega)
  | 1 => simp [upd]; exact hx 1 (by omega)
  | 2 => simp [upd]; exact hx 2 (by omega)
  | 3 => simp [upd]; exact hx 3 (by omega)
  | n + 4 => simp only [upd]; rw [if_neg (by omega), if_neg (by omega), if_neg (by omega), if_neg (by omega)]; exact h _ (by omega)
theorem up3 {g : Ro} {x y : Ro} (h : ∀ t, 3 ≤ t → g t = y t) (hx : ∀ t, t < 3 → x t = y t) : upd (upd (upd g 0 (x 0)) 1 (x 1)) 2 (x 2) = y := by
  funext t
  match t with
  | 0 => simp [upd]; exact hx 0 (by omega)
  | 1 => simp [upd]; exact hx 1 (by omega)
  | 2 => simp [upd]; exact hx 2 (by omega)
  | n + 3 => simp only [upd]; rw [if_neg (by omega), if_neg (by omega), if_neg (by omega)]; exact h _ (by omega)
theorem unM_o (f : Mem) (s : Sg) (k : Ro) {b : Nat} (h : b < 58 ∨ (60 < b ∧ b < 64) ∨ 68 < b) : unM f s k b = f b := by
  unfold unM
  rw [u2_n _ _ _ (by omega), u2_n _ _ _ (by omega), u2_n _ _ _ (by omega), u2_n _ _ _ (by omega), mU_o _ _ _ (by omega), mU_o _ _ _ (by omega), mU_o _ _ _ (by omega), tU_o _ _ _ (by omega), tU_o _ _ _ (by omega), tU_o _ _ _ (by omega), tU_o _ _ _ (by omega)]
theorem unM_D {f : Mem} {s s' : Sg} {k k' : Ro} (h : isD f 56 s' k') : isD (unM f s k) 56 s k := by
  obtain ⟨h2, h3, h4, h8, h9, ha, hb, hc⟩ := h
  have z4 : ∀ {g : Nat → Nat} {x : Ro}, x = r4 g → ∀ t, 4 ≤ t → x t = 0 := fun e t ht => by rw [e]; unfold r4; rw [if_neg (by omega)]
  refine ⟨?_, ?_, ?_, ?_, ?_, ?_, ?_, ?_⟩
  · show unM f s k 58 = _
    unfold unM
    rw [u2_n _ _ _ (by decide), u2_n _ _ _ (by decide), u2_n _ _ _ (by decide), u2_n _ _ _ (by decide), mU_o _ _ _ (by decide), mU_o _ _ _ (by decide), mU_o _ _ _ (by decide), tU_0, tU_0, tU_0, tU_0]
    exact up4 (x := fun t => nI (s 0 t)) (fun t ht => by rw [show (58 : Nat) = 56 + 2 from rfl, h2]; unfold r4; rw [if_neg (by omega), if_neg (by omega)]) (fun t ht => by unfold r4; rw [if_pos ht])
  · show unM f s k 59 = _
    unfold unM
    rw [u2_n _ _ _ (by decide), u2_n _ _ _ (by decide), u2_n _ _ _ (by decide), u2_n _ _ _ (by decide), mU_o _ _ _ (by decide), mU_o _ _ _ (by decide), mU_o _ _ _ (by decide), tU_1, tU_1, tU_1, tU_1]
    exact up4 (x := fun t => nI (s 1 t)) (fun t ht => by rw [show (59 : Nat) = 56 + 3 from rfl, h3]; unfold r4; rw [if_neg (by omega), if_neg (by omega)]) (fun t ht => by unfold r4; rw [if_pos ht])
  · show unM f s k 60 = _
    unfold unM
    rw [u2_n _ _ _ (by decide), u2_n _ _ _ (by decide), u2_n _ _ _ (by decide), u2_n _ _ _ (by decide), mU_o _ _ _ (by decide), mU_o _ _ _ (by decide), mU_o _ _ _ (by decide), tU_2, tU_2, tU_2, tU_2]
    exact up4 (x := fun t => nI (s 2 t)) (fun t ht => by rw [show (60 : Nat) = 56 + 4 from rfl, h4]; unfold r4; rw [if_neg (by omega), if_neg (by omega)]) (fun t ht => by unfold r4; rw [if_pos ht])
  · show unM f s k 64 = _
    unfold unM
    rw [u2_n _ _ _ (by decide), u2_n _ _ _ (by decide), u2_n _ _ _ (by decide), u2_n _ _ _ (by decide), mU_0, mU_0, mU_0, tU_o _ _ _ (by decide), tU_o _ _ _ (by decide), tU_o _ _ _ (by decide), tU_o _ _ _ (by decide)]
    exact up3 (x := fun t => nI (s 3 t) - 1) (fun t ht => by rw [show (64 : Nat) = 56 + 8 from rfl, h8]; unfold rO; rw [if_neg (by omega), if_neg (by omega)]) (fun t ht => by unfold rO; rw [if_pos ht])
  · show unM f s k 65 = _
    unfold unM
    rw [u2_n _ _ _ (by decide), u2_n _ _ _ (by decide), u2_n _ _ _ (by decide), u2_n _ _ _ (by decide), mU_1, mU_1, mU_1, tU_o _ _ _ (by decide), tU_o _ _ _ (by decide), tU_o _ _ _ (by decide), tU_o _ _ _ (by decide)]
    exact up3 (x := fun t => nI (s 4 t)) (fun t ht => by rw [show (65 : Nat) = 56 + 9 from rfl, h9]; unfold r3; rw [if_neg (by omega), if_neg (by omega)]) (fun t ht => by unfold r3; rw [if_pos ht])
  · show unM f s k 66 = _
    unfold unM
    rw [u2_n _ _ _ (by decide), u2_n _ _ _ (by decide), u2_n _ _ _ (by decide), u2_n _ _ _ (by decide), mU_2, mU_2, mU_2, tU_o _ _ _ (by decide), tU_o _ _ _ (by decide), tU_o _ _ _ (by decide), tU_o _ _ _ (by decide)]
    exact up3 (x := fun t => pk (s (7 + t))) (fun t ht => by rw [show (66 : Nat) = 56 + 10 from rfl, ha]; unfold rE; rw [if_neg (by omega), if_neg (by omega)]) (fun t ht => by unfold rE; rw [if_pos ht])
  · show unM f s k 67 = _
    unfold unM
    rw [u2_n _ _ _ (by decide), u2_n _ _ _ (by decide), u2_n _ _ _ (by decide), u2_n _ _ _ (by decide), mU_3, mU_3, mU_3, tU_o _ _ _ (by decide), tU_o _ _ _ (by decide), tU_o _ _ _ (by decide), tU_o _ _ _ (by decide)]
    exact up3 (x := fun t => pk (s (7 + (3 + t)))) (fun t ht => by rw [show (67 : Nat) = 56 + 11 from rfl, hb]; unfold rW; rw [if_neg (by omega), if_neg (by omega)]) (fun t ht => by unfold rW; rw [if_pos ht])
  · show unM f s k 68 = _
    unfold unM
    simp only [u2, ur_s]
    rw [mU_o _ _ _ (by decide), mU_o _ _ _ (by decide), mU_o _ _ _ (by decide), tU_o _ _ _ (by decide), tU_o _ _ _ (by decide), tU_o _ _ _ (by decide), tU_o _ _ _ (by decide)]
    exact up4 (x := k) (fun t ht => by rw [show (68 : Nat) = 56 + 12 from rfl, hc]; unfold rK; rw [if_neg (by omega), if_neg (by omega)]) (fun t ht => by unfold rK; rw [if_pos ht])
theorem an_v {Y m v : Nat} (hm : m < 32) (hY : Y < 2 ^ 32) (h : Y % 2 ^ m = v) : nI Y &&& nI (2 ^ m - 1) = nI v := by rw [and_m Y m hm hY, h]
theorem sa_v {Y q m v : Nat} (hq : q < 32) (hm : m < 32) (hY : Y < 2 ^ 32) (h : Y / 2 ^ q % 2 ^ m = v) : ((nI Y).toUInt32 >>> ((nI q).toUInt32 &&& Int32.toUInt32 31)).toInt32 &&& nI (2 ^ m - 1) = nI v := by rw [sr_and Y q m hq hm hY, h]
theorem sz_v {Y q v : Nat} (hq : q < 32) (hY : Y < 2 ^ 32) (h : Y / 2 ^ q = v) : ((nI Y).toUInt32 >>> ((nI q).toUInt32 &&& Int32.toUInt32 31)).toInt32 = nI v := by rw [sr_0 Y q hq hY, h]
theorem x_unpack (f : Mem) (s : Sg) (k : Ro) (hB : wB s k) (N j : Nat) (hN : f 77 0 = nI N) (h6 : N ≤ 600) (hj : j < N) (hS : ∀ i, i < 6 → f 78 (j * 6 + i) = nI (wd s k i)) : C0 MX7_unpack [.ref 77, .int (nI j), .ref 56] f (rt none (unM f s k)) := by
  refine Ct.of (lv := [(0, .ref 77), (1, .int (nI j)), (2, .ref 56)]) (by decide) (lb rfl) rfl ?_
  refine A_iload_n dX7_unpack_0 rfl 1 rfl ?_
  refine A_if_lt (tgt := 12) dX7_unpack_1 rfl (fun h1 => by exact absurd h1 (nI_nneg (by omega))) (fun h1 => ?_)
  refine A_iload_n dX7_unpack_4 rfl 1 rfl ?_
  refine A_aload_n dX7_unpack_5 rfl 0 rfl ?_
  refine A_getI dX7_unpack_6 fo_RX7_9 L77 rfl ?_
  refine A_topi (nI N) (hN) ?_
  refine A_icmp_lt (tgt := 13) dX7_unpack_9 rfl (fun h9 => ?_) (fun h9 => by exact absurd ((nI_ltI (by omega) (by omega)).mpr hj) h9)
  refine A_iload_n dX7_unpack_13 rfl 1 rfl ?_
  refine A_bipush (v := 6) dX7_unpack_14 rfl ?_
  refine A_imul dX7_unpack_16 ?_
  refine A_istore_n (lv' := [(3, .int ((nI j) * 6)), (0, .ref 77), (1, .int (nI j)), (2, .ref 56)]) dX7_unpack_17 rfl (lb rfl) rfl ?_
  refine A_iconst (v := 0) dX7_unpack_18 rfl ?_
  refine A_istore (lv' := [(4, .int 0), (3, .int ((nI j) * 6)), (0, .ref 77), (1, .int (nI j)), (2, .ref 56)]) dX7_unpack_19 (lb rfl) rfl ?_
  refine A_iload dX7_unpack_21 0 rfl ?_
  refine A_iconst (v := 4) dX7_unpack_23 rfl ?_
  refine A_icmp_ge (tgt := 95) dX7_unpack_24 rfl (fun h24 => by exact absurd h24 (by decide)) (fun h24 => ?_)
  refine A_aload_n dX7_unpack_27 rfl 2 rfl ?_
  refine A_getR (b := 78) dX7_unpack_28 fo_RX7_15 L77 rfl ?_
  refine A_iload_n dX7_unpack_31 rfl 1 rfl ?_
  refine A_iload dX7_unpack_32 0 rfl ?_
  refine A_iconst (v := 1) dX7_unpack_34 rfl ?_
  refine A_ishr dX7_unpack_35 ?_
  refine A_topi (0) (by decide) ?_
  refine A_iadd dX7_unpack_36 ?_
  refine A_iaload (j * 6 + 0) dX7_unpack_37 L78 (by simp only [lit, nI_add, pk_mul]) (by omega) (lb rfl) ?_
  refine A_topi (nI (tw s 0 + tw s 1 * 2048)) (hS 0 (by decide)) ?_
  refine A_bipush (v := 11) dX7_unpack_38 rfl ?_
  refine A_iload dX7_unpack_40 0 rfl ?_
  refine A_iconst (v := 1) dX7_unpack_42 rfl ?_
  refine A_iand dX7_unpack_43 ?_
  refine A_topi (0) (by decide) ?_
  refine A_imul dX7_unpack_44 ?_
  refine A_topi (0) (by decide) ?_
  refine A_iushr dX7_unpack_45 ?_
  refine A_topi (nI (tw s 0 + tw s 1 * 2048)) (sz_v (q := 0) (by decide) (by have b0 := tw_b hB (t := 0) (by decide); have b1 := tw_b hB (t := 1) (by decide); have b2 := tw_b hB (t := 2) (by decide); have b3 := tw_b hB (t := 3) (by decide); omega) (by rw [Nat.pow_zero, Nat.div_one])) ?_
  refine A_istore (lv' := [(5, .int (nI (tw s 0 + tw s 1 * 2048))), (4, .int 0), (3, .int ((nI j) * 6)), (0, .ref 77), (1, .int (nI j)), (2, .ref 56)]) dX7_unpack_46 (lb rfl) rfl ?_
  refine A_aload_n dX7_unpack_48 rfl 5 rfl ?_
  refine A_getR (b := 58) dX7_unpack_49 fo_RX7_75 L56 rfl ?_
  refine A_iload dX7_unpack_52 1 rfl ?_
  refine A_iload dX7_unpack_54 0 rfl ?_
  refine A_bipush (v := 15) dX7_unpack_56 rfl ?_
  refine A_iand dX7_unpack_58 ?_
  refine A_topi (nI (s 0 0)) (an_v (m := 4) (by decide) (by have b0 := tw_b hB (t := 0) (by decide); have b1 := tw_b hB (t := 1) (by decide); have b2 := tw_b hB (t := 2) (by decide); have b3 := tw_b hB (t := 3) (by decide); omega) (by have b0 := tw_b hB (t := 0) (by decide); have b1 := tw_b hB (t := 1) (by decide); have b2 := tw_b hB (t := 2) (by decide); have b3 := tw_b hB (t := 3) (by decide); have c0 := hB.t (t := 0) (by decide); unfold tw at *; omega)) ?_
  refine A_iastore 0 dX7_unpack_59 L58 (rfl) (by decide) (lb rfl) ?_
  refine A_aload_n dX7_unpack_60 rfl 5 rfl ?_
  refine A_getR (b := 59) dX7_unpack_61 fo_RX7_78 L56 rfl ?_
  refine A_iload dX7_unpack_64 1 rfl ?_
  refine A_iload dX7_unpack_66 0 rfl ?_
  refine A_iconst (v := 4) dX7_unpack_68 rfl ?_
  refine A_iushr dX7_unpack_69 ?_
  refine A_bipush (v := 7) dX7_unpack_70 rfl ?_
  refine A_iand dX7_unpack_72 ?_
  refine A_topi (nI (s 1 0)) (sa_v (q := 4) (m := 3) (by decide) (by decide) (by have b0 := tw_b hB (t := 0) (by decide); have b1 := tw_b hB (t := 1) (by decide); have b2 := tw_b hB (t := 2) (by decide); have b3 := tw_b hB (t := 3) (by decide); omega) (by have b0 := tw_b hB (t := 0) (by decide); have b1 := tw_b hB (t := 1) (by decide); have b2 := tw_b hB (t := 2) (by decide); have b3 := tw_b hB (t := 3) (by decide); have c0 := hB.t (t := 0) (by decide); unfold tw at *; omega)) ?_
  refine A_iastore 0 dX7_unpack_73 L59 (rfl) (by decide) (lb rfl) ?_
  refine A_aload_n dX7_unpack_74 rfl 5 rfl ?_
  refine A_getR (b := 60) dX7_unpack_75 fo_RX7_81 L56 rfl ?_
  refine A_iload dX7_unpack_78 1 rfl ?_
  refine A_iload dX7_unpack_80 0 rfl ?_
  refine A_bipush (v := 7) dX7_unpack_82 rfl ?_
  refine A_iushr dX7_unpack_84 ?_
  refine A_bipush (v := 15) dX7_unpack_85 rfl ?_
  refine A_iand dX7_unpack_87 ?_
  refine A_topi (nI (s 2 0)) (sa_v (q := 7) (m := 4) (by decide) (by decide) (by have b0 := tw_b hB (t := 0) (by decide); have b1 := tw_b hB (t := 1) (by decide); have b2 := tw_b hB (t := 2) (by decide); have b3 := tw_b hB (t := 3) (by decide); omega) (by have b0 := tw_b hB (t := 0) (by decide); have b1 := tw_b hB (t := 1) (by decide); have b2 := tw_b hB (t := 2) (by decide); have b3 := tw_b hB (t := 3) (by decide); have c0 := hB.t (t := 0) (by decide); unfold tw at *; omega)) ?_
  refine A_iastore 0 dX7_unpack_88 L60 (rfl) (by decide) (lb rfl) ?_
  refine A_iinc (lv' := [(4, .int 1), (5, .int (nI (tw s 0 + tw s 1 * 2048))), (3, .int ((nI j) * 6)), (0, .ref 77), (1, .int (nI j)), (2, .ref 56)]) dX7_unpack_89 1 rfl rfl (lb rfl) rfl ?_
  refine A_goto (tgt := 21) dX7_unpack_92 rfl ?_
  refine A_iload dX7_unpack_21 0 rfl ?_
  refine A_iconst (v := 4) dX7_unpack_23 rfl ?_
  refine A_icmp_ge (tgt := 95) dX7_unpack_24 rfl (fun h24 => by exact absurd h24 (by decide)) (fun h24 => ?_)
  refine A_aload_n dX7_unpack_27 rfl 3 rfl ?_
  refine A_getR (b := 78) dX7_unpack_28 fo_RX7_15 L77 rfl ?_
  refine A_iload_n dX7_unpack_31 rfl 2 rfl ?_
  refine A_iload dX7_unpack_32 0 rfl ?_
  refine A_iconst (v := 1) dX7_unpack_34 rfl ?_
  refine A_ishr dX7_unpack_35 ?_
  refine A_topi (0) (by decide) ?_
  refine A_iadd dX7_unpack_36 ?_
  refine A_iaload (j * 6 + 0) dX7_unpack_37 L78 (by simp only [lit, nI_add, pk_mul]) (by omega) (lb rfl) ?_
  refine A_topi (f 78 (j * 6 + 0)) (by simp [u2, ur, upd]) ?_
  refine A_topi (nI (tw s 0 + tw s 1 * 2048)) (hS 0 (by decide)) ?_
  refine A_bipush (v := 11) dX7_unpack_38 rfl ?_
  refine A_iload dX7_unpack_40 0 rfl ?_
  refine A_iconst (v := 1) dX7_unpack_42 rfl ?_
  refine A_iand dX7_unpack_43 ?_
  refine A_topi (1) (by decide) ?_
  refine A_imul dX7_unpack_44 ?_
  refine A_topi (11) (by decide) ?_
  refine A_iushr dX7_unpack_45 ?_
  refine A_topi (nI (tw s 1)) (sz_v (q := 11) (by decide) (by have b0 := tw_b hB (t := 0) (by decide); have b1 := tw_b hB (t := 1) (by decide); have b2 := tw_b hB (t := 2) (by decide); have b3 := tw_b hB (t := 3) (by decide); omega) (by have b0 := tw_b hB (t := 0) (by decide); have b1 := tw_b hB (t := 1) (by decide); have b2 := tw_b hB (t := 2) (by decide); have b3 := tw_b hB (t := 3) (by decide); omega)) ?_
  refine A_istore (lv' := [(5, .int (nI (tw s 1))), (4, .int 1), (3, .int ((nI j) * 6)), (0, .ref 77), (1, .int (nI j)), (2, .ref 56)]) dX7_unpack_46 (lb rfl) rfl ?_
  refine A_aload_n dX7_unpack_48 rfl 5 rfl ?_
  refine A_getR (b := 58) dX7_unpack_49 fo_RX7_75 L56 rfl ?_
  refine A_iload dX7_unpack_52 1 rfl ?_
  refine A_iload dX7_unpack_54 0 rfl ?_
  refine A_bipush (v := 15) dX7_unpack_56 rfl ?_
  refine A_iand dX7_unpack_58 ?_
  refine A_topi (nI (s 0 1)) (an_v (m := 4) (by decide) (by have b0 := tw_b hB (t := 0) (by decide); have b1 := tw_b hB (t := 1) (by decide); have b2 := tw_b hB (t := 2) (by decide); have b3 := tw_b hB (t := 3) (by decide); omega) (by have b0 := tw_b hB (t := 0) (by decide); have b1 := tw_b hB (t := 1) (by decide); have b2 := tw_b hB (t := 2) (by decide); have b3 := tw_b hB (t := 3) (by decide); have c0 := hB.t (t := 1) (by decide); unfold tw at *; omega)) ?_
  refine A_iastore 1 dX7_unpack_59 L58 (rfl) (by decide) (lb rfl) ?_
  refine A_aload_n dX7_unpack_60 rfl 5 rfl ?_
  refine A_getR (b := 59) dX7_unpack_61 fo_RX7_78 L56 rfl ?_
  refine A_iload dX7_unpack_64 1 rfl ?_
  refine A_iload dX7_unpack_66 0 rfl ?_
  refine A_iconst (v := 4) dX7_unpack_68 rfl ?_
  refine A_iushr dX7_unpack_69 ?_
  refine A_bipush (v := 7) dX7_unpack_70 rfl ?_
  refine A_iand dX7_unpack_72 ?_
  refine A_topi (nI (s 1 1)) (sa_v (q := 4) (m := 3) (by decide) (by decide) (by have b0 := tw_b hB (t := 0) (by decide); have b1 := tw_b hB (t := 1) (by decide); have b2 := tw_b hB (t := 2) (by decide); have b3 := tw_b hB (t := 3) (by decide); omega) (by have b0 := tw_b hB (t := 0) (by decide); have b1 := tw_b hB (t := 1) (by decide); have b2 := tw_b hB (t := 2) (by decide); have b3 := tw_b hB (t := 3) (by decide); have c0 := hB.t (t := 1) (by decide); unfold tw at *; omega)) ?_
  refine A_iastore 1 dX7_unpack_73 L59 (rfl) (by decide) (lb rfl) ?_
  refine A_aload_n dX7_unpack_74 rfl 5 rfl ?_
  refine A_getR (b := 60) dX7_unpack_75 fo_RX7_81 L56 rfl ?_
  refine A_iload dX7_unpack_78 1 rfl ?_
  refine A_iload dX7_unpack_80 0 rfl ?_
  refine A_bipush (v := 7) dX7_unpack_82 rfl ?_
  refine A_iushr dX7_unpack_84 ?_
  refine A_bipush (v := 15) dX7_unpack_85 rfl ?_
  refine A_iand dX7_unpack_87 ?_
  refine A_topi (nI (s 2 1)) (sa_v (q := 7) (m := 4) (by decide) (by decide) (by have b0 := tw_b hB (t := 0) (by decide); have b1 := tw_b hB (t := 1) (by decide); have b2 := tw_b hB (t := 2) (by decide); have b3 := tw_b hB (t := 3) (by decide); omega) (by have b0 := tw_b hB (t := 0) (by decide); have b1 := tw_b hB (t := 1) (by decide); have b2 := tw_b hB (t := 2) (by decide); have b3 := tw_b hB (t := 3) (by decide); have c0 := hB.t (t := 1) (by decide); unfold tw at *; omega)) ?_
  refine A_iastore 1 dX7_unpack_88 L60 (rfl) (by decide) (lb rfl) ?_
  refine A_iinc (lv' := [(4, .int 2), (5, .int (nI (tw s 1))), (3, .int ((nI j) * 6)), (0, .ref 77), (1, .int (nI j)), (2, .ref 56)]) dX7_unpack_89 1 rfl rfl (lb rfl) rfl ?_
  refine A_goto (tgt := 21) dX7_unpack_92 rfl ?_
  refine A_iload dX7_unpack_21 0 rfl ?_
  refine A_iconst (v := 4) dX7_unpack_23 rfl ?_
  refine A_icmp_ge (tgt := 95) dX7_unpack_24 rfl (fun h24 => by exact absurd h24 (by decide)) (fun h24 => ?_)
  refine A_aload_n dX7_unpack_27 rfl 3 rfl ?_
  refine A_getR (b := 78) dX7_unpack_28 fo_RX7_15 L77 rfl ?_
  refine A_iload_n dX7_unpack_31 rfl 2 rfl ?_
  refine A_iload dX7_unpack_32 0 rfl ?_
  refine A_iconst (v := 1) dX7_unpack_34 rfl ?_
  refine A_ishr dX7_unpack_35 ?_
  refine A_topi (1) (by decide) ?_
  refine A_iadd dX7_unpack_36 ?_
  refine A_iaload (j * 6 + 1) dX7_unpack_37 L78 (by simp only [lit, nI_add, pk_mul]) (by omega) (lb rfl) ?_
  refine A_topi (f 78 (j * 6 + 1)) (by simp [u2, ur, upd]) ?_
  refine A_topi (nI (tw s 2 + tw s 3 * 2048)) (hS 1 (by decide)) ?_
  refine A_bipush (v := 11) dX7_unpack_38 rfl ?_
  refine A_iload dX7_unpack_40 0 rfl ?_
  refine A_iconst (v := 1) dX7_unpack_42 rfl ?_
  refine A_iand dX7_unpack_43 ?_
  refine A_topi (0) (by decide) ?_
  refine A_imul dX7_unpack_44 ?_
  refine A_topi (0) (by decide) ?_
  refine A_iushr dX7_unpack_45 ?_
  refine A_topi (nI (tw s 2 + tw s 3 * 2048)) (sz_v (q := 0) (by decide) (by have b0 := tw_b hB (t := 0) (by decide); have b1 := tw_b hB (t := 1) (by decide); have b2 := tw_b hB (t := 2) (by decide); have b3 := tw_b hB (t := 3) (by decide); omega) (by rw [Nat.pow_zero, Nat.div_one])) ?_
  refine A_istore (lv' := [(5, .int (nI (tw s 2 + tw s 3 * 2048))), (4, .int 2), (3, .int ((nI j) * 6)), (0, .ref 77), (1, .int (nI j)), (2, .ref 56)]) dX7_unpack_46 (lb rfl) rfl ?_
  refine A_aload_n dX7_unpack_48 rfl 5 rfl ?_
  refine A_getR (b := 58) dX7_unpack_49 fo_RX7_75 L56 rfl ?_
  refine A_iload dX7_unpack_52 1 rfl ?_
  refine A_iload dX7_unpack_54 0 rfl ?_
  refine A_bipush (v := 15) dX7_unpack_56 rfl ?_
  refine A_iand dX7_unpack_58 ?_
  refine A_topi (nI (s 0 2)) (an_v (m := 4) (by decide) (by have b0 := tw_b hB (t := 0) (by decide); have b1 := tw_b hB (t := 1) (by decide); have b2 := tw_b hB (t := 2) (by decide); have b3 := tw_b hB (t := 3) (by decide); omega) (by have b0 := tw_b hB (t := 0) (by decide); have b1 := tw_b hB (t := 1) (by decide); have b2 := tw_b hB (t := 2) (by decide); have b3 := tw_b hB (t := 3) (by decide); have c0 := hB.t (t := 2) (by decide); unfold tw at *; omega)) ?_
  refine A_iastore 2 dX7_unpack_59 L58 (rfl) (by decide) (lb rfl) ?_
  refine A_aload_n dX7_unpack_60 rfl 5 rfl ?_
  refine A_getR (b := 59) dX7_unpack_61 fo_RX7_78 L56 rfl ?_
  refine A_iload dX7_unpack_64 1 rfl ?_
  refine A_iload dX7_unpack_66 0 rfl ?_
  refine A_iconst (v := 4) dX7_unpack_68 rfl ?_
  refine A_iushr dX7_unpack_69 ?_
  refine A_bipush (v := 7) dX7_unpack_70 rfl ?_
  refine A_iand dX7_unpack_72 ?_
  refine A_topi (nI (s 1 2)) (sa_v (q := 4) (m := 3) (by decide) (by decide) (by have b0 := tw_b hB (t := 0) (by decide); have b1 := tw_b hB (t := 1) (by decide); have b2 := tw_b hB (t := 2) (by decide); have b3 := tw_b hB (t := 3) (by decide); omega) (by have b0 := tw_b hB (t := 0) (by decide); have b1 := tw_b hB (t := 1) (by decide); have b2 := tw_b hB (t := 2) (by decide); have b3 := tw_b hB (t := 3) (by decide); have c0 := hB.t (t := 2) (by decide); unfold tw at *; omega)) ?_
  refine A_iastore 2 dX7_unpack_73 L59 (rfl) (by decide) (lb rfl) ?_
  refine A_aload_n dX7_unpack_74 rfl 5 rfl ?_
  refine A_getR (b := 60) dX7_unpack_75 fo_RX7_81 L56 rfl ?_
  refine A_iload dX7_unpack_78 1 rfl ?_
  refine A_iload dX7_unpack_80 0 rfl ?_
  refine A_bipush (v := 7) dX7_unpack_82 rfl ?_
  refine A_iushr dX7_unpack_84 ?_
  refine A_bipush (v := 15) dX7_unpack_85 rfl ?_
  refine A_iand dX7_unpack_87 ?_
  refine A_topi (nI (s 2 2)) (sa_v (q := 7) (m := 4) (by decide) (by decide) (by have b0 := tw_b hB (t := 0) (by decide); have b1 := tw_b hB (t := 1) (by decide); have b2 := tw_b hB (t := 2) (by decide); have b3 := tw_b hB (t := 3) (by decide); omega) (by have b0 := tw_b hB (t := 0) (by decide); have b1 := tw_b hB (t := 1) (by decide); have b2 := tw_b hB (t := 2) (by decide); have b3 := tw_b hB (t := 3) (by decide); have c0 := hB.t (t := 2) (by decide); unfold tw at *; omega)) ?_
  refine A_iastore 2 dX7_unpack_88 L60 (rfl) (by decide) (lb rfl) ?_
  refine A_iinc (lv' := [(4, .int 3), (5, .int (nI (tw s 2 + tw s 3 * 2048))), (3, .int ((nI j) * 6)), (0, .ref 77), (1, .int (nI j)), (2, .ref 56)]) dX7_unpack_89 1 rfl rfl (lb rfl) rfl ?_
  refine A_goto (tgt := 21) dX7_unpack_92 rfl ?_
  refine A_iload dX7_unpack_21 0 rfl ?_
  refine A_iconst (v := 4) dX7_unpack_23 rfl ?_
  refine A_icmp_ge (tgt := 95) dX7_unpack_24 rfl (fun h24 => by exact absurd h24 (by decide)) (fun h24 => ?_)
  refine A_aload_n dX7_unpack_27 rfl 3 rfl ?_
  refine A_getR (b := 78) dX7_unpack_28 fo_RX7_15 L77 rfl ?_
  refine A_iload_n dX7_unpack_31 rfl 2 rfl ?_
  refine A_iload dX7_unpack_32 0 rfl ?_
  refine A_iconst (v := 1) dX7_unpack_34 rfl ?_
  refine A_ishr dX7_unpack_35 ?_
  refine A_topi (1) (by decide) ?_
  refine A_iadd dX7_unpack_36 ?_
  refine A_iaload (j * 6 + 1) dX7_unpack_37 L78 (by simp only [lit, nI_add, pk_mul]) (by omega) (lb rfl) ?_
  refine A_topi (f 78 (j * 6 + 1)) (by simp [u2, ur, upd]) ?_
  refine A_topi (nI (tw s 2 + tw s 3 * 2048)) (hS 1 (by decide)) ?_
  refine A_bipush (v := 11) dX7_unpack_38 rfl ?_
  refine A_iload dX7_unpack_40 0 rfl ?_
  refine A_iconst (v := 1) dX7_unpack_42 rfl ?_
  refine A_iand dX7_unpack_43 ?_
  refine A_topi (1) (by decide) ?_
  refine A_imul dX7_unpack_44 ?_
  refine A_topi (11) (by decide) ?_
  refine A_iushr dX7_unpack_45 ?_
  refine A_topi (nI (tw s 3)) (sz_v (q := 11) (by decide) (by have b0 := tw_b hB (t := 0) (by decide); have b1 := tw_b hB (t := 1) (by decide); have b2 := tw_b hB (t := 2) (by decide); have b3 := tw_b hB (t := 3) (by decide); omega) (by have b0 := tw_b hB (t := 0) (by decide); have b1 := tw_b hB (t := 1) (by decide); have b2 := tw_b hB (t := 2) (by decide); have b3 := tw_b hB (t := 3) (by decide); omega)) ?_
  refine A_istore (lv' := [(5, .int (nI (tw s 3))), (4, .int 3), (3, .int ((nI j) * 6)), (0, .ref 77), (1, .int (nI j)), (2, .ref 56)]) dX7_unpack_46 (lb rfl) rfl ?_
  refine A_aload_n dX7_unpack_48 rfl 5 rfl ?_
  refine A_getR (b := 58) dX7_unpack_49 fo_RX7_75 L56 rfl ?_
  refine A_iload dX7_unpack_52 1 rfl ?_
  refine A_iload dX7_unpack_54 0 rfl ?_
  refine A_bipush (v := 15) dX7_unpack_56 rfl ?_
  refine A_iand dX7_unpack_58 ?_
  refine A_topi (nI (s 0 3)) (an_v (m := 4) (by decide) (by have b0 := tw_b hB (t := 0) (by decide); have b1 := tw_b hB (t := 1) (by decide); have b2 := tw_b hB (t := 2) (by decide); have b3 := tw_b hB (t := 3) (by decide); omega) (by have b0 := tw_b hB (t := 0) (by decide); have b1 := tw_b hB (t := 1) (by decide); have b2 := tw_b hB (t := 2) (by decide); have b3 := tw_b hB (t := 3) (by decide); have c0 := hB.t (t := 3) (by decide); unfold tw at *; omega)) ?_
  refine A_iastore 3 dX7_unpack_59 L58 (rfl) (by decide) (lb rfl) ?_
  refine A_aload_n dX7_unpack_60 rfl 5 rfl ?_
  refine A_getR (b := 59) dX7_unpack_61 fo_RX7_78 L56 rfl ?_
  refine A_iload dX7_unpack_64 1 rfl ?_
  refine A_iload dX7_unpack_66 0 rfl ?_
  refine A_iconst (v := 4) dX7_unpack_68 rfl ?_
  refine A_iushr dX7_unpack_69 ?_
  refine A_bipush (v := 7) dX7_unpack_70 rfl ?_
  refine A_iand dX7_unpack_72 ?_
  refine A_topi (nI (s 1 3)) (sa_v (q := 4) (m := 3) (by decide) (by decide) (by have b0 := tw_b hB (t := 0) (by decide); have b1 := tw_b hB (t := 1) (by decide); have b2 := tw_b hB (t := 2) (by decide); have b3 := tw_b hB (t := 3) (by decide); omega) (by have b0 := tw_b hB (t := 0) (by decide); have b1 := tw_b hB (t := 1) (by decide); have b2 := tw_b hB (t := 2) (by decide); have b3 := tw_b hB (t := 3) (by decide); have c0 := hB.t (t := 3) (by decide); unfold tw at *; omega)) ?_
  refine A_iastore 3 dX7_unpack_73 L59 (rfl) (by decide) (lb rfl) ?_
  refine A_aload_n dX7_unpack_74 rfl 5 rfl ?_
  refine A_getR (b := 60) dX7_unpack_75 fo_RX7_81 L56 rfl ?_
  refine A_iload dX7_unpack_78 1 rfl ?_
  refine A_iload dX7_unpack_80 0 rfl ?_
  refine A_bipush (v := 7) dX7_unpack_82 rfl ?_
  refine A_iushr dX7_unpack_84 ?_
  refine A_bipush (v := 15) dX7_unpack_85 rfl ?_
  refine A_iand dX7_unpack_87 ?_
  refine A_topi (nI (s 2 3)) (sa_v (q := 7) (m := 4) (by decide) (by decide) (by have b0 := tw_b hB (t := 0) (by decide); have b1 := tw_b hB (t := 1) (by decide); have b2 := tw_b hB (t := 2) (by decide); have b3 := tw_b hB (t := 3) (by decide); omega) (by have b0 := tw_b hB (t := 0) (by decide); have b1 := tw_b hB (t := 1) (by decide); have b2 := tw_b hB (t := 2) (by decide); have b3 := tw_b hB (t := 3) (by decide); have c0 := hB.t (t := 3) (by decide); unfold tw at *; omega)) ?_
  refine A_iastore 3 dX7_unpack_88 L60 (rfl) (by decide) (lb rfl) ?_
  refine A_iinc (lv' := [(4, .int 4), (5, .int (nI (tw s 3))), (3, .int ((nI j) * 6)), (0, .ref 77), (1, .int (nI j)), (2, .ref 56)]) dX7_unpack_89 1 rfl rfl (lb rfl) rfl ?_
  refine A_goto (tgt := 21) dX7_unpack_92 rfl ?_
  refine A_iload dX7_unpack_21 0 rfl ?_
  refine A_iconst (v := 4) dX7_unpack_23 rfl ?_
  refine A_icmp_ge (tgt := 95) dX7_unpack_24 rfl (fun h24 => ?_) (fun h24 => by exact absurd (by decide) h24)
  refine A_iconst (v := 0) dX7_unpack_95 rfl ?_
  refine A_istore (lv' := [(4, .int 0), (5, .int (nI (tw s 3))), (3, .int ((nI j) * 6)), (0, .ref 77), (1, .int (nI j)), (2, .ref 56)]) dX7_unpack_96 (lb rfl) rfl ?_
  refine A_iload dX7_unpack_98 0 rfl ?_
  refine A_iconst (v := 3) dX7_unpack_100 rfl ?_
  refine A_icmp_ge (tgt := 179) dX7_unpack_101 rfl (fun h101 => by exact absurd h101 (by decide)) (fun h101 => ?_)
  refine A_aload_n dX7_unpack_104 rfl 3 rfl ?_
  refine A_getR (b := 78) dX7_unpack_105 fo_RX7_15 L77 rfl ?_
  refine A_iload_n dX7_unpack_108 rfl 2 rfl ?_
  refine A_iconst (v := 2) dX7_unpack_109 rfl ?_
  refine A_iadd dX7_unpack_110 ?_
  refine A_iload dX7_unpack_111 0 rfl ?_
  refine A_iadd dX7_unpack_113 ?_
  refine A_iaload (j * 6 + 2 + 0) dX7_unpack_114 L78 (by simp only [lit, nI_add, pk_mul]) (by omega) (lb rfl) ?_
  refine A_topi (f 78 (j * 6 + 2 + 0)) (by simp [u2, ur, upd]) ?_
  refine A_topi (nI (mw s 0)) (hS 2 (by decide)) ?_
  refine A_istore (lv' := [(5, .int (nI (mw s 0))), (4, .int 0), (3, .int ((nI j) * 6)), (0, .ref 77), (1, .int (nI j)), (2, .ref 56)]) dX7_unpack_115 (lb rfl) rfl ?_
  refine A_aload_n dX7_unpack_117 rfl 5 rfl ?_
  refine A_getR (b := 64) dX7_unpack_118 fo_RX7_54 L56 rfl ?_
  refine A_iload dX7_unpack_121 1 rfl ?_
  refine A_iload dX7_unpack_123 0 rfl ?_
  refine A_bipush (v := 7) dX7_unpack_125 rfl ?_
  refine A_iand dX7_unpack_127 ?_
  refine A_topi (nI (s 3 0)) (an_v (m := 3) (by decide) (by have := mw_b hB (m := 0) (by decide); omega) (by have c0 := hB.m (m := 0) (by decide); have c1 := pkN_b (hB.r (r := 0) (by decide)); have c2 := pkN_b (hB.r (r := 3 + 0) (by decide)); unfold mw; omega)) ?_
  refine A_iconst (v := 1) dX7_unpack_128 rfl ?_
  refine A_isub dX7_unpack_129 ?_
  refine A_iastore 0 dX7_unpack_130 L64 (rfl) (by decide) (lb rfl) ?_
  refine A_aload_n dX7_unpack_131 rfl 5 rfl ?_
  refine A_getR (b := 65) dX7_unpack_132 fo_RX7_59 L56 rfl ?_
  refine A_iload dX7_unpack_135 1 rfl ?_
  refine A_iload dX7_unpack_137 0 rfl ?_
  refine A_iconst (v := 3) dX7_unpack_139 rfl ?_
  refine A_iushr dX7_unpack_140 ?_
  refine A_bipush (v := 15) dX7_unpack_141 rfl ?_
  refine A_iand dX7_unpack_143 ?_
  refine A_topi (nI (s 4 0)) (sa_v (q := 3) (m := 4) (by decide) (by decide) (by have := mw_b hB (m := 0) (by decide); omega) (by have c0 := hB.m (m := 0) (by decide); have c1 := pkN_b (hB.r (r := 0) (by decide)); have c2 := pkN_b (hB.r (r := 3 + 0) (by decide)); unfold mw; omega)) ?_
  refine A_iastore 0 dX7_unpack_144 L65 (rfl) (by decide) (lb rfl) ?_
  refine A_aload_n dX7_unpack_145 rfl 5 rfl ?_
  refine A_getR (b := 66) dX7_unpack_146 fo_RX7_62 L56 rfl ?_
  refine A_iload dX7_unpack_149 1 rfl ?_
  refine A_iload dX7_unpack_151 0 rfl ?_
  refine A_bipush (v := 7) dX7_unpack_153 rfl ?_
  refine A_iushr dX7_unpack_155 ?_
  refine A_sipush (v := 4095) dX7_unpack_156 rfl ?_
  refine A_iand dX7_unpack_159 ?_
  refine A_topi (pk (s (7 + 0))) (sa_v (v := pkN (s (7 + 0))) (q := 7) (m := 12) (by decide) (by decide) (by have := mw_b hB (m := 0) (by decide); omega) (by have c0 := hB.m (m := 0) (by decide); have c1 := pkN_b (hB.r (r := 0) (by decide)); have c2 := pkN_b (hB.r (r := 3 + 0) (by decide)); unfold mw; omega)) ?_
  refine A_iastore 0 dX7_unpack_160 L66 (rfl) (by decide) (lb rfl) ?_
  refine A_aload_n dX7_unpack_161 rfl 5 rfl ?_
  refine A_getR (b := 67) dX7_unpack_162 fo_RX7_65 L56 rfl ?_
  refine A_iload dX7_unpack_165 1 rfl ?_
  refine A_iload dX7_unpack_167 0 rfl ?_
  refine A_bipush (v := 19) dX7_unpack_169 rfl ?_
  refine A_iushr dX7_unpack_171 ?_
  refine A_topi (pk (s (7 + (3 + 0)))) (sz_v (v := pkN (s (7 + (3 + 0)))) (q := 19) (by decide) (by have := mw_b hB (m := 0) (by decide); omega) (by have c0 := hB.m (m := 0) (by decide); have c1 := pkN_b (hB.r (r := 0) (by decide)); have c2 := pkN_b (hB.r (r := 3 + 0) (by decide)); unfold mw; omega)) ?_
  refine A_iastore 0 dX7_unpack_172 L67 (rfl) (by decide) (lb rfl) ?_
  refine A_iinc (lv' := [(4, .int 1), (5, .int (nI (mw s 0))), (3, .int ((nI j) * 6)), (0, .ref 77), (1, .int (nI j)), (2, .ref 56)]) dX7_unpack_173 1 rfl rfl (lb rfl) rfl ?_
  refine A_goto (tgt := 98) dX7_unpack_176 rfl ?_
  refine A_iload dX7_unpack_98 0 rfl ?_
  refine A_iconst (v := 3) dX7_unpack_100 rfl ?_
  refine A_icmp_ge (tgt := 179) dX7_unpack_101 rfl (fun h101 => by exact absurd h101 (by decide)) (fun h101 => ?_)
  refine A_aload_n dX7_unpack_104 rfl 3 rfl ?_
  refine A_getR (b := 78) dX7_unpack_105 fo_RX7_15 L77 rfl ?_
  refine A_iload_n dX7_unpack_108 rfl 2 rfl ?_
  refine A_iconst (v := 2) dX7_unpack_109 rfl ?_
  refine A_iadd dX7_unpack_110 ?_
  refine A_iload dX7_unpack_111 0 rfl ?_
  refine A_iadd dX7_unpack_113 ?_
  refine A_iaload (j * 6 + 2 + 1) dX7_unpack_114 L78 (by simp only [lit, nI_add, pk_mul]) (by omega) (lb rfl) ?_
  refine A_topi (f 78 (j * 6 + 2 + 1)) (by simp [u2, ur, upd]) ?_
  refine A_topi (nI (mw s 1)) (hS 3 (by decide)) ?_
  refine A_istore (lv' := [(5, .int (nI (mw s 1))), (4, .int 1), (3, .int ((nI j) * 6)), (0, .ref 77), (1, .int (nI j)), (2, .ref 56)]) dX7_unpack_115 (lb rfl) rfl ?_
  refine A_aload_n dX7_unpack_117 rfl 5 rfl ?_
  refine A_getR (b := 64) dX7_unpack_118 fo_RX7_54 L56 rfl ?_
  refine A_iload dX7_unpack_121 1 rfl ?_
  refine A_iload dX7_unpack_123 0 rfl ?_
  refine A_bipush (v := 7) dX7_unpack_125 rfl ?_
  refine A_iand dX7_unpack_127 ?_
  refine A_topi (nI (s 3 1)) (an_v (m := 3) (by decide) (by have := mw_b hB (m := 1) (by decide); omega) (by have c0 := hB.m (m := 1) (by decide); have c1 := pkN_b (hB.r (r := 1) (by decide)); have c2 := pkN_b (hB.r (r := 3 + 1) (by decide)); unfold mw; omega)) ?_
  refine A_iconst (v := 1) dX7_unpack_128 rfl ?_
  refine A_isub dX7_unpack_129 ?_
  refine A_iastore 1 dX7_unpack_130 L64 (rfl) (by decide) (lb rfl) ?_
  refine A_aload_n dX7_unpack_131 rfl 5 rfl ?_
  refine A_getR (b := 65) dX7_unpack_132 fo_RX7_59 L56 rfl ?_
  refine A_iload dX7_unpack_135 1 rfl ?_
  refine A_iload dX7_unpack_137 0 rfl ?_
  refine A_iconst (v := 3) dX7_unpack_139 rfl ?_
  refine A_iushr dX7_unpack_140 ?_
  refine A_bipush (v := 15) dX7_unpack_141 rfl ?_
  refine A_iand dX7_unpack_143 ?_
  refine A_topi (nI (s 4 1)) (sa_v (q := 3) (m := 4) (by decide) (by decide) (by have := mw_b hB (m := 1) (by decide); omega) (by have c0 := hB.m (m := 1) (by decide); have c1 := pkN_b (hB.r (r := 1) (by decide)); have c2 := pkN_b (hB.r (r := 3 + 1) (by decide)); unfold mw; omega)) ?_
  refine A_iastore 1 dX7_unpack_144 L65 (rfl) (by decide) (lb rfl) ?_
  refine A_aload_n dX7_unpack_145 rfl 5 rfl ?_
  refine A_getR (b := 66) dX7_unpack_146 fo_RX7_62 L56 rfl ?_
  refine A_iload dX7_unpack_149 1 rfl ?_
  refine A_iload dX7_unpack_151 0 rfl ?_
  refine A_bipush (v := 7) dX7_unpack_153 rfl ?_
  refine A_iushr dX7_unpack_155 ?_
  refine A_sipush (v := 4095) dX7_unpack_156 rfl ?_
  refine A_iand dX7_unpack_159 ?_
  refine A_topi (pk (s (7 + 1))) (sa_v (v := pkN (s (7 + 1))) (q := 7) (m := 12) (by decide) (by decide) (by have := mw_b hB (m := 1) (by decide); omega) (by have c0 := hB.m (m := 1) (by decide); have c1 := pkN_b (hB.r (r := 1) (by decide)); have c2 := pkN_b (hB.r (r := 3 + 1) (by decide)); unfold mw; omega)) ?_
  refine A_iastore 1 dX7_unpack_160 L66 (rfl) (by decide) (lb rfl) ?_
  refine A_aload_n dX7_unpack_161 rfl 5 rfl ?_
  refine A_getR (b := 67) dX7_unpack_162 fo_RX7_65 L56 rfl ?_
  refine A_iload dX7_unpack_165 1 rfl ?_
  refine A_iload dX7_unpack_167 0 rfl ?_
  refine A_bipush (v := 19) dX7_unpack_169 rfl ?_
  refine A_iushr dX7_unpack_171 ?_
  refine A_topi (pk (s (7 + (3 + 1)))) (sz_v (v := pkN (s (7 + (3 + 1)))) (q := 19) (by decide) (by have := mw_b hB (m := 1) (by decide); omega) (by have c0 := hB.m (m := 1) (by decide); have c1 := pkN_b (hB.r (r := 1) (by decide)); have c2 := pkN_b (hB.r (r := 3 + 1) (by decide)); unfold mw; omega)) ?_
  refine A_iastore 1 dX7_unpack_172 L67 (rfl) (by decide) (lb rfl) ?_
  refine A_iinc (lv' := [(4, .int 2), (5, .int (nI (mw s 1))), (3, .int ((nI j) * 6)), (0, .ref 77), (1, .int (nI j)), (2, .ref 56)]) dX7_unpack_173 1 rfl rfl (lb rfl) rfl ?_
  refine A_goto (tgt := 98) dX7_unpack_176 rfl ?_
  refine A_iload dX7_unpack_98 0 rfl ?_
  refine A_iconst (v := 3) dX7_unpack_100 rfl ?_
  refine A_icmp_ge (tgt := 179) dX7_unpack_101 rfl (fun h101 => by exact absurd h101 (by decide)) (fun h101 => ?_)
  refine A_aload_n dX7_unpack_104 rfl 3 rfl ?_
  refine A_getR (b := 78) dX7_unpack_105 fo_RX7_15 L77 rfl ?_
  refine A_iload_n dX7_unpack_108 rfl 2 rfl ?_
  refine A_iconst (v := 2) dX7_unpack_109 rfl ?_
  refine A_iadd dX7_unpack_110 ?_
  refine A_iload dX7_unpack_111 0 rfl ?_
  refine A_iadd dX7_unpack_113 ?_
  refine A_iaload (j * 6 + 2 + 2) dX7_unpack_114 L78 (by simp only [lit, nI_add, pk_mul]) (by omega) (lb rfl) ?_
  refine A_topi (f 78 (j * 6 + 2 + 2)) (by simp [u2, ur, upd]) ?_
  refine A_topi (nI (mw s 2)) (hS 4 (by decide)) ?_
  refine A_istore (lv' := [(5, .int (nI (mw s 2))), (4, .int 2), (3, .int ((nI j) * 6)), (0, .ref 77), (1, .int (nI j)), (2, .ref 56)]) dX7_unpack_115 (lb rfl) rfl ?_
  refine A_aload_n dX7_unpack_117 rfl 5 rfl ?_
  refine A_getR (b := 64) dX7_unpack_118 fo_RX7_54 L56 rfl ?_
  refine A_iload dX7_unpack_121 1 rfl ?_
  refine A_iload dX7_unpack_123 0 rfl ?_
  refine A_bipush (v := 7) dX7_unpack_125 rfl ?_
  refine A_iand dX7_unpack_127 ?_
  refine A_topi (nI (s 3 2)) (an_v (m := 3) (by decide) (by have := mw_b hB (m := 2) (by decide); omega) (by have c0 := hB.m (m := 2) (by decide); have c1 := pkN_b (hB.r (r := 2) (by decide)); have c2 := pkN_b (hB.r (r := 3 + 2) (by decide)); unfold mw; omega)) ?_
  refine A_iconst (v := 1) dX7_unpack_128 rfl ?_
  refine A_isub dX7_unpack_129 ?_
  refine A_iastore 2 dX7_unpack_130 L64 (rfl) (by decide) (lb rfl) ?_
  refine A_aload_n dX7_unpack_131 rfl 5 rfl ?_
  refine A_getR (b := 65) dX7_unpack_132 fo_RX7_59 L56 rfl ?_
  refine A_iload dX7_unpack_135 1 rfl ?_
  refine A_iload dX7_unpack_137 0 rfl ?_
  refine A_iconst (v := 3) dX7_unpack_139 rfl ?_
  refine A_iushr dX7_unpack_140 ?_
  refine A_bipush (v := 15) dX7_unpack_141 rfl ?_
  refine A_iand dX7_unpack_143 ?_
  refine A_topi (nI (s 4 2)) (sa_v (q := 3) (m := 4) (by decide) (by decide) (by have := mw_b hB (m := 2) (by decide); omega) (by have c0 := hB.m (m := 2) (by decide); have c1 := pkN_b (hB.r (r := 2) (by decide)); have c2 := pkN_b (hB.r (r := 3 + 2) (by decide)); unfold mw; omega)) ?_
  refine A_iastore 2 dX7_unpack_144 L65 (rfl) (by decide) (lb rfl) ?_
  refine A_aload_n dX7_unpack_145 rfl 5 rfl ?_
  refine A_getR (b := 66) dX7_unpack_146 fo_RX7_62 L56 rfl ?_
  refine A_iload dX7_unpack_149 1 rfl ?_
  refine A_iload dX7_unpack_151 0 rfl ?_
  refine A_bipush (v := 7) dX7_unpack_153 rfl ?_
  refine A_iushr dX7_unpack_155 ?_
  refine A_sipush (v := 4095) dX7_unpack_156 rfl ?_
  refine A_iand dX7_unpack_159 ?_
  refine A_topi (pk (s (7 + 2))) (sa_v (v := pkN (s (7 + 2))) (q := 7) (m := 12) (by decide) (by decide) (by have := mw_b hB (m := 2) (by decide); omega) (by have c0 := hB.m (m := 2) (by decide); have c1 := pkN_b (hB.r (r := 2) (by decide)); have c2 := pkN_b (hB.r (r := 3 + 2) (by decide)); unfold mw; omega)) ?_
  refine A_iastore 2 dX7_unpack_160 L66 (rfl) (by decide) (lb rfl) ?_
  refine A_aload_n dX7_unpack_161 rfl 5 rfl ?_
  refine A_getR (b := 67) dX7_unpack_162 fo_RX7_65 L56 rfl ?_
  refine A_iload dX7_unpack_165 1 rfl ?_
  refine A_iload dX7_unpack_167 0 rfl ?_
  refine A_bipush (v := 19) dX7_unpack_169 rfl ?_
  refine A_iushr dX7_unpack_171 ?_
  refine A_topi (pk (s (7 + (3 + 2)))) (sz_v (v := pkN (s (7 + (3 + 2)))) (q := 19) (by decide) (by have := mw_b hB (m := 2) (by decide); omega) (by have c0 := hB.m (m := 2) (by decide); have c1 := pkN_b (hB.r (r := 2) (by decide)); have c2 := pkN_b (hB.r (r := 3 + 2) (by decide)); unfold mw; omega)) ?_
  refine A_iastore 2 dX7_unpack_172 L67 (rfl) (by decide) (lb rfl) ?_
  refine A_iinc (lv' := [(4, .int 3), (5, .int (nI (mw s 2))), (3, .int ((nI j) * 6)), (0, .ref 77), (1, .int (nI j)), (2, .ref 56)]) dX7_unpack_173 1 rfl rfl (lb rfl) rfl ?_
  refine A_goto (tgt := 98) dX7_unpack_176 rfl ?_
  refine A_iload dX7_unpack_98 0 rfl ?_
  refine A_iconst (v := 3) dX7_unpack_100 rfl ?_
  refine A_icmp_ge (tgt := 179) dX7_unpack_101 rfl (fun h101 => ?_) (fun h101 => by exact absurd (by decide) h101)
  refine A_iconst (v := 0) dX7_unpack_179 rfl ?_
  refine A_istore (lv' := [(4, .int 0), (5, .int (nI (mw s 2))), (3, .int ((nI j) * 6)), (0, .ref 77), (1, .int (nI j)), (2, .ref 56)]) dX7_unpack_180 (lb rfl) rfl ?_
  refine A_iload dX7_unpack_182 0 rfl ?_
  refine A_iconst (v := 4) dX7_unpack_184 rfl ?_
  refine A_icmp_ge (tgt := 214) dX7_unpack_185 rfl (fun h185 => by exact absurd h185 (by decide)) (fun h185 => ?_)
  refine A_aload_n dX7_unpack_188 rfl 5 rfl ?_
  refine A_getR (b := 68) dX7_unpack_189 fo_RX7_68 L56 rfl ?_
  refine A_iload dX7_unpack_192 0 rfl ?_
  refine A_aload_n dX7_unpack_194 rfl 3 rfl ?_
  refine A_getR (b := 78) dX7_unpack_195 fo_RX7_15 L77 rfl ?_
  refine A_iload_n dX7_unpack_198 rfl 2 rfl ?_
  refine A_iconst (v := 5) dX7_unpack_199 rfl ?_
  refine A_iadd dX7_unpack_200 ?_
  refine A_iaload (j * 6 + 5) dX7_unpack_201 L78 (by simp only [lit, nI_add, pk_mul]) (by omega) (lb rfl) ?_
  refine A_topi (f 78 (j * 6 + 5)) (by simp [u2, ur, upd]) ?_
  refine A_topi (nI (cw k)) (hS 5 (by decide)) ?_
  refine A_iload dX7_unpack_202 0 rfl ?_
  refine A_callS (M' := MX7_unpackedCell) [.int (nI (cw k)), .int 0] [.int 0, .ref 68] dX7_unpack_204 lk_RX7_84 oX7_unpackedCell sX7_unpackedCell rfl rfl ⟨lb rfl, lb rfl⟩ (lb rfl) ⟨lb rfl, lb rfl⟩ (x_unCell _ k 0 hB.2.2 (by decide)) ?_
  rintro _ g0 ⟨rfl, hg0⟩
  rw [hg0]
  refine A_iastore 0 dX7_unpack_207 L68 (rfl) (by decide) (lb rfl) ?_
  refine A_iinc (lv' := [(4, .int 1), (5, .int (nI (mw s 2))), (3, .int ((nI j) * 6)), (0, .ref 77), (1, .int (nI j)), (2, .ref 56)]) dX7_unpack_208 0 rfl rfl (lb rfl) rfl ?_
  refine A_goto (tgt := 182) dX7_unpack_211 rfl ?_
  refine A_iload dX7_unpack_182 0 rfl ?_
  refine A_iconst (v := 4) dX7_unpack_184 rfl ?_
  refine A_icmp_ge (tgt := 214) dX7_unpack_185 rfl (fun h185 => by exact absurd h185 (by decide)) (fun h185 => ?_)
  refine A_aload_n dX7_unpack_188 rfl 5 rfl ?_
  refine A_getR (b := 68) dX7_unpack_189 fo_RX7_68 L56 rfl ?_
  refine A_iload dX7_unpack_192 0 rfl ?_
  refine A_aload_n dX7_unpack_194 rfl 3 rfl ?_
  refine A_getR (b := 78) dX7_unpack_195 fo_RX7_15 L77 rfl ?_
  refine A_iload_n dX7_unpack_198 rfl 2 rfl ?_
  refine A_iconst (v := 5) dX7_unpack_199 rfl ?_
  refine A_iadd dX7_unpack_200 ?_
  refine A_iaload (j * 6 + 5) dX7_unpack_201 L78 (by simp only [lit, nI_add, pk_mul]) (by omega) (lb rfl) ?_
  refine A_topi (f 78 (j * 6 + 5)) (by simp [u2, ur, upd]) ?_
  refine A_topi (nI (cw k)) (hS 5 (by decide)) ?_
  refine A_iload dX7_unpack_202 0 rfl ?_
  refine A_callS (M' := MX7_unpackedCell) [.int (nI (cw k)), .int 1] [.int 1, .ref 68] dX7_unpack_204 lk_RX7_84 oX7_unpackedCell sX7_unpackedCell rfl rfl ⟨lb rfl, lb rfl⟩ (lb rfl) ⟨lb rfl, lb rfl⟩ (x_unCell _ k 1 hB.2.2 (by decide)) ?_
  rintro _ g0 ⟨rfl, hg0⟩
  rw [hg0]
  refine A_iastore 1 dX7_unpack_207 L68 (rfl) (by decide) (lb rfl) ?_
  refine A_iinc (lv' := [(4, .int 2), (5, .int (nI (mw s 2))), (3, .int ((nI j) * 6)), (0, .ref 77), (1, .int (nI j)), (2, .ref 56)]) dX7_unpack_208 0 rfl rfl (lb rfl) rfl ?_
  refine A_goto (tgt := 182) dX7_unpack_211 rfl ?_
  refine A_iload dX7_unpack_182 0 rfl ?_
  refine A_iconst (v := 4) dX7_unpack_184 rfl ?_
  refine A_icmp_ge (tgt := 214) dX7_unpack_185 rfl (fun h185 => by exact absurd h185 (by decide)) (fun h185 => ?_)
  refine A_aload_n dX7_unpack_188 rfl 5 rfl ?_
  refine A_getR (b := 68) dX7_unpack_189 fo_RX7_68 L56 rfl ?_
  refine A_iload dX7_unpack_192 0 rfl ?_
  refine A_aload_n dX7_unpack_194 rfl 3 rfl ?_
  refine A_getR (b := 78) dX7_unpack_195 fo_RX7_15 L77 rfl ?_
  refine A_iload_n dX7_unpack_198 rfl 2 rfl ?_
  refine A_iconst (v := 5) dX7_unpack_199 rfl ?_
  refine A_iadd dX7_unpack_200 ?_
  refine A_iaload (j * 6 + 5) dX7_unpack_201 L78 (by simp only [lit, nI_add, pk_mul]) (by omega) (lb rfl) ?_
  refine A_topi (f 78 (j * 6 + 5)) (by simp [u2, ur, upd]) ?_
  refine A_topi (nI (cw k)) (hS 5 (by decide)) ?_
  refine A_iload dX7_unpack_202 0 rfl ?_
  refine A_callS (M' := MX7_unpackedCell) [.int (nI (cw k)), .int 2] [.int 2, .ref 68] dX7_unpack_204 lk_RX7_84 oX7_unpackedCell sX7_unpackedCell rfl rfl ⟨lb rfl, lb rfl⟩ (lb rfl) ⟨lb rfl, lb rfl⟩ (x_unCell _ k 2 hB.2.2 (by decide)) ?_
  rintro _ g0 ⟨rfl, hg0⟩
  rw [hg0]
  refine A_iastore 2 dX7_unpack_207 L68 (rfl) (by decide) (lb rfl) ?_
  refine A_iinc (lv' := [(4, .int 3), (5, .int (nI (mw s 2))), (3, .int ((nI j) * 6)), (0, .ref 77), (1, .int (nI j)), (2, .ref 56)]) dX7_unpack_208 0 rfl rfl (lb rfl) rfl ?_
  refine A_goto (tgt := 182) dX7_unpack_211 rfl ?_
  refine A_iload dX7_unpack_182 0 rfl ?_
  refine A_iconst (v := 4) dX7_unpack_184 rfl ?_
  refine A_icmp_ge (tgt := 214) dX7_unpack_185 rfl (fun h185 => by exact absurd h185 (by decide)) (fun h185 => ?_)
  refine A_aload_n dX7_unpack_188 rfl 5 rfl ?_
  refine A_getR (b := 68) dX7_unpack_189 fo_RX7_68 L56 rfl ?_
  refine A_iload dX7_unpack_192 0 rfl ?_
  refine A_aload_n dX7_unpack_194 rfl 3 rfl ?_
  refine A_getR (b := 78) dX7_unpack_195 fo_RX7_15 L77 rfl ?_
  refine A_iload_n dX7_unpack_198 rfl 2 rfl ?_
  refine A_iconst (v := 5) dX7_unpack_199 rfl ?_
  refine A_iadd dX7_unpack_200 ?_
  refine A_iaload (j * 6 + 5) dX7_unpack_201 L78 (by simp only [lit, nI_add, pk_mul]) (by omega) (lb rfl) ?_
  refine A_topi (f 78 (j * 6 + 5)) (by simp [u2, ur, upd]) ?_
  refine A_topi (nI (cw k)) (hS 5 (by decide)) ?_
  refine A_iload dX7_unpack_202 0 rfl ?_
  refine A_callS (M' := MX7_unpackedCell) [.int (nI (cw k)), .int 3] [.int 3, .ref 68] dX7_unpack_204 lk_RX7_84 oX7_unpackedCell sX7_unpackedCell rfl rfl ⟨lb rfl, lb rfl⟩ (lb rfl) ⟨lb rfl, lb rfl⟩ (x_unCell _ k 3 hB.2.2 (by decide)) ?_
  rintro _ g0 ⟨rfl, hg0⟩
  rw [hg0]
  refine A_iastore 3 dX7_unpack_207 L68 (rfl) (by decide) (lb rfl) ?_
  refine A_iinc (lv' := [(4, .int 4), (5, .int (nI (mw s 2))), (3, .int ((nI j) * 6)), (0, .ref 77), (1, .int (nI j)), (2, .ref 56)]) dX7_unpack_208 0 rfl rfl (lb rfl) rfl ?_
  refine A_goto (tgt := 182) dX7_unpack_211 rfl ?_
  refine A_iload dX7_unpack_182 0 rfl ?_
  refine A_iconst (v := 4) dX7_unpack_184 rfl ?_
  refine A_icmp_ge (tgt := 214) dX7_unpack_185 rfl (fun h185 => ?_) (fun h185 => by exact absurd (by decide) h185)
  exact A_vret dX7_unpack_214 rfl (⟨rfl, rfl⟩)
