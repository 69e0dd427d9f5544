/-! rows filled and copied; a new task, the desk anew; whose turn it is -/
def cpR (n : Nat) (g h : Ro) : Ro := fun i => if i < n then g i else h i
theorem cpy_R (n : Nat) (g h : Ro) : va_cpy g h 0 0 n = cpR n g h := by
  funext i
  unfold cpR
  by_cases q : i < n
  · rw [if_pos q, pk_cpy_in (by omega) (by omega), show 0 + (i - 0) = i by omega]
  · rw [if_neg q, pk_cpy_out (by omega)]
theorem cpR_z (g h : Ro) : cpR 0 g h = h := by funext i; simp [cpR]
theorem cpR_s (n : Nat) (g h : Ro) : upd (cpR n g h) n (g n) = cpR (n + 1) g h := by
  funext i
  unfold cpR upd
  by_cases q : i = n
  · rw [if_pos q, if_pos (by omega), q]
  · rw [if_neg q]
    dsimp only
    by_cases q2 : i < n
    · rw [if_pos q2, if_pos (by omega)]
    · rw [if_neg q2, if_neg (by omega)]
theorem ur_self (f : Mem) (a : Nat) : ur f a (f a) = f := by
  funext b; unfold ur; split
  · rename_i h; rw [h]
  · rfl
theorem cpy_ur {f m : Mem} {a0 a n : Nat} (h0 : m a0 = f a0) (h1 : m a = f a) : gt_cpy m a0 0 a 0 n = ur m a (cpR n (f a0) (f a)) := by
  rw [gt_cpy, cpy_R, h0, h1]
theorem lx_fill {lay : List Ly} (a n : Nat) (x : Int32) (f : Mem) (hL : lay[a]? = some (0, n, [])) (hn : n < 2 ^ 31) : ∀ i, i ≤ n → A (cM MJ7_fill_53178 0 0 lay lay (rt none (ur f a (cpR n (fun _ => x) (f a))))) 5 [(2, .int (nI i)), (3, .int (nI n)), (0, .ref a), (1, .int x)] [] (ur f a (cpR i (fun _ => x) (f a))) := by
  refine up_ind n (fun i hi ih => ?_)
  refine A_iload_n dJ7_fill_53178_5 rfl 0 rfl ?_
  refine A_iload_n dJ7_fill_53178_6 rfl 1 rfl ?_
  refine A_icmp_ge (tgt := 20) dJ7_fill_53178_7 rfl (fun h7 => ?_) (fun h7 => ?_)
  · rw [nI_leI (by omega) (by omega)] at h7
    exact A_vret dJ7_fill_53178_20 rfl (⟨rfl, by rw [show i = n by omega]⟩)
  · rw [nI_leI (by omega) (by omega)] at h7
    refine A_aload_n dJ7_fill_53178_10 rfl 2 rfl ?_
    refine A_iload_n dJ7_fill_53178_11 rfl 0 rfl ?_
    refine A_iload_n dJ7_fill_53178_12 rfl 3 rfl ?_
    refine A_iastore i dJ7_fill_53178_13 hL (rfl) (by omega) (hn) ?_
    refine A_iinc (lv' := [(2, .int (nI (i + 1))), (3, .int (nI n)), (0, .ref a), (1, .int x)]) dJ7_fill_53178_14 0 rfl (nI_add i 1) (lb rfl) rfl ?_
    refine A_goto (tgt := 5) dJ7_fill_53178_17 rfl ?_
    refine A_eq rfl rfl (f' := ur f a (cpR (i + 1) (fun _ => x) (f a))) (by rw [u2, ur_s, ur_ur, show x = (fun _ : Nat => x) i from rfl, cpR_s]) ?_
    exact ih (i + 1) (by omega) (by omega)
theorem c_fill {lay : List Ly} (a n : Nat) (x : Int32) (f : Mem) (hL : lay[a]? = some (0, n, [])) (hn : n < 2 ^ 31) : Ct MJ7_fill_53178 0 0 lay lay [.ref a, .int x] f (rt none (ur f a (cpR n (fun _ => x) (f a)))) := by
  refine Ct.of (lv := [(0, .ref a), (1, .int x)]) (by decide) (lb rfl) rfl ?_
  refine A_iconst (v := 0) dJ7_fill_53178_0 rfl ?_
  refine A_istore_n (lv' := [(2, .int 0), (0, .ref a), (1, .int x)]) dJ7_fill_53178_1 rfl (lb rfl) rfl ?_
  refine A_aload_n dJ7_fill_53178_2 rfl 1 rfl ?_
  refine A_alen dJ7_fill_53178_3 hL ?_
  refine A_istore_n (lv' := [(3, .int (nI n)), (2, .int 0), (0, .ref a), (1, .int x)]) dJ7_fill_53178_4 rfl (lb rfl) rfl ?_
  refine A_iload_n dJ7_fill_53178_5 rfl 1 rfl ?_
  refine A_iload_n dJ7_fill_53178_6 rfl 0 rfl ?_
  refine A_icmp_ge (tgt := 20) dJ7_fill_53178_7 rfl (fun h7 => ?_) (fun h7 => ?_)
  · rw [show (0 : Int32) = nI 0 from rfl, nI_leI (by omega) (by omega)] at h7
    exact A_vret dJ7_fill_53178_20 rfl (⟨rfl, by rw [show n = 0 by omega, cpR_z, ur_self]⟩)
  · rw [show (0 : Int32) = nI 0 from rfl, nI_leI (by omega) (by omega)] at h7
    refine A_aload_n dJ7_fill_53178_10 rfl 2 rfl ?_
    refine A_iload_n dJ7_fill_53178_11 rfl 1 rfl ?_
    refine A_iload_n dJ7_fill_53178_12 rfl 3 rfl ?_
    refine A_iastore 0 dJ7_fill_53178_13 hL (rfl) (by omega) (hn) ?_
    refine A_iinc (lv' := [(2, .int 1), (3, .int (nI n)), (0, .ref a), (1, .int x)]) dJ7_fill_53178_14 1 rfl rfl (lb rfl) rfl ?_
    refine A_goto (tgt := 5) dJ7_fill_53178_17 rfl ?_
    refine A_eq rfl rfl (f' := ur f a (cpR (0 + 1) (fun _ => x) (f a))) (by rw [u2, show upd (f a) 0 x = upd (cpR 0 (fun _ => x) (f a)) 0 ((fun _ : Nat => x) 0) by rw [cpR_z], cpR_s]) ?_
    exact lx_fill a n x f hL hn (0 + 1) (by omega)
theorem x_forget (f : Mem) : C0 MX6_forget [.ref 55] f (rt none (u2 f 55 0 0)) := by
  refine Ct.of (lv := [(0, .ref 55)]) (by decide) (lb rfl) rfl ?_
  refine A_aload_n dX6_forget_0 rfl 0 rfl ?_
  refine A_iconst (v := 0) dX6_forget_1 rfl ?_
  refine A_putZ dX6_forget_2 fo_RX6_9 L55 rfl (by decide) ?_
  exact A_vret dX6_forget_5 rfl (⟨rfl, rfl⟩)
def frA (f : Mem) (d : Nat) : Mem := ur (ur f (d + 5) (cpR 4 (fun _ => 0) (f (d + 5)))) (d + 6) (cpR 4 (fun _ => 0) (f (d + 6)))
theorem x_forgetReasons (f : Mem) (d : Nat) (hd : isDesk d) : C0 MX1_forgetReasons [.ref d] f (rt none (frA f d)) := by
  refine Ct.of (lv := [(0, .ref d)]) (by decide) (lb rfl) rfl ?_
  refine A_aload_n dX1_forgetReasons_0 rfl 0 rfl ?_
  refine A_getR (b := d + 5) dX1_forgetReasons_1 fo_RX1_34 (LD0 hd) rfl ?_
  refine A_iconst (v := 0) dX1_forgetReasons_4 rfl ?_
  refine A_callS (M' := MJ7_fill_53178) [.ref (d + 5), .int 0] [] dX1_forgetReasons_5 lk_RX1_60 oJ7_fill_53178 sJ7_fill_53178 rfl rfl ⟨lb rfl, lb rfl⟩ (lb rfl) ⟨lb rfl, lb rfl⟩ (c_fill (d + 5) 4 0 _ (LD5 hd) (lb rfl)) ?_
  rintro _ _ ⟨rfl, rfl⟩
  refine A_aload_n dX1_forgetReasons_8 rfl 0 rfl ?_
  refine A_getR (b := d + 6) dX1_forgetReasons_9 fo_RX1_37 (LD0 hd) rfl ?_
  refine A_iconst (v := 0) dX1_forgetReasons_12 rfl ?_
  refine A_callS (M' := MJ7_fill_53178) [.ref (d + 6), .int 0] [] dX1_forgetReasons_13 lk_RX1_60 oJ7_fill_53178 sJ7_fill_53178 rfl rfl ⟨lb rfl, lb rfl⟩ (lb rfl) ⟨lb rfl, lb rfl⟩ (c_fill (d + 6) 4 0 _ (LD6 hd) (lb rfl)) ?_
  rintro _ _ ⟨rfl, rfl⟩
  exact A_vret dX1_forgetReasons_16 rfl (⟨rfl, by rw [ur_n _ _ (by omega)]; rfl⟩)
theorem nI_sub1 (x : Int32) : x + 1 - 1 = x := by
  rw [Int32.sub_eq_add_neg, Int32.add_assoc, show (1 : Int32) + -1 = 0 by decide, Int32.add_zero]
theorem nI_suc1 (x : Int32) : x - 1 + 1 = x := by
  rw [Int32.sub_eq_add_neg, Int32.add_assoc, show (-1 : Int32) + 1 = 0 by decide, Int32.add_zero]
theorem x_newTask (f : Mem) (d n : Nat) (hd : isDesk d) (hn : f d 0 = nI n) (hn4 : n < 4) : C0 MX1_newTask [.ref d] f (rt (some (.int (nI n))) (u2 (u2 f (d + 13 + 2 * n) 0 0) d 0 (nI n + 1))) := by
  refine Ct.of (lv := [(0, .ref d)]) (by decide) (lb rfl) rfl ?_
  refine A_aload_n dX1_newTask_0 rfl 0 rfl ?_
  refine A_getI dX1_newTask_1 fo_RX1_9 (LD0 hd) rfl ?_
  refine A_topi (nI n) hn ?_
  refine A_iconst (v := 4) dX1_newTask_4 rfl ?_
  refine A_icmp_lt (tgt := 11) dX1_newTask_5 rfl (fun h5 => ?_) (fun h5 => by exact absurd ((nI_ltI (by omega) (by omega)).mpr hn4) h5)
  refine A_aload_n dX1_newTask_11 rfl 0 rfl ?_
  refine A_getR (b := d + 1) dX1_newTask_12 fo_RX1_20 (LD0 hd) rfl ?_
  refine A_aload_n dX1_newTask_15 rfl 0 rfl ?_
  refine A_getI dX1_newTask_16 fo_RX1_9 (LD0 hd) rfl ?_
  refine A_topi (nI n) hn ?_
  refine A_aaload2 (b := d + 13 + 2 * n) n dX1_newTask_19 (LD1 hd) (rfl) (by omega) (lb rfl) ((hd.prog hn4).2) ?_
  refine A_iconst (v := 0) dX1_newTask_20 rfl ?_
  refine A_putI dX1_newTask_21 fo_RX1_66 ((hd.prog hn4).1.1) rfl ?_
  refine A_aload_n dX1_newTask_24 rfl 0 rfl ?_
  refine A_dup dX1_newTask_25 rfl ?_
  refine A_getI dX1_newTask_26 fo_RX1_9 (LD0 hd) rfl ?_
  refine A_topi (nI n) (by rw [u2_n _ _ _ (by omega)]; exact hn) ?_
  refine A_iconst (v := 1) dX1_newTask_29 rfl ?_
  refine A_iadd dX1_newTask_30 ?_
  refine A_putI dX1_newTask_31 fo_RX1_9 (LD0 hd) rfl ?_
  refine A_aload_n dX1_newTask_34 rfl 0 rfl ?_
  refine A_getI dX1_newTask_35 fo_RX1_9 (LD0 hd) rfl ?_
  refine A_topi (nI (n + 1)) (by rw [u2_s, upd_s]; exact nI_add n 1) ?_
  refine A_iconst (v := 1) dX1_newTask_38 rfl ?_
  refine A_isub dX1_newTask_39 ?_
  exact A_iret dX1_newTask_40 rfl (rti (by rw [← nI_add n 1]; exact nI_sub1 _) rfl)
theorem x_pcopy (f : Mem) (q r : Nat) (hq : isProg q) (hr : isProg r) (h1 : q ≠ r + 1) : C0 MX3_copyFrom [.ref q, .ref r] f (rt none (ur (u2 f q 0 (f r 0)) (q + 1) (cpR 48 (f (r + 1)) (f (q + 1))))) := by
  refine Ct.of (lv := [(0, .ref q), (1, .ref r)]) (by decide) (lb rfl) rfl ?_
  refine A_aload_n dX3_copyFrom_0 rfl 0 rfl ?_
  refine A_aload_n dX3_copyFrom_1 rfl 1 rfl ?_
  refine A_getI dX3_copyFrom_2 fo_RX3_9 hr.1 rfl ?_
  refine A_putI dX3_copyFrom_5 fo_RX3_9 hq.1 rfl ?_
  refine A_aload_n dX3_copyFrom_8 rfl 1 rfl ?_
  refine A_getR (b := r + 1) dX3_copyFrom_9 fo_RX3_15 hr.1 rfl ?_
  refine A_iconst (v := 0) dX3_copyFrom_12 rfl ?_
  refine A_aload_n dX3_copyFrom_13 rfl 0 rfl ?_
  refine A_getR (b := q + 1) dX3_copyFrom_14 fo_RX3_15 hq.1 rfl ?_
  refine A_iconst (v := 0) dX3_copyFrom_17 rfl ?_
  refine A_aload_n dX3_copyFrom_18 rfl 0 rfl ?_
  refine A_getR (b := q + 1) dX3_copyFrom_19 fo_RX3_15 hq.1 rfl ?_
  refine A_alen dX3_copyFrom_22 hq.2 ?_
  refine A_copy 0 0 48 dX3_copyFrom_23 lk_RX3_19 hr.2 hq.2 rfl rfl rfl (lb rfl) (lb rfl) ⟨lb rfl, lb rfl⟩ ⟨lb rfl, lb rfl⟩ ?_
  exact A_vret dX3_copyFrom_26 rfl (⟨rfl, cpy_ur (u2_n _ _ _ (by omega)) (u2_n _ _ _ (by omega))⟩)
