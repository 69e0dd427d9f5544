/-! round, lay: the class -/
theorem b_0 : ∀ j, j < 3 → ((BitVec.ofNat 32 j &&& 31#32).smod 32#32).toNat = j := by decide +kernel
theorem bv (x : BitVec 32) (j : Nat) (hj : j < 3) : x.sshiftRight j &&& 1#32 = x >>> j &&& 1#32 := by
  apply BitVec.eq_of_getLsbD_eq
  intro i hi
  rw [BitVec.getLsbD_and, BitVec.getLsbD_and, BitVec.getLsbD_sshiftRight, BitVec.getLsbD_ushiftRight]
  by_cases h : i = 0
  · subst h
    simp
    intro h2
    omega
  · have : (1#32).getLsbD i = false := by
      rw [BitVec.getLsbD_one]
      simp [h]
    rw [this]; simp
theorem bit_u (x : Int32) {j : Nat} (hj : j < 3) : (x.toUInt32 >>> ((nI j).toUInt32 &&& Int32.toUInt32 31)).toInt32 &&& 1 = (x >>> (nI j &&& 31)) &&& 1 := by
  apply Int32.toBitVec_inj.mp
  simp only [nI, Int32.toBitVec_and, Int32.toBitVec_shiftRight, Int32.toBitVec_ofNat', UInt32.toBitVec_toInt32, UInt32.toBitVec_shiftRight, UInt32.toBitVec_and, Int32.toBitVec_toUInt32]
  match j, hj with
  | 0, _ => exact (bv x.toBitVec 0 (by decide)).symm
  | 1, _ => exact (bv x.toBitVec 1 (by decide)).symm
  | 2, _ => exact (bv x.toBitVec 2 (by decide)).symm

abbrev bitP (x : Int32) (j : Nat) : Prop := (x >>> (nI j &&& 31)) &&& 1 = 1
def rpa (U : Ro) (x : Int32) : Nat → Int32
  | 0 => x
  | j + 1 => rpa U x j ||| (if bitP (rpa U x j) j then U j else 0)
def rpn (U : Ro) (x : Int32) : Nat → Int32
  | 0 => x
  | c + 1 => rpa U (rpn U x c) 3
abbrev rdP (U : Ro) (b : Nat) : Prop := ∃ i, i < b ∧ bitP (rpn U (U i) 3) i
theorem rd_t {U : Ro} {b : Nat} : rdP U (b + 1) ↔ (rdP U b ∨ bitP (rpn U (U b) 3) b) := by
  constructor
  · rintro ⟨i, hi, h⟩
    rcases Nat.lt_or_ge i b with q | q
    · exact .inl ⟨i, q, h⟩
    · rw [show i = b by omega] at h; exact .inr h
  · rintro (⟨i, hi, h⟩ | h)
    · exact ⟨i, by omega, h⟩
    · exact ⟨b, by omega, h⟩
theorem rpa_t {U : Ro} {x : Int32} {j : Nat} (h : bitP (rpa U x j) j) : rpa U x (j + 1) = rpa U x j ||| U j := by rw [rpa, if_pos h]
theorem rpa_f {U : Ro} {x : Int32} {j : Nat} (h : ¬ bitP (rpa U x j) j) : rpa U x (j + 1) = rpa U x j ||| 0 := by rw [rpa, if_neg h]
theorem lx_r1 (f : Mem) (U : Ro) (hU : ∀ m, m < 3 → f 85 m = U m) (x : Int32) (c b : Nat) (kk : A (cM MX6_goesRound 0 0 layT layT (rt (some (.int (bz (rdP U 3)))) f)) 64 [(3, .int (rpa U x 3)), (4, .int (nI c)), (2, .int (nI b)), (1, .int (bz (rdP U b))), (0, .ref 55)] [] f) : ∀ j, j ≤ 3 → A (cM MX6_goesRound 0 0 layT layT (rt (some (.int (bz (rdP U 3)))) f)) 28 [(5, .int (nI j)), (3, .int (rpa U x j)), (4, .int (nI c)), (2, .int (nI b)), (1, .int (bz (rdP U b))), (0, .ref 55)] [] f := by
  refine up_ind 3 (fun j hj ih => ?_)
  refine A_iload dX6_goesRound_28 0 rfl ?_
  refine A_iconst (v := 3) dX6_goesRound_30 rfl ?_
  refine A_icmp_ge (tgt := 64) dX6_goesRound_31 rfl (fun h31 => ?_) (fun h31 => ?_)
  · rw [show (3 : Int32) = nI 3 from rfl, nI_leI (by omega) (by omega)] at h31
    have e3 : j = 3 := by omega
    subst e3
    refine A_sub [1, 2, 3, 4, 5] rfl ?_
    exact kk
  · rw [show (3 : Int32) = nI 3 from rfl, nI_leI (by omega) (by omega)] at h31
    refine A_iload_n dX6_goesRound_34 rfl 1 rfl ?_
    refine A_iload_n dX6_goesRound_35 rfl 1 rfl ?_
    refine A_iload dX6_goesRound_36 0 rfl ?_
    refine A_iushr dX6_goesRound_38 ?_
    refine A_iconst (v := 1) dX6_goesRound_39 rfl ?_
    refine A_iand dX6_goesRound_40 ?_
    refine A_iconst (v := 1) dX6_goesRound_41 rfl ?_
    refine A_icmp_ne (tgt := 55) dX6_goesRound_42 rfl (fun h42 => ?_) (fun h42 => ?_)
    · rw [bit_u _ (show j < 3 by omega)] at h42
      refine A_iconst (v := 0) dX6_goesRound_55 rfl ?_
      refine A_ior dX6_goesRound_56 ?_
      refine A_istore_n (lv' := [(3, .int ((rpa U x j) ||| 0)), (5, .int (nI j)), (4, .int (nI c)), (2, .int (nI b)), (1, .int (bz (rdP U b))), (0, .ref 55)]) dX6_goesRound_57 rfl (lb rfl) rfl ?_
      refine A_iinc (lv' := [(5, .int (nI (j + 1))), (3, .int ((rpa U x j) ||| 0)), (4, .int (nI c)), (2, .int (nI b)), (1, .int (bz (rdP U b))), (0, .ref 55)]) dX6_goesRound_58 1 rfl (nI_add j 1) (lb rfl) rfl ?_
      refine A_goto (tgt := 28) dX6_goesRound_61 rfl ?_
      have r := ih (j + 1) (by omega) (by omega)
      rw [rpa_f h42] at r
      refine A_sub [0, 1, 2, 3, 4, 5] rfl ?_
      exact r
    · rw [bit_u _ (show j < 3 by omega)] at h42
      refine A_aload_n dX6_goesRound_45 rfl 5 rfl ?_
      refine A_getR (b := 85) dX6_goesRound_46 fo_RX6_42 L55 rfl ?_
      refine A_iload dX6_goesRound_49 0 rfl ?_
      refine A_iaload j dX6_goesRound_51 L85 (rfl) (by omega) (lb rfl) ?_
      refine A_topi (U j) (hU j (by omega)) ?_
      refine A_goto (tgt := 56) dX6_goesRound_52 rfl ?_
      refine A_ior dX6_goesRound_56 ?_
      refine A_istore_n (lv' := [(3, .int ((rpa U x j) ||| (U j))), (5, .int (nI j)), (4, .int (nI c)), (2, .int (nI b)), (1, .int (bz (rdP U b))), (0, .ref 55)]) dX6_goesRound_57 rfl (lb rfl) rfl ?_
      refine A_iinc (lv' := [(5, .int (nI (j + 1))), (3, .int ((rpa U x j) ||| (U j))), (4, .int (nI c)), (2, .int (nI b)), (1, .int (bz (rdP U b))), (0, .ref 55)]) dX6_goesRound_58 1 rfl (nI_add j 1) (lb rfl) rfl ?_
      refine A_goto (tgt := 28) dX6_goesRound_61 rfl ?_
      have r := ih (j + 1) (by omega) (by omega)
      rw [rpa_t h42] at r
      refine A_sub [0, 1, 2, 3, 4, 5] rfl ?_
      exact r
theorem lx_r2 (f : Mem) (U : Ro) (hU : ∀ m, m < 3 → f 85 m = U m) (b : Nat) (kk : A (cM MX6_goesRound 0 0 layT layT (rt (some (.int (bz (rdP U 3)))) f)) 70 [(3, .int (rpn U (U b) 3)), (2, .int (nI b)), (1, .int (bz (rdP U b))), (0, .ref 55)] [] f) : ∀ c, c ≤ 3 → A (cM MX6_goesRound 0 0 layT layT (rt (some (.int (bz (rdP U 3)))) f)) 19 [(4, .int (nI c)), (3, .int (rpn U (U b) c)), (2, .int (nI b)), (1, .int (bz (rdP U b))), (0, .ref 55)] [] f := by
  refine up_ind 3 (fun c hj ih => ?_)
  refine A_iload dX6_goesRound_19 0 rfl ?_
  refine A_iconst (v := 3) dX6_goesRound_21 rfl ?_
  refine A_icmp_ge (tgt := 70) dX6_goesRound_22 rfl (fun h22 => ?_) (fun h22 => ?_)
  · rw [show (3 : Int32) = nI 3 from rfl, nI_leI (by omega) (by omega)] at h22
    have e3 : c = 3 := by omega
    subst e3
    refine A_sub [1, 2, 3, 4] rfl ?_
    exact kk
  · rw [show (3 : Int32) = nI 3 from rfl, nI_leI (by omega) (by omega)] at h22
    refine A_iconst (v := 0) dX6_goesRound_25 rfl ?_
    refine A_istore (lv' := [(5, .int 0), (4, .int (nI c)), (3, .int (rpn U (U b) c)), (2, .int (nI b)), (1, .int (bz (rdP U b))), (0, .ref 55)]) dX6_goesRound_26 (lb rfl) rfl ?_
    refine A_sub [0, 2, 1, 3, 4, 5] rfl ?_
    refine lx_r1 f U hU (rpn U (U b) c) c b ?_ 0 (by omega)
    refine A_iinc (lv' := [(4, .int (nI (c + 1))), (3, .int (rpa U (rpn U (U b) c) 3)), (2, .int (nI b)), (1, .int (bz (rdP U b))), (0, .ref 55)]) dX6_goesRound_64 1 rfl (nI_add c 1) (lb rfl) rfl ?_
    refine A_goto (tgt := 19) dX6_goesRound_67 rfl ?_
    exact ih (c + 1) (by omega) (by omega)
theorem lx_r3 (f : Mem) (U : Ro) (hU : ∀ m, m < 3 → f 85 m = U m) (b : Nat) (hb : b < 3) (ih : ∀ i, b < i → i ≤ 3 → A (cM MX6_goesRound 0 0 layT layT (rt (some (.int (bz (rdP U 3)))) f)) 4 [(2, .int (nI i)), (1, .int (bz (rdP U i))), (0, .ref 55)] [] f) : A (cM MX6_goesRound 0 0 layT layT (rt (some (.int (bz (rdP U 3)))) f)) 70 [(3, .int (rpn U (U b) 3)), (2, .int (nI b)), (1, .int (bz (rdP U b))), (0, .ref 55)] [] f := by
  refine A_iload_n dX6_goesRound_70 rfl 2 rfl ?_
  refine A_if_ne (tgt := 83) dX6_goesRound_71 rfl (fun h71 => ?_) (fun h71 => ?_)
  · refine A_iconst (v := 1) dX6_goesRound_83 rfl ?_
    refine A_goto (tgt := 88) dX6_goesRound_84 rfl ?_
    refine A_istore_n (lv' := [(1, .int 1), (3, .int (rpn U (U b) 3)), (2, .int (nI b)), (0, .ref 55)]) dX6_goesRound_88 rfl (lb rfl) rfl ?_
    refine A_iinc (lv' := [(2, .int (nI (b + 1))), (1, .int 1), (3, .int (rpn U (U b) 3)), (0, .ref 55)]) dX6_goesRound_89 2 rfl (nI_add b 1) (lb rfl) rfl ?_
    refine A_goto (tgt := 4) dX6_goesRound_92 rfl ?_
    have r := ih (b + 1) (by omega) (by omega)
    rw [show bz (rdP U (b + 1)) = 1 from bz_t (rd_t.mpr (by first | exact .inl (bz_n0.mp h71) | exact .inr h80))] at r
    refine A_sub [0, 1, 3] rfl ?_
    exact r
  · refine A_iload_n dX6_goesRound_74 rfl 0 rfl ?_
    refine A_iload_n dX6_goesRound_75 rfl 1 rfl ?_
    refine A_iushr dX6_goesRound_76 ?_
    refine A_iconst (v := 1) dX6_goesRound_77 rfl ?_
    refine A_iand dX6_goesRound_78 ?_
    refine A_iconst (v := 1) dX6_goesRound_79 rfl ?_
    refine A_icmp_ne (tgt := 87) dX6_goesRound_80 rfl (fun h80 => ?_) (fun h80 => ?_)
    · rw [bit_u _ (show b < 3 by omega)] at h80
      refine A_iconst (v := 0) dX6_goesRound_87 rfl ?_
      refine A_istore_n (lv' := [(1, .int 0), (3, .int (rpn U (U b) 3)), (2, .int (nI b)), (0, .ref 55)]) dX6_goesRound_88 rfl (lb rfl) rfl ?_
      refine A_iinc (lv' := [(2, .int (nI (b + 1))), (1, .int 0), (3, .int (rpn U (U b) 3)), (0, .ref 55)]) dX6_goesRound_89 2 rfl (nI_add b 1) (lb rfl) rfl ?_
      refine A_goto (tgt := 4) dX6_goesRound_92 rfl ?_
      have r := ih (b + 1) (by omega) (by omega)
      rw [show bz (rdP U (b + 1)) = 0 from bz_f (fun z => (rd_t.mp z).elim (bz_0.mp h71) h80)] at r
      refine A_sub [0, 1, 3] rfl ?_
      exact r
    · rw [bit_u _ (show b < 3 by omega)] at h80
      refine A_iconst (v := 1) dX6_goesRound_83 rfl ?_
      refine A_goto (tgt := 88) dX6_goesRound_84 rfl ?_
      refine A_istore_n (lv' := [(1, .int 1), (3, .int (rpn U (U b) 3)), (2, .int (nI b)), (0, .ref 55)]) dX6_goesRound_88 rfl (lb rfl) rfl ?_
      refine A_iinc (lv' := [(2, .int (nI (b + 1))), (1, .int 1), (3, .int (rpn U (U b) 3)), (0, .ref 55)]) dX6_goesRound_89 2 rfl (nI_add b 1) (lb rfl) rfl ?_
      refine A_goto (tgt := 4) dX6_goesRound_92 rfl ?_
      have r := ih (b + 1) (by omega) (by omega)
      rw [show bz (rdP U (b + 1)) = 1 from bz_t (rd_t.mpr (by first | exact .inl (bz_n0.mp h71) | exact .inr h80))] at r
      refine A_sub [0, 1, 3] rfl ?_
      exact r
theorem lx_r4 (f : Mem) (U : Ro) (hU : ∀ m, m < 3 → f 85 m = U m) : ∀ b, b ≤ 3 → A (cM MX6_goesRound 0 0 layT layT (rt (some (.int (bz (rdP U 3)))) f)) 4 [(2, .int (nI b)), (1, .int (bz (rdP U b))), (0, .ref 55)] [] f := by
  refine up_ind 3 (fun b hb ih => ?_)
  refine A_iload_n dX6_goesRound_4 rfl 0 rfl ?_
  refine A_iconst (v := 3) dX6_goesRound_5 rfl ?_
  refine A_icmp_ge (tgt := 95) dX6_goesRound_6 rfl (fun h6 => ?_) (fun h6 => ?_)
  · rw [show (3 : Int32) = nI 3 from rfl, nI_leI (by omega) (by omega)] at h6
    have e3 : b = 3 := by omega
    subst e3
    refine A_iload_n dX6_goesRound_95 rfl 1 rfl ?_
    exact A_zret dX6_goesRound_96 rfl (bz_01 _) (⟨rfl, rfl⟩)
  · rw [show (3 : Int32) = nI 3 from rfl, nI_leI (by omega) (by omega)] at h6
    refine A_aload_n dX6_goesRound_9 rfl 2 rfl ?_
    refine A_getR (b := 85) dX6_goesRound_10 fo_RX6_42 L55 rfl ?_
    refine A_iload_n dX6_goesRound_13 rfl 0 rfl ?_
    refine A_iaload b dX6_goesRound_14 L85 (rfl) (by omega) (lb rfl) ?_
    refine A_topi (U b) (hU b (by omega)) ?_
    refine A_istore_n (lv' := [(3, .int (U b)), (2, .int (nI b)), (1, .int (bz (rdP U b))), (0, .ref 55)]) dX6_goesRound_15 rfl (lb rfl) rfl ?_
    refine A_iconst (v := 0) dX6_goesRound_16 rfl ?_
    refine A_istore (lv' := [(4, .int 0), (3, .int (U b)), (2, .int (nI b)), (1, .int (bz (rdP U b))), (0, .ref 55)]) dX6_goesRound_17 (lb rfl) rfl ?_
    refine A_sub [0, 1, 2, 3, 4] rfl ?_
    exact lx_r2 f U hU b (lx_r3 f U hU b (by omega) ih) 0 (by omega)
theorem x_goesRound (f : Mem) (U : Ro) (hU : ∀ m, m < 3 → f 85 m = U m) : C0 MX6_goesRound [.ref 55] f (rt (some (.int (bz (rdP U 3)))) f) := by
  refine Ct.of (lv := [(0, .ref 55)]) (by decide) (lb rfl) rfl ?_
  refine A_iconst (v := 0) dX6_goesRound_0 rfl ?_
  refine A_istore_n (lv' := [(1, .int 0), (0, .ref 55)]) dX6_goesRound_1 rfl (lb rfl) rfl ?_
  refine A_iconst (v := 0) dX6_goesRound_2 rfl ?_
  refine A_istore_n (lv' := [(2, .int 0), (1, .int 0), (0, .ref 55)]) dX6_goesRound_3 rfl (lb rfl) rfl ?_
  have r := lx_r4 f U hU 0 (by omega)
  rw [show bz (rdP U 0) = 0 from bz_f (fun ⟨i, hi, _⟩ => absurd hi (by omega))] at r
  exact r
theorem x_round (f : Mem) (s : Sg) (k p rz lz : Ro) (hC : XC f s k p rz lz) (w : wfC s k p) (d : Cd) (hNc : XNc f d.1 d.2.1 d.2.2.1 d.2.2.2) (hwN : wN d.1 d.2.1 d.2.2.1) (hS : XS f p d (s, k)) : C0 MX10_round [.ref 0] f (fun r h => r = some (.int (bz (rdP (fun m => un p (s 13 0) (sch p (s, k)).2.1 (sch p (s, k)).1 m) 3))) ∧ XS h p d (s, k) ∧ ∀ b, b < 55 ∨ 85 < b → h b = f b) := by
  refine Ct.of (lv := [(0, .ref 0)]) (by decide) (lb rfl) rfl ?_
  refine A_aload_n dX10_round_0 rfl 0 rfl ?_
  refine A_getR (b := 55) dX10_round_1 fo_RX10_52 L0 rfl ?_
  refine A_aload_n dX10_round_4 rfl 0 rfl ?_
  refine A_getR (b := 1) dX10_round_5 fo_RX10_10 L0 rfl ?_
  refine A_aload_n dX10_round_8 rfl 0 rfl ?_
  refine A_getR (b := 51) dX10_round_9 fo_RX10_45 L0 rfl ?_
  refine A_callV (M' := MX6_explore) [.ref 1, .ref 51] [] 55 dX10_round_12 lk_RX10_215 oX6_explore iX6_explore rfl rfl ⟨lb rfl, lb rfl⟩ (lb rfl) ⟨lb rfl, lb rfl⟩ L55 rfl (x_explore f s k p rz lz hC w d hNc hwN hS) ?_
  rintro _ h ⟨rfl, x, hS2, hb⟩
  have hW := Jw_s (p := p) (u := (s, k)) w
  refine A_aload_n dX10_round_15 rfl 0 rfl ?_
  refine A_getR (b := 55) dX10_round_16 fo_RX10_52 L0 rfl ?_
  refine A_callV (M' := MX6_goesRound) [] [] 55 dX10_round_19 lk_RX10_262 oX6_goesRound iX6_goesRound rfl rfl ⟨lb rfl, lb rfl⟩ (lb rfl) ⟨lb rfl, lb rfl⟩ L55 rfl (x_goesRound h (fun m => un p (s 13 0) (sch p (s, k)).2.1 (sch p (s, k)).1 m) x.2.1.2.2.2.2) ?_
  rintro _ g0 ⟨rfl, hg0⟩
  rw [hg0]
  refine A_callS (M' := MX10_asNumber) [.int (bz (rdP (fun m => un p (s 13 0) (sch p (s, k)).2.1 (sch p (s, k)).1 m) 3))] [] dX10_round_22 lk_RX10_88 oX10_asNumber sX10_asNumber rfl rfl ⟨lb rfl, lb rfl⟩ (lb rfl) ⟨lb rfl, lb rfl⟩ (x_asNumber (bz (rdP (fun m => un p (s 13 0) (sch p (s, k)).2.1 (sch p (s, k)).1 m) 3)) _ (bz_01 _)) ?_
  rintro _ g0 ⟨rfl, hg0⟩
  rw [hg0]
  exact A_iret dX10_round_25 rfl (⟨rfl, hS2, hb⟩)
