/-! the words: strings that are only read -/
theorem fl_v : Cond.fieldLink RJ0 9 RJ0 "value" "[B" ∈ gw := mem_gw 1326 (by decide +kernel) (by decide +kernel)
theorem fl_c : Cond.fieldLink RJ0 15 RJ0 "coder" "B" ∈ gw := mem_gw 1327 (by decide +kernel) (by decide +kernel)
theorem fl_s : Cond.fieldLink RJ0 38 RJ0 "COMPACT_STRINGS" "Z" ∈ gw := mem_gw 510 (by decide +kernel) (by decide +kernel)
theorem fl_q : Cond.fieldLink RJ0 1053 "jdk/internal/util/Preconditions" "SIOOBE_FORMATTER" "Ljava/util/function/BiFunction;" ∈ gw := mem_gw 526 (by decide +kernel) (by decide +kernel)
theorem A_strV {c : CT} {pc : Nat} {lv : List (Nat × Value)} {st : List Value} {f : Mem} {i : Nat} (hi : i < 9) (hd : decode (gt_c c.1) pc = .ok (.getfield 9, 3)) (hR : (gt_y c.1).cls = RJ0) (k : A c (pc + 3) lv (.ref (1100 + i) :: st) f) : A c pc lv (.ref (1000 + i) :: st) f := fun p l e s m args below meth cc H locs ls D al ac hX hS hP hV hl =>
  vk_getf hX.1 hX.2.1 (hS.2.2.2.1.1.1 i hi).2.2.1 hV (hR ▸ hX.2.2.2.2.2.1) (hX.2.2.2.2.2.2.1 _ fl_v) (fun _ hx => hx) hd (k p l e s m args below meth cc H locs ls D al ac hX hS hP hV hl)
theorem A_strC {c : CT} {pc : Nat} {lv : List (Nat × Value)} {st : List Value} {f : Mem} {i : Nat} (hi : i < 9) (hd : decode (gt_c c.1) pc = .ok (.getfield 15, 3)) (hR : (gt_y c.1).cls = RJ0) (k : A c (pc + 3) lv (.int 0 :: st) f) : A c pc lv (.ref (1000 + i) :: st) f := fun p l e s m args below meth cc H locs ls D al ac hX hS hP hV hl =>
  vk_getf hX.1 hX.2.1 (hS.2.2.2.1.1.1 i hi).2.1 hV (hR ▸ hX.2.2.2.2.2.1) (hX.2.2.2.2.2.2.1 _ fl_c) (fun _ hx => hx) hd (k p l e s m args below meth cc H locs ls D al ac hX hS hP hV hl)
theorem A_strZ {c : CT} {pc : Nat} {lv : List (Nat × Value)} {st : List Value} {f : Mem} (hd : decode (gt_c c.1) pc = .ok (.getstatic 38, 3)) (hR : (gt_y c.1).cls = RJ0) (k : A c (pc + 3) lv (.int 1 :: st) f) : A c pc lv st f := fun p l e s m args below meth cc H locs ls D al ac hX hS hP hV hl =>
  va_gets hX.1 hX.2.1 hS.2.2.2.1.2.1 hV (hR ▸ hX.2.2.2.2.2.1) (hX.2.2.2.2.2.2.1 _ fl_s) (fun _ hx => hx) hd (k p l e s m args below meth cc H locs ls D al ac hX hS hP hV hl)
theorem A_strL {c : CT} {pc : Nat} {lv : List (Nat × Value)} {st : List Value} {f : Mem} {i : Nat} (hi : i < 9) (hd : decode (gt_c c.1) pc = .ok (.arraylength, 1)) (k : A c (pc + 1) lv (.int (nI (gt_len.getD i 0)) :: st) f) : A c pc lv (.ref (1100 + i) :: st) f := fun p l e s m args below meth cc H locs ls D al ac hX hS hP hV hl =>
  va_tlen hX.1 hX.2.1 (hS.2.2.2.1.1.1 i hi).2.2.2 hV rfl hd (k p l e s m args below meth cc H locs ls D al ac hX hS hP hV hl)
theorem A_strB {c : CT} {pc : Nat} {lv : List (Nat × Value)} {st : List Value} {f : Mem} {i j : Nat} (hi : i < 9) (hj : j < gt_len.getD i 0) (hn : gt_len.getD i 0 < 2 ^ 31) (hd : decode (gt_c c.1) pc = .ok (.baload, 1)) (k : A c (pc + 1) lv (.int ((gt_byt.getD i []).getD j 0) :: st) f) : A c pc lv (.int (nI j) :: .ref (1100 + i) :: st) f := fun p l e s m args below meth cc H locs ls D al ac hX hS hP hV hl =>
  va_tb hX.1 hX.2.1 (hS.2.2.2.1.1.1 i hi).2.2.2 hV (vp_in_nI hj hn) (by rw [nI_clamp (by omega)]; rfl) hd (k p l e s m args below meth cc H locs ls D al ac hX hS hP hV hl)
theorem A_callVS {M : MT} {R : Room} {nc ns : Nat} {X : XT} {Z : ZT} {lay : List Ly} {pc : Nat} {lv : List (Nat × Value)} {st : List Value} {f : Mem} {M' : MT} {idx n i : Nat} {post : Option Value → Mem → Prop} (As rest : List Value) (hi : i < 9) (hd : decode (gt_c M) pc = .ok (.invokevirtual idx, 3)) (hl' : Cond.methodLink (gt_y M).cls idx (gt_y M') ∈ gw) (hO : gt_MO M' n) (hI : gt_IO M') (hC : (gt_y M').cls = "java/lang/String") (hst : As.reverse ++ .ref (1000 + i) :: rest = st) (hn : As.length = n) (hR : gt_rm R M') (hrest : (rest.map fun v => v.category).sum ≤ 8) (hcs : nc ≤ R.cells ∧ ns ≤ R.slots) (ct : Ct M' 0 0 lay lay (.ref (1000 + i) :: As) f post)
    (k : ∀ (r : Option Value) (g : Mem), post r g → A (M, R, nc, ns, X, Z, lay) (pc + 3) lv (r.toList ++ rest) g) : A (M, R, nc, ns, X, Z, lay) pc lv st f := by
  intro p l e s m args below meth cc H locs ls D al ac hX hS hP hV hl
  subst hst
  intro T hT XX
  have hz : H.size = al lay.length := gt_size hS.1 hS.2.1 hS.2.2.2.2.2.1 hS.2.2.2.2.2.2 hP hV (by rw [← hT]; exact gt_stand_size XX)
  have hrec := vk_recv hS.2.2.2.1.1 hi hV
  rw [← hC] at hrec
  refine gt_behind (rest := rest) (st := (As.reverse ++ .ref (1000 + i) :: rest).map (cz al)) hV XX hT (va_runV (As := As.map (cz al)) (b := al (1000 + i)) (C := (gt_y M').cls) ⟨hX.1, hX.2.1, hX.2.2.1, hX.2.2.2.2.2.1, hX.2.2.2.2.2.2.1⟩ (ct l D al ac hS.1 hS.2.1) ⟨gt_CB hX.2.2.2.2.2.2.1 hO hl' hR, hX.2.2.2.2.2.2.1 _ hI.1, hX.2.2.2.2.2.2.1 _ hI.2⟩ ⟨gt_blind _ D al ac lay f, hrec, gt_pre (.ref (1000 + i) :: As) hS.2.2.1 hS.2.2.2.1 hP hV hz⟩ rfl (by rw [List.length_map]; exact hn) hl.1 (by simp [cz, List.map_reverse]) (lv_room (by rw [gt_cat]; exact hrest)) hd hcs) ?_
  intro r g H1 locs1 hp hP1 hV1
  exact k r g hp p l e s m args below meth cc H1 locs1 ls D al ac hX hS hP1 hV1 hl
/-- a contract whose last argument nobody asks for -/
def Cq (M : MT) (lay : List Ly) (x y : Int32) (f : Mem) (post : Option Value → Mem → Prop) : Prop :=
  ∀ (l : Launch) (D : va_G) (al : Nat → Nat) (ac : Nat → ClassId) (v : Value), v.category = 1 → gt_al al → lay.length < 1000 → Met l (gt_y M) (gt_ws M) (gt_R M 0 0) (va_Pc [.int x, .int y, v] (gt_P D al ac lay f)) (gt_Q D al ac lay post) 0 0 (gt_A al)
theorem Cq.of {M : MT} {lay : List Ly} {x y : Int32} {f : Mem} {post : Option Value → Mem → Prop} (hy : plainName (gt_y M).cls = true) (hn : gt_L M = 3)
    (h : A (cM M 0 0 lay lay post) 0 [(0, .int x), (1, .int y)] [] f) : Cq M lay x y f post := by
  intro l D al ac v hv0 hal hlen
  refine Met.ofW (cc := gt_c M) (maxL := gt_L M) (ret := gt_r M) hy rfl ?_
  intro p e s m args below meth c s₁ B hml hv
  obtain ⟨rfl, hP, hK, hE, hz⟩ := hv
  have hts := atoms_spec (ws := gt_ws M) B.pre
  have hown : s.vm.findClass (gt_y M).cls = some m.cls := findClass_of_methodNamed B.named
  have hl := lv_entry [.int x, .int y, v] (n := gt_L M) (by rw [hn]; unfold lg_sl; cases v <;> first | (exact Nat.le_refl 3) | (exact absurd hv0 (by simp [Value.category])))
  rw [lg_entry_eq]
  generalize (lg_sl [.int x, .int y, v] ++ List.replicate (gt_L M - (lg_sl [.int x, .int y, v]).length) Slot.unset).toArray = ls at hl ⊢
  exact h p l e s m _ below meth c s.heap [] ls D al ac ⟨B.exec, B.bytes, hml, B.returns, B.notSynchronized, hown, fun w hw => hts w (List.mem_cons_of_mem _ hw), fun hn => ((name_of_methodNamed B.named B.method).1).trans hn⟩
    ⟨hal, hlen, hK, hE, trivial, hz, by rw [hz, hal lay.length hlen]; exact Nat.le_add_right _ _⟩ hP va_S.rf (lv_sub hl [0, 1] rfl)
theorem A_chk {M : MT} {R : Room} {nc ns : Nat} {X : XT} {Z : ZT} {lay : List Ly} {pc : Nat} {lv : List (Nat × Value)} {rest : List Value} {f : Mem} {M' : MT} {idx : Nat} {x y : Int32} {post : Option Value → Mem → Prop} (hq : decode (gt_c M) pc = .ok (.getstatic 1053, 3)) (hJ : (gt_y M).cls = RJ0) (hd : decode (gt_c M) (pc + 3) = .ok (.invokestatic idx, 3)) (hl' : Cond.methodLink (gt_y M).cls idx (gt_y M') ∈ gw) (hO : gt_MO M' 3) (hI : Cond.static (gt_y M') ∈ gw) (hR : gt_rm R M') (hrest : (rest.map fun v => v.category).sum ≤ 8) (hcs : nc ≤ R.cells ∧ ns ≤ R.slots) (ct : Cq M' lay x y f post)
    (k : ∀ (r : Option Value) (g : Mem), post r g → A (M, R, nc, ns, X, Z, lay) (pc + 6) lv (r.toList ++ rest) g) : A (M, R, nc, ns, X, Z, lay) pc lv (.int y :: .int x :: rest) f := by
  intro p l e s m args below meth cc H locs ls D al ac hX hS hP hV hl
  have key : ∀ v : Value, v.category = 1 → W p l e R s m args below meth cc H locs nc ns (Z below args s D al ac) (F0 m (pc + 3) ls (v :: (.int y :: .int x :: rest).map (cz al))) := by
    intro v hv T hT XX
    have hz : H.size = al lay.length := gt_size hS.1 hS.2.1 hS.2.2.2.2.2.1 hS.2.2.2.2.2.2 hP hV (by rw [← hT]; exact gt_stand_size XX)
    refine gt_behind (rest := rest) (st := v :: (.int y :: .int x :: rest).map (cz al)) hV XX hT (va_runS (As := [.int x, .int y, v]) ⟨hX.1, hX.2.1, hX.2.2.1, hX.2.2.2.2.2.1, hX.2.2.2.2.2.2.1⟩ (ct l D al ac v hv hS.1 hS.2.1) ⟨gt_CB hX.2.2.2.2.2.2.1 hO hl' hR, hX.2.2.2.2.2.2.1 _ hI⟩ ⟨gt_blind _ D al ac lay f, fun U hU hW => ⟨rfl, by rw [hU]; exact hP, hS.2.2.1.warm hW, by rw [hU]; exact hS.2.2.2.1.move hW.alike hV, by rw [hU]; exact hz⟩⟩ rfl rfl hl.1 (by simp [cz]) (lv_room (by rw [gt_cat]; exact hrest)) hd hcs) ?_
    intro r g H1 locs1 hp hP1 hV1
    exact k r g hp p l e s m args below meth cc H1 locs1 ls D al ac hX hS hP1 hV1 hl
  rcases hS.2.2.2.1.2.2 with h | ⟨t, h⟩
  · exact va_gets hX.1 hX.2.1 h hV (hJ ▸ hX.2.2.2.2.2.1) (hX.2.2.2.2.2.2.1 _ fl_q) (fun _ hx => hx) hq (key .null rfl)
  · exact va_gets hX.1 hX.2.1 h hV (hJ ▸ hX.2.2.2.2.2.1) (hX.2.2.2.2.2.2.1 _ fl_q) (fun _ hx => hx) hq (key (.ref t) rfl)

theorem j_coder {lay : List Ly} (i : Nat) (hi : i < 9) (f : Mem) : Ct MJ0_coder_7d493 0 0 lay lay [.ref (1000 + i)] f (rt (some (.int 0)) f) := by
  refine Ct.of (lv := [(0, .ref (1000 + i))]) (by decide) (lb rfl) rfl ?_
  refine A_strZ dJ0_coder_7d493_0 rfl ?_
  refine A_if_eq (tgt := 13) dJ0_coder_7d493_3 rfl (fun h => absurd h (by decide)) (fun _ => ?_)
  refine A_aload_n dJ0_coder_7d493_6 rfl 0 rfl ?_
  refine A_strC hi dJ0_coder_7d493_7 rfl ?_
  refine A_goto (tgt := 14) dJ0_coder_7d493_10 rfl ?_
  exact A_nret dJ0_coder_7d493_14 rfl (by decide) ⟨rfl, rfl⟩
theorem j_isLatin1 {lay : List Ly} (i : Nat) (hi : i < 9) (f : Mem) : Ct MJ0_isLatin1_aae02 0 0 lay lay [.ref (1000 + i)] f (rt (some (.int 1)) f) := by
  refine Ct.of (lv := [(0, .ref (1000 + i))]) (by decide) (lb rfl) rfl ?_
  refine A_strZ dJ0_isLatin1_aae02_0 rfl ?_
  refine A_if_eq (tgt := 17) dJ0_isLatin1_aae02_3 rfl (fun h => absurd h (by decide)) (fun _ => ?_)
  refine A_aload_n dJ0_isLatin1_aae02_6 rfl 0 rfl ?_
  refine A_strC hi dJ0_isLatin1_aae02_7 rfl ?_
  refine A_if_ne (tgt := 17) dJ0_isLatin1_aae02_10 rfl (fun h => absurd rfl h) (fun _ => ?_)
  refine A_iconst (v := 1) dJ0_isLatin1_aae02_13 rfl ?_
  refine A_goto (tgt := 18) dJ0_isLatin1_aae02_14 rfl ?_
  exact A_zret dJ0_isLatin1_aae02_18 rfl (.inr rfl) ⟨rfl, rfl⟩
theorem j_shr0 : ∀ i, i < 9 → nI (gt_len.getD i 0) >>> ((0 : Int32) &&& 31) = nI (gt_len.getD i 0) := by decide +kernel
theorem j_length {lay : List Ly} (i : Nat) (hi : i < 9) (f : Mem) : Ct MJ0_length_8abf5 0 0 lay lay [.ref (1000 + i)] f (rt (some (.int (nI (gt_len.getD i 0)))) f) := by
  refine Ct.of (lv := [(0, .ref (1000 + i))]) (by decide) (lb rfl) rfl ?_
  refine A_aload_n dJ0_length_8abf5_0 rfl 0 rfl ?_
  refine A_strV hi dJ0_length_8abf5_1 rfl ?_
  refine A_strL hi dJ0_length_8abf5_4 ?_
  refine A_aload_n dJ0_length_8abf5_5 rfl 0 rfl ?_
  refine A_callVS (M' := MJ0_coder_7d493) [] [.int (nI (gt_len.getD i 0))] hi dJ0_length_8abf5_6 lk_RJ0_335 oJ0_coder_7d493 iJ0_coder_7d493 rfl rfl rfl ⟨lb rfl, lb rfl⟩ (lb rfl) ⟨lb rfl, lb rfl⟩ (j_coder i hi f) ?_
  rintro _ g0 ⟨rfl, hg0⟩
  rw [hg0]
  refine A_ishr dJ0_length_8abf5_9 ?_
  exact A_iret dJ0_length_8abf5_10 rfl ⟨by rw [j_shr0 i hi], rfl⟩
theorem j_chk3 {lay : List Ly} (j n : Nat) (f : Mem) (h : j < n) (hn : n < 2 ^ 31) : Cq MJ3_checkIndex_8e157 lay (nI j) (nI n) f (rt (some (.int (nI j))) f) := by
  refine Cq.of (by decide) rfl ?_
  refine A_iload_n dJ3_checkIndex_8e157_0 rfl 0 rfl ?_
  refine A_if_lt (tgt := 9) dJ3_checkIndex_8e157_1 rfl (fun q => absurd q (nI_nneg (by omega))) (fun _ => ?_)
  refine A_iload_n dJ3_checkIndex_8e157_4 rfl 0 rfl ?_
  refine A_iload_n dJ3_checkIndex_8e157_5 rfl 1 rfl ?_
  refine A_icmp_lt (tgt := 16) dJ3_checkIndex_8e157_6 rfl (fun _ => ?_) (fun q => absurd ((nI_ltI (by omega) (by omega)).mpr h) q)
  refine A_iload_n dJ3_checkIndex_8e157_16 rfl 0 rfl ?_
  exact A_iret dJ3_checkIndex_8e157_17 rfl ⟨rfl, rfl⟩
theorem j_chk {lay : List Ly} (j n : Nat) (f : Mem) (h : j < n) (hn : n < 2 ^ 31) : Ct MJ0_checkIndex_df160 0 0 lay lay [.int (nI j), .int (nI n)] f (rt none f) := by
  refine Ct.of (lv := [(0, .int (nI j)), (1, .int (nI n))]) (by decide) (lb rfl) rfl ?_
  refine A_iload_n dJ0_checkIndex_df160_0 rfl 0 rfl ?_
  refine A_iload_n dJ0_checkIndex_df160_1 rfl 1 rfl ?_
  refine A_chk (M' := MJ3_checkIndex_8e157) dJ0_checkIndex_df160_2 rfl dJ0_checkIndex_df160_5 lk_RJ0_1059 oJ3_checkIndex_8e157 sJ3_checkIndex_8e157 ⟨lb rfl, lb rfl⟩ (lb rfl) ⟨lb rfl, lb rfl⟩ (j_chk3 j n f h hn) ?_
  rintro _ g0 ⟨rfl, hg0⟩
  rw [hg0]
  refine A_pop dJ0_checkIndex_df160_8 rfl ?_
  exact A_vret dJ0_checkIndex_df160_9 rfl ⟨rfl, rfl⟩
theorem j_byt : ∀ i, i < 9 → ∀ j, j < gt_len.getD i 0 → narrow .char (.int ((((gt_byt.getD i []).getD j 0 &&& 255).toUInt32 % 65536).toInt32)) = .int ((gt_byt.getD i []).getD j 0) ∧ (((gt_byt.getD i []).getD j 0 &&& 255).toUInt32 % 65536).toInt32 = (gt_byt.getD i []).getD j 0 := by decide +kernel
theorem j_lenb : ∀ i, i < 9 → gt_len.getD i 0 < 2 ^ 31 := by decide +kernel
theorem j_charAt1 {lay : List Ly} (i j : Nat) (hi : i < 9) (hj : j < gt_len.getD i 0) (f : Mem) : Ct MJ1_charAt_3b067 0 0 lay lay [.ref (1100 + i), .int (nI j)] f (rt (some (.int ((gt_byt.getD i []).getD j 0))) f) := by
  refine Ct.of (lv := [(0, .ref (1100 + i)), (1, .int (nI j))]) (by decide) (lb rfl) rfl ?_
  refine A_iload_n dJ1_charAt_3b067_0 rfl 1 rfl ?_
  refine A_aload_n dJ1_charAt_3b067_1 rfl 0 rfl ?_
  refine A_strL hi dJ1_charAt_3b067_2 ?_
  refine A_callS (M' := MJ0_checkIndex_df160) [.int (nI j), .int (nI (gt_len.getD i 0))] [] dJ1_charAt_3b067_3 lk_RJ1_9 oJ0_checkIndex_df160 sJ0_checkIndex_df160 rfl rfl ⟨lb rfl, lb rfl⟩ (lb rfl) ⟨lb rfl, lb rfl⟩ (j_chk j _ f hj (j_lenb i hi)) ?_
  rintro _ g0 ⟨rfl, hg0⟩
  rw [hg0]
  refine A_aload_n dJ1_charAt_3b067_6 rfl 0 rfl ?_
  refine A_iload_n dJ1_charAt_3b067_7 rfl 1 rfl ?_
  refine A_strB hi hj (j_lenb i hi) dJ1_charAt_3b067_8 ?_
  refine A_sipush (v := 255) dJ1_charAt_3b067_9 rfl ?_
  refine A_iand dJ1_charAt_3b067_12 ?_
  refine A_i2c dJ1_charAt_3b067_13 ?_
  refine A_topi ((gt_byt.getD i []).getD j 0) (j_byt i hi j hj).2 ?_
  exact A_nret dJ1_charAt_3b067_14 rfl (by have e := (j_byt i hi j hj).1; rw [(j_byt i hi j hj).2] at e; exact e) ⟨rfl, rfl⟩
theorem j_charAt {lay : List Ly} (i j : Nat) (hi : i < 9) (hj : j < gt_len.getD i 0) (f : Mem) : Ct MJ0_charAt_5068e 0 0 lay lay [.ref (1000 + i), .int (nI j)] f (rt (some (.int ((gt_byt.getD i []).getD j 0))) f) := by
  refine Ct.of (lv := [(0, .ref (1000 + i)), (1, .int (nI j))]) (by decide) (lb rfl) rfl ?_
  refine A_aload_n dJ0_charAt_5068e_0 rfl 0 rfl ?_
  refine A_callVS (M' := MJ0_isLatin1_aae02) [] [] hi dJ0_charAt_5068e_1 lk_RJ0_492 oJ0_isLatin1_aae02 iJ0_isLatin1_aae02 rfl rfl rfl ⟨lb rfl, lb rfl⟩ (lb rfl) ⟨lb rfl, lb rfl⟩ (j_isLatin1 i hi f) ?_
  rintro _ g0 ⟨rfl, hg0⟩
  rw [hg0]
  refine A_if_eq (tgt := 16) dJ0_charAt_5068e_4 rfl (fun h => absurd h (by decide)) (fun _ => ?_)
  refine A_aload_n dJ0_charAt_5068e_7 rfl 0 rfl ?_
  refine A_strV hi dJ0_charAt_5068e_8 rfl ?_
  refine A_iload_n dJ0_charAt_5068e_11 rfl 1 rfl ?_
  refine A_callS (M' := MJ1_charAt_3b067) [.ref (1100 + i), .int (nI j)] [] dJ0_charAt_5068e_12 lk_RJ0_495 oJ1_charAt_3b067 sJ1_charAt_3b067 rfl rfl ⟨lb rfl, lb rfl⟩ (lb rfl) ⟨lb rfl, lb rfl⟩ (j_charAt1 i j hi hj f) ?_
  rintro _ g0 ⟨rfl, hg0⟩
  rw [hg0]
  exact A_nret dJ0_charAt_5068e_15 rfl (by have e := (j_byt i hi j hj).1; rw [(j_byt i hi j hj).2] at e; exact e) ⟨rfl, rfl⟩
