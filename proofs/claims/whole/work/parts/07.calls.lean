/-! calls -/
theorem gt_cat (al : Nat → Nat) (st : List Value) : ((st.map (cz al)).map fun v => v.category).sum = (st.map fun v => v.category).sum := by
  rw [List.map_map]
  congr 2
  funext v
  exact cz_cat al v
/-- the heap has just the law's cells behind the old ones -/
theorem gt_size {D : va_G} {al : Nat → Nat} {ac : Nat → ClassId} {lay : List Ly} {f : Mem} {s : State} {H : Heap} {nc : Nat} {locs : List Loc} (hal : gt_al al) (hlen : lay.length < 1000) (hz : s.heap.size + nc = al lay.length) (h0 : al 0 ≤ s.heap.size) (hP : va_P D vwCl (gt_wd al ac lay f) H) (hV : va_S (gt_A al) s.heap H locs) (hle : H.size ≤ s.heap.size + nc) : H.size = al lay.length := by
  refine Nat.le_antisymm (by omega) ?_
  rw [hal _ hlen]
  rcases Nat.eq_zero_or_pos lay.length with h | h
  · rw [h, Nat.add_zero]; exact Nat.le_trans h0 hV.1
  · obtain ⟨q, hq⟩ : ∃ q, lay[lay.length - 1]? = some q := ⟨_, List.getElem?_eq_getElem (by omega)⟩
    have h1 := (hP _ _ (gt_wd_at (al := al) (ac := ac) (f := f) hq)).lt
    have h2 := hal (lay.length - 1) (by omega)
    dsimp only at h1
    omega
theorem gt_stand_size {p : Program} {l : Launch} {e : Env} {R : Room} {s : State} {m : MethodId} {args : Array Value} {below : List Frame} {meth : Method} {c : Code} {T : State} {locs : List Loc} {cells slots : Nat} (X : Stand p l e R s m args below meth c T locs cells slots) : T.heap.size ≤ s.heap.size + cells := X.same.2.2.1
theorem gt_blind (av : List Value) (D : va_G) (al : Nat → Nat) (ac : Nat → ClassId) (lay : List Ly) (f : Mem) : FrameBlind (va_Pc av (gt_P D al ac lay f)) := by
  intro a U g mk h
  obtain ⟨h0, h1, h2, h3, h4⟩ := h
  refine ⟨h0, h1, ?_, ?_, h4⟩
  · exact ⟨va_K.moved (u := U) (U := U.calling g mk a) (Vm.Alike.refl U.vm) h2.1, fun q hq => va_Nw.same (u := U) (U := U.calling g mk a) rfl rfl (h2.2.1 q hq), fun i hi => vk_R.same (u := U) (U := U.calling g mk a) rfl (h2.2.2.1 i hi), va_AO.moved (u := U) (U := U.calling g mk a) (Vm.Alike.refl U.vm) h2.2.2.2.1, gt_2.moved (u := U) (U := U.calling g mk a) (Vm.Alike.refl U.vm) h2.2.2.2.2⟩
  · exact ⟨vk_S.moved (u := U) (U := U.calling g mk a) (Vm.Alike.refl U.vm) h3.1, va_Z.moved (u := U) (U := U.calling g mk a) (Vm.Alike.refl U.vm) h3.2.1, va_Zq.moved (u := U) (U := U.calling g mk a) (Vm.Alike.refl U.vm) h3.2.2⟩
theorem gt_good {M : MT} (h : Cond.code (gt_y M) (gt_c M) (gt_L M) (gt_r M) ∈ gw) : GoodIn gw (gt_ws M) := by
  intro w hw
  rcases List.mem_cons.mp hw with rfl | h1
  · exact ⟨h, good_of_word (List.mem_filter.mp h).2⟩
  · exact ⟨h1, good_of_word (List.mem_filter.mp h1).2⟩
/-- the callee's own words: its code, its class, its descriptor -/
def gt_MO (M : MT) (n : Nat) : Prop := Cond.code (gt_y M) (gt_c M) (gt_L M) (gt_r M) ∈ gw ∧ Cond.initialized (gt_y M).cls ∈ gw ∧ ((gt_y M).cls ≠ "java/lang/invoke/MethodHandle" ∧ (gt_y M).cls ≠ "java/lang/invoke/VarHandle" ∧ (parseMethodDescriptor (gt_y M).desc).map (fun d => d.parameters.length) = some n)
/-- an instance method's -/
def gt_IO (M : MT) : Prop := Cond.instanceMethod (gt_y M) ∈ gw ∧ Cond.selects (gt_y M).cls (gt_y M) (gt_y M) ∈ gw
/-- the room for a call of M' -/
def gt_rm (R : Room) (M' : MT) : Prop := gt_fr M' + 1 ≤ R.frames ∧ 8 + (gt_L M' + 11) + gt_wo M' ≤ R.locals
theorem gt_CB {R : Room} {s : State} {args : Array Value} {own : String} {idx : Nat} {M : MT} {n mc ms : Nat} (hts : ∀ w ∈ gw, w.before args s = true) (hO : gt_MO M n) (hl : Cond.methodLink own idx (gt_y M) ∈ gw) (hR : gt_rm R M) : CallB R s args own idx (gt_y M) (gt_c M) (gt_L M) (gt_r M) (gt_ws M) (gt_R M mc ms) mc ms n :=
  callB_of n hts (gt_good hO.1) rfl rfl rfl (hts _ hO.2.1) (hts _ hl) hO.2.2 hR
/-- behind a call -/
theorem gt_behind {p : Program} {l : Launch} {e : Env} {R : Room} {s : State} {m : MethodId} {args : Array Value} {below : List Frame} {meth : Method} {cc : Code} {H : Heap} {locs : List Loc} {nc ns mc ms : Nat} {Q : State → Prop} {D : va_G} {al : Nat → Nat} {ac : Nat → ClassId} {lay' : List Ly} {post : Option Value → Mem → Prop} {pc : Nat} {ls : Array Slot} {st rest : List Value} {a : Array Value} {T : State}
    (hV : va_S (gt_A al) s.heap H locs) (X : Stand p l e R s m args below meth cc T locs nc ns) (hT : T.heap = H)
    (hr : va_Run p l e R s m args below meth cc H locs nc ns mc ms (F0 m pc ls st) (rest.map (cz al)) (gt_Q D al ac lay' post a) (gt_A al))
    (k : ∀ (r : Option Value) (g : Mem) (H1 : Heap) (locs1 : List Loc), post r g → va_P D vwCl (gt_wd al ac lay' g) H1 → va_S (gt_A al) s.heap H1 locs1 → W p l e R s m args below meth cc H1 locs1 (nc + mc) (ns + ms) Q (F0 m (pc + 3) ls ((r.toList ++ rest).map (cz al)))) : ∃ t, Steps p.tables e below (T.setTop (F0 m pc ls st)) t ∧ Q t := by
  obtain ⟨v, st₀, t, T', L, h0, X', hL, e1, e2, ⟨⟨r, g, hv, hp, hP⟩, hz, hk⟩, go⟩ := hr T hT X
  cases hv
  rw [h0] at hz hk
  have hV1 : va_S (gt_A al) s.heap T'.heap (locs ++ L) := ⟨Nat.le_trans hV.1 (by rw [e1]; exact hz), fun q h1 h2 => by rw [e1, hk q (Nat.lt_of_lt_of_le h1 hV.1) h2]; exact hV.2.1 q h1 h2, fun q hq => by
    rcases List.mem_append.mp hq with h | h
    · exact hV.2.2 q h
    · exact hL q h⟩
  obtain ⟨t2, a1, b1⟩ := k r g T'.heap (locs ++ L) hp (by rw [e1]; exact hP) hV1 T' rfl X'
  refine ⟨t2, go t2 ?_, b1⟩
  have es : (r.toList ++ rest).map (cz al) = (r.map (cz al)).toList ++ rest.map (cz al) := by cases r <;> simp
  rw [es] at a1
  exact a1
theorem gt_pre {D : va_G} {al : Nat → Nat} {ac : Nat → ClassId} {lay : List Ly} {f : Mem} {s : State} {H : Heap} {locs : List Loc} (as : List Value) (hK : gt_K D al ac s) (hE : gt_E al s s.heap) (hP : va_P D vwCl (gt_wd al ac lay f) H) (hV : va_S (gt_A al) s.heap H locs) (hz : H.size = al lay.length) : ∀ U : State, U.heap = H → s.WarmedH U.vm → va_Pc (as.map (cz al)) (gt_P D al ac lay f) (as.map (cz al)).toArray U := by
  intro U hU hW
  exact ⟨rfl, by rw [hU]; exact hP, hK.warm hW, by rw [hU]; exact hE.move hW.alike hV, by rw [hU]; exact hz⟩
/-- invokevirtual -/
theorem A_callV {M : MT} {R : Room} {nc ns : Nat} {X : XT} {Z : ZT} {lay : List Ly} {pc : Nat} {lv : List (Nat × Value)} {st : List Value} {f : Mem} {M' : MT} {idx n ci nn : Nat} {fl : List Nat} {post : Option Value → Mem → Prop} (As rest : List Value) (b : Nat) (hd : decode (gt_c M) pc = .ok (.invokevirtual idx, 3)) (hl' : Cond.methodLink (gt_y M).cls idx (gt_y M') ∈ gw) (hO : gt_MO M' n) (hI : gt_IO M') (hst : As.reverse ++ .ref b :: rest = st) (hn : As.length = n) (hR : gt_rm R M') (hrest : (rest.map fun v => v.category).sum ≤ 8) (hcs : nc ≤ R.cells ∧ ns ≤ R.slots) (hL : lay[b]? = some (ci + 4, nn, fl)) (hC : (vwCl[ci]?).map (fun q => q.1) = some (gt_y M').cls) (ct : Ct M' 0 0 lay lay (.ref b :: As) f post)
    (k : ∀ (r : Option Value) (g : Mem), post r g → A (M, R, nc, ns, X, Z, lay) (pc + 3) lv (r.toList ++ rest) g) : A (M, R, nc, ns, X, Z, lay) pc lv st f := by
  intro p l e s m args below meth cc H locs ls D al ac hX hS hP hV hl
  subst hst
  intro T hT XX
  have hz : H.size = al lay.length := gt_size hS.1 hS.2.1 hS.2.2.2.2.2.1 hS.2.2.2.2.2.2 hP hV (by rw [← hT]; exact gt_stand_size XX)
  obtain ⟨q, hq1, hq2⟩ : ∃ q : vw_C, vwCl[ci]? = some q ∧ q.1 = (gt_y M').cls := by
    cases h : vwCl[ci]? with
    | none => rw [h] at hC; cases hC
    | some q => rw [h] at hC; exact ⟨q, rfl, Option.some.inj hC⟩
  have hrec := va_recv hS.2.2.1.1 hP hq1 (gt_wd_at (al := al) (ac := ac) (f := f) hL)
  rw [hq2] at hrec
  refine gt_behind (rest := rest) (st := (As.reverse ++ .ref b :: rest).map (cz al)) hV XX hT (va_runV (As := As.map (cz al)) (b := al b) (C := (gt_y M').cls) ⟨hX.1, hX.2.1, hX.2.2.1, hX.2.2.2.2.2.1, hX.2.2.2.2.2.2.1⟩ (ct l D al ac hS.1 hS.2.1) ⟨gt_CB hX.2.2.2.2.2.2.1 hO hl' hR, hX.2.2.2.2.2.2.1 _ hI.1, hX.2.2.2.2.2.2.1 _ hI.2⟩ ⟨gt_blind _ D al ac lay f, hrec, gt_pre (.ref b :: As) hS.2.2.1 hS.2.2.2.1 hP hV hz⟩ rfl (by rw [List.length_map]; exact hn) hl.1 (by simp [cz, List.map_reverse]) (lv_room (by rw [gt_cat]; exact hrest)) hd hcs) ?_
  intro r g H1 locs1 hp hP1 hV1
  exact k r g hp p l e s m args below meth cc H1 locs1 ls D al ac hX hS hP1 hV1 hl
/-- invokestatic -/
theorem A_callS {M : MT} {R : Room} {nc ns : Nat} {X : XT} {Z : ZT} {lay : List Ly} {pc : Nat} {lv : List (Nat × Value)} {st : List Value} {f : Mem} {M' : MT} {idx n : Nat} {post : Option Value → Mem → Prop} (As rest : List Value) (hd : decode (gt_c M) pc = .ok (.invokestatic idx, 3)) (hl' : Cond.methodLink (gt_y M).cls idx (gt_y M') ∈ gw) (hO : gt_MO M' n) (hI : Cond.static (gt_y M') ∈ gw) (hst : As.reverse ++ rest = st) (hn : As.length = n) (hR : gt_rm R M') (hrest : (rest.map fun v => v.category).sum ≤ 8) (hcs : nc ≤ R.cells ∧ ns ≤ R.slots) (ct : Ct M' 0 0 lay lay As f post)
    (k : ∀ (r : Option Value) (g : Mem), post r g → A (M, R, nc, ns, X, Z, lay) (pc + 3) lv (r.toList ++ rest) g) : A (M, R, nc, ns, X, Z, lay) pc lv st f := by
  intro p l e s m args below meth cc H locs ls D al ac hX hS hP hV hl
  subst hst
  intro T hT XX
  have hz : H.size = al lay.length := gt_size hS.1 hS.2.1 hS.2.2.2.2.2.1 hS.2.2.2.2.2.2 hP hV (by rw [← hT]; exact gt_stand_size XX)
  refine gt_behind (rest := rest) (st := (As.reverse ++ rest).map (cz al)) hV XX hT (va_runS (As := As.map (cz al)) ⟨hX.1, hX.2.1, hX.2.2.1, hX.2.2.2.2.2.1, hX.2.2.2.2.2.2.1⟩ (ct l D al ac hS.1 hS.2.1) ⟨gt_CB hX.2.2.2.2.2.2.1 hO hl' hR, hX.2.2.2.2.2.2.1 _ hI⟩ ⟨gt_blind _ D al ac lay f, gt_pre As hS.2.2.1 hS.2.2.2.1 hP hV hz⟩ rfl (by rw [List.length_map]; exact hn) hl.1 (by simp [List.map_reverse]) (lv_room (by rw [gt_cat]; exact hrest)) hd hcs) ?_
  intro r g H1 locs1 hp hP1 hV1
  exact k r g hp p l e s m args below meth cc H1 locs1 ls D al ac hX hS hP1 hV1 hl
/-- invokestatic of a nest mate's private method -/
theorem A_callSN {M : MT} {R : Room} {nc ns : Nat} {X : XT} {Z : ZT} {lay : List Ly} {pc : Nat} {lv : List (Nat × Value)} {st : List Value} {f : Mem} {M' : MT} {idx n : Nat} {post : Option Value → Mem → Prop} (As rest : List Value) (hd : decode (gt_c M) pc = .ok (.invokestatic idx, 3)) (hl' : ((gt_y M).cls, idx, gt_y M') ∈ gt_nest) (hO : gt_MO M' n) (hI : Cond.static (gt_y M') ∈ gw) (hst : As.reverse ++ rest = st) (hn : As.length = n) (hR : gt_rm R M') (hrest : (rest.map fun v => v.category).sum ≤ 8) (hcs : nc ≤ R.cells ∧ ns ≤ R.slots) (ct : Ct M' 0 0 lay lay As f post)
    (k : ∀ (r : Option Value) (g : Mem), post r g → A (M, R, nc, ns, X, Z, lay) (pc + 3) lv (r.toList ++ rest) g) : A (M, R, nc, ns, X, Z, lay) pc lv st f := by
  intro p l e s m args below meth cc H locs ls D al ac hX hS hP hV hl
  subst hst
  intro T hT XX
  have hz : H.size = al lay.length := gt_size hS.1 hS.2.1 hS.2.2.2.2.2.1 hS.2.2.2.2.2.2 hP hV (by rw [← hT]; exact gt_stand_size XX)
  have hts := hX.2.2.2.2.2.2.1
  refine gt_behind (rest := rest) (st := (As.reverse ++ rest).map (cz al)) hV XX hT (va_runSN (As := As.map (cz al)) (host := RX10) ⟨hX.1, hX.2.1, hX.2.2.1, hX.2.2.2.2.2.1, hts⟩ (ct l D al ac hS.1 hS.2.1) ⟨va_cnB n hts (gt_good hO.1) rfl rfl rfl (hS.2.2.1.2.1 _ hl') (hts _ hO.2.1) hO.2.2 hR, hts _ hI, trivial⟩ ⟨gt_blind _ D al ac lay f, gt_pre As hS.2.2.1 hS.2.2.2.1 hP hV hz⟩ rfl (by rw [List.length_map]; exact hn) hl.1 (by simp [List.map_reverse]) (lv_room (by rw [gt_cat]; exact hrest)) hd hcs) ?_
  intro r g H1 locs1 hp hP1 hV1
  exact k r g hp p l e s m args below meth cc H1 locs1 ls D al ac hX hS hP1 hV1 hl
