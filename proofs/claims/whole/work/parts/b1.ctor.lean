/-! constructors are called -/
theorem wOc : Cond.code objectInit ⟨#[0xb1]⟩ 1 none ∈ gw := mem_gw 95 (by decide +kernel) (by decide +kernel)
theorem wOi : Cond.instanceMethod objectInit ∈ gw := mem_gw 94 (by decide +kernel) (by decide +kernel)
theorem A_oi {c : CT} {pc : Nat} {lv : List (Nat × Value)} {st : List Value} {f : Mem} {a idx : Nat} (hd : decode (gt_c c.1) pc = .ok (.invokespecial idx, 3)) (hl' : Cond.methodLink (gt_y c.1).cls idx objectInit ∈ gw) (hR : 1 ≤ c.2.1.frames ∧ (st.map fun v => v.category).sum + 12 ≤ c.2.1.locals) (k : A c (pc + 3) lv st f) : A c pc lv (.ref a :: st) f := fun p l e s m args below meth cc H locs ls D al ac hX hS hP hV hl =>
  W.objInit hX.1 hX.2.1 hX.2.2.2.2.2.1 (hX.2.2.2.2.2.2.1 _ hl') (hX.2.2.2.2.2.2.1 _ wOi) (hX.2.2.2.2.2.2.1 _ wOc) rfl (by rw [hX.2.2.1]; exact hl.1) rfl hd hR.1 (by have z := hR.2; rw [← gt_cat al st] at z; show 2 * 0 + _ + 12 ≤ _; omega) (k p l e s m args below meth cc H locs ls D al ac hX hS hP hV hl)
/-- what stands behind a call that makes cells -/
theorem gt_S_grow {M : MT} {R : Room} {nc ns mc ms : Nat} {X : XT} {Z : ZT} {lay lay' : List Ly} {D : va_G} {al : Nat → Nat} {ac : Nat → ClassId} {args : Array Value} {s : State} (h : gt_S (M, R, nc, ns, X, Z, lay) D al ac args s) (hn : lay'.length = lay.length + mc) (h1000 : lay'.length < 1000) : gt_S (M, R, nc + mc, ns + ms, X, Z, lay') D al ac args s := by
  obtain ⟨h1, h2, h3, h4, h5, h6, h7⟩ := h
  refine ⟨h1, h1000, h3, h4, h5, ?_, h7⟩
  show s.heap.size + (nc + mc) = al lay'.length
  have h6 : s.heap.size + nc = al lay.length := h6
  have h2 : lay.length < 1000 := h2
  rw [h1 _ h1000, ← Nat.add_assoc, h6, h1 _ h2]
  omega
/-- invokespecial of a constructor -/
theorem A_callI {M : MT} {R : Room} {nc ns mc ms : Nat} {X : XT} {Z : ZT} {lay lay' : List Ly} {pc : Nat} {lv : List (Nat × Value)} {f : Mem} {M' : MT} {idx : Nat} {post : Option Value → Mem → Prop} (rest : List Value) (b : Nat) (hd : decode (gt_c M) pc = .ok (.invokespecial idx, 3)) (hl' : Cond.methodLink (gt_y M).cls idx (gt_y M') ∈ gw) (hO : gt_MO M' 0) (hr : gt_r M' = none) (hnm : (gt_y M').name = "<init>") (hI : Cond.instanceMethod (gt_y M') ∈ gw) (hR : gt_rm R M') (hrest : (rest.map fun v => v.category).sum ≤ 8) (hcs : nc + mc ≤ R.cells ∧ ns + ms ≤ R.slots) (hlen : lay'.length = lay.length + mc) (h1000 : lay'.length < 1000) (ct : Ct M' mc ms lay lay' [.ref b] f post)
    (k : ∀ (r : Option Value) (g : Mem), post r g → A (M, R, nc + mc, ns + ms, X, Z, lay') (pc + 3) lv (r.toList ++ rest) g) : A (M, R, nc, ns, X, Z, lay) pc lv (.ref b :: rest) f := by
  intro p l e s m args below meth cc H locs ls D al ac hX hS hP hV hl
  intro T hT XX
  have hz : H.size = al lay.length := gt_size hS.1 hS.2.1 hS.2.2.2.2.2.1 hS.2.2.2.2.2.2 hP hV (by rw [← hT]; exact gt_stand_size XX)
  have cb := gt_CB (mc := mc) (ms := ms) hX.2.2.2.2.2.2.1 hO hl' hR
  rw [hr] at cb
  refine gt_behind (rest := rest) (st := (.ref b :: rest).map (cz al)) hV XX hT (va_runI (As := []) (b := al b) ⟨hX.1, hX.2.1, hX.2.2.1, hX.2.2.2.2.2.1, hX.2.2.2.2.2.2.1⟩ (ct l D al ac hS.1 hS.2.1) ⟨cb, hnm, hX.2.2.2.2.2.2.1 _ hI⟩ ⟨gt_blind _ D al ac lay f, gt_pre [.ref b] hS.2.2.1 hS.2.2.2.1 hP hV hz⟩ rfl rfl hl.1 (by simp [cz]) (lv_room (by rw [gt_cat]; exact hrest)) hd hcs) ?_
  intro r g H1 locs1 hp hP1 hV1
  exact k r g hp p l e s m args below meth cc H1 locs1 ls D al ac hX (gt_S_grow hS hlen h1000) hP1 hV1 hl
/-- .. of a nest mate -/
theorem A_callIN {M : MT} {R : Room} {nc ns mc ms : Nat} {X : XT} {Z : ZT} {lay lay' : List Ly} {pc : Nat} {lv : List (Nat × Value)} {f : Mem} {M' : MT} {idx : Nat} {post : Option Value → Mem → Prop} (rest : List Value) (b : Nat) (hd : decode (gt_c M) pc = .ok (.invokespecial idx, 3)) (hl' : ((gt_y M).cls, idx, gt_y M') ∈ gt_nest) (hO : gt_MO M' 0) (hr : gt_r M' = none) (hnm : (gt_y M').name = "<init>") (hI : Cond.instanceMethod (gt_y M') ∈ gw) (hR : gt_rm R M') (hrest : (rest.map fun v => v.category).sum ≤ 8) (hcs : nc + mc ≤ R.cells ∧ ns + ms ≤ R.slots) (hlen : lay'.length = lay.length + mc) (h1000 : lay'.length < 1000) (ct : Ct M' mc ms lay lay' [.ref b] f post)
    (k : ∀ (r : Option Value) (g : Mem), post r g → A (M, R, nc + mc, ns + ms, X, Z, lay') (pc + 3) lv (r.toList ++ rest) g) : A (M, R, nc, ns, X, Z, lay) pc lv (.ref b :: rest) f := by
  intro p l e s m args below meth cc H locs ls D al ac hX hS hP hV hl
  intro T hT XX
  have hz : H.size = al lay.length := gt_size hS.1 hS.2.1 hS.2.2.2.2.2.1 hS.2.2.2.2.2.2 hP hV (by rw [← hT]; exact gt_stand_size XX)
  have hts := hX.2.2.2.2.2.2.1
  have cb := va_cnB (R := R) (mc := mc) (ms := ms) (rm := gt_R M' mc ms) 0 hts (gt_good hO.1) rfl rfl rfl (hS.2.2.1.2.1 _ hl') (hts _ hO.2.1) hO.2.2 hR
  rw [hr] at cb
  refine gt_behind (rest := rest) (st := (.ref b :: rest).map (cz al)) hV XX hT (va_runIN (As := []) (b := al b) (host := RX10) ⟨hX.1, hX.2.1, hX.2.2.1, hX.2.2.2.2.2.1, hts⟩ (ct l D al ac hS.1 hS.2.1) ⟨cb, hnm, hts _ hI⟩ ⟨gt_blind _ D al ac lay f, gt_pre [.ref b] hS.2.2.1 hS.2.2.2.1 hP hV hz⟩ rfl rfl hl.1 (by simp [cz]) (lv_room (by rw [gt_cat]; exact hrest)) hd hcs) ?_
  intro r g H1 locs1 hp hP1 hV1
  exact k r g hp p l e s m args below meth cc H1 locs1 ls D al ac hX (gt_S_grow hS hlen h1000) hP1 hV1 hl
theorem ra_set (al : Nat → Nat) (rl : List Nat) {j : Nat} (hj : j < rl.length) (b : Nat) : va_up (gt_ra al rl) j (some (al b)) = gt_ra al (rl.set j (b + 2)) := by
  funext i
  unfold va_up gt_ra
  by_cases h : i = j
  · subst h
    rw [if_pos rfl, List.getD_eq_getElem?_getD, List.getElem?_set_self hj]
    rfl
  · rw [if_neg h, List.getD_eq_getElem?_getD, List.getD_eq_getElem?_getD, List.getElem?_set_ne (Ne.symm h)]
/-- a Program put into its row -/
theorem A_ast {M : MT} {R : Room} {nc ns : Nat} {X : XT} {Z : ZT} {lay : List Ly} {pc : Nat} {lv : List (Nat × Value)} {st : List Value} {f : Mem} {a b n nn : Nat} {rl fl : List Nat} {i : Int32} (j : Nat) (hd : decode (gt_c M) pc = .ok (.aastore, 1)) (hL : lay[a]? = some (2, n, rl)) (hB : lay[b]? = some (7, nn, fl)) (hi : i = nI j) (hj : j < n) (hn : n < 2 ^ 31) (hrl : j < rl.length) (kk : A (M, R, nc, ns, X, Z, lay.set a (2, n, rl.set j (b + 2))) (pc + 1) lv st f) : A (M, R, nc, ns, X, Z, lay) pc lv (.ref b :: .int i :: .ref a :: st) f := by
  intro p l e s m args below meth cc H locs ls D al ac hX hS hP hV hl
  subst hi
  refine va_astq (tys := gt_tys ac) (A := gt_A al) (H0 := s.heap) hX.1 hX.2.1 hS.2.2.1.1 hP (gt_D hS.1 ac hS.2.1 f) hV a 2 b 3 (r := (RX3, TX3, 2)) (gt_wd_at hL) rfl (gt_wd_at hB) rfl (vp_in_nI hj hn) hd fun H1 locs1 hP1 _ hV1 => ?_
  rw [nI_clamp (by omega), ra_set al rl hrl b] at hP1
  have e9 := gt_wl_setq al ac f (2, n, rl.set j (b + 2)) lay 0 a
  rw [Nat.zero_add] at e9
  have hP2 : va_P D vwCl (gt_wl al ac f 0 (lay.set a (2, n, rl.set j (b + 2)))) H1 := by rw [← e9]; exact hP1
  exact kk p l e s m args below meth cc H1 locs1 ls D al ac hX ⟨hS.1, by show (lay.set a _).length < 1000; rw [List.length_set]; exact hS.2.1, hS.2.2.1, hS.2.2.2.1, hS.2.2.2.2.1, by show s.heap.size + nc = al (lay.set a _).length; rw [List.length_set]; exact hS.2.2.2.2.2.1, hS.2.2.2.2.2.2⟩ hP2 hV1 hl
