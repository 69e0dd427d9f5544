/-! cells that are made -/
theorem arI : Cond.arrayClass .int ∈ gw := mem_gw 119 (by decide +kernel) (by decide +kernel)
theorem arZ : Cond.arrayClass .boolean ∈ gw := mem_gw 120 (by decide +kernel) (by decide +kernel)
theorem gt_next {al : Nat → Nat} {ac : Nat → ClassId} {lay : List Ly} {f : Mem} {q : Nat} {E : va_E} (hal : gt_al al) (hn : lay.length + 1 < 1000) (hD : va_D (gt_A al) (gt_wd al ac lay f ++ [(q, E)])) (hle : q < al 0 + lay.length + 1) : q = al lay.length := by
  have hz : (gt_wd al ac lay f ++ [(q, E)])[lay.length]? = some (q, E) := by
    have e := List.getElem?_append_right (l₁ := gt_wd al ac lay f) (l₂ := [(q, E)]) (i := lay.length) (by rw [gt_wl_len]; exact Nat.le_refl _)
    rw [e, gt_wl_len, Nat.sub_self]; rfl
  have h0 := hD.2 _ _ hz
  have h0 : al 0 ≤ q := h0
  rw [hal lay.length (by omega)]
  refine Classical.byContradiction (fun ne => ?_)
  have hk : q - al 0 < lay.length := by omega
  obtain ⟨x, hx⟩ : ∃ x, lay[q - al 0]? = some x := ⟨_, List.getElem?_eq_getElem hk⟩
  have h1 := gt_wd_at (al := al) (ac := ac) (f := f) hx
  have h2 : (gt_wd al ac lay f ++ [(q, E)])[q - al 0]? = some (al (q - al 0), gt_we al ac (f (q - al 0)) x) := by
    rw [List.getElem?_append_left (by rw [gt_wl_len]; exact hk)]; exact h1
  have := hD.1 _ _ _ _ h2 hz (by show al (q - al 0) = q; rw [hal _ (by omega)]; omega)
  omega
theorem gt_wd_app (al : Nat → Nat) (ac : Nat → ClassId) (lay : List Ly) (f : Mem) (g : Ro) (q : Ly) : gt_wd al ac lay f ++ [(al lay.length, gt_we al ac g q)] = gt_wd al ac (lay ++ [q]) (ur f lay.length g) := by
  show _ = gt_wl al ac (ur f lay.length g) 0 (lay ++ [q])
  rw [gt_wl_app, gt_wl_high al ac f g lay 0 lay.length (by omega), Nat.zero_add, ur_s]
theorem gt_S_app {M : MT} {R : Room} {nc ns N : Nat} {X : XT} {Z : ZT} {lay : List Ly} {D : va_G} {al : Nat → Nat} {ac : Nat → ClassId} {args : Array Value} {s : State} (q : Ly) (h : gt_S (M, R, nc, ns, X, Z, lay) D al ac args s) (hn : lay.length + 1 < 1000) : gt_S (M, R, nc + 1, ns + N, X, Z, lay ++ [q]) D al ac args s := by
  obtain ⟨h1, h2, h3, h4, h5, h6, h7⟩ := h
  refine ⟨h1, by show (lay ++ [q]).length < 1000; rw [List.length_append]; exact hn, h3, h4, h5, ?_, h7⟩
  show s.heap.size + (nc + 1) = al (lay ++ [q]).length
  have h6 : s.heap.size + nc = al lay.length := h6
  rw [List.length_append, show [q].length = 1 from rfl, h1 _ hn, ← Nat.add_assoc, h6, h1 _ (by omega)]
  omega
theorem A_newI {M : MT} {R : Room} {nc ns : Nat} {X : XT} {Z : ZT} {lay : List Ly} {pc : Nat} {lv : List (Nat × Value)} {st : List Value} {f : Mem} {n : Int32} (N : Nat) (hd : decode (gt_c M) pc = .ok (.newarray .int, 2)) (hn : n = nI N) (hN : N ≤ 31200) (hlen : lay.length + 1 < 1000) (hR : nc + 1 ≤ R.cells ∧ ns + N ≤ R.slots) (k : A (M, R, nc + 1, ns + N, X, Z, lay ++ [(0, N, [])]) (pc + 2) lv (.ref lay.length :: st) (ur f lay.length (fun _ => 0))) : A (M, R, nc, ns, X, Z, lay) pc lv (.int n :: st) f := by
  intro p l e s m args below meth cc H locs ls D al ac hX hS hP hV hl
  subst hn
  refine va_newa (atype := .int) (tys := gt_tys ac) (a0 := (N, .inl (fun _ => 0))) (N' := N) hX.1 hX.2.1 (hX.2.2.2.2.2.2.1 _ arI) rfl hS.2.2.1.1 hP (gt_D hS.1 ac hS.2.1 f) hV (fun q hq => Nat.le_trans hS.2.2.2.2.2.2 hq) (fun _ => rfl) (nI_nneg (by omega)) (nI_clamp (by omega)) (by show N * 4 ≤ _; omega) hR.1 hR.2 hd (fun q cA H1 hK1 hP1 hD1 hV1 => ?_)
  intro T hT XX
  have hb : H1.size ≤ s.heap.size + (nc + 1) := by have z := gt_stand_size XX; rw [hT] at z; exact z
  have hq : q = al lay.length := gt_next hS.1 hlen hD1 (by
    have h1 := (hP1 lay.length (q, _) (by
      have e := List.getElem?_append_right (l₁ := gt_wd al ac lay f) (l₂ := [(q, Sum.inl (cA, N, Sum.inl (fun _ => (0 : Int32))))]) (i := lay.length) (by rw [gt_wl_len]; exact Nat.le_refl _)
      rw [e, gt_wl_len, Nat.sub_self]; rfl)).lt
    have h2 : s.heap.size + nc = al lay.length := hS.2.2.2.2.2.1
    rw [hS.1 _ (by omega)] at h2
    have h1 : q < H1.size := h1
    omega)
  have hc : cA = ac 0 := by
    have a := (hK1.2 4 (cA, .int) rfl).2
    have b := (hK1.2 0 (ac 0, .int) rfl).2
    exact Option.some.inj (a.symm.trans b)
  subst hq; subst hc
  have e9 := gt_wd_app al ac lay f (fun _ => 0) (0, N, [])
  exact k p l e s m args below meth cc H1 locs ls D al ac hX (gt_S_app _ hS hlen) (e9 ▸ hP1) hV1 hl T hT XX
theorem A_newZ {M : MT} {R : Room} {nc ns : Nat} {X : XT} {Z : ZT} {lay : List Ly} {pc : Nat} {lv : List (Nat × Value)} {st : List Value} {f : Mem} {n : Int32} (N : Nat) (hd : decode (gt_c M) pc = .ok (.newarray .boolean, 2)) (hn : n = nI N) (hN : N ≤ 31200) (hlen : lay.length + 1 < 1000) (hR : nc + 1 ≤ R.cells ∧ ns + N ≤ R.slots) (k : A (M, R, nc + 1, ns + N, X, Z, lay ++ [(1, N, [])]) (pc + 2) lv (.ref lay.length :: st) (ur f lay.length (fun _ => 0))) : A (M, R, nc, ns, X, Z, lay) pc lv (.int n :: st) f := by
  intro p l e s m args below meth cc H locs ls D al ac hX hS hP hV hl
  subst hn
  refine va_newa (atype := .boolean) (tys := gt_tys ac) (a0 := (N, .inl (fun _ => 0))) (N' := N) hX.1 hX.2.1 (hX.2.2.2.2.2.2.1 _ arZ) rfl hS.2.2.1.1 hP (gt_D hS.1 ac hS.2.1 f) hV (fun q hq => Nat.le_trans hS.2.2.2.2.2.2 hq) (fun _ => rfl) (nI_nneg (by omega)) (nI_clamp (by omega)) (by show N * 1 ≤ _; omega) hR.1 hR.2 hd (fun q cA H1 hK1 hP1 hD1 hV1 => ?_)
  intro T hT XX
  have hb : H1.size ≤ s.heap.size + (nc + 1) := by have z := gt_stand_size XX; rw [hT] at z; exact z
  have hq : q = al lay.length := gt_next hS.1 hlen hD1 (by
    have h1 := (hP1 lay.length (q, _) (by
      have e := List.getElem?_append_right (l₁ := gt_wd al ac lay f) (l₂ := [(q, Sum.inl (cA, N, Sum.inl (fun _ => (0 : Int32))))]) (i := lay.length) (by rw [gt_wl_len]; exact Nat.le_refl _)
      rw [e, gt_wl_len, Nat.sub_self]; rfl)).lt
    have h2 : s.heap.size + nc = al lay.length := hS.2.2.2.2.2.1
    rw [hS.1 _ (by omega)] at h2
    have h1 : q < H1.size := h1
    omega)
  have hc : cA = ac 1 := by
    have a := (hK1.2 4 (cA, .boolean) rfl).2
    have b := (hK1.2 1 (ac 1, .boolean) rfl).2
    exact Option.some.inj (a.symm.trans b)
  subst hq; subst hc
  have e9 := gt_wd_app al ac lay f (fun _ => 0) (1, N, [])
  exact k p l e s m args below meth cc H1 locs ls D al ac hX (gt_S_app _ hS hlen) (e9 ▸ hP1) hV1 hl T hT XX
theorem A_newQ {M : MT} {R : Room} {nc ns : Nat} {X : XT} {Z : ZT} {lay : List Ly} {pc : Nat} {lv : List (Nat × Value)} {st : List Value} {f : Mem} {n : Int32} {idx : Nat} (N : Nat) (rl : List Nat) (hrl : ∀ j, rl.getD j 1 = 1) (hd : decode (gt_c M) pc = .ok (.anewarray idx, 3)) (hl' : Cond.classLink (gt_y M).cls idx RX3 ∈ gw) (hn : n = nI N) (hN : N ≤ 31200) (hlen : lay.length + 1 < 1000) (hR : nc + 1 ≤ R.cells ∧ ns + N ≤ R.slots) (k : A (M, R, nc + 1, ns + N, X, Z, lay ++ [(2, N, rl)]) (pc + 3) lv (.ref lay.length :: st) (ur f lay.length (fun _ => 0))) : A (M, R, nc, ns, X, Z, lay) pc lv (.int n :: st) f := by
  intro p l e s m args below meth cc H locs ls D al ac hX hS hP hV hl
  subst hn
  refine va_newq (tys := gt_tys ac) (N' := N) hX.1 hX.2.1 hX.2.2.2.2.2.1 (hX.2.2.2.2.2.2.1 _ hl') hS.2.2.1.2.2.2.1 hS.2.2.1.1 hP (gt_D hS.1 ac hS.2.1 f) hV (fun q hq => Nat.le_trans hS.2.2.2.2.2.2 hq) (nI_nneg (by omega)) (nI_clamp (by omega)) (by omega) hR.1 hR.2 hd (fun q cA H1 hK1 hP1 hD1 hV1 => ?_)
  intro T hT XX
  have hb : H1.size ≤ s.heap.size + (nc + 1) := by have z := gt_stand_size XX; rw [hT] at z; exact z
  have hq : q = al lay.length := gt_next hS.1 hlen hD1 (by
    have h1 := (hP1 lay.length (q, _) (by
      have e := List.getElem?_append_right (l₁ := gt_wd al ac lay f) (l₂ := [(q, Sum.inl (cA, N, Sum.inr (Sum.inr (Sum.inr (Sum.inr (fun _ => (none : Option Nat)))))))]) (i := lay.length) (by rw [gt_wl_len]; exact Nat.le_refl _)
      rw [e, gt_wl_len, Nat.sub_self]; rfl)).lt
    have h2 : s.heap.size + nc = al lay.length := hS.2.2.2.2.2.1
    rw [hS.1 _ (by omega)] at h2
    have h1 : q < H1.size := h1
    omega)
  have hc : cA = ac 2 := by
    obtain ⟨_, _, _, _, _, a⟩ := (hK1.2 4 (cA, .object RX3) rfl).2
    obtain ⟨_, _, _, _, _, b⟩ := (hK1.2 2 (ac 2, .object RX3) rfl).2
    exact Option.some.inj (a.symm.trans b)
  subst hq; subst hc
  have e9 := gt_wd_app al ac lay f (fun _ => 0) (2, N, rl)
  have e8 : (fun _ => none) = gt_ra al rl := by funext j; unfold gt_ra; rw [hrl]; rfl
  rw [e8] at hP1
  exact k p l e s m args below meth cc H1 locs ls D al ac hX (gt_S_app _ hS hlen) (e9 ▸ hP1) hV1 hl T hT XX
/-- a class that can be made: its words, the fields' first values -/
def NO (own : String) (idx ci N : Nat) (fl : List Nat) : Prop := ∃ (C : String) (T : u_T) (ty : Nat → FieldType), vwCl[ci]? = some (C, T, N) ∧ (∀ w ∈ u_ws C T N, w ∈ gw) ∧ (∀ k, k < N → parseFieldDescriptor (T k).2.2.1 = some (ty k)) ∧ Cond.classLink own idx C ∈ gw ∧ Cond.instantiable C N ∈ gw ∧ Cond.initialized C ∈ gw ∧ ∀ (al : Nat → Nat) (j : Nat), j < N → defaultValue (ty j) = vp_V (gt_fl al (fun _ => 0) 0 fl) j
theorem A_newO {M : MT} {R : Room} {nc ns : Nat} {X : XT} {Z : ZT} {lay : List Ly} {pc : Nat} {lv : List (Nat × Value)} {st : List Value} {f : Mem} {idx ci N : Nat} {fl : List Nat} (hd : decode (gt_c M) pc = .ok (.new idx, 3)) (hO : NO (gt_y M).cls idx ci N fl) (hlen : lay.length + 1 < 1000) (hR : nc + 1 ≤ R.cells ∧ ns + N ≤ R.slots) (k : A (M, R, nc + 1, ns + N, X, Z, lay ++ [(ci + 4, N, fl)]) (pc + 3) lv (.ref lay.length :: st) (ur f lay.length (fun _ => 0))) : A (M, R, nc, ns, X, Z, lay) pc lv st f := by
  intro p l e s m args below meth cc H locs ls D al ac hX hS hP hV hl
  obtain ⟨C, T', ty, h1, h2, h3, h4, h5, h6, h7⟩ := hO
  refine va_new (tys := gt_tys ac) (fs := gt_fl al (fun _ => 0) 0 fl) hX.1 hX.2.1 hX.2.2.2.2.2.2.1 h2 ty h3 hX.2.2.2.2.2.1 (hX.2.2.2.2.2.2.1 _ h4) (hX.2.2.2.2.2.2.1 _ h5) (hX.2.2.2.2.2.2.1 _ h6) hS.2.2.1.1 hP (gt_D hS.1 ac hS.2.1 f) hV (fun q hq => Nat.le_trans hS.2.2.2.2.2.2 hq) h1 (h7 al) hR.1 hR.2 hd (fun q H1 hP1 hD1 hV1 => ?_)
  intro T hT XX
  have hb : H1.size ≤ s.heap.size + (nc + 1) := by have z := gt_stand_size XX; rw [hT] at z; exact z
  have hq : q = al lay.length := gt_next hS.1 hlen hD1 (by
    have h1 := (hP1 lay.length (q, _) (by
      have e := List.getElem?_append_right (l₁ := gt_wd al ac lay f) (l₂ := [(q, Sum.inr (ci, gt_fl al (fun _ => 0) 0 fl))]) (i := lay.length) (by rw [gt_wl_len]; exact Nat.le_refl _)
      rw [e, gt_wl_len, Nat.sub_self]; rfl)).lt
    have h2 : s.heap.size + nc = al lay.length := hS.2.2.2.2.2.1
    rw [hS.1 _ (by omega)] at h2
    have h1 : q < H1.size := h1
    omega)
  subst hq
  have e9 := gt_wd_app al ac lay f (fun _ => 0) (ci + 4, N, fl)
  exact k p l e s m args below meth cc H1 locs ls D al ac hX (gt_S_app _ hS hlen) (e9 ▸ hP1) hV1 hl T hT XX
/-- a reference put into a final field, by a constructor -/
theorem A_putR {M : MT} {R : Room} {nc ns : Nat} {X : XT} {Z : ZT} {lay : List Ly} {pc : Nat} {lv : List (Nat × Value)} {st : List Value} {f : Mem} {a b idx ci k n : Nat} {fl : List Nat} {tk : FieldType} (hd : decode (gt_c M) pc = .ok (.putfield idx, 3)) (hF : FO (gt_y M).cls idx ci k true tk) (hown : (vwCl[ci]?).map (fun q => q.1) = some (gt_y M).cls) (hnm : (gt_y M).name = "<init>") (hL : lay[a]? = some (ci + 4, n, fl)) (hk : k < fl.length) (hn : ∀ x, narrow tk (.ref x) = .ref x) (hf : ∀ x, fits tk (.ref x) = true) (kk : A (M, R, nc, ns, X, Z, lay.set a (ci + 4, n, fl.set k (b + 2))) (pc + 3) lv st f) : A (M, R, nc, ns, X, Z, lay) pc lv (.ref b :: .ref a :: st) f := by
  intro p l e s m args below meth cc H locs ls D al ac hX hS hP hV hl
  obtain ⟨C, T, N, ty, h1, h2, h3, h4, h5, h6, h7, h8, h9⟩ := hF
  have hC : C = (gt_y M).cls := by rw [h1] at hown; exact Option.some.inj hown
  refine va_putF (tys := gt_tys ac) (A := gt_A al) (H0 := s.heap) (v := .ref (al b)) hX.1 hX.2.1 hX.2.2.2.2.2.2.1 h3 ty h5 h6 hX.2.2.2.2.2.1 hS.2.2.1.1 hP (gt_D hS.1 ac hS.2.1 f) hV a (gt_wd_at hL) h1 k h2 (hX.2.2.2.2.2.2.1 _ h4) (fun x hx => hx) h7 (hX.2.2.2.2.2.2.2 hnm) (h9.trans hC) ((h5 k h2).trans (by rw [h8])) (hn _) (hf _) (by rw [gt_fl_len]; exact hk) hd fun H1 locs1 hP1 _ hV1 => ?_
  rw [gt_fl_setq al (f a) b fl 0 k, ← gt_we_o al ac _ ci n (fl.set k (b + 2))] at hP1
  have e9 := gt_wl_setq al ac f (ci + 4, n, fl.set k (b + 2)) lay 0 a
  rw [Nat.zero_add] at e9
  have hP2 : va_P D vwCl (gt_wl al ac f 0 (lay.set a (ci + 4, n, fl.set k (b + 2)))) H1 := by rw [← e9]; exact hP1
  exact kk p l e s m args below meth cc H1 locs1 ls D al ac hX ⟨hS.1, by show (lay.set a _).length < 1000; rw [List.length_set]; exact hS.2.1, hS.2.2.1, hS.2.2.2.1, hS.2.2.2.2.1, by show s.heap.size + nc = al (lay.set a _).length; rw [List.length_set]; exact hS.2.2.2.2.2.1, hS.2.2.2.2.2.2⟩ hP2 hV1 hl
