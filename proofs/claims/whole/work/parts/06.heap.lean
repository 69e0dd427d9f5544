/-! fields -/
def FO (own : String) (idx ci k : Nat) (fin : Bool) (tk : FieldType) : Prop := ∃ (C : String) (T : u_T) (N : Nat) (ty : Nat → FieldType), vwCl[ci]? = some (C, T, N) ∧ k < N ∧ (∀ w ∈ u_ws C T N, w ∈ gw) ∧ Cond.fieldLink own idx (T k).1 (T k).2.1 (T k).2.2.1 ∈ gw ∧ (∀ k, k < N → parseFieldDescriptor (T k).2.2.1 = some (ty k)) ∧ (∀ a, a < N → ∀ b, b < N → a ≠ b → (T a).2.1 ≠ (T b).2.1) ∧ (T k).2.2.2 = fin ∧ ty k = tk ∧ (T k).1 = C
theorem gt_we_o (al : Nat → Nat) (ac : Nat → ClassId) (g : Nat → Int32) (ci n : Nat) (fl : List Nat) : gt_we al ac g (ci + 4, n, fl) = .inr (ci, gt_fl al g 0 fl) := rfl
theorem gt_fl_at0 {al : Nat → Nat} {g : Nat → Int32} {fl : List Nat} {k o : Nat} (h : fl[k]? = some o) : (gt_fl al g 0 fl)[k]? = some (gt_fv al g k o) := by rw [gt_fl_at, h, Nat.zero_add]; rfl
theorem A_get {c : CT} {pc : Nat} {lv : List (Nat × Value)} {st : List Value} {f : Mem} {a idx ci k n o : Nat} {fl : List Nat} {fin : Bool} {tk : FieldType} {v : Value} (hd : decode (gt_c c.1) pc = .ok (.getfield idx, 3)) (hF : FO (gt_y c.1).cls idx ci k fin tk) (hL : c.2.2.2.2.2.2[a]? = some (ci + 4, n, fl)) (hk : fl[k]? = some o) (hv : ∀ al, gt_fv al (f a) k o = cz al v) (kk : A c (pc + 3) lv (v :: st) f) : A c pc lv (.ref a :: st) f := by
  intro p l e s m args below meth cc H locs ls D al ac hX hS hP hV hl
  obtain ⟨C, T, N, ty, h1, h2, h3, h4, h5, h6, h7, h8, h9⟩ := hF
  exact va_get (tys := gt_tys ac) hX.1 hX.2.1 hX.2.2.2.2.2.2.1 h3 hX.2.2.2.2.2.1 hS.2.2.1.1 hP a (gt_wd_at hL) h1 k h2 (hX.2.2.2.2.2.2.1 _ h4) (fun x hx => hx) ((gt_fl_at0 hk).trans (by rw [hv al])) hd (kk p l e s m args below meth cc H locs ls D al ac hX hS hP hV hl)
theorem A_getI {c : CT} {pc : Nat} {lv : List (Nat × Value)} {st : List Value} {f : Mem} {a idx ci k n : Nat} {fl : List Nat} {fin : Bool} {tk : FieldType} (hd : decode (gt_c c.1) pc = .ok (.getfield idx, 3)) (hF : FO (gt_y c.1).cls idx ci k fin tk) (hL : c.2.2.2.2.2.2[a]? = some (ci + 4, n, fl)) (hk : fl[k]? = some 0) (kk : A c (pc + 3) lv (.int (f a k) :: st) f) : A c pc lv (.ref a :: st) f := A_get hd hF hL hk (fun _ => rfl) kk
theorem A_getR {c : CT} {pc : Nat} {lv : List (Nat × Value)} {st : List Value} {f : Mem} {a b idx ci k n : Nat} {fl : List Nat} {fin : Bool} {tk : FieldType} (hd : decode (gt_c c.1) pc = .ok (.getfield idx, 3)) (hF : FO (gt_y c.1).cls idx ci k fin tk) (hL : c.2.2.2.2.2.2[a]? = some (ci + 4, n, fl)) (hk : fl[k]? = some (b + 2)) (kk : A c (pc + 3) lv (.ref b :: st) f) : A c pc lv (.ref a :: st) f := A_get hd hF hL hk (fun _ => rfl) kk
theorem A_put {c : CT} {pc : Nat} {lv : List (Nat × Value)} {st : List Value} {f : Mem} {a idx ci k n : Nat} {fl : List Nat} {tk : FieldType} {x : Int32} (hd : decode (gt_c c.1) pc = .ok (.putfield idx, 3)) (hF : FO (gt_y c.1).cls idx ci k false tk) (hL : c.2.2.2.2.2.2[a]? = some (ci + 4, n, fl)) (hk : fl[k]? = some 0) (hn : narrow tk (.int x) = .int x) (hf : fits tk (.int x) = true) (kk : A c (pc + 3) lv st (u2 f a k x)) : A c pc lv (.int x :: .ref a :: st) f := by
  intro p l e s m args below meth cc H locs ls D al ac hX hS hP hV hl
  obtain ⟨C, T, N, ty, h1, h2, h3, h4, h5, h6, h7, h8, h9⟩ := hF
  have hlt : k < (gt_fl al (f a) 0 fl).length := by rw [gt_fl_len]; exact (List.getElem?_eq_some_iff.mp hk).1
  refine va_put (tys := gt_tys ac) (A := gt_A al) (H0 := s.heap) (v := .int x) hX.1 hX.2.1 hX.2.2.2.2.2.2.1 h3 ty h5 h6 hX.2.2.2.2.2.1 hS.2.2.1.1 hP (gt_D hS.1 ac hS.2.1 f) hV a (gt_wd_at hL) h1 k h2 (hX.2.2.2.2.2.2.1 _ h4) (fun x hx => hx) h7 ((h5 k h2).trans (by rw [h8])) hn hf hlt hd fun H1 locs1 hP1 _ hV1 => ?_
  rw [gt_fl_set al (f a) x fl 0 k hk, Nat.zero_add, ← gt_we_o al ac _ ci n fl, gt_wd_set hL] at hP1
  exact kk p l e s m args below meth cc H1 locs1 ls D al ac hX hS hP1 hV1 hl
theorem A_putI {c : CT} {pc : Nat} {lv : List (Nat × Value)} {st : List Value} {f : Mem} {a idx ci k n : Nat} {fl : List Nat} {x : Int32} (hd : decode (gt_c c.1) pc = .ok (.putfield idx, 3)) (hF : FO (gt_y c.1).cls idx ci k false .int) (hL : c.2.2.2.2.2.2[a]? = some (ci + 4, n, fl)) (hk : fl[k]? = some 0) (kk : A c (pc + 3) lv st (u2 f a k x)) : A c pc lv (.int x :: .ref a :: st) f := A_put hd hF hL hk rfl rfl kk
theorem gt_nz {x : Int32} (h : x = 0 ∨ x = 1) : narrow .boolean (.int x) = .int x ∧ fits .boolean (.int x) = true ∧ vp_nar .boolean x = x := by
  rcases h with rfl | rfl <;> decide
theorem A_putZ {c : CT} {pc : Nat} {lv : List (Nat × Value)} {st : List Value} {f : Mem} {a idx ci k n : Nat} {fl : List Nat} {x : Int32} (hd : decode (gt_c c.1) pc = .ok (.putfield idx, 3)) (hF : FO (gt_y c.1).cls idx ci k false .boolean) (hL : c.2.2.2.2.2.2[a]? = some (ci + 4, n, fl)) (hk : fl[k]? = some 0) (hx : x = 0 ∨ x = 1) (kk : A c (pc + 3) lv st (u2 f a k x)) : A c pc lv (.int x :: .ref a :: st) f := A_put hd hF hL hk (gt_nz hx).1 (gt_nz hx).2.1 kk
/-! arrays -/
theorem A_iaload {c : CT} {pc : Nat} {lv : List (Nat × Value)} {st : List Value} {f : Mem} {a n : Nat} {rl : List Nat} {i : Int32} (j : Nat) (hd : decode (gt_c c.1) pc = .ok (.iaload, 1)) (hL : c.2.2.2.2.2.2[a]? = some (0, n, rl)) (hi : i = nI j) (hj : j < n) (hn : n < 2 ^ 31) (kk : A c (pc + 1) lv (.int (f a j) :: st) f) : A c pc lv (.int i :: .ref a :: st) f := by
  intro p l e s m args below meth cc H locs ls D al ac hX hS hP hV hl
  subst hi
  refine va_iald (tys := gt_tys ac) hX.1 hX.2.1 hS.2.2.1.1 hP a 0 (gt_wd_at hL) rfl (vp_in_nI hj hn) hd ?_
  rw [nI_clamp (by omega)]
  exact kk p l e s m args below meth cc H locs ls D al ac hX hS hP hV hl
theorem A_iastore {c : CT} {pc : Nat} {lv : List (Nat × Value)} {st : List Value} {f : Mem} {a n : Nat} {rl : List Nat} {i x : Int32} (j : Nat) (hd : decode (gt_c c.1) pc = .ok (.iastore, 1)) (hL : c.2.2.2.2.2.2[a]? = some (0, n, rl)) (hi : i = nI j) (hj : j < n) (hn : n < 2 ^ 31) (kk : A c (pc + 1) lv st (u2 f a j x)) : A c pc lv (.int x :: .int i :: .ref a :: st) f := by
  intro p l e s m args below meth cc H locs ls D al ac hX hS hP hV hl
  subst hi
  refine va_iast (tys := gt_tys ac) (A := gt_A al) (H0 := s.heap) hX.1 hX.2.1 hS.2.2.1.1 hP (gt_D hS.1 ac hS.2.1 f) hV a 0 (gt_wd_at hL) rfl (vp_in_nI hj hn) hd fun H1 locs1 hP1 _ hV1 => ?_
  rw [nI_clamp (by omega)] at hP1
  have e9 := gt_wd_set (al := al) (ac := ac) (f := f) hL (upd (f a) j x)
  exact kk p l e s m args below meth cc H1 locs1 ls D al ac hX hS (e9 ▸ hP1) hV1 hl
theorem A_zaload {c : CT} {pc : Nat} {lv : List (Nat × Value)} {st : List Value} {f : Mem} {a n : Nat} {rl : List Nat} {i : Int32} (j : Nat) (hd : decode (gt_c c.1) pc = .ok (.baload, 1)) (hL : c.2.2.2.2.2.2[a]? = some (1, n, rl)) (hi : i = nI j) (hj : j < n) (hn : n < 2 ^ 31) (kk : A c (pc + 1) lv (.int (f a j) :: st) f) : A c pc lv (.int i :: .ref a :: st) f := by
  intro p l e s m args below meth cc H locs ls D al ac hX hS hP hV hl
  subst hi
  refine va_zald (tys := gt_tys ac) hX.1 hX.2.1 hS.2.2.1.1 hP a 1 (gt_wd_at hL) rfl (vp_in_nI hj hn) hd ?_
  rw [nI_clamp (by omega)]
  exact kk p l e s m args below meth cc H locs ls D al ac hX hS hP hV hl
theorem A_zastore {c : CT} {pc : Nat} {lv : List (Nat × Value)} {st : List Value} {f : Mem} {a n : Nat} {rl : List Nat} {i x : Int32} (j : Nat) (hd : decode (gt_c c.1) pc = .ok (.bastore, 1)) (hL : c.2.2.2.2.2.2[a]? = some (1, n, rl)) (hi : i = nI j) (hj : j < n) (hn : n < 2 ^ 31) (hx : x = 0 ∨ x = 1) (kk : A c (pc + 1) lv st (u2 f a j x)) : A c pc lv (.int x :: .int i :: .ref a :: st) f := by
  intro p l e s m args below meth cc H locs ls D al ac hX hS hP hV hl
  subst hi
  refine va_zast (tys := gt_tys ac) (A := gt_A al) (H0 := s.heap) hX.1 hX.2.1 hS.2.2.1.1 hP (gt_D hS.1 ac hS.2.1 f) hV a 1 (gt_wd_at hL) rfl (vp_in_nI hj hn) hd fun H1 locs1 hP1 _ hV1 => ?_
  rw [nI_clamp (by omega), (gt_nz hx).2.2] at hP1
  have e9 := gt_wd_set (al := al) (ac := ac) (f := f) hL (upd (f a) j x)
  exact kk p l e s m args below meth cc H1 locs1 ls D al ac hX hS (e9 ▸ hP1) hV1 hl
theorem gt_ra_at {al : Nat → Nat} {rl : List Nat} {j b : Nat} (h : rl[j]? = some (b + 2)) : gt_ra al rl j = some (al b) := by
  unfold gt_ra
  rw [List.getD_eq_getElem?_getD, h]
  rfl
theorem A_aaload2 {c : CT} {pc : Nat} {lv : List (Nat × Value)} {st : List Value} {f : Mem} {a b n : Nat} {rl : List Nat} {i : Int32} (j : Nat) (hd : decode (gt_c c.1) pc = .ok (.aaload, 1)) (hL : c.2.2.2.2.2.2[a]? = some (2, n, rl)) (hi : i = nI j) (hj : j < n) (hn : n < 2 ^ 31) (hr : rl[j]? = some (b + 2)) (kk : A c (pc + 1) lv (.ref b :: st) f) : A c pc lv (.int i :: .ref a :: st) f := by
  intro p l e s m args below meth cc H locs ls D al ac hX hS hP hV hl
  subst hi
  refine va_aldq (tys := gt_tys ac) hX.1 hX.2.1 hS.2.2.1.1 hP a 2 (gt_wd_at hL) rfl (vp_in_nI hj hn) hd ?_
  rw [nI_clamp (by omega), gt_ra_at hr]
  exact kk p l e s m args below meth cc H locs ls D al ac hX hS hP hV hl
theorem A_aaload3 {c : CT} {pc : Nat} {lv : List (Nat × Value)} {st : List Value} {f : Mem} {a b n : Nat} {rl : List Nat} {i : Int32} (j : Nat) (hd : decode (gt_c c.1) pc = .ok (.aaload, 1)) (hL : c.2.2.2.2.2.2[a]? = some (3, n, rl)) (hi : i = nI j) (hj : j < n) (hn : n < 2 ^ 31) (hr : rl[j]? = some (b + 2)) (kk : A c (pc + 1) lv (.ref b :: st) f) : A c pc lv (.int i :: .ref a :: st) f := by
  intro p l e s m args below meth cc H locs ls D al ac hX hS hP hV hl
  subst hi
  have hin : vp_in (nI j) n := vp_in_nI hj hn
  have hlt : (nI j).toNatClampNeg < n := Nat.not_le.mp fun q => hin (Or.inr q)
  refine W.aald (v := va_rf (gt_ra al rl (nI j).toNatClampNeg)) (ty := .array .int) hX.1 hX.2.1 (hP a _ (gt_wd_at hL)) ((hS.2.2.1.1.2 3 _ rfl).1 n (fun j => va_rf (gt_ra al rl j))) rfl (fun q => by cases q) (by show ¬ (nI j < 0 ∨ (arrV _ _ _).slots.size ≤ _); rw [arrV_size]; exact hin) (by show (arrV _ _ _).slots[_]? = _; rw [arrV_read _ _ hlt]) rfl rfl hd ?_
  rw [nI_clamp (by omega), gt_ra_at hr]
  exact kk p l e s m args below meth cc H locs ls D al ac hX hS hP hV hl
theorem A_alen {c : CT} {pc : Nat} {lv : List (Nat × Value)} {st : List Value} {f : Mem} {a n : Nat} {rl : List Nat} (hd : decode (gt_c c.1) pc = .ok (.arraylength, 1)) (hL : c.2.2.2.2.2.2[a]? = some (0, n, rl)) (kk : A c (pc + 1) lv (.int (nI n) :: st) f) : A c pc lv (.ref a :: st) f := by
  intro p l e s m args below meth cc H locs ls D al ac hX hS hP hV hl
  exact va_alen (tys := gt_tys ac) hX.1 hX.2.1 hS.2.2.1.1 hP a 0 (gt_wd_at hL) rfl rfl hd (kk p l e s m args below meth cc H locs ls D al ac hX hS hP hV hl)
/-- System.arraycopy of ints: n of them from sp on to dp on -/
def gt_cpy (f : Mem) (a0 sp a dp n : Nat) : Mem := ur f a (va_cpy (f a0) (f a) sp dp n)
def gt_CW (own : String) (idx : Nat) : Prop := Cond.methodLink own idx arraycopyName ∈ gw ∧ Cond.native arraycopyName ∈ gw ∧ Cond.static arraycopyName ∈ gw ∧ Cond.initialized "java/lang/System" ∈ gw
theorem A_copy {c : CT} {pc : Nat} {lv : List (Nat × Value)} {st : List Value} {f : Mem} {a a0 idx n0 n1 : Nat} {r0 r1 : List Nat} {sp dp n : Int32} (isp idp inn : Nat) (hd : decode (gt_c c.1) pc = .ok (.invokestatic idx, 3)) (hw : gt_CW (gt_y c.1).cls idx) (hL0 : c.2.2.2.2.2.2[a0]? = some (0, n0, r0)) (hL : c.2.2.2.2.2.2[a]? = some (0, n1, r1)) (h1 : sp = nI isp) (h2 : dp = nI idp) (h3 : n = nI inn) (h4 : isp + inn ≤ n0) (h5 : idp + inn ≤ n1) (h6 : n0 < 2 ^ 31 ∧ n1 < 2 ^ 31) (hR : 1 ≤ c.2.1.frames ∧ (st.map fun v => v.category).sum + 18 ≤ c.2.1.locals)
    (kk : A c (pc + 3) lv st (gt_cpy f a0 isp a idp inn)) : A c pc lv (.int n :: .int dp :: .ref a :: .int sp :: .ref a0 :: st) f := by
  intro p l e s m args below meth cc H locs ls D al ac hX hS hP hV hl
  subst h1; subst h2; subst h3
  have hcat : ((st.map (cz al)).map fun v => v.category).sum = (st.map fun v => v.category).sum := by
    rw [List.map_map]
    congr 2
    funext v
    exact cz_cat al v
  refine va_copyi (tys := gt_tys ac) (A := gt_A al) (H0 := s.heap) hX.1 hX.2.1 (hX.2.2.1.trans hl.1.symm) hX.2.2.2.2.2.1 (hX.2.2.2.2.2.2.1 _ hw.1) (hX.2.2.2.2.2.2.1 _ hw.2.1) (hX.2.2.2.2.2.2.1 _ hw.2.2.1) (hX.2.2.2.2.2.2.1 _ hw.2.2.2) hS.2.2.1.1 hP (gt_D hS.1 ac hS.2.1 f) hV a0 a 0 0 (gt_wd_at hL0) (gt_wd_at hL) rfl rfl rfl (nI_pos (by omega)) (nI_pos (by omega)) (nI_pos (by omega)) (by rw [nI_clamp (by omega), nI_clamp (by omega)]; exact h4) (by rw [nI_clamp (by omega), nI_clamp (by omega)]; exact h5) (fun _ _ => rfl) hR.1 (by rw [hcat]; exact hR.2) hd fun H1 locs1 hP1 _ hV1 => ?_
  rw [nI_clamp (by omega), nI_clamp (by omega), nI_clamp (by omega)] at hP1
  have e9 := gt_wd_set (al := al) (ac := ac) (f := f) hL (va_cpy (f a0) (f a) isp idp inn)
  exact kk p l e s m args below meth cc H1 locs1 ls D al ac hX hS (e9 ▸ hP1) hV1 hl
def gt_MW (own : String) (idx : Nat) : Prop := Cond.methodLink own idx Lib.Math.min.name ∈ gw ∧ Cond.static Lib.Math.min.name ∈ gw ∧ Cond.initialized "java/lang/Math" ∈ gw ∧ Cond.code Lib.Math.min.name Lib.Math.min.code 2 (some .int) ∈ gw
theorem A_min {c : CT} {pc : Nat} {lv : List (Nat × Value)} {st : List Value} {f : Mem} {idx : Nat} {x y : Int32} (hd : decode (gt_c c.1) pc = .ok (.invokestatic idx, 3)) (hw : gt_MW (gt_y c.1).cls idx) (hR : 1 ≤ c.2.1.frames ∧ (st.map fun v => v.category).sum + 13 ≤ c.2.1.locals) (hc : c.2.2.1 ≤ c.2.1.cells ∧ c.2.2.2.1 ≤ c.2.1.slots) (kk : A c (pc + 3) lv (.int (if y < x then y else x) :: st) f) : A c pc lv (.int y :: .int x :: st) f := by
  intro p l e s m args below meth cc H locs ls D al ac hX hS hP hV hl
  have hcat : ((st.map (cz al)).map fun v => v.category).sum = (st.map fun v => v.category).sum := by
    rw [List.map_map]
    congr 2
    funext v
    exact cz_cat al v
  exact va_mmin hX.1 hX.2.1 (hX.2.2.1.trans hl.1.symm) hX.2.2.2.2.2.1 (hX.2.2.2.2.2.2.1 _ hw.1) (hX.2.2.2.2.2.2.1 _ hw.2.1) (hX.2.2.2.2.2.2.1 _ hw.2.2.1) (hX.2.2.2.2.2.2.1 _ hw.2.2.2) hR.1 (by rw [hcat]; exact hR.2) hc.1 hc.2 hd (kk p l e s m args below meth cc H locs ls D al ac hX hS hP hV hl)
/-! answers -/
theorem A_iret {M : MT} {R : Room} {nc ns : Nat} {X : XT} {lay : List Ly} {post : Option Value → Mem → Prop} {pc : Nat} {lv : List (Nat × Value)} {f : Mem} {x : Int32} (hd : decode (gt_c M) pc = .ok (.ireturn, 1)) (hr : gt_r M = some .int) (hp : post (some (.int x)) f) : A (M, R, nc, ns, X, gt_Z nc ns lay post, lay) pc lv [.int x] f := by
  intro p l e s m args below meth cc H locs ls D al ac hX hS hP hV hl
  exact W.iret hX.1 hX.2.1 (hX.2.2.2.1.trans hr) (fun t ht hW => ⟨⟨some (.int x), f, rfl, hp, by rw [ht]; exact hP⟩, hV.F ht⟩) hV.2.2 hd hX.2.2.2.2.1
theorem A_nret {M : MT} {R : Room} {nc ns : Nat} {X : XT} {lay : List Ly} {post : Option Value → Mem → Prop} {pc : Nat} {lv : List (Nat × Value)} {f : Mem} {x : Int32} {ty : FieldType} (hd : decode (gt_c M) pc = .ok (.ireturn, 1)) (hr : gt_r M = some ty) (hn : narrow ty (.int x) = .int x) (hp : post (some (.int x)) f) : A (M, R, nc, ns, X, gt_Z nc ns lay post, lay) pc lv [.int x] f := by
  intro p l e s m args below meth cc H locs ls D al ac hX hS hP hV hl
  exact W.zret hX.1 hX.2.1 (hX.2.2.2.1.trans hr) hn (fun t ht hW => ⟨⟨some (.int x), f, rfl, hp, by rw [ht]; exact hP⟩, hV.F ht⟩) hV.2.2 hd hX.2.2.2.2.1
theorem A_zret {M : MT} {R : Room} {nc ns : Nat} {X : XT} {lay : List Ly} {post : Option Value → Mem → Prop} {pc : Nat} {lv : List (Nat × Value)} {f : Mem} {x : Int32} (hd : decode (gt_c M) pc = .ok (.ireturn, 1)) (hr : gt_r M = some .boolean) (hx : x = 0 ∨ x = 1) (hp : post (some (.int x)) f) : A (M, R, nc, ns, X, gt_Z nc ns lay post, lay) pc lv [.int x] f := A_nret hd hr (gt_nz hx).1 hp
theorem A_vret {M : MT} {R : Room} {nc ns : Nat} {X : XT} {lay : List Ly} {post : Option Value → Mem → Prop} {pc : Nat} {lv : List (Nat × Value)} {f : Mem} (hd : decode (gt_c M) pc = .ok (.return_, 1)) (hr : gt_r M = none) (hp : post none f) : A (M, R, nc, ns, X, gt_Z nc ns lay post, lay) pc lv [] f := by
  intro p l e s m args below meth cc H locs ls D al ac hX hS hP hV hl
  exact W.vret hX.1 hX.2.1 (hX.2.2.2.1.trans hr) (fun t ht hW => ⟨⟨none, f, rfl, hp, by rw [ht]; exact hP⟩, hV.F ht⟩) hV.2.2 hd hX.2.2.2.2.1
theorem A_aret {M : MT} {R : Room} {nc ns : Nat} {X : XT} {lay : List Ly} {post : Option Value → Mem → Prop} {pc : Nat} {lv : List (Nat × Value)} {f : Mem} {a : Nat} {C : String} (hd : decode (gt_c M) pc = .ok (.areturn, 1)) (hr : gt_r M = some (.object C)) (hp : post (some (.ref a)) f) : A (M, R, nc, ns, X, gt_Z nc ns lay post, lay) pc lv [.ref a] f := by
  intro p l e s m args below meth cc H locs ls D al ac hX hS hP hV hl
  exact W.aret hX.1 hX.2.1 (hX.2.2.2.1.trans hr) (Or.inl ⟨_, rfl⟩) (Or.inr ⟨_, rfl⟩) (fun t ht hW => ⟨⟨some (.ref a), f, rfl, hp, by rw [ht]; exact hP⟩, hV.F ht⟩) hV.2.2 hd hX.2.2.2.2.1
