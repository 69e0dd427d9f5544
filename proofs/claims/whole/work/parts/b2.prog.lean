/-! constructors: cells behind those that stand already -/
theorem at_pre {pre l : List Ly} {d : Nat} (hp : pre.length = d) (k : Nat) {q : Ly} (h : l[k]? = some q) : (pre ++ l)[d + k]? = some q := by
  rw [List.getElem?_append_right (by omega), show d + k - pre.length = k by omega]; exact h
theorem set_pre {pre l : List Ly} {d : Nat} (hp : pre.length = d) (k : Nat) (q : Ly) : (pre ++ l).set (d + k) q = pre ++ l.set k q := by
  rw [List.set_append_right _ _ (by omega), show d + k - pre.length = k by omega]
theorem B_newI {M : MT} {R : Room} {nc ns : Nat} {X : XT} {Z : ZT} {pre l : List Ly} {d pc : Nat} {lv : List (Nat × Value)} {st : List Value} {f : Mem} {n : Int32} (hp : pre.length = d) (N : Nat) (hd : decode (gt_c M) pc = .ok (.newarray .int, 2)) (hn : n = nI N) (hN : N ≤ 31200) (hlen : d + l.length + 1 < 1000) (hR : nc + 1 ≤ R.cells ∧ ns + N ≤ R.slots) (k : A (M, R, nc + 1, ns + N, X, Z, pre ++ (l ++ [(0, N, [])])) (pc + 2) lv (.ref (d + l.length) :: st) (ur f (d + l.length) (fun _ => 0))) : A (M, R, nc, ns, X, Z, pre ++ l) pc lv (.int n :: st) f := by
  refine A_newI N hd hn hN (by rw [List.length_append]; omega) hR ?_
  rw [List.length_append, hp, List.append_assoc]; exact k
theorem B_newZ {M : MT} {R : Room} {nc ns : Nat} {X : XT} {Z : ZT} {pre l : List Ly} {d pc : Nat} {lv : List (Nat × Value)} {st : List Value} {f : Mem} {n : Int32} (hp : pre.length = d) (N : Nat) (hd : decode (gt_c M) pc = .ok (.newarray .boolean, 2)) (hn : n = nI N) (hN : N ≤ 31200) (hlen : d + l.length + 1 < 1000) (hR : nc + 1 ≤ R.cells ∧ ns + N ≤ R.slots) (k : A (M, R, nc + 1, ns + N, X, Z, pre ++ (l ++ [(1, N, [])])) (pc + 2) lv (.ref (d + l.length) :: st) (ur f (d + l.length) (fun _ => 0))) : A (M, R, nc, ns, X, Z, pre ++ l) pc lv (.int n :: st) f := by
  refine A_newZ N hd hn hN (by rw [List.length_append]; omega) hR ?_
  rw [List.length_append, hp, List.append_assoc]; exact k
theorem B_newQ {M : MT} {R : Room} {nc ns : Nat} {X : XT} {Z : ZT} {pre l : List Ly} {d pc : Nat} {lv : List (Nat × Value)} {st : List Value} {f : Mem} {n : Int32} {idx : Nat} (hp : pre.length = d) (N : Nat) (rl : List Nat) (hrl : ∀ j, rl.getD j 1 = 1) (hd : decode (gt_c M) pc = .ok (.anewarray idx, 3)) (hl' : Cond.classLink (gt_y M).cls idx RX3 ∈ gw) (hn : n = nI N) (hN : N ≤ 31200) (hlen : d + l.length + 1 < 1000) (hR : nc + 1 ≤ R.cells ∧ ns + N ≤ R.slots) (k : A (M, R, nc + 1, ns + N, X, Z, pre ++ (l ++ [(2, N, rl)])) (pc + 3) lv (.ref (d + l.length) :: st) (ur f (d + l.length) (fun _ => 0))) : A (M, R, nc, ns, X, Z, pre ++ l) pc lv (.int n :: st) f := by
  refine A_newQ N rl hrl hd hl' hn hN (by rw [List.length_append]; omega) hR ?_
  rw [List.length_append, hp, List.append_assoc]; exact k
theorem B_newO {M : MT} {R : Room} {nc ns : Nat} {X : XT} {Z : ZT} {pre l : List Ly} {d pc : Nat} {lv : List (Nat × Value)} {st : List Value} {f : Mem} {idx ci N : Nat} {fl : List Nat} (hp : pre.length = d) (hd : decode (gt_c M) pc = .ok (.new idx, 3)) (hO : NO (gt_y M).cls idx ci N fl) (hlen : d + l.length + 1 < 1000) (hR : nc + 1 ≤ R.cells ∧ ns + N ≤ R.slots) (k : A (M, R, nc + 1, ns + N, X, Z, pre ++ (l ++ [(ci + 4, N, fl)])) (pc + 3) lv (.ref (d + l.length) :: st) (ur f (d + l.length) (fun _ => 0))) : A (M, R, nc, ns, X, Z, pre ++ l) pc lv st f := by
  refine A_newO hd hO (by rw [List.length_append]; omega) hR ?_
  rw [List.length_append, hp, List.append_assoc]; exact k
theorem B_putR {M : MT} {R : Room} {nc ns : Nat} {X : XT} {Z : ZT} {pre l : List Ly} {d pc : Nat} {lv : List (Nat × Value)} {st : List Value} {f : Mem} {b idx ci k n : Nat} {fl : List Nat} {tk : FieldType} (hp : pre.length = d) (a : Nat) (hd : decode (gt_c M) pc = .ok (.putfield idx, 3)) (hF : FO (gt_y M).cls idx ci k true tk) (hown : (vwCl[ci]?).map (fun q => q.1) = some (gt_y M).cls) (hnm : (gt_y M).name = "<init>") (hL : l[a]? = some (ci + 4, n, fl)) (hk : k < fl.length) (hn : ∀ x, narrow tk (.ref x) = .ref x) (hf : ∀ x, fits tk (.ref x) = true) (kk : A (M, R, nc, ns, X, Z, pre ++ l.set a (ci + 4, n, fl.set k (b + 2))) (pc + 3) lv st f) : A (M, R, nc, ns, X, Z, pre ++ l) pc lv (.ref b :: .ref (d + a) :: st) f := by
  refine A_putR hd hF hown hnm (at_pre hp a hL) hk hn hf ?_
  rw [set_pre hp]; exact kk
theorem B_ast {M : MT} {R : Room} {nc ns : Nat} {X : XT} {Z : ZT} {pre l : List Ly} {d pc : Nat} {lv : List (Nat × Value)} {st : List Value} {f : Mem} {n nn : Nat} {rl fl : List Nat} {i : Int32} (hp : pre.length = d) (a b j : Nat) (hd : decode (gt_c M) pc = .ok (.aastore, 1)) (hL : l[a]? = some (2, n, rl)) (hB : l[b]? = some (7, nn, fl)) (hi : i = nI j) (hj : j < n) (hn : n < 2 ^ 31) (hrl : j < rl.length) (kk : A (M, R, nc, ns, X, Z, pre ++ l.set a (2, n, rl.set j (d + b + 2))) (pc + 1) lv st f) : A (M, R, nc, ns, X, Z, pre ++ l) pc lv (.ref (d + b) :: .int i :: .ref (d + a) :: st) f := by
  refine A_ast j hd (at_pre hp a hL) (at_pre hp b hB) hi hj hn hrl ?_
  rw [set_pre hp]; exact kk
theorem Ct.ap {M : MT} {mc ms : Nat} {pre l0 l l' : List Ly} {as : List Value} {f : Mem} {post : Option Value → Mem → Prop} (h : Ct M mc ms ((pre ++ l0) ++ l) ((pre ++ l0) ++ l') as f post) : Ct M mc ms (pre ++ (l0 ++ l)) (pre ++ (l0 ++ l')) as f post := by
  rw [List.append_assoc, List.append_assoc] at h; exact h
theorem A_lay {M : MT} {R : Room} {nc ns : Nat} {X : XT} {Z : ZT} {lay lay' : List Ly} {pc : Nat} {lv : List (Nat × Value)} {st : List Value} {f : Mem} (h : lay = lay') (k : A (M, R, nc, ns, X, Z, lay') pc lv st f) : A (M, R, nc, ns, X, Z, lay) pc lv st f := by rw [h]; exact k
theorem ol_RX3_3 : Cond.methodLink RX3 3 objectInit ∈ gw := mem_gw 108 (by decide +kernel) (by decide +kernel)
theorem m_prog (pre : List Ly) (d : Nat) (hp : pre.length = d) (h900 : d < 800) (f : Mem) : Ct MX3_init 1 48 (pre ++ [(7, 2, [0, 1])]) (pre ++ [(7, 2, [0, d + 1 + 2]), (0, 48, [])]) [.ref (d + 0)] f (rt none (ur (u2 f (d + 0) 0 0) (d + 1) (fun _ => 0))) := by
  refine Ct.of (lv := [(0, .ref (d + 0))]) (by decide) (lb rfl) rfl ?_
  refine A_aload_n dX3_init_0 rfl 0 rfl ?_
  refine A_oi dX3_init_1 ol_RX3_3 ⟨lb rfl, lb rfl⟩ ?_
  refine A_aload_n dX3_init_4 rfl 0 rfl ?_
  refine A_iconst (v := 0) dX3_init_5 rfl ?_
  refine A_putI dX3_init_6 fo_RX3_9 (at_pre hp 0 rfl) rfl ?_
  refine A_aload_n dX3_init_9 rfl 0 rfl ?_
  refine A_bipush (v := 48) dX3_init_10 rfl ?_
  refine B_newI hp 48 dX3_init_12 rfl (by decide) (by have := h900; simp only [List.length]; omega) ⟨lb rfl, lb rfl⟩ ?_
  refine A_lay (lay' := pre ++ [(7, 2, [0, 1]), (0, 48, [])]) rfl ?_
  refine B_putR (b := d + 1) hp 0 dX3_init_14 fo_RX3_15 rfl rfl rfl (lb rfl) (fun _ => rfl) (fun _ => rfl) ?_
  refine A_lay (lay' := pre ++ [(7, 2, [0, d + 1 + 2]), (0, 48, [])]) rfl ?_
  exact A_vret dX3_init_17 rfl (⟨rfl, rfl⟩)
