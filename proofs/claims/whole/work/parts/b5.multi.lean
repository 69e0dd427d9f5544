/-! rows of ints, made at once: 4 of 40 -/
def mqO (cA : ClassId) (h0 i : Nat) : Cell := arrV cA 4 (fun j => if j < i then .ref (h0 + 1 + j) else .null)
def mqI (cB : ClassId) : Cell := arrV cB 40 (fun _ => .int 0)
def mqT (T : State) (cA cB : ClassId) : Nat → State
  | 0 => T.pushCell (mqO cA T.heap.size 0)
  | i + 1 => ((mqT T cA cB i).pushCell (mqI cB)).setCell T.heap.size ((mqO cA T.heap.size i).setSlot i (.ref (T.heap.size + 1 + i)))
theorem mqO_z (cA : ClassId) (h0 i : Nat) : (mqO cA h0 i).slots.size = 4 := arrV_size _ _ _
theorem mqI_z (cB : ClassId) : (mqI cB).slots.size = 40 := arrV_size _ _ _
theorem mqO_0 (cA : ClassId) (h0 : Nat) : mqO cA h0 0 = { cls := cA, slots := Array.replicate 4 .null, vm := .none } := by
  rw [arrV_new, mqO]
  congr 1
theorem mqO_s (cA : ClassId) (h0 i : Nat) : (mqO cA h0 i).setSlot i (.ref (h0 + 1 + i)) = mqO cA h0 (i + 1) := by
  unfold mqO
  rw [arrV_store]
  congr 1
  funext j
  simp only [updV]
  by_cases e : j = i
  · rw [if_pos e, if_pos (by omega), e]
  · rw [if_neg e]
    by_cases q : j < i
    · rw [if_pos q, if_pos (by omega)]
    · rw [if_neg q, if_neg (by omega)]
theorem mqT_f (T : State) (cA cB : ClassId) : ∀ i, (mqT T cA cB i).heap.size = T.heap.size + 1 + i ∧ (mqT T cA cB i).heap[T.heap.size]? = some (mqO cA T.heap.size i) ∧ (mqT T cA cB i).vm = T.vm ∧ (mqT T cA cB i).slotsUsed = T.slotsUsed + 4 + 40 * i
  | 0 => ⟨by simp [mqT], by simp [mqT], rfl, by simp [mqT, mqO_z]⟩
  | i + 1 => by
    obtain ⟨q1, q2, q3, q4⟩ := mqT_f T cA cB i
    have hlt : T.heap.size < (mqT T cA cB i).heap.size := by omega
    have hc : ((mqT T cA cB i).pushCell (mqI cB)).heap[T.heap.size]? = some (mqO cA T.heap.size i) := by rw [State.heap_pushCell_of_lt (h := hlt)]; exact q2
    refine ⟨?_, ?_, by simp [mqT, q3], ?_⟩
    · simp [mqT, State.setCell, q1]; omega
    · show (((mqT T cA cB i).pushCell (mqI cB)).setCell T.heap.size _).heap[T.heap.size]? = _
      rw [State.heap_setCell_self hc, mqO_s]
    · simp [mqT, q4, mqI_z]; omega
theorem mqT_old (T : State) (cA cB : ClassId) {q : Nat} (hq : q < T.heap.size) : ∀ i, (mqT T cA cB i).heap[q]? = T.heap[q]?
  | 0 => State.heap_pushCell_of_lt _ _ hq
  | i + 1 => by
    have q1 := (mqT_f T cA cB i).1
    have hlt : q < (mqT T cA cB i).heap.size := by omega
    show (((mqT T cA cB i).pushCell (mqI cB)).setCell T.heap.size _).heap[q]? = _
    rw [State.heap_setCell_other (Nat.ne_of_gt hq), State.heap_pushCell_of_lt (h := hlt)]
    exact mqT_old T cA cB hq i
theorem mqT_in (T : State) (cA cB : ClassId) : ∀ i j, j < i → (mqT T cA cB i).heap[T.heap.size + 1 + j]? = some (mqI cB)
  | 0, _, h => absurd h (Nat.not_lt_zero _)
  | i + 1, j, h => by
    have q1 := (mqT_f T cA cB i).1
    show (((mqT T cA cB i).pushCell (mqI cB)).setCell T.heap.size _).heap[T.heap.size + 1 + j]? = _
    have hne : T.heap.size ≠ T.heap.size + 1 + j := by omega
    rw [State.heap_setCell_other hne]
    by_cases e : j = i
    · rw [e, ← q1]; exact State.heap_pushCell_size _ _
    · have hlt : T.heap.size + 1 + j < (mqT T cA cB i).heap.size := by omega
      rw [State.heap_pushCell_of_lt (h := hlt)]; exact mqT_in T cA cB i j (by omega)
theorem mqT_top (T : State) (g : JFrame) (cA cB : ClassId) : ∀ i, mqT (T.setTop g) cA cB i = (mqT T cA cB i).setTop g
  | 0 => rfl
  | i + 1 => by simp only [mqT, mqT_top T g cA cB i, State.heap_setTop, State.pushCell_setTop, State.setCell_setTop]
section
variable {E : CtlPost} {e : Env} {d : Bool} {acts : List Action} {s : State}
theorem mq_make1 {cB cC : ClassId} {kB : Class} (hkB : s.vm.classes[cB]? = some kB) (hkb : kB.kind = .array cC .int) (hlim : ¬ 40 > e.platform.arrayLengthLimit) (hhp : ¬ 40 * 4 > e.platform.maxHeapBytes) (h1 : s.heap.size < e.platform.maxCells) (h2 : s.slotsUsed + 40 ≤ e.platform.maxSlots) {Q : Addr → Pre} (hq : ∀ acts1, Q s.heap.size d acts1 (s.pushCell (mqI cB))) : wp (multianewarray.make cB [(40 : Int32)]) Q E e d acts s := by
  rw [multianewarray.make]
  simp only [wp_bind', W.ite, show ¬ (40 : Int32) < 0 by decide, if_false, wp_pure', W.theClass, hkB, hkb, Option.some.injEq, exists_eq_left']
  rw [show (40 : Int32).toNatClampNeg = 40 by decide]
  refine W.newArray_of hkB hkb hlim hhp h1 h2 rfl (fun acts1 => ?_)
  have hz := hq acts1
  rw [mqI, ← arrV_new] at hz
  exact hz
theorem mq_make2 {cA cB cC : ClassId} {kA kB : Class} (hkA : s.vm.classes[cA]? = some kA) (hka : kA.kind = .array cB (.array .int)) (hkB : s.vm.classes[cB]? = some kB) (hkb : kB.kind = .array cC .int) (hlim4 : ¬ 4 > e.platform.arrayLengthLimit) (hhp4 : ¬ 4 * 4 > e.platform.maxHeapBytes) (hlim : ¬ 40 > e.platform.arrayLengthLimit) (hhp : ¬ 40 * 4 > e.platform.maxHeapBytes) (h1 : s.heap.size + 5 ≤ e.platform.maxCells) (h2 : s.slotsUsed + 164 ≤ e.platform.maxSlots) {Q : Addr → Pre} (hq : ∀ d1 acts1, Q s.heap.size d1 acts1 (mqT s cA cB 4)) : wp (multianewarray.make cA [(4 : Int32), (40 : Int32)]) Q E e d acts s := by
  rw [multianewarray.make]
  simp only [wp_bind', W.ite, show ¬ (4 : Int32) < 0 by decide, if_false, wp_pure', W.theClass, hkA, hka, Option.some.injEq, exists_eq_left']
  rw [show (4 : Int32).toNatClampNeg = 4 by decide]
  refine W.newArray_of hkA hka hlim4 hhp4 (by omega) (by omega) rfl (fun acts1 => ?_)
  rw [if_neg (show ¬ ((4 : Int32) == 0) = true by decide), wp_bind', Std.Legacy.Range.forIn_eq_forIn_range']
  show wp (forIn (List.range' 0 4 1) PUnit.unit _) _ E e d _ _
  refine wp_forIn_inv (fun rst u => ∃ i, i ≤ 4 ∧ rst = List.range' i (4 - i) ∧ u = mqT s cA cB i) _ _ ⟨0, Nat.zero_le _, rfl, by show _ = s.pushCell _; rw [mqO_0]⟩ ?_ ?_
  · rintro x rst u d1 acts2 Q1 ⟨i, hi, hli, rfl⟩ hnx
    have hlt : i < 4 := by
      rcases Nat.lt_or_ge i 4 with h | h
      · exact h
      · rw [show 4 - i = 0 from by omega] at hli; cases hli
    obtain ⟨rfl, hrs⟩ : x = i ∧ rst = List.range' (i + 1) (4 - (i + 1)) := by
      rw [show 4 - i = (4 - (i + 1)) + 1 from by omega, List.range'_succ] at hli
      exact ⟨(List.cons.inj hli).1, (List.cons.inj hli).2⟩
    obtain ⟨f1, f2, f3, f4⟩ := mqT_f s cA cB x
    simp only [wp_bind']
    refine mq_make1 (by rw [f3]; exact hkB) hkb hlim hhp (by rw [f1]; omega) (by rw [f4]; omega) (fun acts3 => ?_)
    simp only [wp_bind', W.writeLoc, wp_pure']
    have hlt0 : s.heap.size < (mqT s cA cB x).heap.size := by omega
    refine ⟨mqO cA s.heap.size x, by rw [State.heap_pushCell_of_lt (h := hlt0)]; exact f2, by simp [mqO, arrV], by rw [mqO_z]; exact hlt, ?_, hnx _ _ _ ⟨x + 1, hlt, hrs, by rw [f1]; rfl⟩⟩
    show State.fitsSlot _ cA .none _ _ = true
    simp [State.fitsSlot, State.slotType?, f3, hkA, hka, fits]
  · rintro u d1 acts2 ⟨i, hi, hli, rfl⟩
    have hiN : i = 4 := by
      rcases Nat.lt_or_ge i 4 with h | h
      · rw [show 4 - i = (4 - (i + 1)) + 1 from by omega, List.range'_succ] at hli; cases hli
      · omega
    subst hiN
    simp only [wp_pure']
    exact hq _ _
end
section
variable {p : Program} {l : Launch} {e : Env} {R : Room} {s : State} {m : MethodId} {args : Array Value} {below : List Frame} {meth : Method} {c : Code} {T : State} {locs : List Loc} {cells slots : Nat}
theorem mqT_X (X : Stand p l e R s m args below meth c T locs cells slots) (cA cB : ClassId) : ∀ i, Stand p l e R s m args below meth c (mqT T cA cB i) locs (cells + 1 + i) (slots + 4 + 40 * i)
  | 0 => by
    have hz := X.pushed (mqO cA T.heap.size 0)
    rw [mqO_z] at hz
    exact hz
  | i + 1 => by
    have q1 := (mqT_f T cA cB i).1
    have hlt : T.heap.size < (mqT T cA cB i).heap.size := by omega
    have hz := ((mqT_X X cA cB i).pushed (mqI cB)).stored (a := T.heap.size) (cell := mqO cA T.heap.size i) (by rw [State.heap_pushCell_of_lt (h := hlt)]; exact (mqT_f T cA cB i).2.1) i (.ref (T.heap.size + 1 + i))
    rw [mqI_z] at hz
    have hy := hz.dropFresh (fun x hx => by
      rcases List.mem_singleton.mp hx with rfl
      exact X.heapGrown)
    rw [show slots + 4 + 40 * (i + 1) = slots + 4 + 40 * i + 40 by omega]
    exact hy
theorem mq_W {H : Heap} {Q : State → Prop} {cc : ByteArray} (hexec : p.tables.exec = Jvm.exec) (hb : c.code = cc) {own : String} {index : Nat} (hown : s.vm.findClass own = some m.cls) (hclink : (Cond.classLink own index "[[I").before args s = true)
    {cA cB cC : ClassId} {kA kB : Class} (hfA : s.vm.findClass "[[I" = some cA) (hkA : s.vm.classes[cA]? = some kA) (hka : kA.kind = .array cB (.array .int)) (hkB : s.vm.classes[cB]? = some kB) (hkb : kB.kind = .array cC .int)
    {g : JFrame} (hg : g.method = m) (hdg : decode cc g.pc = .ok (.multianewarray index 2, 4)) {rest : List Value} (hstack : g.stack = .int 40 :: .int 4 :: rest) (hcells : cells + 5 ≤ R.cells) (hslots : slots + 164 ≤ R.slots)
    (kk : ∀ H1 : Heap, H1.size = H.size + 5 → H1[H.size]? = some (mqO cA H.size 4) → (∀ j, j < 4 → H1[H.size + 1 + j]? = some (mqI cB)) → (∀ q, q < H.size → H1[q]? = H[q]?) → W p l e R s m args below meth c H1 locs (cells + 5) (slots + 164) Q { g with pc := g.pc + 4, stack := .ref H.size :: rest }) : W p l e R s m args below meth c H locs cells slots Q g := by
  intro T hT X
  subst hT; subst hb; subst hg
  have hpl : e.platform.magicAccessors = ({} : Platform).magicAccessors := by rw [X.admits.platform]
  obtain ⟨c0, hf0, hcl⟩ := Cond.classLink_spec hown hclink e.platform hpl
  cases hfA.symm.trans hf0
  obtain ⟨hg1, hw1, hr1⟩ := State.classEntry (e := e) X.warmed hcl
  generalize T.vm.noted g.method.cls index (.cls cA) = vmx at hg1 hw1 hr1
  obtain ⟨kA1, hkA1, heA⟩ := hw1.alike.2.2 _ _ hkA
  obtain ⟨kB1, hkB1, heB⟩ := hw1.alike.2.2 _ _ hkB
  have hka1 : kA1.kind = .array cB (.array .int) := by rw [heA]; exact hka
  have hkb1 : kB1.kind = .array cC .int := by rw [heB]; exact hkb
  have X1 := X.noted hw1
  obtain ⟨ro1, ro2⟩ := X.roomAbove hcells hslots
  have XF := mqT_X X1 cA cB 4
  have hlm := Launch.admits_arrayLengthLimit X.admits
  have hhm := Launch.admits_maxHeapBytes X.admits
  obtain ⟨f1, f2, f3, f4⟩ := mqT_f (T.setVm vmx) cA cB 4
  obtain ⟨t, a1, b1⟩ := kk (mqT (T.setVm vmx) cA cB 4).heap f1 f2 (fun j hj => mqT_in (T.setVm vmx) cA cB 4 j hj) (fun q hq => mqT_old (T.setVm vmx) cA cB hq 4) (mqT (T.setVm vmx) cA cB 4) rfl XF
  refine ⟨t, ?_, b1⟩
  jvm_step X.here [hexec, hdg]
  simp only [multianewarray.sem, wp_bind', W.resolveClassAt_links (State.method?_setTop g X.here.top) hg1]
  rw [W.popN, if_neg (by decide)]
  refine ⟨g, State.topJava?_setTop' (s := T.setVm vmx) g X.here.top, [.int 4, .int 40], rest, rfl, hstack, ?_⟩
  simp only [List.mapM_cons, List.mapM_nil, wp_bind', wp_pure']
  refine mq_make2 hkA1 hka1 hkB1 hkb1 (by rw [hlm]; omega) (by rw [hhm]; omega) (by rw [hlm]; omega) (by rw [hhm]; omega) (by show T.heap.size + 5 ≤ _; omega) (by show T.slotsUsed + 164 ≤ _; omega) (fun d1 acts1 => ?_)
  have eS : ((T.setTop g).setVm vmx).setTop { g with stack := rest } = (T.setVm vmx).setTop { g with stack := rest } := by
    show ((T.setVm vmx).setTop g).setTop _ = _
    rw [State.setTop_setTop]
  rw [eS, mqT_top]
  simp only [wp_bind', W.mark, W.pushRef, State.topJava?_setTop' _ XF.here.top, Option.some.injEq, exists_eq_left', State.setTop_setTop, State.heap_setTop]
  intro acts2
  simp [jvm, XF.here.top]
  exact a1
end
theorem gt_P_app {D : va_G} {al : Nat → Nat} {ac : Nat → ClassId} {lay : List Ly} {f : Mem} {H1 : Heap} (g : Ro) (q : Ly) (h : va_P D vwCl (gt_wd al ac lay f) H1) (n : Nat) (hn : lay.length = n) (hq : va_at D vwCl (al n, gt_we al ac g q) H1) : va_P D vwCl (gt_wd al ac (lay ++ [q]) (ur f n g)) H1 := by
  subst hn
  rw [← gt_wd_app]
  refine h.app (fun k x hx => ?_)
  have hz : k < 1 := (List.getElem?_eq_some_iff.mp hx).1
  rw [show k = 0 by omega] at hx
  cases hx
  exact hq
abbrev mqL (n : Nat) : List Ly := [(3, 4, [n + 1 + 2, n + 2 + 2, n + 3 + 2, n + 4 + 2]), (0, 40, []), (0, 40, []), (0, 40, []), (0, 40, [])]
abbrev mqM (f : Mem) (n : Nat) : Mem := ur (ur (ur (ur (ur f n (fun _ => 0)) (n + 1) (fun _ => 0)) (n + 2) (fun _ => 0)) (n + 3) (fun _ => 0)) (n + 4) (fun _ => 0)
theorem A_newM {M : MT} {R : Room} {nc ns : Nat} {X : XT} {Z : ZT} {lay : List Ly} {pc : Nat} {lv : List (Nat × Value)} {st : List Value} {f : Mem} {idx n : Nat} (hd : decode (gt_c M) pc = .ok (.multianewarray idx 2, 4)) (hl0 : Cond.classLink (gt_y M).cls idx "[[I" ∈ gw) (hn : lay.length = n) (hlen : n + 5 < 1000) (hR : nc + 5 ≤ R.cells ∧ ns + 164 ≤ R.slots) (k : A (M, R, nc + 5, ns + 164, X, Z, lay ++ mqL n) (pc + 4) lv (.ref n :: st) (mqM f n)) : A (M, R, nc, ns, X, Z, lay) pc lv (.int 40 :: .int 4 :: st) f := by
  intro p l e s m args below meth cc H locs ls D al ac hX hS hP hV hl
  obtain ⟨kA, hkA, hka⟩ := hS.2.2.1.2.2.2.2
  obtain ⟨-, kB, hkB, cC, hkb⟩ := (hS.2.2.1.1.2 0 (ac 0, .int) rfl).1 1 (fun _ => .null)
  have hfA : s.vm.findClass "[[I" = some (ac 3) := (hS.2.2.1.1.2 3 (ac 3, .array .int) rfl).2
  refine mq_W hX.1 hX.2.1 hX.2.2.2.2.2.1 (hX.2.2.2.2.2.2.1 _ hl0) hfA hkA hka hkB hkb rfl hd rfl hR.1 hR.2 (fun H1 z1 o1 n1 k1 => ?_)
  intro T hT XX
  have hb1 : H1.size ≤ s.heap.size + (nc + 5) := by have z := gt_stand_size XX; rw [hT] at z; exact z
  have h6 : s.heap.size + nc = al lay.length := hS.2.2.2.2.2.1
  have hal := hS.1
  have hsz : H.size = al n := by
    have h0 := hV.1
    have h00 := hS.2.2.2.2.2.2
    rw [hn] at h6
    have e1 : al n = al 0 + n := hal n (by omega)
    by_cases z0 : n = 0
    · omega
    · obtain ⟨x, hx⟩ : ∃ x, lay[n - 1]? = some x := ⟨_, List.getElem?_eq_getElem (by omega)⟩
      have h2 := (hP (n - 1) _ (gt_wd_at (al := al) (ac := ac) (f := f) hx)).lt
      have h2 : al (n - 1) < H.size := h2
      rw [hal (n - 1) (by omega)] at h2
      omega
  have a1 : al (n + 1) = al n + 1 := by rw [hal _ (by omega), hal n (by omega)]; omega
  have a2 : al (n + 2) = al n + 1 + 1 := by rw [hal _ (by omega), hal n (by omega)]; omega
  have a3 : al (n + 3) = al n + 1 + 2 := by rw [hal _ (by omega), hal n (by omega)]; omega
  have a4 : al (n + 4) = al n + 1 + 3 := by rw [hal _ (by omega), hal n (by omega)]; omega
  rw [hsz] at o1 n1 k1 z1
  have p0 : va_P D vwCl (gt_wd al ac lay f) H1 := hP.kept (fun i x hx => k1 x.1 (by have z := (hP i x hx).lt; rw [hsz] at z; exact z))
  have p1 := gt_P_app (fun _ => 0) (3, 4, [n + 1 + 2, n + 2 + 2, n + 3 + 2, n + 4 + 2]) p0 n hn (by
    show H1[al n]? = some (vp_cell _ _)
    rw [vp_cell_q, o1, mqO]
    congr 2
    funext j
    show _ = va_rf (gt_ra al [n + 1 + 2, n + 2 + 2, n + 3 + 2, n + 4 + 2] j)
    match j with
    | 0 => show Value.ref (al n + 1 + 0) = .ref (al (n + 1)); rw [a1]
    | 1 => show Value.ref (al n + 1 + 1) = .ref (al (n + 2)); rw [a2]
    | 2 => show Value.ref (al n + 1 + 2) = .ref (al (n + 3)); rw [a3]
    | 3 => show Value.ref (al n + 1 + 3) = .ref (al (n + 4)); rw [a4]
    | j + 4 => rw [if_neg (by omega)]; rfl)
  have p2 := gt_P_app (fun _ => 0) (0, 40, []) p1 (n + 1) (by simp [hn]) (by
    show H1[al (n + 1)]? = some (mqI (ac 0))
    rw [a1]; exact n1 0 (by omega))
  have p3 := gt_P_app (fun _ => 0) (0, 40, []) p2 (n + 2) (by simp [hn]) (by
    show H1[al (n + 2)]? = some (mqI (ac 0))
    rw [a2]; exact n1 1 (by omega))
  have p4 := gt_P_app (fun _ => 0) (0, 40, []) p3 (n + 3) (by simp [hn]) (by
    show H1[al (n + 3)]? = some (mqI (ac 0))
    rw [a3]; exact n1 2 (by omega))
  have p5 := gt_P_app (fun _ => 0) (0, 40, []) p4 (n + 4) (by simp [hn]) (by
    show H1[al (n + 4)]? = some (mqI (ac 0))
    rw [a4]; exact n1 3 (by omega))
  have eL : ((((lay ++ [((3, 4, [n + 1 + 2, n + 2 + 2, n + 3 + 2, n + 4 + 2]) : Ly)]) ++ [(0, 40, [])]) ++ [(0, 40, [])]) ++ [(0, 40, [])]) ++ [(0, 40, [])] = lay ++ mqL n := by simp [mqL]
  rw [eL] at p5
  have kk := k p l e s m args below meth cc H1 locs ls D al ac hX ⟨hal, by show (lay ++ mqL n).length < 1000; simp only [List.length_append, mqL, List.length]; omega, hS.2.2.1, hS.2.2.2.1, hS.2.2.2.2.1, (by
    show s.heap.size + (nc + 5) = al (lay ++ mqL n).length
    rw [hn] at h6
    have e9 : (lay ++ mqL n).length = n + 5 := by simp only [List.length_append, mqL, List.length]; omega
    rw [e9, hal _ (by omega)]
    rw [hal n (by omega)] at h6
    omega), hS.2.2.2.2.2.2⟩ p5 ⟨by have h0 := hV.1; omega, fun q h1 h2 => (k1 q (by have h0 := hV.1; omega)).trans (hV.2.1 q h1 h2), hV.2.2⟩ hl T hT XX
  rw [hsz]
  exact kk
theorem B_newM {M : MT} {R : Room} {nc ns : Nat} {X : XT} {Z : ZT} {pre l : List Ly} {d pc : Nat} {lv : List (Nat × Value)} {st : List Value} {f : Mem} {idx n : Nat} (hp : pre.length = d) (hd : decode (gt_c M) pc = .ok (.multianewarray idx 2, 4)) (hl0 : Cond.classLink (gt_y M).cls idx "[[I" ∈ gw) (hn : d + l.length = n) (hlen : n + 5 < 1000) (hR : nc + 5 ≤ R.cells ∧ ns + 164 ≤ R.slots) (k : A (M, R, nc + 5, ns + 164, X, Z, pre ++ (l ++ mqL n)) (pc + 4) lv (.ref n :: st) (mqM f n)) : A (M, R, nc, ns, X, Z, pre ++ l) pc lv (.int 40 :: .int 4 :: st) f := by
  refine A_newM hd hl0 (by rw [List.length_append, hp]; exact hn) hlen hR ?_
  rw [List.append_assoc]; exact k
