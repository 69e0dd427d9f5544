/-- links between nest mates, which aren't among the good words -/
def gt_nest : List (String × Nat × MethodName) := [(RX1, 59, yX3_init), (RX10, 25, yX4_init), (RX4, 11, yX8_init), (RX4, 20, yX3_init), (RX10, 37, yX9_init), (RX10, 44, yX0_init), (RX10, 51, yX6_init), (RX6, 24, yX7_init), (RX1, 98, yX10_isMonitor), (RX1, 129, yX10_isCell), (RX1, 132, yX10_isCellNumber), (RX2, 26, yX10_isList), (RX0, 25, yX10_isCell)]
abbrev gt_tys (ac : Nat → ClassId) : List (ClassId × FieldType) := [(ac 0, .int), (ac 1, .boolean), (ac 2, .object RX3), (ac 3, .array .int)]
/-- the array of rows of ints: its component is the array of ints -/
def gt_2 (ac : Nat → ClassId) (U : State) : Prop := ∃ kA : Class, U.vm.classes[ac 3]? = some kA ∧ kA.kind = .array (ac 0) (.array .int)
theorem gt_2.moved {ac : Nat → ClassId} {u U : State} (hvm : u.vm.Alike U.vm) (h : gt_2 ac u) : gt_2 ac U := by
  obtain ⟨kA, h1, h2⟩ := h
  obtain ⟨kB, hk, he⟩ := hvm.2.2 _ _ h1
  exact ⟨kB, hk, by rw [he]; exact h2⟩
/-- what the tables say, at any state of the run -/
def gt_K (D : va_G) (al : Nat → Nat) (ac : Nat → ClassId) (U : State) : Prop := va_K D vwCl (gt_tys ac) U ∧ (∀ q ∈ gt_nest, va_Nw (.methodLinkNest q.1 q.2.1 q.2.2 RX10) U) ∧ (∀ i, i < 9 → vk_R RX4 (76 + 2 * i) (gt_tx i) (al (1000 + i)) U) ∧ va_AO RX3 U ∧ gt_2 ac U
/-- what lies outside the law's cells and is only read -/
def gt_E (al : Nat → Nat) (U : State) (H : Heap) : Prop := vk_S 9 gt_len gt_byt (fun i => al (1000 + i)) (fun i => al (1100 + i)) (gt_A al) U H ∧ va_Z "java/lang/String" "COMPACT_STRINGS" "Z" (.int 1) (gt_A al) U H ∧ va_Zq "jdk/internal/util/Preconditions" "SIOOBE_FORMATTER" "Ljava/util/function/BiFunction;" (gt_A al) U H
theorem gt_K.warm {D : va_G} {al : Nat → Nat} {ac : Nat → ClassId} {s U : State} (hW : s.WarmedH U.vm) (h : gt_K D al ac s) : gt_K D al ac U :=
  ⟨va_K.moved hW.alike h.1, fun q hq => va_Nw.warmM hW (h.2.1 q hq), fun i hi => vk_R.warm hW (h.2.2.1 i hi), va_AO.moved hW.alike h.2.2.2.1, h.2.2.2.2.moved hW.alike⟩
theorem gt_E.move {al : Nat → Nat} {s U : State} {H : Heap} {locs : List Loc} (hW : s.vm.Alike U.vm) (h : gt_E al s s.heap) (hS : va_S (gt_A al) s.heap H locs) : gt_E al U H :=
  ⟨vk_S.moved hW (h.1.kept hS.2.1), va_Z.moved hW (h.2.1.kept hS.2.1), va_Zq.moved hW (h.2.2.kept hS.2.1)⟩
/-- a method's start: the cells, the tables, the heap's size -/
def gt_P (D : va_G) (al : Nat → Nat) (ac : Nat → ClassId) (lay : List Ly) (f : Mem) (U : State) : Prop := va_P D vwCl (gt_wd al ac lay f) U.heap ∧ gt_K D al ac U ∧ gt_E al U U.heap ∧ U.heap.size = al lay.length
/-- its end -/
def gt_Q (D : va_G) (al : Nat → Nat) (ac : Nat → ClassId) (lay : List Ly) (post : Option Value → Mem → Prop) : Array Value → State → Outcome → State → Prop := fun _ st oc t =>
  (∃ (r : Option Value) (f : Mem), oc = .returned (r.map (cz al)) ∧ post r f ∧ va_P D vwCl (gt_wd al ac lay f) t.heap) ∧ va_F (gt_A al) st t
/-- A CONTRACT: from the arguments as and the memory f the method returns; post says of its answer and of the memory then; layout before and behind, cells and slots made -/
def Ct (M : MT) (mc ms : Nat) (lay lay' : List Ly) (as : List Value) (f : Mem) (post : Option Value → Mem → Prop) : Prop :=
  ∀ (l : Launch) (D : va_G) (al : Nat → Nat) (ac : Nat → ClassId), gt_al al → lay.length < 1000 → Met l (gt_y M) (gt_ws M) (gt_R M mc ms) (va_Pc (as.map (cz al)) (gt_P D al ac lay f)) (gt_Q D al ac lay' post) mc ms (gt_A al)
abbrev XT : Type := (Nat → Nat) → Array Value → State → Prop
abbrev ZT : Type := List Frame → Array Value → State → va_G → (Nat → Nat) → (Nat → ClassId) → State → Prop
/-- method, room, cells and slots made so far, what else is known, the goal, the layout -/
abbrev CT : Type := MT × Room × Nat × Nat × XT × ZT × List Ly
def gt_nX : XT := fun _ _ _ => True
def gt_Z (mc ms : Nat) (lay : List Ly) (post : Option Value → Mem → Prop) : ZT := fun below args s D al ac => MQ below (gt_Q D al ac lay post) args s mc ms (gt_A al)
/-- the machine stands in the method M -/
def gt_X (M : MT) (p : Program) (s : State) (m : MethodId) (args : Array Value) (meth : Method) (cc : Code) : Prop :=
  p.tables.exec = Jvm.exec ∧ cc.code = gt_c M ∧ cc.maxLocals = gt_L M ∧ meth.sig.returnType = gt_r M ∧ meth.locks = false ∧ s.vm.findClass (gt_y M).cls = some m.cls ∧ (∀ w ∈ gw, w.before args s = true) ∧ ((gt_y M).name = "<init>" → meth.name = "<init>")
def gt_S (c : CT) (D : va_G) (al : Nat → Nat) (ac : Nat → ClassId) (args : Array Value) (s : State) : Prop :=
  gt_al al ∧ c.2.2.2.2.2.2.length < 1000 ∧ gt_K D al ac s ∧ gt_E al s s.heap ∧ c.2.2.2.2.1 al args s ∧ s.heap.size + c.2.2.1 = al c.2.2.2.2.2.2.length ∧ al 0 ≤ s.heap.size
def gt_lv (al : Nat → Nat) (lv : List (Nat × Value)) : List (Nat × Value) := lv.map fun q => (q.1, cz al q.2)
/-- THE JUDGEMENT: from here the machine comes to the goal -/
def A (c : CT) (pc : Nat) (lv : List (Nat × Value)) (st : List Value) (f : Mem) : Prop :=
  ∀ (p : Program) (l : Launch) (e : Env) (s : State) (m : MethodId) (args : Array Value) (below : List Frame) (meth : Method) (cc : Code) (H : Heap) (locs : List Loc) (ls : Array Slot) (D : va_G) (al : Nat → Nat) (ac : Nat → ClassId),
    gt_X c.1 p s m args meth cc → gt_S c D al ac args s → va_P D vwCl (gt_wd al ac c.2.2.2.2.2.2 f) H → va_S (gt_A al) s.heap H locs → lv_has ls (gt_L c.1) (gt_lv al lv) →
    W p l e c.2.1 s m args below meth cc H locs c.2.2.1 c.2.2.2.1 (c.2.2.2.2.2.1 below args s D al ac) (F0 m pc ls (st.map (cz al)))
abbrev cM (M : MT) (mc ms : Nat) (lay lay' : List Ly) (post : Option Value → Mem → Prop) : CT := (M, gt_R M mc ms, 0, 0, gt_nX, gt_Z mc ms lay' post, lay)
theorem gt_lv_args (al : Nat → Nat) : ∀ (as : List Value) (i : Nat), lv_args i (as.map (cz al)) = gt_lv al (lv_args i as)
  | [], _ => rfl
  | v :: vs, i => by
    show (i, cz al v) :: lv_args _ (vs.map (cz al)) = (i, cz al v) :: gt_lv al (lv_args _ vs)
    rw [cz_cat, gt_lv_args al vs]
theorem gt_sl_len (al : Nat → Nat) : ∀ (as : List Value), (lg_sl (as.map (cz al))).length = (lg_sl as).length
  | [] => rfl
  | v :: vs => by
    have h := gt_sl_len al vs
    unfold lg_sl at h ⊢
    rw [List.map_cons, List.flatMap_cons, List.flatMap_cons, List.length_append, List.length_append, h, cz_cat]
    congr 1
    split <;> rfl
/-- a contract out of a walk from the entry -/
theorem Ct.of {M : MT} {mc ms : Nat} {lay lay' : List Ly} {as : List Value} {f : Mem} {post : Option Value → Mem → Prop} {lv : List (Nat × Value)} (hy : plainName (gt_y M).cls = true) (hn : (lg_sl as).length ≤ gt_L M) (hlv : lv_args 0 as = lv)
    (h : A (cM M mc ms lay lay' post) 0 lv [] f) : Ct M mc ms lay lay' as f post := by
  intro l D al ac hal hlen
  refine Met.ofW (cc := gt_c M) (maxL := gt_L M) (ret := gt_r M) hy rfl ?_
  intro p e s m args below meth c s₁ B hml hv
  obtain ⟨rfl, hP, hK, hE, hz⟩ := hv
  have hts := atoms_spec (ws := gt_ws M) B.pre
  have hown : s.vm.findClass (gt_y M).cls = some m.cls := findClass_of_methodNamed B.named
  have hl := lv_entry (as.map (cz al)) (n := gt_L M) (by rw [gt_sl_len]; exact hn)
  rw [lg_entry_eq]
  generalize (lg_sl (as.map (cz al)) ++ List.replicate (gt_L M - (lg_sl (as.map (cz al))).length) Slot.unset).toArray = ls at hl ⊢
  rw [gt_lv_args, hlv] at hl
  exact h p l e s m _ below meth c s.heap [] ls D al ac ⟨B.exec, B.bytes, hml, B.returns, B.notSynchronized, hown, fun w hw => hts w (List.mem_cons_of_mem _ hw), fun hn => ((name_of_methodNamed B.named B.method).1).trans hn⟩
    ⟨hal, hlen, hK, hE, trivial, hz, by rw [hz, hal lay.length hlen]; exact Nat.le_add_right _ _⟩ hP va_S.rf hl
/-- a contract's goal may be wider -/
theorem Ct.mono {M : MT} {mc ms : Nat} {lay lay' : List Ly} {as : List Value} {f : Mem} {post post' : Option Value → Mem → Prop} (h : Ct M mc ms lay lay' as f post) (hp : ∀ r g, post r g → post' r g) : Ct M mc ms lay lay' as f post' := by
  intro l D al ac hal hlen p e ha hc hk s m args below hf hap hP hT
  obtain ⟨k, o, h1, h2, h3, ⟨⟨⟨r, g, e1, e2, e3⟩, hF⟩, hL⟩⟩ := h l D al ac hal hlen p e ha hc hk s m args below hf hap hP hT
  exact ⟨k, o, h1, h2, h3, ⟨⟨r, g, e1, hp r g e2, e3⟩, hF⟩, hL⟩
