/-! THE LAW'S ENTRY: what the tables and the start say -/
theorem kn_all {args : Array Value} {s : State} (hts : ∀ w ∈ gw, w.before args s = true) : ∃ D : va_G, ∀ (c : Nat) (q : vw_C), vwCl[c]? = some q → u_Kn s q.1 q.2.1 q.2.2 (D.1 c) (D.2 c) := by
  have h : ∀ c : Nat, ∃ z : ClassId × (Nat → Nat), ∀ q : vw_C, vwCl[c]? = some q → u_Kn s q.1 q.2.1 q.2.2 z.1 z.2 := by
    intro c
    match c with
    | 0 =>
      obtain ⟨a, b, h⟩ := u_known (C := RX0) (T := TX0) (N := 4) (n := 4) hts in_X0 (hts _ (mem_gw 249 (by decide +kernel) (by decide +kernel)))
      exact ⟨(a, b), fun q hq => by cases hq; exact h⟩
    | 1 =>
      obtain ⟨a, b, h⟩ := u_known (C := RX1) (T := TX1) (N := 14) (n := 14) hts in_X1 (hts _ (mem_gw 97 (by decide +kernel) (by decide +kernel)))
      exact ⟨(a, b), fun q hq => by cases hq; exact h⟩
    | 2 =>
      obtain ⟨a, b, h⟩ := u_known (C := RX2) (T := TX2) (N := 2) (n := 2) hts in_X2 (hts _ (mem_gw 353 (by decide +kernel) (by decide +kernel)))
      exact ⟨(a, b), fun q hq => by cases hq; exact h⟩
    | 3 =>
      obtain ⟨a, b, h⟩ := u_known (C := RX3) (T := TX3) (N := 2) (n := 2) hts in_X3 (hts _ (mem_gw 104 (by decide +kernel) (by decide +kernel)))
      exact ⟨(a, b), fun q hq => by cases hq; exact h⟩
    | 4 =>
      obtain ⟨a, b, h⟩ := u_known (C := RX4) (T := TX4) (N := 4) (n := 4) hts in_X4 (hts _ (mem_gw 195 (by decide +kernel) (by decide +kernel)))
      exact ⟨(a, b), fun q hq => by cases hq; exact h⟩
    | 5 =>
      obtain ⟨a, b, h⟩ := u_known (C := RX6) (T := TX6) (N := 15) (n := 15) hts in_X6 (hts _ (mem_gw 269 (by decide +kernel) (by decide +kernel)))
      exact ⟨(a, b), fun q hq => by cases hq; exact h⟩
    | 6 =>
      obtain ⟨a, b, h⟩ := u_known (C := RX7) (T := TX7) (N := 4) (n := 4) hts in_X7 (hts _ (mem_gw 277 (by decide +kernel) (by decide +kernel)))
      exact ⟨(a, b), fun q hq => by cases hq; exact h⟩
    | 7 =>
      obtain ⟨a, b, h⟩ := u_known (C := RX8) (T := TX8) (N := 2) (n := 2) hts in_X8 (hts _ (mem_gw 201 (by decide +kernel) (by decide +kernel)))
      exact ⟨(a, b), fun q hq => by cases hq; exact h⟩
    | 8 =>
      obtain ⟨a, b, h⟩ := u_known (C := RX9) (T := TX9) (N := 3) (n := 3) hts in_X9 (hts _ (mem_gw 233 (by decide +kernel) (by decide +kernel)))
      exact ⟨(a, b), fun q hq => by cases hq; exact h⟩
    | 9 =>
      obtain ⟨a, b, h⟩ := u_known (C := RX10) (T := TX10) (N := 9) (n := 9) hts in_X10 (hts _ (mem_gw 89 (by decide +kernel) (by decide +kernel)))
      exact ⟨(a, b), fun q hq => by cases hq; exact h⟩
    | 10 =>
      obtain ⟨a, b, h⟩ := u_known (C := RX11) (T := TX11) (N := 29) (n := 29) hts in_X11 (hts _ (mem_gw 908 (by decide +kernel) (by decide +kernel)))
      exact ⟨(a, b), fun q hq => by cases hq; exact h⟩
    | n + 11 => exact ⟨(0, fun _ => 0), fun q hq => absurd (List.getElem?_eq_some_iff.mp hq).1 (by show ¬ n + 11 < 11; omega)⟩
  obtain ⟨z, hz⟩ := Classical.axiomOfChoice h
  exact ⟨(fun c => (z c).1, fun c => (z c).2), fun c q hq => hz c q hq⟩
/-- what the tables say of the array of rows of ints -/
theorem ao_rows {args : Array Value} {s : State} (h : (Cond.arrayOver (.array .int)).before args s = true) : ∃ (comp c : ClassId) (k : Class), s.vm.findClass (FieldType.array .int).toString = some comp ∧ s.vm.classes[c]? = some k ∧ k.kind = .array comp (.array .int) ∧ s.vm.findClass ("[" ++ (FieldType.array .int).toString) = some c := by
  simp only [Cond.before, Cond.holds, Cond.value, beq_iff_eq] at h
  obtain ⟨comp, hc, h1⟩ := Option.bind_eq_some_iff.mp h
  obtain ⟨c, hi, h2⟩ := Option.bind_eq_some_iff.mp h1
  obtain ⟨k, hk, hb⟩ := Option.map_eq_some_iff.mp h2
  have hp := (Array.findIdx?_eq_some_iff_getElem.mp hi).2.1
  rw [(Array.getElem?_eq_some_iff.mp hk).2] at hp
  refine ⟨comp, c, k, hc, hk, ?_⟩
  cases hq : k.kind with
  | array a b =>
    rw [hq] at hb hp
    simp at hb hp
    exact ⟨by rw [hp, hb.1], hb.2⟩
  | _ => rw [hq] at hp; simp at hp
theorem ac_all {args : Array Value} {s : State} (hT : ∀ w ∈ lw_tbl, w.before args s = true) : ∃ ac : Nat → ClassId, (∀ (k : Nat) (q : ClassId × FieldType), (gt_tys ac)[k]? = some q → ArrOfT s q.1 q.2 ∧ va_RA s q.1 q.2) ∧ va_AO RX3 s ∧ gt_2 ac s := by
  obtain ⟨c0, k0, m0, f0, g0, i0⟩ := Cond.arrayClass_spec (hT (Cond.arrayClass .int) (List.mem_of_getElem? (i := 119) (by decide +kernel)))
  obtain ⟨c1, k1, m1, f1, g1, i1⟩ := Cond.arrayClass_spec (hT (Cond.arrayClass .boolean) (List.mem_of_getElem? (i := 120) (by decide +kernel)))
  have hO : (Cond.arrayOver (.object RX3)).before args s = true := hT _ (List.mem_of_getElem? (i := 103) (by decide +kernel))
  obtain ⟨m2, c2, k2, a2, b2, g2, i2, f2⟩ := Cond.arrayOver_spec hO
  obtain ⟨m3, c3, k3, a3, g3, i3, f3⟩ := ao_rows (hT (Cond.arrayOver (.array .int)) (List.mem_of_getElem? (i := 359) (by decide +kernel)))
  have e : m3 = c0 := Option.some.inj (a3.symm.trans f0)
  refine ⟨fun k => if k = 0 then c0 else if k = 1 then c1 else if k = 2 then c2 else c3, ?_, va_AO.of hO, ⟨k3, g3, by rw [i3, e]; rfl⟩⟩
  intro k q hq
  match k, hq with
  | 0, hq => cases hq; exact ⟨fun N z => ⟨fun k h => (by cases h), k0, g0, m0, i0⟩, f0⟩
  | 1, hq => cases hq; exact ⟨fun N z => ⟨fun k h => (by cases h), k1, g1, m1, i1⟩, f1⟩
  | 2, hq => cases hq; exact ⟨fun N z => ⟨fun k h => (by cases h), k2, g2, m2, i2⟩, k2, m2, g2, i2, a2, f2⟩
  | 3, hq => cases hq; exact ⟨fun N z => ⟨fun k h => (by cases h), k3, g3, m3, i3⟩, f3⟩
  | n + 4, hq => exact absurd (List.getElem?_eq_some_iff.mp hq).1 (by show ¬ n + 4 < 4; omega)
theorem nest_in : ∀ q ∈ gt_nest, Cond.methodLinkNest q.1 q.2.1 q.2.2 RX10 ∈ lw_tbl := List.forall_mem_cons.mpr ⟨List.mem_of_getElem? (i := 105) (by decide +kernel), List.forall_mem_cons.mpr ⟨List.mem_of_getElem? (i := 196) (by decide +kernel), List.forall_mem_cons.mpr ⟨List.mem_of_getElem? (i := 202) (by decide +kernel), List.forall_mem_cons.mpr ⟨List.mem_of_getElem? (i := 216) (by decide +kernel), List.forall_mem_cons.mpr ⟨List.mem_of_getElem? (i := 234) (by decide +kernel), List.forall_mem_cons.mpr ⟨List.mem_of_getElem? (i := 250) (by decide +kernel), List.forall_mem_cons.mpr ⟨List.mem_of_getElem? (i := 270) (by decide +kernel), List.forall_mem_cons.mpr ⟨List.mem_of_getElem? (i := 278) (by decide +kernel), List.forall_mem_cons.mpr ⟨List.mem_of_getElem? (i := 633) (by decide +kernel), List.forall_mem_cons.mpr ⟨List.mem_of_getElem? (i := 652) (by decide +kernel), List.forall_mem_cons.mpr ⟨List.mem_of_getElem? (i := 653) (by decide +kernel), List.forall_mem_cons.mpr ⟨List.mem_of_getElem? (i := 674) (by decide +kernel), List.forall_mem_cons.mpr ⟨List.mem_of_getElem? (i := 790) (by decide +kernel), fun _ h => absurd h List.not_mem_nil⟩⟩⟩⟩⟩⟩⟩⟩⟩⟩⟩⟩⟩
abbrev tmS (i : Nat) : Term := .string RX4 (76 + 2 * i)
abbrev gvF : List Cond := flatC (Jvm.Cond.and given_1 narrow_1)
theorem st_rf : ∀ i, i < 9 → lw_tbl[489 + i]? = some (Cond.stringRef RX4 (76 + 2 * i) (gt_tx i)) := by decide +kernel
theorem st_ex : ∀ i, i < 9 → Cond.exactly (tmS i) "java/lang/String" ∈ gvF := by decide +kernel
theorem st_co : ∀ i, i < 9 → Cond.eq (.field (tmS i) "java/lang/String" "coder" "B") (.int 0) ∈ gvF := by decide +kernel
theorem st_ar : ∀ i, i < 9 → Cond.arrayOf (.field (tmS i) "java/lang/String" "value" "[B") .byte ∈ gvF := by decide +kernel
theorem st_le : ∀ i, i < 9 → Cond.eq (.length (.field (tmS i) "java/lang/String" "value" "[B")) (.int (Int32.ofNat (gt_len.getD i 0))) ∈ gvF := by decide +kernel
theorem st_el : ∀ i, i < 9 → ∀ j, j < gt_len.getD i 0 → Cond.eq (.elem (.field (tmS i) "java/lang/String" "value" "[B") (.int (Int32.ofNat j))) (.int ((gt_byt.getD i []).getD j 0)) ∈ gvF := by decide +kernel
theorem st_ne : ∀ i, i < 9 → ∀ j, j < 9 → i ≠ j → (Cond.not (Cond.eq (tmS i) (tmS j)) ∈ gvF ∨ Cond.not (Cond.eq (tmS j) (tmS i)) ∈ gvF) := by decide +kernel
theorem st_n : ∀ i, i < 9 → gt_len.getD i 0 < 2 ^ 31 := by decide
theorem st_all {args : Array Value} {s : State} (hgv : (Jvm.Cond.and given_1 narrow_1).before args s = true) {A : Nat → Prop} (hA : ∀ a : Nat, a < s.heap.size → ¬ A a) : ∃ adK adV : Nat → Nat, vk_S 9 gt_len gt_byt adK adV A s s.heap ∧ ∀ i : Nat, i < 9 → (tmS i).eval args s none [] s = some (.ref (adK i)) := by
  have hs := flat_of_before _ hgv
  exact vk_Sof (N := 9) (tm := tmS) (len := gt_len) (byt := gt_byt) st_n (fun i hi => hs _ (st_ex i hi)) (fun i hi => hs _ (st_co i hi)) (fun i hi => hs _ (st_ar i hi)) (fun i hi => hs _ (st_le i hi)) (fun i hi j hj => hs _ (st_el i hi j hj)) (fun i j hi hj hij => (st_ne i hi j hj hij).imp (fun z => hs _ z) (fun z => hs _ z)) hA
/-- the law, from its entry -/
theorem whole_start {p : Program} {e : Env} {s : State} {m : MethodId} {below : List Frame} {meth : Method} {c : Code} (l : Launch) (hflags : l.flags = flags0) {b L : Nat} {xs : Nat → Int32} (hL : L ≤ 2048) (C0 : lw_At p s m meth c b L xs) : W p l e room_1 s m #[Value.ref b] below meth c s.heap [] 0 0 (lw_Z below #[Value.ref b] s) (entryFrame m ([Value.ref b] : List Value).toArray 4) := by
  obtain ⟨hx, hb, hr, hml, hown, hT, hX, hbl, hlocks, hgv⟩ := C0
  have hts : ∀ w ∈ gw, w.before #[Value.ref b] s = true := fun w hw => hT w (List.mem_filter.mp hw).1
  have hs := flat_of_before _ hgv
  obtain ⟨D, hD⟩ := kn_all hts
  obtain ⟨ac, hA1, hA2, hA3⟩ := ac_all hT
  have hnA : ∀ a : Nat, a < s.heap.size → ¬ (fun q : Nat => s.heap.size ≤ q) a := fun a h => Nat.not_le.mpr h
  obtain ⟨adK, adV, hS1, hS2⟩ := st_all hgv hnA
  obtain ⟨al, a0, aK, aV, aB⟩ : ∃ al : Nat → Nat, (∀ i, i < 1000 → al i = s.heap.size + i) ∧ (∀ i, i < 9 → al (1000 + i) = adK i) ∧ (∀ i, i < 9 → al (1100 + i) = adV i) ∧ al 1200 = b := by
    refine ⟨fun j => if j < 1000 then s.heap.size + j else if j < 1100 then adK (j - 1000) else if j < 1200 then adV (j - 1100) else b, fun i hi => if_pos hi, fun i hi => ?_, fun i hi => ?_, rfl⟩
    · show (if 1000 + i < 1000 then s.heap.size + (1000 + i) else if 1000 + i < 1100 then adK (1000 + i - 1000) else if 1000 + i < 1200 then adV (1000 + i - 1100) else b) = adK i
      rw [if_neg (by omega), if_pos (by omega), Nat.add_sub_cancel_left]
    · show (if 1100 + i < 1000 then s.heap.size + (1100 + i) else if 1100 + i < 1100 then adK (1100 + i - 1000) else if 1100 + i < 1200 then adV (1100 + i - 1100) else b) = adV i
      rw [if_neg (by omega), if_neg (by omega), if_pos (by omega), Nat.add_sub_cancel_left]
  have e0 : al 0 = s.heap.size := a0 0 (by omega)
  have hal : gt_al al := fun i hi => by rw [a0 i hi, e0]
  have nA : ∀ q : Nat, gt_A al q → (fun q : Nat => s.heap.size ≤ q) q := fun q h => by
    have h : al 0 ≤ q := h
    rw [e0] at h
    exact h
  have hK : gt_K D al ac s := ⟨⟨hD, hA1⟩, fun q hq => va_Nw.of rfl (hT _ (nest_in q hq)), fun i hi => by rw [aK i hi]; exact vk_R.of (hT _ (List.mem_of_getElem? (st_rf i hi))) (hS2 i hi), hA2, hA3⟩
  have hS3 := vk_S.narrow hS1 nA
  have hE : gt_E al s s.heap := by
    refine ⟨⟨fun i hi => ?_, fun i j hi hj e => ?_⟩, va_Z.narrow (va_Zof (hT _ (List.mem_of_getElem? (i := 511) (by decide +kernel))) (hT _ (List.mem_of_getElem? (i := 81) (by decide +kernel))) (va_eqt (hs (.eq (.static "java/lang/String" "COMPACT_STRINGS" "Z") (.int 1)) (by decide +kernel))) hnA) nA, va_Zq.narrow (va_Zqof (hT _ (List.mem_of_getElem? (i := 527) (by decide +kernel))) (hT _ (List.mem_of_getElem? (i := 83) (by decide +kernel))) (hs (.isRef (.static "jdk/internal/util/Preconditions" "SIOOBE_FORMATTER" "Ljava/util/function/BiFunction;")) (by decide +kernel)) hnA) nA⟩
    · show va_O "java/lang/String" (al (1000 + i)) (gt_A al) s s.heap ∧ va_OF "java/lang/String" "coder" "B" (.int 0) (al (1000 + i)) (gt_A al) s s.heap ∧ va_OF "java/lang/String" "value" "[B" (.ref (al (1100 + i))) (al (1000 + i)) (gt_A al) s s.heap ∧ va_T .byte (al (1100 + i)) (gt_len.getD i 0) (fun j => .int ((gt_byt.getD i []).getD j 0)) (gt_A al) s s.heap
      rw [aK i hi, aV i hi]
      exact hS3.1 i hi
    · have e : al (1000 + i) = al (1000 + j) := e
      rw [aK i hi, aK j hj] at e
      exact hS3.2 i j hi hj e
  have hl := lv_entry ([.ref b]) (n := 4) (Nat.le_of_ble_eq_true rfl)
  rw [lg_entry_eq]
  generalize (lg_sl ([.ref b]) ++ List.replicate (4 - (lg_sl ([.ref b])).length) Slot.unset).toArray = ls at hl ⊢
  have hl : lv_has ls 4 [(0, .ref b)] := hl
  have hl2 : lv_has ls 4 (gt_lv al [(0, .ref 1200)]) := by
    show lv_has ls 4 [(0, .ref (al 1200))]
    rw [aB]
    exact hl
  have hW : gt_X ML p s m #[Value.ref b] meth c := ⟨hx, hb, hml, hr, hlocks, hown, hts, fun h => absurd h (by decide)⟩
  have hQ : gt_S (ML, room_1, 0, 0, lX L xs, lZ, []) D al ac #[Value.ref b] s := ⟨hal, (by show 0 < 1000; omega), hK, hE, ⟨by rw [aB]; exact hX, by rw [aB]; exact hbl, by rw [aB, e0]; exact hbl, by rw [aB]⟩, e0.symm, Nat.le_of_eq e0⟩
  exact law_begin hL (fun _ _ => 0) p l e s m #[Value.ref b] below meth c s.heap [] ls D al ac hW hQ (fun k q h => absurd h (by show ¬ ([] : va_W)[k]? = some q; simp)) va_S.rf hl2
