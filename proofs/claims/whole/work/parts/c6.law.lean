def R_law : String := "GateTurnsLaw"
def lw_P (b : Addr) (xs : List Int32) (args : Array Value) (s : State) : Prop := args = #[.ref b] ∧ s.IntsAt b xs ∧ xs.length ≤ 2048 ∧ (Jvm.Cond.and given_1 narrow_1).before args s = true
def lw_Q (_ : Array Value) (s : State) (o : Outcome) (t : State) : Prop := o = .returned (some (.int 1)) ∧ Framed s o t [] 600000 7302250
def lw_Z (below : List Frame) (a : Array Value) (s : State) : State → Prop := fun t => ∃ o, t.status = .running ∧ Ended t below o ∧ lw_Q a s o t
/-- the law's own end, with 1 on the stack, nothing written that was there before, its room as the claim has it -/
theorem lw_ret {p : Program} {l : Launch} {e : Env} {s : State} {m : MethodId} {below : List Frame} {meth : Method} {c : Code} {b : Nat} (hx : p.tables.exec = Jvm.exec) (hb : c.code = code) (hr : meth.sig.returnType = ret) (hlocks : meth.locks = false) {pc : Nat} {H : Heap} {ls : Array Slot} (hdg : decode code pc = .ok (.ireturn, 1)) : W p l e room_1 s m #[Value.ref b] below meth c H [] 600000 7302250 (lw_Z below #[Value.ref b] s) (F0 m pc ls [.int 1]) := by
  intro T hT X
  obtain ⟨fs, hret, hrun, hended, hW, hframe⟩ := X.leave (v := some (.int 1)) (hlocks := hlocks) (fun h => by rw [hr] at h; cases h)
  have hmeth' : T.vm.method? m = some meth := X.method'
  refine ⟨T.setFrames fs, ?_, .returned (some (.int 1)), hrun, hended, rfl, ⟨_, rfl⟩, hW, hframe⟩
  jvm_step X.here [X.here.top, hx, hb, hdg, hmeth', hr, ret, narrow_b1]
  (try refine ⟨rfl, ?_⟩); (try refine ⟨rfl, ?_⟩)
  first | (intro acts; rw [hret _ acts rfl rfl rfl]) | rw [hret _ _ rfl rfl rfl]
  exact Steps.refl _
/-- what holds at the law's entry: the machine, the code, the tables' words (any of lw_tbl by 'hts w (by decide +kernel)'), the script of L ints xs at the cell b, what the Statement gives of the start (any of its parts by flat_of_before) -/
def lw_At (p : Program) (s : State) (m : MethodId) (meth : Method) (c : Code) (b L : Nat) (xs : Nat → Int32) : Prop :=
  p.tables.exec = Jvm.exec ∧ c.code = code ∧ meth.sig.returnType = ret ∧ c.maxLocals = 4 ∧ s.vm.findClass R_law = some m.cls ∧ (∀ w ∈ lw_tbl, w.before #[Value.ref b] s = true) ∧ va_X b L xs s s.heap ∧ b < s.heap.size ∧ meth.locks = false ∧ (Jvm.Cond.and given_1 narrow_1).before #[Value.ref b] s = true
theorem no_RL_7 : NO RL 7 9 9 [1, 1, 0, 1, 1, 1, 1, 1, 1] := ⟨RX10, TX10, tyX10, rfl, in_X10, tyX10_ok, mem_gw 88 (by decide +kernel) (by decide +kernel), mem_gw 89 (by decide +kernel) (by decide +kernel), ini_RX10, fun al j hj => (match j, hj with | 0, _ => rfl | 1, _ => rfl | 2, _ => rfl | 3, _ => rfl | 4, _ => rfl | 5, _ => rfl | 6, _ => rfl | 7, _ => rfl | 8, _ => rfl)⟩
theorem no_RL_10 : NO RL 10 10 29 [1, 1, 1, 1, 1, 0, 1, 1, 1, 0, 0, 0, 0, 1, 1, 0, 0, 0, 1, 1, 1, 1, 1, 0, 0, 1, 0, 1, 1] := ⟨RX11, TX11, tyX11, rfl, in_X11, tyX11_ok, mem_gw 907 (by decide +kernel) (by decide +kernel), mem_gw 908 (by decide +kernel) (by decide +kernel), ini_RX11, fun al j hj => (match j, hj with | 0, _ => rfl | 1, _ => rfl | 2, _ => rfl | 3, _ => rfl | 4, _ => rfl | 5, _ => rfl | 6, _ => rfl | 7, _ => rfl | 8, _ => rfl | 9, _ => rfl | 10, _ => rfl | 11, _ => rfl | 12, _ => rfl | 13, _ => rfl | 14, _ => rfl | 15, _ => rfl | 16, _ => rfl | 17, _ => rfl | 18, _ => rfl | 19, _ => rfl | 20, _ => rfl | 21, _ => rfl | 22, _ => rfl | 23, _ => rfl | 24, _ => rfl | 25, _ => rfl | 26, _ => rfl | 27, _ => rfl | 28, _ => rfl | n + 29, h => absurd h (by omega))⟩
/-! THE LAW'S WALK -/
def ML : MT := (yL_law, cL_law, 4, ret, 0, 0)
/-- the script: L ints xs, at the cell 1200 -/
def lX (L : Nat) (xs : Nat → Int32) : XT := fun al args s => va_X (al 1200) L xs s s.heap ∧ al 1200 < s.heap.size ∧ al 1200 < al 0 ∧ args = #[.ref (al 1200)]
def lZ : ZT := fun below args s _ _ _ => lw_Z below args s
abbrev cL (L : Nat) (xs : Nat → Int32) : CT := (ML, room_1, 112, 45274, lX L xs, lZ, layT)
abbrev lvI (i : Nat) : List (Nat × Value) := [(3, .int (nI i)), (2, .ref 93), (1, .ref 0), (0, .ref 1200)]
theorem A_end {L : Nat} {xs : Nat → Int32} {pc : Nat} {lv : List (Nat × Value)} {f : Mem} (hd : decode code pc = .ok (.ireturn, 1)) : A (cL L xs) pc lv [.int 1] f := by
  intro p l e s m args below meth cc H locs ls D al ac hX hS hP hV hl
  obtain ⟨hal, hlen, hK, hE, hx, hz, h0⟩ := hS
  obtain ⟨h1, h2, h3, h4⟩ := hx
  subst h4
  have hz : s.heap.size + 112 = al 112 := hz
  have e0 : s.heap.size = al 0 := by rw [hal 112 (by omega)] at hz; omega
  refine va_forget (fun q hq => by rw [e0]; exact hV.2.2 q hq) ?_
  refine W.widen (k := 600000) (n := 7302250) (lb rfl) (lb rfl) ?_
  exact lw_ret hX.1 hX.2.1 hX.2.2.2.1 hX.2.2.2.2.1 hd
theorem A_sld {L : Nat} {xs : Nat → Int32} {pc : Nat} {lv : List (Nat × Value)} {st : List Value} {f : Mem} (i : Nat) (hd : decode code pc = .ok (.iaload, 1)) (hi : i < L) (hL : L ≤ 2048) (k : A (cL L xs) (pc + 1) lv (.int (xs i) :: st) f) : A (cL L xs) pc lv (.int (nI i) :: .ref 1200 :: st) f := by
  intro p l e s m args below meth cc H locs ls D al ac hX hS hP hV hl
  obtain ⟨h1, h2, h3, h4⟩ := hS.2.2.2.2.1
  refine va_sld (A := gt_A al) (b := al 1200) hX.1 hX.2.1 h1 h2 (Nat.not_le.mpr h3) hV (vp_in_nI hi (by omega)) hd ?_
  rw [nI_clamp (by omega)]
  exact k p l e s m args below meth cc H locs ls D al ac hX hS hP hV hl
theorem A_slen {L : Nat} {xs : Nat → Int32} {pc : Nat} {lv : List (Nat × Value)} {st : List Value} {f : Mem} (hd : decode code pc = .ok (.arraylength, 1)) (k : A (cL L xs) (pc + 1) lv (.int (nI L) :: st) f) : A (cL L xs) pc lv (.ref 1200 :: st) f := by
  intro p l e s m args below meth cc H locs ls D al ac hX hS hP hV hl
  obtain ⟨h1, h2, h3, h4⟩ := hS.2.2.2.2.1
  refine va_slen (A := gt_A al) (b := al 1200) hX.1 hX.2.1 h1 h2 (Nat.not_le.mpr h3) hV hd ?_
  exact k p l e s m args below meth cc H locs ls D al ac hX hS hP hV hl
/-- one of the script's numbers -/
theorem A_scr {L : Nat} {xs : Nat → Int32} {pc : Nat} {st : List Value} {f : Mem} {i : Nat} (v : Nat) {n : Int} (hL : L ≤ 2048) (hi : i + v < L) (d0 : decode code pc = .ok (.aload_n 0, 1)) (d1 : decode code (pc + 1) = .ok (.iload_n 3, 1)) (d2 : decode code (pc + 1 + 1) = .ok (.iconst n, 1)) (hn : Int32.ofInt n = nI v) (d3 : decode code (pc + 1 + 1 + 1) = .ok (.iadd, 1)) (d4 : decode code (pc + 1 + 1 + 1 + 1) = .ok (.iaload, 1)) (k : A (cL L xs) (pc + 1 + 1 + 1 + 1 + 1) (lvI i) (.int (xs (i + v)) :: st) f) : A (cL L xs) pc (lvI i) st f := by
  refine A_aload_n d0 rfl 3 rfl ?_
  refine A_iload_n d1 rfl 0 rfl ?_
  refine A_iconst (v := nI v) d2 hn ?_
  refine A_iadd d3 ?_
  rw [nI_add]
  exact A_sld (i + v) d4 hi hL k
theorem gt4 {L i : Nat} (hL : L ≤ 2048) (hi : i ≤ 2048) : nI L - 4 < nI i ↔ L < i + 4 := by
  rw [Int32.lt_iff_toInt_lt, Int32.toInt_sub, nI_toInt (by omega), nI_toInt (by omega), show (4 : Int32).toInt = 4 from rfl, Int.bmod_eq_of_le (by omega) (by omega)]
  omega
def LK (L : Nat) (xs : Nat → Int32) (i : Nat) : Prop := ∀ (q : QT) (f : Mem), WV q → XV f q → RV f q → A (cL L xs) 1051 (lvI i) [] f
theorem law_task {L : Nat} {xs : Nat → Int32} {i : Nat} (hL : L ≤ 2048) (hi : i + 4 ≤ L) (K : LK L xs i) {q : QT} {f : Mem} (w : WV q) (x : XV f q) (r : RV f q) : A (cL L xs) 172 (lvI i) [] f := by
  obtain ⟨a, qz, wz, h1, h2⟩ := op_task q w
  refine A_aload_n dL_law_172 rfl 2 rfl ?_
  refine A_callV (M' := MX10_task) (ci := 9) [] [] 0 dL_law_173 lk_RL_13 oX10_task iX10_task rfl rfl ⟨lb rfl, lb rfl⟩ (lb rfl) ⟨lb rfl, lb rfl⟩ L0 rfl (h1 f x) ?_
  rintro _ g ⟨rfl, xg, eg⟩
  have rg := RV.up r eg
  refine A_aload_n dL_law_176 rfl 1 rfl ?_
  refine A_callV (M' := MX11_task) (ci := 10) [] [.int a] 93 dL_law_177 lk_RL_17 oX11_task iX11_task rfl rfl ⟨lb rfl, lb rfl⟩ (lb rfl) ⟨lb rfl, lb rfl⟩ L93 rfl (h2 g rg) ?_
  rintro _ h ⟨rfl, rh, eh⟩
  exact A_icmp_eq (tgt := 1051) dL_law_180 rfl (fun _ => K qz h wz (XV.up xg eh) rh) (fun hn => absurd rfl hn)
theorem law_restart {L : Nat} {xs : Nat → Int32} {i : Nat} (hL : L ≤ 2048) (hi : i + 4 ≤ L) (K : LK L xs i) {q : QT} {f : Mem} (w : WV q) (x : XV f q) (r : RV f q) : A (cL L xs) 185 (lvI i) [] f := by
  obtain ⟨a, qz, wz, h1, h2⟩ := op_restart q w
  refine A_aload_n dL_law_185 rfl 2 rfl ?_
  refine A_callV (M' := MX10_restart) (ci := 9) [] [] 0 dL_law_186 lk_RL_18 oX10_restart iX10_restart rfl rfl ⟨lb rfl, lb rfl⟩ (lb rfl) ⟨lb rfl, lb rfl⟩ L0 rfl (h1 f x) ?_
  rintro _ g ⟨rfl, xg, eg⟩
  have rg := RV.up r eg
  refine A_aload_n dL_law_189 rfl 1 rfl ?_
  refine A_callV (M' := MX11_restart) (ci := 10) [] [.int a] 93 dL_law_190 lk_RL_21 oX11_restart iX11_restart rfl rfl ⟨lb rfl, lb rfl⟩ (lb rfl) ⟨lb rfl, lb rfl⟩ L93 rfl (h2 g rg) ?_
  rintro _ h ⟨rfl, rh, eh⟩
  exact A_icmp_eq (tgt := 1051) dL_law_193 rfl (fun _ => K qz h wz (XV.up xg eh) rh) (fun hn => absurd rfl hn)
theorem law_missing {L : Nat} {xs : Nat → Int32} {i : Nat} (hL : L ≤ 2048) (hi : i + 4 ≤ L) (K : LK L xs i) {q : QT} {f : Mem} (w : WV q) (x : XV f q) (r : RV f q) : A (cL L xs) 198 (lvI i) [] f := by
  by_cases hz : xs (i + 2) = 0
  · obtain ⟨a, qz, wz, h1, h2⟩ := op_missing (xs (i + 1)) 0 (by omega) q w
    refine A_aload_n dL_law_198 rfl 2 rfl ?_
    refine A_scr 1 hL (by omega) dL_law_199 dL_law_200 dL_law_201 rfl dL_law_202 dL_law_203 ?_
    refine A_scr 2 hL (by omega) dL_law_204 dL_law_205 dL_law_206 rfl dL_law_207 dL_law_208 ?_
    refine A_if_eq (tgt := 216) dL_law_209 rfl (fun _ => ?_) (fun h => absurd hz h)
    refine A_iconst (v := nI 0) dL_law_216 rfl ?_
    refine A_callV (M' := MX10_missing) (ci := 9) [.int (xs (i + 1)), .int (nI 0)] [] 0 dL_law_217 lk_RL_22 oX10_missing iX10_missing rfl rfl ⟨lb rfl, lb rfl⟩ (lb rfl) ⟨lb rfl, lb rfl⟩ L0 rfl (h1 f x) ?_
    rintro _ g ⟨rfl, xg, eg⟩
    have rg := RV.up r eg
    refine A_aload_n dL_law_220 rfl 1 rfl ?_
    refine A_scr 1 hL (by omega) dL_law_221 dL_law_222 dL_law_223 rfl dL_law_224 dL_law_225 ?_
    refine A_scr 2 hL (by omega) dL_law_226 dL_law_227 dL_law_228 rfl dL_law_229 dL_law_230 ?_
    refine A_if_eq (tgt := 238) dL_law_231 rfl (fun _ => ?_) (fun h => absurd hz h)
    refine A_iconst (v := nI 0) dL_law_238 rfl ?_
    refine A_callV (M' := MX11_missing) (ci := 10) [.int (xs (i + 1)), .int (nI 0)] [.int a] 93 dL_law_239 lk_RL_26 oX11_missing iX11_missing rfl rfl ⟨lb rfl, lb rfl⟩ (lb rfl) ⟨lb rfl, lb rfl⟩ L93 rfl (h2 g rg) ?_
    rintro _ h ⟨rfl, rh, eh⟩
    exact A_icmp_eq (tgt := 1051) dL_law_242 rfl (fun _ => K qz h wz (XV.up xg eh) rh) (fun hn => absurd rfl hn)
  · obtain ⟨a, qz, wz, h1, h2⟩ := op_missing (xs (i + 1)) 1 (by omega) q w
    refine A_aload_n dL_law_198 rfl 2 rfl ?_
    refine A_scr 1 hL (by omega) dL_law_199 dL_law_200 dL_law_201 rfl dL_law_202 dL_law_203 ?_
    refine A_scr 2 hL (by omega) dL_law_204 dL_law_205 dL_law_206 rfl dL_law_207 dL_law_208 ?_
    refine A_if_eq (tgt := 216) dL_law_209 rfl (fun h => absurd h hz) (fun _ => ?_)
    refine A_iconst (v := nI 1) dL_law_212 rfl ?_
    refine A_goto (tgt := 217) dL_law_213 rfl ?_
    refine A_callV (M' := MX10_missing) (ci := 9) [.int (xs (i + 1)), .int (nI 1)] [] 0 dL_law_217 lk_RL_22 oX10_missing iX10_missing rfl rfl ⟨lb rfl, lb rfl⟩ (lb rfl) ⟨lb rfl, lb rfl⟩ L0 rfl (h1 f x) ?_
    rintro _ g ⟨rfl, xg, eg⟩
    have rg := RV.up r eg
    refine A_aload_n dL_law_220 rfl 1 rfl ?_
    refine A_scr 1 hL (by omega) dL_law_221 dL_law_222 dL_law_223 rfl dL_law_224 dL_law_225 ?_
    refine A_scr 2 hL (by omega) dL_law_226 dL_law_227 dL_law_228 rfl dL_law_229 dL_law_230 ?_
    refine A_if_eq (tgt := 238) dL_law_231 rfl (fun h => absurd h hz) (fun _ => ?_)
    refine A_iconst (v := nI 1) dL_law_234 rfl ?_
    refine A_goto (tgt := 239) dL_law_235 rfl ?_
    refine A_callV (M' := MX11_missing) (ci := 10) [.int (xs (i + 1)), .int (nI 1)] [.int a] 93 dL_law_239 lk_RL_26 oX11_missing iX11_missing rfl rfl ⟨lb rfl, lb rfl⟩ (lb rfl) ⟨lb rfl, lb rfl⟩ L93 rfl (h2 g rg) ?_
    rintro _ h ⟨rfl, rh, eh⟩
    exact A_icmp_eq (tgt := 1051) dL_law_242 rfl (fun _ => K qz h wz (XV.up xg eh) rh) (fun hn => absurd rfl hn)
theorem law_put {L : Nat} {xs : Nat → Int32} {i : Nat} (hL : L ≤ 2048) (hi : i + 4 ≤ L) (K : LK L xs i) {q : QT} {f : Mem} (w : WV q) (x : XV f q) (r : RV f q) : A (cL L xs) 247 (lvI i) [] f := by
  obtain ⟨a, qz, wz, h1, h2⟩ := op_put (xs (i + 1)) (xs (i + 2)) q w
  refine A_aload_n dL_law_247 rfl 2 rfl ?_
  refine A_scr 1 hL (by omega) dL_law_248 dL_law_249 dL_law_250 rfl dL_law_251 dL_law_252 ?_
  refine A_scr 2 hL (by omega) dL_law_253 dL_law_254 dL_law_255 rfl dL_law_256 dL_law_257 ?_
  refine A_callV (M' := MX10_put) (ci := 9) [.int (xs (i + 1)), .int (xs (i + 2))] [] 0 dL_law_258 lk_RL_27 oX10_put iX10_put rfl rfl ⟨lb rfl, lb rfl⟩ (lb rfl) ⟨lb rfl, lb rfl⟩ L0 rfl (h1 f x) ?_
  rintro _ g ⟨rfl, xg, eg⟩
  have rg := RV.up r eg
  refine A_aload_n dL_law_261 rfl 1 rfl ?_
  refine A_scr 1 hL (by omega) dL_law_262 dL_law_263 dL_law_264 rfl dL_law_265 dL_law_266 ?_
  refine A_scr 2 hL (by omega) dL_law_267 dL_law_268 dL_law_269 rfl dL_law_270 dL_law_271 ?_
  refine A_callV (M' := MX11_put) (ci := 10) [.int (xs (i + 1)), .int (xs (i + 2))] [.int a] 93 dL_law_272 lk_RL_31 oX11_put iX11_put rfl rfl ⟨lb rfl, lb rfl⟩ (lb rfl) ⟨lb rfl, lb rfl⟩ L93 rfl (h2 g rg) ?_
  rintro _ h ⟨rfl, rh, eh⟩
  exact A_icmp_eq (tgt := 1051) dL_law_275 rfl (fun _ => K qz h wz (XV.up xg eh) rh) (fun hn => absurd rfl hn)
theorem law_cell {L : Nat} {xs : Nat → Int32} {i : Nat} (hL : L ≤ 2048) (hi : i + 4 ≤ L) (K : LK L xs i) {q : QT} {f : Mem} (w : WV q) (x : XV f q) (r : RV f q) : A (cL L xs) 280 (lvI i) [] f := by
  obtain ⟨a, qz, wz, h1, h2⟩ := op_cell (xs (i + 1)) q w
  refine A_aload_n dL_law_280 rfl 2 rfl ?_
  refine A_scr 1 hL (by omega) dL_law_281 dL_law_282 dL_law_283 rfl dL_law_284 dL_law_285 ?_
  refine A_callV (M' := MX10_cell) (ci := 9) [.int (xs (i + 1))] [] 0 dL_law_286 lk_RL_32 oX10_cell iX10_cell rfl rfl ⟨lb rfl, lb rfl⟩ (lb rfl) ⟨lb rfl, lb rfl⟩ L0 rfl (h1 f x) ?_
  rintro _ g ⟨rfl, xg, eg⟩
  have rg := RV.up r eg
  refine A_aload_n dL_law_289 rfl 1 rfl ?_
  refine A_scr 1 hL (by omega) dL_law_290 dL_law_291 dL_law_292 rfl dL_law_293 dL_law_294 ?_
  refine A_callV (M' := MX11_cell) (ci := 10) [.int (xs (i + 1))] [.int a] 93 dL_law_295 lk_RL_36 oX11_cell iX11_cell rfl rfl ⟨lb rfl, lb rfl⟩ (lb rfl) ⟨lb rfl, lb rfl⟩ L93 rfl (h2 g rg) ?_
  rintro _ h ⟨rfl, rh, eh⟩
  exact A_icmp_eq (tgt := 1051) dL_law_298 rfl (fun _ => K qz h wz (XV.up xg eh) rh) (fun hn => absurd rfl hn)
theorem law_feed {L : Nat} {xs : Nat → Int32} {i : Nat} (hL : L ≤ 2048) (hi : i + 4 ≤ L) (K : LK L xs i) {q : QT} {f : Mem} (w : WV q) (x : XV f q) (r : RV f q) : A (cL L xs) 303 (lvI i) [] f := by
  obtain ⟨a, qz, wz, h1, h2⟩ := op_feed (xs (i + 1)) q w
  refine A_aload_n dL_law_303 rfl 2 rfl ?_
  refine A_scr 1 hL (by omega) dL_law_304 dL_law_305 dL_law_306 rfl dL_law_307 dL_law_308 ?_
  refine A_callV (M' := MX10_feed) (ci := 9) [.int (xs (i + 1))] [] 0 dL_law_309 lk_RL_37 oX10_feed iX10_feed rfl rfl ⟨lb rfl, lb rfl⟩ (lb rfl) ⟨lb rfl, lb rfl⟩ L0 rfl (h1 f x) ?_
  rintro _ g ⟨rfl, xg, eg⟩
  have rg := RV.up r eg
  refine A_aload_n dL_law_312 rfl 1 rfl ?_
  refine A_scr 1 hL (by omega) dL_law_313 dL_law_314 dL_law_315 rfl dL_law_316 dL_law_317 ?_
  refine A_callV (M' := MX11_feed) (ci := 10) [.int (xs (i + 1))] [.int a] 93 dL_law_318 lk_RL_40 oX11_feed iX11_feed rfl rfl ⟨lb rfl, lb rfl⟩ (lb rfl) ⟨lb rfl, lb rfl⟩ L93 rfl (h2 g rg) ?_
  rintro _ h ⟨rfl, rh, eh⟩
  exact A_icmp_eq (tgt := 1051) dL_law_321 rfl (fun _ => K qz h wz (XV.up xg eh) rh) (fun hn => absurd rfl hn)
theorem law_clear {L : Nat} {xs : Nat → Int32} {i : Nat} (hL : L ≤ 2048) (hi : i + 4 ≤ L) (K : LK L xs i) {q : QT} {f : Mem} (w : WV q) (x : XV f q) (r : RV f q) : A (cL L xs) 326 (lvI i) [] f := by
  obtain ⟨a, qz, wz, h1, h2⟩ := op_clear q w
  refine A_aload_n dL_law_326 rfl 2 rfl ?_
  refine A_callV (M' := MX10_clear) (ci := 9) [] [] 0 dL_law_327 lk_RL_41 oX10_clear iX10_clear rfl rfl ⟨lb rfl, lb rfl⟩ (lb rfl) ⟨lb rfl, lb rfl⟩ L0 rfl (h1 f x) ?_
  rintro _ g ⟨rfl, xg, eg⟩
  have rg := RV.up r eg
  refine A_aload_n dL_law_330 rfl 1 rfl ?_
  refine A_callV (M' := MX11_clear) (ci := 10) [] [.int a] 93 dL_law_331 lk_RL_44 oX11_clear iX11_clear rfl rfl ⟨lb rfl, lb rfl⟩ (lb rfl) ⟨lb rfl, lb rfl⟩ L93 rfl (h2 g rg) ?_
  rintro _ h ⟨rfl, rh, eh⟩
  exact A_icmp_eq (tgt := 1051) dL_law_334 rfl (fun _ => K qz h wz (XV.up xg eh) rh) (fun hn => absurd rfl hn)
theorem law_program {L : Nat} {xs : Nat → Int32} {i : Nat} (hL : L ≤ 2048) (hi : i + 4 ≤ L) (K : LK L xs i) {q : QT} {f : Mem} (w : WV q) (x : XV f q) (r : RV f q) : A (cL L xs) 339 (lvI i) [] f := by
  obtain ⟨a, qz, wz, h1, h2⟩ := op_program (xs (i + 1)) q w
  refine A_aload_n dL_law_339 rfl 2 rfl ?_
  refine A_scr 1 hL (by omega) dL_law_340 dL_law_341 dL_law_342 rfl dL_law_343 dL_law_344 ?_
  refine A_callV (M' := MX10_program) (ci := 9) [.int (xs (i + 1))] [] 0 dL_law_345 lk_RL_45 oX10_program iX10_program rfl rfl ⟨lb rfl, lb rfl⟩ (lb rfl) ⟨lb rfl, lb rfl⟩ L0 rfl (h1 f x) ?_
  rintro _ g ⟨rfl, xg, eg⟩
  have rg := RV.up r eg
  refine A_aload_n dL_law_348 rfl 1 rfl ?_
  refine A_scr 1 hL (by omega) dL_law_349 dL_law_350 dL_law_351 rfl dL_law_352 dL_law_353 ?_
  refine A_callV (M' := MX11_program) (ci := 10) [.int (xs (i + 1))] [.int a] 93 dL_law_354 lk_RL_48 oX11_program iX11_program rfl rfl ⟨lb rfl, lb rfl⟩ (lb rfl) ⟨lb rfl, lb rfl⟩ L93 rfl (h2 g rg) ?_
  rintro _ h ⟨rfl, rh, eh⟩
  exact A_icmp_eq (tgt := 1051) dL_law_357 rfl (fun _ => K qz h wz (XV.up xg eh) rh) (fun hn => absurd rfl hn)
theorem law_statement {L : Nat} {xs : Nat → Int32} {i : Nat} (hL : L ≤ 2048) (hi : i + 4 ≤ L) (K : LK L xs i) {q : QT} {f : Mem} (w : WV q) (x : XV f q) (r : RV f q) : A (cL L xs) 362 (lvI i) [] f := by
  obtain ⟨a, qz, wz, h1, h2⟩ := op_statement (xs (i + 1)) (xs (i + 2)) (xs (i + 3)) q w
  refine A_aload_n dL_law_362 rfl 2 rfl ?_
  refine A_scr 1 hL (by omega) dL_law_363 dL_law_364 dL_law_365 rfl dL_law_366 dL_law_367 ?_
  refine A_scr 2 hL (by omega) dL_law_368 dL_law_369 dL_law_370 rfl dL_law_371 dL_law_372 ?_
  refine A_scr 3 hL (by omega) dL_law_373 dL_law_374 dL_law_375 rfl dL_law_376 dL_law_377 ?_
  refine A_callV (M' := MX10_statement) (ci := 9) [.int (xs (i + 1)), .int (xs (i + 2)), .int (xs (i + 3))] [] 0 dL_law_378 lk_RL_49 oX10_statement iX10_statement rfl rfl ⟨lb rfl, lb rfl⟩ (lb rfl) ⟨lb rfl, lb rfl⟩ L0 rfl (h1 f x) ?_
  rintro _ g ⟨rfl, xg, eg⟩
  have rg := RV.up r eg
  refine A_aload_n dL_law_381 rfl 1 rfl ?_
  refine A_scr 1 hL (by omega) dL_law_382 dL_law_383 dL_law_384 rfl dL_law_385 dL_law_386 ?_
  refine A_scr 2 hL (by omega) dL_law_387 dL_law_388 dL_law_389 rfl dL_law_390 dL_law_391 ?_
  refine A_scr 3 hL (by omega) dL_law_392 dL_law_393 dL_law_394 rfl dL_law_395 dL_law_396 ?_
  refine A_callV (M' := MX11_statement) (ci := 10) [.int (xs (i + 1)), .int (xs (i + 2)), .int (xs (i + 3))] [.int a] 93 dL_law_397 lk_RL_53 oX11_statement iX11_statement rfl rfl ⟨lb rfl, lb rfl⟩ (lb rfl) ⟨lb rfl, lb rfl⟩ L93 rfl (h2 g rg) ?_
  rintro _ h ⟨rfl, rh, eh⟩
  exact A_icmp_eq (tgt := 1051) dL_law_400 rfl (fun _ => K qz h wz (XV.up xg eh) rh) (fun hn => absurd rfl hn)
theorem law_step {L : Nat} {xs : Nat → Int32} {i : Nat} (hL : L ≤ 2048) (hi : i + 4 ≤ L) (K : LK L xs i) {q : QT} {f : Mem} (w : WV q) (x : XV f q) (r : RV f q) : A (cL L xs) 405 (lvI i) [] f := by
  obtain ⟨a, qz, wz, h1, h2⟩ := op_step (xs (i + 1)) q w
  refine A_aload_n dL_law_405 rfl 2 rfl ?_
  refine A_scr 1 hL (by omega) dL_law_406 dL_law_407 dL_law_408 rfl dL_law_409 dL_law_410 ?_
  refine A_callV (M' := MX10_step) (ci := 9) [.int (xs (i + 1))] [] 0 dL_law_411 lk_RL_54 oX10_step iX10_step rfl rfl ⟨lb rfl, lb rfl⟩ (lb rfl) ⟨lb rfl, lb rfl⟩ L0 rfl (h1 f x) ?_
  rintro _ g ⟨rfl, xg, eg⟩
  have rg := RV.up r eg
  refine A_aload_n dL_law_414 rfl 1 rfl ?_
  refine A_scr 1 hL (by omega) dL_law_415 dL_law_416 dL_law_417 rfl dL_law_418 dL_law_419 ?_
  refine A_callV (M' := MX11_step) (ci := 10) [.int (xs (i + 1))] [.int a] 93 dL_law_420 lk_RL_57 oX11_step iX11_step rfl rfl ⟨lb rfl, lb rfl⟩ (lb rfl) ⟨lb rfl, lb rfl⟩ L93 rfl (h2 g rg) ?_
  rintro _ h ⟨rfl, rh, eh⟩
  exact A_icmp_eq (tgt := 1051) dL_law_423 rfl (fun _ => K qz h wz (XV.up xg eh) rh) (fun hn => absurd rfl hn)
theorem law_run {L : Nat} {xs : Nat → Int32} {i : Nat} (hL : L ≤ 2048) (hi : i + 4 ≤ L) (K : LK L xs i) {q : QT} {f : Mem} (w : WV q) (x : XV f q) (r : RV f q) : A (cL L xs) 428 (lvI i) [] f := by
  obtain ⟨a, qz, wz, h1, h2⟩ := op_run (xs (i + 1)) (xs (i + 2)) q w
  refine A_aload_n dL_law_428 rfl 2 rfl ?_
  refine A_scr 1 hL (by omega) dL_law_429 dL_law_430 dL_law_431 rfl dL_law_432 dL_law_433 ?_
  refine A_scr 2 hL (by omega) dL_law_434 dL_law_435 dL_law_436 rfl dL_law_437 dL_law_438 ?_
  refine A_callV (M' := MX10_run) (ci := 9) [.int (xs (i + 1)), .int (xs (i + 2))] [] 0 dL_law_439 lk_RL_58 oX10_run iX10_run rfl rfl ⟨lb rfl, lb rfl⟩ (lb rfl) ⟨lb rfl, lb rfl⟩ L0 rfl (h1 f x) ?_
  rintro _ g ⟨rfl, xg, eg⟩
  have rg := RV.up r eg
  refine A_aload_n dL_law_442 rfl 1 rfl ?_
  refine A_scr 1 hL (by omega) dL_law_443 dL_law_444 dL_law_445 rfl dL_law_446 dL_law_447 ?_
  refine A_scr 2 hL (by omega) dL_law_448 dL_law_449 dL_law_450 rfl dL_law_451 dL_law_452 ?_
  refine A_callV (M' := MX11_run) (ci := 10) [.int (xs (i + 1)), .int (xs (i + 2))] [.int a] 93 dL_law_453 lk_RL_61 oX11_run iX11_run rfl rfl ⟨lb rfl, lb rfl⟩ (lb rfl) ⟨lb rfl, lb rfl⟩ L93 rfl (h2 g rg) ?_
  rintro _ h ⟨rfl, rh, eh⟩
  exact A_icmp_eq (tgt := 1051) dL_law_456 rfl (fun _ => K qz h wz (XV.up xg eh) rh) (fun hn => absurd rfl hn)
theorem law_follow {L : Nat} {xs : Nat → Int32} {i : Nat} (hL : L ≤ 2048) (hi : i + 4 ≤ L) (K : LK L xs i) {q : QT} {f : Mem} (w : WV q) (x : XV f q) (r : RV f q) : A (cL L xs) 461 (lvI i) [] f := by
  obtain ⟨a, qz, wz, h1, h2⟩ := op_follow (xs (i + 1)) (xs (i + 2)) (xs (i + 3)) q w
  refine A_aload_n dL_law_461 rfl 2 rfl ?_
  refine A_scr 1 hL (by omega) dL_law_462 dL_law_463 dL_law_464 rfl dL_law_465 dL_law_466 ?_
  refine A_scr 2 hL (by omega) dL_law_467 dL_law_468 dL_law_469 rfl dL_law_470 dL_law_471 ?_
  refine A_scr 3 hL (by omega) dL_law_472 dL_law_473 dL_law_474 rfl dL_law_475 dL_law_476 ?_
  refine A_callV (M' := MX10_follow) (ci := 9) [.int (xs (i + 1)), .int (xs (i + 2)), .int (xs (i + 3))] [] 0 dL_law_477 lk_RL_62 oX10_follow iX10_follow rfl rfl ⟨lb rfl, lb rfl⟩ (lb rfl) ⟨lb rfl, lb rfl⟩ L0 rfl (h1 f x) ?_
  rintro _ g ⟨rfl, xg, eg⟩
  have rg := RV.up r eg
  refine A_aload_n dL_law_480 rfl 1 rfl ?_
  refine A_scr 1 hL (by omega) dL_law_481 dL_law_482 dL_law_483 rfl dL_law_484 dL_law_485 ?_
  refine A_scr 2 hL (by omega) dL_law_486 dL_law_487 dL_law_488 rfl dL_law_489 dL_law_490 ?_
  refine A_scr 3 hL (by omega) dL_law_491 dL_law_492 dL_law_493 rfl dL_law_494 dL_law_495 ?_
  refine A_callV (M' := MX11_follow) (ci := 10) [.int (xs (i + 1)), .int (xs (i + 2)), .int (xs (i + 3))] [.int a] 93 dL_law_496 lk_RL_65 oX11_follow iX11_follow rfl rfl ⟨lb rfl, lb rfl⟩ (lb rfl) ⟨lb rfl, lb rfl⟩ L93 rfl (h2 g rg) ?_
  rintro _ h ⟨rfl, rh, eh⟩
  exact A_icmp_eq (tgt := 1051) dL_law_499 rfl (fun _ => K qz h wz (XV.up xg eh) rh) (fun hn => absurd rfl hn)
theorem law_of {L : Nat} {xs : Nat → Int32} {i : Nat} (hL : L ≤ 2048) (hi : i + 4 ≤ L) (K : LK L xs i) {q : QT} {f : Mem} (w : WV q) (x : XV f q) (r : RV f q) : A (cL L xs) 504 (lvI i) [] f := by
  obtain ⟨a, qz, wz, h1, h2⟩ := op_of (xs (i + 1)) (xs (i + 2)) q w
  refine A_aload_n dL_law_504 rfl 2 rfl ?_
  refine A_scr 1 hL (by omega) dL_law_505 dL_law_506 dL_law_507 rfl dL_law_508 dL_law_509 ?_
  refine A_scr 2 hL (by omega) dL_law_510 dL_law_511 dL_law_512 rfl dL_law_513 dL_law_514 ?_
  refine A_callV (M' := MX10_of) (ci := 9) [.int (xs (i + 1)), .int (xs (i + 2))] [] 0 dL_law_515 lk_RL_66 oX10_of iX10_of rfl rfl ⟨lb rfl, lb rfl⟩ (lb rfl) ⟨lb rfl, lb rfl⟩ L0 rfl (h1 f x) ?_
  rintro _ g ⟨rfl, xg, eg⟩
  have rg := RV.up r eg
  refine A_aload_n dL_law_518 rfl 1 rfl ?_
  refine A_scr 1 hL (by omega) dL_law_519 dL_law_520 dL_law_521 rfl dL_law_522 dL_law_523 ?_
  refine A_scr 2 hL (by omega) dL_law_524 dL_law_525 dL_law_526 rfl dL_law_527 dL_law_528 ?_
  refine A_callV (M' := MX11_of) (ci := 10) [.int (xs (i + 1)), .int (xs (i + 2))] [.int a] 93 dL_law_529 lk_RL_69 oX11_of iX11_of rfl rfl ⟨lb rfl, lb rfl⟩ (lb rfl) ⟨lb rfl, lb rfl⟩ L93 rfl (h2 g rg) ?_
  rintro _ h ⟨rfl, rh, eh⟩
  exact A_icmp_eq (tgt := 1051) dL_law_532 rfl (fun _ => K qz h wz (XV.up xg eh) rh) (fun hn => absurd rfl hn)
theorem law_gate {L : Nat} {xs : Nat → Int32} {i : Nat} (hL : L ≤ 2048) (hi : i + 4 ≤ L) (K : LK L xs i) {q : QT} {f : Mem} (w : WV q) (x : XV f q) (r : RV f q) : A (cL L xs) 537 (lvI i) [] f := by
  obtain ⟨a, qz, wz, h1, h2⟩ := op_gate (xs (i + 1)) (xs (i + 2)) q w
  refine A_aload_n dL_law_537 rfl 2 rfl ?_
  refine A_scr 1 hL (by omega) dL_law_538 dL_law_539 dL_law_540 rfl dL_law_541 dL_law_542 ?_
  refine A_scr 2 hL (by omega) dL_law_543 dL_law_544 dL_law_545 rfl dL_law_546 dL_law_547 ?_
  refine A_callV (M' := MX10_gate) (ci := 9) [.int (xs (i + 1)), .int (xs (i + 2))] [] 0 dL_law_548 lk_RL_70 oX10_gate iX10_gate rfl rfl ⟨lb rfl, lb rfl⟩ (lb rfl) ⟨lb rfl, lb rfl⟩ L0 rfl (h1 f x) ?_
  rintro _ g ⟨rfl, xg, eg⟩
  have rg := RV.up r eg
  refine A_aload_n dL_law_551 rfl 1 rfl ?_
  refine A_scr 1 hL (by omega) dL_law_552 dL_law_553 dL_law_554 rfl dL_law_555 dL_law_556 ?_
  refine A_scr 2 hL (by omega) dL_law_557 dL_law_558 dL_law_559 rfl dL_law_560 dL_law_561 ?_
  refine A_callV (M' := MX11_gate) (ci := 10) [.int (xs (i + 1)), .int (xs (i + 2))] [.int a] 93 dL_law_562 lk_RL_73 oX11_gate iX11_gate rfl rfl ⟨lb rfl, lb rfl⟩ (lb rfl) ⟨lb rfl, lb rfl⟩ L93 rfl (h2 g rg) ?_
  rintro _ h ⟨rfl, rh, eh⟩
  exact A_icmp_eq (tgt := 1051) dL_law_565 rfl (fun _ => K qz h wz (XV.up xg eh) rh) (fun hn => absurd rfl hn)
theorem law_stands {L : Nat} {xs : Nat → Int32} {i : Nat} (hL : L ≤ 2048) (hi : i + 4 ≤ L) (K : LK L xs i) {q : QT} {f : Mem} (w : WV q) (x : XV f q) (r : RV f q) : A (cL L xs) 570 (lvI i) [] f := by
  obtain ⟨a, qz, wz, h1, h2⟩ := op_stands (xs (i + 1)) (xs (i + 2)) (xs (i + 3)) q w
  refine A_aload_n dL_law_570 rfl 2 rfl ?_
  refine A_scr 1 hL (by omega) dL_law_571 dL_law_572 dL_law_573 rfl dL_law_574 dL_law_575 ?_
  refine A_scr 2 hL (by omega) dL_law_576 dL_law_577 dL_law_578 rfl dL_law_579 dL_law_580 ?_
  refine A_scr 3 hL (by omega) dL_law_581 dL_law_582 dL_law_583 rfl dL_law_584 dL_law_585 ?_
  refine A_callV (M' := MX10_stands) (ci := 9) [.int (xs (i + 1)), .int (xs (i + 2)), .int (xs (i + 3))] [] 0 dL_law_586 lk_RL_74 oX10_stands iX10_stands rfl rfl ⟨lb rfl, lb rfl⟩ (lb rfl) ⟨lb rfl, lb rfl⟩ L0 rfl (h1 f x) ?_
  rintro _ g ⟨rfl, xg, eg⟩
  have rg := RV.up r eg
  refine A_aload_n dL_law_589 rfl 1 rfl ?_
  refine A_scr 1 hL (by omega) dL_law_590 dL_law_591 dL_law_592 rfl dL_law_593 dL_law_594 ?_
  refine A_scr 2 hL (by omega) dL_law_595 dL_law_596 dL_law_597 rfl dL_law_598 dL_law_599 ?_
  refine A_scr 3 hL (by omega) dL_law_600 dL_law_601 dL_law_602 rfl dL_law_603 dL_law_604 ?_
  refine A_callV (M' := MX11_stands) (ci := 10) [.int (xs (i + 1)), .int (xs (i + 2)), .int (xs (i + 3))] [.int a] 93 dL_law_605 lk_RL_77 oX11_stands iX11_stands rfl rfl ⟨lb rfl, lb rfl⟩ (lb rfl) ⟨lb rfl, lb rfl⟩ L93 rfl (h2 g rg) ?_
  rintro _ h ⟨rfl, rh, eh⟩
  exact A_icmp_eq (tgt := 1051) dL_law_608 rfl (fun _ => K qz h wz (XV.up xg eh) rh) (fun hn => absurd rfl hn)
theorem law_are {L : Nat} {xs : Nat → Int32} {i : Nat} (hL : L ≤ 2048) (hi : i + 4 ≤ L) (K : LK L xs i) {q : QT} {f : Mem} (w : WV q) (x : XV f q) (r : RV f q) : A (cL L xs) 613 (lvI i) [] f := by
  obtain ⟨a, qz, wz, h1, h2⟩ := op_are (xs (i + 1)) q w
  refine A_aload_n dL_law_613 rfl 2 rfl ?_
  refine A_scr 1 hL (by omega) dL_law_614 dL_law_615 dL_law_616 rfl dL_law_617 dL_law_618 ?_
  refine A_callV (M' := MX10_are) (ci := 9) [.int (xs (i + 1))] [] 0 dL_law_619 lk_RL_78 oX10_are iX10_are rfl rfl ⟨lb rfl, lb rfl⟩ (lb rfl) ⟨lb rfl, lb rfl⟩ L0 rfl (h1 f x) ?_
  rintro _ g ⟨rfl, xg, eg⟩
  have rg := RV.up r eg
  refine A_aload_n dL_law_622 rfl 1 rfl ?_
  refine A_scr 1 hL (by omega) dL_law_623 dL_law_624 dL_law_625 rfl dL_law_626 dL_law_627 ?_
  refine A_callV (M' := MX11_are) (ci := 10) [.int (xs (i + 1))] [.int a] 93 dL_law_628 lk_RL_81 oX11_are iX11_are rfl rfl ⟨lb rfl, lb rfl⟩ (lb rfl) ⟨lb rfl, lb rfl⟩ L93 rfl (h2 g rg) ?_
  rintro _ h ⟨rfl, rh, eh⟩
  exact A_icmp_eq (tgt := 1051) dL_law_631 rfl (fun _ => K qz h wz (XV.up xg eh) rh) (fun hn => absurd rfl hn)
theorem law_told {L : Nat} {xs : Nat → Int32} {i : Nat} (hL : L ≤ 2048) (hi : i + 4 ≤ L) (K : LK L xs i) {q : QT} {f : Mem} (w : WV q) (x : XV f q) (r : RV f q) : A (cL L xs) 636 (lvI i) [] f := by
  obtain ⟨a, qz, wz, h1, h2⟩ := op_told (xs (i + 1)) q w
  refine A_aload_n dL_law_636 rfl 2 rfl ?_
  refine A_scr 1 hL (by omega) dL_law_637 dL_law_638 dL_law_639 rfl dL_law_640 dL_law_641 ?_
  refine A_callV (M' := MX10_told) (ci := 9) [.int (xs (i + 1))] [] 0 dL_law_642 lk_RL_82 oX10_told iX10_told rfl rfl ⟨lb rfl, lb rfl⟩ (lb rfl) ⟨lb rfl, lb rfl⟩ L0 rfl (h1 f x) ?_
  rintro _ g ⟨rfl, xg, eg⟩
  have rg := RV.up r eg
  refine A_aload_n dL_law_645 rfl 1 rfl ?_
  refine A_scr 1 hL (by omega) dL_law_646 dL_law_647 dL_law_648 rfl dL_law_649 dL_law_650 ?_
  refine A_callV (M' := MX11_told) (ci := 10) [.int (xs (i + 1))] [.int a] 93 dL_law_651 lk_RL_85 oX11_told iX11_told rfl rfl ⟨lb rfl, lb rfl⟩ (lb rfl) ⟨lb rfl, lb rfl⟩ L93 rfl (h2 g rg) ?_
  rintro _ h ⟨rfl, rh, eh⟩
  exact A_icmp_eq (tgt := 1051) dL_law_654 rfl (fun _ => K qz h wz (XV.up xg eh) rh) (fun hn => absurd rfl hn)
theorem law_cause {L : Nat} {xs : Nat → Int32} {i : Nat} (hL : L ≤ 2048) (hi : i + 4 ≤ L) (K : LK L xs i) {q : QT} {f : Mem} (w : WV q) (x : XV f q) (r : RV f q) : A (cL L xs) 659 (lvI i) [] f := by
  obtain ⟨a, qz, wz, h1, h2⟩ := op_cause (xs (i + 1)) (xs (i + 2)) q w
  refine A_aload_n dL_law_659 rfl 2 rfl ?_
  refine A_scr 1 hL (by omega) dL_law_660 dL_law_661 dL_law_662 rfl dL_law_663 dL_law_664 ?_
  refine A_scr 2 hL (by omega) dL_law_665 dL_law_666 dL_law_667 rfl dL_law_668 dL_law_669 ?_
  refine A_callV (M' := MX10_cause) (ci := 9) [.int (xs (i + 1)), .int (xs (i + 2))] [] 0 dL_law_670 lk_RL_86 oX10_cause iX10_cause rfl rfl ⟨lb rfl, lb rfl⟩ (lb rfl) ⟨lb rfl, lb rfl⟩ L0 rfl (h1 f x) ?_
  rintro _ g ⟨rfl, xg, eg⟩
  have rg := RV.up r eg
  refine A_aload_n dL_law_673 rfl 1 rfl ?_
  refine A_scr 1 hL (by omega) dL_law_674 dL_law_675 dL_law_676 rfl dL_law_677 dL_law_678 ?_
  refine A_scr 2 hL (by omega) dL_law_679 dL_law_680 dL_law_681 rfl dL_law_682 dL_law_683 ?_
  refine A_callV (M' := MX11_cause) (ci := 10) [.int (xs (i + 1)), .int (xs (i + 2))] [.int a] 93 dL_law_684 lk_RL_89 oX11_cause iX11_cause rfl rfl ⟨lb rfl, lb rfl⟩ (lb rfl) ⟨lb rfl, lb rfl⟩ L93 rfl (h2 g rg) ?_
  rintro _ h ⟨rfl, rh, eh⟩
  exact A_icmp_eq (tgt := 1051) dL_law_687 rfl (fun _ => K qz h wz (XV.up xg eh) rh) (fun hn => absurd rfl hn)
theorem law_found {L : Nat} {xs : Nat → Int32} {i : Nat} (hL : L ≤ 2048) (hi : i + 4 ≤ L) (K : LK L xs i) {q : QT} {f : Mem} (w : WV q) (x : XV f q) (r : RV f q) : A (cL L xs) 692 (lvI i) [] f := by
  obtain ⟨a, qz, wz, h1, h2⟩ := op_found (xs (i + 1)) q w
  refine A_aload_n dL_law_692 rfl 2 rfl ?_
  refine A_scr 1 hL (by omega) dL_law_693 dL_law_694 dL_law_695 rfl dL_law_696 dL_law_697 ?_
  refine A_callV (M' := MX10_found) (ci := 9) [.int (xs (i + 1))] [] 0 dL_law_698 lk_RL_90 oX10_found iX10_found rfl rfl ⟨lb rfl, lb rfl⟩ (lb rfl) ⟨lb rfl, lb rfl⟩ L0 rfl (h1 f x) ?_
  rintro _ g ⟨rfl, xg, eg⟩
  have rg := RV.up r eg
  refine A_aload_n dL_law_701 rfl 1 rfl ?_
  refine A_scr 1 hL (by omega) dL_law_702 dL_law_703 dL_law_704 rfl dL_law_705 dL_law_706 ?_
  refine A_callV (M' := MX11_found) (ci := 10) [.int (xs (i + 1))] [.int a] 93 dL_law_707 lk_RL_93 oX11_found iX11_found rfl rfl ⟨lb rfl, lb rfl⟩ (lb rfl) ⟨lb rfl, lb rfl⟩ L93 rfl (h2 g rg) ?_
  rintro _ h ⟨rfl, rh, eh⟩
  exact A_icmp_eq (tgt := 1051) dL_law_710 rfl (fun _ => K qz h wz (XV.up xg eh) rh) (fun hn => absurd rfl hn)
theorem law_schedule {L : Nat} {xs : Nat → Int32} {i : Nat} (hL : L ≤ 2048) (hi : i + 4 ≤ L) (K : LK L xs i) {q : QT} {f : Mem} (w : WV q) (x : XV f q) (r : RV f q) : A (cL L xs) 715 (lvI i) [] f := by
  obtain ⟨a, qz, wz, h1, h2⟩ := op_sched (xs (i + 1)) (xs (i + 2)) q w
  refine A_aload_n dL_law_715 rfl 2 rfl ?_
  refine A_scr 1 hL (by omega) dL_law_716 dL_law_717 dL_law_718 rfl dL_law_719 dL_law_720 ?_
  refine A_scr 2 hL (by omega) dL_law_721 dL_law_722 dL_law_723 rfl dL_law_724 dL_law_725 ?_
  refine A_callV (M' := MX10_schedule) (ci := 9) [.int (xs (i + 1)), .int (xs (i + 2))] [] 0 dL_law_726 lk_RL_94 oX10_schedule iX10_schedule rfl rfl ⟨lb rfl, lb rfl⟩ (lb rfl) ⟨lb rfl, lb rfl⟩ L0 rfl (h1 f x) ?_
  rintro _ g ⟨rfl, xg, eg⟩
  have rg := RV.up r eg
  refine A_aload_n dL_law_729 rfl 1 rfl ?_
  refine A_scr 1 hL (by omega) dL_law_730 dL_law_731 dL_law_732 rfl dL_law_733 dL_law_734 ?_
  refine A_scr 2 hL (by omega) dL_law_735 dL_law_736 dL_law_737 rfl dL_law_738 dL_law_739 ?_
  refine A_callV (M' := MX11_schedule) (ci := 10) [.int (xs (i + 1)), .int (xs (i + 2))] [.int a] 93 dL_law_740 lk_RL_97 oX11_schedule iX11_schedule rfl rfl ⟨lb rfl, lb rfl⟩ (lb rfl) ⟨lb rfl, lb rfl⟩ L93 rfl (h2 g rg) ?_
  rintro _ h ⟨rfl, rh, eh⟩
  exact A_icmp_eq (tgt := 1051) dL_law_743 rfl (fun _ => K qz h wz (XV.up xg eh) rh) (fun hn => absurd rfl hn)
theorem law_lay {L : Nat} {xs : Nat → Int32} {i : Nat} (hL : L ≤ 2048) (hi : i + 4 ≤ L) (K : LK L xs i) {q : QT} {f : Mem} (w : WV q) (x : XV f q) (r : RV f q) : A (cL L xs) 748 (lvI i) [] f := by
  obtain ⟨a, qz, wz, h1, h2⟩ := op_lay (xs (i + 1)) (xs (i + 2)) (xs (i + 3)) q w
  refine A_aload_n dL_law_748 rfl 2 rfl ?_
  refine A_scr 1 hL (by omega) dL_law_749 dL_law_750 dL_law_751 rfl dL_law_752 dL_law_753 ?_
  refine A_scr 2 hL (by omega) dL_law_754 dL_law_755 dL_law_756 rfl dL_law_757 dL_law_758 ?_
  refine A_scr 3 hL (by omega) dL_law_759 dL_law_760 dL_law_761 rfl dL_law_762 dL_law_763 ?_
  refine A_callV (M' := MX10_lay) (ci := 9) [.int (xs (i + 1)), .int (xs (i + 2)), .int (xs (i + 3))] [] 0 dL_law_764 lk_RL_98 oX10_lay iX10_lay rfl rfl ⟨lb rfl, lb rfl⟩ (lb rfl) ⟨lb rfl, lb rfl⟩ L0 rfl (h1 f x) ?_
  rintro _ g ⟨rfl, xg, eg⟩
  have rg := RV.up r eg
  refine A_aload_n dL_law_767 rfl 1 rfl ?_
  refine A_scr 1 hL (by omega) dL_law_768 dL_law_769 dL_law_770 rfl dL_law_771 dL_law_772 ?_
  refine A_scr 2 hL (by omega) dL_law_773 dL_law_774 dL_law_775 rfl dL_law_776 dL_law_777 ?_
  refine A_scr 3 hL (by omega) dL_law_778 dL_law_779 dL_law_780 rfl dL_law_781 dL_law_782 ?_
  refine A_callV (M' := MX11_lay) (ci := 10) [.int (xs (i + 1)), .int (xs (i + 2)), .int (xs (i + 3))] [.int a] 93 dL_law_783 lk_RL_101 oX11_lay iX11_lay rfl rfl ⟨lb rfl, lb rfl⟩ (lb rfl) ⟨lb rfl, lb rfl⟩ L93 rfl (h2 g rg) ?_
  rintro _ h ⟨rfl, rh, eh⟩
  exact A_icmp_eq (tgt := 1051) dL_law_786 rfl (fun _ => K qz h wz (XV.up xg eh) rh) (fun hn => absurd rfl hn)
theorem law_outcome {L : Nat} {xs : Nat → Int32} {i : Nat} (hL : L ≤ 2048) (hi : i + 4 ≤ L) (K : LK L xs i) {q : QT} {f : Mem} (w : WV q) (x : XV f q) (r : RV f q) : A (cL L xs) 791 (lvI i) [] f := by
  obtain ⟨a, qz, wz, h1, h2⟩ := op_outc (xs (i + 1)) (xs (i + 2)) q w
  refine A_aload_n dL_law_791 rfl 2 rfl ?_
  refine A_scr 1 hL (by omega) dL_law_792 dL_law_793 dL_law_794 rfl dL_law_795 dL_law_796 ?_
  refine A_scr 2 hL (by omega) dL_law_797 dL_law_798 dL_law_799 rfl dL_law_800 dL_law_801 ?_
  refine A_callV (M' := MX10_outcome) (ci := 9) [.int (xs (i + 1)), .int (xs (i + 2))] [] 0 dL_law_802 lk_RL_102 oX10_outcome iX10_outcome rfl rfl ⟨lb rfl, lb rfl⟩ (lb rfl) ⟨lb rfl, lb rfl⟩ L0 rfl (h1 f x) ?_
  rintro _ g ⟨rfl, xg, eg⟩
  have rg := RV.up r eg
  refine A_aload_n dL_law_805 rfl 1 rfl ?_
  refine A_scr 1 hL (by omega) dL_law_806 dL_law_807 dL_law_808 rfl dL_law_809 dL_law_810 ?_
  refine A_scr 2 hL (by omega) dL_law_811 dL_law_812 dL_law_813 rfl dL_law_814 dL_law_815 ?_
  refine A_callV (M' := MX11_outcome) (ci := 10) [.int (xs (i + 1)), .int (xs (i + 2))] [.int a] 93 dL_law_816 lk_RL_105 oX11_outcome iX11_outcome rfl rfl ⟨lb rfl, lb rfl⟩ (lb rfl) ⟨lb rfl, lb rfl⟩ L93 rfl (h2 g rg) ?_
  rintro _ h ⟨rfl, rh, eh⟩
  exact A_icmp_eq (tgt := 1051) dL_law_819 rfl (fun _ => K qz h wz (XV.up xg eh) rh) (fun hn => absurd rfl hn)
theorem law_under {L : Nat} {xs : Nat → Int32} {i : Nat} (hL : L ≤ 2048) (hi : i + 4 ≤ L) (K : LK L xs i) {q : QT} {f : Mem} (w : WV q) (x : XV f q) (r : RV f q) : A (cL L xs) 824 (lvI i) [] f := by
  obtain ⟨a, qz, wz, h1, h2⟩ := op_under (xs (i + 1)) q w
  refine A_aload_n dL_law_824 rfl 2 rfl ?_
  refine A_scr 1 hL (by omega) dL_law_825 dL_law_826 dL_law_827 rfl dL_law_828 dL_law_829 ?_
  refine A_callV (M' := MX10_under) (ci := 9) [.int (xs (i + 1))] [] 0 dL_law_830 lk_RL_106 oX10_under iX10_under rfl rfl ⟨lb rfl, lb rfl⟩ (lb rfl) ⟨lb rfl, lb rfl⟩ L0 rfl (h1 f x) ?_
  rintro _ g ⟨rfl, xg, eg⟩
  have rg := RV.up r eg
  refine A_aload_n dL_law_833 rfl 1 rfl ?_
  refine A_scr 1 hL (by omega) dL_law_834 dL_law_835 dL_law_836 rfl dL_law_837 dL_law_838 ?_
  refine A_callV (M' := MX11_under) (ci := 10) [.int (xs (i + 1))] [.int a] 93 dL_law_839 lk_RL_109 oX11_under iX11_under rfl rfl ⟨lb rfl, lb rfl⟩ (lb rfl) ⟨lb rfl, lb rfl⟩ L93 rfl (h2 g rg) ?_
  rintro _ h ⟨rfl, rh, eh⟩
  exact A_icmp_eq (tgt := 1051) dL_law_842 rfl (fun _ => K qz h wz (XV.up xg eh) rh) (fun hn => absurd rfl hn)
theorem law_round {L : Nat} {xs : Nat → Int32} {i : Nat} (hL : L ≤ 2048) (hi : i + 4 ≤ L) (K : LK L xs i) {q : QT} {f : Mem} (w : WV q) (x : XV f q) (r : RV f q) : A (cL L xs) 847 (lvI i) [] f := by
  obtain ⟨a, qz, wz, h1, h2⟩ := op_round q w
  refine A_aload_n dL_law_847 rfl 2 rfl ?_
  refine A_callV (M' := MX10_round) (ci := 9) [] [] 0 dL_law_848 lk_RL_110 oX10_round iX10_round rfl rfl ⟨lb rfl, lb rfl⟩ (lb rfl) ⟨lb rfl, lb rfl⟩ L0 rfl (h1 f x) ?_
  rintro _ g ⟨rfl, xg, eg⟩
  have rg := RV.up r eg
  refine A_aload_n dL_law_851 rfl 1 rfl ?_
  refine A_callV (M' := MX11_round) (ci := 10) [] [.int a] 93 dL_law_852 lk_RL_113 oX11_round iX11_round rfl rfl ⟨lb rfl, lb rfl⟩ (lb rfl) ⟨lb rfl, lb rfl⟩ L93 rfl (h2 g rg) ?_
  rintro _ h ⟨rfl, rh, eh⟩
  exact A_icmp_eq (tgt := 1051) dL_law_855 rfl (fun _ => K qz h wz (XV.up xg eh) rh) (fun hn => absurd rfl hn)
theorem law_condition {L : Nat} {xs : Nat → Int32} {i : Nat} (hL : L ≤ 2048) (hi : i + 4 ≤ L) (K : LK L xs i) {q : QT} {f : Mem} (w : WV q) (x : XV f q) (r : RV f q) : A (cL L xs) 860 (lvI i) [] f := by
  obtain ⟨a, qz, wz, h1, h2⟩ := op_cond (xs (i + 1)) (xs (i + 2)) (xs (i + 3)) q w
  refine A_aload_n dL_law_860 rfl 2 rfl ?_
  refine A_scr 1 hL (by omega) dL_law_861 dL_law_862 dL_law_863 rfl dL_law_864 dL_law_865 ?_
  refine A_scr 2 hL (by omega) dL_law_866 dL_law_867 dL_law_868 rfl dL_law_869 dL_law_870 ?_
  refine A_scr 3 hL (by omega) dL_law_871 dL_law_872 dL_law_873 rfl dL_law_874 dL_law_875 ?_
  refine A_callV (M' := MX10_condition) (ci := 9) [.int (xs (i + 1)), .int (xs (i + 2)), .int (xs (i + 3))] [] 0 dL_law_876 lk_RL_114 oX10_condition iX10_condition rfl rfl ⟨lb rfl, lb rfl⟩ (lb rfl) ⟨lb rfl, lb rfl⟩ L0 rfl (h1 f x) ?_
  rintro _ g ⟨rfl, xg, eg⟩
  have rg := RV.up r eg
  refine A_aload_n dL_law_879 rfl 1 rfl ?_
  refine A_scr 1 hL (by omega) dL_law_880 dL_law_881 dL_law_882 rfl dL_law_883 dL_law_884 ?_
  refine A_scr 2 hL (by omega) dL_law_885 dL_law_886 dL_law_887 rfl dL_law_888 dL_law_889 ?_
  refine A_scr 3 hL (by omega) dL_law_890 dL_law_891 dL_law_892 rfl dL_law_893 dL_law_894 ?_
  refine A_callV (M' := MX11_condition) (ci := 10) [.int (xs (i + 1)), .int (xs (i + 2)), .int (xs (i + 3))] [.int a] 93 dL_law_895 lk_RL_117 oX11_condition iX11_condition rfl rfl ⟨lb rfl, lb rfl⟩ (lb rfl) ⟨lb rfl, lb rfl⟩ L93 rfl (h2 g rg) ?_
  rintro _ h ⟨rfl, rh, eh⟩
  exact A_icmp_eq (tgt := 1051) dL_law_898 rfl (fun _ => K qz h wz (XV.up xg eh) rh) (fun hn => absurd rfl hn)
theorem law_holds {L : Nat} {xs : Nat → Int32} {i : Nat} (hL : L ≤ 2048) (hi : i + 4 ≤ L) (K : LK L xs i) {q : QT} {f : Mem} (w : WV q) (x : XV f q) (r : RV f q) : A (cL L xs) 903 (lvI i) [] f := by
  obtain ⟨a, qz, wz, h1, h2⟩ := op_holds q w
  refine A_aload_n dL_law_903 rfl 2 rfl ?_
  refine A_callV (M' := MX10_holds) (ci := 9) [] [] 0 dL_law_904 lk_RL_118 oX10_holds iX10_holds rfl rfl ⟨lb rfl, lb rfl⟩ (lb rfl) ⟨lb rfl, lb rfl⟩ L0 rfl (h1 f x) ?_
  rintro _ g ⟨rfl, xg, eg⟩
  have rg := RV.up r eg
  refine A_aload_n dL_law_907 rfl 1 rfl ?_
  refine A_callV (M' := MX11_holds) (ci := 10) [] [.int a] 93 dL_law_908 lk_RL_121 oX11_holds iX11_holds rfl rfl ⟨lb rfl, lb rfl⟩ (lb rfl) ⟨lb rfl, lb rfl⟩ L93 rfl (h2 g rg) ?_
  rintro _ h ⟨rfl, rh, eh⟩
  exact A_icmp_eq (tgt := 1051) dL_law_911 rfl (fun _ => K qz h wz (XV.up xg eh) rh) (fun hn => absurd rfl hn)
theorem law_list {L : Nat} {xs : Nat → Int32} {i : Nat} (hL : L ≤ 2048) (hi : i + 4 ≤ L) (K : LK L xs i) {q : QT} {f : Mem} (w : WV q) (x : XV f q) (r : RV f q) : A (cL L xs) 916 (lvI i) [] f := by
  obtain ⟨a, qz, wz, h1, h2⟩ := op_list (xs (i + 1)) (xs (i + 2)) q w
  refine A_aload_n dL_law_916 rfl 2 rfl ?_
  refine A_scr 1 hL (by omega) dL_law_917 dL_law_918 dL_law_919 rfl dL_law_920 dL_law_921 ?_
  refine A_scr 2 hL (by omega) dL_law_922 dL_law_923 dL_law_924 rfl dL_law_925 dL_law_926 ?_
  refine A_callV (M' := MX10_list) (ci := 9) [.int (xs (i + 1)), .int (xs (i + 2))] [] 0 dL_law_927 lk_RL_122 oX10_list iX10_list rfl rfl ⟨lb rfl, lb rfl⟩ (lb rfl) ⟨lb rfl, lb rfl⟩ L0 rfl (h1 f x) ?_
  rintro _ g ⟨rfl, xg, eg⟩
  have rg := RV.up r eg
  refine A_aload_n dL_law_930 rfl 1 rfl ?_
  refine A_scr 1 hL (by omega) dL_law_931 dL_law_932 dL_law_933 rfl dL_law_934 dL_law_935 ?_
  refine A_scr 2 hL (by omega) dL_law_936 dL_law_937 dL_law_938 rfl dL_law_939 dL_law_940 ?_
  refine A_callV (M' := MX11_list) (ci := 10) [.int (xs (i + 1)), .int (xs (i + 2))] [.int a] 93 dL_law_941 lk_RL_125 oX11_list iX11_list rfl rfl ⟨lb rfl, lb rfl⟩ (lb rfl) ⟨lb rfl, lb rfl⟩ L93 rfl (h2 g rg) ?_
  rintro _ h ⟨rfl, rh, eh⟩
  exact A_icmp_eq (tgt := 1051) dL_law_944 rfl (fun _ => K qz h wz (XV.up xg eh) rh) (fun hn => absurd rfl hn)
theorem law_set {L : Nat} {xs : Nat → Int32} {i : Nat} (hL : L ≤ 2048) (hi : i + 4 ≤ L) (K : LK L xs i) {q : QT} {f : Mem} (w : WV q) (x : XV f q) (r : RV f q) : A (cL L xs) 949 (lvI i) [] f := by
  obtain ⟨a, qz, wz, h1, h2⟩ := op_set (xs (i + 1)) (xs (i + 2)) (xs (i + 3)) q w
  refine A_aload_n dL_law_949 rfl 2 rfl ?_
  refine A_scr 1 hL (by omega) dL_law_950 dL_law_951 dL_law_952 rfl dL_law_953 dL_law_954 ?_
  refine A_scr 2 hL (by omega) dL_law_955 dL_law_956 dL_law_957 rfl dL_law_958 dL_law_959 ?_
  refine A_scr 3 hL (by omega) dL_law_960 dL_law_961 dL_law_962 rfl dL_law_963 dL_law_964 ?_
  refine A_callV (M' := MX10_set) (ci := 9) [.int (xs (i + 1)), .int (xs (i + 2)), .int (xs (i + 3))] [] 0 dL_law_965 lk_RL_126 oX10_set iX10_set rfl rfl ⟨lb rfl, lb rfl⟩ (lb rfl) ⟨lb rfl, lb rfl⟩ L0 rfl (h1 f x) ?_
  rintro _ g ⟨rfl, xg, eg⟩
  have rg := RV.up r eg
  refine A_aload_n dL_law_968 rfl 1 rfl ?_
  refine A_scr 1 hL (by omega) dL_law_969 dL_law_970 dL_law_971 rfl dL_law_972 dL_law_973 ?_
  refine A_scr 2 hL (by omega) dL_law_974 dL_law_975 dL_law_976 rfl dL_law_977 dL_law_978 ?_
  refine A_scr 3 hL (by omega) dL_law_979 dL_law_980 dL_law_981 rfl dL_law_982 dL_law_983 ?_
  refine A_callV (M' := MX11_set) (ci := 10) [.int (xs (i + 1)), .int (xs (i + 2)), .int (xs (i + 3))] [.int a] 93 dL_law_984 lk_RL_129 oX11_set iX11_set rfl rfl ⟨lb rfl, lb rfl⟩ (lb rfl) ⟨lb rfl, lb rfl⟩ L93 rfl (h2 g rg) ?_
  rintro _ h ⟨rfl, rh, eh⟩
  exact A_icmp_eq (tgt := 1051) dL_law_987 rfl (fun _ => K qz h wz (XV.up xg eh) rh) (fun hn => absurd rfl hn)
theorem law_get {L : Nat} {xs : Nat → Int32} {i : Nat} (hL : L ≤ 2048) (hi : i + 4 ≤ L) (K : LK L xs i) {q : QT} {f : Mem} (w : WV q) (x : XV f q) (r : RV f q) : A (cL L xs) 992 (lvI i) [] f := by
  obtain ⟨a, qz, wz, h1, h2⟩ := op_get (xs (i + 1)) (xs (i + 2)) q w
  refine A_aload_n dL_law_992 rfl 2 rfl ?_
  refine A_scr 1 hL (by omega) dL_law_993 dL_law_994 dL_law_995 rfl dL_law_996 dL_law_997 ?_
  refine A_scr 2 hL (by omega) dL_law_998 dL_law_999 dL_law_1000 rfl dL_law_1001 dL_law_1002 ?_
  refine A_callV (M' := MX10_get) (ci := 9) [.int (xs (i + 1)), .int (xs (i + 2))] [] 0 dL_law_1003 lk_RL_130 oX10_get iX10_get rfl rfl ⟨lb rfl, lb rfl⟩ (lb rfl) ⟨lb rfl, lb rfl⟩ L0 rfl (h1 f x) ?_
  rintro _ g ⟨rfl, xg, eg⟩
  have rg := RV.up r eg
  refine A_aload_n dL_law_1006 rfl 1 rfl ?_
  refine A_scr 1 hL (by omega) dL_law_1007 dL_law_1008 dL_law_1009 rfl dL_law_1010 dL_law_1011 ?_
  refine A_scr 2 hL (by omega) dL_law_1012 dL_law_1013 dL_law_1014 rfl dL_law_1015 dL_law_1016 ?_
  refine A_callV (M' := MX11_get) (ci := 10) [.int (xs (i + 1)), .int (xs (i + 2))] [.int a] 93 dL_law_1017 lk_RL_133 oX11_get iX11_get rfl rfl ⟨lb rfl, lb rfl⟩ (lb rfl) ⟨lb rfl, lb rfl⟩ L93 rfl (h2 g rg) ?_
  rintro _ h ⟨rfl, rh, eh⟩
  exact A_icmp_eq (tgt := 1051) dL_law_1020 rfl (fun _ => K qz h wz (XV.up xg eh) rh) (fun hn => absurd rfl hn)
theorem law_image {L : Nat} {xs : Nat → Int32} {i : Nat} (hL : L ≤ 2048) (hi : i + 4 ≤ L) (K : LK L xs i) {q : QT} {f : Mem} (w : WV q) (x : XV f q) (r : RV f q) : A (cL L xs) 1025 (lvI i) [] f := by
  obtain ⟨a, qz, wz, h1, h2⟩ := op_image q w
  refine A_aload_n dL_law_1025 rfl 2 rfl ?_
  refine A_callV (M' := MX10_image) (ci := 9) [] [] 0 dL_law_1026 lk_RL_134 oX10_image iX10_image rfl rfl ⟨lb rfl, lb rfl⟩ (lb rfl) ⟨lb rfl, lb rfl⟩ L0 rfl (h1 f x) ?_
  rintro _ g ⟨rfl, xg, eg⟩
  have rg := RV.up r eg
  refine A_aload_n dL_law_1029 rfl 1 rfl ?_
  refine A_callV (M' := MX11_image) (ci := 10) [] [.int a] 93 dL_law_1030 lk_RL_137 oX11_image iX11_image rfl rfl ⟨lb rfl, lb rfl⟩ (lb rfl) ⟨lb rfl, lb rfl⟩ L93 rfl (h2 g rg) ?_
  rintro _ h ⟨rfl, rh, eh⟩
  exact A_icmp_eq (tgt := 1051) dL_law_1033 rfl (fun _ => K qz h wz (XV.up xg eh) rh) (fun hn => absurd rfl hn)
theorem law_back {L : Nat} {xs : Nat → Int32} {i : Nat} (hL : L ≤ 2048) (hi : i + 4 ≤ L) (K : LK L xs i) {q : QT} {f : Mem} (w : WV q) (x : XV f q) (r : RV f q) : A (cL L xs) 1038 (lvI i) [] f := by
  obtain ⟨a, qz, wz, h1, h2⟩ := op_back q w
  refine A_aload_n dL_law_1038 rfl 2 rfl ?_
  refine A_callV (M' := MX10_back) (ci := 9) [] [] 0 dL_law_1039 lk_RL_138 oX10_back iX10_back rfl rfl ⟨lb rfl, lb rfl⟩ (lb rfl) ⟨lb rfl, lb rfl⟩ L0 rfl (h1 f x) ?_
  rintro _ g ⟨rfl, xg, eg⟩
  have rg := RV.up r eg
  refine A_aload_n dL_law_1042 rfl 1 rfl ?_
  refine A_callV (M' := MX11_back) (ci := 10) [] [.int a] 93 dL_law_1043 lk_RL_141 oX11_back iX11_back rfl rfl ⟨lb rfl, lb rfl⟩ (lb rfl) ⟨lb rfl, lb rfl⟩ L93 rfl (h2 g rg) ?_
  rintro _ h ⟨rfl, rh, eh⟩
  exact A_icmp_eq (tgt := 1051) dL_law_1046 rfl (fun _ => K qz h wz (XV.up xg eh) rh) (fun hn => absurd rfl hn)
theorem t32 {j : Nat} (h : j < 2 ^ 5) : j = 0 ∨ j = 1 ∨ j = 2 ∨ j = 3 ∨ j = 4 ∨ j = 5 ∨ j = 6 ∨ j = 7 ∨ j = 8 ∨ j = 9 ∨ j = 10 ∨ j = 11 ∨ j = 12 ∨ j = 13 ∨ j = 14 ∨ j = 15 ∨ j = 16 ∨ j = 17 ∨ j = 18 ∨ j = 19 ∨ j = 20 ∨ j = 21 ∨ j = 22 ∨ j = 23 ∨ j = 24 ∨ j = 25 ∨ j = 26 ∨ j = 27 ∨ j = 28 ∨ j = 29 ∨ j = 30 ∨ j = 31 := by omega
theorem law_body {L : Nat} {xs : Nat → Int32} {i : Nat} (hL : L ≤ 2048) (hi : i + 4 ≤ L) (K : LK L xs i) {q : QT} {f : Mem} (w : WV q) (x : XV f q) (r : RV f q) : A (cL L xs) 26 (lvI i) [] f := by
  refine A_aload_n dL_law_26 rfl 3 rfl ?_
  refine A_iload_n dL_law_27 rfl 0 rfl ?_
  refine A_sld i dL_law_28 (by omega) hL ?_
  refine A_bipush (v := 31) dL_law_29 rfl ?_
  refine A_iand dL_law_31 ?_
  obtain ⟨j, hj, e⟩ := pk_andE (xs i) (m := 31) 5 (by decide)
  rw [e]
  rcases t32 hj with rfl | rfl | rfl | rfl | rfl | rfl | rfl | rfl | rfl | rfl | rfl | rfl | rfl | rfl | rfl | rfl | rfl | rfl | rfl | rfl | rfl | rfl | rfl | rfl | rfl | rfl | rfl | rfl | rfl | rfl | rfl | rfl
  · exact A_tabIn (off := 140) (tgt := 172) dL_law_32 (by decide) (by decide) (by decide) rfl (law_task hL hi K w x r)
  · exact A_tabIn (off := 153) (tgt := 185) dL_law_32 (by decide) (by decide) (by decide) rfl (law_restart hL hi K w x r)
  · exact A_tabIn (off := 166) (tgt := 198) dL_law_32 (by decide) (by decide) (by decide) rfl (law_missing hL hi K w x r)
  · exact A_tabIn (off := 215) (tgt := 247) dL_law_32 (by decide) (by decide) (by decide) rfl (law_put hL hi K w x r)
  · exact A_tabIn (off := 248) (tgt := 280) dL_law_32 (by decide) (by decide) (by decide) rfl (law_cell hL hi K w x r)
  · exact A_tabIn (off := 271) (tgt := 303) dL_law_32 (by decide) (by decide) (by decide) rfl (law_feed hL hi K w x r)
  · exact A_tabIn (off := 294) (tgt := 326) dL_law_32 (by decide) (by decide) (by decide) rfl (law_clear hL hi K w x r)
  · exact A_tabIn (off := 307) (tgt := 339) dL_law_32 (by decide) (by decide) (by decide) rfl (law_program hL hi K w x r)
  · exact A_tabIn (off := 330) (tgt := 362) dL_law_32 (by decide) (by decide) (by decide) rfl (law_statement hL hi K w x r)
  · exact A_tabIn (off := 373) (tgt := 405) dL_law_32 (by decide) (by decide) (by decide) rfl (law_step hL hi K w x r)
  · exact A_tabIn (off := 396) (tgt := 428) dL_law_32 (by decide) (by decide) (by decide) rfl (law_run hL hi K w x r)
  · exact A_tabIn (off := 429) (tgt := 461) dL_law_32 (by decide) (by decide) (by decide) rfl (law_follow hL hi K w x r)
  · exact A_tabIn (off := 472) (tgt := 504) dL_law_32 (by decide) (by decide) (by decide) rfl (law_of hL hi K w x r)
  · exact A_tabIn (off := 505) (tgt := 537) dL_law_32 (by decide) (by decide) (by decide) rfl (law_gate hL hi K w x r)
  · exact A_tabIn (off := 538) (tgt := 570) dL_law_32 (by decide) (by decide) (by decide) rfl (law_stands hL hi K w x r)
  · exact A_tabIn (off := 581) (tgt := 613) dL_law_32 (by decide) (by decide) (by decide) rfl (law_are hL hi K w x r)
  · exact A_tabIn (off := 604) (tgt := 636) dL_law_32 (by decide) (by decide) (by decide) rfl (law_told hL hi K w x r)
  · exact A_tabIn (off := 627) (tgt := 659) dL_law_32 (by decide) (by decide) (by decide) rfl (law_cause hL hi K w x r)
  · exact A_tabIn (off := 660) (tgt := 692) dL_law_32 (by decide) (by decide) (by decide) rfl (law_found hL hi K w x r)
  · exact A_tabIn (off := 683) (tgt := 715) dL_law_32 (by decide) (by decide) (by decide) rfl (law_schedule hL hi K w x r)
  · exact A_tabIn (off := 716) (tgt := 748) dL_law_32 (by decide) (by decide) (by decide) rfl (law_lay hL hi K w x r)
  · exact A_tabIn (off := 759) (tgt := 791) dL_law_32 (by decide) (by decide) (by decide) rfl (law_outcome hL hi K w x r)
  · exact A_tabIn (off := 792) (tgt := 824) dL_law_32 (by decide) (by decide) (by decide) rfl (law_under hL hi K w x r)
  · exact A_tabIn (off := 815) (tgt := 847) dL_law_32 (by decide) (by decide) (by decide) rfl (law_round hL hi K w x r)
  · exact A_tabIn (off := 828) (tgt := 860) dL_law_32 (by decide) (by decide) (by decide) rfl (law_condition hL hi K w x r)
  · exact A_tabIn (off := 871) (tgt := 903) dL_law_32 (by decide) (by decide) (by decide) rfl (law_holds hL hi K w x r)
  · exact A_tabIn (off := 884) (tgt := 916) dL_law_32 (by decide) (by decide) (by decide) rfl (law_list hL hi K w x r)
  · exact A_tabIn (off := 917) (tgt := 949) dL_law_32 (by decide) (by decide) (by decide) rfl (law_set hL hi K w x r)
  · exact A_tabIn (off := 960) (tgt := 992) dL_law_32 (by decide) (by decide) (by decide) rfl (law_get hL hi K w x r)
  · exact A_tabIn (off := 993) (tgt := 1025) dL_law_32 (by decide) (by decide) (by decide) rfl (law_image hL hi K w x r)
  · exact A_tabIn (off := 1006) (tgt := 1038) dL_law_32 (by decide) (by decide) (by decide) rfl (law_back hL hi K w x r)
  · exact A_tabOut (tgt := 1051) dL_law_32 (Or.inr (by decide)) rfl (K q f w x r)
theorem law_head {L : Nat} {xs : Nat → Int32} {i : Nat} (hL : L ≤ 2048) (hi : i ≤ 2048) {f : Mem} (k : i + 4 ≤ L → A (cL L xs) 26 (lvI i) [] f) : A (cL L xs) 18 (lvI i) [] f := by
  refine A_iload_n dL_law_18 rfl 0 rfl ?_
  refine A_aload_n dL_law_19 rfl 3 rfl ?_
  refine A_slen dL_law_20 ?_
  refine A_iconst (v := 4) dL_law_21 rfl ?_
  refine A_isub dL_law_22 ?_
  refine A_icmp_gt (tgt := 1057) dL_law_23 rfl (fun h => ?_) (fun h => k (by have z := mt (gt4 hL hi).mpr h; omega))
  refine A_iconst (v := 1) dL_law_1057 rfl ?_
  exact A_end dL_law_1058
theorem law_loop {L : Nat} {xs : Nat → Int32} (hL : L ≤ 2048) : ∀ (n i : Nat), i ≤ 2048 → L < i + n → ∀ (q : QT) (f : Mem), WV q → XV f q → RV f q → A (cL L xs) 18 (lvI i) [] f := by
  intro n
  induction n with
  | zero =>
    intro i hi hn q f w x r
    exact law_head hL hi (fun h => absurd h (by omega))
  | succ n ih =>
    intro i hi hn q f w x r
    refine law_head hL hi (fun h => law_body hL h ?_ w x r)
    intro qz g wz xz rz
    refine A_iinc (v := nI (i + 4)) (lv' := lvI (i + 4)) dL_law_1051 0 rfl (nI_add i 4) (lb rfl) rfl ?_
    exact A_goto (tgt := 18) dL_law_1054 rfl (ih (i + 4) (by omega) (by omega) qz g wz xz rz)
theorem law_begin {L : Nat} {xs : Nat → Int32} (hL : L ≤ 2048) (f : Mem) : A (ML, room_1, 0, 0, lX L xs, lZ, []) 0 [(0, .ref 1200)] [] f := by
  refine A_newO dL_law_0 no_RL_7 (lb rfl) ⟨lb rfl, lb rfl⟩ ?_
  refine A_lay (lay' := [ob10]) rfl ?_
  refine A_eq (st' := [.ref 0]) (f' := ur f 0 z0) rfl rfl rfl ?_
  refine A_dup dL_law_3 rfl ?_
  refine A_callI (M' := MX10_init) (mc := 92) (ms := 9218) (lay' := layA) [.ref 0] 0 dL_law_4 lk_RL_9 oX10_init rfl rfl nX10_init ⟨lb rfl, lb rfl⟩ (lb rfl) ⟨lb rfl, lb rfl⟩ rfl (lb rfl) (i_main (ur f 0 z0)) ?_
  rintro _ g ⟨rfl, xg⟩
  refine A_astore_n (lv' := [(1, .ref 0), (0, .ref 1200)]) dL_law_7 rfl (lb rfl) rfl ?_
  refine A_newO dL_law_8 no_RL_10 (lb rfl) ⟨lb rfl, lb rfl⟩ ?_
  refine A_lay (lay' := layA ++ [ob11]) rfl ?_
  refine A_eq (st' := [.ref 93]) (f' := ur g 93 z0) rfl rfl rfl ?_
  refine A_dup dL_law_11 rfl ?_
  refine A_callI (M' := MX11_init) (mc := 18) (ms := 36018) (lay' := layT) [.ref 93] 93 dL_law_12 lk_RL_12 oX11_init rfl rfl nX11_init ⟨lb rfl, lb rfl⟩ (lb rfl) ⟨lb rfl, lb rfl⟩ rfl (lb rfl) (i_model (ur g 93 z0) (ur_s _ _ _)) ?_
  rintro _ h ⟨rfl, rh, eh⟩
  have xh : XV h qO := XV.up xg (fun b hb => by rw [eh b hb, ur_n _ _ (by omega)])
  refine A_astore_n (lv' := [(2, .ref 93), (1, .ref 0), (0, .ref 1200)]) dL_law_15 rfl (lb rfl) rfl ?_
  refine A_iconst (v := nI 0) dL_law_16 rfl ?_
  refine A_istore_n (lv' := lvI 0) dL_law_17 rfl (lb rfl) rfl ?_
  exact law_loop hL (L + 1) 0 (by omega) (by omega) qO h wv_0 xh rh
