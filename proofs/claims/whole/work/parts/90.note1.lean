/-! the class takes down what is to be known of a picture -/
theorem D56 : isDesk 56 := .inr (.inr rfl)
/-- what a task adds to the monitors that are entered under i -/
def uA (x : Int32) (s : Sg) (p : Ro) (i : Nat) : Nat → Int32
  | 0 => x
  | t + 1 => if ¬ abA s p t = -1 ∧ s 3 i = t + 1 then uA x s p i t ||| ((1 : Int32) <<< (abA s p t &&& 31)) else uA x s p i t
theorem uA_t {x : Int32} {s : Sg} {p : Ro} {i t : Nat} (h : ¬ abA s p t = -1 ∧ s 3 i = t + 1) : uA x s p i (t + 1) = uA x s p i t ||| ((1 : Int32) <<< (abA s p t &&& 31)) := by rw [uA, if_pos h]
theorem uA_f {x : Int32} {s : Sg} {p : Ro} {i t : Nat} (h : ¬ (¬ abA s p t = -1 ∧ s 3 i = t + 1)) : uA x s p i (t + 1) = uA x s p i t := by rw [uA, if_neg h]
def uR (U : Ro) (s : Sg) (p : Ro) (t : Nat) : Ro := fun i => if i < 3 then uA (U i) s p i t else U i
def uP (U : Ro) (s : Sg) (p : Ro) (t m : Nat) : Ro := fun i => if i < m then uR U s p (t + 1) i else uR U s p t i
theorem uR_0 (U : Ro) (s : Sg) (p : Ro) : uR U s p 0 = U := by funext i; unfold uR; split <;> rfl
theorem uP_0 (U : Ro) (s : Sg) (p : Ro) (t : Nat) : uP U s p t 0 = uR U s p t := by funext i; unfold uP; rw [if_neg (by omega)]
theorem uP_3 (U : Ro) (s : Sg) (p : Ro) (t : Nat) : uP U s p t 3 = uR U s p (t + 1) := by
  funext i; unfold uP
  by_cases h : i < 3
  · rw [if_pos h]
  · rw [if_neg h]; unfold uR; rw [if_neg h, if_neg h]
theorem uP_n {U : Ro} {s : Sg} {p : Ro} {t m : Nat} (h : ¬ (¬ abA s p t = -1 ∧ s 3 m = t + 1)) : uP U s p t (m + 1) = uP U s p t m := by
  funext i; unfold uP
  by_cases e : i = m
  · rw [if_pos (by omega), if_neg (by omega), e]; unfold uR; split
    · exact uA_f h
    · rfl
  · by_cases l : i < m
    · rw [if_pos (by omega), if_pos l]
    · rw [if_neg (by omega), if_neg l]
theorem uP_y {U : Ro} {s : Sg} {p : Ro} {t m : Nat} (hm : m < 3) (h : ¬ abA s p t = -1 ∧ s 3 m = t + 1) : uP U s p t (m + 1) = upd (uP U s p t m) m (uP U s p t m m ||| ((1 : Int32) <<< (abA s p t &&& 31))) := by
  funext i; unfold upd
  by_cases e : i = m
  · rw [if_pos e, e]; unfold uP; rw [if_pos (by omega), if_neg (by omega)]; unfold uR; rw [if_pos hm, if_pos hm]; exact uA_t h
  · rw [if_neg e]; unfold uP
    by_cases l : i < m
    · rw [if_pos (by omega), if_pos l]
    · rw [if_neg (by omega), if_neg l]
theorem uR_1 {U : Ro} {s : Sg} {p : Ro} {t : Nat} (h : abA s p t = -1) : uR U s p (t + 1) = uR U s p t := by
  funext i; unfold uR; split
  · exact uA_f (fun q => q.1 h)
  · rfl
abbrev nsP (Q : Prop) (s : Sg) (m : Nat) : Prop := Q ∨ ∃ i, i < m ∧ 2 ≤ s 4 i
theorem ns_s {Q : Prop} {s : Sg} {m : Nat} : nsP Q s (m + 1) ↔ (nsP Q s m ∨ 2 ≤ s 4 m) := by
  constructor
  · rintro (h | ⟨i, hi, h⟩)
    · exact .inl (.inl h)
    · rcases Nat.lt_or_ge i m with q | q
      · exact .inl (.inr ⟨i, q, h⟩)
      · rw [show i = m by omega] at h; exact .inr h
  · rintro ((h | ⟨i, hi, h⟩) | h)
    · exact .inl h
    · exact .inr ⟨i, by omega, h⟩
    · exact .inr ⟨m, by omega, h⟩
theorem u2_self (f : Mem) (a j : Nat) {x : Int32} (h : f a j = x) : u2 f a j x = f := by
  funext b i; simp only [u2, ur, upd]
  by_cases h1 : b = a <;> by_cases h2 : i = j <;> simp_all [upd]
def nmM (f : Mem) (Q : Prop) [Decidable Q] (s : Sg) (p : Ro) (n : Nat) : Mem := ur (u2 f 55 9 (bz (nsP Q s 3))) 85 (uR (f 85) s p n)
theorem nm_D {f : Mem} {s : Sg} {k : Ro} (h : isD f 56 s k) (x : Int32) (U : Ro) : isD (ur (u2 f 55 9 x) 85 U) 56 s k := h.congr (fun a a1 a2 => by rw [ur_n _ _ (by omega), u2_n _ _ _ (by omega)])
theorem nm_S {f : Mem} {s : Sg} {p : Ro} (h : dS f 56 s p) (x : Int32) (U : Ro) : dS (ur (u2 f 55 9 x) 85 U) 56 s p := h.congr (fun a a1 a2 => by rw [ur_n _ _ (by omega), u2_n _ _ _ (by omega)])
theorem ow_e {x t : Nat} (hx : x ≤ 4) (ht : t < 4) : nI x - 1 = nI t ↔ x = t + 1 := by
  constructor
  · intro h
    have e : nI x = nI (t + 1) := by rw [nI_succ, ← h]; exact (Int32.sub_add_cancel _ _).symm
    exact nI_inj (by omega) (by omega) e
  · intro h; rw [h, nI_pred]
theorem lx_nm2 (f : Mem) (Q : Prop) [Decidable Q] (s : Sg) (k p : Ro) (u : Pt) (hD : isD f 56 s k) (hS : dS f 56 s p) (w : gW p u (s, k)) (h9 : f 55 9 = bz Q) (t : Nat) (ht : t < s 13 0) (kk : A (cM MX6_noteMonitors 0 0 layT layT (rt none (nmM f Q s p (s 13 0)))) 107 [(1, .int (nI t)), (0, .ref 55)] [] (ur (u2 f 55 9 (bz (nsP Q s 3))) 85 (uR (f 85) s p (t + 1)))) : ∀ m, m ≤ 3 → (abA s p t = -1 → m = 0) → A (cM MX6_noteMonitors 0 0 layT layT (rt none (nmM f Q s p (s 13 0)))) 66 [(3, .int (nI m)), (2, .int (abA s p t)), (1, .int (nI t)), (0, .ref 55)] [] (ur (u2 f 55 9 (bz (nsP Q s 3))) 85 (uP (f 85) s p t m)) := by
  have h13 : s 13 0 ≤ 4 := w.1.2.2.2.2.1
  refine up_ind 3 (fun m hm ih hm0 => ?_)
  refine A_iload_n dX6_noteMonitors_66 rfl 0 rfl ?_
  refine A_iconst (v := 3) dX6_noteMonitors_67 rfl ?_
  refine A_icmp_ge (tgt := 107) dX6_noteMonitors_68 rfl (fun h68 => ?_) (fun h68 => ?_)
  · rw [show (3 : Int32) = nI 3 from rfl, nI_leI (by omega) (by omega)] at h68
    have eR : uP (f 85) s p t m = uR (f 85) s p (t + 1) := by
      first
      | (rw [show m = 3 by omega]; exact uP_3 _ _ _ _)
      | (rw [hm0 h73, uP_0]; exact (uR_1 h73).symm)
    rw [eR]
    refine A_sub [2, 3] rfl ?_
    exact kk
  · rw [show (3 : Int32) = nI 3 from rfl, nI_leI (by omega) (by omega)] at h68
    refine A_iload_n dX6_noteMonitors_71 rfl 1 rfl ?_
    refine A_iconst (v := -1) dX6_noteMonitors_72 rfl ?_
    refine A_icmp_eq (tgt := 107) dX6_noteMonitors_73 rfl (fun h73 => ?_) (fun h73 => ?_)
    · have eR : uP (f 85) s p t m = uR (f 85) s p (t + 1) := by
        first
        | (rw [show m = 3 by omega]; exact uP_3 _ _ _ _)
        | (rw [hm0 h73, uP_0]; exact (uR_1 h73).symm)
      rw [eR]
      refine A_sub [2, 3] rfl ?_
      exact kk
    · refine A_aload_n dX6_noteMonitors_76 rfl 3 rfl ?_
      refine A_getR (b := 56) dX6_noteMonitors_77 fo_RX6_18 L55 rfl ?_
      refine A_getR (b := 64) dX6_noteMonitors_80 fo_RX6_141 L56 rfl ?_
      refine A_iload_n dX6_noteMonitors_83 rfl 0 rfl ?_
      refine A_iaload m dX6_noteMonitors_84 L64 (rfl) (by omega) (lb rfl) ?_
      refine A_topi (nI (s 3 m) - 1) (D3 (nm_D hD _ _) (by omega)) ?_
      refine A_iload_n dX6_noteMonitors_85 rfl 2 rfl ?_
      refine A_icmp_ne (tgt := 101) dX6_noteMonitors_86 rfl (fun h86 => ?_) (fun h86 => ?_)
      · rw [ow_e (w.1.1.2.2.2.2 m (by omega)).1 (by omega)] at h86
        refine A_iinc (lv' := [(3, .int (nI (m + 1))), (2, .int (abA s p t)), (1, .int (nI t)), (0, .ref 55)]) dX6_noteMonitors_101 0 rfl (nI_add m 1) (lb rfl) rfl ?_
        refine A_goto (tgt := 66) dX6_noteMonitors_104 rfl ?_
        rw [← uP_n (U := f 85) (fun q => h86 q.2)]
        refine A_sub [0, 1, 2, 3] rfl ?_
        exact ih (m + 1) (by omega) (by omega) (fun q => absurd q h73)
      · rw [ow_e (w.1.1.2.2.2.2 m (by omega)).1 (by omega)] at h86
        have hy : ¬ abA s p t = -1 ∧ s 3 m = t + 1 := ⟨h73, h86⟩
        refine A_aload_n dX6_noteMonitors_89 rfl 3 rfl ?_
        refine A_getR (b := 85) dX6_noteMonitors_90 fo_RX6_42 L55 rfl ?_
        refine A_iload_n dX6_noteMonitors_93 rfl 0 rfl ?_
        refine A_dup2 dX6_noteMonitors_94 rfl rfl ?_
        refine A_iaload m dX6_noteMonitors_95 L85 (rfl) (by omega) (lb rfl) ?_
        refine A_topi (uP (f 85) s p t m m) (by rw [ur_s]) ?_
        refine A_iconst (v := 1) dX6_noteMonitors_96 rfl ?_
        refine A_iload_n dX6_noteMonitors_97 rfl 1 rfl ?_
        refine A_ishl dX6_noteMonitors_98 ?_
        refine A_ior dX6_noteMonitors_99 ?_
        refine A_iastore m dX6_noteMonitors_100 L85 (rfl) (by omega) (lb rfl) ?_
        refine A_eq rfl rfl (f' := ur (u2 f 55 9 (bz (nsP Q s 3))) 85 (uP (f 85) s p t (m + 1))) (by rw [u2, ur_s, ur_ur, ← uP_y (by omega) hy]) ?_
        refine A_iinc (lv' := [(3, .int (nI (m + 1))), (2, .int (abA s p t)), (1, .int (nI t)), (0, .ref 55)]) dX6_noteMonitors_101 0 rfl (nI_add m 1) (lb rfl) rfl ?_
        refine A_goto (tgt := 66) dX6_noteMonitors_104 rfl ?_
        refine A_sub [0, 1, 2, 3] rfl ?_
        exact ih (m + 1) (by omega) (by omega) (fun q => absurd q h73)
theorem x_ab (t : Nat) (f : Mem) (s : Sg) (k p : Ro) (u : Pt) (hD : isD f 56 s k) (hS : dS f 56 s p) (w : gW p u (s, k)) (ht : t < 4) : C0 MX1_aboutToEnter [.ref 56, .int (nI t)] f (rt (some (.int (abA s p t))) f) := by
  have e := x_aboutToEnter t f 56 s k D56 p ht w.1.2.1 w.1.2.2.2.1 (fun t ht => w.1.s4 ht) w.1.1.2.2.2.2 hS
  rw [hD.eq] at e
  exact e
theorem lx_nm1 (f : Mem) (Q : Prop) [Decidable Q] (s : Sg) (k p : Ro) (u : Pt) (hD : isD f 56 s k) (hS : dS f 56 s p) (w : gW p u (s, k)) (h9 : f 55 9 = bz Q) : ∀ t, t ≤ s 13 0 → A (cM MX6_noteMonitors 0 0 layT layT (rt none (nmM f Q s p (s 13 0)))) 44 [(1, .int (nI t)), (0, .ref 55)] [] (ur (u2 f 55 9 (bz (nsP Q s 3))) 85 (uR (f 85) s p t)) := by
  have h13 : s 13 0 ≤ 4 := w.1.2.2.2.2.1
  refine up_ind (s 13 0) (fun t hm ih => ?_)
  refine A_iload_n dX6_noteMonitors_44 rfl 0 rfl ?_
  refine A_aload_n dX6_noteMonitors_45 rfl 1 rfl ?_
  refine A_getR (b := 56) dX6_noteMonitors_46 fo_RX6_18 L55 rfl ?_
  refine A_getI dX6_noteMonitors_49 fo_RX6_82 L56 rfl ?_
  refine A_topi (nI (s 13 0)) (nm_S hS _ _).1 ?_
  refine A_icmp_ge (tgt := 113) dX6_noteMonitors_52 rfl (fun h52 => ?_) (fun h52 => ?_)
  · rw [nI_leI (by omega) (by omega)] at h52
    exact A_vret dX6_noteMonitors_113 rfl (⟨rfl, by unfold nmM; rw [show t = s 13 0 by omega]⟩)
  · rw [nI_leI (by omega) (by omega)] at h52
    refine A_aload_n dX6_noteMonitors_55 rfl 1 rfl ?_
    refine A_getR (b := 56) dX6_noteMonitors_56 fo_RX6_18 L55 rfl ?_
    refine A_iload_n dX6_noteMonitors_59 rfl 0 rfl ?_
    refine A_callV (M' := MX1_aboutToEnter) [.int (nI t)] [] 56 dX6_noteMonitors_60 lk_RX6_137 oX1_aboutToEnter iX1_aboutToEnter rfl rfl ⟨lb rfl, lb rfl⟩ (lb rfl) ⟨lb rfl, lb rfl⟩ L56 rfl (x_ab t _ s k p u (nm_D hD _ _) (nm_S hS _ _) w (by omega)) ?_
    rintro _ g0 ⟨rfl, hg0⟩
    rw [hg0]
    refine A_istore_n (lv' := [(2, .int (abA s p t)), (1, .int (nI t)), (0, .ref 55)]) dX6_noteMonitors_63 rfl (lb rfl) rfl ?_
    refine A_iconst (v := 0) dX6_noteMonitors_64 rfl ?_
    refine A_istore_n (lv' := [(3, .int 0), (2, .int (abA s p t)), (1, .int (nI t)), (0, .ref 55)]) dX6_noteMonitors_65 rfl (lb rfl) rfl ?_
    rw [← uP_0]
    refine A_sub [0, 1, 2, 3] rfl ?_
    refine lx_nm2 f Q s k p u hD hS w h9 t (by omega) ?_ 0 (by omega) (fun _ => rfl)
    refine A_iinc (lv' := [(1, .int (nI (t + 1))), (0, .ref 55)]) dX6_noteMonitors_107 0 rfl (nI_add t 1) (lb rfl) rfl ?_
    refine A_goto (tgt := 44) dX6_noteMonitors_110 rfl ?_
    exact ih (t + 1) (by omega) (by omega)
theorem lx_nm0 (f : Mem) (Q : Prop) [Decidable Q] (s : Sg) (k p : Ro) (u : Pt) (hD : isD f 56 s k) (hS : dS f 56 s p) (w : gW p u (s, k)) (h9 : f 55 9 = bz Q) : ∀ m, m ≤ 3 → A (cM MX6_noteMonitors 0 0 layT layT (rt none (nmM f Q s p (s 13 0)))) 2 [(1, .int (nI m)), (0, .ref 55)] [] (u2 f 55 9 (bz (nsP Q s m))) := by
  refine up_ind 3 (fun m hm ih => ?_)
  refine A_iload_n dX6_noteMonitors_2 rfl 0 rfl ?_
  refine A_iconst (v := 3) dX6_noteMonitors_3 rfl ?_
  refine A_icmp_ge (tgt := 42) dX6_noteMonitors_4 rfl (fun h4 => ?_) (fun h4 => ?_)
  · rw [show (3 : Int32) = nI 3 from rfl, nI_leI (by omega) (by omega)] at h4
    refine A_iconst (v := 0) dX6_noteMonitors_42 rfl ?_
    refine A_istore_n (lv' := [(1, .int 0), (0, .ref 55)]) dX6_noteMonitors_43 rfl (lb rfl) rfl ?_
    have e3 : m = 3 := by omega
    subst e3
    refine A_eq rfl rfl (f' := ur (u2 f 55 9 (bz (nsP Q s 3))) 85 (uR (f 85) s p 0)) (by rw [uR_0]; exact (ur_self_at (u2_n _ _ _ (by decide))).symm) ?_
    refine A_sub [0, 1] rfl ?_
    exact lx_nm1 f Q s k p u hD hS w h9 0 (by omega)
  · rw [show (3 : Int32) = nI 3 from rfl, nI_leI (by omega) (by omega)] at h4
    refine A_aload_n dX6_noteMonitors_7 rfl 1 rfl ?_
    refine A_aload_n dX6_noteMonitors_8 rfl 1 rfl ?_
    refine A_getI dX6_noteMonitors_9 fo_RX6_48 L55 rfl ?_
    refine A_topi (bz (nsP Q s m)) (by simp [u2, ur, upd]) ?_
    refine A_if_ne (tgt := 28) dX6_noteMonitors_12 rfl (fun h12 => ?_) (fun h12 => ?_)
    · have hv : bz (nsP Q s (m + 1)) = 1 := bz_t (ns_s.mpr (.inl (bz_n0.mp h12)))
      refine A_iconst (v := 1) dX6_noteMonitors_28 rfl ?_
      refine A_goto (tgt := 33) dX6_noteMonitors_29 rfl ?_
      refine A_putZ dX6_noteMonitors_33 fo_RX6_48 L55 rfl (by decide) ?_
      refine A_eq rfl rfl (f' := u2 f 55 9 (bz (nsP Q s (m + 1)))) (by rw [u2_u2, hv]) ?_
      refine A_iinc (lv' := [(1, .int (nI (m + 1))), (0, .ref 55)]) dX6_noteMonitors_36 0 rfl (nI_add m 1) (lb rfl) rfl ?_
      refine A_goto (tgt := 2) dX6_noteMonitors_39 rfl ?_
      exact ih (m + 1) (by omega) (by omega)
    · refine A_aload_n dX6_noteMonitors_15 rfl 1 rfl ?_
      refine A_getR (b := 56) dX6_noteMonitors_16 fo_RX6_18 L55 rfl ?_
      refine A_getR (b := 65) dX6_noteMonitors_19 fo_RX6_134 L56 rfl ?_
      refine A_iload_n dX6_noteMonitors_22 rfl 0 rfl ?_
      refine A_iaload m dX6_noteMonitors_23 L65 (rfl) (by omega) (lb rfl) ?_
      refine A_topi (nI (s 4 m)) ((congrFun (u2_n _ _ _ (by decide)) _).trans (D4 hD (by omega))) ?_
      refine A_iconst (v := 2) dX6_noteMonitors_24 rfl ?_
      refine A_icmp_lt (tgt := 32) dX6_noteMonitors_25 rfl (fun h25 => ?_) (fun h25 => ?_)
      · rw [show (2 : Int32) = nI 2 from rfl, nI_ltI (by have q : s 4 m ≤ 9 := (w.1.1.2.2.2.2 m (by omega)).2.1; omega) (by decide)] at h25
        have hv : bz (nsP Q s (m + 1)) = 0 := bz_f (fun q => by rcases ns_s.mp q with q | q; exact bz_0.mp h12 q; omega)
        refine A_iconst (v := 0) dX6_noteMonitors_32 rfl ?_
        refine A_putZ dX6_noteMonitors_33 fo_RX6_48 L55 rfl (by decide) ?_
        refine A_eq rfl rfl (f' := u2 f 55 9 (bz (nsP Q s (m + 1)))) (by rw [u2_u2, hv]) ?_
        refine A_iinc (lv' := [(1, .int (nI (m + 1))), (0, .ref 55)]) dX6_noteMonitors_36 0 rfl (nI_add m 1) (lb rfl) rfl ?_
        refine A_goto (tgt := 2) dX6_noteMonitors_39 rfl ?_
        exact ih (m + 1) (by omega) (by omega)
      · rw [show (2 : Int32) = nI 2 from rfl, nI_ltI (by have q : s 4 m ≤ 9 := (w.1.1.2.2.2.2 m (by omega)).2.1; omega) (by decide)] at h25
        have hv : bz (nsP Q s (m + 1)) = 1 := bz_t (ns_s.mpr (.inr (by omega)))
        refine A_iconst (v := 1) dX6_noteMonitors_28 rfl ?_
        refine A_goto (tgt := 33) dX6_noteMonitors_29 rfl ?_
        refine A_putZ dX6_noteMonitors_33 fo_RX6_48 L55 rfl (by decide) ?_
        refine A_eq rfl rfl (f' := u2 f 55 9 (bz (nsP Q s (m + 1)))) (by rw [u2_u2, hv]) ?_
        refine A_iinc (lv' := [(1, .int (nI (m + 1))), (0, .ref 55)]) dX6_noteMonitors_36 0 rfl (nI_add m 1) (lb rfl) rfl ?_
        refine A_goto (tgt := 2) dX6_noteMonitors_39 rfl ?_
        exact ih (m + 1) (by omega) (by omega)
theorem x_nm (f : Mem) (Q : Prop) [Decidable Q] (s : Sg) (k p : Ro) (u : Pt) (hD : isD f 56 s k) (hS : dS f 56 s p) (w : gW p u (s, k)) (h9 : f 55 9 = bz Q) : C0 MX6_noteMonitors [.ref 55] f (rt none (nmM f Q s p (s 13 0))) := by
  refine Ct.of (lv := [(0, .ref 55)]) (by decide) (lb rfl) rfl ?_
  refine A_iconst (v := 0) dX6_noteMonitors_0 rfl ?_
  refine A_istore_n (lv' := [(1, .int 0), (0, .ref 55)]) dX6_noteMonitors_1 rfl (lb rfl) rfl ?_
  refine A_eq rfl rfl (f' := u2 f 55 9 (bz (nsP Q s 0))) (by rw [u2_self]; rw [h9]; exact bz_c ⟨fun q => .inl q, fun q => q.elim id (fun ⟨i, hi, _⟩ => absurd hi (by omega))⟩) ?_
  exact lx_nm0 f Q s k p u hD hS w h9 0 (by omega)
