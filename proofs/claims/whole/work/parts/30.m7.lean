theorem updk_same (k : Ro) (c : Nat) : upd k c (k c) = k := by
  funext j
  unfold upd
  split
  · rename_i e; rw [e]
  · rfl
/-- the reference's row g beside the picture: tasks, what is missing, sizes, programs -/
def gR (f : Mem) (s : Sg) (p : Ro) : Prop := f 94 52 = nI (s 13 0) ∧ (∀ m, m < 3 → f 94 (53 + m) = nI (s 14 m)) ∧ (∀ t, t < 4 → f 94 (57 + t) = nI (s 16 t)) ∧ ∀ j, j < 192 → f 94 (61 + j) = p j
def wf14 (s : Sg) : Prop := ∀ m, m < 3 → s 14 m ≤ 1
theorem gR_c {f f' : Mem} {s : Sg} {p : Ro} (h : f' 94 = f 94) (hg : gR f s p) : gR f' s p := by unfold gR; rw [h]; exact hg
theorem gR_p {f : Mem} {s : Sg} {p : Ro} (hg : gR f s p) (t i q : Nat) (ht : t < 4) (hi : i < 12) (hq : q < 4) : f 94 (61 + 48 * t + 4 * i + q) = p (48 * t + 4 * i + q) := by
  have := hg.2.2.2 (48 * t + 4 * i + q) (by omega)
  rw [← this]; congr 1; omega
theorem rd94 (f : Mem) (x : Int32) (g : Ro) : ur (u2 f 93 16 x) 96 g 94 = f 94 := by rw [ur_n _ _ (by decide), u2_n _ _ _ (by decide)]
theorem c_steps (t : Nat) (f : Mem) (s : Sg) (k : Ro) (p : Ro) (ht : t < 4) (hw : wf s) (hp : wfP s p) (hk : wfK k) (h14 : wf14 s) (h1 : s 1 t = 0) (hg : gR f s p) : C0 MX11_steps [.ref 93, .int (nI t)] (ur f 96 (flat s k)) (fun r g => r = none ∧ ∃ ow : Int32, g = ur (u2 (u2 f 93 16 (nI (stepA s k p t).2.2.1)) 93 17 ow) 96 (flat (stepA s k p t).1 (stepA s k p t).2.1) ∧ (s 0 t = s 16 t → ow = nI (stepA s k p t).2.2.2)) := by
  obtain ⟨h12, hle, hok⟩ := hp t ht
  refine Ct.of (lv := [(0, .ref 93), (1, .int (nI t))]) (by decide) (lb rfl) rfl ?_
  refine A_aload_n dX11_steps_0 rfl 0 rfl ?_
  refine A_iconst (v := 0) dX11_steps_1 rfl ?_
  refine A_putI dX11_steps_2 fo_RX11_166 L93 rfl ?_
  refine A_eq rfl rfl (f' := ur (u2 f 93 16 0) 96 (flat s k)) (sm_o f s k (by decide)) ?_
  refine A_aload_n dX11_steps_5 rfl 0 rfl ?_
  refine A_getR (b := 96) dX11_steps_6 fo_RX11_16 L93 rfl ?_
  refine A_iload_n dX11_steps_9 rfl 1 rfl ?_
  refine A_iaload t dX11_steps_10 L96 (rfl) (by omega) (lb rfl) ?_
  refine A_topi (nI (s 0 t)) (by rw [sm_r (u2 f 93 16 0) s k (by omega) (f_0 t (by omega))] <;> simp [s2, n70, n70', n71, n71', n72, n72', n73, n73', n74, n74', n75, n75']) ?_
  refine A_istore_n (lv' := [(2, .int (nI (s 0 t))), (0, .ref 93), (1, .int (nI t))]) dX11_steps_11 rfl (lb rfl) rfl ?_
  refine A_aload_n dX11_steps_12 rfl 1 rfl ?_
  refine A_getR (b := 94) dX11_steps_13 fo_RX11_9 L93 rfl ?_
  refine A_bipush (v := 57) dX11_steps_16 rfl ?_
  refine A_iload_n dX11_steps_18 rfl 2 rfl ?_
  refine A_iadd dX11_steps_19 ?_
  refine A_iaload (57 + t) dX11_steps_20 L94 (by simp only [lit, nI_add, pk_mul]) (by omega) (lb rfl) ?_
  refine A_topi (f 94 (57 + t)) (by simp [ur, u2, upd]) ?_
  refine A_topi (nI (s 16 t)) (hg.2.2.1 t ht) ?_
  refine A_istore_n (lv' := [(3, .int (nI (s 16 t))), (2, .int (nI (s 0 t))), (0, .ref 93), (1, .int (nI t))]) dX11_steps_21 rfl (lb rfl) rfl ?_
  refine A_iload_n dX11_steps_22 rfl 1 rfl ?_
  refine A_iload_n dX11_steps_23 rfl 0 rfl ?_
  refine A_icmp_ne (tgt := 34) dX11_steps_24 rfl (fun h24 => ?_) (fun h24 => ?_)
  · rw [nI_eq (by omega) (by omega)] at h24
    have hlt : s 0 t < s 16 t := by omega
    have ok := hok (s 0 t) hlt
    have hS9 := ok.2.1
    have hO12 := ok.2.2.2.2.2.1
    have hT12 := ok.2.2.2.2.2.2.2
    have eS : f 94 (61 + 48 * t + 4 * s 0 t + 0) = nI (pS p t (s 0 t)) := (gR_p hg t (s 0 t) 0 ht (by omega) (by omega)).trans ok.1
    have eO : f 94 (61 + 48 * t + 4 * s 0 t + 1) = nI (pO p t (s 0 t)) := (gR_p hg t (s 0 t) 1 ht (by omega) (by omega)).trans ok.2.2.1
    have eN : f 94 (61 + 48 * t + 4 * s 0 t + 2) = pN p t (s 0 t) := gR_p hg t (s 0 t) 2 ht (by omega) (by omega)
    have eT : f 94 (61 + 48 * t + 4 * s 0 t + 3) = nI (pT p t (s 0 t)) := (gR_p hg t (s 0 t) 3 ht (by omega) (by omega)).trans ok.2.2.2.2.2.2.1
    refine A_aload_n dX11_steps_34 rfl 2 rfl ?_
    refine A_iload_n dX11_steps_35 rfl 3 rfl ?_
    refine A_iload_n dX11_steps_36 rfl 1 rfl ?_
    refine A_iconst (v := 0) dX11_steps_37 rfl ?_
    refine A_callV (M' := MX11_field) [.int (nI t), .int (nI (s 0 t)), .int 0] [] 93 dX11_steps_38 lk_RX11_150 oX11_field iX11_field rfl rfl ⟨lb rfl, lb rfl⟩ (lb rfl) ⟨lb rfl, lb rfl⟩ L93 rfl (c_field t (s 0 t) 0 _ (by omega)) ?_
    rintro _ _ ⟨rfl, rfl⟩
    refine A_topi (nI (pS p t (s 0 t))) (by rw [rd94]; exact eS) ?_
    refine A_istore (lv' := [(4, .int (nI (pS p t (s 0 t)))), (3, .int (nI (s 16 t))), (2, .int (nI (s 0 t))), (0, .ref 93), (1, .int (nI t))]) dX11_steps_41 (lb rfl) rfl ?_
    refine A_aload_n dX11_steps_43 rfl 3 rfl ?_
    refine A_iload_n dX11_steps_44 rfl 4 rfl ?_
    refine A_iload_n dX11_steps_45 rfl 2 rfl ?_
    refine A_iconst (v := 1) dX11_steps_46 rfl ?_
    refine A_callV (M' := MX11_field) [.int (nI t), .int (nI (s 0 t)), .int 1] [] 93 dX11_steps_47 lk_RX11_150 oX11_field iX11_field rfl rfl ⟨lb rfl, lb rfl⟩ (lb rfl) ⟨lb rfl, lb rfl⟩ L93 rfl (c_field t (s 0 t) 1 _ (by omega)) ?_
    rintro _ _ ⟨rfl, rfl⟩
    refine A_topi (nI (pO p t (s 0 t))) (by rw [rd94]; exact eO) ?_
    refine A_istore (lv' := [(5, .int (nI (pO p t (s 0 t)))), (4, .int (nI (pS p t (s 0 t)))), (3, .int (nI (s 16 t))), (2, .int (nI (s 0 t))), (0, .ref 93), (1, .int (nI t))]) dX11_steps_50 (lb rfl) rfl ?_
    refine A_aload_n dX11_steps_52 rfl 4 rfl ?_
    refine A_iload_n dX11_steps_53 rfl 5 rfl ?_
    refine A_iload_n dX11_steps_54 rfl 3 rfl ?_
    refine A_iconst (v := 2) dX11_steps_55 rfl ?_
    refine A_callV (M' := MX11_field) [.int (nI t), .int (nI (s 0 t)), .int 2] [] 93 dX11_steps_56 lk_RX11_150 oX11_field iX11_field rfl rfl ⟨lb rfl, lb rfl⟩ (lb rfl) ⟨lb rfl, lb rfl⟩ L93 rfl (c_field t (s 0 t) 2 _ (by omega)) ?_
    rintro _ _ ⟨rfl, rfl⟩
    refine A_topi (pN p t (s 0 t)) (by rw [rd94]; exact eN) ?_
    refine A_istore (lv' := [(6, .int (pN p t (s 0 t))), (5, .int (nI (pO p t (s 0 t)))), (4, .int (nI (pS p t (s 0 t)))), (3, .int (nI (s 16 t))), (2, .int (nI (s 0 t))), (0, .ref 93), (1, .int (nI t))]) dX11_steps_59 (lb rfl) rfl ?_
    refine A_aload_n dX11_steps_61 rfl 5 rfl ?_
    refine A_getR (b := 96) dX11_steps_62 fo_RX11_16 L93 rfl ?_
    refine A_iload_n dX11_steps_65 rfl 6 rfl ?_
    refine A_iload_n dX11_steps_66 rfl 4 rfl ?_
    refine A_iconst (v := 1) dX11_steps_67 rfl ?_
    refine A_iadd dX11_steps_68 ?_
    refine A_topi (nI (s 0 t + 1)) (nI_1 _) ?_
    refine A_iastore t dX11_steps_69 L96 (rfl) (by omega) (lb rfl) ?_
    refine A_eq rfl rfl (sm_u (u2 f 93 16 0) s k (s 0 t + 1) (by simp only [lit, nI_add, pk_mul]) (by omega) (f_0 t (by omega))) ?_
    refine A_iload_n dX11_steps_70 rfl 4 rfl ?_
    refine A_iconst (v := 1) dX11_steps_71 rfl ?_
    refine A_iadd dX11_steps_72 ?_
    refine A_topi (nI (s 0 t + 1)) (nI_1 _) ?_
    refine A_istore (lv' := [(7, .int (nI (s 0 t + 1))), (6, .int (pN p t (s 0 t))), (5, .int (nI (pO p t (s 0 t)))), (4, .int (nI (pS p t (s 0 t)))), (3, .int (nI (s 16 t))), (2, .int (nI (s 0 t))), (0, .ref 93), (1, .int (nI t))]) dX11_steps_73 (lb rfl) rfl ?_
    refine A_iload dX11_steps_75 3 rfl ?_
    refine A_iconst (v := 5) dX11_steps_77 rfl ?_
    refine A_icmp_ge (tgt := 93) dX11_steps_78 rfl (fun h78 => ?_) (fun h78 => ?_)
    · rw [show (5 : Int32) = nI 5 from rfl, nI_leI (by omega) (by omega)] at h78
      refine A_iload dX11_steps_93 3 rfl ?_
      refine A_iconst (v := 5) dX11_steps_95 rfl ?_
      refine A_icmp_ne (tgt := 163) dX11_steps_96 rfl (fun h96 => ?_) (fun h96 => ?_)
      · rw [show (5 : Int32) = nI 5 from rfl, nI_eq (by omega) (by omega)] at h96
        refine A_iload dX11_steps_163 3 rfl ?_
        refine A_bipush (v := 6) dX11_steps_165 rfl ?_
        refine A_icmp_ne (tgt := 185) dX11_steps_167 rfl (fun h167 => ?_) (fun h167 => ?_)
        · rw [show (6 : Int32) = nI 6 from rfl, nI_eq (by omega) (by omega)] at h167
          refine A_iload dX11_steps_185 3 rfl ?_
          refine A_bipush (v := 7) dX11_steps_187 rfl ?_
          refine A_icmp_ne (tgt := 224) dX11_steps_189 rfl (fun h189 => ?_) (fun h189 => ?_)
          · rw [show (7 : Int32) = nI 7 from rfl, nI_eq (by omega) (by omega)] at h189
            refine A_iload dX11_steps_224 2 rfl ?_
            refine A_istore (lv' := [(7, .int (nI (pO p t (s 0 t)))), (6, .int (pN p t (s 0 t))), (5, .int (nI (pO p t (s 0 t)))), (4, .int (nI (pS p t (s 0 t)))), (3, .int (nI (s 16 t))), (2, .int (nI (s 0 t))), (0, .ref 93), (1, .int (nI t))]) dX11_steps_226 (lb rfl) rfl ?_
            refine A_aload_n dX11_steps_228 rfl 6 rfl ?_
            refine A_getR (b := 96) dX11_steps_229 fo_RX11_16 L93 rfl ?_
            refine A_iload_n dX11_steps_232 rfl 7 rfl ?_
            refine A_iload dX11_steps_233 0 rfl ?_
            refine A_iload_n dX11_steps_235 rfl 4 rfl ?_
            refine A_icmp_le (tgt := 243) dX11_steps_236 rfl (fun h236 => ?_) (fun h236 => ?_)
            · rw [nI_leI (by omega) (by omega)] at h236
              refine A_iload dX11_steps_243 0 rfl ?_
              refine A_iastore t dX11_steps_245 L96 (rfl) (by omega) (lb rfl) ?_
              refine A_eq rfl rfl (sm_u (u2 f 93 16 0) (s2 s 0 t (s 0 t + 1)) k (pO p t (s 0 t)) (by simp only [lit, nI_add, pk_mul]) (by omega) (f_0 t (by omega))) ?_
              refine A_aload_n dX11_steps_246 rfl 6 rfl ?_
              refine A_getI dX11_steps_247 fo_RX11_166 L93 rfl ?_
              refine A_topi (0) (by simp [ur, u2, upd]) ?_
              refine A_if_le (tgt := 266) dX11_steps_250 rfl (fun h250 => ?_) (fun h250 => by exact absurd (by decide) h250)
              exact A_vret dX11_steps_266 rfl (⟨rfl, f 93 17, by unfold stepA; rw [if_neg h24, if_neg (by omega), if_neg (by omega), if_neg (by omega), if_neg (by omega)]; dsimp only; rw [show nI 0 = (0 : Int32) from rfl, (show u2 (u2 f 93 16 (0 : Int32)) 93 17 (f 93 17) = u2 f 93 16 0 from u2_same _ (by simp [u2, ur, upd])), s2_s2]; (try rw [Nat.min_eq_left (by omega)]); (try rw [Nat.min_eq_right (by omega)]), fun e => absurd e h24⟩)
            · rw [nI_leI (by omega) (by omega)] at h236
              refine A_iload_n dX11_steps_239 rfl 4 rfl ?_
              refine A_goto (tgt := 245) dX11_steps_240 rfl ?_
              refine A_iastore t dX11_steps_245 L96 (rfl) (by omega) (lb rfl) ?_
              refine A_eq rfl rfl (sm_u (u2 f 93 16 0) (s2 s 0 t (s 0 t + 1)) k (s 16 t) (by simp only [lit, nI_add, pk_mul]) (by omega) (f_0 t (by omega))) ?_
              refine A_aload_n dX11_steps_246 rfl 6 rfl ?_
              refine A_getI dX11_steps_247 fo_RX11_166 L93 rfl ?_
              refine A_topi (0) (by simp [ur, u2, upd]) ?_
              refine A_if_le (tgt := 266) dX11_steps_250 rfl (fun h250 => ?_) (fun h250 => by exact absurd (by decide) h250)
              exact A_vret dX11_steps_266 rfl (⟨rfl, f 93 17, by unfold stepA; rw [if_neg h24, if_neg (by omega), if_neg (by omega), if_neg (by omega), if_neg (by omega)]; dsimp only; rw [show nI 0 = (0 : Int32) from rfl, (show u2 (u2 f 93 16 (0 : Int32)) 93 17 (f 93 17) = u2 f 93 16 0 from u2_same _ (by simp [u2, ur, upd])), s2_s2]; (try rw [Nat.min_eq_left (by omega)]); (try rw [Nat.min_eq_right (by omega)]), fun e => absurd e h24⟩)
          · rw [show (7 : Int32) = nI 7 from rfl, nI_eq (by omega) (by omega)] at h189
            have hc4 := (ok.2.2.2.2.1 (by omega) (by omega)).1
            refine A_aload_n dX11_steps_192 rfl 6 rfl ?_
            refine A_getR (b := 96) dX11_steps_193 fo_RX11_16 L93 rfl ?_
            refine A_bipush (v := 48) dX11_steps_196 rfl ?_
            refine A_iload dX11_steps_198 2 rfl ?_
            refine A_iadd dX11_steps_200 ?_
            refine A_iaload (48 + pO p t (s 0 t)) dX11_steps_201 L96 (by simp only [lit, nI_add, pk_mul]) (by omega) (lb rfl) ?_
            refine A_topi (k (pO p t (s 0 t))) (sm_rk (u2 f 93 16 0) (s2 s 0 t (s 0 t + 1)) k (by omega)) ?_
            refine A_iload dX11_steps_202 1 rfl ?_
            refine A_icmp_ne (tgt := 212) dX11_steps_204 rfl (fun h204 => ?_) (fun h204 => ?_)
            · refine A_aload_n dX11_steps_212 rfl 6 rfl ?_
              refine A_iload_n dX11_steps_213 rfl 7 rfl ?_
              refine A_iload_n dX11_steps_214 rfl 5 rfl ?_
              refine A_iconst (v := 3) dX11_steps_215 rfl ?_
              refine A_callV (M' := MX11_field) [.int (nI t), .int (nI (s 0 t)), .int 3] [] 93 dX11_steps_216 lk_RX11_150 oX11_field iX11_field rfl rfl ⟨lb rfl, lb rfl⟩ (lb rfl) ⟨lb rfl, lb rfl⟩ L93 rfl (c_field t (s 0 t) 3 _ (by omega)) ?_
              rintro _ _ ⟨rfl, rfl⟩
              refine A_topi (nI (pT p t (s 0 t))) (by rw [rd94]; exact eT) ?_
              refine A_istore (lv' := [(7, .int (nI (pT p t (s 0 t)))), (6, .int (pN p t (s 0 t))), (5, .int (nI (pO p t (s 0 t)))), (4, .int (nI (pS p t (s 0 t)))), (3, .int (nI (s 16 t))), (2, .int (nI (s 0 t))), (0, .ref 93), (1, .int (nI t))]) dX11_steps_219 (lb rfl) rfl ?_
              refine A_goto (tgt := 228) dX11_steps_221 rfl ?_
              refine A_aload_n dX11_steps_228 rfl 6 rfl ?_
              refine A_getR (b := 96) dX11_steps_229 fo_RX11_16 L93 rfl ?_
              refine A_iload_n dX11_steps_232 rfl 7 rfl ?_
              refine A_iload dX11_steps_233 0 rfl ?_
              refine A_iload_n dX11_steps_235 rfl 4 rfl ?_
              refine A_icmp_le (tgt := 243) dX11_steps_236 rfl (fun h236 => ?_) (fun h236 => ?_)
              · rw [nI_leI (by omega) (by omega)] at h236
                refine A_iload dX11_steps_243 0 rfl ?_
                refine A_iastore t dX11_steps_245 L96 (rfl) (by omega) (lb rfl) ?_
                refine A_eq rfl rfl (sm_u (u2 f 93 16 0) (s2 s 0 t (s 0 t + 1)) k (pT p t (s 0 t)) (by simp only [lit, nI_add, pk_mul]) (by omega) (f_0 t (by omega))) ?_
                refine A_aload_n dX11_steps_246 rfl 6 rfl ?_
                refine A_getI dX11_steps_247 fo_RX11_166 L93 rfl ?_
                refine A_topi (0) (by simp [ur, u2, upd]) ?_
                refine A_if_le (tgt := 266) dX11_steps_250 rfl (fun h250 => ?_) (fun h250 => by exact absurd (by decide) h250)
                exact A_vret dX11_steps_266 rfl (⟨rfl, f 93 17, by unfold stepA; rw [if_neg h24, if_neg (by omega), if_neg (by omega), if_neg (by omega), if_pos (by omega)]; dsimp only; (first | rw [if_pos h204] | rw [if_neg h204]); rw [show nI 0 = (0 : Int32) from rfl, (show u2 (u2 f 93 16 (0 : Int32)) 93 17 (f 93 17) = u2 f 93 16 0 from u2_same _ (by simp [u2, ur, upd])), s2_s2]; (try rw [Nat.min_eq_left (by omega)]); (try rw [Nat.min_eq_right (by omega)]), fun e => absurd e h24⟩)
              · rw [nI_leI (by omega) (by omega)] at h236
                refine A_iload_n dX11_steps_239 rfl 4 rfl ?_
                refine A_goto (tgt := 245) dX11_steps_240 rfl ?_
                refine A_iastore t dX11_steps_245 L96 (rfl) (by omega) (lb rfl) ?_
                refine A_eq rfl rfl (sm_u (u2 f 93 16 0) (s2 s 0 t (s 0 t + 1)) k (s 16 t) (by simp only [lit, nI_add, pk_mul]) (by omega) (f_0 t (by omega))) ?_
                refine A_aload_n dX11_steps_246 rfl 6 rfl ?_
                refine A_getI dX11_steps_247 fo_RX11_166 L93 rfl ?_
                refine A_topi (0) (by simp [ur, u2, upd]) ?_
                refine A_if_le (tgt := 266) dX11_steps_250 rfl (fun h250 => ?_) (fun h250 => by exact absurd (by decide) h250)
                exact A_vret dX11_steps_266 rfl (⟨rfl, f 93 17, by unfold stepA; rw [if_neg h24, if_neg (by omega), if_neg (by omega), if_neg (by omega), if_pos (by omega)]; dsimp only; (first | rw [if_pos h204] | rw [if_neg h204]); rw [show nI 0 = (0 : Int32) from rfl, (show u2 (u2 f 93 16 (0 : Int32)) 93 17 (f 93 17) = u2 f 93 16 0 from u2_same _ (by simp [u2, ur, upd])), s2_s2]; (try rw [Nat.min_eq_left (by omega)]); (try rw [Nat.min_eq_right (by omega)]), fun e => absurd e h24⟩)
            · refine A_iload dX11_steps_207 0 rfl ?_
              refine A_goto (tgt := 219) dX11_steps_209 rfl ?_
              refine A_istore (lv' := [(7, .int (nI (s 0 t + 1))), (6, .int (pN p t (s 0 t))), (5, .int (nI (pO p t (s 0 t)))), (4, .int (nI (pS p t (s 0 t)))), (3, .int (nI (s 16 t))), (2, .int (nI (s 0 t))), (0, .ref 93), (1, .int (nI t))]) dX11_steps_219 (lb rfl) rfl ?_
              refine A_goto (tgt := 228) dX11_steps_221 rfl ?_
              refine A_aload_n dX11_steps_228 rfl 6 rfl ?_
              refine A_getR (b := 96) dX11_steps_229 fo_RX11_16 L93 rfl ?_
              refine A_iload_n dX11_steps_232 rfl 7 rfl ?_
              refine A_iload dX11_steps_233 0 rfl ?_
              refine A_iload_n dX11_steps_235 rfl 4 rfl ?_
              refine A_icmp_le (tgt := 243) dX11_steps_236 rfl (fun h236 => ?_) (fun h236 => by exact absurd ((nI_leI (by omega) (by omega)).mpr (by omega)) h236)
              rw [nI_leI (by omega) (by omega)] at h236
              refine A_iload dX11_steps_243 0 rfl ?_
              refine A_iastore t dX11_steps_245 L96 (rfl) (by omega) (lb rfl) ?_
              refine A_eq rfl rfl (sm_u (u2 f 93 16 0) (s2 s 0 t (s 0 t + 1)) k (s 0 t + 1) (by simp only [lit, nI_add, pk_mul]) (by omega) (f_0 t (by omega))) ?_
              refine A_aload_n dX11_steps_246 rfl 6 rfl ?_
              refine A_getI dX11_steps_247 fo_RX11_166 L93 rfl ?_
              refine A_topi (0) (by simp [ur, u2, upd]) ?_
              refine A_if_le (tgt := 266) dX11_steps_250 rfl (fun h250 => ?_) (fun h250 => by exact absurd (by decide) h250)
              exact A_vret dX11_steps_266 rfl (⟨rfl, f 93 17, by unfold stepA; rw [if_neg h24, if_neg (by omega), if_neg (by omega), if_neg (by omega), if_pos (by omega)]; dsimp only; (first | rw [if_pos h204] | rw [if_neg h204]); rw [show nI 0 = (0 : Int32) from rfl, (show u2 (u2 f 93 16 (0 : Int32)) 93 17 (f 93 17) = u2 f 93 16 0 from u2_same _ (by simp [u2, ur, upd])), s2_s2]; (try rw [Nat.min_eq_left (by omega)]); (try rw [Nat.min_eq_right (by omega)]), fun e => absurd e h24⟩)
        · rw [show (6 : Int32) = nI 6 from rfl, nI_eq (by omega) (by omega)] at h167
          have hc4 := (ok.2.2.2.2.1 (by omega) (by omega)).1
          refine A_aload_n dX11_steps_170 rfl 6 rfl ?_
          refine A_getR (b := 96) dX11_steps_171 fo_RX11_16 L93 rfl ?_
          refine A_bipush (v := 48) dX11_steps_174 rfl ?_
          refine A_iload dX11_steps_176 2 rfl ?_
          refine A_iadd dX11_steps_178 ?_
          refine A_iload dX11_steps_179 1 rfl ?_
          refine A_iastore (48 + pO p t (s 0 t)) dX11_steps_181 L96 (by simp only [lit, nI_add, pk_mul]) (by omega) (lb rfl) ?_
          refine A_eq rfl rfl (sm_uk (u2 f 93 16 0) (s2 s 0 t (s 0 t + 1)) k (pN p t (s 0 t)) (by omega)) ?_
          refine A_goto (tgt := 228) dX11_steps_182 rfl ?_
          refine A_aload_n dX11_steps_228 rfl 6 rfl ?_
          refine A_getR (b := 96) dX11_steps_229 fo_RX11_16 L93 rfl ?_
          refine A_iload_n dX11_steps_232 rfl 7 rfl ?_
          refine A_iload dX11_steps_233 0 rfl ?_
          refine A_iload_n dX11_steps_235 rfl 4 rfl ?_
          refine A_icmp_le (tgt := 243) dX11_steps_236 rfl (fun h236 => ?_) (fun h236 => by exact absurd ((nI_leI (by omega) (by omega)).mpr (by omega)) h236)
          rw [nI_leI (by omega) (by omega)] at h236
          refine A_iload dX11_steps_243 0 rfl ?_
          refine A_iastore t dX11_steps_245 L96 (rfl) (by omega) (lb rfl) ?_
          refine A_eq rfl rfl (sm_u (u2 f 93 16 0) (s2 s 0 t (s 0 t + 1)) (upd k (pO p t (s 0 t)) (pN p t (s 0 t))) (s 0 t + 1) (by simp only [lit, nI_add, pk_mul]) (by omega) (f_0 t (by omega))) ?_
          refine A_aload_n dX11_steps_246 rfl 6 rfl ?_
          refine A_getI dX11_steps_247 fo_RX11_166 L93 rfl ?_
          refine A_topi (0) (by simp [ur, u2, upd]) ?_
          refine A_if_le (tgt := 266) dX11_steps_250 rfl (fun h250 => ?_) (fun h250 => by exact absurd (by decide) h250)
          exact A_vret dX11_steps_266 rfl (⟨rfl, f 93 17, by unfold stepA; rw [if_neg h24, if_neg (by omega), if_neg (by omega), if_pos (by omega)]; dsimp only; rw [show nI 0 = (0 : Int32) from rfl, (show u2 (u2 f 93 16 (0 : Int32)) 93 17 (f 93 17) = u2 f 93 16 0 from u2_same _ (by simp [u2, ur, upd])), s2_s2], fun e => absurd e h24⟩)
      · rw [show (5 : Int32) = nI 5 from rfl, nI_eq (by omega) (by omega)] at h96
        have hc4 := (ok.2.2.2.2.1 (by omega) (by omega)).1
        refine A_aload_n dX11_steps_99 rfl 6 rfl ?_
        refine A_aload_n dX11_steps_100 rfl 6 rfl ?_
        refine A_getR (b := 96) dX11_steps_101 fo_RX11_16 L93 rfl ?_
        refine A_bipush (v := 48) dX11_steps_104 rfl ?_
        refine A_iload dX11_steps_106 2 rfl ?_
        refine A_iadd dX11_steps_108 ?_
        refine A_iaload (48 + pO p t (s 0 t)) dX11_steps_109 L96 (by simp only [lit, nI_add, pk_mul]) (by omega) (lb rfl) ?_
        refine A_topi (k (pO p t (s 0 t))) (sm_rk (u2 f 93 16 0) (s2 s 0 t (s 0 t + 1)) k (by omega)) ?_
        refine A_iload dX11_steps_110 1 rfl ?_
        refine A_iadd dX11_steps_112 ?_
        refine A_i2l dX11_steps_113 ?_
        refine A_ldc2 dX11_steps_114 k_RX11_79 ?_
        refine A_ldc2 dX11_steps_117 k_RX11_81 ?_
        refine A_callS (M' := MX11_in) [.long (((k (pO p t (s 0 t))) + (pN p t (s 0 t))).toInt64), .long (-99), .long 99] [.ref 93] dX11_steps_120 lk_RX11_64 oX11_in sX11_in rfl rfl ⟨lb rfl, lb rfl⟩ (lb rfl) ⟨lb rfl, lb rfl⟩ (c_in _ _ _ _) ?_
        rintro _ _ ⟨rfl, rfl⟩
        refine A_if_eq (tgt := 130) dX11_steps_123 rfl (fun h123 => ?_) (fun h123 => ?_)
        · have hin : ¬ inCell (k (pO p t (s 0 t)) + pN p t (s 0 t)) := by have := bz_0.mp h123; rw [i64] at this; exact this
          refine A_iconst (v := 4) dX11_steps_130 rfl ?_
          refine A_putI dX11_steps_131 fo_RX11_166 L93 rfl ?_
          refine A_eq rfl rfl (f' := ur (u2 (u2 f 93 16 0) 93 16 4) 96 (flat (s2 s 0 t (s 0 t + 1)) k)) (sm_o (u2 f 93 16 0) (s2 s 0 t (s 0 t + 1)) k (by decide)) ?_
          refine A_aload_n dX11_steps_134 rfl 6 rfl ?_
          refine A_getR (b := 96) dX11_steps_135 fo_RX11_16 L93 rfl ?_
          refine A_bipush (v := 48) dX11_steps_138 rfl ?_
          refine A_iload dX11_steps_140 2 rfl ?_
          refine A_iadd dX11_steps_142 ?_
          refine A_dup2 dX11_steps_143 rfl rfl ?_
          refine A_iaload (48 + pO p t (s 0 t)) dX11_steps_144 L96 (by simp only [lit, nI_add, pk_mul]) (by omega) (lb rfl) ?_
          refine A_topi (k (pO p t (s 0 t))) (sm_rk (u2 (u2 f 93 16 0) 93 16 4) (s2 s 0 t (s 0 t + 1)) k (by omega)) ?_
          refine A_aload_n dX11_steps_145 rfl 6 rfl ?_
          refine A_getI dX11_steps_146 fo_RX11_166 L93 rfl ?_
          refine A_topi (4) (by simp [ur, u2, upd]) ?_
          refine A_if_ne (tgt := 157) dX11_steps_149 rfl (fun h149 => ?_) (fun h149 => by exact absurd h149 (by decide))
          refine A_iconst (v := 0) dX11_steps_157 rfl ?_
          refine A_iadd dX11_steps_158 ?_
          refine A_iastore (48 + pO p t (s 0 t)) dX11_steps_159 L96 (by simp only [lit, nI_add, pk_mul]) (by omega) (lb rfl) ?_
          refine A_eq rfl rfl (sm_uk (u2 (u2 f 93 16 0) 93 16 4) (s2 s 0 t (s 0 t + 1)) k ((k (pO p t (s 0 t))) + 0) (by omega)) ?_
          rw [Int32.add_zero, updk_same]
          refine A_goto (tgt := 228) dX11_steps_160 rfl ?_
          refine A_aload_n dX11_steps_228 rfl 6 rfl ?_
          refine A_getR (b := 96) dX11_steps_229 fo_RX11_16 L93 rfl ?_
          refine A_iload_n dX11_steps_232 rfl 7 rfl ?_
          refine A_iload dX11_steps_233 0 rfl ?_
          refine A_iload_n dX11_steps_235 rfl 4 rfl ?_
          refine A_icmp_le (tgt := 243) dX11_steps_236 rfl (fun h236 => ?_) (fun h236 => by exact absurd ((nI_leI (by omega) (by omega)).mpr (by omega)) h236)
          rw [nI_leI (by omega) (by omega)] at h236
          refine A_iload dX11_steps_243 0 rfl ?_
          refine A_iastore t dX11_steps_245 L96 (rfl) (by omega) (lb rfl) ?_
          refine A_eq rfl rfl (sm_u (u2 (u2 f 93 16 0) 93 16 4) (s2 s 0 t (s 0 t + 1)) k (s 0 t + 1) (by simp only [lit, nI_add, pk_mul]) (by omega) (f_0 t (by omega))) ?_
          refine A_aload_n dX11_steps_246 rfl 6 rfl ?_
          refine A_getI dX11_steps_247 fo_RX11_166 L93 rfl ?_
          refine A_topi (4) (by simp [ur, u2, upd]) ?_
          refine A_if_le (tgt := 266) dX11_steps_250 rfl (fun h250 => by exact absurd h250 (by decide)) (fun h250 => ?_)
          refine A_aload_n dX11_steps_253 rfl 6 rfl ?_
          refine A_getR (b := 96) dX11_steps_254 fo_RX11_16 L93 rfl ?_
          refine A_iload_n dX11_steps_257 rfl 7 rfl ?_
          refine A_iload_n dX11_steps_258 rfl 5 rfl ?_
          refine A_iastore t dX11_steps_259 L96 (rfl) (by omega) (lb rfl) ?_
          refine A_eq rfl rfl (sm_u (u2 (u2 f 93 16 0) 93 16 4) (s2 (s2 s 0 t (s 0 t + 1)) 0 t (s 0 t + 1)) k (s 0 t) (by simp only [lit, nI_add, pk_mul]) (by omega) (f_0 t (by omega))) ?_
          rw [s2_s2, s2_s2, s2_self]
          refine A_aload_n dX11_steps_260 rfl 6 rfl ?_
          refine A_iload_n dX11_steps_261 rfl 7 rfl ?_
          refine A_iconst (v := 4) dX11_steps_262 rfl ?_
          refine A_callV (M' := MX11_ends) [.int (nI t), .int 4] [] 93 dX11_steps_263 lk_RX11_181 oX11_ends iX11_ends rfl rfl ⟨lb rfl, lb rfl⟩ (lb rfl) ⟨lb rfl, lb rfl⟩ L93 rfl (c_ends t 4 (u2 (u2 f 93 16 0) 93 16 4) s k ht (by omega) hw h1) ?_
          rintro _ _ ⟨rfl, rfl⟩
          exact A_vret dX11_steps_266 rfl (⟨rfl, nI (endA s t 4).2, by unfold stepA; rw [if_neg h24, if_neg (by omega), if_pos (by omega), if_neg hin, u2_u2]; rfl, fun e => absurd e h24⟩)
        · have hin : inCell (k (pO p t (s 0 t)) + pN p t (s 0 t)) := by have := bz_n0.mp h123; rw [i64] at this; exact this
          refine A_iconst (v := 0) dX11_steps_126 rfl ?_
          refine A_goto (tgt := 131) dX11_steps_127 rfl ?_
          refine A_putI dX11_steps_131 fo_RX11_166 L93 rfl ?_
          refine A_eq rfl rfl (f' := ur (u2 (u2 f 93 16 0) 93 16 0) 96 (flat (s2 s 0 t (s 0 t + 1)) k)) (sm_o (u2 f 93 16 0) (s2 s 0 t (s 0 t + 1)) k (by decide)) ?_
          refine A_aload_n dX11_steps_134 rfl 6 rfl ?_
          refine A_getR (b := 96) dX11_steps_135 fo_RX11_16 L93 rfl ?_
          refine A_bipush (v := 48) dX11_steps_138 rfl ?_
          refine A_iload dX11_steps_140 2 rfl ?_
          refine A_iadd dX11_steps_142 ?_
          refine A_dup2 dX11_steps_143 rfl rfl ?_
          refine A_iaload (48 + pO p t (s 0 t)) dX11_steps_144 L96 (by simp only [lit, nI_add, pk_mul]) (by omega) (lb rfl) ?_
          refine A_topi (k (pO p t (s 0 t))) (sm_rk (u2 (u2 f 93 16 0) 93 16 0) (s2 s 0 t (s 0 t + 1)) k (by omega)) ?_
          refine A_aload_n dX11_steps_145 rfl 6 rfl ?_
          refine A_getI dX11_steps_146 fo_RX11_166 L93 rfl ?_
          refine A_topi (0) (by simp [ur, u2, upd]) ?_
          refine A_if_ne (tgt := 157) dX11_steps_149 rfl (fun h149 => by exact absurd rfl h149) (fun h149 => ?_)
          refine A_iload dX11_steps_152 1 rfl ?_
          refine A_goto (tgt := 158) dX11_steps_154 rfl ?_
          refine A_iadd dX11_steps_158 ?_
          refine A_iastore (48 + pO p t (s 0 t)) dX11_steps_159 L96 (by simp only [lit, nI_add, pk_mul]) (by omega) (lb rfl) ?_
          refine A_eq rfl rfl (sm_uk (u2 (u2 f 93 16 0) 93 16 0) (s2 s 0 t (s 0 t + 1)) k ((k (pO p t (s 0 t))) + (pN p t (s 0 t))) (by omega)) ?_
          refine A_goto (tgt := 228) dX11_steps_160 rfl ?_
          refine A_aload_n dX11_steps_228 rfl 6 rfl ?_
          refine A_getR (b := 96) dX11_steps_229 fo_RX11_16 L93 rfl ?_
          refine A_iload_n dX11_steps_232 rfl 7 rfl ?_
          refine A_iload dX11_steps_233 0 rfl ?_
          refine A_iload_n dX11_steps_235 rfl 4 rfl ?_
          refine A_icmp_le (tgt := 243) dX11_steps_236 rfl (fun h236 => ?_) (fun h236 => by exact absurd ((nI_leI (by omega) (by omega)).mpr (by omega)) h236)
          rw [nI_leI (by omega) (by omega)] at h236
          refine A_iload dX11_steps_243 0 rfl ?_
          refine A_iastore t dX11_steps_245 L96 (rfl) (by omega) (lb rfl) ?_
          refine A_eq rfl rfl (sm_u (u2 (u2 f 93 16 0) 93 16 0) (s2 s 0 t (s 0 t + 1)) (upd k (pO p t (s 0 t)) ((k (pO p t (s 0 t))) + (pN p t (s 0 t)))) (s 0 t + 1) (by simp only [lit, nI_add, pk_mul]) (by omega) (f_0 t (by omega))) ?_
          refine A_aload_n dX11_steps_246 rfl 6 rfl ?_
          refine A_getI dX11_steps_247 fo_RX11_166 L93 rfl ?_
          refine A_topi (0) (by simp [ur, u2, upd]) ?_
          refine A_if_le (tgt := 266) dX11_steps_250 rfl (fun h250 => ?_) (fun h250 => by exact absurd (by decide) h250)
          exact A_vret dX11_steps_266 rfl (⟨rfl, f 93 17, by unfold stepA; rw [if_neg h24, if_neg (by omega), if_pos (by omega), if_pos hin]; dsimp only; rw [show nI 0 = (0 : Int32) from rfl, (show u2 (u2 f 93 16 (0 : Int32)) 93 17 (f 93 17) = u2 f 93 16 0 from u2_same _ (by simp [u2, ur, upd])), s2_s2]; rw [u2_u2], fun e => absurd e h24⟩)
    · rw [show (5 : Int32) = nI 5 from rfl, nI_leI (by omega) (by omega)] at h78
      refine A_aload_n dX11_steps_81 rfl 6 rfl ?_
      refine A_iload_n dX11_steps_82 rfl 7 rfl ?_
      refine A_iload dX11_steps_83 3 rfl ?_
      refine A_iload dX11_steps_85 2 rfl ?_
      refine A_callV (M' := MX11_monitors) [.int (nI t), .int (nI (pS p t (s 0 t))), .int (nI (pO p t (s 0 t)))] [] 93 dX11_steps_87 lk_RX11_184 oX11_monitors iX11_monitors rfl rfl ⟨lb rfl, lb rfl⟩ (lb rfl) ⟨lb rfl, lb rfl⟩ L93 rfl (c_monitors t (pS p t (s 0 t)) (pO p t (s 0 t)) (u2 f 93 16 0) (s2 s 0 t (s 0 t + 1)) k ht (by omega) (ok.2.2.2.1 (by omega)) (wf_place hw t _) (by simp [s2, h1]) (by simp [u2, ur, upd]) (by rw [u2_n _ _ _ (by decide), s2_c _ (by decide)]; exact hg.2.1 _ (ok.2.2.2.1 (by omega))) (by rw [s2_c _ (by decide)]; exact h14 _ (ok.2.2.2.1 (by omega)))) ?_
      rintro _ _ ⟨rfl, rfl⟩
      rw [u2_u2]
      have c0 := mon_c (s2 s 0 t (s 0 t + 1)) (t := t) (so := pS p t (s 0 t)) (m := pO p t (s 0 t)) (c := 0) (j := t) (ok.2.2.2.1 (by omega)) (Or.inl rfl)
      rw [s2_s] at c0
      refine A_goto (tgt := 228) dX11_steps_90 rfl ?_
      refine A_aload_n dX11_steps_228 rfl 6 rfl ?_
      refine A_getR (b := 96) dX11_steps_229 fo_RX11_16 L93 rfl ?_
      refine A_iload_n dX11_steps_232 rfl 7 rfl ?_
      refine A_iload dX11_steps_233 0 rfl ?_
      refine A_iload_n dX11_steps_235 rfl 4 rfl ?_
      refine A_icmp_le (tgt := 243) dX11_steps_236 rfl (fun h236 => ?_) (fun h236 => by exact absurd ((nI_leI (by omega) (by omega)).mpr (by omega)) h236)
      rw [nI_leI (by omega) (by omega)] at h236
      refine A_iload dX11_steps_243 0 rfl ?_
      refine A_iastore t dX11_steps_245 L96 (rfl) (by omega) (lb rfl) ?_
      refine A_eq rfl rfl (sm_u (u2 f 93 16 (nI (monA (s2 s 0 t (s 0 t + 1)) t (pS p t (s 0 t)) (pO p t (s 0 t))).2)) ((monA (s2 s 0 t (s 0 t + 1)) t (pS p t (s 0 t)) (pO p t (s 0 t))).1) k (s 0 t + 1) (by simp only [lit, nI_add, pk_mul]) (by omega) (f_0 t (by omega))) ?_
      refine A_aload_n dX11_steps_246 rfl 6 rfl ?_
      refine A_getI dX11_steps_247 fo_RX11_166 L93 rfl ?_
      refine A_topi (nI (monA (s2 s 0 t (s 0 t + 1)) t (pS p t (s 0 t)) (pO p t (s 0 t))).2) (by simp [ur, u2, upd]) ?_
      refine A_if_le (tgt := 266) dX11_steps_250 rfl (fun h250 => ?_) (fun h250 => ?_)
      · have hz0 : (monA (s2 s 0 t (s 0 t + 1)) t (pS p t (s 0 t)) (pO p t (s 0 t))).2 = 0 := by
          rcases Nat.eq_zero_or_pos (monA (s2 s 0 t (s 0 t + 1)) t (pS p t (s 0 t)) (pO p t (s 0 t))).2 with q | q
          · exact q
          · exact absurd h250 (nI_nle q (by have := mon_le (s2 s 0 t (s 0 t + 1)) t (pS p t (s 0 t)) (pO p t (s 0 t)); omega))
        exact A_vret dX11_steps_266 rfl (⟨rfl, f 93 17, by unfold stepA; rw [if_neg h24, if_pos (by omega), if_pos hz0]; dsimp only; rw [hz0, s2_selfx _ c0.symm, show nI 0 = (0 : Int32) from rfl, (show u2 (u2 f 93 16 (0 : Int32)) 93 17 (f 93 17) = u2 f 93 16 0 from u2_same _ (by simp [u2, ur, upd]))], fun e => absurd e h24⟩)
      · have hz0 : ¬ (monA (s2 s 0 t (s 0 t + 1)) t (pS p t (s 0 t)) (pO p t (s 0 t))).2 = 0 := fun q => h250 (by rw [q]; decide)
        refine A_aload_n dX11_steps_253 rfl 6 rfl ?_
        refine A_getR (b := 96) dX11_steps_254 fo_RX11_16 L93 rfl ?_
        refine A_iload_n dX11_steps_257 rfl 7 rfl ?_
        refine A_iload_n dX11_steps_258 rfl 5 rfl ?_
        refine A_iastore t dX11_steps_259 L96 (rfl) (by omega) (lb rfl) ?_
        refine A_eq rfl rfl (sm_u (u2 f 93 16 (nI (monA (s2 s 0 t (s 0 t + 1)) t (pS p t (s 0 t)) (pO p t (s 0 t))).2)) (s2 ((monA (s2 s 0 t (s 0 t + 1)) t (pS p t (s 0 t)) (pO p t (s 0 t))).1) 0 t (s 0 t + 1)) k (s 0 t) (by simp only [lit, nI_add, pk_mul]) (by omega) (f_0 t (by omega))) ?_
        rw [mon_same (by omega), s2_s2, s2_s2, s2_self]
        refine A_aload_n dX11_steps_260 rfl 6 rfl ?_
        refine A_iload_n dX11_steps_261 rfl 7 rfl ?_
        refine A_iconst (v := 4) dX11_steps_262 rfl ?_
        refine A_callV (M' := MX11_ends) [.int (nI t), .int 4] [] 93 dX11_steps_263 lk_RX11_181 oX11_ends iX11_ends rfl rfl ⟨lb rfl, lb rfl⟩ (lb rfl) ⟨lb rfl, lb rfl⟩ L93 rfl (c_ends t 4 (u2 f 93 16 (nI (monA (s2 s 0 t (s 0 t + 1)) t (pS p t (s 0 t)) (pO p t (s 0 t))).2)) s k ht (by omega) hw h1) ?_
        rintro _ _ ⟨rfl, rfl⟩
        exact A_vret dX11_steps_266 rfl (⟨rfl, nI (endA s t 4).2, by unfold stepA; rw [if_neg h24, if_pos (by omega), if_neg (by omega)], fun e => absurd e h24⟩)
  · rw [nI_eq (by omega) (by omega)] at h24
    refine A_aload_n dX11_steps_27 rfl 2 rfl ?_
    refine A_iload_n dX11_steps_28 rfl 3 rfl ?_
    refine A_iconst (v := 3) dX11_steps_29 rfl ?_
    refine A_callV (M' := MX11_ends) [.int (nI t), .int 3] [] 93 dX11_steps_30 lk_RX11_181 oX11_ends iX11_ends rfl rfl ⟨lb rfl, lb rfl⟩ (lb rfl) ⟨lb rfl, lb rfl⟩ L93 rfl (c_ends t 3 (u2 f 93 16 0) s k ht (by omega) hw h1) ?_
    rintro _ _ ⟨rfl, rfl⟩
    exact A_vret dX11_steps_33 rfl (⟨rfl, nI (endA s t 3).2, by unfold stepA; rw [if_pos h24]; rfl, fun _ => by unfold stepA; rw [if_pos h24]⟩)
