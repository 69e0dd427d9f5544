/-! what stays well formed -/
theorem wfP_c {s s' : Sg} {p : Ro} (h : wfP s p) (h0 : ∀ t, t < 4 → s' 0 t ≤ s' 16 t) (h16 : ∀ t, t < 4 → s' 16 t = s 16 t) : wfP s' p := fun t ht =>
  ⟨by rw [h16 t ht]; exact (h t ht).1, h0 t ht, fun i hi => (h t ht).2.2 i (by rw [← h16 t ht]; exact hi)⟩
theorem wfC_task {s : Sg} {k p : Ro} (w : wfC s k p) (hn : s 13 0 < 4) : wfC (s2 s 13 0 (s 13 0 + 1)) k p := by
  obtain ⟨a, b, c, d, e, f, g, h⟩ := w
  have lo := s2_o s (c := 13) (i := 0) (x := s 13 0 + 1) (by decide)
  refine ⟨wf_hi lo a, wfP_c b (fun t ht => ?_) (fun t ht => s2_c s (by decide)), c, fun m hm => ?_, ?_, ?_, fun t t1 t2 => ?_, wfE_hi lo h⟩
  · rw [s2_c _ (by decide), s2_c _ (by decide)]; exact (b t ht).2.1
  · rw [s2_c _ (by decide)]; exact d m hm
  · rw [s2_s]; omega
  · rw [s2_s, s2_c _ (by decide)]; omega
  · rw [s2_s] at t1
    rw [s2_c _ (by decide)]; exact g t (by omega) t2
theorem wfC_put {s : Sg} {k p : Ro} (w : wfC s k p) (c : Nat) {v : Int32} (hv : inCell v) : wfC s (upd k c v) p :=
  ⟨w.1, w.2.1, fun i hi => by unfold upd; split; exact hv; exact w.2.2.1 i hi, w.2.2.2⟩
theorem wfC_miss {s : Sg} {k p : Ro} (w : wfC s k p) (m : Nat) {z : Nat} (hz : z ≤ 1) : wfC (s2 s 14 m z) k p := by
  obtain ⟨a, b, c, d, e, f, g, h⟩ := w
  have lo := s2_o s (c := 14) (i := m) (x := z) (by decide)
  refine ⟨wf_hi lo a, wfP_c b (fun t ht => ?_) (fun t ht => s2_c s (by decide)), c, fun m' hm' => ?_, ?_, ?_, fun t t1 t2 => ?_, wfE_hi lo h⟩
  · rw [s2_c _ (by decide), s2_c _ (by decide)]; exact (b t ht).2.1
  · rw [s2_e]; split; exact hz; exact d m' hm'
  · rw [s2_c _ (by decide)]; exact e
  · rw [s2_c _ (by decide), s2_c _ (by decide)]; exact f
  · rw [s2_c _ (by decide)] at t1
    rw [s2_c _ (by decide)]; exact g t t1 t2
theorem wfC_anew {s : Sg} {k p : Ro} (w : wfC s k p) : wfC (zS s) z0 p := by
  obtain ⟨a, b, c, d, e, f, g, h⟩ := w
  have z : ∀ c i, c < 13 → zS s c i = 0 := fun c i hc => zS_lo hc
  refine ⟨⟨fun r hr => ?_, fun r r' hr hr' i i' _ _ _ hne => ?_, fun r hr i _ hne => ?_, fun t _ => ?_, fun m _ => ?_⟩, wfP_c b (fun t ht => ?_) (fun t ht => rfl), fun c _ => (show inCell 0 by decide), fun m hm => d m hm, e, ?_, g, fun x hx q => ?_⟩
  · exact ⟨by rw [z 5 r (by omega)]; omega, fun i hi => ⟨fun q => by rw [z 5 r (by omega)] at q; omega, fun _ => z (7 + r) i (by omega)⟩⟩
  · exact absurd (z (7 + r) i (by omega)) hne
  · exact absurd (z (7 + r) i (by omega)) hne
  · rw [z 1 t (by omega), z 2 t (by omega)]; omega
  · rw [z 3 m (by omega), z 4 m (by omega)]; omega
  · rw [z 0 t (by omega)]; omega
  · exact Nat.zero_le _
  · rw [z 1 x (by omega)] at q; omega
theorem wR_z (s : Sg) : wR s z0 z0 := fun _ _ => ⟨fun _ => rfl, fun _ => rfl⟩
