theorem q_take {σ μ : Sg} {w : Int32} {b cy : Nat} (h : QQ σ μ w) (hi : IQ σ b) (hc : cy < 30) : r_X5_beTaken σ (nI cy) = r_X6_takeCycle μ (nI cy) ∧ QQ (s_X5_beTaken σ (nI cy)) (s_X6_takeCycle μ (nI cy)) w := by
  have ec : (nI cy).toNatClampNeg = cy := nI_clamp (by omega)
  have e1 := h.2.2.2.2.1 cy hc
  unfold r_X5_beTaken r_X6_takeCycle s_X5_beTaken s_X6_takeCycle
  rw [ec, e1]
  by_cases h0 : μ 11 cy = 1
  · simp only [if_pos h0]
    refine ⟨trivial, ?_⟩
    obtain ⟨s, hs, hh⟩ := hi.1 cy hc (e1.trans h0)
    have es : (nI s).toNatClampNeg = s := nI_clamp (by omega)
    obtain ⟨h1, h2, h3, h4, h5, h6, h7, h8, h9, h10, h11, h12, h13, h14, h15, h16, h17, h18, h19⟩ := h
    have hm : μ 12 cy = nI s := by rw [← h6 cy hc]; exact hh
    rw [hh, hm, es]
    refine ⟨?_, ?_, ?_, ?_, ?_, ?_, ?_, ?_, ?_, ?_, ?_, ?_, ?_, ?_, ?_, ?_, ?_, ?_, ?_⟩
    · intro j hj; simp [sx_r, h1 j hj]
    · intro j hj; simp [sx_r, h2 j hj, h2 s hs]
    · intro j hj; simp [sx_r, h3 j hj]
    · simp [sx_r, h4]
    · intro j hj; simp [sx_r, h5 j hj]
    · intro j hj; simp [sx_r, h6 j hj]
    · intro j hj; simp [sx_r, h7 j hj]
    · intro j hj; simp [sx_r, h8 j hj]
    · intro j hj; by_cases e : j = cy <;> simp [sx_r, e]; exact h9 j hj
    · intro j hj; by_cases e : j = cy <;> simp [sx_r, e]; exact h10 j hj
    · intro j hj; by_cases e : j = cy <;> simp [sx_r, e]; exact h11 j hj
    · intro j hj; simp [sx_r, h12 j hj]
    · intro j hj; simp [sx_r, h13 j hj]
    · intro j hj; simp [sx_r, h14 j hj]
    · intro j hj; simp [sx_r, h15 j hj]
    · intro j hj; simp [sx_r, h16 j hj]
    · intro j hj; simp [sx_r]; exact h17 j hj
    · simp [sx_r, h18]
    · simp [sx_r, h19]
  · simp only [if_neg h0]; exact ⟨trivial, h⟩
theorem q_promise {σ μ : Sg} {w mi : Int32} {b r s : Nat} (h : QQ σ μ w) (hi : IQ σ b) (hb : b ≤ 1000) (hr : r < 10) (hs : s < 8) : r_X5_bePromised σ (nI r) (nI s) mi = r_X6_promisePlace μ (nI r) (nI s) mi ∧ QQ (s_X5_bePromised σ (nI r) (nI s) mi) (s_X6_promisePlace μ (nI r) (nI s) mi) w := by
  have er : (nI r).toNatClampNeg = r := nI_clamp (by omega)
  have hf := (q_free (s := s) h hi hb hs).1
  have hp := q_promises (mi := mi) (lo := -1) (s := s) h hi hs
  unfold r_X5_bePromised r_X6_promisePlace s_X5_bePromised s_X6_promisePlace
  rw [er, hf, hp]
  by_cases h0 : r_X6_free μ (nI s) ≤ r_X6_promises μ (nI s) (-1) mi
  · have h00 : ¬ r_X6_promises μ (nI s) (-1) mi < r_X6_free μ (nI s) := fun q => (i_nle.mpr q) h0
    simp only [if_pos h0, if_neg h00]; exact ⟨trivial, h⟩
  · have h00 : r_X6_promises μ (nI s) (-1) mi < r_X6_free μ (nI s) := i_nle.mp h0
    simp only [if_neg h0, if_pos h00]
    refine ⟨trivial, ?_⟩
    obtain ⟨h1, h2, h3, h4, h5, h6, h7, h8, h9, h10, h11, h12, h13, h14, h15, h16, h17, h18, h19⟩ := h
    refine ⟨?_, ?_, ?_, ?_, ?_, ?_, ?_, ?_, ?_, ?_, ?_, ?_, ?_, ?_, ?_, ?_, ?_, ?_, ?_⟩
    · intro j hj; simp [sx_r, h1 j hj]
    · intro j hj; simp [sx_r, h2 j hj]
    · intro j hj; simp [sx_r, h3 j hj]
    · simp [sx_r, h4]
    · intro j hj; simp [sx_r, h5 j hj]
    · intro j hj; simp [sx_r, h6 j hj]
    · intro j hj; simp [sx_r, h7 j hj]
    · intro j hj; simp [sx_r, h8 j hj]
    · intro j hj; simp [sx_r]; exact h9 j hj
    · intro j hj; simp [sx_r]; exact h10 j hj
    · intro j hj; simp [sx_r]; exact h11 j hj
    · intro j hj; simp [sx_r, h12 j hj]
    · intro j hj; simp [sx_r, h13 j hj]
    · intro j hj; simp [sx_r, h14 j hj]
    · intro j hj; simp [sx_r, h15 j hj]
    · intro j hj; simp [sx_r, h16 j hj]
    · intro j hj; by_cases e : j = r <;> simp [sx_r, e]; exact h17 j hj
    · simp [sx_r, h18]
    · simp [sx_r, h19]
