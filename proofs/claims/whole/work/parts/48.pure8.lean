theorem q_dec {σ μ : Sg} {w : Int32} {s : Nat} (h : QQ σ μ w) (hs : s < 8) : QQ (sx σ 14 s (σ 14 s - 1)) (sx μ 9 s (μ 9 s - 1)) w := by
  obtain ⟨h1, h2, h3, h4, h5, h6, h7, h8, h9, h10, h11, h12, h13, h14, h15, h16, h17, h18, h19⟩ := h
  refine ⟨?_, ?_, ?_, ?_, ?_, ?_, ?_, ?_, ?_, ?_, ?_, ?_, ?_, ?_, ?_, ?_, ?_, ?_, ?_⟩
  · intro j hj; simp [sx_r, h1 j hj]
  · intro j hj; simp [sx_r, h2 j hj, h2 s hs]
  · intro j hj; simp [sx_r, h3 j hj]
  · simp [sx_r, h4]
  · intro j hj; simp [sx_r, h5 j hj]
  · intro j hj; simp [sx_r, h6 j hj]
  · intro j hj; simp [sx_r, h7 j hj]
  · intro j hj; simp [sx_r, h8 j hj]
  · intro j hj; simp [sx_r]; exact h9 j hj
  · intro j hj; simp [sx_r]; exact h10 j hj
  · intro j hj; simp [sx_r]; exact h11 j hj
  · intro j hj; simp [sx_r, h12 j hj]
  · intro j hj; simp [sx_r, h13 j hj]
  · intro j hj; simp [sx_r, h14 j hj]
  · intro j hj; simp [sx_r, h15 j hj]
  · intro j hj; simp [sx_r, h16 j hj]
  · intro j hj; simp [sx_r]; exact h17 j hj
  · simp [sx_r, h18]
  · simp [sx_r, h19]
theorem q_unlock {σ μ : Sg} {w mi : Int32} {b cy r : Nat} (h : QQ σ μ w) (hi : IQ σ b) (hc : cy < 30) (hr : r < 10) : r_X5_beUnlocked σ (nI cy) (nI r) mi = r_X6_unlock μ (nI cy) (nI r) mi ∧ QQ (s_X5_beUnlocked σ (nI cy) (nI r) mi) (s_X6_unlock μ (nI cy) (nI r) mi) w := by
  have ec : (nI cy).toNatClampNeg = cy := nI_clamp (by omega)
  have er : (nI r).toNatClampNeg = r := nI_clamp (by omega)
  have e16 := h.2.2.2.2.1 cy hc
  have e17 := h.2.2.2.2.2.1 cy hc
  have hbl := q_blocked h hi hc
  unfold r_X5_beUnlocked r_X6_unlock s_X5_beUnlocked s_X6_unlock
  rw [ec, er, hbl, e16, e17]
  by_cases h1 : μ 11 cy = 1
  · have h2 : ¬ μ 11 cy = 2 := by rw [h1]; decide
    simp only [if_pos h1, if_neg h2]
    by_cases hb : r_X6_isBlocked μ (nI cy) = 0
    · simp only [if_pos hb]
      refine ⟨trivial, ?_⟩
      obtain ⟨s, hs, hh⟩ := hi.1 cy hc (e16.trans h1)
      have es : (nI s).toNatClampNeg = s := nI_clamp (by omega)
      rw [← e17, hh, es]
      have q := q_begin (mi := mi) (q_dec h hs) hc hr
      have q1 : sx μ 9 s (μ 9 s - 1) 0 26 = μ 0 26 := by simp [sx_r]
      have q2 : sx μ 9 s (μ 9 s - 1) 18 r = μ 18 r := by simp [sx_r]
      unfold bM at q
      rw [q1, q2] at q
      exact q
    · simp only [if_neg hb]; exact ⟨trivial, h⟩
  · simp only [if_neg h1]
    by_cases h2 : μ 11 cy = 2
    · simp only [if_pos h2]
      by_cases h3 : μ 12 cy = nI r
      · simp only [if_pos h3]; exact ⟨trivial, h⟩
      · simp only [if_neg h3]
        refine ⟨trivial, ?_⟩
        obtain ⟨r2, hr2, hh⟩ := hi.2.1 cy hc (e16.trans h2)
        have q := q_begin (mi := mi) (r := r) (q_ride (mi := mi) h hc hr2 (e16.trans h2) hh) hc hr
        unfold bM at q
        have q1 : ∀ (τ : Sg), sx (sx (sx τ 11 cy 2) 12 cy (nI r)) 14 cy mi 0 26 = τ 0 26 := by intro τ; simp [sx_r]
        have q2 : ∀ (τ : Sg) (y : Int32), sx (sx (sx (sx (sx τ 11 cy 2) 12 cy (nI r)) 14 cy mi) 15 cy y) 16 cy 0 18 r = τ 18 r := by intro τ y; simp [sx_r]
        rw [q1, q2]
        exact q
    · simp only [if_neg h2]; exact ⟨trivial, h⟩
