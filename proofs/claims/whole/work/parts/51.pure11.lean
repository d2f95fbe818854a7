theorem iq_ride {σ : Sg} {b cy : Nat} {mi : Int32} (h : IQ σ b) (hc : cy < 30) : IQ (s_X5_endRide σ (nI cy) mi) b := by
  obtain ⟨h1, h2, h3, h4, h5, h6⟩ := h
  unfold s_X5_endRide
  refine ⟨?_, ?_, ?_, ?_, ?_, ?_⟩
  · intro j hj; simp [sx_r]; exact h1 j hj
  · intro j hj; simp [sx_r]; exact h2 j hj
  · intro j hj; simp [sx_r]; exact h3 j hj
  · intro j hj; simp [sx_r]; exact h4 j hj
  · intro j hj; simp [sx_r]; exact h5 j hj
  · intro j hj; simp [sx_r]; exact h6 j hj
theorem iq_begin {σ : Sg} {b cy r : Nat} {mi : Int32} (h : IQ σ b) (hc : cy < 30) (hr : r < 10) : IQ (s_X5_beginRide σ (nI cy) (nI r) mi) b := by
  obtain ⟨h1, h2, h3, h4, h5, h6⟩ := h
  have ec : (nI cy).toNatClampNeg = cy := nI_clamp (by omega)
  unfold s_X5_beginRide
  rw [ec]
  refine ⟨?_, ?_, ?_, ?_, ?_, ?_⟩
  · intro j hj
    by_cases e : j = cy
    · subst e; simp [sx_r]
    · simp [sx_r, e]; exact h1 j hj
  · intro j hj
    by_cases e : j = cy
    · subst e; simp [sx_r]; exact ⟨r, hr, rfl⟩
    · simp [sx_r, e]; exact h2 j hj
  · intro j hj; simp [sx_r]; exact h3 j hj
  · intro j hj; simp [sx_r]; exact h4 j hj
  · intro j hj; simp [sx_r]; exact h5 j hj
  · intro j hj; simp [sx_r]; exact h6 j hj
theorem iq_dec {σ : Sg} {b st : Nat} (h : IQ σ b) (hb : b ≤ 1000) (hs : st < 8) : IQ (sx σ 14 st (σ 14 st - 1)) (b + 1) := by
  obtain ⟨h1, h2, h3, h4, h5, h6⟩ := h
  refine ⟨?_, ?_, ?_, ?_, ?_, ?_⟩
  · intro j hj; simp [sx_r]; exact h1 j hj
  · intro j hj; simp [sx_r]; exact h2 j hj
  · intro j hj; simp [sx_r]; exact h3 j hj
  · intro j hj; simp [sx_r]; exact h4 j hj
  · intro j hj; simp [sx_r]; exact h5 j hj
  · intro j hj
    by_cases e : j = st
    · subst e
      have q := h6 j hj
      have q2 : (σ 14 j - 1).toInt = (σ 14 j).toInt - (1 : Int32).toInt := fb_subI (by rw [oneI]; omega) (by rw [oneI]; omega)
      rw [oneI] at q2
      simp [sx_r, -Int32.toInt_sub]
      omega
    · have q := h6 j hj
      simp [sx_r, e]
      omega
theorem iq_unprom {σ : Sg} {b r : Nat} (h : IQ σ b) : IQ (sx σ 27 r (-1)) b := by
  obtain ⟨h1, h2, h3, h4, h5, h6⟩ := h
  refine ⟨?_, ?_, ?_, ?_, ?_, ?_⟩
  · intro j hj; simp [sx_r]; exact h1 j hj
  · intro j hj; simp [sx_r]; exact h2 j hj
  · intro j hj; simp [sx_r]; exact h3 j hj
  · intro j hj
    by_cases e : j = r
    · subst e; left; simp [sx_r]
    · simp [sx_r, e]; exact h4 j hj
  · intro j hj; simp [sx_r]; exact h5 j hj
  · intro j hj; simp [sx_r]; exact h6 j hj
