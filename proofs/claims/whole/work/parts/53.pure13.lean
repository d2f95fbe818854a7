theorem iq_nb {σ : Sg} {b cy r : Nat} (h : IQ σ b) (x y : Int32) : IQ (sx σ 22 cy x) b ∧ IQ (sx (sx σ 22 cy x) 26 r y) b := by
  obtain ⟨h1, h2, h3, h4, h5, h6⟩ := h
  refine ⟨⟨?_, ?_, ?_, ?_, ?_, ?_⟩, ⟨?_, ?_, ?_, ?_, ?_, ?_⟩⟩
  · intro j hj; simp [sx_r]; exact h1 j hj
  · intro j hj; simp [sx_r]; exact h2 j hj
  · intro j hj; simp [sx_r]; exact h3 j hj
  · intro j hj; simp [sx_r]; exact h4 j hj
  · intro j hj; simp [sx_r]; exact h5 j hj
  · intro j hj; simp [sx_r]; exact h6 j hj
  · intro j hj; simp [sx_r]; exact h1 j hj
  · intro j hj; simp [sx_r]; exact h2 j hj
  · intro j hj; simp [sx_r]; exact h3 j hj
  · intro j hj; simp [sx_r]; exact h4 j hj
  · intro j hj; simp [sx_r]; exact h5 j hj
  · intro j hj; simp [sx_r]; exact h6 j hj
theorem iq_lock {σ : Sg} {b cy st : Nat} {mi : Int32} (h : IQ σ b) (hb : b ≤ 1000) (hc : cy < 30) (hs : st < 8) : IQ (s_X5_beLocked σ (nI cy) (nI st) mi) (b + 1) := by
  unfold s_X5_beLocked
  split
  · split
    · split
      · exact iq_up (iq_nb (iq_unprom h) _ _).2 (by omega)
      · exact iq_up (iq_nb (r := 0) h _ 0).1 (by omega)
    · split
      · exact iq_dock (iq_ride (iq_unprom h) hc) hb hc hs
      · exact iq_dock (iq_ride h hc) hb hc hs
  · exact iq_up h (by omega)
theorem iq_promise {σ : Sg} {b r st : Nat} {mi : Int32} (h : IQ σ b) (hr : r < 10) (hs : st < 8) : IQ (s_X5_bePromised σ (nI r) (nI st) mi) b := by
  have er : (nI r).toNatClampNeg = r := nI_clamp (by omega)
  unfold s_X5_bePromised
  rw [er]
  split
  · obtain ⟨h1, h2, h3, h4, h5, h6⟩ := h
    refine ⟨?_, ?_, ?_, ?_, ?_, ?_⟩
    · intro j hj; simp [sx_r]; exact h1 j hj
    · intro j hj; simp [sx_r]; exact h2 j hj
    · intro j hj; simp [sx_r]; exact h3 j hj
    · intro j hj
      by_cases e : j = r
      · subst e; right; exact ⟨st, hs, by simp [sx_r]⟩
      · simp [sx_r, e]; exact h4 j hj
    · intro j hj; simp [sx_r]; exact h5 j hj
    · intro j hj; simp [sx_r]; exact h6 j hj
  · exact h
