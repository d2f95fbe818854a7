theorem iq_minute {σ : Sg} {b : Nat} (m : Int32) (h : IQ σ b) : IQ (s_X3_countEmptyUntil σ m) b := by
  have a : ∀ q j, ¬ q = 3 → ¬ q = 15 → s_X3_countEmptyUntil σ m q j = σ q j := by
    intro q j h3 h15
    unfold s_X3_countEmptyUntil
    rw [sx_r, ceu_loop m σ 8 (Nat.le_refl _)]
    simp [h3, h15]
  obtain ⟨h1, h2, h3, h4, h5, h6⟩ := h
  refine ⟨?_, ?_, ?_, ?_, ?_, ?_⟩
  · intro j hj; rw [a 16 j (by decide) (by decide), a 17 j (by decide) (by decide)]; exact h1 j hj
  · intro j hj; rw [a 16 j (by decide) (by decide), a 17 j (by decide) (by decide)]; exact h2 j hj
  · intro j hj; rw [a 18 j (by decide) (by decide)]; exact h3 j hj
  · intro j hj; rw [a 27 j (by decide) (by decide)]; exact h4 j hj
  · intro j hj; rw [a 13 j (by decide) (by decide)]; exact h5 j hj
  · intro j hj; rw [a 14 j (by decide) (by decide)]; exact h6 j hj
theorem iq_mend {σ : Sg} {b cy : Nat} (h : IQ σ b) (hc : cy < 30) : IQ (s_X5_beMended σ (nI cy)) b := by
  have ec : (nI cy).toNatClampNeg = cy := nI_clamp (by omega)
  unfold s_X5_beMended
  rw [ec]
  split
  · exact h
  · obtain ⟨h1, h2, h3, h4, h5, h6⟩ := h
    refine ⟨?_, ?_, ?_, ?_, ?_, ?_⟩
    · intro j hj; simp [sx_r]; exact h1 j hj
    · intro j hj; simp [sx_r]; exact h2 j hj
    · intro j hj
      by_cases e : j = cy
      · subst e; exact ⟨0, by omega, by simp [sx_r, nI_0]⟩
      · simp [sx_r, e]; exact h3 j hj
    · intro j hj; simp [sx_r]; exact h4 j hj
    · intro j hj; simp [sx_r]; exact h5 j hj
    · intro j hj; simp [sx_r]; exact h6 j hj
theorem iq_docks {σ : Sg} {b s p : Nat} (h : IQ σ b) (hp : p ≤ 20) : IQ (sx σ 13 s (nI p)) b := by
  obtain ⟨h1, h2, h3, h4, h5, h6⟩ := h
  refine ⟨?_, ?_, ?_, ?_, ?_, ?_⟩
  · intro j hj; simp [sx_r]; exact h1 j hj
  · intro j hj; simp [sx_r]; exact h2 j hj
  · intro j hj; simp [sx_r]; exact h3 j hj
  · intro j hj; simp [sx_r]; exact h4 j hj
  · intro j hj
    by_cases e : j = s
    · subst e; exact ⟨p, hp, by simp [sx_r]⟩
    · simp [sx_r, e]; exact h5 j hj
  · intro j hj; simp [sx_r]; exact h6 j hj
