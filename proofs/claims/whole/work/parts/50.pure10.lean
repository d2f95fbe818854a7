theorem iq_up {σ : Sg} {b c : Nat} (h : IQ σ b) (hbc : b ≤ c) : IQ σ c := ⟨h.1, h.2.1, h.2.2.1, h.2.2.2.1, h.2.2.2.2.1, fun s hs => by have q := h.2.2.2.2.2 s hs; exact ⟨by omega, by omega⟩⟩
theorem oneI : (1 : Int32).toInt = 1 := by decide
theorem iq_dock {σ : Sg} {b cy st : Nat} (h : IQ σ b) (hb : b ≤ 1000) (hc : cy < 30) (hs : st < 8) : IQ (s_X5_dock σ (nI cy) (nI st)) (b + 1) := by
  obtain ⟨h1, h2, h3, h4, h5, h6⟩ := h
  have ec : (nI cy).toNatClampNeg = cy := nI_clamp (by omega)
  have es : (nI st).toNatClampNeg = st := nI_clamp (by omega)
  unfold s_X5_dock
  rw [ec, es]
  refine ⟨?_, ?_, ?_, ?_, ?_, ?_⟩
  · intro j hj
    by_cases e : j = cy
    · subst e; simp [sx_r]; exact ⟨st, hs, rfl⟩
    · simp [sx_r, e]; exact h1 j hj
  · intro j hj
    by_cases e : j = cy
    · subst e; simp [sx_r]
    · simp [sx_r, e]; exact h2 j hj
  · intro j hj; simp [sx_r]; exact h3 j hj
  · intro j hj; simp [sx_r]; exact h4 j hj
  · intro j hj; simp [sx_r]; exact h5 j hj
  · intro j hj
    by_cases e : j = st
    · subst e
      have q := h6 j hj
      have q2 : (σ 14 j + 1).toInt = (σ 14 j).toInt + (1 : Int32).toInt := fb_addI (by rw [oneI]; omega) (by rw [oneI]; omega)
      rw [oneI] at q2
      simp [sx_r, -Int32.toInt_add]
      omega
    · have q := h6 j hj
      simp [sx_r, e]
      omega
