theorem iq_scalar {σ : Sg} {b j0 : Nat} (h : IQ σ b) (x : Int32) : IQ (sx σ 0 j0 x) b := by
  obtain ⟨h1, h2, h3, h4, h5, h6⟩ := h
  refine ⟨?_, ?_, ?_, ?_, ?_, ?_⟩
  · intro j hj; simp [sx_r]; exact h1 j hj
  · intro j hj; simp [sx_r]; exact h2 j hj
  · intro j hj; simp [sx_r]; exact h3 j hj
  · intro j hj; simp [sx_r]; exact h4 j hj
  · intro j hj; simp [sx_r]; exact h5 j hj
  · intro j hj; simp [sx_r]; exact h6 j hj
theorem hX_of {σ : Sg} {b : Nat} (h : IQ σ b) : hX σ := by
  refine ⟨fun cy hc h1 => ?_, fun cy hc h1 => ?_⟩
  · obtain ⟨j, hj, rfl⟩ := vp_in_of hc (by decide)
    rw [nI_clamp (by omega)] at h1 ⊢
    obtain ⟨s, hs, e⟩ := h.1 j hj h1
    rw [e]; exact vp_in_nI hs (by decide)
  · obtain ⟨j, hj, rfl⟩ := vp_in_of hc (by decide)
    rw [nI_clamp (by omega)] at h1 ⊢
    obtain ⟨s, hs, e⟩ := h.2.1 j hj h1
    rw [e]; exact vp_in_nI hs (by decide)
theorem hM_of {σ μ : Sg} {w : Int32} {b : Nat} (hq : QQ σ μ w) (h : IQ σ b) : hM μ := by
  refine ⟨fun cy hc h1 => ?_, fun cy hc h1 => ?_⟩
  · obtain ⟨j, hj, rfl⟩ := vp_in_of hc (by decide)
    rw [nI_clamp (by omega)] at h1 ⊢
    rw [← hq.2.2.2.2.1 j hj] at h1
    obtain ⟨s, hs, e⟩ := h.1 j hj h1
    rw [← hq.2.2.2.2.2.1 j hj, e]; exact vp_in_nI hs (by decide)
  · obtain ⟨j, hj, rfl⟩ := vp_in_of hc (by decide)
    rw [nI_clamp (by omega)] at h1 ⊢
    rw [← hq.2.2.2.2.1 j hj] at h1
    obtain ⟨s, hs, e⟩ := h.2.1 j hj h1
    rw [← hq.2.2.2.2.2.1 j hj, e]; exact vp_in_nI hs (by decide)
