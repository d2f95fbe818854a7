/-- a ride begun, in the reference -/
def bM (μ : Sg) (cy r : Nat) (mi : Int32) : Sg := sx (sx (sx (sx (sx (sx μ 11 cy 2) 12 cy (nI r)) 14 cy mi) 15 cy (μ 0 26)) 16 cy 0) 18 r (μ 18 r + 1)
theorem q_begin {σ μ : Sg} {w mi : Int32} {cy r : Nat} (h : QQ σ μ w) (hc : cy < 30) (hr : r < 10) : QQ (s_X5_beginRide σ (nI cy) (nI r) mi) (bM μ cy r mi) w := by
  obtain ⟨h1, h2, h3, h4, h5, h6, h7, h8, h9, h10, h11, h12, h13, h14, h15, h16, h17, h18, h19⟩ := h
  have ec : (nI cy).toNatClampNeg = cy := nI_clamp (by omega)
  have er : (nI r).toNatClampNeg = r := nI_clamp (by omega)
  unfold s_X5_beginRide bM
  rw [ec, er]
  refine ⟨?_, ?_, ?_, ?_, ?_, ?_, ?_, ?_, ?_, ?_, ?_, ?_, ?_, ?_, ?_, ?_, ?_, ?_, ?_⟩
  · intro j hj; simp [sx_r, h1 j hj]
  · intro j hj; simp [sx_r, h2 j hj]
  · intro j hj; simp [sx_r, h3 j hj]
  · simp [sx_r, h4]
  · intro j hj; simp [sx_r, h5 j hj]
  · intro j hj; simp [sx_r, h6 j hj]
  · intro j hj; simp [sx_r, h7 j hj]
  · intro j hj; simp [sx_r, h8 j hj]
  · intro j hj; by_cases e : j = cy <;> simp [sx_r, e]; exact h9 j hj
  · intro j hj; by_cases e : j = cy <;> simp [sx_r, e, h18]; exact h10 j hj
  · intro j hj; by_cases e : j = cy <;> simp [sx_r, e]; exact h11 j hj
  · intro j hj; simp [sx_r, h12 j hj, h12 r hr]
  · intro j hj; simp [sx_r, h13 j hj]
  · intro j hj; simp [sx_r, h14 j hj]
  · intro j hj; simp [sx_r, h15 j hj]
  · intro j hj; simp [sx_r, h16 j hj]
  · intro j hj; simp [sx_r]; exact h17 j hj
  · simp [sx_r, h18]
  · simp [sx_r, h19]
theorem q_mend {σ μ : Sg} {w : Int32} {cy : Nat} (h : QQ σ μ w) (hc : cy < 30) : QQ (s_X5_beMended σ (nI cy)) (sx μ 13 cy (if μ 11 cy = 2 then μ 13 cy else 0)) w := by
  have ec : (nI cy).toNatClampNeg = cy := nI_clamp (by omega)
  obtain ⟨h1, h2, h3, h4, h5, h6, h7, h8, h9, h10, h11, h12, h13, h14, h15, h16, h17, h18, h19⟩ := h
  unfold s_X5_beMended
  rw [ec, h5 cy hc]
  by_cases h0 : μ 11 cy = 2
  · rw [if_pos h0, if_pos h0]
    refine ⟨?_, ?_, ?_, ?_, ?_, ?_, ?_, ?_, ?_, ?_, ?_, ?_, ?_, ?_, ?_, ?_, ?_, ?_, ?_⟩
    · intro j hj; simp [sx_r, h1 j hj]
    · intro j hj; simp [sx_r, h2 j hj]
    · intro j hj; simp [sx_r, h3 j hj]
    · simp [h4]
    · intro j hj; simp [sx_r, h5 j hj]
    · intro j hj; simp [sx_r, h6 j hj]
    · intro j hj; by_cases e : j = cy <;> simp [sx_r, e, h7 j hj, h7 cy hc]
    · intro j hj; simp [sx_r, h8 j hj]
    · intro j hj; simp [sx_r]; exact h9 j hj
    · intro j hj; simp [sx_r]; exact h10 j hj
    · intro j hj; simp [sx_r]; exact h11 j hj
    · intro j hj; simp [sx_r, h12 j hj]
    · intro j hj; simp [sx_r, h13 j hj]
    · intro j hj; simp [sx_r, h14 j hj]
    · intro j hj; simp [sx_r, h15 j hj]
    · intro j hj; simp [sx_r, h16 j hj]
    · intro j hj; simp [sx_r]; exact h17 j hj
    · simp [sx_r, h18]
    · simp [sx_r, h19]
  · rw [if_neg h0, if_neg h0]
    refine ⟨?_, ?_, ?_, ?_, ?_, ?_, ?_, ?_, ?_, ?_, ?_, ?_, ?_, ?_, ?_, ?_, ?_, ?_, ?_⟩
    · intro j hj; simp [sx_r, h1 j hj]
    · intro j hj; simp [sx_r, h2 j hj]
    · intro j hj; simp [sx_r, h3 j hj]
    · simp [sx_r, h4]
    · intro j hj; simp [sx_r, h5 j hj]
    · intro j hj; simp [sx_r, h6 j hj]
    · intro j hj; simp [sx_r, h7 j hj]
    · intro j hj; simp [sx_r, h8 j hj]
    · intro j hj; simp [sx_r]; exact h9 j hj
    · intro j hj; simp [sx_r]; exact h10 j hj
    · intro j hj; simp [sx_r]; exact h11 j hj
    · intro j hj; simp [sx_r, h12 j hj]
    · intro j hj; simp [sx_r, h13 j hj]
    · intro j hj; simp [sx_r, h14 j hj]
    · intro j hj; simp [sx_r, h15 j hj]
    · intro j hj; simp [sx_r, h16 j hj]
    · intro j hj; simp [sx_r]; exact h17 j hj
    · simp [sx_r, h18]
    · simp [sx_r, h19]
