theorem q_fault {σ μ : Sg} {w : Int32} {cy r : Nat} (h : QQ σ μ w) (hc : cy < 30) : QQ (s_X0_addFault σ (nI cy) (nI r)) (sx μ 13 cy (μ 13 cy ||| (1 <<< ((nI r) &&& 31)))) w := by
  obtain ⟨h1, h2, h3, h4, h5, h6, h7, h8, h9, h10, h11, h12, h13, h14, h15, h16, h17, h18, h19⟩ := h
  have ec : (nI cy).toNatClampNeg = cy := nI_clamp (by omega)
  unfold s_X0_addFault
  rw [ec]
  refine ⟨?_, ?_, ?_, ?_, ?_, ?_, ?_, ?_, ?_, ?_, ?_, ?_, ?_, ?_, ?_, ?_, ?_, ?_, ?_⟩
  · intro j hj; simp [sx_r, h1 j hj]
  · intro j hj; simp [sx_r, h2 j hj]
  · intro j hj; simp [sx_r, h3 j hj]
  · simp [sx_r, h4]
  · intro j hj; simp [sx_r, h5 j hj]
  · intro j hj; simp [sx_r, h6 j hj]
  · intro j hj; simp [sx_r, h7 j hj, h7 cy hc]
  · intro j hj; simp [sx_r, h8 j hj]
  · intro j hj; simp [sx_r]; exact h9 j hj
  · intro j hj; simp [sx_r]; exact h10 j hj
  · intro j hj; simp [sx_r]; exact h11 j hj
  · intro j hj; simp [sx_r, h12 j hj]
  · intro j hj; simp [sx_r, h13 j hj]
  · intro j hj; simp [sx_r, h14 j hj]
  · intro j hj; simp [sx_r, h15 j hj]
  · intro j hj; simp [sx_r, h16 j hj]
  · intro j hj; simp [sx_r]; exact h17 j hj
  · simp [sx_r, h18]
  · simp [sx_r, h19]
theorem q_docks {σ μ : Sg} {w : Int32} {s : Nat} (h : QQ σ μ w) (v : Int32) : QQ (sx σ 13 s v) (sx μ 8 s v) w := by
  obtain ⟨h1, h2, h3, h4, h5, h6, h7, h8, h9, h10, h11, h12, h13, h14, h15, h16, h17, h18, h19⟩ := h
  refine ⟨?_, ?_, ?_, ?_, ?_, ?_, ?_, ?_, ?_, ?_, ?_, ?_, ?_, ?_, ?_, ?_, ?_, ?_, ?_⟩
  · intro j hj; simp [sx_r, h1 j hj]
  · intro j hj; simp [sx_r, h2 j hj]
  · intro j hj; simp [sx_r, h3 j hj]
  · simp [sx_r, h4]
  · intro j hj; simp [sx_r, h5 j hj]
  · intro j hj; simp [sx_r, h6 j hj]
  · intro j hj; simp [sx_r, h7 j hj]
  · intro j hj; simp [sx_r, h8 j hj]
  · intro j hj; simp [sx_r]; exact h9 j hj
  · intro j hj; simp [sx_r]; exact h10 j hj
  · intro j hj; simp [sx_r]; exact h11 j hj
  · intro j hj; simp [sx_r, h12 j hj]
  · intro j hj; simp [sx_r, h13 j hj]
  · intro j hj; simp [sx_r, h14 j hj]
  · intro j hj; simp [sx_r, h15 j hj]
  · intro j hj; simp [sx_r, h16 j hj]
  · intro j hj; simp [sx_r]; exact h17 j hj
  · simp [sx_r, h18]
  · simp [sx_r, h19]
theorem q_price {σ μ : Sg} {w : Int32} (h : QQ σ μ w) (v : Int32) : QQ (sx σ 0 8 v) (sx μ 0 26 v) w := by
  obtain ⟨h1, h2, h3, h4, h5, h6, h7, h8, h9, h10, h11, h12, h13, h14, h15, h16, h17, h18, h19⟩ := h
  refine ⟨?_, ?_, ?_, ?_, ?_, ?_, ?_, ?_, ?_, ?_, ?_, ?_, ?_, ?_, ?_, ?_, ?_, ?_, ?_⟩
  · intro j hj; simp [sx_r, h1 j hj]
  · intro j hj; simp [sx_r, h2 j hj]
  · intro j hj; simp [sx_r, h3 j hj]
  · simp [sx_r, h4]
  · intro j hj; simp [sx_r, h5 j hj]
  · intro j hj; simp [sx_r, h6 j hj]
  · intro j hj; simp [sx_r, h7 j hj]
  · intro j hj; simp [sx_r, h8 j hj]
  · intro j hj; simp [sx_r]; exact h9 j hj
  · intro j hj; simp [sx_r]; exact h10 j hj
  · intro j hj; simp [sx_r]; exact h11 j hj
  · intro j hj; simp [sx_r, h12 j hj]
  · intro j hj; simp [sx_r, h13 j hj]
  · intro j hj; simp [sx_r, h14 j hj]
  · intro j hj; simp [sx_r, h15 j hj]
  · intro j hj; simp [sx_r, h16 j hj]
  · intro j hj; simp [sx_r]; exact h17 j hj
  · simp [sx_r, h18]
  · simp [sx_r, h19]
theorem q_odd {σ μ : Sg} {w : Int32} (h : QQ σ μ w) : QQ (sx σ 0 7 (σ 0 7 + 1)) (sx μ 0 27 (μ 0 27 + 1)) w := by
  obtain ⟨h1, h2, h3, h4, h5, h6, h7, h8, h9, h10, h11, h12, h13, h14, h15, h16, h17, h18, h19⟩ := h
  refine ⟨?_, ?_, ?_, ?_, ?_, ?_, ?_, ?_, ?_, ?_, ?_, ?_, ?_, ?_, ?_, ?_, ?_, ?_, ?_⟩
  · intro j hj; simp [sx_r, h1 j hj]
  · intro j hj; simp [sx_r, h2 j hj]
  · intro j hj; simp [sx_r, h3 j hj]
  · simp [sx_r, h4]
  · intro j hj; simp [sx_r, h5 j hj]
  · intro j hj; simp [sx_r, h6 j hj]
  · intro j hj; simp [sx_r, h7 j hj]
  · intro j hj; simp [sx_r, h8 j hj]
  · intro j hj; simp [sx_r]; exact h9 j hj
  · intro j hj; simp [sx_r]; exact h10 j hj
  · intro j hj; simp [sx_r]; exact h11 j hj
  · intro j hj; simp [sx_r, h12 j hj]
  · intro j hj; simp [sx_r, h13 j hj]
  · intro j hj; simp [sx_r, h14 j hj]
  · intro j hj; simp [sx_r, h15 j hj]
  · intro j hj; simp [sx_r, h16 j hj]
  · intro j hj; simp [sx_r]; exact h17 j hj
  · simp [sx_r, h18]
  · simp [sx_r, h19]
