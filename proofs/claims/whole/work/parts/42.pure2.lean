theorem i_nle {x y : Int32} : ¬ x ≤ y ↔ y < x := by rw [Int32.not_le]
theorem q_ride {σ μ : Sg} {w mi : Int32} (h : QQ σ μ w) {cy r : Nat} (hc : cy < 30) (hr : r < 10) (hst : σ 16 cy = 2) (hh : σ 17 cy = nI r) : QQ (s_X5_endRide σ (nI cy) mi) (s_X6_ride μ (nI cy) mi) w := by
  obtain ⟨h1, h2, h3, h4, h5, h6, h7, h8, h9, h10, h11, h12, h13, h14, h15, h16, h17, h18, h19⟩ := h
  have ec : (nI cy).toNatClampNeg = cy := nI_clamp (by omega)
  have er : (nI r).toNatClampNeg = r := nI_clamp (by omega)
  have hm : μ 12 cy = nI r := by rw [← h6 cy hc]; exact hh
  have g9 := h9 cy hc hst
  have g10 := h10 cy hc hst
  have g11 := h11 cy hc hst
  unfold s_X5_endRide s_X6_ride r_X0_minutesGoingOn r_X0_rideCost
  rw [ec, hh, hm, er, if_pos hst]
  have e21 : ∀ (x y : Int32), sx (sx σ 19 cy x) 24 r y 21 cy = μ 15 cy := by intro x y; simp [sx_r, g10]
  have e22 : ∀ (x y : Int32), sx (sx σ 19 cy x) 24 r y 22 cy = μ 16 cy := by intro x y; simp [sx_r, g11]
  rw [g9]
  by_cases hd : ((mi - μ 14 cy) - 30) - μ 16 cy ≤ 0
  · rw [if_pos hd]
    have hd2 : ¬ (0 : Int32) < ((mi - μ 14 cy) - 30) - μ 16 cy := fun q => (i_nle.mpr q) hd
    refine ⟨?_, ?_, ?_, ?_, ?_, ?_, ?_, ?_, ?_, ?_, ?_, ?_, ?_, ?_, ?_, ?_, ?_, ?_, ?_⟩
    · intro j hj; simp [sx_r, h1 j hj]
    · intro j hj; simp [sx_r, h2 j hj]
    · intro j hj; simp [sx_r, h3 j hj]
    · simp [sx_r, h4]
    · intro j hj; simp [sx_r, h5 j hj]
    · intro j hj; simp [sx_r, h6 j hj]
    · intro j hj; simp [sx_r, h7 j hj]
    · intro j hj; simp [sx_r, h8 j hj, h8 cy hc]
    · intro j hj; simp [sx_r]; exact h9 j hj
    · intro j hj; simp [sx_r]; exact h10 j hj
    · intro j hj; simp [sx_r]; exact h11 j hj
    · intro j hj; simp [sx_r, h12 j hj]
    · intro j hj; simp [sx_r, h13 j hj, h13 r hr]
    · intro j hj; simp [sx_r, h14 j hj, h14 r hr, g10, g11, hd2]
    · intro j hj; simp [sx_r, h15 j hj]
    · intro j hj; simp [sx_r, h16 j hj]
    · intro j hj; simp [sx_r]; exact h17 j hj
    · simp [sx_r, h18]
    · simp [sx_r, h19]
  · rw [if_neg hd]
    have hd2 : (0 : Int32) < ((mi - μ 14 cy) - 30) - μ 16 cy := i_nle.mp hd
    refine ⟨?_, ?_, ?_, ?_, ?_, ?_, ?_, ?_, ?_, ?_, ?_, ?_, ?_, ?_, ?_, ?_, ?_, ?_, ?_⟩
    · intro j hj; simp [sx_r, h1 j hj]
    · intro j hj; simp [sx_r, h2 j hj]
    · intro j hj; simp [sx_r, h3 j hj]
    · simp [sx_r, h4]
    · intro j hj; simp [sx_r, h5 j hj]
    · intro j hj; simp [sx_r, h6 j hj]
    · intro j hj; simp [sx_r, h7 j hj]
    · intro j hj; simp [sx_r, h8 j hj, h8 cy hc]
    · intro j hj; simp [sx_r]; exact h9 j hj
    · intro j hj; simp [sx_r]; exact h10 j hj
    · intro j hj; simp [sx_r]; exact h11 j hj
    · intro j hj; simp [sx_r, h12 j hj]
    · intro j hj; simp [sx_r, h13 j hj, h13 r hr]
    · intro j hj; simp [sx_r, h14 j hj, h14 r hr, g10, g11, hd2, Int32.mul_comm]
    · intro j hj; simp [sx_r, h15 j hj]
    · intro j hj; simp [sx_r, h16 j hj]
    · intro j hj; simp [sx_r]; exact h17 j hj
    · simp [sx_r, h18]
    · simp [sx_r, h19]
