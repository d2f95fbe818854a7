/-- the minutes in which a station was empty -/
theorem q_minute {σ μ : Sg} {w m : Int32} (h : QQ σ μ w) : QQ (s_X3_countEmptyUntil σ m) (s_X6_stand μ w m) m := by
  obtain ⟨h1, h2, h3, h4, h5, h6, h7, h8, h9, h10, h11, h12, h13, h14, h15, h16, h17, h18, h19⟩ := h
  have a : ∀ q j, s_X3_countEmptyUntil σ m q j = if q = 3 then (if j = 3 then m else σ q j) else if q = 15 ∧ j < 8 then (if σ 14 j = 0 then (σ 15 j + m) - σ 3 3 else σ 15 j) else σ q j := by
    intro q j
    unfold s_X3_countEmptyUntil
    rw [sx_r, ceu_loop m σ 8 (Nat.le_refl _)]
    by_cases hq : q = 3
    · subst hq; simp
    · simp [hq]
  have c : ∀ q j, s_X6_stand μ w m q j = if q = 10 ∧ j < 8 then (if μ 9 j = 0 then μ 10 j + (m - w) else μ 10 j + 0) else μ q j := by
    intro q j
    unfold s_X6_stand
    exact stand_loop w m μ 8 (Nat.le_refl _) q j
  refine ⟨?_, ?_, ?_, ?_, ?_, ?_, ?_, ?_, ?_, ?_, ?_, ?_, ?_, ?_, ?_, ?_, ?_, ?_, ?_⟩
  · intro j hj; simp [a, c, h1 j hj]
  · intro j hj; simp [a, c, h2 j hj]
  · intro j hj
    rw [a, c]
    have e : ∀ x : Int32, (x + m) - w = x + (m - w) := by intro x; rw [Int32.sub_eq_add_neg, Int32.sub_eq_add_neg, Int32.add_assoc]
    simp [hj, h2 j hj, h3 j hj, h4, e]
  · simp [a]
  · intro j hj; simp [a, c, h5 j hj]
  · intro j hj; simp [a, c, h6 j hj]
  · intro j hj; simp [a, c, h7 j hj]
  · intro j hj; simp [a, c, h8 j hj]
  · intro j hj; simp [a, c]; exact h9 j hj
  · intro j hj; simp [a, c]; exact h10 j hj
  · intro j hj; simp [a, c]; exact h11 j hj
  · intro j hj; simp [a, c, h12 j hj]
  · intro j hj; simp [a, c, h13 j hj]
  · intro j hj; simp [a, c, h14 j hj]
  · intro j hj; simp [a, c, h15 j hj]
  · intro j hj; simp [a, c, h16 j hj]
  · intro j hj; simp [a, c]; exact h17 j hj
  · simp [a, c, h18]
  · simp [a, c, h19]
