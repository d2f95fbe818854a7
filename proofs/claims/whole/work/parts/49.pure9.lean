theorem q_unprom {σ μ : Sg} {w : Int32} {r : Nat} (h : QQ σ μ w) (hr : r < 10) : QQ (sx σ 27 r (-1)) (sx μ 22 r (-1)) w := by
  obtain ⟨h1, h2, h3, h4, h5, h6, h7, h8, h9, h10, h11, h12, h13, h14, h15, h16, h17, h18, h19⟩ := h
  refine ⟨?_, ?_, ?_, ?_, ?_, ?_, ?_, ?_, ?_, ?_, ?_, ?_, ?_, ?_, ?_, ?_, ?_, ?_, ?_⟩
  · intro j hj; simp [sx_r, h1 j hj]
  · intro j hj; simp [sx_r, h2 j hj]
  · intro j hj; simp [sx_r, h3 j hj]
  · simp [sx_r, h4]
  · intro j hj; simp [sx_r, h5 j hj]
  · intro j hj; simp [sx_r, h6 j hj]
  · intro j hj; simp [sx_r, h7 j hj]
  · intro j hj; simp [sx_r, h8 j hj]
  · intro j hj; simp [sx_r]; exact h9 j hj
  · intro j hj; simp [sx_r]; exact h10 j hj
  · intro j hj; simp [sx_r]; exact h11 j hj
  · intro j hj; simp [sx_r, h12 j hj]
  · intro j hj; simp [sx_r, h13 j hj]
  · intro j hj; simp [sx_r, h14 j hj]
  · intro j hj; simp [sx_r, h15 j hj]
  · intro j hj; simp [sx_r, h16 j hj]
  · intro j hj; by_cases e : j = r <;> simp [sx_r, e]; exact h17 j hj
  · simp [sx_r, h18]
  · simp [sx_r, h19]
theorem q_same {σ μ : Sg} {w : Int32} {r : Nat} (h : QQ σ μ w) (hr : r < 10) : QQ σ (sx μ 22 r (μ 22 r)) w := by
  have e : sx μ 22 r (μ 22 r) = μ := by
    funext q j
    rw [sx_r]
    by_cases hq : q = 22
    · subst hq
      by_cases hj : j = r
      · subst hj; simp
      · simp [hj]
    · simp [hq]
  rw [e]; exact h
theorem q_nobite {σ μ : Sg} {w : Int32} {cy r : Nat} (h : QQ σ μ w) (hc : cy < 30) (hr : r < 10) (hst : σ 16 cy = 2) (x : Int32) : QQ (sx (sx σ 22 cy (σ 22 cy + 10)) 26 r (σ 26 r + x)) (sx (sx μ 16 cy (μ 16 cy + 10)) 20 r (μ 20 r + x)) w := by
  obtain ⟨h1, h2, h3, h4, h5, h6, h7, h8, h9, h10, h11, h12, h13, h14, h15, h16, h17, h18, h19⟩ := h
  have g11 := h11 cy hc hst
  refine ⟨?_, ?_, ?_, ?_, ?_, ?_, ?_, ?_, ?_, ?_, ?_, ?_, ?_, ?_, ?_, ?_, ?_, ?_, ?_⟩
  · intro j hj; simp [sx_r, h1 j hj]
  · intro j hj; simp [sx_r, h2 j hj]
  · intro j hj; simp [sx_r, h3 j hj]
  · simp [sx_r, h4]
  · intro j hj; simp [sx_r, h5 j hj]
  · intro j hj; simp [sx_r, h6 j hj]
  · intro j hj; simp [sx_r, h7 j hj]
  · intro j hj; simp [sx_r, h8 j hj]
  · intro j hj; simp [sx_r]; exact h9 j hj
  · intro j hj; simp [sx_r]; exact h10 j hj
  · intro j hj; by_cases e : j = cy <;> simp [sx_r, e, g11]; exact h11 j hj
  · intro j hj; simp [sx_r, h12 j hj]
  · intro j hj; simp [sx_r, h13 j hj]
  · intro j hj; simp [sx_r, h14 j hj]
  · intro j hj; simp [sx_r, h15 j hj, h15 r hr]
  · intro j hj; simp [sx_r, h16 j hj]
  · intro j hj; simp [sx_r]; exact h17 j hj
  · simp [sx_r, h18]
  · simp [sx_r, h19]
theorem q_nobite0 {σ μ : Sg} {w : Int32} {cy r : Nat} (h : QQ σ μ w) (hc : cy < 30) (hr : r < 10) (hst : σ 16 cy = 2) : QQ (sx σ 22 cy (σ 22 cy + 10)) (sx (sx μ 16 cy (μ 16 cy + 10)) 20 r (μ 20 r + 0)) w := by
  obtain ⟨h1, h2, h3, h4, h5, h6, h7, h8, h9, h10, h11, h12, h13, h14, h15, h16, h17, h18, h19⟩ := h
  have g11 := h11 cy hc hst
  refine ⟨?_, ?_, ?_, ?_, ?_, ?_, ?_, ?_, ?_, ?_, ?_, ?_, ?_, ?_, ?_, ?_, ?_, ?_, ?_⟩
  · intro j hj; simp [sx_r, h1 j hj]
  · intro j hj; simp [sx_r, h2 j hj]
  · intro j hj; simp [sx_r, h3 j hj]
  · simp [sx_r, h4]
  · intro j hj; simp [sx_r, h5 j hj]
  · intro j hj; simp [sx_r, h6 j hj]
  · intro j hj; simp [sx_r, h7 j hj]
  · intro j hj; simp [sx_r, h8 j hj]
  · intro j hj; simp [sx_r]; exact h9 j hj
  · intro j hj; simp [sx_r]; exact h10 j hj
  · intro j hj; by_cases e : j = cy <;> simp [sx_r, e, g11]; exact h11 j hj
  · intro j hj; simp [sx_r, h12 j hj]
  · intro j hj; simp [sx_r, h13 j hj]
  · intro j hj; simp [sx_r, h14 j hj]
  · intro j hj; by_cases e : j = r <;> simp [sx_r, e, h15 j hj, h15 r hr]
  · intro j hj; simp [sx_r, h16 j hj]
  · intro j hj; simp [sx_r]; exact h17 j hj
  · simp [sx_r, h18]
  · simp [sx_r, h19]
theorem q_lock {σ μ : Sg} {w mi : Int32} {b cy st : Nat} (h : QQ σ μ w) (hi : IQ σ b) (hb : b ≤ 1000) (hc : cy < 30) (hs : st < 8) : r_X5_beLocked σ (nI cy) (nI st) mi = r_X6_lock μ (nI cy) (nI st) mi ∧ QQ (s_X5_beLocked σ (nI cy) (nI st) mi) (s_X6_lock μ (nI cy) (nI st) mi) w := by
  have ec : (nI cy).toNatClampNeg = cy := nI_clamp (by omega)
  have e16 := h.2.2.2.2.1 cy hc
  have e17 := h.2.2.2.2.2.1 cy hc
  unfold r_X5_beLocked r_X6_lock s_X5_beLocked s_X6_lock
  rw [ec, e16]
  by_cases h2 : μ 11 cy = 2
  · simp only [if_pos h2]
    obtain ⟨r, hr, hh⟩ := hi.2.1 cy hc (e16.trans h2)
    have er : (nI r).toNatClampNeg = r := nI_clamp (by omega)
    have hst := e16.trans h2
    rw [← e17, hh, er, (q_free (s := st) h hi hb hs).1, q_promises (mi := mi) (lo := nI r) (s := st) h hi hs]
    have hp := q_prom (mi := mi) (r := r) (s := st) h hi hr hs
    have s1 : sx σ 27 r (-1) 16 cy = 2 := by simp [sx_r, hst]
    have s2 : sx σ 27 r (-1) 17 cy = nI r := by simp [sx_r, hh]
    by_cases hf : r_X6_free μ (nI st) ≤ r_X6_promises μ (nI st) (nI r) mi
    · simp only [if_pos hf]
      by_cases hq : r_X6_isPromised μ (nI r) (nI st) mi = 0
      · have hq2 : ¬ r_X2_promisedStation σ (nI r) mi = nI st := fun z => (hp.mp z) hq
        simp only [if_pos hq, if_neg hq2]
        refine ⟨trivial, ?_⟩
        have q := q_nobite0 (q_same h hr) hc hr hst
        have q1 : sx μ 22 r (μ 22 r) 16 cy = μ 16 cy := by simp [sx_r]
        have q2 : sx μ 22 r (μ 22 r) 20 r = μ 20 r := by simp [sx_r]
        rw [q1, q2] at q
        exact q
      · have hq2 := hp.mpr hq
        simp only [if_neg hq, if_pos hq2]
        refine ⟨trivial, ?_⟩
        have q := q_nobite (q_unprom h hr) hc hr s1 100
        have q1 : sx μ 22 r (-1) 16 cy = μ 16 cy := by simp [sx_r]
        have q2 : sx μ 22 r (-1) 20 r = μ 20 r := by simp [sx_r]
        have q3 : sx σ 27 r (-1) 22 cy = σ 22 cy := by simp [sx_r]
        have q4 : sx σ 27 r (-1) 26 r = σ 26 r := by simp [sx_r]
        rw [q1, q2, q3, q4] at q
        exact q
    · simp only [if_neg hf]
      by_cases hq : r_X6_isPromised μ (nI r) (nI st) mi = 0
      · have hq2 : ¬ r_X2_promisedStation σ (nI r) mi = nI st := fun z => (hp.mp z) hq
        simp only [if_pos hq, if_neg hq2]
        exact ⟨trivial, q_dock (q_ride (q_same h hr) hc hr hst hh) hc hs⟩
      · have hq2 := hp.mpr hq
        simp only [if_neg hq, if_pos hq2]
        exact ⟨trivial, q_dock (q_ride (q_unprom h hr) hc hr s1 s2) hc hs⟩
  · simp only [if_neg h2]; exact ⟨trivial, h⟩
