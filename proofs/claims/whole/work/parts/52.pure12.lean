theorem iq_put {σ : Sg} {b cy st : Nat} (h : IQ σ b) (hb : b ≤ 1000) (hc : cy < 30) (hs : st < 8) : IQ (s_X5_bePut σ (nI cy) (nI st)) (b + 1) := by
  unfold s_X5_bePut
  repeat' split
  all_goals first | exact iq_up h (by omega) | exact iq_dock h hb hc hs
theorem iq_take {σ : Sg} {b cy : Nat} (h : IQ σ b) (hb : b ≤ 1000) (hc : cy < 30) : IQ (s_X5_beTaken σ (nI cy)) (b + 1) := by
  have ec : (nI cy).toNatClampNeg = cy := nI_clamp (by omega)
  unfold s_X5_beTaken
  rw [ec]
  by_cases h0 : σ 16 cy = 1
  · rw [if_pos h0]
    obtain ⟨s, hs, hh⟩ := h.1 cy hc h0
    have es : (nI s).toNatClampNeg = s := nI_clamp (by omega)
    rw [hh, es]
    have hd := iq_dec h hb hs
    obtain ⟨h1, h2, h3, h4, h5, h6⟩ := hd
    refine ⟨?_, ?_, ?_, ?_, ?_, ?_⟩
    · intro j hj
      by_cases e : j = cy
      · subst e; simp [sx_r]
      · have q := h1 j hj; simp [sx_r] at q; simp [sx_r, e]; exact q
    · intro j hj
      by_cases e : j = cy
      · subst e; simp [sx_r]
      · have q := h2 j hj; simp [sx_r] at q; simp [sx_r, e]; exact q
    · intro j hj; have q := h3 j hj; simp [sx_r] at q; simp [sx_r]; exact q
    · intro j hj; have q := h4 j hj; simp [sx_r] at q; simp [sx_r]; exact q
    · intro j hj; have q := h5 j hj; simp [sx_r] at q; simp [sx_r]; exact q
    · intro j hj
      have q := h6 j hj
      have e9 : sx (sx (sx σ 14 s (σ 14 s - 1)) 16 cy 3) 17 cy (-1) 14 j = sx σ 14 s (σ 14 s - 1) 14 j := by simp [sx_r]
      rw [e9]; exact q
  · rw [if_neg h0]; exact iq_up h (by omega)
theorem iq_unlock {σ : Sg} {b cy r : Nat} {mi : Int32} (h : IQ σ b) (hb : b ≤ 1000) (hc : cy < 30) (hr : r < 10) : IQ (s_X5_beUnlocked σ (nI cy) (nI r) mi) (b + 1) := by
  have ec : (nI cy).toNatClampNeg = cy := nI_clamp (by omega)
  unfold s_X5_beUnlocked
  rw [ec]
  by_cases h0 : σ 16 cy = 1
  · obtain ⟨s, hs, hh⟩ := h.1 cy hc h0
    have es : (nI s).toNatClampNeg = s := nI_clamp (by omega)
    rw [if_pos h0, hh, es]
    repeat' split
    all_goals first | exact iq_up h (by omega) | exact iq_begin (iq_dec h hb hs) hc hr | exact iq_up (iq_begin (iq_ride h hc) hc hr) (by omega)
  · rw [if_neg h0]
    repeat' split
    all_goals first | exact iq_up h (by omega) | exact iq_up (iq_begin (iq_ride h hc) hc hr) (by omega)
