theorem q_promises {σ μ : Sg} {w mi lo : Int32} {b s : Nat} (h : QQ σ μ w) (hi : IQ σ b) (hs : s < 8) : r_X2_promisesAt σ (nI s) lo mi = r_X6_promises μ (nI s) lo mi := by
  unfold r_X2_promisesAt r_X6_promises
  have key : ∀ n, n ≤ 10 → itn (st_X2_promisesAt_6 σ (nI s) lo mi) n 0 = itn (st_X6_promises_6 μ (nI s) lo mi) n 0 := by
    intro n
    induction n with
    | zero => intro _; rfl
    | succ n ih =>
      intro hn
      show st_X2_promisesAt_6 σ (nI s) lo mi n (itn (st_X2_promisesAt_6 σ (nI s) lo mi) n 0) = st_X6_promises_6 μ (nI s) lo mi n (itn (st_X6_promises_6 μ (nI s) lo mi) n 0)
      rw [ih (by omega)]
      have hp := q_prom (mi := mi) (r := n) (s := s) h hi (by omega) hs
      unfold st_X2_promisesAt_6 st_X6_promises_6
      by_cases hl : nI n = lo
      · rw [if_pos hl, if_pos hl]; simp
      · rw [if_neg hl, if_neg hl]
        by_cases hq : r_X6_isPromised μ (nI n) (nI s) mi = 0
        · rw [if_pos hq, if_neg (fun q => (hp.mp q) hq)]; simp
        · rw [if_neg hq, if_pos (hp.mpr hq)]
  exact key 10 (Nat.le_refl _)
theorem q_put {σ μ : Sg} {w : Int32} {b cy st : Nat} (h : QQ σ μ w) (hi : IQ σ b) (hb : b ≤ 1000) (hc : cy < 30) (hs : st < 8) : r_X5_bePut σ (nI cy) (nI st) = r_X6_putCycle μ (nI cy) (nI st) ∧ QQ (s_X5_bePut σ (nI cy) (nI st)) (s_X6_putCycle μ (nI cy) (nI st)) w := by
  have ec : (nI cy).toNatClampNeg = cy := nI_clamp (by omega)
  have e1 := h.2.2.2.2.1 cy hc
  have hf := q_free (s := st) h hi hb hs
  have hd := q_dock h hc hs
  have hz : (r_X6_free μ (nI st) = 0) ↔ r_X6_free μ (nI st) ≤ 0 := ⟨fun q => by rw [q]; decide, fun q => Int32.le_antisymm q hf.2⟩
  unfold r_X5_bePut r_X6_putCycle s_X5_bePut s_X6_putCycle
  rw [ec, e1, hf.1]
  by_cases h0 : μ 11 cy = 0
  · simp only [if_pos h0]
    by_cases h1 : r_X6_free μ (nI st) ≤ 0
    · simp only [if_pos h1, if_pos (hz.mpr h1)]; exact ⟨trivial, h⟩
    · have h2 : ¬ r_X6_free μ (nI st) = 0 := fun q => h1 (hz.mp q)
      simp only [if_neg h1, if_neg h2]; exact ⟨trivial, hd⟩
  · simp only [if_neg h0]
    by_cases h3 : μ 11 cy = 3
    · simp only [if_pos h3]
      by_cases h1 : r_X6_free μ (nI st) ≤ 0
      · simp only [if_pos h1, if_pos (hz.mpr h1)]; exact ⟨trivial, h⟩
      · have h2 : ¬ r_X6_free μ (nI st) = 0 := fun q => h1 (hz.mp q)
        simp only [if_neg h1, if_neg h2]; exact ⟨trivial, hd⟩
    · simp only [if_neg h3]; exact ⟨trivial, h⟩
