theorem fb_rng (x : Int32) : -2147483648 ≤ x.toInt ∧ x.toInt < 2147483648 := by
  have h1 := Int32.le_toInt x
  have h2 := Int32.toInt_lt x
  omega
theorem fb_bmod {z : Int} (h1 : -2147483648 ≤ z) (h2 : z < 2147483648) : z.bmod (2 ^ 32) = z := by
  rw [Int.bmod_eq_of_le (by omega) (by omega)]
theorem fb_addI {x y : Int32} (h1 : -2147483648 ≤ x.toInt + y.toInt) (h2 : x.toInt + y.toInt < 2147483648) : (x + y).toInt = x.toInt + y.toInt := by
  rw [Int32.toInt_add, fb_bmod h1 h2]
theorem fb_subI {x y : Int32} (h1 : -2147483648 ≤ x.toInt - y.toInt) (h2 : x.toInt - y.toInt < 2147483648) : (x - y).toInt = x.toInt - y.toInt := by
  rw [Int32.toInt_sub, fb_bmod h1 h2]
/-- what holds of the class's contents behind at most b things -/
def IQ (σ : Sg) (b : Nat) : Prop :=
  (∀ j, j < 30 → σ 16 j = 1 → ∃ s, s < 8 ∧ σ 17 j = nI s) ∧ (∀ j, j < 30 → σ 16 j = 2 → ∃ r, r < 10 ∧ σ 17 j = nI r) ∧
  (∀ j, j < 30 → ∃ m, m < 1024 ∧ σ 18 j = nI m) ∧ (∀ r, r < 10 → σ 27 r = -1 ∨ ∃ s, s < 8 ∧ σ 27 r = nI s) ∧
  (∀ s, s < 8 → ∃ p, p ≤ 20 ∧ σ 13 s = nI p) ∧ (∀ s, s < 8 → -(b : Int) ≤ (σ 14 s).toInt ∧ (σ 14 s).toInt ≤ b)
theorem zI : (0 : Int32).toInt = 0 := by decide
/-- free places: the class's word and the reference's -/
theorem q_free {σ μ : Sg} {w : Int32} {b s : Nat} (h : QQ σ μ w) (hi : IQ σ b) (hb : b ≤ 1000) (hs : s < 8) : r_X3_freePlaces σ (nI s) = r_X6_free μ (nI s) ∧ (0 : Int32) ≤ r_X6_free μ (nI s) := by
  have es : (nI s).toNatClampNeg = s := nI_clamp (by omega)
  obtain ⟨p, hp, ep⟩ := hi.2.2.2.2.1 s hs
  have hd := hi.2.2.2.2.2 s hs
  have e1 := h.1 s hs
  have e2 := h.2.1 s hs
  unfold r_X3_freePlaces r_X6_free
  rw [es, ← e1, ← e2]
  have hpi : (σ 13 s).toInt = p := by rw [ep]; exact nI_toInt (by omega)
  have hsub : (σ 13 s - σ 14 s).toInt = (σ 13 s).toInt - (σ 14 s).toInt := fb_subI (by omega) (by omega)
  by_cases hc : σ 13 s ≤ σ 14 s
  · have h1 : (σ 13 s).toInt ≤ (σ 14 s).toInt := Int32.le_iff_toInt_le.mp hc
    have h2 : ¬ (0 : Int32) < σ 13 s - σ 14 s := fun q => by
      have q1 := Int32.lt_iff_toInt_lt.mp q
      rw [hsub, zI] at q1
      omega
    rw [if_neg h2, if_pos hc]
    exact ⟨rfl, by decide⟩
  · have h1 : (σ 14 s).toInt < (σ 13 s).toInt := by
      rcases Int.lt_or_le (σ 14 s).toInt (σ 13 s).toInt with q | q
      · exact q
      · exact absurd (Int32.le_iff_toInt_le.mpr q) hc
    have h2 : (0 : Int32) < σ 13 s - σ 14 s := Int32.lt_iff_toInt_lt.mpr (by rw [hsub, zI]; omega)
    rw [if_pos h2, if_neg hc]
    exact ⟨rfl, Int32.le_iff_toInt_le.mpr (by rw [hsub, zI]; omega)⟩
/-- whether a promise holds -/
theorem q_prom {σ μ : Sg} {w mi : Int32} {b r s : Nat} (h : QQ σ μ w) (hi : IQ σ b) (hr : r < 10) (hs : s < 8) : (r_X2_promisedStation σ (nI r) mi = nI s) ↔ ¬ r_X6_isPromised μ (nI r) (nI s) mi = 0 := by
  have er : (nI r).toNatClampNeg = r := nI_clamp (by omega)
  obtain ⟨h1, h2, h3, h4, h5, h6, h7, h8, h9, h10, h11, h12, h13, h14, h15, h16, h17, h18, h19⟩ := h
  have e27 := h16 r hr
  have hne : ¬ (-1 : Int32) = nI s := by
    intro q
    have q1 := congrArg Int32.toInt q
    rw [nI_toInt (by omega)] at q1
    have q2 : (-1 : Int32).toInt = -1 := by decide
    omega
  unfold r_X2_promisedStation r_X6_isPromised
  rw [er, ← e27]
  rcases hi.2.2.2.1 r hr with hm | ⟨s2, hs2, hm⟩
  · rw [hm, if_neg hne]
    simp [hne]
  · have hx : ¬ σ 27 r = -1 := by
      rw [hm]; intro q
      have q1 := congrArg Int32.toInt q
      rw [nI_toInt (by omega)] at q1
      have q2 : (-1 : Int32).toInt = -1 := by decide
      omega
    rw [h17 r hr hx]
    by_cases hl : 15 ≤ mi - μ 23 r
    · rw [if_pos hl, if_pos hl]; simp [hne]
    · rw [if_neg hl, if_neg hl]
      by_cases hq : σ 27 r = nI s <;> simp [hq]
