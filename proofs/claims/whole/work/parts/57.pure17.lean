set_option maxRecDepth 100000 in
theorem bit_dec : ∀ r, r < 10 → (1 : Int32) <<< ((nI r) &&& 31) = nI (2 ^ r) := by decide +kernel
theorem or_nI (a b : Nat) : nI a ||| nI b = nI (a ||| b) := by
  apply Int32.toBitVec_inj.mp
  show (BitVec.ofNat 32 a ||| BitVec.ofNat 32 b) = BitVec.ofNat 32 (a ||| b)
  apply BitVec.eq_of_toNat_eq
  simp [BitVec.toNat_or, Nat.or_mod_two_pow]
theorem iq_fault {σ : Sg} {b cy r : Nat} (h : IQ σ b) (hc : cy < 30) (hr : r < 10) : IQ (s_X0_addFault σ (nI cy) (nI r)) b := by
  have ec : (nI cy).toNatClampNeg = cy := nI_clamp (by omega)
  unfold s_X0_addFault
  rw [ec, bit_dec r hr]
  obtain ⟨h1, h2, h3, h4, h5, h6⟩ := h
  refine ⟨?_, ?_, ?_, ?_, ?_, ?_⟩
  · intro j hj; simp [sx_r]; exact h1 j hj
  · intro j hj; simp [sx_r]; exact h2 j hj
  · intro j hj
    by_cases e : j = cy
    · subst e
      obtain ⟨m, hm, em⟩ := h3 j hj
      have h2r : 2 ^ r < 2 ^ 10 := Nat.pow_lt_pow_right (by decide) hr
      exact ⟨m ||| 2 ^ r, Nat.or_lt_two_pow (n := 10) hm h2r, by simp [sx_r, em, or_nI]⟩
    · simp [sx_r, e]; exact h3 j hj
  · intro j hj; simp [sx_r]; exact h4 j hj
  · intro j hj; simp [sx_r]; exact h5 j hj
  · intro j hj; simp [sx_r]; exact h6 j hj
