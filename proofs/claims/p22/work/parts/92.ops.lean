-- lies and pass
theorem nv_e {σ τ : Sg} {b : Nat} (h : NV σ b) (e : ∀ q, 13 ≤ q → τ q = σ q) (e0 : τ 0 8 = σ 0 8) : NV τ b := by
  unfold NV NW
  rw [e 16 (by decide), e 14 (by decide), e 17 (by decide), e 26 (by decide), e 25 (by decide), e 21 (by decide), e 20 (by decide), e 22 (by decide), e0]
  exact h
theorem CI_05 {σ : Sg} {n : Nat} {v : Int32} (h : CI σ n) (hv : σ 0 5 ≤ v) : CI (sx σ 0 5 v) n := by
  obtain ⟨c1, c2, c3, c4, c5, c6, c7, c8⟩ := h
  have e : ∀ q, q ≠ 0 → sx σ 0 5 v q = σ q := fun q hq => sx_o hq
  refine ⟨by rw [e 1 (by decide)]; exact c1, by rw [sx_r, if_pos rfl, if_neg (by decide)]; exact c2, c3, fun i hi => ?_, fun i hi => ?_, iq_scalar c6 _, su_sx c7 (by decide) (by decide), nv_0 c8 (by decide)⟩
  · unfold tp
    rw [e 6 (by decide), e 7 (by decide), e 8 (by decide), e 9 (by decide)]; exact c4 i hi
  · rw [e 9 (by decide), sx_r, if_pos rfl, if_pos rfl]; exact Int32.le_trans (c5 i hi) hv
theorem CI_g {σ : Sg} {n k i : Nat} {v : Int32} (h : CI σ n) (hk : 10 ≤ k ∧ k ≤ 12) : CI (sx σ k i v) n := by
  obtain ⟨c1, c2, c3, c4, c5, c6, c7, c8⟩ := h
  have e : ∀ q, ¬ (10 ≤ q ∧ q ≤ 12) → sx σ k i v q = σ q := fun q hq => sx_o (fun z => hq (z ▸ hk))
  refine ⟨by rw [e 1 (by decide)]; exact c1, by rw [e 0 (by decide)]; exact c2, c3, fun i hi => ?_, fun i hi => ?_, ?_, su_sx c7 (by omega) (by omega), nv_e c8 (fun q hq => e q (by omega)) (by rw [e 0 (by decide)])⟩
  · unfold tp
    rw [e 6 (by decide), e 7 (by decide), e 8 (by decide), e 9 (by decide)]; exact c4 i hi
  · rw [e 9 (by decide), e 0 (by decide)]; exact c5 i hi
  · unfold IQ at c6 ⊢
    rw [e 13 (by decide), e 14 (by decide), e 16 (by decide), e 17 (by decide), e 18 (by decide), e 27 (by decide)]
    exact c6
theorem lies_MC {σ : Sg} {n : Nat} {st ea no hi : Int32} (h : MC σ n) (h1 : vp_in st 8) (h2 : ¬ ea < 0 ∧ ea ≤ 99) (h3 : ¬ no < 0 ∧ no ≤ 99) (h4 : ¬ hi < 0 ∧ hi ≤ 99) : MC (s_X5_lies σ st ea no hi) n ∧ (s_X5_lies σ st ea no hi) 0 5 = σ 0 5 := by
  obtain ⟨c, gr, t, ht, e5⟩ := h
  obtain ⟨i, hi8, rfl⟩ := vp_in_of h1 (by decide)
  obtain ⟨x1, hx1, rfl⟩ := nI_of2 (M := 99) (n := 99) (by decide) h2.1 h2.2
  obtain ⟨x2, hx2, rfl⟩ := nI_of2 (M := 99) (n := 99) (by decide) h3.1 h3.2
  obtain ⟨x3, hx3, rfl⟩ := nI_of2 (M := 99) (n := 99) (by decide) h4.1 h4.2
  have ec : (nI i).toNatClampNeg = i := nI_clamp (by omega)
  unfold s_X5_lies
  rw [ec]
  have e05 : sx (sx (sx σ 10 i (nI x1)) 11 i (nI x2)) 12 i (nI x3) 0 5 = σ 0 5 := by
    rw [sx_o (show 0 ≠ 12 by decide), sx_o (show 0 ≠ 11 by decide), sx_o (show 0 ≠ 10 by decide)]
  refine ⟨⟨CI_g (CI_g (CI_g c (by decide)) (by decide)) (by decide), fun j hj => ?_, t, ht, e05.trans e5⟩, e05⟩
  rw [sx_o (show 10 ≠ 12 by decide), sx_o (show 10 ≠ 11 by decide), sx_o (show 11 ≠ 12 by decide), sx_s, sx_s, sx_s]
  rw [sx_o (show 12 ≠ 11 by decide), sx_o (show 12 ≠ 10 by decide), sx_o (show 11 ≠ 10 by decide)]
  by_cases e : j = i
  · rw [e, pk_us, pk_us, pk_us]; exact ⟨x1, x2, x3, hx1, hx2, hx3, rfl, rfl, rfl⟩
  · rw [pk_un e, pk_un e, pk_un e]; exact gr j hj
theorem pass_MC {σ : Sg} {n : Nat} {mi : Int32} (h : MC σ n) (h1 : ¬ mi < 1) (h2 : mi ≤ 600) (h3 : σ 0 5 + mi ≤ 20000) : MC (s_X5_pass σ mi) n ∧ (s_X5_pass σ mi) 0 5 = r_X5_pass σ mi ∧ r_X5_pass σ mi ≠ -99999999 := by
  obtain ⟨c, gr, t, ht, e5⟩ := h
  have h0 : ¬ mi < 0 := fun q => h1 (Int32.lt_trans q (by decide))
  obtain ⟨d, hd, rfl⟩ := nI_of2 (M := 600) (n := 600) (by decide) h0 h2
  rw [e5, nI_add] at h3
  have h9 := (nI_leI (a := t + d) (b := 20000) (by omega) (by decide)).mp h3
  have er : r_X5_pass σ (nI d) = nI (t + d) := by
    unfold r_X5_pass
    rw [sx_s, pk_us, e5, nI_add]
  have es : (s_X5_pass σ (nI d)) 0 5 = nI (t + d) := by
    unfold s_X5_pass
    rw [sx_s, pk_us, e5, nI_add]
  refine ⟨⟨?_, fun j hj => ?_, t + d, h9, es⟩, es.trans er.symm, ?_⟩
  · unfold s_X5_pass
    refine CI_05 c ?_
    rw [e5, nI_add]
    exact nI_le (by omega) (by omega)
  · unfold s_X5_pass
    rw [sx_o (show 10 ≠ 0 by decide), sx_o (show 11 ≠ 0 by decide), sx_o (show 12 ≠ 0 by decide)]
    exact gr j hj
  · rw [er]
    intro q
    have q1 := congrArg Int32.toInt q
    rw [nI_toInt (by omega), show (-99999999 : Int32).toInt = -99999999 by decide] at q1
    omega
theorem k01 (r : Int32) : (if r = 0 then (0 : Int32) else 1) ≠ -99999999 := by
  split <;> decide
