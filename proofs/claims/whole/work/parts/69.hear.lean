-- hearing
def RC (σ μ : Sg) (g k : Nat) : Prop :=
    QQ (itn (fun i => st_X5_hear_41 (g + i)) k (σ, 1)).1 (RP μ (g + k)).1 (RP μ (g + k)).2 ∧ IQ (itn (fun i => st_X5_hear_41 (g + i)) k (σ, 1)).1 (g + k) ∧ SU (itn (fun i => st_X5_hear_41 (g + i)) k (σ, 1)).1 ∧ kY (itn (fun i => st_X5_hear_41 (g + i)) k (σ, 1)).1 σ ∧
    (∀ j, k = j + 1 → (itn (fun i => st_X5_hear_41 (g + i)) k (σ, 1)).2 = r_X6_does (s_X6_stand (RP μ (g + j)).1 (RP μ (g + j)).2 ((RP μ (g + j)).1 7 (g + j))) (nI (g + j)))
theorem fin_hear {I B : Sg} {n g : Nat} (hn : n < 300) (hg : g ≤ n + 1) (i14 : I 1 4 = nI (n + 1)) (iT : ∀ i, i < n + 1 → tOK (I 6 i) (I 7 i) (I 8 i)) (i9 : ∀ i, i < n + 1 → I 9 i ≤ I 0 5) (kB : kX B I)
    (hr : ∀ μ : Sg, (∀ i, i < n + 1 → sEq I μ i) → ∀ k, g + k ≤ n + 1 → RC B μ g k) :
    CI (sk_X5_hear_23 B g (n + 1)) (n + 1) ∧ kX (sk_X5_hear_23 B g (n + 1)) I := by
  unfold sk_X5_hear_23
  have r0 := hr (mX I) (fun i hi => mX_eq (iT i hi)) (n + 1 - g) (by omega)
  have r1 := fun μ hs => (hr μ hs (n + 1 - g) (by omega)).1
  obtain ⟨-, q2, q3, q4, -⟩ := r0
  rw [show g + (n + 1 - g) = n + 1 by omega] at q2 r1
  generalize (itn (fun i => st_X5_hear_41 (g + i)) (n + 1 - g) (B, 1)).1 = Y at q2 q3 q4 r1 ⊢
  have k1 : kX Y I := kX_tr q4.1 kB
  have k2 : kX (sx Y 0 6 (B 1 4)) I := kX_6 k1 (by decide)
  refine ⟨⟨k2.2.2.trans i14, ?_, by omega, fun i hi => ?_, fun i hi => ?_, iq_scalar q2 _, su_sx q3 (by decide) (by decide), fun μ hs => q_06 (r1 μ (fun i hi => sEq_tr (hs i hi) (kX_sy k2) (kM_r μ)))⟩, k2⟩
  · rw [sx_r, if_pos rfl, if_pos rfl]; exact kB.2.2.trans i14
  · rw [k2.1 6 i (by decide) (by decide), k2.1 7 i (by decide) (by decide), k2.1 8 i (by decide) (by decide)]; exact iT i hi
  · rw [k2.1 9 i (by decide) (by decide), k2.2.1]; exact i9 i hi
theorem hear_main {σ : Sg} {n : Nat} {k f s m : Int32} (h : CI σ n) (hn : n < 300) (ht : tOK k f s) (hm : m ≤ σ 0 5) :
    hearOK σ k f s m n n ∧ CI (s_X5_hear σ k f s m n n) (n + 1) ∧ kX (s_X5_hear σ k f s m n n) (s_X4_insert σ k f s m n) ∧
    (dwi (σ 9) m n = n → ∀ μ : Sg, (∀ i, i < n + 1 → sEq (s_X4_insert σ k f s m n) μ i) → r_X5_hear σ k f s m n n = r_X6_does (s_X6_stand (RP μ n).1 (RP μ n).2 ((RP μ n).1 7 n)) (nI n)) := by
  obtain ⟨c1, c2, c3, c4, c5, c6, c7, c8⟩ := h
  have hi := ins_spec (k := k) (f := f) (s := s) (m := m) hn c1
  have hse := sEq_ins (s' := s) (m := m) hn c1 (fun i hi => mX_eq (c4 i hi)) ht (Or.inl rfl)
  have iI := iq_ins (k := k) (f := f) (s := s) (m := m) hn c1 c6
  have iS := su_ins (k := k) (f := f) (s := s) (m := m) hn c1 c7
  have iQ : ∀ (μ : Sg) (w : Int32), QQ σ μ w → QQ (s_X4_insert σ k f s m n) μ w := fun μ w hq => q_ins hn c1 hq
  have io := fun q a b => ins_o (σ := σ) (k := k) (f := f) (s := s) (m := m) hn c1 q a b
  have hle := dwi_le (σ 9) m n
  unfold hearOK s_X5_hear r_X5_hear
  rw [hi.1]
  obtain ⟨hr0, hi2⟩ := hi
  generalize s_X4_insert σ k f s m n = I at hi2 hse iI iS iQ io ⊢
  generalize hp : dwi (σ 9) m n = p at hi2 hle ⊢
  have i14 : I 1 4 = nI (n + 1) := by rw [hi2, if_neg (by decide), if_pos ⟨rfl, rfl⟩]
  have i06 : I 0 6 = nI n := by rw [io 0 (by decide) (by decide)]; exact c2
  have i05 : I 0 5 = σ 0 5 := by rw [io 0 (by decide) (by decide)]
  have iT : ∀ i, i < n + 1 → tOK (I 6 i) (I 7 i) (I 8 i) := fun i hi => (hse i hi).2.2.2.2
  have i9 : ∀ i, i < n + 1 → I 9 i ≤ I 0 5 := by
    intro i hi
    rw [i05, hi2, if_pos (by decide)]
    by_cases h1 : i = p
    · rw [if_pos h1]; exact hm
    · rw [if_neg h1]
      by_cases h2 : p < i ∧ i ≤ n
      · rw [if_pos h2]; exact c5 _ (by omega)
      · rw [if_neg h2]; exact c5 _ (by omega)
  have kA := kX_anew (σ := I)
  have rA : ∀ μ : Sg, (∀ i, i < n + 1 → sEq I μ i) → ∀ k, 0 + k ≤ n + 1 → RC (s_X5_beginAnew I) μ 0 k := fun μ hs => rep (σ := s_X5_beginAnew I) (g := 0) (n := n + 1) (by omega) (fun i hi => sEq_tr (hs i hi) kA.1 (kM_r μ)) (q_anew I μ) (iq_anew I) (su_anew I)
  have rB : p = n → ∀ μ : Sg, (∀ i, i < n + 1 → sEq I μ i) → ∀ k, n + k ≤ n + 1 → RC I μ n k := fun hpn μ hs => by
    refine rep (σ := I) (g := n) (n := n + 1) (by omega) hs (iQ _ _ (c8 μ (fun i hi => ?_))) iI iS
    have e : ∀ q, 6 ≤ q ∧ q ≤ 9 → I q i = σ q i := fun q hq => by rw [hi2, if_pos hq, if_neg (by omega), if_neg (by omega)]
    have hh := hs i (by omega)
    unfold sEq at hh ⊢
    rw [e 6 (by decide), e 7 (by decide), e 8 (by decide), e 9 (by decide)] at hh
    exact hh
  have hcond : (I 0 6 ≤ nI p) ↔ p = n := by
    rw [i06, nI_leI (by omega) (by omega)]; omega
  refine ⟨⟨by omega, kA.2, kA.1.2.2.trans i14, i06, i14, fun i hi => ?_, fun hc i hi => ?_⟩, ?_, ?_, fun hpn μ hs => ?_⟩
  · have r := rA (mX I) (fun i hi => mX_eq (iT i hi)) i (by omega)
    have kk := kX_tr r.2.2.2.1.1 kA.1
    refine okX_of (by omega) r.2.1 ?_
    rw [kk.1 6 _ (by decide) (by decide), kk.1 7 _ (by decide) (by decide), kk.1 8 _ (by decide) (by decide)]
    exact iT _ (by omega)
  · have r := rB (hcond.mp hc) (mX I) (fun i hi => mX_eq (iT i hi)) i (by omega)
    have kk := r.2.2.2.1.1
    refine okX_of (by omega) r.2.1 ?_
    rw [kk.1 6 _ (by decide) (by decide), kk.1 7 _ (by decide) (by decide), kk.1 8 _ (by decide) (by decide)]
    exact iT _ (by omega)
  · by_cases hpn : p = n
    · rw [if_pos (hcond.mpr hpn)]; exact (fin_hear hn (by omega) i14 iT i9 (kX_r I) (rB hpn)).1
    · rw [if_neg (fun z => hpn (hcond.mp z))]; exact (fin_hear hn (by omega) i14 iT i9 kA.1 rA).1
  · by_cases hpn : p = n
    · rw [if_pos (hcond.mpr hpn)]; exact (fin_hear hn (by omega) i14 iT i9 (kX_r I) (rB hpn)).2
    · rw [if_neg (fun z => hpn (hcond.mp z))]; exact (fin_hear hn (by omega) i14 iT i9 kA.1 rA).2
  · rw [if_pos (hcond.mpr hpn)]
    unfold rk_X5_hear_23
    exact (rB hpn μ hs (n + 1 - n) (by omega)).2.2.2.2 0 (by omega)
-- going through, in the reference
theorem tOK_s {k f s s' : Int32} (h : tOK k f s) (hs : s = s' ∨ k = 2 ∨ k = 6 ∨ k = 7) : tOK k f s' := by
  rcases hs with rfl | rfl | rfl | rfl
  · exact h
  · rcases h with ⟨q, -⟩ | ⟨q, -⟩ | ⟨q, a, ha, e⟩ | ⟨q, -⟩ | ⟨q, -⟩ | ⟨q, -⟩ | ⟨q, -⟩ | q | ⟨q, -⟩
    · exact absurd q (by decide)
    · exact absurd q (by decide)
    · exact Or.inr (Or.inr (Or.inl ⟨rfl, a, ha, e⟩))
    · exact absurd q (by decide)
    · exact absurd q (by decide)
    · exact absurd q (by decide)
    · exact absurd q (by decide)
    · exact absurd q (by decide)
    · exact absurd q (by decide)
  · rcases h with ⟨q, -⟩ | ⟨q, -⟩ | ⟨q, -⟩ | ⟨q, -⟩ | ⟨q, -⟩ | ⟨q, -⟩ | ⟨q, a, ha, e⟩ | q | ⟨q, -⟩
    · exact absurd q (by decide)
    · exact absurd q (by decide)
    · exact absurd q (by decide)
    · exact absurd q (by decide)
    · exact absurd q (by decide)
    · exact absurd q (by decide)
    · exact Or.inr (Or.inr (Or.inr (Or.inr (Or.inr (Or.inr (Or.inl ⟨rfl, a, ha, e⟩))))))
    · exact absurd q (by decide)
    · exact absurd q (by decide)
  · exact Or.inr (Or.inr (Or.inr (Or.inr (Or.inr (Or.inr (Or.inr (Or.inl rfl)))))))
theorem st91_k (z : Sg) : ∀ n q j, q ≠ 17 → q ≠ 19 → q ≠ 21 → itn st_X6_goThrough_91 n z q j = z q j := by
  intro n
  induction n with
  | zero => intro q j _ _ _; rfl
  | succ n ih =>
    intro q j h1 h2 h3
    rw [itn_s, ← ih q j h1 h2 h3]
    generalize itn st_X6_goThrough_91 n z = x
    unfold st_X6_goThrough_91 s_X6_ride
    repeat' split
    all_goals simp [sx_r, h1, h2, h3]
theorem gok {σ μ : Sg} {n : Nat} (h : CI σ n) (hs : ∀ i, i < n → sEq σ μ i) (h5 : μ 0 5 = nI n) : gOK μ n := by
  obtain ⟨c1, c2, c3, c4, c5, c6, c7, c8⟩ := h
  have kA := kX_anew (σ := σ)
  have rA : ∀ k, 0 + k ≤ n → RC (s_X5_beginAnew σ) μ 0 k := rep (σ := s_X5_beginAnew σ) (g := 0) (n := n) c3 (fun i hi => sEq_tr (hs i hi) kA.1 (kM_r μ)) (q_anew σ μ) (iq_anew σ) (su_anew σ)
  refine ⟨fun i hi => ?_, fun i hi => ?_, fun i hi => ?_⟩
  · show (RP μ i).1 0 5 = nI n
    rw [(kM_RP μ i (by omega)).2 5 (by decide)]; exact h5
  · show okM (s_X6_stand (RP μ i).1 (RP μ i).2 ((RP μ i).1 7 (nI i).toNatClampNeg)) (nI i)
    have r := rA i (by omega)
    unfold RC at r
    rw [Nat.zero_add] at r
    have ec : (nI i).toNatClampNeg = i := nI_clamp (by omega)
    have km := kM_tr (kN_stand (a := (RP μ i).2) (b := (RP μ i).1 7 i) (kN_r (RP μ i).1)).1 (kM_RP μ i (by omega))
    have se := hs i hi
    unfold okM
    rw [ec, km.1 4 i (by decide) (by decide), km.1 5 i (by decide) (by decide), km.1 6 i (by decide) (by decide), ← se.1, ← se.2.1]
    exact ⟨tOK_hT (tOK_s se.2.2.2.2 se.2.2.2.1), hM_of (q_minute (m := (RP μ i).1 7 i) r.1) (iq_minute _ r.2.1)⟩
  · have ec : (nI i).toNatClampNeg = i := nI_clamp (by omega)
    have r := rA n (by omega)
    unfold RC at r
    rw [Nat.zero_add] at r
    rw [ec, st91_k _ _ _ _ (by decide) (by decide) (by decide), st91_k _ _ _ _ (by decide) (by decide) (by decide)]
    have hm := hM_of (q_minute (m := (RP μ n).1 0 1) r.1) (iq_minute _ r.2.1)
    have h2 := hm.2 (nI i) (vp_in_nI hi (by decide))
    rw [ec] at h2
    exact h2
