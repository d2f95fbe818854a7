-- hearing, the class alone
def tp (σ : Sg) (i : Nat) : Prop := tOK (σ 6 i) (σ 7 i) (σ 8 i) ∧ pOK (σ 6 i) (σ 7 i) (σ 9 i)
theorem tp_kX {τ σ : Sg} {i : Nat} (k : kX τ σ) (h : tp σ i) : tp τ i := by
  unfold tp
  rw [k.1 6 i (by decide) (by decide), k.1 7 i (by decide) (by decide), k.1 8 i (by decide) (by decide), k.1 9 i (by decide) (by decide)]
  exact h
/-- what holds of the class behind n things heard -/
def CI (σ : Sg) (n : Nat) : Prop := σ 1 4 = nI n ∧ σ 0 6 = nI n ∧ n ≤ 300 ∧ (∀ i, i < n → tp σ i) ∧ (∀ i, i < n → σ 9 i ≤ σ 0 5) ∧ IQ σ n ∧ SU σ ∧ NV σ n
theorem nv_ins {σ : Sg} {n b : Nat} {k f s m : Int32} (hn : n < 300) (hc : σ 1 4 = nI n) (h : NV σ b) : NV (s_X4_insert σ k f s m n) b := by
  have e := fun q a b => ins_o (σ := σ) (k := k) (f := f) (s := s) (m := m) hn hc q a b
  unfold NV NW at h ⊢
  rw [e 0 (by decide) (by decide), e 16 (by decide) (by decide), e 14 (by decide) (by decide), e 17 (by decide) (by decide), e 26 (by decide) (by decide), e 25 (by decide) (by decide), e 21 (by decide) (by decide), e 20 (by decide) (by decide), e 22 (by decide) (by decide)]
  exact h
theorem fin_hear {I B : Sg} {n g : Nat} (hn : n < 300) (hg : g ≤ n + 1) (i14 : I 1 4 = nI (n + 1)) (iT : ∀ i, i < n + 1 → tp I i) (i9 : ∀ i, i < n + 1 → I 9 i ≤ I 0 5) (kB : kX B I)
    (hr : ∀ k, g + k ≤ n + 1 → RC B g k) :
    CI (sk_X5_hear_23 B g (n + 1)) (n + 1) ∧ kX (sk_X5_hear_23 B g (n + 1)) I := by
  unfold sk_X5_hear_23
  have r0 := hr (n + 1 - g) (by omega)
  obtain ⟨q2, q3, qv, q4⟩ := r0
  rw [show g + (n + 1 - g) = n + 1 by omega] at q2 qv
  generalize (itn (fun i => st_X5_hear_41 (g + i)) (n + 1 - g) (B, 1)).1 = Y at q2 q3 qv q4 ⊢
  have k1 : kX Y I := kX_tr q4.1 kB
  have k2 : kX (sx Y 0 6 (B 1 4)) I := kX_6 k1 (by decide)
  refine ⟨⟨k2.2.2.trans i14, ?_, by omega, fun i hi => tp_kX k2 (iT i hi), fun i hi => ?_, iq_scalar q2 _, su_sx q3 (by decide) (by decide), nv_0 qv (by decide)⟩, k2⟩
  · rw [sx_r, if_pos rfl, if_pos rfl]; exact kB.2.2.trans i14
  · rw [k2.1 9 i (by decide) (by decide), k2.2.1]; exact i9 i hi
theorem hear_main {σ : Sg} {n : Nat} {k f s m : Int32} (h : CI σ n) (hn : n < 300) (ht : tOK k f s) (hp : pOK k f m) (hm : m ≤ σ 0 5) :
    hearOK σ k f s m n n ∧ CI (s_X5_hear σ k f s m n n) (n + 1) ∧ kX (s_X5_hear σ k f s m n n) (s_X4_insert σ k f s m n) := by
  obtain ⟨c1, c2, c3, c4, c5, c6, c7, c8⟩ := h
  have hi := ins_spec (k := k) (f := f) (s := s) (m := m) hn c1
  have iI := iq_ins (k := k) (f := f) (s := s) (m := m) hn c1 c6
  have iS := su_ins (k := k) (f := f) (s := s) (m := m) hn c1 c7
  have iV := nv_ins (k := k) (f := f) (s := s) (m := m) hn c1 c8
  have io := fun q a b => ins_o (σ := σ) (k := k) (f := f) (s := s) (m := m) hn c1 q a b
  have hle := dwi_le (σ 9) m n
  unfold hearOK s_X5_hear
  rw [hi.1]
  obtain ⟨hr0, hi2⟩ := hi
  generalize s_X4_insert σ k f s m n = I at hi2 iI iS iV io ⊢
  generalize hp9 : dwi (σ 9) m n = p at hi2 hle ⊢
  have i14 : I 1 4 = nI (n + 1) := by rw [hi2, if_neg (by decide), if_pos ⟨rfl, rfl⟩]
  have i06 : I 0 6 = nI n := by rw [io 0 (by decide) (by decide)]; exact c2
  have i05 : I 0 5 = σ 0 5 := by rw [io 0 (by decide) (by decide)]
  have e6 : ∀ i, I 6 i = if i = p then k else if p < i ∧ i ≤ n then σ 6 (i - 1) else σ 6 i := fun i => by rw [hi2, if_pos (by decide)]; rfl
  have e7 : ∀ i, I 7 i = if i = p then f else if p < i ∧ i ≤ n then σ 7 (i - 1) else σ 7 i := fun i => by rw [hi2, if_pos (by decide)]; rfl
  have e8 : ∀ i, I 8 i = if i = p then s else if p < i ∧ i ≤ n then σ 8 (i - 1) else σ 8 i := fun i => by rw [hi2, if_pos (by decide)]; rfl
  have e9 : ∀ i, I 9 i = if i = p then m else if p < i ∧ i ≤ n then σ 9 (i - 1) else σ 9 i := fun i => by rw [hi2, if_pos (by decide)]; rfl
  have iT : ∀ i, i < n + 1 → tp I i := by
    intro i hi
    unfold tp
    rw [e6, e7, e8, e9]
    by_cases h1 : i = p
    · simp only [if_pos h1]; exact ⟨ht, hp⟩
    · by_cases h2 : p < i ∧ i ≤ n
      · simp only [if_neg h1, if_pos h2]; exact c4 _ (by omega)
      · simp only [if_neg h1, if_neg h2]; exact c4 _ (by omega)
  have i9 : ∀ i, i < n + 1 → I 9 i ≤ I 0 5 := by
    intro i hi
    rw [i05, e9]
    by_cases h1 : i = p
    · rw [if_pos h1]; exact hm
    · rw [if_neg h1]
      by_cases h2 : p < i ∧ i ≤ n
      · rw [if_pos h2]; exact c5 _ (by omega)
      · rw [if_neg h2]; exact c5 _ (by omega)
  have kA := kX_anew (σ := I)
  have rA : ∀ k, 0 + k ≤ n + 1 → RC (s_X5_beginAnew I) 0 k := rep (σ := s_X5_beginAnew I) (g := 0) (n := n + 1) (by omega) (fun i hi => tp_kX kA.1 (iT i hi)) (iq_anew I) (su_anew I) (nv_anew I)
  have rB : ∀ k, n + k ≤ n + 1 → RC I n k := rep (σ := I) (g := n) (n := n + 1) (by omega) iT iI iS iV
  have hcond : (I 0 6 ≤ nI p) ↔ p = n := by
    rw [i06, nI_leI (by omega) (by omega)]; omega
  refine ⟨⟨by omega, kA.2, kA.1.2.2.trans i14, i06, i14, fun i hi => ?_, fun hc i hi => ?_⟩, ?_, ?_⟩
  · have r := rA i (by omega)
    have kk := kX_tr r.2.2.2.1 kA.1
    exact okX_of (by omega) r.1 (tp_kX kk (iT _ (by omega))).1
  · have r := rB i (by omega)
    exact okX_of (by omega) r.1 (tp_kX r.2.2.2.1 (iT _ (by omega))).1
  · by_cases hpn : p = n
    · rw [if_pos (hcond.mpr hpn)]; exact (fin_hear hn (by omega) i14 iT i9 (kX_r I) rB).1
    · rw [if_neg (fun z => hpn (hcond.mp z))]; exact (fin_hear hn (by omega) i14 iT i9 kA.1 rA).1
  · by_cases hpn : p = n
    · rw [if_pos (hcond.mpr hpn)]; exact (fin_hear hn (by omega) i14 iT i9 (kX_r I) rB).2
    · rw [if_neg (fun z => hpn (hcond.mp z))]; exact (fin_hear hn (by omega) i14 iT i9 kA.1 rA).2
/-- between two calls -/
def MC (σ : Sg) (n : Nat) : Prop := CI σ n ∧ GRX σ ∧ ∃ t : Nat, t ≤ 20000 ∧ σ 0 5 = nI t
theorem hear_MC {σ : Sg} {n : Nat} {k f s m : Int32} (h : MC σ n) (hn : n < 300) (ht : tOK k f s) (hp : pOK k f m) (hm : m ≤ σ 0 5) :
    hearOK σ k f s m n n ∧ MC (s_X5_hear σ k f s m n n) (n + 1) ∧ (s_X5_hear σ k f s m n n) 0 5 = σ 0 5 := by
  obtain ⟨h1, h2, t, ht2, e⟩ := h
  have q := hear_main h1 hn ht hp hm
  have io := fun q a b => ins_o (σ := σ) (k := k) (f := f) (s := s) (m := m) hn h1.1 q a b
  have e05 : (s_X5_hear σ k f s m n n) 0 5 = σ 0 5 := by rw [q.2.2.2.1, io 0 (by decide) (by decide)]
  refine ⟨q.1, ⟨q.2.1, fun j hj => ?_, t, ht2, e05.trans e⟩, e05⟩
  rw [q.2.2.1 10 j (by decide) (by decide), q.2.2.1 11 j (by decide) (by decide), q.2.2.1 12 j (by decide) (by decide), io 10 (by decide) (by decide), io 11 (by decide) (by decide), io 12 (by decide) (by decide)]
  exact h2 j hj
theorem now_p {σ : Sg} {n : Nat} (h : MC σ n) : ∃ t, t ≤ 20000 ∧ σ 0 5 = nI t := h.2.2
theorem pOK_now {σ : Sg} {n : Nat} {k f : Int32} (h : MC σ n) (hk : k ≠ 7) : pOK k f (σ 0 5) := ⟨h.2.2, fun q => absurd q hk⟩
/-- a minute that may be heard is one -/
theorem hW_p {σ : Sg} {n : Nat} {wh : Int32} (h : MC σ n) (hw : hW σ wh) : (∃ t, t ≤ 20000 ∧ wh = nI t) ∧ wh ≤ σ 0 5 := by
  obtain ⟨t, ht, e⟩ := h.2.2
  have h0 : ¬ wh < 0 := fun q => by
    refine hw.1 ?_
    split
    · rename_i h2
      exact Int32.lt_trans q h2
    · exact q
  have h1 := hw.2
  rw [e] at h1
  obtain ⟨j, hj, ej⟩ := nI_of2 (n := t) (nI_toInt (by omega)) h0 h1
  exact ⟨⟨j, by omega, ej⟩, hw.2⟩
theorem isF_iff {σ : Sg} {n : Nat} (h : σ 1 4 = nI n) (hn : n ≤ 300) : r_X4_isFull σ = 0 ↔ n < 300 := by
  constructor
  · intro q
    rcases Nat.lt_or_ge n 300 with z | z
    · exact z
    · unfold r_X4_isFull at q
      rw [h, if_neg (show ¬ nI n < (300 : Int32) from nI_nlt (a := n) (b := 300) z (by omega))] at q
      exact absurd q (by decide)
  · exact fun q => isFull0 h q
theorem once_MC {σ : Sg} {n : Nat} {k f s m : Int32} (h : MC σ n) (hn : n < 300) (ht : tOK k f s) (hp : pOK k f m) (hm : m ≤ σ 0 5) :
    (r_X4_tells σ k f s m n = 0 → hearOK σ k f s m n n) ∧ (∃ n', MC (s_X5_hearOnce σ k f s m n n) n') ∧ (s_X5_hearOnce σ k f s m n n) 0 5 = σ 0 5 := by
  have q := hear_MC h hn ht hp hm
  refine ⟨fun _ => q.1, ?_, ?_⟩
  · unfold s_X5_hearOnce
    split
    · exact ⟨_, q.2.1⟩
    · exact ⟨n, h⟩
  · unfold s_X5_hearOnce
    split
    · exact q.2.2
    · rfl
theorem MC_0 : MC (s_X5_beginAnew σ0X) 0 := by
  refine ⟨⟨by rw [anew_r]; decide +kernel, by rw [anew_r]; decide +kernel, by decide, fun i hi => absurd hi (Nat.not_lt_zero i), fun i hi => absurd hi (Nat.not_lt_zero i), iq_anew σ0X, su_anew σ0X, nv_anew σ0X⟩, fun j hj => ⟨0, 0, 0, by decide, by decide, by decide, ?_, ?_, ?_⟩, 0, by decide, by rw [anew_r]; decide +kernel⟩
  all_goals (rw [anew_r, nI_0]; simp [σ0X])
