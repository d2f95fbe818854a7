-- the story: insert beside keep
def dwi (f : Nat → Int32) (mi : Int32) : Nat → Nat
  | 0 => 0
  | k + 1 => if f k ≤ mi then k + 1 else dwi f mi k
theorem dwi_le (f : Nat → Int32) (mi : Int32) : ∀ k, dwi f mi k ≤ k := by
  intro k
  induction k with
  | zero => exact Nat.le_refl _
  | succ k ih =>
    show (if f k ≤ mi then k + 1 else dwi f mi k) ≤ k + 1
    split <;> omega
theorem dwi_congr {f g : Nat → Int32} {mi : Int32} : ∀ k, (∀ i, i < k → f i = g i) → dwi f mi k = dwi g mi k := by
  intro k
  induction k with
  | zero => intro _; rfl
  | succ k ih =>
    intro h
    show (if f k ≤ mi then k + 1 else dwi f mi k) = (if g k ≤ mi then k + 1 else dwi g mi k)
    rw [h k (by omega), ih (fun i hi => h i (by omega))]
theorem dwi_top {f : Nat → Int32} {mi : Int32} {n : Nat} (h : ∀ i, i < n → f i ≤ mi) : dwi f mi n = n := by
  cases n with
  | zero => rfl
  | succ k =>
    show (if f k ≤ mi then k + 1 else dwi f mi k) = k + 1
    rw [if_pos (h k (by omega))]
theorem dw_X4 (σ : Sg) (mi : Int32) : ∀ k, k ≤ 300 → dw_X4_insert σ mi k = dwi (σ 9) mi k := by
  intro k
  induction k with
  | zero => intro _; rfl
  | succ k ih =>
    intro hk
    show (if σ 9 ((nI (k + 1)) - 1).toNatClampNeg ≤ mi then k + 1 else dw_X4_insert σ mi k) = (if σ 9 k ≤ mi then k + 1 else dwi (σ 9) mi k)
    rw [nI_pred, nI_clamp (by omega), ih (by omega)]
theorem dw_X6 (mi : Int32) : ∀ (k : Nat) (x : Sg), k ≤ 300 → (dw_X6_keep mi k x).1 = dwi (x 7) mi k ∧ (∀ q j, (dw_X6_keep mi k x).2 q j = if (4 ≤ q ∧ q ≤ 7) ∧ dwi (x 7) mi k < j ∧ j ≤ k then x q (j - 1) else x q j) := by
  intro k
  induction k with
  | zero =>
    intro x _
    refine ⟨rfl, fun q j => ?_⟩
    rw [if_neg (by omega)]
    rfl
  | succ k ih =>
    intro x hk
    have e : dw_X6_keep mi (k + 1) x = (if x 7 ((nI (k + 1)) - 1).toNatClampNeg ≤ mi then (k + 1, x) else dw_X6_keep mi k (sx (sx (sx (sx x 4 (nI (k + 1)).toNatClampNeg (x 4 ((nI (k + 1)) - 1).toNatClampNeg)) 5 (nI (k + 1)).toNatClampNeg (x 5 ((nI (k + 1)) - 1).toNatClampNeg)) 6 (nI (k + 1)).toNatClampNeg (x 6 ((nI (k + 1)) - 1).toNatClampNeg)) 7 (nI (k + 1)).toNatClampNeg (x 7 ((nI (k + 1)) - 1).toNatClampNeg))) := rfl
    have e2 : dwi (x 7) mi (k + 1) = (if x 7 k ≤ mi then k + 1 else dwi (x 7) mi k) := rfl
    rw [nI_pred, nI_clamp (show k < 2 ^ 31 by omega), nI_clamp (show k + 1 < 2 ^ 31 by omega)] at e
    rw [e, e2]
    by_cases h : x 7 k ≤ mi
    · rw [if_pos h, if_pos h]
      refine ⟨rfl, fun q j => ?_⟩
      rw [if_neg (by omega)]
    · rw [if_neg h, if_neg h]
      have hx1 : ∀ q j, (sx (sx (sx (sx x 4 (k + 1) (x 4 k)) 5 (k + 1) (x 5 k)) 6 (k + 1) (x 6 k)) 7 (k + 1) (x 7 k)) q j = if (4 ≤ q ∧ q ≤ 7) ∧ j = k + 1 then x q k else x q j := by
        intro q j
        simp only [sx_r]
        by_cases h7 : q = 7
        · subst h7; simp
        by_cases h6 : q = 6
        · subst h6; simp
        by_cases h5 : q = 5
        · subst h5; simp
        by_cases h4 : q = 4
        · subst h4; simp
        rw [if_neg h7, if_neg h6, if_neg h5, if_neg h4, if_neg (by omega)]
      generalize sx (sx (sx (sx x 4 (k + 1) (x 4 k)) 5 (k + 1) (x 5 k)) 6 (k + 1) (x 6 k)) 7 (k + 1) (x 7 k) = x1 at hx1 ⊢
      obtain ⟨i1, i2⟩ := ih x1 (by omega)
      have ec : dwi (x1 7) mi k = dwi (x 7) mi k := dwi_congr k (fun i hi => by rw [hx1, if_neg (by omega)])
      rw [ec] at i1 i2
      have hle := dwi_le (x 7) mi k
      refine ⟨i1, fun q j => ?_⟩
      rw [i2]
      by_cases hq : 4 ≤ q ∧ q ≤ 7
      · by_cases hj : dwi (x 7) mi k < j ∧ j ≤ k
        · rw [if_pos ⟨hq, hj⟩, if_pos ⟨hq, by omega⟩, hx1, if_neg (by omega)]
        · rw [if_neg (fun z => hj z.2), hx1]
          by_cases hj2 : j = k + 1
          · rw [if_pos ⟨hq, hj2⟩, if_pos ⟨hq, by omega⟩, hj2]
            rfl
          · rw [if_neg (fun z => hj2 z.2), if_neg (by omega)]
      · rw [if_neg (fun z => hq z.1), if_neg (fun z => hq z.1), hx1, if_neg (fun z => hq z.1)]
theorem ins_spec {σ : Sg} {n : Nat} {k f s m : Int32} (hn : n < 300) (hc : σ 1 4 = nI n) : r_X4_insert σ k f s m n = nI (dwi (σ 9) m n) ∧
    (∀ q j, s_X4_insert σ k f s m n q j = if 6 ≤ q ∧ q ≤ 9 then (if j = dwi (σ 9) m n then (if q = 6 then k else if q = 7 then f else if q = 8 then s else m) else if dwi (σ 9) m n < j ∧ j ≤ n then σ q (j - 1) else σ q j) else if q = 1 ∧ j = 4 then nI (n + 1) else σ q j) := by
  have hf : r_X4_isFull σ = 0 := by
    unfold r_X4_isFull
    rw [hc, if_pos (show nI n < (300 : Int32) from nI_lt (b := 300) hn (by decide))]
  have hle := dwi_le (σ 9) m n
  unfold r_X4_insert s_X4_insert
  rw [if_pos hf, if_pos hf, dw_X4 σ m n (by omega)]
  generalize dwi (σ 9) m n = p at hle ⊢
  rw [nI_clamp (show p < 2 ^ 31 by omega)]
  refine ⟨rfl, fun q j => ?_⟩
  have hcp : ∀ (g : Nat → Int32), va_cpy g g p (p + 1) (n - p) j = if p < j ∧ j ≤ n then g (j - 1) else g j := by
    intro g
    unfold va_cpy
    by_cases h : p < j ∧ j ≤ n
    · rw [if_pos h, if_pos (by omega), show p + (j - (p + 1)) = j - 1 by omega]
    · rw [if_neg h, if_neg (by omega)]
  by_cases h9 : q = 9
  · subst h9
    by_cases hj : j = p
    · simp [sx_r, hj]
    · simp [sx_r, sf_r, hj, hcp]
  by_cases h8 : q = 8
  · subst h8
    by_cases hj : j = p
    · simp [sx_r, hj]
    · simp [sx_r, sf_r, hj, hcp]
  by_cases h7 : q = 7
  · subst h7
    by_cases hj : j = p
    · simp [sx_r, hj]
    · simp [sx_r, sf_r, hj, hcp]
  by_cases h6 : q = 6
  · subst h6
    by_cases hj : j = p
    · simp [sx_r, hj]
    · simp [sx_r, sf_r, hj, hcp]
  rw [if_neg (by omega)]
  by_cases h1 : q = 1
  · subst h1
    by_cases hj : j = 4
    · subst hj; simp [sx_r, sf_r, hc, nI_1]
    · simp [sx_r, sf_r, hj]
  · simp [sx_r, sf_r, h1, h6, h7, h8, h9]
theorem keep_spec {μ : Sg} {n : Nat} {k f s m : Int32} (hn : n < 300) : r_X6_keep μ k f s m n = nI (dwi (μ 7) m n) ∧
    (∀ q j, s_X6_keep μ k f s m n q j = if 4 ≤ q ∧ q ≤ 7 then (if j = dwi (μ 7) m n then (if q = 4 then k else if q = 5 then f else if q = 6 then s else m) else if dwi (μ 7) m n < j ∧ j ≤ n then μ q (j - 1) else μ q j) else if q = 0 ∧ j = 5 then μ 0 5 + 1 else μ q j) := by
  have hd := dw_X6 m n μ (by omega)
  have hle := dwi_le (μ 7) m n
  unfold r_X6_keep s_X6_keep
  rw [hd.1]
  have hd2 := hd.2
  generalize (dw_X6_keep m n μ).2 = D at hd2 ⊢
  clear hd
  generalize dwi (μ 7) m n = p at hle hd2 ⊢
  rw [nI_clamp (show p < 2 ^ 31 by omega)]
  refine ⟨rfl, fun q j => ?_⟩
  by_cases h7 : q = 7
  · subst h7
    by_cases hj : j = p
    · simp [sx_r, hj]
    · simp [sx_r, hj, hd2]
  by_cases h6 : q = 6
  · subst h6
    by_cases hj : j = p
    · simp [sx_r, hj]
    · simp [sx_r, hj, hd2]
  by_cases h5 : q = 5
  · subst h5
    by_cases hj : j = p
    · simp [sx_r, hj]
    · simp [sx_r, hj, hd2]
  by_cases h4 : q = 4
  · subst h4
    by_cases hj : j = p
    · simp [sx_r, hj]
    · simp [sx_r, hj, hd2]
  rw [if_neg (by omega)]
  have hdq : ∀ j, D q j = μ q j := fun j => by rw [hd2, if_neg (by omega)]
  by_cases h0 : q = 0
  · subst h0
    by_cases hj : j = 5
    · subst hj; simp [sx_r, hdq]
    · simp [sx_r, hj, hdq]
  · simp [sx_r, h0, h4, h5, h6, h7, hdq]
theorem sEq_ins {σ μ : Sg} {n : Nat} {k f s s' m : Int32} (hn : n < 300) (hc : σ 1 4 = nI n) (h : ∀ i, i < n → sEq σ μ i) (ht : tOK k f s) (hs : s = s' ∨ k = 2 ∨ k = 6 ∨ k = 7) :
    ∀ i, i < n + 1 → sEq (s_X4_insert σ k f s m n) (s_X6_keep μ k f s' m n) i := by
  have a := (ins_spec (k := k) (f := f) (s := s) (m := m) hn hc).2
  have b := (keep_spec (μ := μ) (k := k) (f := f) (s := s') (m := m) hn).2
  have ep : dwi (σ 9) m n = dwi (μ 7) m n := dwi_congr n (fun i hi => (h i hi).2.2.1)
  have hle := dwi_le (μ 7) m n
  rw [ep] at a
  intro i hi
  by_cases h1 : i = dwi (μ 7) m n
  · unfold sEq
    simp only [a, b, if_pos h1]
    simp (decide := true) only [if_true, if_false]
    exact ⟨trivial, trivial, trivial, hs, ht⟩
  · by_cases h2 : dwi (μ 7) m n < i
    · have hh := h (i - 1) (by omega)
      unfold sEq
      simp only [a, b, if_neg h1, if_pos (show dwi (μ 7) m n < i ∧ i ≤ n from ⟨h2, by omega⟩)]
      simp (decide := true) only [if_true]
      exact hh
    · have hh := h i (by omega)
      unfold sEq
      simp only [a, b, if_neg h1, if_neg (show ¬ (dwi (μ 7) m n < i ∧ i ≤ n) from fun z => h2 z.1)]
      simp (decide := true) only [if_true]
      exact hh
/-- what holds of the class behind n things heard -/
def CI (σ : Sg) (n : Nat) : Prop := σ 1 4 = nI n ∧ σ 0 6 = nI n ∧ n ≤ 300 ∧ (∀ i, i < n → tOK (σ 6 i) (σ 7 i) (σ 8 i)) ∧ (∀ i, i < n → σ 9 i ≤ σ 0 5) ∧ IQ σ n ∧ SU σ ∧ ∀ μ : Sg, (∀ i, i < n → sEq σ μ i) → QQ σ (RP μ n).1 (RP μ n).2
theorem kX_sy {a b : Sg} (h : kX a b) : kX b a := ⟨fun q j h1 h2 => (h.1 q j h1 h2).symm, h.2.1.symm, h.2.2.symm⟩
theorem q_06 {σ μ : Sg} {w v : Int32} (h : QQ σ μ w) : QQ (sx σ 0 6 v) μ w := by
  unfold QQ at h ⊢
  simp only [sx_o (show 13 ≠ 0 by decide), sx_o (show 14 ≠ 0 by decide), sx_o (show 15 ≠ 0 by decide), sx_o (show 3 ≠ 0 by decide), sx_o (show 16 ≠ 0 by decide), sx_o (show 17 ≠ 0 by decide), sx_o (show 18 ≠ 0 by decide), sx_o (show 19 ≠ 0 by decide), sx_o (show 20 ≠ 0 by decide), sx_o (show 21 ≠ 0 by decide), sx_o (show 22 ≠ 0 by decide), sx_o (show 23 ≠ 0 by decide), sx_o (show 24 ≠ 0 by decide), sx_o (show 25 ≠ 0 by decide), sx_o (show 26 ≠ 0 by decide), sx_o (show 27 ≠ 0 by decide), sx_o (show 28 ≠ 0 by decide)]
  have e8 : sx σ 0 6 v 0 8 = σ 0 8 := by rw [sx_r, if_pos rfl, if_neg (by decide)]
  have e7 : sx σ 0 6 v 0 7 = σ 0 7 := by rw [sx_r, if_pos rfl, if_neg (by decide)]
  rw [e8, e7]
  exact h
theorem ins_o {σ : Sg} {n : Nat} {k f s m : Int32} (hn : n < 300) (hc : σ 1 4 = nI n) (q : Nat) (hq : ¬ (6 ≤ q ∧ q ≤ 9)) (h1 : q ≠ 1) : s_X4_insert σ k f s m n q = σ q := by
  funext j
  rw [(ins_spec (k := k) (f := f) (s := s) (m := m) hn hc).2, if_neg hq, if_neg (fun z => h1 z.1)]
theorem q_ins {σ μ : Sg} {n : Nat} {k f s m w : Int32} (hn : n < 300) (hc : σ 1 4 = nI n) (h : QQ σ μ w) : QQ (s_X4_insert σ k f s m n) μ w := by
  have e := fun q a b => ins_o (σ := σ) (k := k) (f := f) (s := s) (m := m) hn hc q a b
  unfold QQ at h ⊢
  rw [e 13 (by decide) (by decide), e 14 (by decide) (by decide), e 15 (by decide) (by decide), e 3 (by decide) (by decide), e 16 (by decide) (by decide), e 17 (by decide) (by decide), e 18 (by decide) (by decide), e 19 (by decide) (by decide), e 20 (by decide) (by decide), e 21 (by decide) (by decide), e 22 (by decide) (by decide), e 23 (by decide) (by decide), e 24 (by decide) (by decide), e 25 (by decide) (by decide), e 26 (by decide) (by decide), e 27 (by decide) (by decide), e 28 (by decide) (by decide), e 0 (by decide) (by decide)]
  exact h
theorem iq_ins {σ : Sg} {n b : Nat} {k f s m : Int32} (hn : n < 300) (hc : σ 1 4 = nI n) (h : IQ σ b) : IQ (s_X4_insert σ k f s m n) b := by
  have e := fun q a b => ins_o (σ := σ) (k := k) (f := f) (s := s) (m := m) hn hc q a b
  unfold IQ at h ⊢
  rw [e 13 (by decide) (by decide), e 14 (by decide) (by decide), e 16 (by decide) (by decide), e 17 (by decide) (by decide), e 18 (by decide) (by decide), e 27 (by decide) (by decide)]
  exact h
theorem su_ins {σ : Sg} {n : Nat} {k f s m : Int32} (hn : n < 300) (hc : σ 1 4 = nI n) (h : SU σ) : SU (s_X4_insert σ k f s m n) := by
  have e := fun q a b => ins_o (σ := σ) (k := k) (f := f) (s := s) (m := m) hn hc q a b
  unfold SU at h ⊢
  rw [e 19 (by decide) (by decide), e 24 (by decide) (by decide)]
  exact h
/-- the story of the class, as the reference would hold it -/
def mX (σ : Sg) : Sg := fun q j => if q = 4 then σ 6 j else if q = 5 then σ 7 j else if q = 6 then σ 8 j else if q = 7 then σ 9 j else 0
theorem mX_eq {σ : Sg} {i : Nat} (h : tOK (σ 6 i) (σ 7 i) (σ 8 i)) : sEq σ (mX σ) i := ⟨rfl, rfl, rfl, Or.inl rfl, h⟩
theorem okX_of {x : Sg} {b i : Nat} (hi : i < 300) (hI : IQ x b) (ht : tOK (x 6 i) (x 7 i) (x 8 i)) : okX x (nI i) := by
  have ec : (nI i).toNatClampNeg = i := nI_clamp (by omega)
  have k := kY_ceu (m := x 9 i) (kY_r x)
  unfold okX
  rw [ec, k.1.1 6 i (by decide) (by decide)]
  exact ⟨tOK_hT ht, hX_of (iq_minute _ hI)⟩
