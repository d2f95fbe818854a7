-- the pure part: what was written is read; loops place by place; the class's contents beside the reference's
theorem sx_r (σ : Sg) (k i : Nat) (x : Int32) (q j : Nat) : sx σ k i x q j = if q = k then (if j = i then x else σ q j) else σ q j := by
  unfold sx upd
  by_cases h : q = k <;> simp [h]
theorem sf_r (σ : Sg) (k : Nat) (f : Nat → Int32) (q j : Nat) : sf σ k f q j = if q = k then f j else σ q j := by
  unfold sf
  by_cases h : q = k <;> simp [h]
theorem ceu_loop (mi : Int32) (σ : Sg) : ∀ n, n ≤ 8 → ∀ q j, itn (st_X3_countEmptyUntil_2 mi) n σ q j = if q = 15 ∧ j < n then (if σ 14 j = 0 then (σ 15 j + mi) - σ 3 3 else σ 15 j) else σ q j := by
  intro n
  induction n with
  | zero => intro _ q j; simp [itn]
  | succ n ih =>
    intro hn q j
    have ih := ih (by omega)
    show st_X3_countEmptyUntil_2 mi n (itn (st_X3_countEmptyUntil_2 mi) n σ) q j = _
    generalize itn (st_X3_countEmptyUntil_2 mi) n σ = x at ih ⊢
    unfold st_X3_countEmptyUntil_2 r_X3_emptyMinutes
    rw [sx_r, nI_clamp (show n < 2 ^ 31 by omega)]
    have e1 : x 14 n = σ 14 n := by rw [ih]; simp
    have e2 : x 15 n = σ 15 n := by rw [ih]; simp
    have e3 : x 3 3 = σ 3 3 := by rw [ih]; simp
    rw [e1, e2, e3, ih]
    by_cases hq : q = 15
    · subst hq
      by_cases hj : j = n
      · subst hj; simp
      · by_cases h2 : j < n
        · have h3 : j < n + 1 := by omega
          simp [hj, h2, h3]
        · have h3 : ¬ j < n + 1 := by omega
          simp [hj, h2, h3]
    · simp [hq]
theorem stand_loop (fr to : Int32) (σ : Sg) : ∀ n, n ≤ 8 → ∀ q j, itn (st_X6_stand_2 fr to) n σ q j = if q = 10 ∧ j < n then (if σ 9 j = 0 then σ 10 j + (to - fr) else σ 10 j + 0) else σ q j := by
  intro n
  induction n with
  | zero => intro _ q j; simp [itn]
  | succ n ih =>
    intro hn q j
    have ih := ih (by omega)
    show st_X6_stand_2 fr to n (itn (st_X6_stand_2 fr to) n σ) q j = _
    generalize itn (st_X6_stand_2 fr to) n σ = x at ih ⊢
    unfold st_X6_stand_2
    rw [nI_clamp (show n < 2 ^ 31 by omega)]
    have e1 : x 9 n = σ 9 n := by rw [ih]; simp
    have e2 : x 10 n = σ 10 n := by rw [ih]; simp
    rw [e1, e2]
    by_cases h9 : σ 9 n = 0
    · rw [if_pos h9, sx_r, ih]
      by_cases hq : q = 10
      · subst hq
        by_cases hj : j = n
        · subst hj; simp [h9]
        · by_cases h2 : j < n
          · have h3 : j < n + 1 := by omega
            simp [hj, h2, h3]
          · have h3 : ¬ j < n + 1 := by omega
            simp [hj, h2, h3]
      · simp [hq]
    · rw [if_neg h9, sx_r, ih]
      by_cases hq : q = 10
      · subst hq
        by_cases hj : j = n
        · subst hj; simp [h9]
        · by_cases h2 : j < n
          · have h3 : j < n + 1 := by omega
            simp [hj, h2, h3]
          · have h3 : ¬ j < n + 1 := by omega
            simp [hj, h2, h3]
      · simp [hq]
/-- the contents of the class beside those of the reference, the reference's minute being w -/
def QQ (σ μ : Sg) (w : Int32) : Prop :=
  (∀ j, j < 8 → σ 13 j = μ 8 j) ∧ (∀ j, j < 8 → σ 14 j = μ 9 j) ∧ (∀ j, j < 8 → σ 15 j = μ 10 j) ∧ σ 3 3 = w ∧
  (∀ j, j < 30 → σ 16 j = μ 11 j) ∧ (∀ j, j < 30 → σ 17 j = μ 12 j) ∧ (∀ j, j < 30 → σ 18 j = μ 13 j) ∧ (∀ j, j < 30 → σ 19 j = μ 17 j) ∧
  (∀ j, j < 30 → σ 16 j = 2 → σ 20 j = μ 14 j) ∧ (∀ j, j < 30 → σ 16 j = 2 → σ 21 j = μ 15 j) ∧ (∀ j, j < 30 → σ 16 j = 2 → σ 22 j = μ 16 j) ∧
  (∀ j, j < 10 → σ 23 j = μ 18 j) ∧ (∀ j, j < 10 → σ 24 j = μ 19 j) ∧ (∀ j, j < 10 → σ 25 j = μ 21 j) ∧ (∀ j, j < 10 → σ 26 j = μ 20 j) ∧ (∀ j, j < 10 → σ 27 j = μ 22 j) ∧
  (∀ j, j < 10 → ¬ σ 27 j = -1 → σ 28 j = μ 23 j) ∧ σ 0 8 = μ 0 26 ∧ σ 0 7 = μ 0 27
theorem q_dock {σ μ : Sg} {w : Int32} (h : QQ σ μ w) {cy st : Nat} (hc : cy < 30) (hs : st < 8) : QQ (s_X5_dock σ (nI cy) (nI st)) (s_X6_dock μ (nI cy) (nI st)) w := by
  obtain ⟨h1, h2, h3, h4, h5, h6, h7, h8, h9, h10, h11, h12, h13, h14, h15, h16, h17, h18, h19⟩ := h
  have ec : (nI cy).toNatClampNeg = cy := nI_clamp (by omega)
  have es : (nI st).toNatClampNeg = st := nI_clamp (by omega)
  unfold s_X5_dock s_X6_dock
  rw [ec, es]
  refine ⟨?_, ?_, ?_, ?_, ?_, ?_, ?_, ?_, ?_, ?_, ?_, ?_, ?_, ?_, ?_, ?_, ?_, ?_, ?_⟩
  · intro j hj; simp [sx_r, h1 j hj]
  · intro j hj; simp [sx_r, h2 j hj, h2 st hs]
  · intro j hj; simp [sx_r, h3 j hj]
  · simp [sx_r, h4]
  · intro j hj; simp [sx_r, h5 j hj]
  · intro j hj; simp [sx_r, h6 j hj]
  · intro j hj; simp [sx_r, h7 j hj]
  · intro j hj; simp [sx_r, h8 j hj]
  · intro j hj; by_cases e : j = cy <;> simp [sx_r, e]; exact h9 j hj
  · intro j hj; by_cases e : j = cy <;> simp [sx_r, e]; exact h10 j hj
  · intro j hj; by_cases e : j = cy <;> simp [sx_r, e]; exact h11 j hj
  · intro j hj; simp [sx_r, h12 j hj]
  · intro j hj; simp [sx_r, h13 j hj]
  · intro j hj; simp [sx_r, h14 j hj]
  · intro j hj; simp [sx_r, h15 j hj]
  · intro j hj; simp [sx_r, h16 j hj]
  · intro j hj; simp [sx_r]; exact h17 j hj
  · simp [sx_r, h18]
  · simp [sx_r, h19]
