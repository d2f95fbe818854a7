-- beginning anew, the replay
theorem bg_2 (σ : Sg) : ∀ n, n ≤ 8 → ∀ q j, itn st_X6_begin_2 n σ q j = if (q = 8 ∨ q = 9 ∨ q = 10) ∧ j < n then 0 else σ q j := by
  intro n
  induction n with
  | zero => intro _ q j; simp [itn]
  | succ n ih =>
    intro hn q j
    have ih := ih (by omega)
    show st_X6_begin_2 n (itn st_X6_begin_2 n σ) q j = _
    generalize itn st_X6_begin_2 n σ = x at ih ⊢
    unfold st_X6_begin_2
    rw [nI_clamp (show n < 2 ^ 31 by omega)]
    simp only [sx_r, ih]
    grind
theorem bg_37 (σ : Sg) : ∀ n, n ≤ 30 → ∀ q j, itn st_X6_begin_37 n σ q j = if (q = 11 ∨ q = 13 ∨ q = 17) ∧ j < n then 0 else if q = 12 ∧ j < n then -1 else σ q j := by
  intro n
  induction n with
  | zero => intro _ q j; simp [itn]
  | succ n ih =>
    intro hn q j
    have ih := ih (by omega)
    show st_X6_begin_37 n (itn st_X6_begin_37 n σ) q j = _
    generalize itn st_X6_begin_37 n σ = x at ih ⊢
    unfold st_X6_begin_37
    rw [nI_clamp (show n < 2 ^ 31 by omega)]
    simp only [sx_r, ih]
    grind
theorem bg_79 (σ : Sg) : ∀ n, n ≤ 10 → ∀ q j, itn st_X6_begin_79 n σ q j = if (q = 18 ∨ q = 19 ∨ q = 20 ∨ q = 21) ∧ j < n then 0 else if q = 22 ∧ j < n then -1 else σ q j := by
  intro n
  induction n with
  | zero => intro _ q j; simp [itn]
  | succ n ih =>
    intro hn q j
    have ih := ih (by omega)
    show st_X6_begin_79 n (itn st_X6_begin_79 n σ) q j = _
    generalize itn st_X6_begin_79 n σ = x at ih ⊢
    unfold st_X6_begin_79
    rw [nI_clamp (show n < 2 ^ 31 by omega)]
    simp only [sx_r, ih]
    grind
theorem clr2_r (σ : Sg) (q j : Nat) : s_X2_clear σ q j = if q = 27 then -1 else if 23 ≤ q ∧ q ≤ 28 then 0 else σ q j := by
  unfold s_X2_clear
  simp only [sf_r]
  repeat' split
  all_goals first | rfl | (exfalso; omega)
theorem clr0_r (σ : Sg) (q j : Nat) : s_X0_clear σ q j = if q = 17 then -1 else if 16 ≤ q ∧ q ≤ 22 then 0 else σ q j := by
  unfold s_X0_clear
  simp only [sf_r]
  repeat' split
  all_goals first | rfl | (exfalso; omega)
theorem clr3_r (σ : Sg) (q j : Nat) : s_X3_clear σ q j = if 13 ≤ q ∧ q ≤ 15 then 0 else if q = 3 ∧ j = 3 then 0 else σ q j := by
  unfold s_X3_clear
  simp only [sx_r, sf_r]
  repeat' split
  all_goals first | rfl | (exfalso; omega)
theorem anew_r (σ : Sg) (q j : Nat) : s_X5_beginAnew σ q j = if q = 17 ∨ q = 27 then -1 else if 13 ≤ q ∧ q ≤ 28 then 0 else if q = 3 ∧ j = 3 then 0 else if q = 0 ∧ j = 8 then 1 else if q = 0 ∧ (j = 6 ∨ j = 7) then 0 else σ q j := by
  unfold s_X5_beginAnew
  rw [clr2_r, clr0_r, clr3_r]
  simp only [sx_r]
  repeat' split
  all_goals first | rfl | (exfalso; omega)
theorem q_anew (σ μ : Sg) : QQ (s_X5_beginAnew σ) (s_X6_begin μ) 0 := by
  have a : ∀ q j, s_X6_begin μ q j = if q = 0 ∧ j = 27 then 0 else if q = 0 ∧ j = 26 then 1 else if (q = 18 ∨ q = 19 ∨ q = 20 ∨ q = 21) ∧ j < 10 then 0 else if q = 22 ∧ j < 10 then -1 else if (q = 11 ∨ q = 13 ∨ q = 17) ∧ j < 30 then 0 else if q = 12 ∧ j < 30 then -1 else if (q = 8 ∨ q = 9 ∨ q = 10) ∧ j < 8 then 0 else μ q j := by
    intro q j
    unfold s_X6_begin
    rw [sx_r, sx_r, bg_79 _ 10 (Nat.le_refl _), bg_37 _ 30 (Nat.le_refl _), bg_2 _ 8 (Nat.le_refl _)]
    repeat' split
    all_goals first | rfl | (exfalso; omega)
  have c := anew_r σ
  unfold QQ
  refine ⟨?_, ?_, ?_, ?_, ?_, ?_, ?_, ?_, ?_, ?_, ?_, ?_, ?_, ?_, ?_, ?_, ?_, ?_, ?_⟩
  all_goals (try intro j hj)
  all_goals simp [a, c]
  all_goals (try omega)
theorem iq_anew (σ : Sg) : IQ (s_X5_beginAnew σ) 0 := by
  have c := anew_r σ
  refine ⟨?_, ?_, ?_, ?_, ?_, ?_⟩
  · intro j hj h; rw [c] at h; simp at h
  · intro j hj h; rw [c] at h; simp at h
  · intro j hj; exact ⟨0, by decide, by rw [c, nI_0]; simp⟩
  · intro j hj; left; rw [c]; simp
  · intro j hj; exact ⟨0, by decide, by rw [c, nI_0]; simp⟩
  · intro j hj; rw [c]; simp [zI]
/-- the reference's replay of n things -/
def RP (μ : Sg) (n : Nat) : Sg × Int32 := itn (st_X6_goThrough_13 μ) n (s_X6_begin μ, 0)
theorem q_28 {σ μ : Sg} {w : Int32} (h : QQ σ μ w) (v : Int32) : QQ σ (sx μ 0 28 v) w := by
  obtain ⟨h1, h2, h3, h4, h5, h6, h7, h8, h9, h10, h11, h12, h13, h14, h15, h16, h17, h18, h19⟩ := h
  refine ⟨?_, ?_, ?_, ?_, ?_, ?_, ?_, ?_, ?_, ?_, ?_, ?_, ?_, ?_, ?_, ?_, ?_, ?_, ?_⟩
  · intro j hj; simp [sx_r, h1 j hj]
  · intro j hj; simp [sx_r, h2 j hj]
  · intro j hj; simp [sx_r, h3 j hj]
  · exact h4
  · intro j hj; simp [sx_r, h5 j hj]
  · intro j hj; simp [sx_r, h6 j hj]
  · intro j hj; simp [sx_r, h7 j hj]
  · intro j hj; simp [sx_r, h8 j hj]
  · intro j hj; simp [sx_r]; exact h9 j hj
  · intro j hj; simp [sx_r]; exact h10 j hj
  · intro j hj; simp [sx_r]; exact h11 j hj
  · intro j hj; simp [sx_r, h12 j hj]
  · intro j hj; simp [sx_r, h13 j hj]
  · intro j hj; simp [sx_r, h14 j hj]
  · intro j hj; simp [sx_r, h15 j hj]
  · intro j hj; simp [sx_r, h16 j hj]
  · intro j hj; simp [sx_r]; exact h17 j hj
  · simp [sx_r, h18]
  · simp [sx_r, h19]
theorem st13_spec (μ x : Sg) (w : Int32) {i : Nat} (hi : i < 300) :
    kM (st_X6_goThrough_13 μ i (x, w)).1 x ∧ (st_X6_goThrough_13 μ i (x, w)).2 = x 7 i ∧
    (st_X6_goThrough_13 μ i (x, w)).1 0 28 = (if r_X6_does (s_X6_stand x w (x 7 i)) (nI i) = 0 then (if nI i = μ 0 28 then -1 else x 0 28) else x 0 28) ∧
    ∀ {τ : Sg}, QQ τ (s_X6_does (s_X6_stand x w (x 7 i)) (nI i)) (x 7 i) → QQ (if r_X6_does (s_X6_stand x w (x 7 i)) (nI i) = 0 then sx τ 0 7 (τ 0 7 + 1) else τ) (st_X6_goThrough_13 μ i (x, w)).1 (st_X6_goThrough_13 μ i (x, w)).2 := by
  have ec : (nI i).toNatClampNeg = i := nI_clamp (by omega)
  have hb : s_X6_begin μ 0 28 = μ 0 28 := (kN_begin (kN_r μ)).2
  have hs := kN_stand (a := w) (b := x 7 i) (kN_r x)
  have hd := kN_does (i := nI i) hs
  have e7 : s_X6_stand x w (x 7 i) 7 i = x 7 i := hs.1.1 7 i (by decide) (by decide)
  unfold st_X6_goThrough_13
  rw [ec, hb]
  dsimp only
  generalize s_X6_stand x w (x 7 i) = y at hs hd e7 ⊢
  rw [e7]
  generalize s_X6_does y (nI i) = z at hd ⊢
  by_cases h0 : r_X6_does y (nI i) = 0
  · rw [if_pos h0, if_pos h0]
    by_cases h1 : nI i = μ 0 28
    · rw [if_pos h1, if_pos h1]
      exact ⟨kM_0 (kM_0 hd.1 (by decide)) (by decide), rfl, by simp [sx_r], fun hq => by rw [if_pos h0]; exact q_28 (q_odd hq) _⟩
    · rw [if_neg h1, if_neg h1]
      exact ⟨kM_0 (kM_0 hd.1 (by decide)) (by decide), rfl, by simp [sx_r, hd.2], fun hq => by rw [if_pos h0]; exact q_28 (q_odd hq) _⟩
  · rw [if_neg h0, if_neg h0]
    exact ⟨hd.1, rfl, hd.2, fun hq => by rw [if_neg h0]; exact hq⟩
theorem itn_s {α : Type} (f : Nat → α → α) (n : Nat) (x : α) : itn f (n + 1) x = f n (itn f n x) := rfl
theorem RP_s (μ : Sg) (n : Nat) : RP μ (n + 1) = st_X6_goThrough_13 μ n ((RP μ n).1, (RP μ n).2) := itn_s (st_X6_goThrough_13 μ) n (s_X6_begin μ, 0)
theorem kM_RP (μ : Sg) : ∀ n, n ≤ 300 → kM (RP μ n).1 μ := by
  intro n
  induction n with
  | zero => intro _; exact (kN_begin (kN_r μ)).1
  | succ n ih =>
    intro hn
    have h := (st13_spec μ (RP μ n).1 (RP μ n).2 (show n < 300 by omega)).1
    rw [RP_s]
    exact kM_tr h (ih (by omega))
theorem sEq_tr {σ μ τ x : Sg} {i : Nat} (h : sEq σ μ i) (hx : kX τ σ) (hm : kM x μ) : sEq τ x i := by
  obtain ⟨h6, h7, h9, h8, ht⟩ := h
  unfold sEq
  rw [hx.1 6 i (by decide) (by decide), hx.1 7 i (by decide) (by decide), hx.1 8 i (by decide) (by decide), hx.1 9 i (by decide) (by decide), hm.1 4 i (by decide) (by decide), hm.1 5 i (by decide) (by decide), hm.1 6 i (by decide) (by decide), hm.1 7 i (by decide) (by decide)]
  exact ⟨h6, h7, h9, h8, ht⟩
/-- the class's things from g on beside the reference's replay -/
theorem rep {σ μ : Sg} {n g : Nat} (hn : n ≤ 300) (hs : ∀ i, i < n → sEq σ μ i) (h0 : QQ σ (RP μ g).1 (RP μ g).2) (hI : IQ σ g) (hS : SU σ) : ∀ k, g + k ≤ n →
    QQ (itn (fun i => st_X5_hear_41 (g + i)) k (σ, 1)).1 (RP μ (g + k)).1 (RP μ (g + k)).2 ∧ IQ (itn (fun i => st_X5_hear_41 (g + i)) k (σ, 1)).1 (g + k) ∧ SU (itn (fun i => st_X5_hear_41 (g + i)) k (σ, 1)).1 ∧ kY (itn (fun i => st_X5_hear_41 (g + i)) k (σ, 1)).1 σ ∧
    (∀ j, k = j + 1 → (itn (fun i => st_X5_hear_41 (g + i)) k (σ, 1)).2 = r_X6_does (s_X6_stand (RP μ (g + j)).1 (RP μ (g + j)).2 ((RP μ (g + j)).1 7 (g + j))) (nI (g + j))) := by
  intro k
  induction k with
  | zero => intro _; exact ⟨h0, hI, hS, kY_r σ, fun j hj => absurd hj (by omega)⟩
  | succ k ih =>
    intro hk
    obtain ⟨q1, q2, q3, q4, -⟩ := ih (by omega)
    have hi : g + k < 300 := by omega
    have se := sEq_tr (hs (g + k) (by omega)) q4.1 (kM_RP μ (g + k) (by omega))
    have s1 := sim1 hi q1 q2 (by omega) se
    have su := su_happens hi q3 q2 se.2.2.2.2
    have sp := (st13_spec μ (RP μ (g + k)).1 (RP μ (g + k)).2 hi).2.2.2 s1.2.1
    have er : RP μ (g + (k + 1)) = st_X6_goThrough_13 μ (g + k) ((RP μ (g + k)).1, (RP μ (g + k)).2) := RP_s μ (g + k)
    have ex : itn (fun i => st_X5_hear_41 (g + i)) (k + 1) (σ, 1) = st_X5_hear_41 (g + k) ((itn (fun i => st_X5_hear_41 (g + i)) k (σ, 1)).1, (itn (fun i => st_X5_hear_41 (g + i)) k (σ, 1)).2) := itn_s (fun i => st_X5_hear_41 (g + i)) k (σ, 1)
    rw [er, ex]
    generalize itn (fun i => st_X5_hear_41 (g + i)) k (σ, 1) = y at q1 q2 q3 q4 se s1 su sp ⊢
    unfold st_X5_hear_41
    dsimp only
    rw [← s1.1] at sp
    have ky : kY (s_X5_happens y.1 (nI (g + k))) σ := kY_tr kY_happens q4
    by_cases h9 : r_X5_happens y.1 (nI (g + k)) = 0
    · rw [if_pos h9] at sp ⊢
      exact ⟨sp, iq_scalar s1.2.2 _, su_sx su (by decide) (by decide), kY_0 ky (by decide), fun j hj => (Nat.succ.inj hj) ▸ s1.1⟩
    · rw [if_neg h9] at sp ⊢
      exact ⟨sp, s1.2.2, su, ky, fun j hj => (Nat.succ.inj hj) ▸ s1.1⟩
