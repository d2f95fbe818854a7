-- what is asked: the reference's going through beside the class's contents
theorem st_o (x : Sg) (a b : Int32) (q j : Nat) (h : q ≠ 10) : s_X6_stand x a b q j = x q j := by
  unfold s_X6_stand
  rw [stand_loop a b x 8 (Nat.le_refl _) q j, if_neg (fun z => h z.1)]
theorem st_10 (x : Sg) (a b : Int32) (j : Nat) (h : j < 8) : s_X6_stand x a b 10 j = if x 9 j = 0 then x 10 j + (b - a) else x 10 j + 0 := by
  unfold s_X6_stand
  rw [stand_loop a b x 8 (Nat.le_refl _) 10 j, if_pos ⟨rfl, h⟩]
theorem gt_eq (μ : Sg) (n : Nat) : s_X6_goThrough μ n = itn st_X6_goThrough_91 30 (s_X6_stand (RP μ n).1 (RP μ n).2 ((RP μ n).1 0 1)) := rfl
theorem gt_o (μ : Sg) (n q j : Nat) (h10 : q ≠ 10) (h1 : q ≠ 17) (h2 : q ≠ 19) (h3 : q ≠ 21) : s_X6_goThrough μ n q j = (RP μ n).1 q j := by
  rw [gt_eq, st91_k _ _ _ _ h1 h2 h3, st_o _ _ _ _ _ h10]
theorem gt_M (μ : Sg) {n : Nat} (hn : n ≤ 300) : kM (s_X6_goThrough μ n) μ := by
  have k := kM_RP μ n hn
  exact ⟨fun q j a b => (gt_o μ n q j (by omega) (by omega) (by omega) (by omega)).trans (k.1 q j a b), fun j a => (gt_o μ n 0 j (by omega) (by omega) (by omega) (by omega)).trans (k.2 j a)⟩
/-- a ride that goes on, counted -/
theorem ride_r {x : Sg} {c r : Nat} {now : Int32} (hc : c < 30) (hr : r < 10) (hh : x 12 c = nI r) : ∀ q j, s_X6_ride x (nI c) now q j =
    if q = 17 ∧ j = c then x 17 c + (now - x 14 c) else if q = 19 ∧ j = r then x 19 r + (now - x 14 c) else if q = 21 ∧ j = r then x 21 r + (if ((now - x 14 c) - 30) - x 16 c ≤ 0 then 0 else ((((now - x 14 c) - 30) - x 16 c) * x 15 c)) else x q j := by
  intro q j
  have ec : (nI c).toNatClampNeg = c := nI_clamp (by omega)
  have er : (nI r).toNatClampNeg = r := nI_clamp (by omega)
  unfold s_X6_ride
  rw [ec, hh, er]
  by_cases hd : ((now - x 14 c) - 30) - x 16 c ≤ 0
  · rw [if_pos hd, if_pos hd]
    simp only [sx_r]
    grind
  · rw [if_neg hd, if_neg hd]
    simp only [sx_r]
    grind
theorem gt_rides {σ z : Sg} {now : Int32} {b : Nat} (hI : IQ σ b) (hnow : z 0 1 = now) (h16 : ∀ j, j < 30 → σ 16 j = z 11 j) (h17 : ∀ j, j < 30 → σ 17 j = z 12 j) (h19 : ∀ j, j < 30 → σ 19 j = z 17 j) (h20 : ∀ j, j < 30 → σ 16 j = 2 → σ 20 j = z 14 j) (h21 : ∀ j, j < 30 → σ 16 j = 2 → σ 21 j = z 15 j) (h22 : ∀ j, j < 30 → σ 16 j = 2 → σ 22 j = z 16 j)
    (h24 : ∀ j, j < 10 → σ 24 j = z 19 j) (h25 : ∀ j, j < 10 → σ 25 j = z 21 j) (h05 : σ 0 5 = now) : ∀ i, i ≤ 30 →
    (∀ r, r < 10 → itn st_X6_goThrough_91 i z 19 r = itn (st_X5_minutesOf_12 σ (nI r)) i (σ 24 r)) ∧ (∀ r, r < 10 → itn st_X6_goThrough_91 i z 21 r = σ 25 r + itn (st_X5_costGoingOn_4 σ (nI r)) i 0) ∧
    (∀ j, j < 30 → itn st_X6_goThrough_91 i z 17 j = if j < i then σ 19 j + r_X0_minutesGoingOn σ (nI j) now else σ 19 j) := by
  intro i
  induction i with
  | zero => intro _; exact ⟨fun r hr => (h24 r hr).symm, fun r hr => by show z 21 r = σ 25 r + 0; rw [h25 r hr]; grind, fun j hj => by rw [if_neg (by omega)]; exact (h19 j hj).symm⟩
  | succ i ih =>
    intro hi
    obtain ⟨a1, a2, a3⟩ := ih (by omega)
    have ec : (nI i).toNatClampNeg = i := nI_clamp (by omega)
    have k11 := st91_k z i 11 i (by decide) (by decide) (by decide)
    have k12 := st91_k z i 12 i (by decide) (by decide) (by decide)
    have k14 := st91_k z i 14 i (by decide) (by decide) (by decide)
    have k15 := st91_k z i 15 i (by decide) (by decide) (by decide)
    have k16 := st91_k z i 16 i (by decide) (by decide) (by decide)
    have k01 := st91_k z i 0 1 (by decide) (by decide) (by decide)
    rw [itn_s]
    generalize itn st_X6_goThrough_91 i z = y at a1 a2 a3 k11 k12 k14 k15 k16 k01 ⊢
    have m0 : r_X0_minutesGoingOn σ (nI i) now = if σ 16 i = 2 then now - σ 20 i else 0 := by unfold r_X0_minutesGoingOn; rw [ec]
    have rb : ∀ ri : Int32, r_X0_isRiddenBy σ (nI i) ri = if σ 16 i = 2 then (if σ 17 i = ri then 1 else 0) else 0 := fun ri => by unfold r_X0_isRiddenBy; rw [ec]
    have sM : ∀ (ri x : Int32), st_X5_minutesOf_12 σ ri i x = if r_X0_isRiddenBy σ (nI i) ri = 0 then x else x + r_X0_minutesGoingOn σ (nI i) now := fun ri x => by unfold st_X5_minutesOf_12; rw [h05]
    have sC : ∀ (ri x : Int32), st_X5_costGoingOn_4 σ ri i x = if r_X0_isRiddenBy σ (nI i) ri = 0 then x else x + r_X0_rideCost σ (nI i) (r_X0_minutesGoingOn σ (nI i) now) := fun ri x => by unfold st_X5_costGoingOn_4; rw [h05]
    have e91 : st_X6_goThrough_91 i y = if σ 16 i = 2 then s_X6_ride y (nI i) now else y := by
      unfold st_X6_goThrough_91
      rw [ec, k11, k01, hnow, ← h16 i (by omega)]
    rw [e91]
    by_cases h2 : σ 16 i = 2
    · rw [if_pos h2]
      obtain ⟨r0, hr0, hh⟩ := hI.2.1 i (by omega) h2
      have hy : y 12 i = nI r0 := by rw [k12, ← h17 i (by omega)]; exact hh
      have hR := ride_r (x := y) (now := now) (show i < 30 by omega) hr0 hy
      rw [if_pos h2] at m0
      have e14 : y 14 i = σ 20 i := by rw [k14, h20 i (by omega) h2]
      have e15 : y 15 i = σ 21 i := by rw [k15, h21 i (by omega) h2]
      have e16 : y 16 i = σ 22 i := by rw [k16, h22 i (by omega) h2]
      have rb2 : ∀ r, r < 10 → (r_X0_isRiddenBy σ (nI i) (nI r) = 0 ↔ ¬ r = r0) := fun r hr => by
        rw [rb, if_pos h2, hh]
        by_cases e : r = r0
        · subst e; simp
        · have ne : ¬ nI r0 = nI r := fun q => e ((nI_eq (by omega) (by omega)).mp q).symm
          rw [if_neg ne]; simp [e]
      refine ⟨fun r hr => ?_, fun r hr => ?_, fun j hj => ?_⟩
      · rw [itn_s, sM, hR, ← a1 r hr, e14, m0]
        by_cases e : r = r0
        · rw [if_neg (fun q => ((rb2 r hr).mp q) e), if_neg (by omega), if_pos ⟨rfl, e⟩, e]
        · rw [if_pos ((rb2 r hr).mpr e), if_neg (by omega), if_neg (fun q => e q.2), if_neg (by omega)]
      · rw [itn_s, sC, hR, e14, e15, e16, m0]
        by_cases e : r = r0
        · rw [if_neg (fun q => ((rb2 r hr).mp q) e), if_neg (by omega), if_neg (by omega), if_pos ⟨rfl, e⟩, e, a2 r0 hr0]
          have hc : r_X0_rideCost σ (nI i) (now - σ 20 i) = (if ((now - σ 20 i) - 30) - σ 22 i ≤ 0 then 0 else ((((now - σ 20 i) - 30) - σ 22 i) * σ 21 i)) := by
            unfold r_X0_rideCost
            rw [ec]
            by_cases hd : ((now - σ 20 i) - 30) - σ 22 i ≤ 0
            · rw [if_pos hd, if_neg (fun q => (i_nle.mpr q) hd), Int32.mul_zero]
            · rw [if_neg hd, if_pos (i_nle.mp hd), Int32.mul_comm]
          rw [hc]
          grind
        · rw [if_pos ((rb2 r hr).mpr e), if_neg (by omega), if_neg (by omega), if_neg (fun q => e q.2), a2 r hr]
      · rw [hR]
        by_cases e : j = i
        · subst e
          rw [if_pos ⟨rfl, rfl⟩, if_pos (by omega), a3 j hj, if_neg (by omega), e14, m0]
        · rw [if_neg (fun q => e q.2), if_neg (by omega), if_neg (by omega), a3 j hj]
          by_cases e2 : j < i
          · rw [if_pos e2, if_pos (by omega)]
          · rw [if_neg e2, if_neg (by omega)]
    · rw [if_neg h2]
      have rb0 : ∀ ri, r_X0_isRiddenBy σ (nI i) ri = 0 := fun ri => by rw [rb, if_neg h2]
      refine ⟨fun r hr => ?_, fun r hr => ?_, fun j hj => ?_⟩
      · rw [itn_s, sM, if_pos (rb0 _)]; exact a1 r hr
      · rw [itn_s, sC, if_pos (rb0 _)]; exact a2 r hr
      · rw [a3 j hj]
        by_cases e : j = i
        · subst e
          rw [if_neg (by omega), if_pos (by omega), m0, if_neg h2]; grind
        · by_cases e2 : j < i
          · rw [if_pos e2, if_pos (by omega)]
          · rw [if_neg e2, if_neg (by omega)]
/-- the contents of the class, with what goes on counted in, up to now -/
def fX (σ : Sg) (f : Sg) : Sg := fun q j => if q = 15 then f 10 j else if q = 19 then f 17 j else if q = 24 then f 19 j else if q = 25 then f 21 j else σ q j
theorem gt_aux {σ f x : Sg} {w : Int32} {n : Nat} (hq : QQ σ x w) (c6 : IQ σ n) (go : ∀ q j, q ≠ 10 → q ≠ 17 → q ≠ 19 → q ≠ 21 → f q j = x q j) : QQ (fX σ f) f (σ 3 3) ∧ IQ (fX σ f) n := by
  obtain ⟨h1, h2, h3, h4, h5, h6, h7, h8, h9, h10, h11, h12, h13, h14, h15, h16, h17, h18, h19⟩ := hq
  obtain ⟨i1, i2, i3, i4, i5, i6⟩ := c6
  refine ⟨⟨?_, ?_, ?_, ?_, ?_, ?_, ?_, ?_, ?_, ?_, ?_, ?_, ?_, ?_, ?_, ?_, ?_, ?_, ?_⟩, ⟨?_, ?_, ?_, ?_, ?_, ?_⟩⟩
  · intro j hj; show σ 13 j = f 8 j; rw [go 8 j (by decide) (by decide) (by decide) (by decide)]; exact h1 j hj
  · intro j hj; show σ 14 j = f 9 j; rw [go 9 j (by decide) (by decide) (by decide) (by decide)]; exact h2 j hj
  · intro j hj; rfl
  · rfl
  · intro j hj; show σ 16 j = f 11 j; rw [go 11 j (by decide) (by decide) (by decide) (by decide)]; exact h5 j hj
  · intro j hj; show σ 17 j = f 12 j; rw [go 12 j (by decide) (by decide) (by decide) (by decide)]; exact h6 j hj
  · intro j hj; show σ 18 j = f 13 j; rw [go 13 j (by decide) (by decide) (by decide) (by decide)]; exact h7 j hj
  · intro j hj; rfl
  · intro j hj; show σ 16 j = 2 → σ 20 j = f 14 j; rw [go 14 j (by decide) (by decide) (by decide) (by decide)]; exact h9 j hj
  · intro j hj; show σ 16 j = 2 → σ 21 j = f 15 j; rw [go 15 j (by decide) (by decide) (by decide) (by decide)]; exact h10 j hj
  · intro j hj; show σ 16 j = 2 → σ 22 j = f 16 j; rw [go 16 j (by decide) (by decide) (by decide) (by decide)]; exact h11 j hj
  · intro j hj; show σ 23 j = f 18 j; rw [go 18 j (by decide) (by decide) (by decide) (by decide)]; exact h12 j hj
  · intro j hj; rfl
  · intro j hj; rfl
  · intro j hj; show σ 26 j = f 20 j; rw [go 20 j (by decide) (by decide) (by decide) (by decide)]; exact h15 j hj
  · intro j hj; show σ 27 j = f 22 j; rw [go 22 j (by decide) (by decide) (by decide) (by decide)]; exact h16 j hj
  · intro j hj; show ¬ σ 27 j = -1 → σ 28 j = f 23 j; rw [go 23 j (by decide) (by decide) (by decide) (by decide)]; exact h17 j hj
  · show σ 0 8 = f 0 26; rw [go 0 26 (by decide) (by decide) (by decide) (by decide)]; exact h18
  · show σ 0 7 = f 0 27; rw [go 0 27 (by decide) (by decide) (by decide) (by decide)]; exact h19
  · intro j hj; exact i1 j hj
  · intro j hj; exact i2 j hj
  · intro j hj; exact i3 j hj
  · intro j hj; exact i4 j hj
  · intro j hj; exact i5 j hj
  · intro j hj; exact i6 j hj
theorem gt_aux2 {σ x : Sg} {w : Int32} {n : Nat} (hq : QQ σ x w) (c6 : IQ σ n) (k01 : x 0 1 = σ 0 5) :
    (∀ j, j < 8 → itn st_X6_goThrough_91 30 (s_X6_stand x w (x 0 1)) 10 j = r_X3_emptyMinutes σ (nI j) (σ 0 5)) ∧ (∀ j, j < 30 → itn st_X6_goThrough_91 30 (s_X6_stand x w (x 0 1)) 17 j = σ 19 j + r_X0_minutesGoingOn σ (nI j) (σ 0 5)) ∧
    (∀ r, r < 10 → itn st_X6_goThrough_91 30 (s_X6_stand x w (x 0 1)) 19 r = itn (st_X5_minutesOf_12 σ (nI r)) 30 (σ 24 r)) ∧ (∀ r, r < 10 → itn st_X6_goThrough_91 30 (s_X6_stand x w (x 0 1)) 21 r = σ 25 r + itn (st_X5_costGoingOn_4 σ (nI r)) 30 0) := by
  obtain ⟨h1, h2, h3, h4, h5, h6, h7, h8, h9, h10, h11, h12, h13, h14, h15, h16, h17, h18, h19⟩ := hq
  have so := fun q j (hq : q ≠ 10) => st_o x w (x 0 1) q j hq
  have s10 := fun j hj => st_10 x w (x 0 1) j hj
  rw [k01] at so s10 ⊢
  generalize s_X6_stand x w (σ 0 5) = z at so s10 ⊢
  have hr := gt_rides (σ := σ) (z := z) (now := σ 0 5) (b := n) c6 (by rw [so 0 1 (by decide), k01]) (fun j hj => by rw [so 11 j (by decide)]; exact h5 j hj) (fun j hj => by rw [so 12 j (by decide)]; exact h6 j hj) (fun j hj => by rw [so 17 j (by decide)]; exact h8 j hj) (fun j hj e => by rw [so 14 j (by decide)]; exact h9 j hj e) (fun j hj e => by rw [so 15 j (by decide)]; exact h10 j hj e) (fun j hj e => by rw [so 16 j (by decide)]; exact h11 j hj e) (fun j hj => by rw [so 19 j (by decide)]; exact h13 j hj) (fun j hj => by rw [so 21 j (by decide)]; exact h14 j hj) rfl 30 (Nat.le_refl _)
  obtain ⟨r1, r2, r3⟩ := hr
  refine ⟨fun j hj => ?_, fun j hj => by rw [r3 j hj, if_pos hj], r1, r2⟩
  have ec : (nI j).toNatClampNeg = j := nI_clamp (by omega)
  rw [st91_k _ _ _ _ (by decide) (by decide) (by decide), s10 j hj]
  unfold r_X3_emptyMinutes
  rw [ec, h2 j hj, h3 j hj, h4]
  by_cases e : x 9 j = 0
  · rw [if_pos e, if_pos e]; grind
  · rw [if_neg e, if_neg e]; grind
theorem gt_main {σ μ : Sg} {n : Nat} (h : CI σ n) (hs : ∀ i, i < n → sEq σ μ i) (hnow : σ 0 5 = μ 0 1) :
    QQ (fX σ (s_X6_goThrough μ n)) (s_X6_goThrough μ n) (σ 3 3) ∧ IQ (fX σ (s_X6_goThrough μ n)) n ∧
    (∀ j, j < 8 → s_X6_goThrough μ n 10 j = r_X3_emptyMinutes σ (nI j) (σ 0 5)) ∧ (∀ j, j < 30 → s_X6_goThrough μ n 17 j = σ 19 j + r_X0_minutesGoingOn σ (nI j) (σ 0 5)) ∧
    (∀ r, r < 10 → s_X6_goThrough μ n 19 r = r_X5_minutesOf σ (nI r)) ∧ (∀ r, r < 10 → s_X6_goThrough μ n 21 r = σ 25 r + r_X5_costGoingOn σ (nI r)) := by
  have c3 : n ≤ 300 := h.2.2.1
  have hq := h.2.2.2.2.2.2.2 μ hs
  have a1 := gt_aux hq h.2.2.2.2.2.1 (gt_o μ n)
  have a2 := gt_aux2 hq h.2.2.2.2.2.1 (((kM_RP μ n c3).2 1 (by decide)).trans hnow.symm)
  rw [← gt_eq] at a2
  refine ⟨a1.1, a1.2, a2.1, a2.2.1, fun r hr => ?_, fun r hr => ?_⟩
  · unfold r_X5_minutesOf
    rw [nI_clamp (show r < 2 ^ 31 by omega)]
    exact a2.2.2.1 r hr
  · unfold r_X5_costGoingOn
    exact a2.2.2.2 r hr
-- sums agree; what was heard
theorem sm_congr {f g : Nat → Int32} : ∀ n, (∀ r, r < n → f r = g r) → sm f n = sm g n := by
  intro n
  induction n with
  | zero => intro _; rfl
  | succ n ih =>
    intro h
    show sm f n + f n = sm g n + g n
    rw [ih (fun r hr => h r (by omega)), h n (by omega)]
theorem sm_one (g : Nat → Int32) (v : Int32) (r0 : Nat) : ∀ n, sm (fun r => if r = r0 then g r + v else g r) n = if r0 < n then sm g n + v else sm g n := by
  intro n
  induction n with
  | zero => rfl
  | succ n ih =>
    show sm (fun r => if r = r0 then g r + v else g r) n + (if n = r0 then g n + v else g n) = if r0 < n + 1 then sm g n + g n + v else sm g n + g n
    rw [ih]
    by_cases h1 : r0 < n
    · rw [if_pos h1, if_neg (by omega), if_pos (by omega)]; grind
    · by_cases h2 : n = r0
      · rw [if_neg h1, if_pos h2, if_pos (by omega)]; grind
      · rw [if_neg h1, if_neg h2, if_neg (by omega)]
theorem agree {σ : Sg} {b : Nat} (hI : IQ σ b) (hS : SU σ) : r_X5_agrees σ = 1 := by
  have A : ∀ k, k ≤ 30 → itn (st_X5_agrees_4 σ) k 0 = sm (σ 19) k + sm (fun c => r_X0_minutesGoingOn σ (nI c) (σ 0 5)) k := by
    intro k
    induction k with
    | zero => intro _; rfl
    | succ k ih =>
      intro hk
      rw [itn_s, ih (by omega)]
      unfold st_X5_agrees_4
      rw [nI_clamp (show k < 2 ^ 31 by omega)]
      show _ = (sm (σ 19) k + σ 19 k) + (sm (fun c => r_X0_minutesGoingOn σ (nI c) (σ 0 5)) k + r_X0_minutesGoingOn σ (nI k) (σ 0 5))
      grind
  have B : ∀ k, k ≤ 10 → itn (st_X5_agrees_45 σ) k 0 = sm (fun r => r_X5_minutesOf σ (nI r)) k := by
    intro k
    induction k with
    | zero => intro _; rfl
    | succ k ih =>
      intro hk
      rw [itn_s, ih (by omega)]
      rfl
  have P : ∀ k, k ≤ 30 → sm (fun r => itn (st_X5_minutesOf_12 σ (nI r)) k (σ 24 r)) 10 = sm (σ 24) 10 + sm (fun c => r_X0_minutesGoingOn σ (nI c) (σ 0 5)) k := by
    intro k
    induction k with
    | zero => intro _; show sm (fun r => σ 24 r) 10 = sm (σ 24) 10 + 0; grind
    | succ k ih =>
      intro hk
      have ih := ih (by omega)
      have ec : (nI k).toNatClampNeg = k := nI_clamp (by omega)
      have m0 : r_X0_minutesGoingOn σ (nI k) (σ 0 5) = if σ 16 k = 2 then σ 0 5 - σ 20 k else 0 := by unfold r_X0_minutesGoingOn; rw [ec]
      have rb : ∀ ri : Int32, r_X0_isRiddenBy σ (nI k) ri = if σ 16 k = 2 then (if σ 17 k = ri then 1 else 0) else 0 := fun ri => by unfold r_X0_isRiddenBy; rw [ec]
      show _ = sm (σ 24) 10 + (sm (fun c => r_X0_minutesGoingOn σ (nI c) (σ 0 5)) k + r_X0_minutesGoingOn σ (nI k) (σ 0 5))
      by_cases h2 : σ 16 k = 2
      · obtain ⟨r0, hr0, hh⟩ := hI.2.1 k (by omega) h2
        have e : sm (fun r => itn (st_X5_minutesOf_12 σ (nI r)) (k + 1) (σ 24 r)) 10 = sm (fun r => if r = r0 then itn (st_X5_minutesOf_12 σ (nI r)) k (σ 24 r) + r_X0_minutesGoingOn σ (nI k) (σ 0 5) else itn (st_X5_minutesOf_12 σ (nI r)) k (σ 24 r)) 10 := by
          refine sm_congr 10 (fun r hr => ?_)
          rw [itn_s]
          generalize itn (st_X5_minutesOf_12 σ (nI r)) k (σ 24 r) = y
          unfold st_X5_minutesOf_12
          rw [rb, if_pos h2, hh]
          by_cases e : r = r0
          · subst e; simp
          · have ne : ¬ nI r0 = nI r := fun q => e ((nI_eq (by omega) (by omega)).mp q).symm
            rw [if_neg ne, if_neg e]; simp
        rw [e, sm_one, if_pos hr0, ih]
        grind
      · have e : sm (fun r => itn (st_X5_minutesOf_12 σ (nI r)) (k + 1) (σ 24 r)) 10 = sm (fun r => itn (st_X5_minutesOf_12 σ (nI r)) k (σ 24 r)) 10 := by
          refine sm_congr 10 (fun r hr => ?_)
          rw [itn_s]
          generalize itn (st_X5_minutesOf_12 σ (nI r)) k (σ 24 r) = y
          unfold st_X5_minutesOf_12
          rw [rb, if_neg h2, if_pos rfl]
        rw [e, ih, m0, if_neg h2]
        grind
  have Q : sm (fun r => r_X5_minutesOf σ (nI r)) 10 = sm (fun r => itn (st_X5_minutesOf_12 σ (nI r)) 30 (σ 24 r)) 10 := by
    refine sm_congr 10 (fun r hr => ?_)
    unfold r_X5_minutesOf
    rw [nI_clamp (show r < 2 ^ 31 by omega)]
  unfold r_X5_agrees
  unfold SU at hS
  rw [if_pos (by rw [A 30 (Nat.le_refl _), B 10 (Nat.le_refl _), Q, P 30 (Nat.le_refl _), hS])]
theorem heard_eq {σ μ : Sg} {n : Nat} {k f s m : Int32} (hn : n ≤ 300) (hs : ∀ i, i < n → sEq σ μ i) (hk : ¬ k = 2 ∧ ¬ k = 6 ∧ ¬ k = 7) : r_X4_tells σ k f s m n = r_X6_wasHeard μ k f s m n := by
  have mono : ∀ j i, itn (st_X6_wasHeard_6 μ k f s m) i 0 = 1 → itn (st_X6_wasHeard_6 μ k f s m) (i + j) 0 = 1 := by
    intro j
    induction j with
    | zero => intro i h; exact h
    | succ j ih =>
      intro i h
      rw [← Nat.add_assoc, itn_s, ih i h]
      unfold st_X6_wasHeard_6
      rw [if_neg (by decide)]
  have key : ∀ j i, i + j = n → itn (st_X6_wasHeard_6 μ k f s m) i 0 = 0 → lk_X4_tells σ k f s m j i = itn (st_X6_wasHeard_6 μ k f s m) n 0 := by
    intro j
    induction j with
    | zero => intro i hi h; obtain rfl : i = n := by omega
              rw [h]; rfl
    | succ j ih =>
      intro i hi h
      have ec : (nI i).toNatClampNeg = i := nI_clamp (by omega)
      obtain ⟨e6, e7, e9, e8, -⟩ := hs i (by omega)
      have nx : itn (st_X6_wasHeard_6 μ k f s m) (i + 1) 0 = if μ 4 i = k then (if μ 5 i = f then (if μ 6 i = s then (if μ 7 i = m then 1 else 0) else 0) else 0) else 0 := by
        rw [itn_s, h]
        unfold st_X6_wasHeard_6
        rw [if_pos rfl, ec]
      have lx : lk_X4_tells σ k f s m (j + 1) i = if σ 6 i = k then (if σ 7 i = f then (if σ 8 i = s then (if σ 9 i = m then 1 else lk_X4_tells σ k f s m j (i + 1)) else lk_X4_tells σ k f s m j (i + 1)) else lk_X4_tells σ k f s m j (i + 1)) else lk_X4_tells σ k f s m j (i + 1) := by
        show (if σ 6 (nI i).toNatClampNeg = k then _ else _) = _
        rw [ec]
      have go : itn (st_X6_wasHeard_6 μ k f s m) (i + 1) 0 = 0 → lk_X4_tells σ k f s m j (i + 1) = itn (st_X6_wasHeard_6 μ k f s m) n 0 := ih (i + 1) (by omega)
      have hit : itn (st_X6_wasHeard_6 μ k f s m) (i + 1) 0 = 1 → itn (st_X6_wasHeard_6 μ k f s m) n 0 = 1 := fun h1 => by
        have q := mono j (i + 1) h1
        rw [show i + 1 + j = n by omega] at q
        exact q
      rw [lx]
      rw [← e6, ← e7, ← e9] at nx
      by_cases h6 : σ 6 i = k
      · have e8' : σ 8 i = μ 6 i := by
          rcases e8 with q | q | q | q
          · exact q
          · exact absurd (h6.symm.trans q) hk.1
          · exact absurd (h6.symm.trans q) hk.2.1
          · exact absurd (h6.symm.trans q) hk.2.2
        rw [← e8', if_pos h6] at nx
        rw [if_pos h6]
        by_cases h7 : σ 7 i = f
        · rw [if_pos h7] at nx ⊢
          by_cases h8 : σ 8 i = s
          · rw [if_pos h8] at nx ⊢
            by_cases h9 : σ 9 i = m
            · rw [if_pos h9] at nx ⊢; exact (hit nx).symm
            · rw [if_neg h9] at nx ⊢; exact go nx
          · rw [if_neg h8] at nx ⊢; exact go nx
        · rw [if_neg h7] at nx ⊢; exact go nx
      · rw [if_neg h6] at nx ⊢; exact go nx
  unfold r_X4_tells r_X6_wasHeard
  exact key n 0 (by omega) rfl
