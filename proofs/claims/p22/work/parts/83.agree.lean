theorem sm_congr {f g : Nat → Int32} : ∀ n, (∀ r, r < n → f r = g r) → sm f n = sm g n := by
  intro n
  induction n with
  | zero => intro _; rfl
  | succ n ih =>
    intro h
    show sm f n + f n = sm g n + g n
    rw [ih (fun r hr => h r (by omega)), h n (by omega)]
theorem sm_one (g : Nat → Int32) (v : Int32) (r0 : Nat) : ∀ n, sm (fun r => if r = r0 then g r + v else g r) n = if r0 < n then sm g n + v else sm g n := by
  intro n
  induction n with
  | zero => rfl
  | succ n ih =>
    show sm (fun r => if r = r0 then g r + v else g r) n + (if n = r0 then g n + v else g n) = if r0 < n + 1 then sm g n + g n + v else sm g n + g n
    rw [ih]
    by_cases h1 : r0 < n
    · rw [if_pos h1, if_neg (by omega), if_pos (by omega)]; grind
    · by_cases h2 : n = r0
      · rw [if_neg h1, if_pos h2, if_pos (by omega)]; grind
      · rw [if_neg h1, if_neg h2, if_neg (by omega)]
theorem agree {σ : Sg} {b : Nat} (hI : IQ σ b) (hS : SU σ) : r_X5_agrees σ = 1 := by
  have A : ∀ k, k ≤ 30 → itn (st_X5_agrees_4 σ) k 0 = sm (σ 19) k + sm (fun c => r_X0_minutesGoingOn σ (nI c) (σ 0 5)) k := by
    intro k
    induction k with
    | zero => intro _; rfl
    | succ k ih =>
      intro hk
      rw [itn_s, ih (by omega)]
      unfold st_X5_agrees_4
      rw [nI_clamp (show k < 2 ^ 31 by omega)]
      show _ = (sm (σ 19) k + σ 19 k) + (sm (fun c => r_X0_minutesGoingOn σ (nI c) (σ 0 5)) k + r_X0_minutesGoingOn σ (nI k) (σ 0 5))
      grind
  have B : ∀ k, k ≤ 10 → itn (st_X5_agrees_45 σ) k 0 = sm (fun r => r_X5_minutesOf σ (nI r)) k := by
    intro k
    induction k with
    | zero => intro _; rfl
    | succ k ih =>
      intro hk
      rw [itn_s, ih (by omega)]
      rfl
  have P : ∀ k, k ≤ 30 → sm (fun r => itn (st_X5_minutesOf_12 σ (nI r)) k (σ 24 r)) 10 = sm (σ 24) 10 + sm (fun c => r_X0_minutesGoingOn σ (nI c) (σ 0 5)) k := by
    intro k
    induction k with
    | zero => intro _; show sm (fun r => σ 24 r) 10 = sm (σ 24) 10 + 0; grind
    | succ k ih =>
      intro hk
      have ih := ih (by omega)
      have ec : (nI k).toNatClampNeg = k := nI_clamp (by omega)
      have m0 : r_X0_minutesGoingOn σ (nI k) (σ 0 5) = if σ 16 k = 2 then σ 0 5 - σ 20 k else 0 := by unfold r_X0_minutesGoingOn; rw [ec]
      have rb : ∀ ri : Int32, r_X0_isRiddenBy σ (nI k) ri = if σ 16 k = 2 then (if σ 17 k = ri then 1 else 0) else 0 := fun ri => by unfold r_X0_isRiddenBy; rw [ec]
      show _ = sm (σ 24) 10 + (sm (fun c => r_X0_minutesGoingOn σ (nI c) (σ 0 5)) k + r_X0_minutesGoingOn σ (nI k) (σ 0 5))
      by_cases h2 : σ 16 k = 2
      · obtain ⟨r0, hr0, hh⟩ := hI.2.1 k (by omega) h2
        have e : sm (fun r => itn (st_X5_minutesOf_12 σ (nI r)) (k + 1) (σ 24 r)) 10 = sm (fun r => if r = r0 then itn (st_X5_minutesOf_12 σ (nI r)) k (σ 24 r) + r_X0_minutesGoingOn σ (nI k) (σ 0 5) else itn (st_X5_minutesOf_12 σ (nI r)) k (σ 24 r)) 10 := by
          refine sm_congr 10 (fun r hr => ?_)
          rw [itn_s]
          generalize itn (st_X5_minutesOf_12 σ (nI r)) k (σ 24 r) = y
          unfold st_X5_minutesOf_12
          rw [rb, if_pos h2, hh]
          by_cases e : r = r0
          · subst e; simp
          · have ne : ¬ nI r0 = nI r := fun q => e ((nI_eq (by omega) (by omega)).mp q).symm
            rw [if_neg ne, if_neg e]; simp
        rw [e, sm_one, if_pos hr0, ih]
        grind
      · have e : sm (fun r => itn (st_X5_minutesOf_12 σ (nI r)) (k + 1) (σ 24 r)) 10 = sm (fun r => itn (st_X5_minutesOf_12 σ (nI r)) k (σ 24 r)) 10 := by
          refine sm_congr 10 (fun r hr => ?_)
          rw [itn_s]
          generalize itn (st_X5_minutesOf_12 σ (nI r)) k (σ 24 r) = y
          unfold st_X5_minutesOf_12
          rw [rb, if_neg h2, if_pos rfl]
        rw [e, ih, m0, if_neg h2]
        grind
  have Q : sm (fun r => r_X5_minutesOf σ (nI r)) 10 = sm (fun r => itn (st_X5_minutesOf_12 σ (nI r)) 30 (σ 24 r)) 10 := by
    refine sm_congr 10 (fun r hr => ?_)
    unfold r_X5_minutesOf
    rw [nI_clamp (show r < 2 ^ 31 by omega)]
  unfold r_X5_agrees
  unfold SU at hS
  rw [if_pos (by rw [A 30 (Nat.le_refl _), B 10 (Nat.le_refl _), Q, P 30 (Nat.le_refl _), hS])]
