-- one thing gone through, by both
def tOK (k f s : Int32) : Prop :=
  (k = 0 ∧ ∃ a b : Nat, a < 8 ∧ b ≤ 20 ∧ f = nI a ∧ s = nI b) ∨ (k = 1 ∧ ∃ a b : Nat, a < 30 ∧ b < 8 ∧ f = nI a ∧ s = nI b) ∨ (k = 2 ∧ ∃ a : Nat, a < 30 ∧ f = nI a) ∨
  (k = 3 ∧ ∃ a b : Nat, a < 30 ∧ b < 10 ∧ f = nI a ∧ s = nI b) ∨ (k = 4 ∧ ∃ a b : Nat, a < 30 ∧ b < 8 ∧ f = nI a ∧ s = nI b) ∨ (k = 5 ∧ ∃ a b : Nat, a < 30 ∧ b < 10 ∧ f = nI a ∧ s = nI b) ∨
  (k = 6 ∧ ∃ a : Nat, a < 30 ∧ f = nI a) ∨ k = 7 ∨ (k = 8 ∧ ∃ a b : Nat, a < 10 ∧ b < 8 ∧ f = nI a ∧ s = nI b)
theorem tOK_hT {k f s : Int32} (h : tOK k f s) : hT k f s := by
  have e8 : ∀ n : Nat, n < 8 → vp_in (nI n) 8 := fun n h => vp_in_nI h (by decide)
  have e10 : ∀ n : Nat, n < 10 → vp_in (nI n) 10 := fun n h => vp_in_nI h (by decide)
  have e30 : ∀ n : Nat, n < 30 → vp_in (nI n) 30 := fun n h => vp_in_nI h (by decide)
  rcases h with ⟨rfl, a, b, ha, hb, rfl, rfl⟩ | ⟨rfl, a, b, ha, hb, rfl, rfl⟩ | ⟨rfl, a, ha, rfl⟩ | ⟨rfl, a, b, ha, hb, rfl, rfl⟩ | ⟨rfl, a, b, ha, hb, rfl, rfl⟩ | ⟨rfl, a, b, ha, hb, rfl, rfl⟩ | ⟨rfl, a, ha, rfl⟩ | rfl | ⟨rfl, a, b, ha, hb, rfl, rfl⟩
  · exact ⟨fun _ => e8 a ha, fun h => absurd h (by decide), fun h => absurd h (by decide), fun h => absurd h (by decide), fun h => absurd h (by decide), fun h => absurd h (by decide), fun h => absurd h (by decide), fun h _ _ _ _ _ _ _ => absurd rfl h⟩
  · exact ⟨fun h => absurd h (by decide), fun _ => ⟨e30 a ha, e8 b hb⟩, fun h => absurd h (by decide), fun h => absurd h (by decide), fun h => absurd h (by decide), fun h => absurd h (by decide), fun h => absurd h (by decide), fun _ h _ _ _ _ _ _ => absurd rfl h⟩
  · exact ⟨fun h => absurd h (by decide), fun h => absurd h (by decide), fun _ => e30 a ha, fun h => absurd h (by decide), fun h => absurd h (by decide), fun h => absurd h (by decide), fun h => absurd h (by decide), fun _ _ h _ _ _ _ _ => absurd rfl h⟩
  · exact ⟨fun h => absurd h (by decide), fun h => absurd h (by decide), fun h => absurd h (by decide), fun _ => ⟨e30 a ha, e10 b hb⟩, fun h => absurd h (by decide), fun h => absurd h (by decide), fun h => absurd h (by decide), fun _ _ _ h _ _ _ _ => absurd rfl h⟩
  · exact ⟨fun h => absurd h (by decide), fun h => absurd h (by decide), fun h => absurd h (by decide), fun h => absurd h (by decide), fun _ => ⟨e30 a ha, e8 b hb⟩, fun h => absurd h (by decide), fun h => absurd h (by decide), fun _ _ _ _ h _ _ _ => absurd rfl h⟩
  · exact ⟨fun h => absurd h (by decide), fun h => absurd h (by decide), fun h => absurd h (by decide), fun h => absurd h (by decide), fun h => absurd h (by decide), fun _ => ⟨e30 a ha, e10 b hb⟩, fun h => absurd h (by decide), fun _ _ _ _ _ h _ _ => absurd rfl h⟩
  · exact ⟨fun h => absurd h (by decide), fun h => absurd h (by decide), fun h => absurd h (by decide), fun h => absurd h (by decide), fun h => absurd h (by decide), fun h => absurd h (by decide), fun _ => e30 a ha, fun _ _ _ _ _ _ h _ => absurd rfl h⟩
  · exact ⟨fun h => absurd h (by decide), fun h => absurd h (by decide), fun h => absurd h (by decide), fun h => absurd h (by decide), fun h => absurd h (by decide), fun h => absurd h (by decide), fun h => absurd h (by decide), fun _ _ _ _ _ _ _ h => absurd rfl h⟩
  · exact ⟨fun h => absurd h (by decide), fun h => absurd h (by decide), fun h => absurd h (by decide), fun h => absurd h (by decide), fun h => absurd h (by decide), fun h => absurd h (by decide), fun h => absurd h (by decide), fun _ _ _ _ _ _ _ _ => ⟨e10 a ha, e8 b hb⟩⟩
theorem r_happens {σ : Sg} {i : Nat} {τ : Sg} {k f s : Int32} (hi : i < 300) (hτ : s_X3_countEmptyUntil σ (σ 9 i) = τ) (h6 : τ 6 i = k) (h7 : σ 7 i = f) (h8 : σ 8 i = s) :
    r_X5_happens σ (nI i) = (if k = 0 then 1 else if k = 1 then r_X5_bePut τ f s else if k = 2 then r_X5_beTaken τ f else if k = 3 then r_X5_beUnlocked τ f s (σ 9 i) else if k = 4 then r_X5_beLocked τ f s (σ 9 i) else if k = 5 then 1 else if k = 6 then r_X5_beMended τ f else if k = 7 then 1 else r_X5_bePromised τ f s (σ 9 i)) ∧
    s_X5_happens σ (nI i) = (if k = 0 then sx τ 13 f.toNatClampNeg s else if k = 1 then s_X5_bePut τ f s else if k = 2 then s_X5_beTaken τ f else if k = 3 then s_X5_beUnlocked τ f s (σ 9 i) else if k = 4 then s_X5_beLocked τ f s (σ 9 i) else if k = 5 then s_X0_addFault τ f s else if k = 6 then s_X5_beMended τ f else if k = 7 then sx τ 0 8 f else s_X5_bePromised τ f s (σ 9 i)) := by
  have ec : (nI i).toNatClampNeg = i := nI_clamp (by omega)
  unfold r_X5_happens s_X5_happens
  rw [ec, hτ, h6, h7, h8]
  exact ⟨rfl, rfl⟩
theorem r_does {y : Sg} {i : Nat} {k f s m : Int32} (hi : i < 300) (h4 : y 4 i = k) (h5 : y 5 i = f) (h6 : y 6 i = s) (h7 : y 7 i = m) :
    r_X6_does y (nI i) = (if k = 0 then 1 else if k = 1 then r_X6_putCycle y f s else if k = 2 then r_X6_takeCycle y f else if k = 3 then r_X6_unlock y f s m else if k = 4 then r_X6_lock y f s m else if k = 5 then 1 else if k = 6 then (if y 11 f.toNatClampNeg = 2 then 0 else 1) else if k = 7 then 1 else r_X6_promisePlace y f s m) ∧
    s_X6_does y (nI i) = (if k = 0 then sx y 8 f.toNatClampNeg s else if k = 1 then s_X6_putCycle y f s else if k = 2 then s_X6_takeCycle y f else if k = 3 then s_X6_unlock y f s m else if k = 4 then s_X6_lock y f s m else if k = 5 then sx y 13 f.toNatClampNeg ((y 13 f.toNatClampNeg) ||| (1 <<< (s &&& 31))) else if k = 6 then (if y 11 f.toNatClampNeg = 2 then sx y 13 f.toNatClampNeg (y 13 f.toNatClampNeg) else sx y 13 f.toNatClampNeg 0) else if k = 7 then sx y 0 26 f else s_X6_promisePlace y f s m) := by
  have ec : (nI i).toNatClampNeg = i := nI_clamp (by omega)
  unfold r_X6_does s_X6_does
  rw [ec, h4, h5, h6, h7]
  exact ⟨rfl, rfl⟩
/-- the story of the class beside that of the reference, at a place -/
def sEq (σ μ : Sg) (i : Nat) : Prop := σ 6 i = μ 4 i ∧ σ 7 i = μ 5 i ∧ σ 9 i = μ 7 i ∧ (σ 8 i = μ 6 i ∨ σ 6 i = 2 ∨ σ 6 i = 6 ∨ σ 6 i = 7) ∧ tOK (σ 6 i) (σ 7 i) (σ 8 i)
theorem sim1 {σ x : Sg} {w : Int32} {b i : Nat} (hi : i < 300) (hq : QQ σ x w) (hI : IQ σ b) (hb : b + 1 ≤ 1000) (hs : sEq σ x i) :
    r_X5_happens σ (nI i) = r_X6_does (s_X6_stand x w (x 7 i)) (nI i) ∧ QQ (s_X5_happens σ (nI i)) (s_X6_does (s_X6_stand x w (x 7 i)) (nI i)) (x 7 i) ∧ IQ (s_X5_happens σ (nI i)) (b + 1) := by
  obtain ⟨h6, h7, h9, h8, ht⟩ := hs
  have hm := q_minute (m := x 7 i) hq
  have hn := iq_minute (x 7 i) hI
  have kx := kY_ceu (m := x 7 i) (kY_r σ)
  have km := kN_stand (a := w) (b := x 7 i) (kN_r x)
  obtain ⟨τ, eτ⟩ : ∃ τ, s_X3_countEmptyUntil σ (x 7 i) = τ := ⟨_, rfl⟩
  obtain ⟨y, ey⟩ : ∃ y, s_X6_stand x w (x 7 i) = y := ⟨_, rfl⟩
  rw [eτ] at hm hn kx
  rw [ey] at hm km ⊢
  have t6 : τ 6 i = σ 6 i := kx.1.1 6 i (by decide) (by decide)
  have y4 : y 4 i = σ 6 i := (km.1.1 4 i (by decide) (by decide)).trans h6.symm
  have y5 : y 5 i = σ 7 i := (km.1.1 5 i (by decide) (by decide)).trans h7.symm
  have y7 : y 7 i = x 7 i := km.1.1 7 i (by decide) (by decide)
  have y6 : y 6 i = x 6 i := km.1.1 6 i (by decide) (by decide)
  obtain ⟨ra, sa⟩ := r_happens (σ := σ) hi (by rw [h9]; exact eτ) t6 rfl rfl
  obtain ⟨rb, sb⟩ := r_does (y := y) hi y4 y5 y6 y7
  rw [h9] at ra sa
  rw [ra, sa, rb, sb]
  clear ra sa rb sb
  have up : IQ τ (b + 1) := iq_up hn (by omega)
  rcases ht with ⟨hk, a, p, ha, hp, e7, e8⟩ | ⟨hk, a, p, ha, hp, e7, e8⟩ | ⟨hk, a, ha, e7⟩ | ⟨hk, a, p, ha, hp, e7, e8⟩ | ⟨hk, a, p, ha, hp, e7, e8⟩ | ⟨hk, a, p, ha, hp, e7, e8⟩ | ⟨hk, a, ha, e7⟩ | hk | ⟨hk, a, p, ha, hp, e7, e8⟩
  · have e : x 6 i = σ 8 i := by
      rcases h8 with q | q | q | q
      · exact q.symm
      all_goals (rw [hk] at q; exact absurd q (by decide))
    rw [e, hk, e7, e8]
    simp (decide := true) only [if_true, if_false]
    exact ⟨trivial, q_docks hm _, iq_docks up hp⟩
  · have e : x 6 i = σ 8 i := by
      rcases h8 with q | q | q | q
      · exact q.symm
      all_goals (rw [hk] at q; exact absurd q (by decide))
    rw [e, hk, e7, e8]
    simp (decide := true) only [if_true, if_false]
    have q := q_put hm hn (by omega) ha hp
    exact ⟨q.1, q.2, iq_put hn (by omega) ha hp⟩
  · rw [hk, e7]
    simp (decide := true) only [if_true, if_false]
    have q := q_take hm hn ha
    exact ⟨q.1, q.2, iq_take hn (by omega) ha⟩
  · have e : x 6 i = σ 8 i := by
      rcases h8 with q | q | q | q
      · exact q.symm
      all_goals (rw [hk] at q; exact absurd q (by decide))
    rw [e, hk, e7, e8]
    simp (decide := true) only [if_true, if_false]
    have q := q_unlock (mi := x 7 i) hm hn ha hp
    exact ⟨q.1, q.2, iq_unlock hn (by omega) ha hp⟩
  · have e : x 6 i = σ 8 i := by
      rcases h8 with q | q | q | q
      · exact q.symm
      all_goals (rw [hk] at q; exact absurd q (by decide))
    rw [e, hk, e7, e8]
    simp (decide := true) only [if_true, if_false]
    have q := q_lock (mi := x 7 i) hm hn (by omega) ha hp
    exact ⟨q.1, q.2, iq_lock hn (by omega) ha hp⟩
  · have e : x 6 i = σ 8 i := by
      rcases h8 with q | q | q | q
      · exact q.symm
      all_goals (rw [hk] at q; exact absurd q (by decide))
    rw [e, hk, e7, e8]
    simp (decide := true) only [if_true, if_false]
    have ec : (nI a).toNatClampNeg = a := nI_clamp (by omega)
    rw [ec]
    exact ⟨trivial, q_fault hm ha, iq_fault up ha hp⟩
  · rw [hk, e7]
    simp (decide := true) only [if_true, if_false]
    have ec : (nI a).toNatClampNeg = a := nI_clamp (by omega)
    have q := q_mend hm ha
    have e5 := hm.2.2.2.2.1 a ha
    rw [ec]
    refine ⟨?_, ?_, iq_mend up ha⟩
    · unfold r_X5_beMended
      rw [ec, e5]
    · by_cases z : y 11 a = 2
      · rw [if_pos z] at q ⊢; exact q
      · rw [if_neg z] at q ⊢; exact q
  · rw [hk]
    simp (decide := true) only [if_true, if_false]
    exact ⟨trivial, q_price hm _, iq_scalar up _⟩
  · have e : x 6 i = σ 8 i := by
      rcases h8 with q | q | q | q
      · exact q.symm
      all_goals (rw [hk] at q; exact absurd q (by decide))
    rw [e, hk, e7, e8]
    simp (decide := true) only [if_true, if_false]
    have q := q_promise (mi := x 7 i) hm hn (by omega) ha hp
    exact ⟨q.1, q.2, iq_promise up ha hp⟩
