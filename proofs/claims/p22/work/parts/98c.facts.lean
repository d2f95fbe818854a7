-- what isSo asks
theorem ask_c0 (σ : Sg) {i : Nat} (hi : i < 30) : r_X5_cycle σ (nI i) 0 = σ 16 i := by
  unfold r_X5_cycle
  rw [if_pos rfl, nI_clamp (by omega)]
theorem ask_c1 (σ : Sg) {i : Nat} (hi : i < 30) : r_X5_cycle σ (nI i) 1 = σ 17 i := by
  unfold r_X5_cycle
  rw [if_neg (by decide), if_pos rfl, nI_clamp (by omega)]
theorem ask_c3 (σ : Sg) {i : Nat} (hi : i < 30) : r_X5_cycle σ (nI i) 3 = σ 19 i + r_X0_minutesGoingOn σ (nI i) (σ 0 5) := by
  unfold r_X5_cycle
  rw [if_neg (by decide), if_neg (by decide), if_neg (by decide), if_pos rfl, nI_clamp (by omega)]
theorem so_c {σ : Sg} {n i : Nat} (h : MC σ n) (hi : i < 30) : ¬ r_X5_cycle σ (nI i) 0 < 0 ∧ ¬ 4 ≤ r_X5_cycle σ (nI i) 0 ∧ (r_X5_cycle σ (nI i) 0 = 1 ∨ r_X5_cycle σ (nI i) 0 = 2 → ¬ r_X5_cycle σ (nI i) 1 < 0) ∧ (¬ r_X5_cycle σ (nI i) 0 = 1 → ¬ r_X5_cycle σ (nI i) 0 = 2 → r_X5_cycle σ (nI i) 1 < 0) := by
  have hA := h.1.2.2.2.2.2.2.2.2.1 i hi
  have hI := h.1.2.2.2.2.2.1
  rw [ask_c0 σ hi, ask_c1 σ hi]
  refine ⟨?_, ?_, fun hq => ?_, fun h1 h2 => ?_⟩
  · rcases hA.1 with e | e | e | e <;> rw [e] <;> decide
  · rcases hA.1 with e | e | e | e <;> rw [e] <;> decide
  · rcases hq with e | e
    · obtain ⟨s, hs, eh⟩ := hI.1 i hi e
      rw [eh]; exact nI_pos (by omega)
    · obtain ⟨s, hs, eh⟩ := hI.2.1 i hi e
      rw [eh]; exact nI_pos (by omega)
  · rw [hA.2 h1 h2]; decide
theorem cgo_in {σ : Sg} {n r : Nat} (h : MC σ n) : ∃ k, k ≤ 1980000 * 30 ∧ r_X5_costGoingOn σ (nI r) = nI k := by
  obtain ⟨t, ht, e5⟩ := h.2.2
  have hV := h.1.2.2.2.2.2.2.2.2
  have hn := h.1.2.2.1
  have key : ∀ m, m ≤ 30 → ∃ k, k ≤ 1980000 * m ∧ itn (st_X5_costGoingOn_4 σ (nI r)) m 0 = nI k := by
    intro m
    induction m with
    | zero => intro _; exact ⟨0, Nat.le_refl _, nI_0.symm⟩
    | succ m ih =>
      intro hm
      obtain ⟨k, hk, ek⟩ := ih (by omega)
      rw [itn_s, ek]
      unfold st_X5_costGoingOn_4
      split
      · exact ⟨k, by omega, rfl⟩
      · rw [e5]
        have hg := going_in hV.2.2.2.2.2.1 (show m < 30 by omega) ht
        obtain ⟨k2, hk2, ek2⟩ := cost_in hn hV.2.2.2.1 hV.2.2.2.2.2.2 (show m < 30 by omega) hg.1 hg.2
        rw [ek2, nI_add]
        exact ⟨k + k2, by omega, rfl⟩
  exact key 30 (Nat.le_refl _)
theorem so_r {σ : Sg} {n i : Nat} (h : MC σ n) (hi : i < 10) : r_X5_rider σ (nI i) 2 - r_X5_rider σ (nI i) 2 / 100 * 100 = 0 ∧ ¬ r_X5_rider σ (nI i) 3 < -r_X5_rider σ (nI i) 2 ∧ ¬ 8 ≤ r_X5_rider σ (nI i) 4 := by
  have ec : (nI i).toNatClampNeg = i := nI_clamp (by omega)
  have hn := h.1.2.2.1
  have hV := h.1.2.2.2.2.2.2.2.2
  have hI := h.1.2.2.2.2.2.1
  obtain ⟨j, hj, e2⟩ := hV.2.1 i hi
  obtain ⟨c, hc, e3⟩ := hV.2.2.1 i hi
  obtain ⟨k, hk, ek⟩ := cgo_in (r := i) h
  have r2 : r_X5_rider σ (nI i) 2 = nI (100 * j) := by
    unfold r_X5_rider
    rw [if_neg (by decide), if_neg (by decide), if_pos rfl, ec, e2]
  have r3 : r_X5_rider σ (nI i) 3 = nI (c + k) - nI (100 * j) := by
    unfold r_X5_rider
    rw [if_neg (by decide), if_neg (by decide), if_neg (by decide), if_pos rfl, ec, e2, e3, ek, Nat.one_mul, nI_add]
  have r4 : r_X5_rider σ (nI i) 4 = r_X2_promisedStation σ (nI i) (σ 0 5) := by
    unfold r_X5_rider
    rw [if_neg (by decide), if_neg (by decide), if_neg (by decide), if_neg (by decide), if_pos rfl]
  refine ⟨?_, ?_, ?_⟩
  · rw [r2]
    have q := pk_rem (a := 100 * j) (d := 100) (by omega) (by decide) (by decide)
    rw [Nat.mul_mod_right, nI_0] at q
    exact q
  · rw [r2, r3]
    intro q
    have q1 := Int32.lt_iff_toInt_lt.mp q
    have ea : (nI (c + k)).toInt = ((c + k : Nat) : Int) := nI_toInt (by omega)
    have eb : (nI (100 * j)).toInt = ((100 * j : Nat) : Int) := nI_toInt (by omega)
    rw [fb_subI (by rw [ea, eb]; omega) (by rw [ea, eb]; omega), Int32.toInt_neg, ea, eb, fb_bmod (by omega) (by omega)] at q1
    omega
  · rw [r4]
    unfold r_X2_promisedStation
    rw [ec]
    split
    · decide
    · rcases hI.2.2.2.1 i hi with e | ⟨s, hs, e⟩
      · rw [e]; decide
      · rw [e]; exact nI_ge (a := s) (b := 8) hs (by decide)
theorem way0 : FP.d2i (FP.dmul 4636737291354636288 (FP.dadd 0 (FP.dmul 4611686018427387904 (FP.i2d 0)))) = 0 := by decide +kernel
theorem so_way (σ : Sg) (x : Int32) : r_X5_way σ x x = 0 := by
  unfold r_X5_way r_X1_wayBetween r_X1_nearestRoot
  rw [Int32.sub_self, Int32.sub_self, Int32.sub_self, Int32.mul_zero, Int32.add_zero, if_neg (by decide), show (0 : Int32).toNatClampNeg = 0 from rfl, rV_0]
  exact way0
theorem so_near (σ : Sg) {i : Nat} (hi : i < 8) : ¬ r_X5_nearest σ (nI i) = nI i := by
  have hm : ¬ (-1 : Int32) = nI i := by
    intro q
    have q1 := congrArg Int32.toInt q
    rw [nI_toInt (by omega), show (-1 : Int32).toInt = -1 by decide] at q1
    omega
  have key : ∀ m, m ≤ 8 → ¬ (itn (st_X5_nearest_11 σ (nI i)) m ((-1), FP.dconst0)).1 = nI i := by
    intro m
    induction m with
    | zero => intro _; exact hm
    | succ m ih =>
      intro hm2
      have ih := ih (by omega)
      rw [itn_s]
      generalize itn (st_X5_nearest_11 σ (nI i)) m ((-1), FP.dconst0) = y at ih ⊢
      obtain ⟨y1, y2⟩ := y
      unfold st_X5_nearest_11
      dsimp only at ih ⊢
      by_cases he : nI m = nI i
      · rw [if_pos he]; exact ih
      · rw [if_neg he]
        split
        · exact ih
        · split
          · exact he
          · split
            · exact ih
            · exact he
  exact key 8 (Nat.le_refl _)
theorem so_s (σ : Sg) {i : Nat} (hi : i < 8) : (r_X5_station σ (nI i) 0 - r_X5_station σ (nI i) 1 ≤ 0 → r_X5_station σ (nI i) 2 = 0) ∧ (¬ r_X5_station σ (nI i) 0 - r_X5_station σ (nI i) 1 ≤ 0 → r_X5_station σ (nI i) 2 = r_X5_station σ (nI i) 0 - r_X5_station σ (nI i) 1) := by
  have s0 : r_X5_station σ (nI i) 0 = σ 13 (nI i).toNatClampNeg := by
    unfold r_X5_station
    rw [if_pos rfl]
  have s1 : r_X5_station σ (nI i) 1 = σ 14 (nI i).toNatClampNeg := by
    unfold r_X5_station
    rw [if_neg (by decide), if_pos rfl]
  have s2 : r_X5_station σ (nI i) 2 = r_X3_freePlaces σ (nI i) := by
    unfold r_X5_station
    rw [if_neg (by decide), if_neg (by decide), if_pos rfl]
  rw [s0, s1, s2]
  unfold r_X3_freePlaces
  refine ⟨fun q => ?_, fun q => ?_⟩
  · rw [if_neg (fun z => (i_nle.mpr z) q)]
  · rw [if_pos (i_nle.mp q)]
def d1 (σ : Sg) : Nat → Int32 := fun j => if r_X5_cycle σ (nI j) 0 = 1 then 1 else 0
def c3 (σ : Sg) : Nat → Int32 := fun j => r_X5_cycle σ (nI j) 3
def t1 (σ : Sg) : Nat → Int32 := fun j => r_X5_station σ (nI j) 1
def r1 (σ : Sg) : Nat → Int32 := fun j => r_X5_rider σ (nI j) 1
theorem so_docked {σ : Sg} {n : Nat} (h : MC σ n) : sm (d1 σ) 30 = sm (t1 σ) 8 := by
  have hS := h.1.2.2.2.2.2.2.2.1
  have e1 : sm (d1 σ) 30 = sm (one1 (σ 16)) 30 := sm_congr 30 (fun r hr => by unfold d1 one1; rw [ask_c0 σ hr])
  have e2 : sm (t1 σ) 8 = sm (σ 14) 8 := sm_congr 8 (fun r hr => by
    unfold t1 r_X5_station
    rw [if_neg (by decide), if_pos rfl, nI_clamp (by omega)])
  rw [e1, e2]
  exact hS
theorem so_minutes {σ : Sg} {n : Nat} (h : MC σ n) : sm (c3 σ) 30 = sm (r1 σ) 10 := by
  have ha := agree h.1.2.2.2.2.2.1 h.1.2.2.2.2.2.2.1
  unfold r_X5_agrees at ha
  have A : ∀ k, k ≤ 30 → itn (st_X5_agrees_4 σ) k 0 = sm (c3 σ) k := by
    intro k
    induction k with
    | zero => intro _; rfl
    | succ k ih =>
      intro hk
      rw [itn_s, ih (by omega)]
      unfold st_X5_agrees_4
      show _ = sm (c3 σ) k + c3 σ k
      unfold c3
      rw [ask_c3 σ (show k < 30 by omega), nI_clamp (by omega)]
  have B : ∀ k, k ≤ 10 → itn (st_X5_agrees_45 σ) k 0 = sm (r1 σ) k := by
    intro k
    induction k with
    | zero => intro _; rfl
    | succ k ih =>
      intro hk
      rw [itn_s, ih (by omega)]
      unfold st_X5_agrees_45
      show _ = sm (r1 σ) k + r1 σ k
      unfold r1 r_X5_rider
      rw [if_neg (by decide), if_pos rfl]
  rw [A 30 (Nat.le_refl _), B 10 (Nat.le_refl _)] at ha
  by_cases e : sm (c3 σ) 30 = sm (r1 σ) 10
  · exact e
  · rw [if_neg e] at ha
    exact absurd ha (by decide)
theorem so_agrees {σ : Sg} {n : Nat} (h : MC σ n) : r_X5_agrees σ = 1 := agree h.1.2.2.2.2.2.1 h.1.2.2.2.2.2.2.1
