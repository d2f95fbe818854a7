-- sums: all cycles' minutes, all riders' minutes
def sm (f : Nat → Int32) : Nat → Int32
  | 0 => 0
  | k + 1 => sm f k + f k
theorem sm_upd (f : Nat → Int32) (i : Nat) (x : Int32) : ∀ n, sm (upd f i x) n = if i < n then sm f n + (x - f i) else sm f n := by
  intro n
  induction n with
  | zero => simp [sm]
  | succ n ih =>
    show sm (upd f i x) n + upd f i x n = _
    rw [ih]
    by_cases h1 : i < n
    · have h2 : ¬ n = i := by omega
      rw [if_pos h1, if_pos (by omega), pk_un h2]
      show sm f n + (x - f i) + f n = sm f n + f n + (x - f i)
      grind
    · by_cases h2 : n = i
      · subst h2
        rw [if_neg h1, if_pos (by omega), pk_us]
        show sm f n + x = sm f n + f n + (x - f n)
        grind
      · rw [if_neg h1, if_neg (by omega), pk_un h2]
        rfl
theorem sm_0 : ∀ n, sm (fun _ => 0) n = 0 := by
  intro n
  induction n with
  | zero => rfl
  | succ n ih => show sm (fun _ => 0) n + 0 = 0; rw [ih]; rfl
theorem sx_s (σ : Sg) (k i : Nat) (x : Int32) : sx σ k i x k = upd (σ k) i x := by unfold sx; rw [if_pos rfl]
theorem sx_o {σ : Sg} {k i q : Nat} {x : Int32} (h : q ≠ k) : sx σ k i x q = σ q := by unfold sx; rw [if_neg h]
theorem sf_s (σ : Sg) (k : Nat) (f : Nat → Int32) : sf σ k f k = f := by unfold sf; rw [if_pos rfl]
theorem sf_o {σ : Sg} {k q : Nat} {f : Nat → Int32} (h : q ≠ k) : sf σ k f q = σ q := by unfold sf; rw [if_neg h]
def SU (σ : Sg) : Prop := sm (σ 19) 30 = sm (σ 24) 10
theorem su_sx {σ : Sg} {k i : Nat} {x : Int32} (h : SU σ) (h1 : 19 ≠ k) (h2 : 24 ≠ k) : SU (sx σ k i x) := by
  unfold SU; rw [sx_o h1, sx_o h2]; exact h
theorem su_sf {σ : Sg} {k : Nat} {f : Nat → Int32} (h : SU σ) (h1 : 19 ≠ k) (h2 : 24 ≠ k) : SU (sf σ k f) := by
  unfold SU; rw [sf_o h1, sf_o h2]; exact h
theorem su_ride {σ : Sg} {cy r : Nat} {mi : Int32} (h : SU σ) (hc : cy < 30) (hr : r < 10) (hh : σ 17 cy = nI r) : SU (s_X5_endRide σ (nI cy) mi) := by
  have ec : (nI cy).toNatClampNeg = cy := nI_clamp (by omega)
  have er : (nI r).toNatClampNeg = r := nI_clamp (by omega)
  unfold s_X5_endRide
  rw [ec, hh, er]
  generalize r_X0_minutesGoingOn σ (nI cy) mi = m
  generalize r_X0_rideCost _ _ _ = z
  refine su_sx ?_ (by decide) (by decide)
  unfold SU at h ⊢
  rw [sx_o (by decide), sx_s, sx_s, sx_o (by decide), sm_upd, sm_upd, if_pos hc, if_pos hr, h]
  grind
theorem su_begin {σ : Sg} {a b d : Int32} (h : SU σ) : SU (s_X5_beginRide σ a b d) := by
  unfold s_X5_beginRide
  repeat (first | with_reducible exact h | refine su_sx ?_ (by decide) (by decide))
theorem su_dock {σ : Sg} {a b : Int32} (h : SU σ) : SU (s_X5_dock σ a b) := by
  unfold s_X5_dock
  repeat (first | with_reducible exact h | refine su_sx ?_ (by decide) (by decide))
theorem su_put {σ : Sg} {a b : Int32} (h : SU σ) : SU (s_X5_bePut σ a b) := by
  unfold s_X5_bePut
  repeat' split
  all_goals repeat (first | with_reducible exact h | with_reducible refine su_dock ?_ | refine su_sx ?_ (by decide) (by decide))
theorem su_take {σ : Sg} {a : Int32} (h : SU σ) : SU (s_X5_beTaken σ a) := by
  unfold s_X5_beTaken
  repeat' split
  all_goals repeat (first | with_reducible exact h | refine su_sx ?_ (by decide) (by decide))
theorem su_promise {σ : Sg} {a b d : Int32} (h : SU σ) : SU (s_X5_bePromised σ a b d) := by
  unfold s_X5_bePromised
  repeat' split
  all_goals repeat (first | with_reducible exact h | refine su_sx ?_ (by decide) (by decide))
theorem su_mend {σ : Sg} {a : Int32} (h : SU σ) : SU (s_X5_beMended σ a) := by
  unfold s_X5_beMended
  repeat' split
  all_goals repeat (first | with_reducible exact h | refine su_sx ?_ (by decide) (by decide))
theorem su_fault {σ : Sg} {a b : Int32} (h : SU σ) : SU (s_X0_addFault σ a b) := by
  unfold s_X0_addFault
  repeat (first | with_reducible exact h | refine su_sx ?_ (by decide) (by decide))
theorem su_unlock {σ : Sg} {cy r b : Nat} {mi : Int32} (h : SU σ) (hI : IQ σ b) (hc : cy < 30) : SU (s_X5_beUnlocked σ (nI cy) (nI r) mi) := by
  have ec : (nI cy).toNatClampNeg = cy := nI_clamp (by omega)
  have hr : σ 16 cy = 2 → SU (s_X5_endRide σ (nI cy) mi) := fun h2 => by
    obtain ⟨r2, hr2, hh⟩ := hI.2.1 cy hc h2
    exact su_ride h hc hr2 hh
  unfold s_X5_beUnlocked
  rw [ec]
  repeat' split
  all_goals repeat (first | with_reducible exact h | with_reducible refine su_begin ?_ | with_reducible exact hr (by assumption) | with_reducible refine su_sx ?_ ?_ ?_ | decide)
theorem su_lock {σ : Sg} {cy st b : Nat} {mi : Int32} (h : SU σ) (hI : IQ σ b) (hc : cy < 30) : SU (s_X5_beLocked σ (nI cy) (nI st) mi) := by
  have ec : (nI cy).toNatClampNeg = cy := nI_clamp (by omega)
  have hr : σ 16 cy = 2 → SU (s_X5_endRide σ (nI cy) mi) := fun h2 => by
    obtain ⟨r2, hr2, hh⟩ := hI.2.1 cy hc h2
    exact su_ride h hc hr2 hh
  have hr9 : ∀ (k : Nat) (x : Int32), σ 16 cy = 2 → SU (s_X5_endRide (sx σ 27 k x) (nI cy) mi) := fun k x h2 => by
    obtain ⟨r2, hr2, hh⟩ := hI.2.1 cy hc h2
    exact su_ride (su_sx h (by decide) (by decide)) hc hr2 (by rw [sx_o (by decide)]; exact hh)
  unfold s_X5_beLocked
  rw [ec]
  repeat' split
  all_goals repeat (first | with_reducible exact h | with_reducible refine su_dock ?_ | with_reducible exact hr (by assumption) | with_reducible exact hr9 _ _ (by assumption) | with_reducible refine su_sx ?_ ?_ ?_ | decide)
theorem su_ceu {σ : Sg} {m : Int32} (h : SU σ) : SU (s_X3_countEmptyUntil σ m) := by
  have c : ∀ q, ¬ q = 3 → ¬ q = 15 → s_X3_countEmptyUntil σ m q = σ q := by
    intro q h3 h15
    funext j
    unfold s_X3_countEmptyUntil
    rw [sx_r, ceu_loop m σ 8 (Nat.le_refl _)]
    simp [h3, h15]
  unfold SU
  rw [c 19 (by decide) (by decide), c 24 (by decide) (by decide)]
  exact h
theorem su_happens {σ : Sg} {i b : Nat} (hi : i < 300) (h : SU σ) (hI : IQ σ b) (ht : tOK (σ 6 i) (σ 7 i) (σ 8 i)) : SU (s_X5_happens σ (nI i)) := by
  have hn := iq_minute (σ 9 i) hI
  have hu := su_ceu (m := σ 9 i) h
  have kx := kY_ceu (m := σ 9 i) (kY_r σ)
  obtain ⟨τ, eτ⟩ : ∃ τ, s_X3_countEmptyUntil σ (σ 9 i) = τ := ⟨_, rfl⟩
  rw [eτ] at hn kx hu
  have t6 : τ 6 i = σ 6 i := kx.1.1 6 i (by decide) (by decide)
  obtain ⟨ra, sa⟩ := r_happens (σ := σ) hi eτ t6 rfl rfl
  rw [sa]
  clear ra sa
  rcases ht with ⟨hk, a, p, ha, hp, e7, e8⟩ | ⟨hk, a, p, ha, hp, e7, e8⟩ | ⟨hk, a, ha, e7⟩ | ⟨hk, a, p, ha, hp, e7, e8⟩ | ⟨hk, a, p, ha, hp, e7, e8⟩ | ⟨hk, a, p, ha, hp, e7, e8⟩ | ⟨hk, a, ha, e7⟩ | hk | ⟨hk, a, p, ha, hp, e7, e8⟩
  · rw [hk]; simp (decide := true) only [if_true, if_false]; exact su_sx hu (by decide) (by decide)
  · rw [hk]; simp (decide := true) only [if_true, if_false]; exact su_put hu
  · rw [hk]; simp (decide := true) only [if_true, if_false]; exact su_take hu
  · rw [hk, e7, e8]; simp (decide := true) only [if_true, if_false]; exact su_unlock hu hn ha
  · rw [hk, e7, e8]; simp (decide := true) only [if_true, if_false]; exact su_lock hu hn ha
  · rw [hk]; simp (decide := true) only [if_true, if_false]; exact su_fault hu
  · rw [hk]; simp (decide := true) only [if_true, if_false]; exact su_mend hu
  · rw [hk]; simp (decide := true) only [if_true, if_false]; exact su_sx hu (by decide) (by decide)
  · rw [hk]; simp (decide := true) only [if_true, if_false]; exact su_promise hu
theorem su_anew (σ : Sg) : SU (s_X5_beginAnew σ) := by
  unfold s_X5_beginAnew s_X2_clear s_X0_clear s_X3_clear SU
  simp (decide := true) only [sx_o, sf_o, sf_s, ne_eq, not_false_eq_true]
  all_goals rw [sm_0, sm_0]
