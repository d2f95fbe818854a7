/-- the class -/
def kX (τ σ : Sg) : Prop := (∀ q j, 6 ≤ q → q ≤ 12 → τ q j = σ q j) ∧ τ 0 5 = σ 0 5 ∧ τ 1 4 = σ 1 4
def kY (τ σ : Sg) : Prop := kX τ σ ∧ τ 0 6 = σ 0 6
theorem kX_r (σ : Sg) : kX σ σ := ⟨fun _ _ _ _ => rfl, rfl, rfl⟩
theorem kY_r (σ : Sg) : kY σ σ := ⟨kX_r σ, rfl⟩
theorem kX_tr {a b c : Sg} (h : kX a b) (g : kX b c) : kX a c := ⟨fun q j h1 h2 => (h.1 q j h1 h2).trans (g.1 q j h1 h2), h.2.1.trans g.2.1, h.2.2.trans g.2.2⟩
theorem kY_tr {a b c : Sg} (h : kY a b) (g : kY b c) : kY a c := ⟨kX_tr h.1 g.1, h.2.trans g.2⟩
theorem kY_sx {τ σ : Sg} {k i : Nat} {x : Int32} (h : kY τ σ) (hk : 13 ≤ k ∨ k = 3) : kY (sx τ k i x) σ := by
  obtain ⟨⟨h1, h2, h3⟩, h4⟩ := h
  refine ⟨⟨fun q j a b => ?_, ?_, ?_⟩, ?_⟩
  · rw [sx_r, if_neg (by omega)]; exact h1 q j a b
  · rw [sx_r, if_neg (by omega)]; exact h2
  · rw [sx_r, if_neg (by omega)]; exact h3
  · rw [sx_r, if_neg (by omega)]; exact h4
theorem kY_sf {τ σ : Sg} {k : Nat} {f : Nat → Int32} (h : kY τ σ) (hk : 13 ≤ k) : kY (sf τ k f) σ := by
  obtain ⟨⟨h1, h2, h3⟩, h4⟩ := h
  refine ⟨⟨fun q j a b => ?_, ?_, ?_⟩, ?_⟩
  · rw [sf_r, if_neg (by omega)]; exact h1 q j a b
  · rw [sf_r, if_neg (by omega)]; exact h2
  · rw [sf_r, if_neg (by omega)]; exact h3
  · rw [sf_r, if_neg (by omega)]; exact h4
theorem kY_0 {τ σ : Sg} {i : Nat} {x : Int32} (h : kY τ σ) (hi : 7 ≤ i) : kY (sx τ 0 i x) σ := by
  obtain ⟨⟨h1, h2, h3⟩, h4⟩ := h
  refine ⟨⟨fun q j a b => ?_, ?_, ?_⟩, ?_⟩
  · rw [sx_r, if_neg (by omega)]; exact h1 q j a b
  · rw [sx_r, if_pos rfl, if_neg (by omega)]; exact h2
  · rw [sx_r, if_neg (by omega)]; exact h3
  · rw [sx_r, if_pos rfl, if_neg (by omega)]; exact h4
theorem kX_6 {τ σ : Sg} {i : Nat} {x : Int32} (h : kX τ σ) (hi : 6 ≤ i) : kX (sx τ 0 i x) σ := by
  obtain ⟨h1, h2, h3⟩ := h
  refine ⟨fun q j a b => ?_, ?_, ?_⟩
  · rw [sx_r, if_neg (by omega)]; exact h1 q j a b
  · rw [sx_r, if_pos rfl, if_neg (by omega)]; exact h2
  · rw [sx_r, if_neg (by omega)]; exact h3
theorem kY_ceu {τ σ : Sg} {m : Int32} (h : kY τ σ) : kY (s_X3_countEmptyUntil τ m) σ := by
  have c : ∀ q j, ¬ q = 3 → ¬ q = 15 → s_X3_countEmptyUntil τ m q j = τ q j := by
    intro q j h3 h15
    unfold s_X3_countEmptyUntil
    rw [sx_r, ceu_loop m τ 8 (Nat.le_refl _)]
    simp [h3, h15]
  exact kY_tr ⟨⟨fun q j h1 h2 => c q j (by omega) (by omega), c 0 5 (by omega) (by omega), c 1 4 (by omega) (by omega)⟩, c 0 6 (by omega) (by omega)⟩ h
theorem kY_ride {τ σ : Sg} {a b : Int32} (h : kY τ σ) : kY (s_X5_endRide τ a b) σ := by
  unfold s_X5_endRide
  repeat (first | with_reducible exact h | refine kY_sx ?_ (by decide))
theorem kY_begin {τ σ : Sg} {a b d : Int32} (h : kY τ σ) : kY (s_X5_beginRide τ a b d) σ := by
  unfold s_X5_beginRide
  repeat (first | with_reducible exact h | refine kY_sx ?_ (by decide))
theorem kY_dock {τ σ : Sg} {a b : Int32} (h : kY τ σ) : kY (s_X5_dock τ a b) σ := by
  unfold s_X5_dock
  repeat (first | with_reducible exact h | refine kY_sx ?_ (by decide))
theorem kY_unlock {τ σ : Sg} {a b d : Int32} (h : kY τ σ) : kY (s_X5_beUnlocked τ a b d) σ := by
  unfold s_X5_beUnlocked
  repeat' split
  all_goals repeat (first | with_reducible exact h | with_reducible refine kY_ride ?_ | with_reducible refine kY_begin ?_ | refine kY_sx ?_ (by decide))
theorem kY_lock {τ σ : Sg} {a b d : Int32} (h : kY τ σ) : kY (s_X5_beLocked τ a b d) σ := by
  unfold s_X5_beLocked
  repeat' split
  all_goals repeat (first | with_reducible exact h | with_reducible refine kY_ride ?_ | with_reducible refine kY_dock ?_ | refine kY_sx ?_ (by decide))
theorem kY_put {τ σ : Sg} {a b : Int32} (h : kY τ σ) : kY (s_X5_bePut τ a b) σ := by
  unfold s_X5_bePut
  repeat' split
  all_goals repeat (first | with_reducible exact h | with_reducible refine kY_dock ?_ | refine kY_sx ?_ (by decide))
theorem kY_take {τ σ : Sg} {a : Int32} (h : kY τ σ) : kY (s_X5_beTaken τ a) σ := by
  unfold s_X5_beTaken
  repeat' split
  all_goals repeat (first | with_reducible exact h | refine kY_sx ?_ (by decide))
theorem kY_promise {τ σ : Sg} {a b d : Int32} (h : kY τ σ) : kY (s_X5_bePromised τ a b d) σ := by
  unfold s_X5_bePromised
  repeat' split
  all_goals repeat (first | with_reducible exact h | refine kY_sx ?_ (by decide))
theorem kY_mend {τ σ : Sg} {a : Int32} (h : kY τ σ) : kY (s_X5_beMended τ a) σ := by
  unfold s_X5_beMended
  repeat' split
  all_goals repeat (first | with_reducible exact h | refine kY_sx ?_ (by decide))
theorem kY_fault {τ σ : Sg} {a b : Int32} (h : kY τ σ) : kY (s_X0_addFault τ a b) σ := by
  unfold s_X0_addFault
  repeat (first | with_reducible exact h | refine kY_sx ?_ (by decide))
theorem kY_happens {σ : Sg} {i : Int32} : kY (s_X5_happens σ i) σ := by
  unfold s_X5_happens
  have h : kY (s_X3_countEmptyUntil σ (σ 9 i.toNatClampNeg)) σ := kY_ceu (kY_r σ)
  repeat' split
  all_goals first | with_reducible exact kY_put h | with_reducible exact kY_take h | with_reducible exact kY_unlock h | with_reducible exact kY_lock h | with_reducible exact kY_promise h | with_reducible exact kY_mend h | with_reducible exact kY_fault h | exact kY_sx h (by decide) | exact kY_0 h (by decide)
theorem kX_anew {σ : Sg} : kX (s_X5_beginAnew σ) σ ∧ s_X5_beginAnew σ 0 6 = 0 := by
  have h0 : kX (sx σ 0 6 0) σ := kX_6 (kX_r σ) (by decide)
  have h1 : kY (s_X5_beginAnew σ) (sx σ 0 6 0) := by
    unfold s_X5_beginAnew s_X2_clear s_X0_clear s_X3_clear
    repeat (first | with_reducible exact kY_r _ | refine kY_sf ?_ (by decide) | refine kY_sx ?_ (by decide) | refine kY_0 ?_ (by decide))
  exact ⟨kX_tr h1.1 h0, h1.2.trans (by rw [sx_r, if_pos rfl, if_pos rfl])⟩
def tOK (k f s : Int32) : Prop :=
  (k = 0 ∧ ∃ a b : Nat, a < 8 ∧ b ≤ 20 ∧ f = nI a ∧ s = nI b) ∨ (k = 1 ∧ ∃ a b : Nat, a < 30 ∧ b < 8 ∧ f = nI a ∧ s = nI b) ∨ (k = 2 ∧ ∃ a : Nat, a < 30 ∧ f = nI a) ∨
  (k = 3 ∧ ∃ a b : Nat, a < 30 ∧ b < 10 ∧ f = nI a ∧ s = nI b) ∨ (k = 4 ∧ ∃ a b : Nat, a < 30 ∧ b < 8 ∧ f = nI a ∧ s = nI b) ∨ (k = 5 ∧ ∃ a b : Nat, a < 30 ∧ b < 10 ∧ f = nI a ∧ s = nI b) ∨
  (k = 6 ∧ ∃ a : Nat, a < 30 ∧ f = nI a) ∨ k = 7 ∨ (k = 8 ∧ ∃ a b : Nat, a < 10 ∧ b < 8 ∧ f = nI a ∧ s = nI b)
theorem tOK_hT {k f s : Int32} (h : tOK k f s) : hT k f s := by
  have e8 : ∀ n : Nat, n < 8 → vp_in (nI n) 8 := fun n h => vp_in_nI h (by decide)
  have e10 : ∀ n : Nat, n < 10 → vp_in (nI n) 10 := fun n h => vp_in_nI h (by decide)
  have e30 : ∀ n : Nat, n < 30 → vp_in (nI n) 30 := fun n h => vp_in_nI h (by decide)
  rcases h with ⟨rfl, a, b, ha, hb, rfl, rfl⟩ | ⟨rfl, a, b, ha, hb, rfl, rfl⟩ | ⟨rfl, a, ha, rfl⟩ | ⟨rfl, a, b, ha, hb, rfl, rfl⟩ | ⟨rfl, a, b, ha, hb, rfl, rfl⟩ | ⟨rfl, a, b, ha, hb, rfl, rfl⟩ | ⟨rfl, a, ha, rfl⟩ | rfl | ⟨rfl, a, b, ha, hb, rfl, rfl⟩
  · exact ⟨fun _ => e8 a ha, fun h => absurd h (by decide), fun h => absurd h (by decide), fun h => absurd h (by decide), fun h => absurd h (by decide), fun h => absurd h (by decide), fun h => absurd h (by decide), fun h _ _ _ _ _ _ _ => absurd rfl h⟩
  · exact ⟨fun h => absurd h (by decide), fun _ => ⟨e30 a ha, e8 b hb⟩, fun h => absurd h (by decide), fun h => absurd h (by decide), fun h => absurd h (by decide), fun h => absurd h (by decide), fun h => absurd h (by decide), fun _ h _ _ _ _ _ _ => absurd rfl h⟩
  · exact ⟨fun h => absurd h (by decide), fun h => absurd h (by decide), fun _ => e30 a ha, fun h => absurd h (by decide), fun h => absurd h (by decide), fun h => absurd h (by decide), fun h => absurd h (by decide), fun _ _ h _ _ _ _ _ => absurd rfl h⟩
  · exact ⟨fun h => absurd h (by decide), fun h => absurd h (by decide), fun h => absurd h (by decide), fun _ => ⟨e30 a ha, e10 b hb⟩, fun h => absurd h (by decide), fun h => absurd h (by decide), fun h => absurd h (by decide), fun _ _ _ h _ _ _ _ => absurd rfl h⟩
  · exact ⟨fun h => absurd h (by decide), fun h => absurd h (by decide), fun h => absurd h (by decide), fun h => absurd h (by decide), fun _ => ⟨e30 a ha, e8 b hb⟩, fun h => absurd h (by decide), fun h => absurd h (by decide), fun _ _ _ _ h _ _ _ => absurd rfl h⟩
  · exact ⟨fun h => absurd h (by decide), fun h => absurd h (by decide), fun h => absurd h (by decide), fun h => absurd h (by decide), fun h => absurd h (by decide), fun _ => ⟨e30 a ha, e10 b hb⟩, fun h => absurd h (by decide), fun _ _ _ _ _ h _ _ => absurd rfl h⟩
  · exact ⟨fun h => absurd h (by decide), fun h => absurd h (by decide), fun h => absurd h (by decide), fun h => absurd h (by decide), fun h => absurd h (by decide), fun h => absurd h (by decide), fun _ => e30 a ha, fun _ _ _ _ _ _ h _ => absurd rfl h⟩
  · exact ⟨fun h => absurd h (by decide), fun h => absurd h (by decide), fun h => absurd h (by decide), fun h => absurd h (by decide), fun h => absurd h (by decide), fun h => absurd h (by decide), fun h => absurd h (by decide), fun _ _ _ _ _ _ _ h => absurd rfl h⟩
  · exact ⟨fun h => absurd h (by decide), fun h => absurd h (by decide), fun h => absurd h (by decide), fun h => absurd h (by decide), fun h => absurd h (by decide), fun h => absurd h (by decide), fun h => absurd h (by decide), fun _ _ _ _ _ _ _ _ => ⟨e10 a ha, e8 b hb⟩⟩
theorem r_happens {σ : Sg} {i : Nat} {τ : Sg} {k f s : Int32} (hi : i < 300) (hτ : s_X3_countEmptyUntil σ (σ 9 i) = τ) (h6 : τ 6 i = k) (h7 : σ 7 i = f) (h8 : σ 8 i = s) :
    r_X5_happens σ (nI i) = (if k = 0 then 1 else if k = 1 then r_X5_bePut τ f s else if k = 2 then r_X5_beTaken τ f else if k = 3 then r_X5_beUnlocked τ f s (σ 9 i) else if k = 4 then r_X5_beLocked τ f s (σ 9 i) else if k = 5 then 1 else if k = 6 then r_X5_beMended τ f else if k = 7 then 1 else r_X5_bePromised τ f s (σ 9 i)) ∧
    s_X5_happens σ (nI i) = (if k = 0 then sx τ 13 f.toNatClampNeg s else if k = 1 then s_X5_bePut τ f s else if k = 2 then s_X5_beTaken τ f else if k = 3 then s_X5_beUnlocked τ f s (σ 9 i) else if k = 4 then s_X5_beLocked τ f s (σ 9 i) else if k = 5 then s_X0_addFault τ f s else if k = 6 then s_X5_beMended τ f else if k = 7 then sx τ 0 8 f else s_X5_bePromised τ f s (σ 9 i)) := by
  have ec : (nI i).toNatClampNeg = i := nI_clamp (by omega)
  unfold r_X5_happens s_X5_happens
  rw [ec, hτ, h6, h7, h8]
  exact ⟨rfl, rfl⟩
def sm (f : Nat → Int32) : Nat → Int32
  | 0 => 0
  | k + 1 => sm f k + f k
theorem sm_upd (f : Nat → Int32) (i : Nat) (x : Int32) : ∀ n, sm (upd f i x) n = if i < n then sm f n + (x - f i) else sm f n := by
  intro n
  induction n with
  | zero => simp [sm]
  | succ n ih =>
    show sm (upd f i x) n + upd f i x n = _
    rw [ih]
    by_cases h1 : i < n
    · have h2 : ¬ n = i := by omega
      rw [if_pos h1, if_pos (by omega), pk_un h2]
      show sm f n + (x - f i) + f n = sm f n + f n + (x - f i)
      grind
    · by_cases h2 : n = i
      · subst h2
        rw [if_neg h1, if_pos (by omega), pk_us]
        show sm f n + x = sm f n + f n + (x - f n)
        grind
      · rw [if_neg h1, if_neg (by omega), pk_un h2]
        rfl
theorem sm_0 : ∀ n, sm (fun _ => 0) n = 0 := by
  intro n
  induction n with
  | zero => rfl
  | succ n ih => show sm (fun _ => 0) n + 0 = 0; rw [ih]; rfl
theorem sx_s (σ : Sg) (k i : Nat) (x : Int32) : sx σ k i x k = upd (σ k) i x := by unfold sx; rw [if_pos rfl]
theorem sx_o {σ : Sg} {k i q : Nat} {x : Int32} (h : q ≠ k) : sx σ k i x q = σ q := by unfold sx; rw [if_neg h]
theorem sf_s (σ : Sg) (k : Nat) (f : Nat → Int32) : sf σ k f k = f := by unfold sf; rw [if_pos rfl]
theorem sf_o {σ : Sg} {k q : Nat} {f : Nat → Int32} (h : q ≠ k) : sf σ k f q = σ q := by unfold sf; rw [if_neg h]
def SU (σ : Sg) : Prop := sm (σ 19) 30 = sm (σ 24) 10
theorem su_sx {σ : Sg} {k i : Nat} {x : Int32} (h : SU σ) (h1 : 19 ≠ k) (h2 : 24 ≠ k) : SU (sx σ k i x) := by
  unfold SU; rw [sx_o h1, sx_o h2]; exact h
theorem su_sf {σ : Sg} {k : Nat} {f : Nat → Int32} (h : SU σ) (h1 : 19 ≠ k) (h2 : 24 ≠ k) : SU (sf σ k f) := by
  unfold SU; rw [sf_o h1, sf_o h2]; exact h
theorem su_ride {σ : Sg} {cy r : Nat} {mi : Int32} (h : SU σ) (hc : cy < 30) (hr : r < 10) (hh : σ 17 cy = nI r) : SU (s_X5_endRide σ (nI cy) mi) := by
  have ec : (nI cy).toNatClampNeg = cy := nI_clamp (by omega)
  have er : (nI r).toNatClampNeg = r := nI_clamp (by omega)
  unfold s_X5_endRide
  rw [ec, hh, er]
  generalize r_X0_minutesGoingOn σ (nI cy) mi = m
  generalize r_X0_rideCost _ _ _ = z
  refine su_sx ?_ (by decide) (by decide)
  unfold SU at h ⊢
  rw [sx_o (by decide), sx_s, sx_s, sx_o (by decide), sm_upd, sm_upd, if_pos hc, if_pos hr, h]
  grind
theorem su_begin {σ : Sg} {a b d : Int32} (h : SU σ) : SU (s_X5_beginRide σ a b d) := by
  unfold s_X5_beginRide
  repeat (first | with_reducible exact h | refine su_sx ?_ (by decide) (by decide))
theorem su_dock {σ : Sg} {a b : Int32} (h : SU σ) : SU (s_X5_dock σ a b) := by
  unfold s_X5_dock
  repeat (first | with_reducible exact h | refine su_sx ?_ (by decide) (by decide))
theorem su_put {σ : Sg} {a b : Int32} (h : SU σ) : SU (s_X5_bePut σ a b) := by
  unfold s_X5_bePut
  repeat' split
  all_goals repeat (first | with_reducible exact h | with_reducible refine su_dock ?_ | refine su_sx ?_ (by decide) (by decide))
theorem su_take {σ : Sg} {a : Int32} (h : SU σ) : SU (s_X5_beTaken σ a) := by
  unfold s_X5_beTaken
  repeat' split
  all_goals repeat (first | with_reducible exact h | refine su_sx ?_ (by decide) (by decide))
theorem su_promise {σ : Sg} {a b d : Int32} (h : SU σ) : SU (s_X5_bePromised σ a b d) := by
  unfold s_X5_bePromised
  repeat' split
  all_goals repeat (first | with_reducible exact h | refine su_sx ?_ (by decide) (by decide))
theorem su_mend {σ : Sg} {a : Int32} (h : SU σ) : SU (s_X5_beMended σ a) := by
  unfold s_X5_beMended
  repeat' split
  all_goals repeat (first | with_reducible exact h | refine su_sx ?_ (by decide) (by decide))
theorem su_fault {σ : Sg} {a b : Int32} (h : SU σ) : SU (s_X0_addFault σ a b) := by
  unfold s_X0_addFault
  repeat (first | with_reducible exact h | refine su_sx ?_ (by decide) (by decide))
theorem su_unlock {σ : Sg} {cy r b : Nat} {mi : Int32} (h : SU σ) (hI : IQ σ b) (hc : cy < 30) : SU (s_X5_beUnlocked σ (nI cy) (nI r) mi) := by
  have ec : (nI cy).toNatClampNeg = cy := nI_clamp (by omega)
  have hr : σ 16 cy = 2 → SU (s_X5_endRide σ (nI cy) mi) := fun h2 => by
    obtain ⟨r2, hr2, hh⟩ := hI.2.1 cy hc h2
    exact su_ride h hc hr2 hh
  unfold s_X5_beUnlocked
  rw [ec]
  repeat' split
  all_goals repeat (first | with_reducible exact h | with_reducible refine su_begin ?_ | with_reducible exact hr (by assumption) | with_reducible refine su_sx ?_ ?_ ?_ | decide)
theorem su_lock {σ : Sg} {cy st b : Nat} {mi : Int32} (h : SU σ) (hI : IQ σ b) (hc : cy < 30) : SU (s_X5_beLocked σ (nI cy) (nI st) mi) := by
  have ec : (nI cy).toNatClampNeg = cy := nI_clamp (by omega)
  have hr : σ 16 cy = 2 → SU (s_X5_endRide σ (nI cy) mi) := fun h2 => by
    obtain ⟨r2, hr2, hh⟩ := hI.2.1 cy hc h2
    exact su_ride h hc hr2 hh
  have hr9 : ∀ (k : Nat) (x : Int32), σ 16 cy = 2 → SU (s_X5_endRide (sx σ 27 k x) (nI cy) mi) := fun k x h2 => by
    obtain ⟨r2, hr2, hh⟩ := hI.2.1 cy hc h2
    exact su_ride (su_sx h (by decide) (by decide)) hc hr2 (by rw [sx_o (by decide)]; exact hh)
  unfold s_X5_beLocked
  rw [ec]
  repeat' split
  all_goals repeat (first | with_reducible exact h | with_reducible refine su_dock ?_ | with_reducible exact hr (by assumption) | with_reducible exact hr9 _ _ (by assumption) | with_reducible refine su_sx ?_ ?_ ?_ | decide)
theorem su_ceu {σ : Sg} {m : Int32} (h : SU σ) : SU (s_X3_countEmptyUntil σ m) := by
  have c : ∀ q, ¬ q = 3 → ¬ q = 15 → s_X3_countEmptyUntil σ m q = σ q := by
    intro q h3 h15
    funext j
    unfold s_X3_countEmptyUntil
    rw [sx_r, ceu_loop m σ 8 (Nat.le_refl _)]
    simp [h3, h15]
  unfold SU
  rw [c 19 (by decide) (by decide), c 24 (by decide) (by decide)]
  exact h
theorem su_happens {σ : Sg} {i b : Nat} (hi : i < 300) (h : SU σ) (hI : IQ σ b) (ht : tOK (σ 6 i) (σ 7 i) (σ 8 i)) : SU (s_X5_happens σ (nI i)) := by
  have hn := iq_minute (σ 9 i) hI
  have hu := su_ceu (m := σ 9 i) h
  have kx := kY_ceu (m := σ 9 i) (kY_r σ)
  obtain ⟨τ, eτ⟩ : ∃ τ, s_X3_countEmptyUntil σ (σ 9 i) = τ := ⟨_, rfl⟩
  rw [eτ] at hn kx hu
  have t6 : τ 6 i = σ 6 i := kx.1.1 6 i (by decide) (by decide)
  obtain ⟨ra, sa⟩ := r_happens (σ := σ) hi eτ t6 rfl rfl
  rw [sa]
  clear ra sa
  rcases ht with ⟨hk, a, p, ha, hp, e7, e8⟩ | ⟨hk, a, p, ha, hp, e7, e8⟩ | ⟨hk, a, ha, e7⟩ | ⟨hk, a, p, ha, hp, e7, e8⟩ | ⟨hk, a, p, ha, hp, e7, e8⟩ | ⟨hk, a, p, ha, hp, e7, e8⟩ | ⟨hk, a, ha, e7⟩ | hk | ⟨hk, a, p, ha, hp, e7, e8⟩
  · rw [hk]; simp (decide := true) only [if_true, if_false]; exact su_sx hu (by decide) (by decide)
  · rw [hk]; simp (decide := true) only [if_true, if_false]; exact su_put hu
  · rw [hk]; simp (decide := true) only [if_true, if_false]; exact su_take hu
  · rw [hk, e7, e8]; simp (decide := true) only [if_true, if_false]; exact su_unlock hu hn ha
  · rw [hk, e7, e8]; simp (decide := true) only [if_true, if_false]; exact su_lock hu hn ha
  · rw [hk]; simp (decide := true) only [if_true, if_false]; exact su_fault hu
  · rw [hk]; simp (decide := true) only [if_true, if_false]; exact su_mend hu
  · rw [hk]; simp (decide := true) only [if_true, if_false]; exact su_sx hu (by decide) (by decide)
  · rw [hk]; simp (decide := true) only [if_true, if_false]; exact su_promise hu
theorem su_anew (σ : Sg) : SU (s_X5_beginAnew σ) := by
  unfold s_X5_beginAnew s_X2_clear s_X0_clear s_X3_clear SU
  simp (decide := true) only [sx_o, sf_o, sf_s, ne_eq, not_false_eq_true]
  all_goals rw [sm_0, sm_0]
theorem clr2_r (σ : Sg) (q j : Nat) : s_X2_clear σ q j = if q = 27 then -1 else if 23 ≤ q ∧ q ≤ 28 then 0 else σ q j := by
  unfold s_X2_clear
  simp only [sf_r]
  repeat' split
  all_goals first | rfl | (exfalso; omega)
theorem clr0_r (σ : Sg) (q j : Nat) : s_X0_clear σ q j = if q = 17 then -1 else if 16 ≤ q ∧ q ≤ 22 then 0 else σ q j := by
  unfold s_X0_clear
  simp only [sf_r]
  repeat' split
  all_goals first | rfl | (exfalso; omega)
theorem clr3_r (σ : Sg) (q j : Nat) : s_X3_clear σ q j = if 13 ≤ q ∧ q ≤ 15 then 0 else if q = 3 ∧ j = 3 then 0 else σ q j := by
  unfold s_X3_clear
  simp only [sx_r, sf_r]
  repeat' split
  all_goals first | rfl | (exfalso; omega)
theorem anew_r (σ : Sg) (q j : Nat) : s_X5_beginAnew σ q j = if q = 17 ∨ q = 27 then -1 else if 13 ≤ q ∧ q ≤ 28 then 0 else if q = 3 ∧ j = 3 then 0 else if q = 0 ∧ j = 8 then 1 else if q = 0 ∧ (j = 6 ∨ j = 7) then 0 else σ q j := by
  unfold s_X5_beginAnew
  rw [clr2_r, clr0_r, clr3_r]
  simp only [sx_r]
  repeat' split
  all_goals first | rfl | (exfalso; omega)
theorem iq_anew (σ : Sg) : IQ (s_X5_beginAnew σ) 0 := by
  have c := anew_r σ
  refine ⟨?_, ?_, ?_, ?_, ?_, ?_⟩
  · intro j hj h; rw [c] at h; simp at h
  · intro j hj h; rw [c] at h; simp at h
  · intro j hj; exact ⟨0, by decide, by rw [c, nI_0]; simp⟩
  · intro j hj; left; rw [c]; simp
  · intro j hj; exact ⟨0, by decide, by rw [c, nI_0]; simp⟩
  · intro j hj; rw [c]; simp [zI]
theorem itn_s {α : Type} (f : Nat → α → α) (n : Nat) (x : α) : itn f (n + 1) x = f n (itn f n x) := rfl
def dwi (f : Nat → Int32) (mi : Int32) : Nat → Nat
  | 0 => 0
  | k + 1 => if f k ≤ mi then k + 1 else dwi f mi k
theorem dwi_le (f : Nat → Int32) (mi : Int32) : ∀ k, dwi f mi k ≤ k := by
  intro k
  induction k with
  | zero => exact Nat.le_refl _
  | succ k ih =>
    show (if f k ≤ mi then k + 1 else dwi f mi k) ≤ k + 1
    split <;> omega
theorem dwi_congr {f g : Nat → Int32} {mi : Int32} : ∀ k, (∀ i, i < k → f i = g i) → dwi f mi k = dwi g mi k := by
  intro k
  induction k with
  | zero => intro _; rfl
  | succ k ih =>
    intro h
    show (if f k ≤ mi then k + 1 else dwi f mi k) = (if g k ≤ mi then k + 1 else dwi g mi k)
    rw [h k (by omega), ih (fun i hi => h i (by omega))]
theorem dwi_top {f : Nat → Int32} {mi : Int32} {n : Nat} (h : ∀ i, i < n → f i ≤ mi) : dwi f mi n = n := by
  cases n with
  | zero => rfl
  | succ k =>
    show (if f k ≤ mi then k + 1 else dwi f mi k) = k + 1
    rw [if_pos (h k (by omega))]
theorem dw_X4 (σ : Sg) (mi : Int32) : ∀ k, k ≤ 300 → dw_X4_insert σ mi k = dwi (σ 9) mi k := by
  intro k
  induction k with
  | zero => intro _; rfl
  | succ k ih =>
    intro hk
    show (if σ 9 ((nI (k + 1)) - 1).toNatClampNeg ≤ mi then k + 1 else dw_X4_insert σ mi k) = (if σ 9 k ≤ mi then k + 1 else dwi (σ 9) mi k)
    rw [nI_pred, nI_clamp (by omega), ih (by omega)]
theorem ins_spec {σ : Sg} {n : Nat} {k f s m : Int32} (hn : n < 300) (hc : σ 1 4 = nI n) : r_X4_insert σ k f s m n = nI (dwi (σ 9) m n) ∧
    (∀ q j, s_X4_insert σ k f s m n q j = if 6 ≤ q ∧ q ≤ 9 then (if j = dwi (σ 9) m n then (if q = 6 then k else if q = 7 then f else if q = 8 then s else m) else if dwi (σ 9) m n < j ∧ j ≤ n then σ q (j - 1) else σ q j) else if q = 1 ∧ j = 4 then nI (n + 1) else σ q j) := by
  have hf : r_X4_isFull σ = 0 := by
    unfold r_X4_isFull
    rw [hc, if_pos (show nI n < (300 : Int32) from nI_lt (b := 300) hn (by decide))]
  have hle := dwi_le (σ 9) m n
  unfold r_X4_insert s_X4_insert
  rw [if_pos hf, if_pos hf, dw_X4 σ m n (by omega)]
  generalize dwi (σ 9) m n = p at hle ⊢
  rw [nI_clamp (show p < 2 ^ 31 by omega)]
  refine ⟨rfl, fun q j => ?_⟩
  have hcp : ∀ (g : Nat → Int32), va_cpy g g p (p + 1) (n - p) j = if p < j ∧ j ≤ n then g (j - 1) else g j := by
    intro g
    unfold va_cpy
    by_cases h : p < j ∧ j ≤ n
    · rw [if_pos h, if_pos (by omega), show p + (j - (p + 1)) = j - 1 by omega]
    · rw [if_neg h, if_neg (by omega)]
  by_cases h9 : q = 9
  · subst h9
    by_cases hj : j = p
    · simp [sx_r, hj]
    · simp [sx_r, sf_r, hj, hcp]
  by_cases h8 : q = 8
  · subst h8
    by_cases hj : j = p
    · simp [sx_r, hj]
    · simp [sx_r, sf_r, hj, hcp]
  by_cases h7 : q = 7
  · subst h7
    by_cases hj : j = p
    · simp [sx_r, hj]
    · simp [sx_r, sf_r, hj, hcp]
  by_cases h6 : q = 6
  · subst h6
    by_cases hj : j = p
    · simp [sx_r, hj]
    · simp [sx_r, sf_r, hj, hcp]
  rw [if_neg (by omega)]
  by_cases h1 : q = 1
  · subst h1
    by_cases hj : j = 4
    · subst hj; simp [sx_r, sf_r, hc, nI_1]
    · simp [sx_r, sf_r, hj]
  · simp [sx_r, sf_r, h1, h6, h7, h8, h9]
theorem kX_sy {a b : Sg} (h : kX a b) : kX b a := ⟨fun q j h1 h2 => (h.1 q j h1 h2).symm, h.2.1.symm, h.2.2.symm⟩
theorem ins_o {σ : Sg} {n : Nat} {k f s m : Int32} (hn : n < 300) (hc : σ 1 4 = nI n) (q : Nat) (hq : ¬ (6 ≤ q ∧ q ≤ 9)) (h1 : q ≠ 1) : s_X4_insert σ k f s m n q = σ q := by
  funext j
  rw [(ins_spec (k := k) (f := f) (s := s) (m := m) hn hc).2, if_neg hq, if_neg (fun z => h1 z.1)]
theorem iq_ins {σ : Sg} {n b : Nat} {k f s m : Int32} (hn : n < 300) (hc : σ 1 4 = nI n) (h : IQ σ b) : IQ (s_X4_insert σ k f s m n) b := by
  have e := fun q a b => ins_o (σ := σ) (k := k) (f := f) (s := s) (m := m) hn hc q a b
  unfold IQ at h ⊢
  rw [e 13 (by decide) (by decide), e 14 (by decide) (by decide), e 16 (by decide) (by decide), e 17 (by decide) (by decide), e 18 (by decide) (by decide), e 27 (by decide) (by decide)]
  exact h
theorem su_ins {σ : Sg} {n : Nat} {k f s m : Int32} (hn : n < 300) (hc : σ 1 4 = nI n) (h : SU σ) : SU (s_X4_insert σ k f s m n) := by
  have e := fun q a b => ins_o (σ := σ) (k := k) (f := f) (s := s) (m := m) hn hc q a b
  unfold SU at h ⊢
  rw [e 19 (by decide) (by decide), e 24 (by decide) (by decide)]
  exact h
/-- the story of the class, as the reference would hold it -/
def mX (σ : Sg) : Sg := fun q j => if q = 4 then σ 6 j else if q = 5 then σ 7 j else if q = 6 then σ 8 j else if q = 7 then σ 9 j else 0
theorem okX_of {x : Sg} {b i : Nat} (hi : i < 300) (hI : IQ x b) (ht : tOK (x 6 i) (x 7 i) (x 8 i)) : okX x (nI i) := by
  have ec : (nI i).toNatClampNeg = i := nI_clamp (by omega)
  have k := kY_ceu (m := x 9 i) (kY_r x)
  unfold okX
  rw [ec, k.1.1 6 i (by decide) (by decide)]
  exact ⟨tOK_hT ht, hX_of (iq_minute _ hI)⟩
