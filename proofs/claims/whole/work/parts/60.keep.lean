-- what stays as things are gone through
def kM (τ σ : Sg) : Prop := (∀ q j, 1 ≤ q → q ≤ 7 → τ q j = σ q j) ∧ (∀ j, j < 26 → τ 0 j = σ 0 j)
def kN (τ σ : Sg) : Prop := kM τ σ ∧ τ 0 28 = σ 0 28
theorem kM_r (σ : Sg) : kM σ σ := ⟨fun _ _ _ _ => rfl, fun _ _ => rfl⟩
theorem kN_r (σ : Sg) : kN σ σ := ⟨kM_r σ, rfl⟩
theorem kM_tr {a b c : Sg} (h : kM a b) (g : kM b c) : kM a c := ⟨fun q j h1 h2 => (h.1 q j h1 h2).trans (g.1 q j h1 h2), fun j h1 => (h.2 j h1).trans (g.2 j h1)⟩
theorem kN_tr {a b c : Sg} (h : kN a b) (g : kN b c) : kN a c := ⟨kM_tr h.1 g.1, h.2.trans g.2⟩
theorem kN_sx {τ σ : Sg} {k i : Nat} {x : Int32} (h : kN τ σ) (hk : 8 ≤ k) : kN (sx τ k i x) σ := by
  obtain ⟨⟨h1, h2⟩, h3⟩ := h
  refine ⟨⟨fun q j a b => ?_, fun j a => ?_⟩, ?_⟩
  · rw [sx_r, if_neg (by omega)]; exact h1 q j a b
  · rw [sx_r, if_neg (by omega)]; exact h2 j a
  · rw [sx_r, if_neg (by omega)]; exact h3
theorem kN_0 {τ σ : Sg} {i : Nat} {x : Int32} (h : kN τ σ) (h4 : 26 ≤ i) (h5 : i ≠ 28) : kN (sx τ 0 i x) σ := by
  obtain ⟨⟨h1, h2⟩, h3⟩ := h
  refine ⟨⟨fun q j a b => ?_, fun j a => ?_⟩, ?_⟩
  · rw [sx_r, if_neg (by omega)]; exact h1 q j a b
  · rw [sx_r, if_pos rfl, if_neg (by omega)]; exact h2 j a
  · rw [sx_r, if_pos rfl, if_neg (by omega)]; exact h3
theorem kM_0 {τ σ : Sg} {i : Nat} {x : Int32} (h : kM τ σ) (h4 : 26 ≤ i) : kM (sx τ 0 i x) σ := by
  obtain ⟨h1, h2⟩ := h
  refine ⟨fun q j a b => ?_, fun j a => ?_⟩
  · rw [sx_r, if_neg (by omega)]; exact h1 q j a b
  · rw [sx_r, if_pos rfl, if_neg (by omega)]; exact h2 j a
theorem kN_itn {f : Nat → Sg → Sg} {σ : Sg} (hf : ∀ i x, kN x σ → kN (f i x) σ) : ∀ n x, kN x σ → kN (itn f n x) σ := by
  intro n
  induction n with
  | zero => intro x h; exact h
  | succ n ih => intro x h; exact hf n _ (ih x h)
theorem kN_stand {τ σ : Sg} {a b : Int32} (h : kN τ σ) : kN (s_X6_stand τ a b) σ := by
  have c : ∀ q j, ¬ q = 10 → s_X6_stand τ a b q j = τ q j := by
    intro q j hq
    unfold s_X6_stand
    rw [stand_loop a b τ 8 (Nat.le_refl _) q j, if_neg (fun z => hq z.1)]
  exact kN_tr ⟨⟨fun q j h1 h2 => c q j (by omega), fun j _ => c 0 j (by omega)⟩, c 0 28 (by omega)⟩ h
theorem kN_ride {τ σ : Sg} {a b : Int32} (h : kN τ σ) : kN (s_X6_ride τ a b) σ := by
  unfold s_X6_ride
  repeat' split
  all_goals repeat (first | with_reducible exact h | refine kN_sx ?_ (by decide))
theorem kN_dock {τ σ : Sg} {a b : Int32} (h : kN τ σ) : kN (s_X6_dock τ a b) σ := by
  unfold s_X6_dock
  repeat (first | with_reducible exact h | refine kN_sx ?_ (by decide))
theorem kN_unlock {τ σ : Sg} {a b d : Int32} (h : kN τ σ) : kN (s_X6_unlock τ a b d) σ := by
  unfold s_X6_unlock
  repeat' split
  all_goals repeat (first | with_reducible exact h | with_reducible exact kN_ride h | refine kN_sx ?_ (by decide))
theorem kN_lock {τ σ : Sg} {a b d : Int32} (h : kN τ σ) : kN (s_X6_lock τ a b d) σ := by
  unfold s_X6_lock
  repeat' split
  all_goals repeat (first | with_reducible exact h | with_reducible refine kN_ride ?_ | with_reducible refine kN_dock ?_ | refine kN_sx ?_ (by decide))
theorem kN_put {τ σ : Sg} {a b : Int32} (h : kN τ σ) : kN (s_X6_putCycle τ a b) σ := by
  unfold s_X6_putCycle
  repeat' split
  all_goals repeat (first | with_reducible exact h | with_reducible refine kN_dock ?_ | refine kN_sx ?_ (by decide))
theorem kN_take {τ σ : Sg} {a : Int32} (h : kN τ σ) : kN (s_X6_takeCycle τ a) σ := by
  unfold s_X6_takeCycle
  repeat' split
  all_goals repeat (first | with_reducible exact h | refine kN_sx ?_ (by decide))
theorem kN_promise {τ σ : Sg} {a b d : Int32} (h : kN τ σ) : kN (s_X6_promisePlace τ a b d) σ := by
  unfold s_X6_promisePlace
  repeat' split
  all_goals repeat (first | with_reducible exact h | refine kN_sx ?_ (by decide))
theorem kN_does {τ σ : Sg} {i : Int32} (h : kN τ σ) : kN (s_X6_does τ i) σ := by
  unfold s_X6_does
  repeat' split
  all_goals first | with_reducible exact kN_put h | with_reducible exact kN_take h | with_reducible exact kN_unlock h | with_reducible exact kN_lock h | with_reducible exact kN_promise h | exact kN_sx h (by decide) | exact kN_0 h (by decide) (by decide)
theorem kN_begin {τ σ : Sg} (h : kN τ σ) : kN (s_X6_begin τ) σ := by
  unfold s_X6_begin
  refine kN_0 (kN_0 ?_ (by decide) (by decide)) (by decide) (by decide)
  refine kN_itn (fun i x hx => ?_) _ _ (kN_itn (fun i x hx => ?_) _ _ (kN_itn (fun i x hx => ?_) _ _ h))
  · unfold st_X6_begin_79; repeat (first | with_reducible exact hx | refine kN_sx ?_ (by decide))
  · unfold st_X6_begin_37; repeat (first | with_reducible exact hx | refine kN_sx ?_ (by decide))
  · unfold st_X6_begin_2; repeat (first | with_reducible exact hx | refine kN_sx ?_ (by decide))
/-- the class -/
def kX (τ σ : Sg) : Prop := (∀ q j, 6 ≤ q → q ≤ 12 → τ q j = σ q j) ∧ τ 0 5 = σ 0 5 ∧ τ 1 4 = σ 1 4
def kY (τ σ : Sg) : Prop := kX τ σ ∧ τ 0 6 = σ 0 6
theorem kX_r (σ : Sg) : kX σ σ := ⟨fun _ _ _ _ => rfl, rfl, rfl⟩
theorem kY_r (σ : Sg) : kY σ σ := ⟨kX_r σ, rfl⟩
theorem kX_tr {a b c : Sg} (h : kX a b) (g : kX b c) : kX a c := ⟨fun q j h1 h2 => (h.1 q j h1 h2).trans (g.1 q j h1 h2), h.2.1.trans g.2.1, h.2.2.trans g.2.2⟩
theorem kY_tr {a b c : Sg} (h : kY a b) (g : kY b c) : kY a c := ⟨kX_tr h.1 g.1, h.2.trans g.2⟩
theorem kY_sx {τ σ : Sg} {k i : Nat} {x : Int32} (h : kY τ σ) (hk : 13 ≤ k ∨ k = 3) : kY (sx τ k i x) σ := by
  obtain ⟨⟨h1, h2, h3⟩, h4⟩ := h
  refine ⟨⟨fun q j a b => ?_, ?_, ?_⟩, ?_⟩
  · rw [sx_r, if_neg (by omega)]; exact h1 q j a b
  · rw [sx_r, if_neg (by omega)]; exact h2
  · rw [sx_r, if_neg (by omega)]; exact h3
  · rw [sx_r, if_neg (by omega)]; exact h4
theorem kY_sf {τ σ : Sg} {k : Nat} {f : Nat → Int32} (h : kY τ σ) (hk : 13 ≤ k) : kY (sf τ k f) σ := by
  obtain ⟨⟨h1, h2, h3⟩, h4⟩ := h
  refine ⟨⟨fun q j a b => ?_, ?_, ?_⟩, ?_⟩
  · rw [sf_r, if_neg (by omega)]; exact h1 q j a b
  · rw [sf_r, if_neg (by omega)]; exact h2
  · rw [sf_r, if_neg (by omega)]; exact h3
  · rw [sf_r, if_neg (by omega)]; exact h4
theorem kY_0 {τ σ : Sg} {i : Nat} {x : Int32} (h : kY τ σ) (hi : 7 ≤ i) : kY (sx τ 0 i x) σ := by
  obtain ⟨⟨h1, h2, h3⟩, h4⟩ := h
  refine ⟨⟨fun q j a b => ?_, ?_, ?_⟩, ?_⟩
  · rw [sx_r, if_neg (by omega)]; exact h1 q j a b
  · rw [sx_r, if_pos rfl, if_neg (by omega)]; exact h2
  · rw [sx_r, if_neg (by omega)]; exact h3
  · rw [sx_r, if_pos rfl, if_neg (by omega)]; exact h4
theorem kX_6 {τ σ : Sg} {i : Nat} {x : Int32} (h : kX τ σ) (hi : 6 ≤ i) : kX (sx τ 0 i x) σ := by
  obtain ⟨h1, h2, h3⟩ := h
  refine ⟨fun q j a b => ?_, ?_, ?_⟩
  · rw [sx_r, if_neg (by omega)]; exact h1 q j a b
  · rw [sx_r, if_pos rfl, if_neg (by omega)]; exact h2
  · rw [sx_r, if_neg (by omega)]; exact h3
theorem kY_ceu {τ σ : Sg} {m : Int32} (h : kY τ σ) : kY (s_X3_countEmptyUntil τ m) σ := by
  have c : ∀ q j, ¬ q = 3 → ¬ q = 15 → s_X3_countEmptyUntil τ m q j = τ q j := by
    intro q j h3 h15
    unfold s_X3_countEmptyUntil
    rw [sx_r, ceu_loop m τ 8 (Nat.le_refl _)]
    simp [h3, h15]
  exact kY_tr ⟨⟨fun q j h1 h2 => c q j (by omega) (by omega), c 0 5 (by omega) (by omega), c 1 4 (by omega) (by omega)⟩, c 0 6 (by omega) (by omega)⟩ h
theorem kY_ride {τ σ : Sg} {a b : Int32} (h : kY τ σ) : kY (s_X5_endRide τ a b) σ := by
  unfold s_X5_endRide
  repeat (first | with_reducible exact h | refine kY_sx ?_ (by decide))
theorem kY_begin {τ σ : Sg} {a b d : Int32} (h : kY τ σ) : kY (s_X5_beginRide τ a b d) σ := by
  unfold s_X5_beginRide
  repeat (first | with_reducible exact h | refine kY_sx ?_ (by decide))
theorem kY_dock {τ σ : Sg} {a b : Int32} (h : kY τ σ) : kY (s_X5_dock τ a b) σ := by
  unfold s_X5_dock
  repeat (first | with_reducible exact h | refine kY_sx ?_ (by decide))
theorem kY_unlock {τ σ : Sg} {a b d : Int32} (h : kY τ σ) : kY (s_X5_beUnlocked τ a b d) σ := by
  unfold s_X5_beUnlocked
  repeat' split
  all_goals repeat (first | with_reducible exact h | with_reducible refine kY_ride ?_ | with_reducible refine kY_begin ?_ | refine kY_sx ?_ (by decide))
theorem kY_lock {τ σ : Sg} {a b d : Int32} (h : kY τ σ) : kY (s_X5_beLocked τ a b d) σ := by
  unfold s_X5_beLocked
  repeat' split
  all_goals repeat (first | with_reducible exact h | with_reducible refine kY_ride ?_ | with_reducible refine kY_dock ?_ | refine kY_sx ?_ (by decide))
theorem kY_put {τ σ : Sg} {a b : Int32} (h : kY τ σ) : kY (s_X5_bePut τ a b) σ := by
  unfold s_X5_bePut
  repeat' split
  all_goals repeat (first | with_reducible exact h | with_reducible refine kY_dock ?_ | refine kY_sx ?_ (by decide))
theorem kY_take {τ σ : Sg} {a : Int32} (h : kY τ σ) : kY (s_X5_beTaken τ a) σ := by
  unfold s_X5_beTaken
  repeat' split
  all_goals repeat (first | with_reducible exact h | refine kY_sx ?_ (by decide))
theorem kY_promise {τ σ : Sg} {a b d : Int32} (h : kY τ σ) : kY (s_X5_bePromised τ a b d) σ := by
  unfold s_X5_bePromised
  repeat' split
  all_goals repeat (first | with_reducible exact h | refine kY_sx ?_ (by decide))
theorem kY_mend {τ σ : Sg} {a : Int32} (h : kY τ σ) : kY (s_X5_beMended τ a) σ := by
  unfold s_X5_beMended
  repeat' split
  all_goals repeat (first | with_reducible exact h | refine kY_sx ?_ (by decide))
theorem kY_fault {τ σ : Sg} {a b : Int32} (h : kY τ σ) : kY (s_X0_addFault τ a b) σ := by
  unfold s_X0_addFault
  repeat (first | with_reducible exact h | refine kY_sx ?_ (by decide))
theorem kY_happens {σ : Sg} {i : Int32} : kY (s_X5_happens σ i) σ := by
  unfold s_X5_happens
  have h : kY (s_X3_countEmptyUntil σ (σ 9 i.toNatClampNeg)) σ := kY_ceu (kY_r σ)
  repeat' split
  all_goals first | with_reducible exact kY_put h | with_reducible exact kY_take h | with_reducible exact kY_unlock h | with_reducible exact kY_lock h | with_reducible exact kY_promise h | with_reducible exact kY_mend h | with_reducible exact kY_fault h | exact kY_sx h (by decide) | exact kY_0 h (by decide)
theorem kX_anew {σ : Sg} : kX (s_X5_beginAnew σ) σ ∧ s_X5_beginAnew σ 0 6 = 0 := by
  have h0 : kX (sx σ 0 6 0) σ := kX_6 (kX_r σ) (by decide)
  have h1 : kY (s_X5_beginAnew σ) (sx σ 0 6 0) := by
    unfold s_X5_beginAnew s_X2_clear s_X0_clear s_X3_clear
    repeat (first | with_reducible exact kY_r _ | refine kY_sf ?_ (by decide) | refine kY_sx ?_ (by decide) | refine kY_0 ?_ (by decide))
  exact ⟨kX_tr h1.1 h0, h1.2.trans (by rw [sx_r, if_pos rfl, if_pos rfl])⟩
