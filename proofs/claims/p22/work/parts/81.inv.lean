-- the class alone: what holds behind at most b things, beside IQ and SU
/-- states and holders -/
def NA (f g : Nat → Int32) : Prop := ∀ j, j < 30 → (f j = 0 ∨ f j = 1 ∨ f j = 2 ∨ f j = 3) ∧ (¬ f j = 1 → ¬ f j = 2 → g j = -1)
def one1 (f : Nat → Int32) : Nat → Int32 := fun j => if f j = 1 then 1 else 0
/-- as many are docked as the stations have -/
def NS (f h : Nat → Int32) : Prop := sm (one1 f) 30 = sm h 8
def NB (f : Nat → Int32) (N B k : Nat) : Prop := ∀ j, j < N → ∃ m, m ≤ B ∧ f j = nI (k * m)
def NW (σ : Sg) (b : Nat) : Prop := NA (σ 16) (σ 17) ∧ NB (σ 26) 10 b 100 ∧ NB (σ 25) 10 (1980000 * b) 1 ∧ NB (σ 21) 30 99 1 ∧ (∃ p, p ≤ 99 ∧ σ 0 8 = nI p) ∧ NB (σ 20) 30 20000 1 ∧ NB (σ 22) 30 b 10
def NV (σ : Sg) (b : Nat) : Prop := NS (σ 16) (σ 14) ∧ NW σ b
theorem nb_up {f : Nat → Int32} {N B C k : Nat} (h : NB f N B k) (hBC : B ≤ C) : NB f N C k := fun j hj => by
  obtain ⟨m, hm, e⟩ := h j hj
  exact ⟨m, by omega, e⟩
theorem nb_upd {f : Nat → Int32} {N B k i m : Nat} {x : Int32} (h : NB f N B k) (hm : m ≤ B) (hx : x = nI (k * m)) : NB (upd f i x) N B k := fun j hj => by
  by_cases e : j = i
  · exact ⟨m, hm, by rw [e, pk_us]; exact hx⟩
  · rw [pk_un e]; exact h j hj
theorem nb_0 {N B k : Nat} : NB (fun _ => 0) N B k := fun j _ => ⟨0, Nat.zero_le _, by rw [Nat.mul_zero, nI_0]⟩
theorem na_upd {f g : Nat → Int32} {c : Nat} {v w : Int32} (h : NA f g) (hv : (v = 1 ∨ v = 2) ∨ v = 3 ∧ w = -1) : NA (upd f c v) (upd g c w) := fun j hj => by
  by_cases e : j = c
  · rw [e, pk_us, pk_us]
    rcases hv with (rfl | rfl) | ⟨rfl, rfl⟩
    · exact ⟨Or.inr (Or.inl rfl), fun q => absurd rfl q⟩
    · exact ⟨Or.inr (Or.inr (Or.inl rfl)), fun _ q => absurd rfl q⟩
    · exact ⟨Or.inr (Or.inr (Or.inr rfl)), fun _ _ => rfl⟩
  · rw [pk_un e, pk_un e]; exact h j hj
theorem one1_upd (f : Nat → Int32) (c : Nat) (v : Int32) : one1 (upd f c v) = upd (one1 f) c (if v = 1 then 1 else 0) := by
  funext j
  unfold one1
  by_cases e : j = c
  · rw [e, pk_us, pk_us]
  · rw [pk_un e, pk_un e]
theorem ns_upd {f h : Nat → Int32} {c s : Nat} {v y : Int32} (H : NS f h) (hc : c < 30) (hs : s < 8) (hy : y - h s = (if v = 1 then 1 else 0) - one1 f c) : NS (upd f c v) (upd h s y) := by
  unfold NS at H ⊢
  rw [one1_upd, sm_upd, sm_upd, if_pos hc, if_pos hs, hy, H]
theorem ns_upd0 {f h : Nat → Int32} {c : Nat} {v : Int32} (H : NS f h) (hc : c < 30) (h1 : ¬ v = 1) (h2 : ¬ f c = 1) : NS (upd f c v) h := by
  unfold NS at H ⊢
  rw [one1_upd, sm_upd, if_pos hc, if_neg h1, H]
  unfold one1
  rw [if_neg h2]
  grind
theorem nv_up {σ : Sg} {b c : Nat} (h : NV σ b) (hbc : b ≤ c) : NV σ c :=
  ⟨h.1, h.2.1, nb_up h.2.2.1 hbc, nb_up h.2.2.2.1 (Nat.mul_le_mul_left _ hbc), h.2.2.2.2.1, h.2.2.2.2.2.1, h.2.2.2.2.2.2.1, nb_up h.2.2.2.2.2.2.2 hbc⟩
theorem nw_sx {σ : Sg} {b k i : Nat} {x : Int32} (h : NW σ b) (h0 : 0 ≠ k) (h16 : 16 ≠ k) (h17 : 17 ≠ k) (h26 : 26 ≠ k) (h25 : 25 ≠ k) (h21 : 21 ≠ k) (h20 : 20 ≠ k) (h22 : 22 ≠ k) : NW (sx σ k i x) b := by
  unfold NW
  rw [sx_o h0, sx_o h16, sx_o h17, sx_o h26, sx_o h25, sx_o h21, sx_o h20, sx_o h22]
  exact h
theorem nv_sx {σ : Sg} {b k i : Nat} {x : Int32} (h : NV σ b) (h14 : 14 ≠ k) (h0 : 0 ≠ k) (h16 : 16 ≠ k) (h17 : 17 ≠ k) (h26 : 26 ≠ k) (h25 : 25 ≠ k) (h21 : 21 ≠ k) (h20 : 20 ≠ k) (h22 : 22 ≠ k) : NV (sx σ k i x) b := by
  refine ⟨?_, nw_sx h.2 h0 h16 h17 h26 h25 h21 h20 h22⟩
  rw [sx_o h14, sx_o h16]
  exact h.1
theorem nv_0 {σ : Sg} {b i : Nat} {x : Int32} (h : NV σ b) (hi : i ≠ 8) : NV (sx σ 0 i x) b := by
  unfold NV NW
  simp (decide := true) only [sx_o, ne_eq, not_false_eq_true]
  rw [show sx σ 0 i x 0 8 = σ 0 8 by rw [sx_s]; exact pk_un (fun q => hi q.symm)]
  exact h
theorem nv_price {σ : Sg} {b p : Nat} (h : NV σ b) (hp : p ≤ 99) : NV (sx σ 0 8 (nI p)) b := by
  unfold NV NW
  simp (decide := true) only [sx_o, ne_eq, not_false_eq_true]
  rw [show sx σ 0 8 (nI p) 0 8 = nI p by rw [sx_s]; exact pk_us]
  exact ⟨h.1, h.2.1, h.2.2.1, h.2.2.2.1, h.2.2.2.2.1, ⟨p, hp, rfl⟩, h.2.2.2.2.2.2⟩
theorem nv_dock {σ : Sg} {b cy st : Nat} (h : NV σ b) (hc : cy < 30) (hs : st < 8) (h1 : ¬ σ 16 cy = 1) : NV (s_X5_dock σ (nI cy) (nI st)) b := by
  have ec : (nI cy).toNatClampNeg = cy := nI_clamp (by omega)
  have es : (nI st).toNatClampNeg = st := nI_clamp (by omega)
  obtain ⟨hS, hA, h3⟩ := h
  unfold s_X5_dock
  rw [ec, es]
  unfold NV NW
  simp (decide := true) only [sx_o, sx_s, ne_eq, not_false_eq_true]
  refine ⟨ns_upd hS hc hs ?_, na_upd hA (Or.inl (Or.inl rfl)), h3⟩
  unfold one1
  rw [if_pos rfl, if_neg h1]
  grind
theorem nv_take {σ : Sg} {b cy s : Nat} (h : NV σ b) (hc : cy < 30) (hs : s < 8) (h1 : σ 16 cy = 1) : NV (sx (sx (sx σ 14 s (σ 14 s - 1)) 16 cy 3) 17 cy (-1)) b := by
  obtain ⟨hS, hA, h3⟩ := h
  unfold NV NW
  simp (decide := true) only [sx_o, sx_s, ne_eq, not_false_eq_true]
  refine ⟨ns_upd hS hc hs ?_, na_upd hA (Or.inr ⟨rfl, rfl⟩), h3⟩
  unfold one1
  rw [if_pos h1, if_neg (by decide)]
  grind
/-- a ride begun -/
theorem nv_begin {σ : Sg} {b cy r t : Nat} {mi : Int32} (hS : NS (upd (σ 16) cy 2) (σ 14)) (h : NW σ b) (hc : cy < 30) (ht : t ≤ 20000) (hm : mi = nI t) : NV (s_X5_beginRide σ (nI cy) (nI r) mi) b := by
  have ec : (nI cy).toNatClampNeg = cy := nI_clamp (by omega)
  obtain ⟨hA, h26, h25, h21, ⟨p, hp, ep⟩, h20, h22⟩ := h
  unfold s_X5_beginRide
  rw [ec]
  unfold NV NW
  simp (decide := true) only [sx_o, sx_s, ne_eq, not_false_eq_true]
  exact ⟨hS, na_upd hA (Or.inl (Or.inr rfl)), h26, h25, nb_upd h21 hp (by rw [ep, Nat.one_mul]), ⟨p, hp, ep⟩, nb_upd h20 ht (by rw [hm, Nat.one_mul]), nb_upd h22 (Nat.zero_le _) (by rw [Nat.mul_zero, nI_0])⟩
/-- what a ride costs -/
theorem cost_in {σ : Sg} {b cy : Nat} {x : Int32} (hb : b ≤ 300) (h21 : NB (σ 21) 30 99 1) (h22 : NB (σ 22) 30 b 10) (hc : cy < 30) (hx1 : -20000 ≤ x.toInt) (hx2 : x.toInt ≤ 20000) : ∃ k, k ≤ 1980000 ∧ r_X0_rideCost σ (nI cy) x = nI k := by
  have ec : (nI cy).toNatClampNeg = cy := nI_clamp (by omega)
  obtain ⟨p, hp, ep⟩ := h21 cy hc
  obtain ⟨g, hg, eg⟩ := h22 cy hc
  unfold r_X0_rideCost
  rw [ec, ep, eg, Nat.one_mul]
  have e30 : (30 : Int32).toInt = 30 := by decide
  have e1 : (x - 30).toInt = x.toInt - 30 := by rw [fb_subI (by rw [e30]; omega) (by rw [e30]; omega), e30]
  have eg2 : (nI (10 * g)).toInt = ((10 * g : Nat) : Int) := nI_toInt (by omega)
  have e2 : (x - 30 - nI (10 * g)).toInt = x.toInt - 30 - ((10 * g : Nat) : Int) := by rw [fb_subI (by rw [e1, eg2]; omega) (by rw [e1, eg2]; omega), e1, eg2]
  by_cases hq : (0 : Int32) < x - 30 - nI (10 * g)
  · rw [if_pos hq]
    have h0 := Int32.lt_iff_toInt_lt.mp hq
    rw [zI, e2] at h0
    obtain ⟨y, hy, ey⟩ := nI_of2 (x := x - 30 - nI (10 * g)) (M := 20000) (n := 20000) (by decide) (fun q => by
      have q1 := Int32.lt_iff_toInt_lt.mp q
      rw [zI, e2] at q1
      omega) (Int32.le_iff_toInt_le.mpr (by
      rw [e2, show (20000 : Int32).toInt = 20000 by decide]
      omega))
    rw [ey, pk_mul]
    exact ⟨p * y, Nat.mul_le_mul hp hy, rfl⟩
  · rw [if_neg hq]
    exact ⟨0, by omega, by rw [Int32.mul_zero, nI_0]⟩
theorem going_in {σ : Sg} {cy t : Nat} (h20 : NB (σ 20) 30 20000 1) (hc : cy < 30) (ht : t ≤ 20000) : -20000 ≤ (r_X0_minutesGoingOn σ (nI cy) (nI t)).toInt ∧ (r_X0_minutesGoingOn σ (nI cy) (nI t)).toInt ≤ 20000 := by
  have ec : (nI cy).toNatClampNeg = cy := nI_clamp (by omega)
  obtain ⟨m, hm, em⟩ := h20 cy hc
  unfold r_X0_minutesGoingOn
  rw [ec, em, Nat.one_mul]
  have e1 : (nI t).toInt = (t : Int) := nI_toInt (by omega)
  have e2 : (nI m).toInt = (m : Int) := nI_toInt (by omega)
  by_cases h2 : σ 16 cy = 2
  · rw [if_pos h2, fb_subI (by rw [e1, e2]; omega) (by rw [e1, e2]; omega), e1, e2]
    omega
  · rw [if_neg h2, zI]
    omega
theorem nv_ride {σ : Sg} {b cy r t : Nat} {mi : Int32} (h : NV σ b) (hb : b < 300) (hc : cy < 30) (hr : r < 10) (hh : σ 17 cy = nI r) (ht : t ≤ 20000) (hm : mi = nI t) : NV (s_X5_endRide σ (nI cy) mi) (b + 1) := by
  have ec : (nI cy).toNatClampNeg = cy := nI_clamp (by omega)
  have er : (nI r).toNatClampNeg = r := nI_clamp (by omega)
  obtain ⟨hS, hA, h26, h25, h21, hp, h20, h22⟩ := h
  subst hm
  have hg := going_in h20 hc ht
  unfold s_X5_endRide
  rw [ec, hh, er]
  generalize r_X0_minutesGoingOn σ (nI cy) (nI t) = m at hg ⊢
  have hcost : ∃ k, k ≤ 1980000 ∧ r_X0_rideCost (sx (sx σ 19 cy (σ 19 cy + m)) 24 r (σ 24 r + m)) (nI cy) m = nI k := by
    refine cost_in (b := b) (by omega) ?_ ?_ hc hg.1 hg.2
    · simp (decide := true) only [sx_o, ne_eq, not_false_eq_true]; exact h21
    · simp (decide := true) only [sx_o, ne_eq, not_false_eq_true]; exact h22
  obtain ⟨k, hk, ek⟩ := hcost
  rw [ek]
  obtain ⟨c, hc2, e25⟩ := h25 r hr
  unfold NV NW
  simp (decide := true) only [sx_o, sx_s, ne_eq, not_false_eq_true]
  refine ⟨hS, hA, nb_up h26 (by omega), ?_, h21, hp, h20, nb_up h22 (by omega)⟩
  refine nb_upd (m := c + k) (nb_up h25 (Nat.mul_le_mul_left _ (by omega))) (by omega) ?_
  rw [e25, Nat.one_mul, Nat.one_mul, nI_add]
theorem nv_nb {σ : Sg} {b cy r : Nat} (h : NV σ b) (hc : cy < 30) (hr : r < 10) : NV (sx σ 22 cy (σ 22 cy + 10)) (b + 1) ∧ NV (sx (sx (sx σ 27 r (-1)) 22 cy (σ 22 cy + 10)) 26 r (σ 26 r + 100)) (b + 1) := by
  obtain ⟨hS, hA, h26, h25, h21, hp, h20, h22⟩ := h
  obtain ⟨g, hg, eg⟩ := h22 cy hc
  obtain ⟨k, hk, ek⟩ := h26 r hr
  have x22 : σ 22 cy + 10 = nI (10 * (g + 1)) := by rw [eg, show (10 : Int32) = nI 10 from rfl, nI_add, Nat.mul_succ]
  have x26 : σ 26 r + 100 = nI (100 * (k + 1)) := by rw [ek, show (100 : Int32) = nI 100 from rfl, nI_add, Nat.mul_succ]
  unfold NV NW
  simp (decide := true) only [sx_o, sx_s, ne_eq, not_false_eq_true]
  exact ⟨⟨hS, hA, nb_up h26 (by omega), nb_up h25 (Nat.mul_le_mul_left _ (by omega)), h21, hp, h20, nb_upd (nb_up h22 (by omega)) (by omega) x22⟩, hS, hA, nb_upd (nb_up h26 (by omega)) (by omega) x26, nb_up h25 (Nat.mul_le_mul_left _ (by omega)), h21, hp, h20, nb_upd (nb_up h22 (by omega)) (by omega) x22⟩
theorem nv_put {σ : Sg} {b cy st : Nat} (h : NV σ b) (hc : cy < 30) (hs : st < 8) : NV (s_X5_bePut σ (nI cy) (nI st)) b := by
  have ec : (nI cy).toNatClampNeg = cy := nI_clamp (by omega)
  unfold s_X5_bePut
  rw [ec]
  by_cases h0 : σ 16 cy = 0
  · rw [if_pos h0]
    split
    · exact h
    · exact nv_dock h hc hs (by rw [h0]; decide)
  · rw [if_neg h0]
    by_cases h3 : σ 16 cy = 3
    · rw [if_pos h3]
      split
      · exact h
      · exact nv_dock h hc hs (by rw [h3]; decide)
    · rw [if_neg h3]; exact h
theorem nv_taken {σ : Sg} {b b2 cy : Nat} (h : NV σ b) (hI : IQ σ b2) (hc : cy < 30) : NV (s_X5_beTaken σ (nI cy)) b := by
  have ec : (nI cy).toNatClampNeg = cy := nI_clamp (by omega)
  unfold s_X5_beTaken
  rw [ec]
  by_cases h1 : σ 16 cy = 1
  · rw [if_pos h1]
    obtain ⟨s, hs, hh⟩ := hI.1 cy hc h1
    rw [hh, nI_clamp (show s < 2 ^ 31 by omega)]
    exact nv_take h hc hs h1
  · rw [if_neg h1]; exact h
theorem nv_unlock {σ : Sg} {b b2 cy r t : Nat} {mi : Int32} (h : NV σ b) (hb : b < 300) (hI : IQ σ b2) (hc : cy < 30) (ht : t ≤ 20000) (hm : mi = nI t) : NV (s_X5_beUnlocked σ (nI cy) (nI r) mi) (b + 1) := by
  have ec : (nI cy).toNatClampNeg = cy := nI_clamp (by omega)
  have hd : σ 16 cy = 1 → NV (s_X5_beginRide (sx σ 14 (σ 17 cy).toNatClampNeg (σ 14 (σ 17 cy).toNatClampNeg - 1)) (nI cy) (nI r) mi) (b + 1) := fun h1 => by
    obtain ⟨s, hs, hh⟩ := hI.1 cy hc h1
    rw [hh, nI_clamp (show s < 2 ^ 31 by omega)]
    refine nv_up (nv_begin (b := b) ?_ (nw_sx h.2 (by decide) (by decide) (by decide) (by decide) (by decide) (by decide) (by decide) (by decide)) hc ht hm) (by omega)
    rw [sx_o (show 16 ≠ 14 by decide), sx_s]
    refine ns_upd h.1 hc hs ?_
    unfold one1
    rw [if_pos h1, if_neg (by decide)]
    grind
  have hr2 : σ 16 cy = 2 → NV (s_X5_beginRide (s_X5_endRide σ (nI cy) mi) (nI cy) (nI r) mi) (b + 1) := fun h2 => by
    obtain ⟨r2, hr2, hh⟩ := hI.2.1 cy hc h2
    have q := nv_ride h hb hc hr2 hh ht hm
    have e16 : s_X5_endRide σ (nI cy) mi 16 = σ 16 := by
      unfold s_X5_endRide
      simp (decide := true) only [sx_o, ne_eq, not_false_eq_true]
    refine nv_begin ?_ q.2 hc ht hm
    refine ns_upd0 q.1 hc (by decide) ?_
    rw [e16, h2]; decide
  unfold s_X5_beUnlocked
  rw [ec]
  by_cases h1 : σ 16 cy = 1
  · have h2 : ¬ σ 16 cy = 2 := by rw [h1]; decide
    rw [if_pos h1, if_neg h2]
    split
    · exact hd h1
    · exact nv_up h (by omega)
  · rw [if_neg h1]
    by_cases h2 : σ 16 cy = 2
    · rw [if_pos h2]
      split
      · exact nv_up h (by omega)
      · exact hr2 h2
    · rw [if_neg h2]; exact nv_up h (by omega)
theorem nv_lock {σ : Sg} {b b2 cy st t : Nat} {mi : Int32} (h : NV σ b) (hb : b < 300) (hI : IQ σ b2) (hc : cy < 30) (hs : st < 8) (ht : t ≤ 20000) (hm : mi = nI t) : NV (s_X5_beLocked σ (nI cy) (nI st) mi) (b + 1) := by
  have ec : (nI cy).toNatClampNeg = cy := nI_clamp (by omega)
  unfold s_X5_beLocked
  rw [ec]
  by_cases h2 : σ 16 cy = 2
  · rw [if_pos h2]
    obtain ⟨r, hr, hh⟩ := hI.2.1 cy hc h2
    rw [hh, nI_clamp (show r < 2 ^ 31 by omega)]
    have e16 : ∀ τ : Sg, s_X5_endRide τ (nI cy) mi 16 = τ 16 := fun τ => by
      unfold s_X5_endRide
      simp (decide := true) only [sx_o, ne_eq, not_false_eq_true]
    have n1 : ¬ σ 16 cy = 1 := by rw [h2]; decide
    have hn := nv_nb h hc hr
    split
    · split
      · exact hn.2
      · exact hn.1
    · split
      · refine nv_dock (nv_ride (nv_sx h (by decide) (by decide) (by decide) (by decide) (by decide) (by decide) (by decide) (by decide) (by decide)) hb hc hr (by rw [sx_o (by decide)]; exact hh) ht hm) hc hs ?_
        rw [e16, sx_o (by decide)]; exact n1
      · refine nv_dock (nv_ride h hb hc hr hh ht hm) hc hs ?_
        rw [e16]; exact n1
  · rw [if_neg h2]; exact nv_up h (by omega)
theorem nv_ceu {σ : Sg} {b : Nat} {m : Int32} (h : NV σ b) : NV (s_X3_countEmptyUntil σ m) b := by
  have c : ∀ q, ¬ q = 3 → ¬ q = 15 → s_X3_countEmptyUntil σ m q = σ q := by
    intro q h3 h15
    funext j
    unfold s_X3_countEmptyUntil
    rw [sx_r, ceu_loop m σ 8 (Nat.le_refl _)]
    simp [h3, h15]
  unfold NV NW
  rw [c 16 (by decide) (by decide), c 14 (by decide) (by decide), c 17 (by decide) (by decide), c 26 (by decide) (by decide), c 25 (by decide) (by decide), c 21 (by decide) (by decide), c 0 (by decide) (by decide), c 20 (by decide) (by decide), c 22 (by decide) (by decide)]
  exact h
/-- what a thing told may be: its minute, its price -/
def pOK (k f m : Int32) : Prop := (∃ t, t ≤ 20000 ∧ m = nI t) ∧ (k = 7 → ∃ p, p ≤ 99 ∧ f = nI p)
theorem nv_promise {σ : Sg} {b : Nat} {x y mi : Int32} (h : NV σ b) : NV (s_X5_bePromised σ x y mi) b := by
  unfold s_X5_bePromised
  split
  · exact nv_sx (nv_sx h (by decide) (by decide) (by decide) (by decide) (by decide) (by decide) (by decide) (by decide) (by decide)) (by decide) (by decide) (by decide) (by decide) (by decide) (by decide) (by decide) (by decide) (by decide)
  · exact h
theorem nv_mend {σ : Sg} {b : Nat} {x : Int32} (h : NV σ b) : NV (s_X5_beMended σ x) b := by
  unfold s_X5_beMended
  split
  · exact h
  · exact nv_sx h (by decide) (by decide) (by decide) (by decide) (by decide) (by decide) (by decide) (by decide) (by decide)
theorem nv_happens {σ : Sg} {i b b2 : Nat} (hi : i < 300) (hb : b < 300) (h : NV σ b) (hI : IQ σ b2) (ht : tOK (σ 6 i) (σ 7 i) (σ 8 i)) (hp : pOK (σ 6 i) (σ 7 i) (σ 9 i)) : NV (s_X5_happens σ (nI i)) (b + 1) := by
  have hn := iq_minute (σ 9 i) hI
  have hu := nv_ceu (m := σ 9 i) h
  have kx := kY_ceu (m := σ 9 i) (kY_r σ)
  obtain ⟨τ, eτ⟩ : ∃ τ, s_X3_countEmptyUntil σ (σ 9 i) = τ := ⟨_, rfl⟩
  rw [eτ] at hn kx hu
  have t6 : τ 6 i = σ 6 i := kx.1.1 6 i (by decide) (by decide)
  obtain ⟨ra, sa⟩ := r_happens (σ := σ) hi eτ t6 rfl rfl
  rw [sa]
  clear ra sa
  obtain ⟨⟨t, ht2, em⟩, hp7⟩ := hp
  have up : NV τ (b + 1) := nv_up hu (by omega)
  rcases ht with ⟨hk, a, p, ha, hp, e7, e8⟩ | ⟨hk, a, p, ha, hp, e7, e8⟩ | ⟨hk, a, ha, e7⟩ | ⟨hk, a, p, ha, hp, e7, e8⟩ | ⟨hk, a, p, ha, hp, e7, e8⟩ | ⟨hk, a, p, ha, hp, e7, e8⟩ | ⟨hk, a, ha, e7⟩ | hk | ⟨hk, a, p, ha, hp, e7, e8⟩
  · rw [hk]; simp (decide := true) only [if_true, if_false]; exact nv_sx up (by decide) (by decide) (by decide) (by decide) (by decide) (by decide) (by decide) (by decide) (by decide)
  · rw [hk, e7, e8]; simp (decide := true) only [if_true, if_false]; exact nv_put up ha hp
  · rw [hk, e7]; simp (decide := true) only [if_true, if_false]; exact nv_taken up hn ha
  · rw [hk, e7, e8]; simp (decide := true) only [if_true, if_false]; exact nv_unlock hu hb hn ha ht2 em
  · rw [hk, e7, e8]; simp (decide := true) only [if_true, if_false]; exact nv_lock hu hb hn ha hp ht2 em
  · rw [hk]; simp (decide := true) only [if_true, if_false]; exact nv_sx up (by decide) (by decide) (by decide) (by decide) (by decide) (by decide) (by decide) (by decide) (by decide)
  · rw [hk]; simp (decide := true) only [if_true, if_false]; exact nv_mend up
  · obtain ⟨p, hp, ep⟩ := hp7 hk
    rw [hk, ep]; simp (decide := true) only [if_true, if_false]; exact nv_price up hp
  · rw [hk]; simp (decide := true) only [if_true, if_false]; exact nv_promise up
theorem iq_happens {σ : Sg} {i b : Nat} (hi : i < 300) (hb : b + 1 ≤ 1000) (hI : IQ σ b) (ht : tOK (σ 6 i) (σ 7 i) (σ 8 i)) : IQ (s_X5_happens σ (nI i)) (b + 1) := by
  have hn := iq_minute (σ 9 i) hI
  have kx := kY_ceu (m := σ 9 i) (kY_r σ)
  obtain ⟨τ, eτ⟩ : ∃ τ, s_X3_countEmptyUntil σ (σ 9 i) = τ := ⟨_, rfl⟩
  rw [eτ] at hn kx
  have t6 : τ 6 i = σ 6 i := kx.1.1 6 i (by decide) (by decide)
  obtain ⟨ra, sa⟩ := r_happens (σ := σ) hi eτ t6 rfl rfl
  rw [sa]
  clear ra sa
  have up : IQ τ (b + 1) := iq_up hn (by omega)
  rcases ht with ⟨hk, a, p, ha, hp, e7, e8⟩ | ⟨hk, a, p, ha, hp, e7, e8⟩ | ⟨hk, a, ha, e7⟩ | ⟨hk, a, p, ha, hp, e7, e8⟩ | ⟨hk, a, p, ha, hp, e7, e8⟩ | ⟨hk, a, p, ha, hp, e7, e8⟩ | ⟨hk, a, ha, e7⟩ | hk | ⟨hk, a, p, ha, hp, e7, e8⟩
  · rw [hk, e7, e8]; simp (decide := true) only [if_true, if_false]; exact iq_docks up hp
  · rw [hk, e7, e8]; simp (decide := true) only [if_true, if_false]; exact iq_put hn (by omega) ha hp
  · rw [hk, e7]; simp (decide := true) only [if_true, if_false]; exact iq_take hn (by omega) ha
  · rw [hk, e7, e8]; simp (decide := true) only [if_true, if_false]; exact iq_unlock hn (by omega) ha hp
  · rw [hk, e7, e8]; simp (decide := true) only [if_true, if_false]; exact iq_lock hn (by omega) ha hp
  · rw [hk, e7, e8]; simp (decide := true) only [if_true, if_false]; exact iq_fault up ha hp
  · rw [hk, e7]; simp (decide := true) only [if_true, if_false]; exact iq_mend up ha
  · rw [hk]; simp (decide := true) only [if_true, if_false]; exact iq_scalar up _
  · rw [hk, e7, e8]; simp (decide := true) only [if_true, if_false]; exact iq_promise up ha hp
theorem nv_anew (σ : Sg) : NV (s_X5_beginAnew σ) 0 := by
  have c : ∀ q, 13 ≤ q → q ≤ 28 → q ≠ 17 → q ≠ 27 → s_X5_beginAnew σ q = fun _ => 0 := fun q h1 h2 h3 h4 => by
    funext j
    rw [anew_r, if_neg (by omega), if_pos ⟨h1, h2⟩]
  have c17 : s_X5_beginAnew σ 17 = fun _ => -1 := by
    funext j
    rw [anew_r, if_pos (Or.inl rfl)]
  have c0 : s_X5_beginAnew σ 0 8 = nI 1 := by rw [anew_r]; simp; decide
  unfold NV NW
  rw [c0, c 16 (by decide) (by decide) (by decide) (by decide), c 14 (by decide) (by decide) (by decide) (by decide), c17, c 26 (by decide) (by decide) (by decide) (by decide), c 25 (by decide) (by decide) (by decide) (by decide), c 21 (by decide) (by decide) (by decide) (by decide), c 20 (by decide) (by decide) (by decide) (by decide), c 22 (by decide) (by decide) (by decide) (by decide)]
  refine ⟨?_, fun j _ => ⟨Or.inl rfl, fun _ _ => rfl⟩, nb_0, nb_0, nb_0, ⟨1, by decide, rfl⟩, nb_0, nb_0⟩
  have e : one1 (fun _ => (0 : Int32)) = fun _ => 0 := by
    funext j
    unfold one1
    exact if_neg (show ¬ (0 : Int32) = 1 by decide)
  unfold NS
  rw [e, sm_0, sm_0]
/-- the class's things from g on -/
def RC (σ : Sg) (g k : Nat) : Prop :=
    IQ (itn (fun i => st_X5_hear_41 (g + i)) k (σ, 1)).1 (g + k) ∧ SU (itn (fun i => st_X5_hear_41 (g + i)) k (σ, 1)).1 ∧ NV (itn (fun i => st_X5_hear_41 (g + i)) k (σ, 1)).1 (g + k) ∧ kY (itn (fun i => st_X5_hear_41 (g + i)) k (σ, 1)).1 σ
theorem rep {σ : Sg} {n g : Nat} (hn : n ≤ 300) (hs : ∀ i, i < n → tOK (σ 6 i) (σ 7 i) (σ 8 i) ∧ pOK (σ 6 i) (σ 7 i) (σ 9 i)) (hI : IQ σ g) (hS : SU σ) (hV : NV σ g) : ∀ k, g + k ≤ n → RC σ g k := by
  intro k
  induction k with
  | zero => intro _; exact ⟨hI, hS, hV, kY_r σ⟩
  | succ k ih =>
    intro hk
    obtain ⟨q2, q3, qv, q4⟩ := ih (by omega)
    have hi : g + k < 300 := by omega
    have se := hs (g + k) (by omega)
    have ex : itn (fun i => st_X5_hear_41 (g + i)) (k + 1) (σ, 1) = st_X5_hear_41 (g + k) ((itn (fun i => st_X5_hear_41 (g + i)) k (σ, 1)).1, (itn (fun i => st_X5_hear_41 (g + i)) k (σ, 1)).2) := itn_s (fun i => st_X5_hear_41 (g + i)) k (σ, 1)
    unfold RC
    rw [ex]
    generalize itn (fun i => st_X5_hear_41 (g + i)) k (σ, 1) = y at q2 q3 qv q4 ⊢
    rw [← q4.1.1 6 (g + k) (by decide) (by decide), ← q4.1.1 7 (g + k) (by decide) (by decide), ← q4.1.1 8 (g + k) (by decide) (by decide), ← q4.1.1 9 (g + k) (by decide) (by decide)] at se
    have s1 := iq_happens hi (by omega) q2 se.1
    have su := su_happens hi q3 q2 se.1
    have sv := nv_happens hi (by omega) qv q2 se.1 se.2
    have ky : kY (s_X5_happens y.1 (nI (g + k))) σ := kY_tr kY_happens q4
    unfold st_X5_hear_41
    dsimp only
    by_cases h9 : r_X5_happens y.1 (nI (g + k)) = 0
    · rw [if_pos h9]
      exact ⟨iq_scalar s1 _, su_sx su (by decide) (by decide), nv_0 sv (by decide), kY_0 ky (by decide)⟩
    · rw [if_neg h9]
      exact ⟨s1, su, sv, ky⟩
