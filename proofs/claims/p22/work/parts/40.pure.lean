theorem sx_r (σ : Sg) (k i : Nat) (x : Int32) (q j : Nat) : sx σ k i x q j = if q = k then (if j = i then x else σ q j) else σ q j := by
  unfold sx upd
  by_cases h : q = k <;> simp [h]
theorem sf_r (σ : Sg) (k : Nat) (f : Nat → Int32) (q j : Nat) : sf σ k f q j = if q = k then f j else σ q j := by
  unfold sf
  by_cases h : q = k <;> simp [h]
theorem ceu_loop (mi : Int32) (σ : Sg) : ∀ n, n ≤ 8 → ∀ q j, itn (st_X3_countEmptyUntil_2 mi) n σ q j = if q = 15 ∧ j < n then (if σ 14 j = 0 then (σ 15 j + mi) - σ 3 3 else σ 15 j) else σ q j := by
  intro n
  induction n with
  | zero => intro _ q j; simp [itn]
  | succ n ih =>
    intro hn q j
    have ih := ih (by omega)
    show st_X3_countEmptyUntil_2 mi n (itn (st_X3_countEmptyUntil_2 mi) n σ) q j = _
    generalize itn (st_X3_countEmptyUntil_2 mi) n σ = x at ih ⊢
    unfold st_X3_countEmptyUntil_2 r_X3_emptyMinutes
    rw [sx_r, nI_clamp (show n < 2 ^ 31 by omega)]
    have e1 : x 14 n = σ 14 n := by rw [ih]; simp
    have e2 : x 15 n = σ 15 n := by rw [ih]; simp
    have e3 : x 3 3 = σ 3 3 := by rw [ih]; simp
    rw [e1, e2, e3, ih]
    by_cases hq : q = 15
    · subst hq
      by_cases hj : j = n
      · subst hj; simp
      · by_cases h2 : j < n
        · have h3 : j < n + 1 := by omega
          simp [hj, h2, h3]
        · have h3 : ¬ j < n + 1 := by omega
          simp [hj, h2, h3]
    · simp [hq]
theorem i_nle {x y : Int32} : ¬ x ≤ y ↔ y < x := by rw [Int32.not_le]
theorem fb_rng (x : Int32) : -2147483648 ≤ x.toInt ∧ x.toInt < 2147483648 := by
  have h1 := Int32.le_toInt x
  have h2 := Int32.toInt_lt x
  omega
theorem fb_bmod {z : Int} (h1 : -2147483648 ≤ z) (h2 : z < 2147483648) : z.bmod (2 ^ 32) = z := by
  rw [Int.bmod_eq_of_le (by omega) (by omega)]
theorem fb_addI {x y : Int32} (h1 : -2147483648 ≤ x.toInt + y.toInt) (h2 : x.toInt + y.toInt < 2147483648) : (x + y).toInt = x.toInt + y.toInt := by
  rw [Int32.toInt_add, fb_bmod h1 h2]
theorem fb_subI {x y : Int32} (h1 : -2147483648 ≤ x.toInt - y.toInt) (h2 : x.toInt - y.toInt < 2147483648) : (x - y).toInt = x.toInt - y.toInt := by
  rw [Int32.toInt_sub, fb_bmod h1 h2]
/-- what holds of the class's contents behind at most b things -/
def IQ (σ : Sg) (b : Nat) : Prop :=
  (∀ j, j < 30 → σ 16 j = 1 → ∃ s, s < 8 ∧ σ 17 j = nI s) ∧ (∀ j, j < 30 → σ 16 j = 2 → ∃ r, r < 10 ∧ σ 17 j = nI r) ∧
  (∀ j, j < 30 → ∃ m, m < 1024 ∧ σ 18 j = nI m) ∧ (∀ r, r < 10 → σ 27 r = -1 ∨ ∃ s, s < 8 ∧ σ 27 r = nI s) ∧
  (∀ s, s < 8 → ∃ p, p ≤ 20 ∧ σ 13 s = nI p) ∧ (∀ s, s < 8 → -(b : Int) ≤ (σ 14 s).toInt ∧ (σ 14 s).toInt ≤ b)
theorem zI : (0 : Int32).toInt = 0 := by decide
set_option maxRecDepth 100000 in
theorem bc_dec : ∀ m, m < 1024 → ((r_J6_bitCount_0f7a4 (fun _ _ => 0) (nI m) < 2) ↔ (itn (fun (i : Nat) (x : Int32) => x + (((nI m) >>> ((nI i) &&& 31)) &&& 1)) 10 0 ≤ 1)) := by decide +kernel
theorem iq_up {σ : Sg} {b c : Nat} (h : IQ σ b) (hbc : b ≤ c) : IQ σ c := ⟨h.1, h.2.1, h.2.2.1, h.2.2.2.1, h.2.2.2.2.1, fun s hs => by have q := h.2.2.2.2.2 s hs; exact ⟨by omega, by omega⟩⟩
theorem oneI : (1 : Int32).toInt = 1 := by decide
theorem iq_dock {σ : Sg} {b cy st : Nat} (h : IQ σ b) (hb : b ≤ 1000) (hc : cy < 30) (hs : st < 8) : IQ (s_X5_dock σ (nI cy) (nI st)) (b + 1) := by
  obtain ⟨h1, h2, h3, h4, h5, h6⟩ := h
  have ec : (nI cy).toNatClampNeg = cy := nI_clamp (by omega)
  have es : (nI st).toNatClampNeg = st := nI_clamp (by omega)
  unfold s_X5_dock
  rw [ec, es]
  refine ⟨?_, ?_, ?_, ?_, ?_, ?_⟩
  · intro j hj
    by_cases e : j = cy
    · subst e; simp [sx_r]; exact ⟨st, hs, rfl⟩
    · simp [sx_r, e]; exact h1 j hj
  · intro j hj
    by_cases e : j = cy
    · subst e; simp [sx_r]
    · simp [sx_r, e]; exact h2 j hj
  · intro j hj; simp [sx_r]; exact h3 j hj
  · intro j hj; simp [sx_r]; exact h4 j hj
  · intro j hj; simp [sx_r]; exact h5 j hj
  · intro j hj
    by_cases e : j = st
    · subst e
      have q := h6 j hj
      have q2 : (σ 14 j + 1).toInt = (σ 14 j).toInt + (1 : Int32).toInt := fb_addI (by rw [oneI]; omega) (by rw [oneI]; omega)
      rw [oneI] at q2
      simp [sx_r, -Int32.toInt_add]
      omega
    · have q := h6 j hj
      simp [sx_r, e]
      omega
theorem iq_ride {σ : Sg} {b cy : Nat} {mi : Int32} (h : IQ σ b) (hc : cy < 30) : IQ (s_X5_endRide σ (nI cy) mi) b := by
  obtain ⟨h1, h2, h3, h4, h5, h6⟩ := h
  unfold s_X5_endRide
  refine ⟨?_, ?_, ?_, ?_, ?_, ?_⟩
  · intro j hj; simp [sx_r]; exact h1 j hj
  · intro j hj; simp [sx_r]; exact h2 j hj
  · intro j hj; simp [sx_r]; exact h3 j hj
  · intro j hj; simp [sx_r]; exact h4 j hj
  · intro j hj; simp [sx_r]; exact h5 j hj
  · intro j hj; simp [sx_r]; exact h6 j hj
theorem iq_begin {σ : Sg} {b cy r : Nat} {mi : Int32} (h : IQ σ b) (hc : cy < 30) (hr : r < 10) : IQ (s_X5_beginRide σ (nI cy) (nI r) mi) b := by
  obtain ⟨h1, h2, h3, h4, h5, h6⟩ := h
  have ec : (nI cy).toNatClampNeg = cy := nI_clamp (by omega)
  unfold s_X5_beginRide
  rw [ec]
  refine ⟨?_, ?_, ?_, ?_, ?_, ?_⟩
  · intro j hj
    by_cases e : j = cy
    · subst e; simp [sx_r]
    · simp [sx_r, e]; exact h1 j hj
  · intro j hj
    by_cases e : j = cy
    · subst e; simp [sx_r]; exact ⟨r, hr, rfl⟩
    · simp [sx_r, e]; exact h2 j hj
  · intro j hj; simp [sx_r]; exact h3 j hj
  · intro j hj; simp [sx_r]; exact h4 j hj
  · intro j hj; simp [sx_r]; exact h5 j hj
  · intro j hj; simp [sx_r]; exact h6 j hj
theorem iq_dec {σ : Sg} {b st : Nat} (h : IQ σ b) (hb : b ≤ 1000) (hs : st < 8) : IQ (sx σ 14 st (σ 14 st - 1)) (b + 1) := by
  obtain ⟨h1, h2, h3, h4, h5, h6⟩ := h
  refine ⟨?_, ?_, ?_, ?_, ?_, ?_⟩
  · intro j hj; simp [sx_r]; exact h1 j hj
  · intro j hj; simp [sx_r]; exact h2 j hj
  · intro j hj; simp [sx_r]; exact h3 j hj
  · intro j hj; simp [sx_r]; exact h4 j hj
  · intro j hj; simp [sx_r]; exact h5 j hj
  · intro j hj
    by_cases e : j = st
    · subst e
      have q := h6 j hj
      have q2 : (σ 14 j - 1).toInt = (σ 14 j).toInt - (1 : Int32).toInt := fb_subI (by rw [oneI]; omega) (by rw [oneI]; omega)
      rw [oneI] at q2
      simp [sx_r, -Int32.toInt_sub]
      omega
    · have q := h6 j hj
      simp [sx_r, e]
      omega
theorem iq_unprom {σ : Sg} {b r : Nat} (h : IQ σ b) : IQ (sx σ 27 r (-1)) b := by
  obtain ⟨h1, h2, h3, h4, h5, h6⟩ := h
  refine ⟨?_, ?_, ?_, ?_, ?_, ?_⟩
  · intro j hj; simp [sx_r]; exact h1 j hj
  · intro j hj; simp [sx_r]; exact h2 j hj
  · intro j hj; simp [sx_r]; exact h3 j hj
  · intro j hj
    by_cases e : j = r
    · subst e; left; simp [sx_r]
    · simp [sx_r, e]; exact h4 j hj
  · intro j hj; simp [sx_r]; exact h5 j hj
  · intro j hj; simp [sx_r]; exact h6 j hj
theorem iq_put {σ : Sg} {b cy st : Nat} (h : IQ σ b) (hb : b ≤ 1000) (hc : cy < 30) (hs : st < 8) : IQ (s_X5_bePut σ (nI cy) (nI st)) (b + 1) := by
  unfold s_X5_bePut
  repeat' split
  all_goals first | exact iq_up h (by omega) | exact iq_dock h hb hc hs
theorem iq_take {σ : Sg} {b cy : Nat} (h : IQ σ b) (hb : b ≤ 1000) (hc : cy < 30) : IQ (s_X5_beTaken σ (nI cy)) (b + 1) := by
  have ec : (nI cy).toNatClampNeg = cy := nI_clamp (by omega)
  unfold s_X5_beTaken
  rw [ec]
  by_cases h0 : σ 16 cy = 1
  · rw [if_pos h0]
    obtain ⟨s, hs, hh⟩ := h.1 cy hc h0
    have es : (nI s).toNatClampNeg = s := nI_clamp (by omega)
    rw [hh, es]
    have hd := iq_dec h hb hs
    obtain ⟨h1, h2, h3, h4, h5, h6⟩ := hd
    refine ⟨?_, ?_, ?_, ?_, ?_, ?_⟩
    · intro j hj
      by_cases e : j = cy
      · subst e; simp [sx_r]
      · have q := h1 j hj; simp [sx_r] at q; simp [sx_r, e]; exact q
    · intro j hj
      by_cases e : j = cy
      · subst e; simp [sx_r]
      · have q := h2 j hj; simp [sx_r] at q; simp [sx_r, e]; exact q
    · intro j hj; have q := h3 j hj; simp [sx_r] at q; simp [sx_r]; exact q
    · intro j hj; have q := h4 j hj; simp [sx_r] at q; simp [sx_r]; exact q
    · intro j hj; have q := h5 j hj; simp [sx_r] at q; simp [sx_r]; exact q
    · intro j hj
      have q := h6 j hj
      have e9 : sx (sx (sx σ 14 s (σ 14 s - 1)) 16 cy 3) 17 cy (-1) 14 j = sx σ 14 s (σ 14 s - 1) 14 j := by simp [sx_r]
      rw [e9]; exact q
  · rw [if_neg h0]; exact iq_up h (by omega)
theorem iq_unlock {σ : Sg} {b cy r : Nat} {mi : Int32} (h : IQ σ b) (hb : b ≤ 1000) (hc : cy < 30) (hr : r < 10) : IQ (s_X5_beUnlocked σ (nI cy) (nI r) mi) (b + 1) := by
  have ec : (nI cy).toNatClampNeg = cy := nI_clamp (by omega)
  unfold s_X5_beUnlocked
  rw [ec]
  by_cases h0 : σ 16 cy = 1
  · obtain ⟨s, hs, hh⟩ := h.1 cy hc h0
    have es : (nI s).toNatClampNeg = s := nI_clamp (by omega)
    rw [if_pos h0, hh, es]
    repeat' split
    all_goals first | exact iq_up h (by omega) | exact iq_begin (iq_dec h hb hs) hc hr | exact iq_up (iq_begin (iq_ride h hc) hc hr) (by omega)
  · rw [if_neg h0]
    repeat' split
    all_goals first | exact iq_up h (by omega) | exact iq_up (iq_begin (iq_ride h hc) hc hr) (by omega)
theorem iq_nb {σ : Sg} {b cy r : Nat} (h : IQ σ b) (x y : Int32) : IQ (sx σ 22 cy x) b ∧ IQ (sx (sx σ 22 cy x) 26 r y) b := by
  obtain ⟨h1, h2, h3, h4, h5, h6⟩ := h
  refine ⟨⟨?_, ?_, ?_, ?_, ?_, ?_⟩, ⟨?_, ?_, ?_, ?_, ?_, ?_⟩⟩
  · intro j hj; simp [sx_r]; exact h1 j hj
  · intro j hj; simp [sx_r]; exact h2 j hj
  · intro j hj; simp [sx_r]; exact h3 j hj
  · intro j hj; simp [sx_r]; exact h4 j hj
  · intro j hj; simp [sx_r]; exact h5 j hj
  · intro j hj; simp [sx_r]; exact h6 j hj
  · intro j hj; simp [sx_r]; exact h1 j hj
  · intro j hj; simp [sx_r]; exact h2 j hj
  · intro j hj; simp [sx_r]; exact h3 j hj
  · intro j hj; simp [sx_r]; exact h4 j hj
  · intro j hj; simp [sx_r]; exact h5 j hj
  · intro j hj; simp [sx_r]; exact h6 j hj
theorem iq_lock {σ : Sg} {b cy st : Nat} {mi : Int32} (h : IQ σ b) (hb : b ≤ 1000) (hc : cy < 30) (hs : st < 8) : IQ (s_X5_beLocked σ (nI cy) (nI st) mi) (b + 1) := by
  unfold s_X5_beLocked
  split
  · split
    · split
      · exact iq_up (iq_nb (iq_unprom h) _ _).2 (by omega)
      · exact iq_up (iq_nb (r := 0) h _ 0).1 (by omega)
    · split
      · exact iq_dock (iq_ride (iq_unprom h) hc) hb hc hs
      · exact iq_dock (iq_ride h hc) hb hc hs
  · exact iq_up h (by omega)
theorem iq_promise {σ : Sg} {b r st : Nat} {mi : Int32} (h : IQ σ b) (hr : r < 10) (hs : st < 8) : IQ (s_X5_bePromised σ (nI r) (nI st) mi) b := by
  have er : (nI r).toNatClampNeg = r := nI_clamp (by omega)
  unfold s_X5_bePromised
  rw [er]
  split
  · obtain ⟨h1, h2, h3, h4, h5, h6⟩ := h
    refine ⟨?_, ?_, ?_, ?_, ?_, ?_⟩
    · intro j hj; simp [sx_r]; exact h1 j hj
    · intro j hj; simp [sx_r]; exact h2 j hj
    · intro j hj; simp [sx_r]; exact h3 j hj
    · intro j hj
      by_cases e : j = r
      · subst e; right; exact ⟨st, hs, by simp [sx_r]⟩
      · simp [sx_r, e]; exact h4 j hj
    · intro j hj; simp [sx_r]; exact h5 j hj
    · intro j hj; simp [sx_r]; exact h6 j hj
  · exact h
theorem iq_minute {σ : Sg} {b : Nat} (m : Int32) (h : IQ σ b) : IQ (s_X3_countEmptyUntil σ m) b := by
  have a : ∀ q j, ¬ q = 3 → ¬ q = 15 → s_X3_countEmptyUntil σ m q j = σ q j := by
    intro q j h3 h15
    unfold s_X3_countEmptyUntil
    rw [sx_r, ceu_loop m σ 8 (Nat.le_refl _)]
    simp [h3, h15]
  obtain ⟨h1, h2, h3, h4, h5, h6⟩ := h
  refine ⟨?_, ?_, ?_, ?_, ?_, ?_⟩
  · intro j hj; rw [a 16 j (by decide) (by decide), a 17 j (by decide) (by decide)]; exact h1 j hj
  · intro j hj; rw [a 16 j (by decide) (by decide), a 17 j (by decide) (by decide)]; exact h2 j hj
  · intro j hj; rw [a 18 j (by decide) (by decide)]; exact h3 j hj
  · intro j hj; rw [a 27 j (by decide) (by decide)]; exact h4 j hj
  · intro j hj; rw [a 13 j (by decide) (by decide)]; exact h5 j hj
  · intro j hj; rw [a 14 j (by decide) (by decide)]; exact h6 j hj
theorem iq_mend {σ : Sg} {b cy : Nat} (h : IQ σ b) (hc : cy < 30) : IQ (s_X5_beMended σ (nI cy)) b := by
  have ec : (nI cy).toNatClampNeg = cy := nI_clamp (by omega)
  unfold s_X5_beMended
  rw [ec]
  split
  · exact h
  · obtain ⟨h1, h2, h3, h4, h5, h6⟩ := h
    refine ⟨?_, ?_, ?_, ?_, ?_, ?_⟩
    · intro j hj; simp [sx_r]; exact h1 j hj
    · intro j hj; simp [sx_r]; exact h2 j hj
    · intro j hj
      by_cases e : j = cy
      · subst e; exact ⟨0, by omega, by simp [sx_r, nI_0]⟩
      · simp [sx_r, e]; exact h3 j hj
    · intro j hj; simp [sx_r]; exact h4 j hj
    · intro j hj; simp [sx_r]; exact h5 j hj
    · intro j hj; simp [sx_r]; exact h6 j hj
theorem iq_docks {σ : Sg} {b s p : Nat} (h : IQ σ b) (hp : p ≤ 20) : IQ (sx σ 13 s (nI p)) b := by
  obtain ⟨h1, h2, h3, h4, h5, h6⟩ := h
  refine ⟨?_, ?_, ?_, ?_, ?_, ?_⟩
  · intro j hj; simp [sx_r]; exact h1 j hj
  · intro j hj; simp [sx_r]; exact h2 j hj
  · intro j hj; simp [sx_r]; exact h3 j hj
  · intro j hj; simp [sx_r]; exact h4 j hj
  · intro j hj
    by_cases e : j = s
    · subst e; exact ⟨p, hp, by simp [sx_r]⟩
    · simp [sx_r, e]; exact h5 j hj
  · intro j hj; simp [sx_r]; exact h6 j hj
set_option maxRecDepth 100000 in
theorem bit_dec : ∀ r, r < 10 → (1 : Int32) <<< ((nI r) &&& 31) = nI (2 ^ r) := by decide +kernel
theorem or_nI (a b : Nat) : nI a ||| nI b = nI (a ||| b) := by
  apply Int32.toBitVec_inj.mp
  show (BitVec.ofNat 32 a ||| BitVec.ofNat 32 b) = BitVec.ofNat 32 (a ||| b)
  apply BitVec.eq_of_toNat_eq
  simp [BitVec.toNat_or, Nat.or_mod_two_pow]
theorem iq_fault {σ : Sg} {b cy r : Nat} (h : IQ σ b) (hc : cy < 30) (hr : r < 10) : IQ (s_X0_addFault σ (nI cy) (nI r)) b := by
  have ec : (nI cy).toNatClampNeg = cy := nI_clamp (by omega)
  unfold s_X0_addFault
  rw [ec, bit_dec r hr]
  obtain ⟨h1, h2, h3, h4, h5, h6⟩ := h
  refine ⟨?_, ?_, ?_, ?_, ?_, ?_⟩
  · intro j hj; simp [sx_r]; exact h1 j hj
  · intro j hj; simp [sx_r]; exact h2 j hj
  · intro j hj
    by_cases e : j = cy
    · subst e
      obtain ⟨m, hm, em⟩ := h3 j hj
      have h2r : 2 ^ r < 2 ^ 10 := Nat.pow_lt_pow_right (by decide) hr
      exact ⟨m ||| 2 ^ r, Nat.or_lt_two_pow (n := 10) hm h2r, by simp [sx_r, em, or_nI]⟩
    · simp [sx_r, e]; exact h3 j hj
  · intro j hj; simp [sx_r]; exact h4 j hj
  · intro j hj; simp [sx_r]; exact h5 j hj
  · intro j hj; simp [sx_r]; exact h6 j hj
theorem iq_scalar {σ : Sg} {b j0 : Nat} (h : IQ σ b) (x : Int32) : IQ (sx σ 0 j0 x) b := by
  obtain ⟨h1, h2, h3, h4, h5, h6⟩ := h
  refine ⟨?_, ?_, ?_, ?_, ?_, ?_⟩
  · intro j hj; simp [sx_r]; exact h1 j hj
  · intro j hj; simp [sx_r]; exact h2 j hj
  · intro j hj; simp [sx_r]; exact h3 j hj
  · intro j hj; simp [sx_r]; exact h4 j hj
  · intro j hj; simp [sx_r]; exact h5 j hj
  · intro j hj; simp [sx_r]; exact h6 j hj
theorem hX_of {σ : Sg} {b : Nat} (h : IQ σ b) : hX σ := by
  refine ⟨fun cy hc h1 => ?_, fun cy hc h1 => ?_⟩
  · obtain ⟨j, hj, rfl⟩ := vp_in_of hc (by decide)
    rw [nI_clamp (by omega)] at h1 ⊢
    obtain ⟨s, hs, e⟩ := h.1 j hj h1
    rw [e]; exact vp_in_nI hs (by decide)
  · obtain ⟨j, hj, rfl⟩ := vp_in_of hc (by decide)
    rw [nI_clamp (by omega)] at h1 ⊢
    obtain ⟨s, hs, e⟩ := h.2.1 j hj h1
    rw [e]; exact vp_in_nI hs (by decide)
