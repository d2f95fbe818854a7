-- behind each call: the two sides' answers
theorem CI_05 {σ : Sg} {n : Nat} {v : Int32} (h : CI σ n) (hv : σ 0 5 ≤ v) : CI (sx σ 0 5 v) n := by
  obtain ⟨c1, c2, c3, c4, c5, c6, c7, c8⟩ := h
  have e : ∀ q, q ≠ 0 → sx σ 0 5 v q = σ q := fun q hq => sx_o hq
  refine ⟨by rw [e 1 (by decide)]; exact c1, by rw [sx_r, if_pos rfl, if_neg (by decide)]; exact c2, c3, fun i hi => ?_, fun i hi => ?_, iq_scalar c6 _, su_sx c7 (by decide) (by decide), fun μ hs => ?_⟩
  · rw [e 6 (by decide), e 7 (by decide), e 8 (by decide)]; exact c4 i hi
  · rw [e 9 (by decide), sx_r, if_pos rfl, if_pos rfl]; exact Int32.le_trans (c5 i hi) hv
  · have q := c8 μ (fun i hi => by have z := hs i hi; unfold sEq at z ⊢; rw [e 6 (by decide), e 7 (by decide), e 8 (by decide), e 9 (by decide)] at z; exact z)
    unfold QQ at q ⊢
    rw [e 13 (by decide), e 14 (by decide), e 15 (by decide), e 3 (by decide), e 16 (by decide), e 17 (by decide), e 18 (by decide), e 19 (by decide), e 20 (by decide), e 21 (by decide), e 22 (by decide), e 23 (by decide), e 24 (by decide), e 25 (by decide), e 26 (by decide), e 27 (by decide), e 28 (by decide), show sx σ 0 5 v 0 8 = σ 0 8 by rw [sx_r, if_pos rfl, if_neg (by decide)], show sx σ 0 5 v 0 7 = σ 0 7 by rw [sx_r, if_pos rfl, if_neg (by decide)]]
    exact q
theorem CI_g {σ : Sg} {n k i : Nat} {v : Int32} (h : CI σ n) (hk : 10 ≤ k ∧ k ≤ 12) : CI (sx σ k i v) n := by
  obtain ⟨c1, c2, c3, c4, c5, c6, c7, c8⟩ := h
  have e : ∀ q, ¬ (10 ≤ q ∧ q ≤ 12) → sx σ k i v q = σ q := fun q hq => sx_o (fun z => hq (z ▸ hk))
  refine ⟨by rw [e 1 (by decide)]; exact c1, by rw [e 0 (by decide)]; exact c2, c3, fun i hi => ?_, fun i hi => ?_, ?_, su_sx c7 (by omega) (by omega), fun μ hs => ?_⟩
  · rw [e 6 (by decide), e 7 (by decide), e 8 (by decide)]; exact c4 i hi
  · rw [e 9 (by decide), e 0 (by decide)]; exact c5 i hi
  · unfold IQ at c6 ⊢
    rw [e 13 (by decide), e 14 (by decide), e 16 (by decide), e 17 (by decide), e 18 (by decide), e 27 (by decide)]
    exact c6
  · have q := c8 μ (fun i hi => by have z := hs i hi; unfold sEq at z ⊢; rw [e 6 (by decide), e 7 (by decide), e 8 (by decide), e 9 (by decide)] at z; exact z)
    unfold QQ at q ⊢
    rw [e 13 (by decide), e 14 (by decide), e 15 (by decide), e 3 (by decide), e 16 (by decide), e 17 (by decide), e 18 (by decide), e 19 (by decide), e 20 (by decide), e 21 (by decide), e 22 (by decide), e 23 (by decide), e 24 (by decide), e 25 (by decide), e 26 (by decide), e 27 (by decide), e 28 (by decide), e 0 (by decide)]
    exact q
theorem w00 (μ : Sg) (k : Int32) : sx μ 0 0 k 0 0 = k := by rw [sx_r, if_pos rfl, if_pos rfl]
theorem lt_n {σ μ : Sg} {n : Nat} (h : MI σ μ n) : n ≤ 300 := h.1.2.2.1
/-- lies -/
theorem p_lies {σ μ : Sg} {n : Nat} {st ea no hi : Int32} (h : MI σ μ n) :
    (¬ vp_in st 8 → s_X6_lies μ st ea no hi 0 0 = 1 ∧ MI σ (s_X6_lies μ st ea no hi) n) ∧
    (vp_in st 8 → ¬ ((¬ ea < 0 ∧ ea ≤ 99) ∧ (¬ no < 0 ∧ no ≤ 99) ∧ (¬ hi < 0 ∧ hi ≤ 99)) → s_X6_lies μ st ea no hi 0 0 = 2 ∧ MI σ (s_X6_lies μ st ea no hi) n) ∧
    (vp_in st 8 → (¬ ea < 0 ∧ ea ≤ 99) → (¬ no < 0 ∧ no ≤ 99) → (¬ hi < 0 ∧ hi ≤ 99) → s_X6_lies μ st ea no hi 0 0 = 0 ∧ MI (s_X5_lies σ st ea no hi) (s_X6_lies μ st ea no hi) n) := by
  unfold s_X6_lies
  rw [gw_eq, gw_eq, gw_eq]
  have mw := fun k => MI_L h (kL_w μ k)
  refine ⟨fun h1 => ?_, fun h1 h2 => ?_, fun h1 h2 h3 h4 => ?_⟩
  · rw [if_pos (isSt_iff.mpr h1)]; exact ⟨w00 μ 1, mw 1⟩
  · rw [if_neg (fun z => (isSt_iff.mp z) h1)]
    by_cases e1 : (¬ ea < 0 ∧ ea ≤ 99)
    · rw [if_neg (fun z => (up_iff.mp z) e1)]
      by_cases e2 : (¬ no < 0 ∧ no ≤ 99)
      · rw [if_neg (fun z => (up_iff.mp z) e2)]
        by_cases e3 : (¬ hi < 0 ∧ hi ≤ 99)
        · exact absurd ⟨e1, e2, e3⟩ h2
        · rw [if_pos (up_iff.mpr e3)]; exact ⟨w00 μ 2, mw 2⟩
      · rw [if_pos (up_iff.mpr e2)]; exact ⟨w00 μ 2, mw 2⟩
    · rw [if_pos (up_iff.mpr e1)]; exact ⟨w00 μ 2, mw 2⟩
  · rw [if_neg (fun z => (isSt_iff.mp z) h1), if_neg (fun z => (up_iff.mp z) h2), if_neg (fun z => (up_iff.mp z) h3), if_neg (fun z => (up_iff.mp z) h4)]
    obtain ⟨c, s, e5, en, eg, gr, t, ht, e7⟩ := h
    obtain ⟨i, hi8, rfl⟩ := vp_in_of h1 (by decide)
    obtain ⟨x1, hx1, rfl⟩ := nI_of2 (M := 99) (n := 99) (by decide) h2.1 h2.2
    obtain ⟨x2, hx2, rfl⟩ := nI_of2 (M := 99) (n := 99) (by decide) h3.1 h3.2
    obtain ⟨x3, hx3, rfl⟩ := nI_of2 (M := 99) (n := 99) (by decide) h4.1 h4.2
    have ec : (nI i).toNatClampNeg = i := nI_clamp (by omega)
    unfold s_X5_lies
    rw [ec]
    refine ⟨by simp [sx_r], CI_g (CI_g (CI_g c (by decide)) (by decide)) (by decide), fun j hj => ?_, by simp [sx_r]; exact e5, by simp [sx_r]; exact en, fun j hj => ?_, fun j hj => ?_, t, ht, by simp [sx_r]; exact e7⟩
    · have z := s j hj
      unfold sEq at z ⊢
      simp only [sx_r]
      simp (decide := true) only [if_true, if_false, false_and]
      exact z
    · obtain ⟨a1, a2, a3⟩ := eg j hj
      by_cases e : j = i
      · subst e; simp [sx_r]
      · simp [sx_r, e, a1, a2, a3]
    · obtain ⟨a, b, d, ha, hb, hd, a1, a2, a3⟩ := gr j hj
      by_cases e : j = i
      · subst e; exact ⟨x1, x2, x3, hx1, hx2, hx3, by simp [sx_r], by simp [sx_r], by simp [sx_r]⟩
      · exact ⟨a, b, d, ha, hb, hd, by simp [sx_r, e, a1], by simp [sx_r, e, a2], by simp [sx_r, e, a3]⟩
/-- pass -/
theorem p_pass {σ μ : Sg} {n : Nat} {mi : Int32} (h : MI σ μ n) :
    (¬ (¬ mi < 1 ∧ mi ≤ 600) → s_X6_pass μ mi 0 0 = 1 ∧ MI σ (s_X6_pass μ mi) n) ∧
    (¬ mi < 1 → mi ≤ 600 → ¬ (σ 0 5) + mi ≤ 20000 → s_X6_pass μ mi 0 0 = 2 ∧ MI σ (s_X6_pass μ mi) n) ∧
    (¬ mi < 1 → mi ≤ 600 → (σ 0 5) + mi ≤ 20000 → s_X6_pass μ mi 0 0 = 0 ∧ r_X5_pass σ mi = r_X6_pass μ mi ∧ MI (s_X5_pass σ mi) (s_X6_pass μ mi) n) := by
  have iff1 : r_X6_in μ mi 1 600 = 0 ↔ ¬ (¬ mi < 1 ∧ mi ≤ 600) := by rw [in_iff, Int32.not_lt]
  have mw := fun k => MI_L h (kL_w μ k)
  have en : μ 0 1 = σ 0 5 := h.2.2.2.1.symm
  unfold s_X6_pass r_X6_pass
  rw [gw_eq, gw_eq, gw_eq, en]
  refine ⟨fun h1 => ?_, fun h1 h2 h3 => ?_, fun h1 h2 h3 => ?_⟩
  · rw [if_pos (iff1.mpr h1)]; exact ⟨w00 μ 1, mw 1⟩
  · rw [if_neg (fun z => (iff1.mp z) ⟨h1, h2⟩), if_neg h3]; exact ⟨w00 μ 2, mw 2⟩
  · rw [if_neg (fun z => (iff1.mp z) ⟨h1, h2⟩), if_neg (fun z => (iff1.mp z) ⟨h1, h2⟩), if_pos h3, if_pos h3]
    obtain ⟨c, s, e5, en2, eg, gr, t, ht, e7⟩ := h
    have ea : sx μ 0 0 0 0 1 = σ 0 5 := by rw [sx_r, if_pos rfl, if_neg (by decide)]; exact en
    have p0 : (0 : Int32) ≤ mi := Int32.le_trans (by decide) (Int32.not_lt.mp h1)
    obtain ⟨k, hk, rfl⟩ := nI_of2 (M := 600) (n := 600) (by decide) (Int32.not_lt.mpr p0) h2
    have et : σ 0 5 = nI t := en.symm.trans e7
    have hadd : σ 0 5 + nI k = nI (t + k) := by rw [et, nI_add]
    have hle : t + k ≤ 20000 := by
      rw [hadd] at h3
      exact (nI_leI (a := t + k) (b := 20000) (by omega) (by omega)).mp h3
    unfold s_X5_pass r_X5_pass
    rw [ea]
    refine ⟨by simp [sx_r], by simp [sx_r], CI_05 c (by rw [hadd, et]; exact nI_le (by omega) (by omega)), fun j hj => ?_, by simp [sx_r]; exact e5, by simp [sx_r], fun j hj => ?_, fun j hj => ?_, t + k, hle, by simp [sx_r]; rw [hadd]⟩
    · have z := s j hj
      unfold sEq at z ⊢
      simp only [sx_r]
      simp (decide := true) only [if_true, if_false, false_and]
      exact z
    · obtain ⟨a1, a2, a3⟩ := eg j hj
      simp [sx_r, a1, a2, a3]
    · obtain ⟨a, b, d, ha, hb, hd, a1, a2, a3⟩ := gr j hj
      exact ⟨a, b, d, ha, hb, hd, by simp [sx_r, a1], by simp [sx_r, a2], by simp [sx_r, a3]⟩
theorem tOK_0 {f s : Int32} (h : vp_in f 8) (h2 : ¬ s < 0 ∧ s ≤ 20) : tOK 0 f s := by
  obtain ⟨a, ha, rfl⟩ := vp_in_of h (by decide)
  obtain ⟨b, hb, rfl⟩ := nI_of2 (M := 20) (n := 20) (by decide) h2.1 h2.2
  exact Or.inl ⟨rfl, a, b, ha, hb, rfl, rfl⟩
theorem tOK_1 {f s : Int32} (h : vp_in f 30) (h2 : vp_in s 8) : tOK 1 f s := by
  obtain ⟨a, ha, rfl⟩ := vp_in_of h (by decide)
  obtain ⟨b, hb, rfl⟩ := vp_in_of h2 (by decide)
  exact Or.inr (Or.inl ⟨rfl, a, b, ha, hb, rfl, rfl⟩)
theorem tOK_2 {f s : Int32} (h : vp_in f 30) : tOK 2 f s := by
  obtain ⟨a, ha, rfl⟩ := vp_in_of h (by decide)
  exact Or.inr (Or.inr (Or.inl ⟨rfl, a, ha, rfl⟩))
theorem tOK_3 {f s : Int32} (h : vp_in f 30) (h2 : vp_in s 10) : tOK 3 f s := by
  obtain ⟨a, ha, rfl⟩ := vp_in_of h (by decide)
  obtain ⟨b, hb, rfl⟩ := vp_in_of h2 (by decide)
  exact Or.inr (Or.inr (Or.inr (Or.inl ⟨rfl, a, b, ha, hb, rfl, rfl⟩)))
theorem tOK_4 {f s : Int32} (h : vp_in f 30) (h2 : vp_in s 8) : tOK 4 f s := by
  obtain ⟨a, ha, rfl⟩ := vp_in_of h (by decide)
  obtain ⟨b, hb, rfl⟩ := vp_in_of h2 (by decide)
  exact Or.inr (Or.inr (Or.inr (Or.inr (Or.inl ⟨rfl, a, b, ha, hb, rfl, rfl⟩))))
theorem tOK_5 {f s : Int32} (h : vp_in f 30) (h2 : vp_in s 10) : tOK 5 f s := by
  obtain ⟨a, ha, rfl⟩ := vp_in_of h (by decide)
  obtain ⟨b, hb, rfl⟩ := vp_in_of h2 (by decide)
  exact Or.inr (Or.inr (Or.inr (Or.inr (Or.inr (Or.inl ⟨rfl, a, b, ha, hb, rfl, rfl⟩)))))
theorem tOK_6 {f s : Int32} (h : vp_in f 30) : tOK 6 f s := by
  obtain ⟨a, ha, rfl⟩ := vp_in_of h (by decide)
  exact Or.inr (Or.inr (Or.inr (Or.inr (Or.inr (Or.inr (Or.inl ⟨rfl, a, ha, rfl⟩))))))
theorem tOK_7 {f s : Int32} : tOK 7 f s := Or.inr (Or.inr (Or.inr (Or.inr (Or.inr (Or.inr (Or.inr (Or.inl rfl)))))))
theorem tOK_8 {f s : Int32} (h : vp_in f 10) (h2 : vp_in s 8) : tOK 8 f s := by
  obtain ⟨a, ha, rfl⟩ := vp_in_of h (by decide)
  obtain ⟨b, hb, rfl⟩ := vp_in_of h2 (by decide)
  exact Or.inr (Or.inr (Or.inr (Or.inr (Or.inr (Or.inr (Or.inr (Or.inr ⟨rfl, a, b, ha, hb, rfl, rfl⟩)))))))
theorem p_docks {σ μ : Sg} {n : Nat} {st pl : Int32} (h : MI σ μ n) :
    (¬ (vp_in st 8) → s_X6_docks μ st pl n 0 0 = 1 ∧ MI σ (s_X6_docks μ st pl n) n) ∧
    (vp_in st 8 → ¬ (¬ pl < 0 ∧ pl ≤ 20) → s_X6_docks μ st pl n 0 0 = 2 ∧ MI σ (s_X6_docks μ st pl n) n) ∧
    (vp_in st 8 → (¬ pl < 0 ∧ pl ≤ 20) → ¬ (r_X4_isFull σ = 0) → s_X6_docks μ st pl n 0 0 = 3 ∧ MI σ (s_X6_docks μ st pl n) n) ∧
    (vp_in st 8 → (¬ pl < 0 ∧ pl ≤ 20) → r_X4_isFull σ = 0 → n < 300 ∧ hearOK σ 0 st pl (σ 0 5) n n ∧ s_X6_docks μ st pl n 0 0 = 0 ∧ MI (s_X5_docks σ st pl n n) (s_X6_docks μ st pl n) (n + 1)) := by
  have mw := fun k => MI_L h (kL_w μ k)
  have hn := lt_n h
  have fx := isF_iff h.1.1 hn
  have fm := full_iff h.2.2.1 hn
  refine ⟨?_, ?_, ?_, ?_⟩
  · intro g1
    unfold s_X6_docks
    simp only [gw_eq]
    rw [if_pos (isSt_iff.mpr g1)]
    exact ⟨w00 μ 1, mw 1⟩
  · intro g1 g2
    unfold s_X6_docks
    simp only [gw_eq]
    rw [if_neg (fun z => (isSt_iff.mp z) g1), if_pos (up_iff.mpr g2)]
    exact ⟨w00 μ 2, mw 2⟩
  · intro g1 g2 g3
    unfold s_X6_docks
    simp only [gw_eq]
    rw [if_neg (fun z => (isSt_iff.mp z) g1), if_neg (fun z => (up_iff.mp z) g2), if_pos (fm.mpr (fun z => g3 (fx.mpr z)))]
    exact ⟨w00 μ 3, mw 3⟩
  · intro g1 g2 g3
    have hlt : n < 300 := fx.mp g3
    obtain ⟨t1, t2, t3, -, -, -⟩ := op_keep (k := 0) (f := st) (s := pl) (s' := pl) (m := σ 0 5) (v := 0) h hlt (tOK_0 g1 g2) (Or.inl rfl) (Int32.le_refl _)
    have em : sx μ 0 0 0 0 1 = σ 0 5 := by rw [sx_r, if_pos rfl, if_neg (by decide)]; exact h.2.2.2.1.symm
    unfold s_X6_docks s_X5_docks
    simp only [gw_eq]
    rw [if_neg (fun z => (isSt_iff.mp z) g1), if_neg (fun z => (up_iff.mp z) g2), if_neg (fun z => (fm.mp z) (fx.mp g3)), em]
    exact ⟨hlt, t1, t3, t2⟩
theorem p_put {σ μ : Sg} {n : Nat} {cy st : Int32} (h : MI σ μ n) :
    (¬ (vp_in cy 30) → s_X6_put μ cy st n 0 0 = 1 ∧ MI σ (s_X6_put μ cy st n) n) ∧
    (vp_in cy 30 → ¬ (vp_in st 8) → s_X6_put μ cy st n 0 0 = 1 ∧ MI σ (s_X6_put μ cy st n) n) ∧
    (vp_in cy 30 → vp_in st 8 → ¬ (r_X4_isFull σ = 0) → s_X6_put μ cy st n 0 0 = 2 ∧ MI σ (s_X6_put μ cy st n) n) ∧
    (vp_in cy 30 → vp_in st 8 → r_X4_isFull σ = 0 → n < 300 ∧ hearOK σ 1 cy st (σ 0 5) n n ∧ s_X6_put μ cy st n 0 0 = 0 ∧ r_X5_put σ cy st n n = r_X6_put μ cy st n ∧ MI (s_X5_put σ cy st n n) (s_X6_put μ cy st n) (n + 1)) ∧
    (¬ r_X6_isCycle μ cy = 0 → ¬ r_X6_isStation μ st = 0 → ¬ μ 0 5 = 300 → gOK (sx (s_X6_keep (s_X6_goesWell μ 0) 1 cy st ((s_X6_goesWell μ 0) 0 1) n) 0 28 (r_X6_keep (s_X6_goesWell μ 0) 1 cy st ((s_X6_goesWell μ 0) 0 1) n)) (n + 1)) := by
  have mw := fun k => MI_L h (kL_w μ k)
  have hn := lt_n h
  have fx := isF_iff h.1.1 hn
  have fm := full_iff h.2.2.1 hn
  refine ⟨?_, ?_, ?_, ?_, ?_⟩
  · intro g1
    unfold s_X6_put
    simp only [gw_eq]
    rw [if_pos (isCy_iff.mpr g1)]
    exact ⟨w00 μ 1, mw 1⟩
  · intro g1 g2
    unfold s_X6_put
    simp only [gw_eq]
    rw [if_neg (fun z => (isCy_iff.mp z) g1), if_pos (isSt_iff.mpr g2)]
    exact ⟨w00 μ 1, mw 1⟩
  · intro g1 g2 g3
    unfold s_X6_put
    simp only [gw_eq]
    rw [if_neg (fun z => (isCy_iff.mp z) g1), if_neg (fun z => (isSt_iff.mp z) g2), if_pos (fm.mpr (fun z => g3 (fx.mpr z)))]
    exact ⟨w00 μ 2, mw 2⟩
  · intro g1 g2 g3
    have hlt : n < 300 := fx.mp g3
    obtain ⟨t1, -, t3, t4, t5⟩ := op_tell (k := 1) (f := cy) (s := st) (s' := st) h hlt (tOK_1 g1 g2) (Or.inl rfl)
    unfold s_X6_put r_X6_put s_X5_put r_X5_put
    simp only [gw_eq]
    rw [if_neg (fun z => (isCy_iff.mp z) g1), if_neg (fun z => (isSt_iff.mp z) g2), if_neg (fun z => (fm.mp z) (fx.mp g3)), if_neg (fun z => (isCy_iff.mp z) g1), if_neg (fun z => (isSt_iff.mp z) g2), if_neg (fun z => (fm.mp z) (fx.mp g3))]
    refine ⟨hlt, t1, ?_, ?_, ?_⟩
    · split <;> exact t5
    · rw [t3]; rcases b_X6_tell (sx μ 0 0 0) 1 cy st n with q | q
      · rw [if_pos q, q]
      · rw [if_neg (by rw [q]; decide), q]
    · split <;> exact t4
  · intro q1 q2 q9
    have g1 : vp_in cy 30 := Classical.byContradiction fun z => q1 (isCy_iff.mpr z)
    have g2 : vp_in st 8 := Classical.byContradiction fun z => q2 (isSt_iff.mpr z)
    have hlt : n < 300 := Classical.byContradiction fun z => q9 (fm.mpr z)
    simp only [gw_eq]
    exact (op_tell (k := 1) (f := cy) (s := st) (s' := st) h hlt (tOK_1 g1 g2) (Or.inl rfl)).2.1
theorem p_take {σ μ : Sg} {n : Nat} {cy : Int32} (h : MI σ μ n) :
    (¬ (vp_in cy 30) → s_X6_take μ cy n 0 0 = 1 ∧ MI σ (s_X6_take μ cy n) n) ∧
    (vp_in cy 30 → ¬ (r_X4_isFull σ = 0) → s_X6_take μ cy n 0 0 = 2 ∧ MI σ (s_X6_take μ cy n) n) ∧
    (vp_in cy 30 → r_X4_isFull σ = 0 → n < 300 ∧ hearOK σ 2 cy (-1) (σ 0 5) n n ∧ s_X6_take μ cy n 0 0 = 0 ∧ r_X5_take σ cy n n = r_X6_take μ cy n ∧ MI (s_X5_take σ cy n n) (s_X6_take μ cy n) (n + 1)) ∧
    (¬ r_X6_isCycle μ cy = 0 → ¬ μ 0 5 = 300 → gOK (sx (s_X6_keep (s_X6_goesWell μ 0) 2 cy 0 ((s_X6_goesWell μ 0) 0 1) n) 0 28 (r_X6_keep (s_X6_goesWell μ 0) 2 cy 0 ((s_X6_goesWell μ 0) 0 1) n)) (n + 1)) := by
  have mw := fun k => MI_L h (kL_w μ k)
  have hn := lt_n h
  have fx := isF_iff h.1.1 hn
  have fm := full_iff h.2.2.1 hn
  refine ⟨?_, ?_, ?_, ?_⟩
  · intro g1
    unfold s_X6_take
    simp only [gw_eq]
    rw [if_pos (isCy_iff.mpr g1)]
    exact ⟨w00 μ 1, mw 1⟩
  · intro g1 g2
    unfold s_X6_take
    simp only [gw_eq]
    rw [if_neg (fun z => (isCy_iff.mp z) g1), if_pos (fm.mpr (fun z => g2 (fx.mpr z)))]
    exact ⟨w00 μ 2, mw 2⟩
  · intro g1 g2
    have hlt : n < 300 := fx.mp g2
    obtain ⟨t1, -, t3, t4, t5⟩ := op_tell (k := 2) (f := cy) (s := (-1)) (s' := 0) h hlt (tOK_2 g1) (Or.inr (Or.inl rfl))
    unfold s_X6_take r_X6_take s_X5_take r_X5_take
    simp only [gw_eq]
    rw [if_neg (fun z => (isCy_iff.mp z) g1), if_neg (fun z => (fm.mp z) (fx.mp g2)), if_neg (fun z => (isCy_iff.mp z) g1), if_neg (fun z => (fm.mp z) (fx.mp g2))]
    refine ⟨hlt, t1, ?_, ?_, ?_⟩
    · split <;> exact t5
    · rw [t3]; rcases b_X6_tell (sx μ 0 0 0) 2 cy 0 n with q | q
      · rw [if_pos q, q]
      · rw [if_neg (by rw [q]; decide), q]
    · split <;> exact t4
  · intro q1 q9
    have g1 : vp_in cy 30 := Classical.byContradiction fun z => q1 (isCy_iff.mpr z)
    have hlt : n < 300 := Classical.byContradiction fun z => q9 (fm.mpr z)
    simp only [gw_eq]
    exact (op_tell (k := 2) (f := cy) (s := (-1)) (s' := 0) h hlt (tOK_2 g1) (Or.inr (Or.inl rfl))).2.1
theorem p_unlocked {σ μ : Sg} {n : Nat} {cy ri wh : Int32} (h : MI σ μ n) :
    (¬ (vp_in cy 30) → s_X6_unlocked μ cy ri wh n 0 0 = 1 ∧ MI σ (s_X6_unlocked μ cy ri wh n) n) ∧
    (vp_in cy 30 → ¬ (vp_in ri 10) → s_X6_unlocked μ cy ri wh n 0 0 = 1 ∧ MI σ (s_X6_unlocked μ cy ri wh n) n) ∧
    (vp_in cy 30 → vp_in ri 10 → ¬ (hW σ wh) → s_X6_unlocked μ cy ri wh n 0 0 = 2 ∧ MI σ (s_X6_unlocked μ cy ri wh n) n) ∧
    (vp_in cy 30 → vp_in ri 10 → hW σ wh → ¬ (r_X4_isFull σ = 0) → s_X6_unlocked μ cy ri wh n 0 0 = 3 ∧ MI σ (s_X6_unlocked μ cy ri wh n) n) ∧
    (vp_in cy 30 → vp_in ri 10 → hW σ wh → r_X4_isFull σ = 0 → n < 300 ∧ (r_X4_tells σ 3 cy ri wh n = 0 → hearOK σ 3 cy ri wh n n) ∧ s_X6_unlocked μ cy ri wh n 0 0 = 0 ∧ r_X5_unlocked σ cy ri wh n n = r_X6_unlocked μ cy ri wh n ∧ ∃ n2, MI (s_X5_unlocked σ cy ri wh n n) (s_X6_unlocked μ cy ri wh n) n2) := by
  have mw := fun k => MI_L h (kL_w μ k)
  have hn := lt_n h
  have fx := isF_iff h.1.1 hn
  have fm := full_iff h.2.2.1 hn
  refine ⟨?_, ?_, ?_, ?_, ?_⟩
  · intro g1
    unfold s_X6_unlocked
    simp only [gw_eq]
    rw [if_pos (isCy_iff.mpr g1)]
    exact ⟨w00 μ 1, mw 1⟩
  · intro g1 g2
    unfold s_X6_unlocked
    simp only [gw_eq]
    rw [if_neg (fun z => (isCy_iff.mp z) g1), if_pos (isRi_iff.mpr g2)]
    exact ⟨w00 μ 1, mw 1⟩
  · intro g1 g2 g3
    unfold s_X6_unlocked
    simp only [gw_eq]
    rw [if_neg (fun z => (isCy_iff.mp z) g1), if_neg (fun z => (isRi_iff.mp z) g2), if_pos ((when_iff h).mpr g3)]
    exact ⟨w00 μ 2, mw 2⟩
  · intro g1 g2 g3 g4
    unfold s_X6_unlocked
    simp only [gw_eq]
    rw [if_neg (fun z => (isCy_iff.mp z) g1), if_neg (fun z => (isRi_iff.mp z) g2), if_neg (fun z => ((when_iff h).mp z) g3), if_pos (fm.mpr (fun z => g4 (fx.mpr z)))]
    exact ⟨w00 μ 3, mw 3⟩
  · intro g1 g2 g3 g4
    have hlt : n < 300 := fx.mp g4
    obtain ⟨t1, t2, t3, -, -, -⟩ := op_keep (k := 3) (f := cy) (s := ri) (s' := ri) (m := wh) (v := 0) h hlt (tOK_3 g1 g2) (Or.inl rfl) g3.2
    have he := heard_eq (k := 3) (f := cy) (s := ri) (m := wh) hn (mw 0).2.1 (by decide)
    refine ⟨hlt, fun _ => t1, ?_⟩
    unfold s_X6_unlocked r_X6_unlocked s_X5_unlocked r_X5_unlocked
    simp only [gw_eq]
    rw [if_neg (fun z => (isCy_iff.mp z) g1), if_neg (fun z => (isRi_iff.mp z) g2), if_neg (fun z => ((when_iff h).mp z) g3), if_neg (fun z => (fm.mp z) (fx.mp g4)), if_neg (fun z => (isCy_iff.mp z) g1), if_neg (fun z => (isRi_iff.mp z) g2), if_neg (fun z => ((when_iff h).mp z) g3), if_neg (fun z => (fm.mp z) (fx.mp g4))]
    unfold s_X6_hear r_X6_hear s_X5_hearOnce r_X5_hearOnce
    rw [he]
    rcases b_X6_wasHeard (sx μ 0 0 0) 3 cy ri wh n with q | q
    · simp only [if_pos q]
      exact ⟨by rw [if_neg (by decide)]; exact t3, by rw [if_neg (by decide)], n + 1, by rw [if_neg (by decide)]; exact t2⟩
    · have q1 : ¬ r_X6_wasHeard (sx μ 0 0 0) 3 cy ri wh n = 0 := by rw [q]; decide
      refine ⟨?_, ?_, n, ?_⟩
      · simp only [if_neg q1, if_true]; exact w00 μ 0
      · simp only [if_neg q1, if_true]
      · simp only [if_neg q1, if_true]; exact mw 0
theorem p_locked {σ μ : Sg} {n : Nat} {cy st wh : Int32} (h : MI σ μ n) :
    (¬ (vp_in cy 30) → s_X6_locked μ cy st wh n 0 0 = 1 ∧ MI σ (s_X6_locked μ cy st wh n) n) ∧
    (vp_in cy 30 → ¬ (vp_in st 8) → s_X6_locked μ cy st wh n 0 0 = 1 ∧ MI σ (s_X6_locked μ cy st wh n) n) ∧
    (vp_in cy 30 → vp_in st 8 → ¬ (hW σ wh) → s_X6_locked μ cy st wh n 0 0 = 2 ∧ MI σ (s_X6_locked μ cy st wh n) n) ∧
    (vp_in cy 30 → vp_in st 8 → hW σ wh → ¬ (r_X4_isFull σ = 0) → s_X6_locked μ cy st wh n 0 0 = 3 ∧ MI σ (s_X6_locked μ cy st wh n) n) ∧
    (vp_in cy 30 → vp_in st 8 → hW σ wh → r_X4_isFull σ = 0 → n < 300 ∧ (r_X4_tells σ 4 cy st wh n = 0 → hearOK σ 4 cy st wh n n) ∧ s_X6_locked μ cy st wh n 0 0 = 0 ∧ r_X5_locked σ cy st wh n n = r_X6_locked μ cy st wh n ∧ ∃ n2, MI (s_X5_locked σ cy st wh n n) (s_X6_locked μ cy st wh n) n2) := by
  have mw := fun k => MI_L h (kL_w μ k)
  have hn := lt_n h
  have fx := isF_iff h.1.1 hn
  have fm := full_iff h.2.2.1 hn
  refine ⟨?_, ?_, ?_, ?_, ?_⟩
  · intro g1
    unfold s_X6_locked
    simp only [gw_eq]
    rw [if_pos (isCy_iff.mpr g1)]
    exact ⟨w00 μ 1, mw 1⟩
  · intro g1 g2
    unfold s_X6_locked
    simp only [gw_eq]
    rw [if_neg (fun z => (isCy_iff.mp z) g1), if_pos (isSt_iff.mpr g2)]
    exact ⟨w00 μ 1, mw 1⟩
  · intro g1 g2 g3
    unfold s_X6_locked
    simp only [gw_eq]
    rw [if_neg (fun z => (isCy_iff.mp z) g1), if_neg (fun z => (isSt_iff.mp z) g2), if_pos ((when_iff h).mpr g3)]
    exact ⟨w00 μ 2, mw 2⟩
  · intro g1 g2 g3 g4
    unfold s_X6_locked
    simp only [gw_eq]
    rw [if_neg (fun z => (isCy_iff.mp z) g1), if_neg (fun z => (isSt_iff.mp z) g2), if_neg (fun z => ((when_iff h).mp z) g3), if_pos (fm.mpr (fun z => g4 (fx.mpr z)))]
    exact ⟨w00 μ 3, mw 3⟩
  · intro g1 g2 g3 g4
    have hlt : n < 300 := fx.mp g4
    obtain ⟨t1, t2, t3, -, -, -⟩ := op_keep (k := 4) (f := cy) (s := st) (s' := st) (m := wh) (v := 0) h hlt (tOK_4 g1 g2) (Or.inl rfl) g3.2
    have he := heard_eq (k := 4) (f := cy) (s := st) (m := wh) hn (mw 0).2.1 (by decide)
    refine ⟨hlt, fun _ => t1, ?_⟩
    unfold s_X6_locked r_X6_locked s_X5_locked r_X5_locked
    simp only [gw_eq]
    rw [if_neg (fun z => (isCy_iff.mp z) g1), if_neg (fun z => (isSt_iff.mp z) g2), if_neg (fun z => ((when_iff h).mp z) g3), if_neg (fun z => (fm.mp z) (fx.mp g4)), if_neg (fun z => (isCy_iff.mp z) g1), if_neg (fun z => (isSt_iff.mp z) g2), if_neg (fun z => ((when_iff h).mp z) g3), if_neg (fun z => (fm.mp z) (fx.mp g4))]
    unfold s_X6_hear r_X6_hear s_X5_hearOnce r_X5_hearOnce
    rw [he]
    rcases b_X6_wasHeard (sx μ 0 0 0) 4 cy st wh n with q | q
    · simp only [if_pos q]
      exact ⟨by rw [if_neg (by decide)]; exact t3, by rw [if_neg (by decide)], n + 1, by rw [if_neg (by decide)]; exact t2⟩
    · have q1 : ¬ r_X6_wasHeard (sx μ 0 0 0) 4 cy st wh n = 0 := by rw [q]; decide
      refine ⟨?_, ?_, n, ?_⟩
      · simp only [if_neg q1, if_true]; exact w00 μ 0
      · simp only [if_neg q1, if_true]
      · simp only [if_neg q1, if_true]; exact mw 0
theorem p_faulty {σ μ : Sg} {n : Nat} {cy ri wh : Int32} (h : MI σ μ n) :
    (¬ (vp_in cy 30) → s_X6_faulty μ cy ri wh n 0 0 = 1 ∧ MI σ (s_X6_faulty μ cy ri wh n) n) ∧
    (vp_in cy 30 → ¬ (vp_in ri 10) → s_X6_faulty μ cy ri wh n 0 0 = 1 ∧ MI σ (s_X6_faulty μ cy ri wh n) n) ∧
    (vp_in cy 30 → vp_in ri 10 → ¬ (hW σ wh) → s_X6_faulty μ cy ri wh n 0 0 = 2 ∧ MI σ (s_X6_faulty μ cy ri wh n) n) ∧
    (vp_in cy 30 → vp_in ri 10 → hW σ wh → ¬ (r_X4_isFull σ = 0) → s_X6_faulty μ cy ri wh n 0 0 = 3 ∧ MI σ (s_X6_faulty μ cy ri wh n) n) ∧
    (vp_in cy 30 → vp_in ri 10 → hW σ wh → r_X4_isFull σ = 0 → n < 300 ∧ (r_X4_tells σ 5 cy ri wh n = 0 → hearOK σ 5 cy ri wh n n) ∧ s_X6_faulty μ cy ri wh n 0 0 = 0 ∧ r_X5_faulty σ cy ri wh n n = r_X6_faulty μ cy ri wh n ∧ ∃ n2, MI (s_X5_faulty σ cy ri wh n n) (s_X6_faulty μ cy ri wh n) n2) := by
  have mw := fun k => MI_L h (kL_w μ k)
  have hn := lt_n h
  have fx := isF_iff h.1.1 hn
  have fm := full_iff h.2.2.1 hn
  refine ⟨?_, ?_, ?_, ?_, ?_⟩
  · intro g1
    unfold s_X6_faulty
    simp only [gw_eq]
    rw [if_pos (isCy_iff.mpr g1)]
    exact ⟨w00 μ 1, mw 1⟩
  · intro g1 g2
    unfold s_X6_faulty
    simp only [gw_eq]
    rw [if_neg (fun z => (isCy_iff.mp z) g1), if_pos (isRi_iff.mpr g2)]
    exact ⟨w00 μ 1, mw 1⟩
  · intro g1 g2 g3
    unfold s_X6_faulty
    simp only [gw_eq]
    rw [if_neg (fun z => (isCy_iff.mp z) g1), if_neg (fun z => (isRi_iff.mp z) g2), if_pos ((when_iff h).mpr g3)]
    exact ⟨w00 μ 2, mw 2⟩
  · intro g1 g2 g3 g4
    unfold s_X6_faulty
    simp only [gw_eq]
    rw [if_neg (fun z => (isCy_iff.mp z) g1), if_neg (fun z => (isRi_iff.mp z) g2), if_neg (fun z => ((when_iff h).mp z) g3), if_pos (fm.mpr (fun z => g4 (fx.mpr z)))]
    exact ⟨w00 μ 3, mw 3⟩
  · intro g1 g2 g3 g4
    have hlt : n < 300 := fx.mp g4
    obtain ⟨t1, t2, t3, -, -, -⟩ := op_keep (k := 5) (f := cy) (s := ri) (s' := ri) (m := wh) (v := 0) h hlt (tOK_5 g1 g2) (Or.inl rfl) g3.2
    have he := heard_eq (k := 5) (f := cy) (s := ri) (m := wh) hn (mw 0).2.1 (by decide)
    refine ⟨hlt, fun _ => t1, ?_⟩
    unfold s_X6_faulty r_X6_faulty s_X5_faulty r_X5_faulty
    simp only [gw_eq]
    rw [if_neg (fun z => (isCy_iff.mp z) g1), if_neg (fun z => (isRi_iff.mp z) g2), if_neg (fun z => ((when_iff h).mp z) g3), if_neg (fun z => (fm.mp z) (fx.mp g4)), if_neg (fun z => (isCy_iff.mp z) g1), if_neg (fun z => (isRi_iff.mp z) g2), if_neg (fun z => ((when_iff h).mp z) g3), if_neg (fun z => (fm.mp z) (fx.mp g4))]
    unfold s_X6_hear r_X6_hear s_X5_hearOnce r_X5_hearOnce
    rw [he]
    rcases b_X6_wasHeard (sx μ 0 0 0) 5 cy ri wh n with q | q
    · simp only [if_pos q]
      exact ⟨by rw [if_neg (by decide)]; exact t3, by rw [if_neg (by decide)], n + 1, by rw [if_neg (by decide)]; exact t2⟩
    · have q1 : ¬ r_X6_wasHeard (sx μ 0 0 0) 5 cy ri wh n = 0 := by rw [q]; decide
      refine ⟨?_, ?_, n, ?_⟩
      · simp only [if_neg q1, if_true]; exact w00 μ 0
      · simp only [if_neg q1, if_true]
      · simp only [if_neg q1, if_true]; exact mw 0
theorem p_mend {σ μ : Sg} {n : Nat} {cy : Int32} (h : MI σ μ n) :
    (¬ (vp_in cy 30) → s_X6_mend μ cy n 0 0 = 1 ∧ MI σ (s_X6_mend μ cy n) n) ∧
    (vp_in cy 30 → ¬ (r_X4_isFull σ = 0) → s_X6_mend μ cy n 0 0 = 2 ∧ MI σ (s_X6_mend μ cy n) n) ∧
    (vp_in cy 30 → r_X4_isFull σ = 0 → n < 300 ∧ hearOK σ 6 cy (-1) (σ 0 5) n n ∧ s_X6_mend μ cy n 0 0 = 0 ∧ r_X5_mend σ cy n n = r_X6_mend μ cy n ∧ MI (s_X5_mend σ cy n n) (s_X6_mend μ cy n) (n + 1)) ∧
    (¬ r_X6_isCycle μ cy = 0 → ¬ μ 0 5 = 300 → gOK (sx (s_X6_keep (s_X6_goesWell μ 0) 6 cy 0 ((s_X6_goesWell μ 0) 0 1) n) 0 28 (r_X6_keep (s_X6_goesWell μ 0) 6 cy 0 ((s_X6_goesWell μ 0) 0 1) n)) (n + 1)) := by
  have mw := fun k => MI_L h (kL_w μ k)
  have hn := lt_n h
  have fx := isF_iff h.1.1 hn
  have fm := full_iff h.2.2.1 hn
  refine ⟨?_, ?_, ?_, ?_⟩
  · intro g1
    unfold s_X6_mend
    simp only [gw_eq]
    rw [if_pos (isCy_iff.mpr g1)]
    exact ⟨w00 μ 1, mw 1⟩
  · intro g1 g2
    unfold s_X6_mend
    simp only [gw_eq]
    rw [if_neg (fun z => (isCy_iff.mp z) g1), if_pos (fm.mpr (fun z => g2 (fx.mpr z)))]
    exact ⟨w00 μ 2, mw 2⟩
  · intro g1 g2
    have hlt : n < 300 := fx.mp g2
    obtain ⟨t1, -, t3, t4, t5⟩ := op_tell (k := 6) (f := cy) (s := (-1)) (s' := 0) h hlt (tOK_6 g1) (Or.inr (Or.inr (Or.inl rfl)))
    unfold s_X6_mend r_X6_mend s_X5_mend r_X5_mend
    simp only [gw_eq]
    rw [if_neg (fun z => (isCy_iff.mp z) g1), if_neg (fun z => (fm.mp z) (fx.mp g2)), if_neg (fun z => (isCy_iff.mp z) g1), if_neg (fun z => (fm.mp z) (fx.mp g2))]
    refine ⟨hlt, t1, ?_, ?_, ?_⟩
    · split <;> exact t5
    · rw [t3]; rcases b_X6_tell (sx μ 0 0 0) 6 cy 0 n with q | q
      · rw [if_pos q, q]
      · rw [if_neg (by rw [q]; decide), q]
    · split <;> exact t4
  · intro q1 q9
    have g1 : vp_in cy 30 := Classical.byContradiction fun z => q1 (isCy_iff.mpr z)
    have hlt : n < 300 := Classical.byContradiction fun z => q9 (fm.mpr z)
    simp only [gw_eq]
    exact (op_tell (k := 6) (f := cy) (s := (-1)) (s' := 0) h hlt (tOK_6 g1) (Or.inr (Or.inr (Or.inl rfl)))).2.1
theorem p_price {σ μ : Sg} {n : Nat} {pr : Int32} (h : MI σ μ n) :
    (¬ (¬ pr < 0 ∧ pr ≤ 99) → s_X6_price μ pr n 0 0 = 1 ∧ MI σ (s_X6_price μ pr n) n) ∧
    ((¬ pr < 0 ∧ pr ≤ 99) → ¬ (r_X4_isFull σ = 0) → s_X6_price μ pr n 0 0 = 2 ∧ MI σ (s_X6_price μ pr n) n) ∧
    ((¬ pr < 0 ∧ pr ≤ 99) → r_X4_isFull σ = 0 → n < 300 ∧ hearOK σ 7 pr (-1) (σ 0 5) n n ∧ s_X6_price μ pr n 0 0 = 0 ∧ MI (s_X5_price σ pr n n) (s_X6_price μ pr n) (n + 1)) := by
  have mw := fun k => MI_L h (kL_w μ k)
  have hn := lt_n h
  have fx := isF_iff h.1.1 hn
  have fm := full_iff h.2.2.1 hn
  refine ⟨?_, ?_, ?_⟩
  · intro g1
    unfold s_X6_price
    simp only [gw_eq]
    rw [if_pos (up_iff.mpr g1)]
    exact ⟨w00 μ 1, mw 1⟩
  · intro g1 g2
    unfold s_X6_price
    simp only [gw_eq]
    rw [if_neg (fun z => (up_iff.mp z) g1), if_pos (fm.mpr (fun z => g2 (fx.mpr z)))]
    exact ⟨w00 μ 2, mw 2⟩
  · intro g1 g2
    have hlt : n < 300 := fx.mp g2
    obtain ⟨t1, t2, t3, -, -, -⟩ := op_keep (k := 7) (f := pr) (s := (-1)) (s' := 0) (m := σ 0 5) (v := 0) h hlt tOK_7 (Or.inr (Or.inr (Or.inr rfl))) (Int32.le_refl _)
    have em : sx μ 0 0 0 0 1 = σ 0 5 := by rw [sx_r, if_pos rfl, if_neg (by decide)]; exact h.2.2.2.1.symm
    unfold s_X6_price s_X5_price
    simp only [gw_eq]
    rw [if_neg (fun z => (up_iff.mp z) g1), if_neg (fun z => (fm.mp z) (fx.mp g2)), em]
    exact ⟨hlt, t1, t3, t2⟩
theorem p_promise {σ μ : Sg} {n : Nat} {ri st : Int32} (h : MI σ μ n) :
    (¬ (vp_in ri 10) → s_X6_promise μ ri st n 0 0 = 1 ∧ MI σ (s_X6_promise μ ri st n) n) ∧
    (vp_in ri 10 → ¬ (vp_in st 8) → s_X6_promise μ ri st n 0 0 = 1 ∧ MI σ (s_X6_promise μ ri st n) n) ∧
    (vp_in ri 10 → vp_in st 8 → ¬ (r_X4_isFull σ = 0) → s_X6_promise μ ri st n 0 0 = 2 ∧ MI σ (s_X6_promise μ ri st n) n) ∧
    (vp_in ri 10 → vp_in st 8 → r_X4_isFull σ = 0 → n < 300 ∧ hearOK σ 8 ri st (σ 0 5) n n ∧ s_X6_promise μ ri st n 0 0 = 0 ∧ r_X5_promise σ ri st n n = r_X6_promise μ ri st n ∧ MI (s_X5_promise σ ri st n n) (s_X6_promise μ ri st n) (n + 1)) ∧
    (¬ r_X6_isRider μ ri = 0 → ¬ r_X6_isStation μ st = 0 → ¬ μ 0 5 = 300 → gOK (sx (s_X6_keep (s_X6_goesWell μ 0) 8 ri st ((s_X6_goesWell μ 0) 0 1) n) 0 28 (r_X6_keep (s_X6_goesWell μ 0) 8 ri st ((s_X6_goesWell μ 0) 0 1) n)) (n + 1)) := by
  have mw := fun k => MI_L h (kL_w μ k)
  have hn := lt_n h
  have fx := isF_iff h.1.1 hn
  have fm := full_iff h.2.2.1 hn
  refine ⟨?_, ?_, ?_, ?_, ?_⟩
  · intro g1
    unfold s_X6_promise
    simp only [gw_eq]
    rw [if_pos (isRi_iff.mpr g1)]
    exact ⟨w00 μ 1, mw 1⟩
  · intro g1 g2
    unfold s_X6_promise
    simp only [gw_eq]
    rw [if_neg (fun z => (isRi_iff.mp z) g1), if_pos (isSt_iff.mpr g2)]
    exact ⟨w00 μ 1, mw 1⟩
  · intro g1 g2 g3
    unfold s_X6_promise
    simp only [gw_eq]
    rw [if_neg (fun z => (isRi_iff.mp z) g1), if_neg (fun z => (isSt_iff.mp z) g2), if_pos (fm.mpr (fun z => g3 (fx.mpr z)))]
    exact ⟨w00 μ 2, mw 2⟩
  · intro g1 g2 g3
    have hlt : n < 300 := fx.mp g3
    obtain ⟨t1, -, t3, t4, t5⟩ := op_tell (k := 8) (f := ri) (s := st) (s' := st) h hlt (tOK_8 g1 g2) (Or.inl rfl)
    unfold s_X6_promise r_X6_promise s_X5_promise r_X5_promise
    simp only [gw_eq]
    rw [if_neg (fun z => (isRi_iff.mp z) g1), if_neg (fun z => (isSt_iff.mp z) g2), if_neg (fun z => (fm.mp z) (fx.mp g3)), if_neg (fun z => (isRi_iff.mp z) g1), if_neg (fun z => (isSt_iff.mp z) g2), if_neg (fun z => (fm.mp z) (fx.mp g3))]
    refine ⟨hlt, t1, ?_, ?_, ?_⟩
    · split <;> exact t5
    · rw [t3]; rcases b_X6_tell (sx μ 0 0 0) 8 ri st n with q | q
      · rw [if_pos q, q]
      · rw [if_neg (by rw [q]; decide), q]
    · split <;> exact t4
  · intro q1 q2 q9
    have g1 : vp_in ri 10 := Classical.byContradiction fun z => q1 (isRi_iff.mpr z)
    have g2 : vp_in st 8 := Classical.byContradiction fun z => q2 (isSt_iff.mpr z)
    have hlt : n < 300 := Classical.byContradiction fun z => q9 (fm.mpr z)
    simp only [gw_eq]
    exact (op_tell (k := 8) (f := ri) (s := st) (s' := st) h hlt (tOK_8 g1 g2) (Or.inl rfl)).2.1
theorem itsk {σ : Sg} {v hi : Int32} {n : Nat} (hh : hi.toInt = n) : r_X6_in σ v 0 hi = 0 ↔ ¬ vp_in v (n + 1) := by
  rw [in_iff, vp_iff hh]
theorem G_main {σ μ : Sg} {n : Nat} (v : Int32) (h : MI σ μ n) : MI σ (s_X6_goThrough (sx μ 0 0 v) n) n ∧ s_X6_goThrough (sx μ 0 0 v) n 0 0 = v ∧ s_X6_goThrough (sx μ 0 0 v) n 0 1 = σ 0 5 ∧ gOK (sx μ 0 0 v) n ∧
    QQ (fX σ (s_X6_goThrough (sx μ 0 0 v) n)) (s_X6_goThrough (sx μ 0 0 v) n) (σ 3 3) ∧ IQ (fX σ (s_X6_goThrough (sx μ 0 0 v) n)) n ∧
    (∀ j, j < 8 → s_X6_goThrough (sx μ 0 0 v) n 10 j = r_X3_emptyMinutes σ (nI j) (σ 0 5)) ∧ (∀ j, j < 30 → s_X6_goThrough (sx μ 0 0 v) n 17 j = σ 19 j + r_X0_minutesGoingOn σ (nI j) (σ 0 5)) ∧
    (∀ r, r < 10 → s_X6_goThrough (sx μ 0 0 v) n 19 r = r_X5_minutesOf σ (nI r)) ∧ (∀ r, r < 10 → s_X6_goThrough (sx μ 0 0 v) n 21 r = σ 25 r + r_X5_costGoingOn σ (nI r)) := by
  have m := MI_L h (kL_w μ v)
  have k := gt_M (sx μ 0 0 v) (lt_n h)
  have g := gt_main m.1 m.2.1 m.2.2.2.1
  have m2 := MI_L m (kL_M k)
  exact ⟨m2, (k.2 0 (by decide)).trans (w00 μ v), m2.2.2.2.1.symm, MI_gok m, g⟩
theorem fx_free (σ f : Sg) (s : Int32) : r_X3_freePlaces (fX σ f) s = r_X3_freePlaces σ s := rfl
theorem fx_blocked (σ f : Sg) (s : Int32) : r_X0_isBlocked (fX σ f) s = r_X0_isBlocked σ s := by
  unfold r_X0_isBlocked
  rfl
theorem fx_prom (σ f : Sg) : r_X2_promisedStation (fX σ f) = r_X2_promisedStation σ := by
  funext r m
  unfold r_X2_promisedStation
  rfl
theorem fx_proms (σ f : Sg) (s lo mi : Int32) : r_X2_promisesAt (fX σ f) s lo mi = r_X2_promisesAt σ s lo mi := by
  unfold r_X2_promisesAt
  have e : st_X2_promisesAt_6 (fX σ f) s lo mi = st_X2_promisesAt_6 σ s lo mi := by
    funext i x
    unfold st_X2_promisesAt_6
    rw [fx_prom]
  rw [e]
theorem p_cycle {σ μ : Sg} {n : Nat} {cy its : Int32} (h : MI σ μ n) :
    (¬ vp_in cy 30 → s_X6_cycle μ cy its n 0 0 = 1 ∧ MI σ (s_X6_cycle μ cy its n) n) ∧
    (vp_in cy 30 → ¬ vp_in its 4 → s_X6_cycle μ cy its n 0 0 = 2 ∧ MI σ (s_X6_cycle μ cy its n) n) ∧
    (vp_in cy 30 → vp_in its 4 → s_X6_cycle μ cy its n 0 0 = 0 ∧ r_X5_cycle σ cy its = r_X6_cycle μ cy its n ∧ MI σ (s_X6_cycle μ cy its n) n) ∧ gOK (s_X6_goesWell μ 0) n := by
  have mw := fun k => MI_L h (kL_w μ k)
  have ik : r_X6_in μ its 0 3 = 0 ↔ ¬ vp_in its 4 := itsk (hi := 3) (n := 3) (by decide)
  obtain ⟨m2, g0, g1, gk, hq, hi, q10, q17, q19, q21⟩ := G_main 0 h
  rw [gw_eq]
  refine ⟨fun a1 => ?_, fun a1 a2 => ?_, fun a1 a2 => ?_, gk⟩
  · unfold s_X6_cycle
    simp only [gw_eq]
    rw [if_pos (isCy_iff.mpr a1)]
    exact ⟨w00 μ 1, mw 1⟩
  · unfold s_X6_cycle
    simp only [gw_eq]
    rw [if_neg (fun z => (isCy_iff.mp z) a1), if_pos (ik.mpr a2)]
    exact ⟨w00 μ 2, mw 2⟩
  · have hS : s_X6_cycle μ cy its n = s_X6_goThrough (sx μ 0 0 0) n := by
      unfold s_X6_cycle
      simp only [gw_eq]
      rw [if_neg (fun z => (isCy_iff.mp z) a1), if_neg (fun z => (ik.mp z) a2)]
      repeat' split
      all_goals rfl
    rw [hS]
    refine ⟨g0, ?_, m2⟩
    unfold r_X5_cycle r_X6_cycle
    simp only [gw_eq]
    rw [if_neg (fun z => (isCy_iff.mp z) a1), if_neg (fun z => (ik.mp z) a2)]
    obtain ⟨c, hc, rfl⟩ := vp_in_of a1 (by decide)
    obtain ⟨j, hj, rfl⟩ := vp_in_of a2 (by decide)
    have ec : (nI c).toNatClampNeg = c := nI_clamp (by omega)
    have hb := q_blocked hq hi hc
    rw [fx_blocked] at hb
    rw [ec, q17 c hc, ← hb]
    have e16 : σ 16 c = s_X6_goThrough (sx μ 0 0 0) n 11 c := hq.2.2.2.2.1 c hc
    have e17 : σ 17 c = s_X6_goThrough (sx μ 0 0 0) n 12 c := hq.2.2.2.2.2.1 c hc
    rw [e16, e17]
    have : j = 0 ∨ j = 1 ∨ j = 2 ∨ j = 3 := by omega
    rcases this with rfl | rfl | rfl | rfl <;> simp (decide := true) only [if_true, if_false]
theorem p_station {σ μ : Sg} {n : Nat} {st its : Int32} (h : MI σ μ n) :
    (¬ vp_in st 8 → s_X6_station μ st its n 0 0 = 1 ∧ MI σ (s_X6_station μ st its n) n) ∧
    (vp_in st 8 → ¬ vp_in its 5 → s_X6_station μ st its n 0 0 = 2 ∧ MI σ (s_X6_station μ st its n) n) ∧
    (vp_in st 8 → vp_in its 5 → s_X6_station μ st its n 0 0 = 0 ∧ r_X5_station σ st its = r_X6_station μ st its n ∧ MI σ (s_X6_station μ st its n) n) ∧ gOK (s_X6_goesWell μ 0) n := by
  have mw := fun k => MI_L h (kL_w μ k)
  have ik : r_X6_in μ its 0 4 = 0 ↔ ¬ vp_in its 5 := itsk (hi := 4) (n := 4) (by decide)
  obtain ⟨m2, g0, g1, gk, hq, hi, q10, q17, q19, q21⟩ := G_main 0 h
  rw [gw_eq]
  refine ⟨fun a1 => ?_, fun a1 a2 => ?_, fun a1 a2 => ?_, gk⟩
  · unfold s_X6_station
    simp only [gw_eq]
    rw [if_pos (isSt_iff.mpr a1)]
    exact ⟨w00 μ 1, mw 1⟩
  · unfold s_X6_station
    simp only [gw_eq]
    rw [if_neg (fun z => (isSt_iff.mp z) a1), if_pos (ik.mpr a2)]
    exact ⟨w00 μ 2, mw 2⟩
  · have hS : s_X6_station μ st its n = s_X6_goThrough (sx μ 0 0 0) n := by
      unfold s_X6_station
      simp only [gw_eq]
      rw [if_neg (fun z => (isSt_iff.mp z) a1), if_neg (fun z => (ik.mp z) a2)]
      repeat' split
      all_goals rfl
    rw [hS]
    refine ⟨g0, ?_, m2⟩
    unfold r_X5_station r_X6_station
    simp only [gw_eq]
    rw [if_neg (fun z => (isSt_iff.mp z) a1), if_neg (fun z => (ik.mp z) a2)]
    obtain ⟨c, hc, rfl⟩ := vp_in_of a1 (by decide)
    obtain ⟨j, hj, rfl⟩ := vp_in_of a2 (by decide)
    have ec : (nI c).toNatClampNeg = c := nI_clamp (by omega)
    have hf := (q_free hq hi (by have := lt_n h; omega) hc).1
    have hp := q_promises (mi := σ 0 5) (lo := -1) hq hi hc
    rw [fx_free] at hf
    rw [fx_proms] at hp
    have e13 : σ 13 c = s_X6_goThrough (sx μ 0 0 0) n 8 c := hq.1 c hc
    have e14 : σ 14 c = s_X6_goThrough (sx μ 0 0 0) n 9 c := hq.2.1 c hc
    rw [ec, q10 c hc, hf, hp, g1, e13, e14]
    have : j = 0 ∨ j = 1 ∨ j = 2 ∨ j = 3 ∨ j = 4 := by omega
    rcases this with rfl | rfl | rfl | rfl | rfl <;> simp (decide := true) only [if_true, if_false]
theorem p_rider {σ μ : Sg} {n : Nat} {ri its : Int32} (h : MI σ μ n) :
    (¬ vp_in ri 10 → s_X6_rider μ ri its n 0 0 = 1 ∧ MI σ (s_X6_rider μ ri its n) n) ∧
    (vp_in ri 10 → ¬ vp_in its 5 → s_X6_rider μ ri its n 0 0 = 2 ∧ MI σ (s_X6_rider μ ri its n) n) ∧
    (vp_in ri 10 → vp_in its 5 → s_X6_rider μ ri its n 0 0 = 0 ∧ r_X5_rider σ ri its = r_X6_rider μ ri its n ∧ MI σ (s_X6_rider μ ri its n) n) ∧ gOK (s_X6_goesWell μ 0) n := by
  have mw := fun k => MI_L h (kL_w μ k)
  have ik : r_X6_in μ its 0 4 = 0 ↔ ¬ vp_in its 5 := itsk (hi := 4) (n := 4) (by decide)
  obtain ⟨m2, g0, g1, gk, hq, hi, q10, q17, q19, q21⟩ := G_main 0 h
  rw [gw_eq]
  refine ⟨fun a1 => ?_, fun a1 a2 => ?_, fun a1 a2 => ?_, gk⟩
  · unfold s_X6_rider
    simp only [gw_eq]
    rw [if_pos (isRi_iff.mpr a1)]
    exact ⟨w00 μ 1, mw 1⟩
  · unfold s_X6_rider
    simp only [gw_eq]
    rw [if_neg (fun z => (isRi_iff.mp z) a1), if_pos (ik.mpr a2)]
    exact ⟨w00 μ 2, mw 2⟩
  · have hS : s_X6_rider μ ri its n = s_X6_goThrough (sx μ 0 0 0) n := by
      unfold s_X6_rider
      simp only [gw_eq]
      rw [if_neg (fun z => (isRi_iff.mp z) a1), if_neg (fun z => (ik.mp z) a2)]
      repeat' split
      all_goals rfl
    rw [hS]
    refine ⟨g0, ?_, m2⟩
    unfold r_X5_rider r_X6_rider
    simp only [gw_eq]
    rw [if_neg (fun z => (isRi_iff.mp z) a1), if_neg (fun z => (ik.mp z) a2)]
    obtain ⟨c, hc, rfl⟩ := vp_in_of a1 (by decide)
    obtain ⟨j, hj, rfl⟩ := vp_in_of a2 (by decide)
    have ec : (nI c).toNatClampNeg = c := nI_clamp (by omega)
    have e23 : σ 23 c = s_X6_goThrough (sx μ 0 0 0) n 18 c := hq.2.2.2.2.2.2.2.2.2.2.2.1 c hc
    have e26 : σ 26 c = s_X6_goThrough (sx μ 0 0 0) n 20 c := hq.2.2.2.2.2.2.2.2.2.2.2.2.2.2.1 c hc
    have e27 : σ 27 c = s_X6_goThrough (sx μ 0 0 0) n 22 c := hq.2.2.2.2.2.2.2.2.2.2.2.2.2.2.2.1 c hc
    have e28 : ¬ σ 27 c = -1 → σ 28 c = s_X6_goThrough (sx μ 0 0 0) n 23 c := hq.2.2.2.2.2.2.2.2.2.2.2.2.2.2.2.2.1 c hc
    have ep : r_X2_promisedStation σ (nI c) (σ 0 5) = if 15 ≤ σ 0 5 - σ 28 c then -1 else σ 27 c := by unfold r_X2_promisedStation; rw [ec]
    rw [ec, ep, q19 c hc, q21 c hc, g1, ← e23, ← e26, ← e27]
    have hj5 : j = 0 ∨ j = 1 ∨ j = 2 ∨ j = 3 ∨ j = 4 := by omega
    by_cases hm : σ 27 c = -1
    · rw [if_pos hm, hm]
      rcases hj5 with rfl | rfl | rfl | rfl | rfl <;> simp (decide := true) only [if_true, if_false, ite_self]
    · rw [if_neg hm, ← e28 hm]
      by_cases hl : 15 ≤ σ 0 5 - σ 28 c
      · rw [if_pos hl, if_pos hl]
        rcases hj5 with rfl | rfl | rfl | rfl | rfl <;> simp (decide := true) only [if_true, if_false]
      · rw [if_neg hl, if_neg hl]
        rcases hj5 with rfl | rfl | rfl | rfl | rfl <;> simp (decide := true) only [if_true, if_false]
theorem p_odd {σ μ : Sg} {n : Nat} (h : MI σ μ n) : gOK (sx μ 0 0 0) n ∧ r_X5_odd σ = r_X6_odd μ n ∧ MI σ (s_X6_odd μ n) n := by
  obtain ⟨m2, g0, g1, gk, hq, hi, q10, q17, q19, q21⟩ := G_main 0 h
  refine ⟨gk, ?_, m2⟩
  unfold r_X5_odd r_X6_odd
  exact hq.2.2.2.2.2.2.2.2.2.2.2.2.2.2.2.2.2.2
theorem p_agrees {σ μ : Sg} {n : Nat} (h : MI σ μ n) : r_X5_agrees σ = r_X6_agrees μ ∧ MI σ (s_X6_agrees μ) n := by
  refine ⟨?_, MI_L h (kL_w μ 0)⟩
  unfold r_X6_agrees
  exact agree h.1.2.2.2.2.2.1 h.1.2.2.2.2.2.2.1
theorem p_plan {σ μ : Sg} {n : Nat} (h : MI σ μ n) : gOK (sx μ 0 0 0) n ∧ r_X5_plan σ = r_X6_plan μ n ∧ MI σ (s_X6_plan μ n) n := by
  obtain ⟨m2, g0, g1, gk, hq, hi, q10, q17, q19, q21⟩ := G_main 0 h
  have key : ∀ i, i ≤ 8 → itn (st_X5_plan_12 σ) i ((-1), (-1), 0, 0) = itn (st_X6_plan_21 μ n) i ((-1), (-1), 0, 0) := by
    intro i
    induction i with
    | zero => intro _; exact (itn0 _ _).symm.trans (itn0 _ _)
    | succ i ih =>
      intro hi8
      rw [itn_s, itn_s, ih (by omega)]
      generalize itn (st_X6_plan_21 μ n) i ((-1), (-1), 0, 0) = t
      obtain ⟨t1, t2, t3, t4⟩ := t
      have ec : (nI i).toNatClampNeg = i := nI_clamp (by omega)
      have e13 : σ 13 i = s_X6_goThrough (sx μ 0 0 0) n 8 i := hq.1 i (by omega)
      have e14 : σ 14 i = s_X6_goThrough (sx μ 0 0 0) n 9 i := hq.2.1 i (by omega)
      unfold st_X5_plan_12 st_X6_plan_21
      dsimp only
      rw [ec, e13, e14]
  refine ⟨gk, ?_, ?_⟩
  · unfold r_X5_plan r_X6_plan
    rw [key 8 (Nat.le_refl _)]
  · unfold s_X6_plan
    repeat' split
    all_goals exact m2
/-- the ways -/
theorem way_eq {σ μ : Sg} (hg : ∀ j, j < 8 → σ 10 j = μ 1 j ∧ σ 11 j = μ 2 j ∧ σ 12 j = μ 3 j) (gr : GRM μ) {st ot : Int32} (h1 : vp_in st 8) (h2 : vp_in ot 8) : r_X1_wayBetween σ st ot = r_X6_wayOf μ st ot := by
  obtain ⟨i, hi, rfl⟩ := vp_in_of h1 (by decide)
  obtain ⟨j, hj, rfl⟩ := vp_in_of h2 (by decide)
  have ei : (nI i).toNatClampNeg = i := nI_clamp (by omega)
  have ej : (nI j).toNatClampNeg = j := nI_clamp (by omega)
  obtain ⟨a1, a2, a3⟩ := hg i hi
  obtain ⟨b1, b2, b3⟩ := hg j hj
  obtain ⟨x1, y1, z1, hx1, hy1, hz1, f1, f2, f3⟩ := gr i hi
  obtain ⟨x2, y2, z2, hx2, hy2, hz2, k1, k2, k3⟩ := gr j hj
  unfold r_X1_wayBetween r_X6_wayOf r_X1_nearestRoot r_X6_root
  rw [ei, ej, a1, a2, a3, b1, b2, b3]
  have es : ∀ x y : Int32, (x - y) * (x - y) = (y - x) * (y - x) := by intro x y; grind
  rw [es (μ 1 j) (μ 1 i), es (μ 2 j) (μ 2 i)]
  have ed : (μ 3 j - μ 3 i).toInt = (z2 : Int) - z1 := by rw [k3, f3]; exact df_int hz2 hz1
  have e3 : (μ 3 j).toInt = z2 := by rw [k3]; exact nI_toInt (by omega)
  have e4 : (μ 3 i).toInt = z1 := by rw [f3]; exact nI_toInt (by omega)
  by_cases hc : μ 3 j ≤ μ 3 i
  · have q := Int32.le_iff_toInt_le.mp hc
    rw [e3, e4] at q
    have nq : ¬ (0 : Int32) < μ 3 j - μ 3 i := fun z => by
      have w := Int32.lt_iff_toInt_lt.mp z
      rw [zI, ed] at w
      omega
    rw [if_pos hc, if_neg nq]
  · have q : ¬ (μ 3 j).toInt ≤ (μ 3 i).toInt := fun z => hc (Int32.le_iff_toInt_le.mpr z)
    rw [e3, e4] at q
    have nq : (0 : Int32) < μ 3 j - μ 3 i := Int32.lt_iff_toInt_lt.mpr (by rw [zI, ed]; omega)
    rw [if_neg hc, if_pos nq]
theorem p_way {σ μ : Sg} {n : Nat} {st ot : Int32} (h : MI σ μ n) :
    (¬ vp_in st 8 → s_X6_way μ st ot 0 0 = 1 ∧ MI σ (s_X6_way μ st ot) n) ∧ (vp_in st 8 → ¬ vp_in ot 8 → s_X6_way μ st ot 0 0 = 1 ∧ MI σ (s_X6_way μ st ot) n) ∧
    (vp_in st 8 → vp_in ot 8 → s_X6_way μ st ot 0 0 = 0 ∧ r_X5_way σ st ot = r_X6_way μ st ot ∧ MI σ (s_X6_way μ st ot) n) ∧ GRM (s_X6_goesWell μ 0) := by
  have mw := fun k => MI_L h (kL_w μ k)
  refine ⟨fun a1 => ?_, fun a1 a2 => ?_, fun a1 a2 => ?_, by rw [gw_eq]; exact GRM_L h.2.2.2.2.2.1 (kL_w μ 0)⟩
  · unfold s_X6_way
    simp only [gw_eq]
    rw [if_pos (isSt_iff.mpr a1)]
    exact ⟨w00 μ 1, mw 1⟩
  · unfold s_X6_way
    simp only [gw_eq]
    rw [if_neg (fun z => (isSt_iff.mp z) a1), if_pos (isSt_iff.mpr a2)]
    exact ⟨w00 μ 1, mw 1⟩
  · unfold s_X6_way r_X6_way r_X5_way
    simp only [gw_eq]
    rw [if_neg (fun z => (isSt_iff.mp z) a1), if_neg (fun z => (isSt_iff.mp z) a2), if_neg (fun z => (isSt_iff.mp z) a1), if_neg (fun z => (isSt_iff.mp z) a2), way_eq (mw 0).2.2.2.2.1 (mw 0).2.2.2.2.2.1 a1 a2]
    exact ⟨w00 μ 0, rfl, mw 0⟩
theorem p_nearest {σ μ : Sg} {n : Nat} {st : Int32} (h : MI σ μ n) :
    (¬ vp_in st 8 → s_X6_nearest μ st n 0 0 = 1 ∧ MI σ (s_X6_nearest μ st n) n) ∧
    (vp_in st 8 → s_X6_nearest μ st n 0 0 = 0 ∧ r_X5_nearest σ st = r_X6_nearest μ st n ∧ MI σ (s_X6_nearest μ st n) n) ∧ gOK (s_X6_goesWell μ 0) n ∧ GRM (s_X6_goThrough (s_X6_goesWell μ 0) n) := by
  have mw := fun k => MI_L h (kL_w μ k)
  obtain ⟨m2, g0, g1, gk, hq, hi, q10, q17, q19, q21⟩ := G_main 0 h
  refine ⟨fun a1 => ?_, fun a1 => ?_, by rw [gw_eq]; exact gk, by rw [gw_eq]; exact m2.2.2.2.2.2.1⟩
  · unfold s_X6_nearest
    simp only [gw_eq]
    rw [if_pos (isSt_iff.mpr a1)]
    exact ⟨w00 μ 1, mw 1⟩
  · have key : ∀ i, i ≤ 8 → (itn (st_X5_nearest_11 σ st) i ((-1), FP.dconst0)).1 = itn (st_X6_nearest_29 μ st n) i (-1) ∧ (¬ itn (st_X6_nearest_29 μ st n) i (-1) = -1 → vp_in (itn (st_X6_nearest_29 μ st n) i (-1)) 8 ∧ (itn (st_X5_nearest_11 σ st) i ((-1), FP.dconst0)).2 = r_X6_wayOf (s_X6_goThrough (sx μ 0 0 0) n) st (itn (st_X6_nearest_29 μ st n) i (-1))) := by
      intro i
      induction i with
      | zero => intro _; exact ⟨rfl, fun z => absurd rfl z⟩
      | succ i ih =>
        intro hi8
        have ih := ih (by omega)
        rw [itn_s, itn_s]
        generalize itn (st_X6_nearest_29 μ st n) i (-1) = b at ih ⊢
        generalize itn (st_X5_nearest_11 σ st) i ((-1), FP.dconst0) = t at ih ⊢
        obtain ⟨t1, t2⟩ := t
        obtain ⟨i1, i2⟩ := ih
        dsimp only at i1 i2
        subst i1
        have hv : vp_in (nI i) 8 := vp_in_nI (by omega) (by decide)
        have hw := way_eq m2.2.2.2.2.1 m2.2.2.2.2.2.1 a1 hv
        have hf := q_free hq hi (by have := lt_n h; omega) (show i < 8 by omega)
        rw [fx_free] at hf
        unfold st_X5_nearest_11 st_X6_nearest_29
        dsimp only
        simp only [gw_eq]
        by_cases e1 : nI i = st
        · rw [if_pos e1, if_pos e1]; exact ⟨rfl, i2⟩
        · rw [if_neg e1, if_neg e1]
          by_cases e2 : r_X6_free (s_X6_goThrough (sx μ 0 0 0) n) (nI i) ≤ 0
          · have e3 : r_X3_freePlaces σ (nI i) = 0 := by rw [hf.1]; exact Int32.le_antisymm e2 hf.2
            rw [if_pos e2, if_pos e3]; exact ⟨rfl, i2⟩
          · have e3 : ¬ r_X3_freePlaces σ (nI i) = 0 := fun z => e2 (by rw [← hf.1, z]; decide)
            rw [if_neg e2, if_neg e3]
            by_cases e4 : t1 = -1
            · rw [if_pos e4, if_pos e4]; exact ⟨rfl, fun _ => ⟨hv, hw⟩⟩
            · rw [if_neg e4, if_neg e4, hw, (i2 e4).2]
              by_cases e5 : 0 ≤ Op.cmpValue (FP.dcmp (r_X6_wayOf (s_X6_goThrough (sx μ 0 0 0) n) st (nI i)) (r_X6_wayOf (s_X6_goThrough (sx μ 0 0 0) n) st t1)) .g
              · rw [if_pos e5, if_pos e5]; exact ⟨rfl, fun _ => ⟨(i2 e4).1, by with_reducible rfl⟩⟩
              · rw [if_neg e5, if_neg e5]; exact ⟨rfl, fun _ => ⟨hv, by with_reducible rfl⟩⟩
    unfold s_X6_nearest r_X6_nearest r_X5_nearest
    simp only [gw_eq]
    rw [if_neg (fun z => (isSt_iff.mp z) a1), if_neg (fun z => (isSt_iff.mp z) a1)]
    exact ⟨g0, (key 8 (Nat.le_refl _)).1, m2⟩
set_option maxHeartbeats 4000000 in
set_option maxRecDepth 100000 in
theorem cg_X6_put (l : Launch) (D : va_G) (cI : ClassId) (a : Nat → Nat) (sz : Nat) (σ : Sg) (cy : Int32) (st : Int32) (n : Nat) (hn : n ≤ 300) (hcn : σ 0 5 = nI n) (hg : ¬ r_X6_isCycle σ cy = 0 → ¬ r_X6_isStation σ st = 0 → ¬ σ 0 5 = 300 → gOK (sx (s_X6_keep (s_X6_goesWell σ 0) 1 cy st ((s_X6_goesWell σ 0) 0 1) n) 0 28 (r_X6_keep (s_X6_goesWell σ 0) 1 cy st ((s_X6_goesWell σ 0) 0 1) n)) (n + 1)) : Met l yX6_put wsX6_put ({ frames := 6, cells := 0, slots := 0, locals := 144 }) (PcW D cI 24 a (wM cI a) sz σ [.ref (a 0), .int cy, .int st]) (QiW D 24 a (wM cI a) sz (r_X6_put σ cy st n) (s_X6_put σ cy st n)) 0 0 (AX 24 a sz) := by
  refine x_of (cc := cX6_put) (maxL := 4) (ret := some .boolean) (C := RX6) rfl (by decide) rfl (Nat.le_of_ble_eq_true rfl) (fun p e s m below meth c hx hb hr hml hlk hts hown hsz H hP hS hG ls hl => ?_)
  have hl : lv_has ls 4 [(0, .ref (a 0)), (1, .int cy), (2, .int st)] := hl
  refine lv_iload_n hx hb dX6_put_0 rfl (lv_at hl 1 rfl) ?_
  refine x_callSi (w := wM cI a) (σ := σ) (σ' := σ) (As := [.int cy]) (rest := []) ⟨hx, hb, hml, hown, hts⟩ hG hP hS hsz (c_X6_isCycle l D cI a H.size σ cy) (va_cwS 1 hts gX6_put_X6_isCycle rfl rfl rfl (by decide +kernel) ⟨Nat.le_of_ble_eq_true rfl, Nat.le_of_ble_eq_true rfl⟩) rfl hl.1 rfl (Nat.le_of_ble_eq_true rfl) ⟨Nat.zero_le _, Nat.zero_le _⟩ dX6_put_1 (fun H locs hP hS => ?_)
  refine lv_if_eq (tgt := 18) hx hb dX6_put_4 (by decide) (fun h_1 => ?_) (fun h_1 => ?_)
  · refine lv_iconst (v := 0) hx hb dX6_put_18 (by decide) ?_
    refine lv_istore_n (lv' := [(3, .int 0), (0, .ref (a 0)), (1, .int cy), (2, .int st)]) hx hb dX6_put_19 rfl hl (by decide) rfl (fun ls hl => ?_)
    refine lv_aload_n hx hb dX6_put_20 rfl (lv_at hl 1 rfl) ?_
    refine lv_iload_n hx hb dX6_put_21 rfl (lv_at hl 0 rfl) ?_
    refine lv_if_ne (tgt := 29) hx hb dX6_put_22 (by decide) (fun h => absurd (by decide) h) (fun _ => ?_)
    refine lv_iconst (v := 1) hx hb dX6_put_25 (by decide) ?_
    refine lv_goto (tgt := 44) hx hb dX6_put_26 (by decide) ?_
    refine x_callVi (w := wM cI a) (σ := σ) (σ' := s_X6_goesWell σ 1) (As := [.int 1]) (rest := []) (q0 := 0) ⟨hx, hb, hml, hown, hts⟩ hG hP hS hsz (c_X6_goesWell l D cI a H.size σ 1) (cwV 1 hts gX6_put_X6_goesWell rfl rfl rfl (by decide +kernel) ⟨Nat.le_of_ble_eq_true rfl, Nat.le_of_ble_eq_true rfl⟩) rfl rfl rfl rfl hl.1 rfl (Nat.le_of_ble_eq_true rfl) ⟨Nat.zero_le _, Nat.zero_le _⟩ dX6_put_44 (fun H locs hP hS => ?_)
    refine W.eq (g2 := F0 m 47 ls [.int 0]) rfl ?_
    refine lv_if_eq (tgt := 64) hx hb dX6_put_47 (by decide) (fun _ => ?_) (fun h => absurd (by decide) h)
    refine lv_iconst (v := 0) hx hb dX6_put_64 (by decide) ?_
    exact x_iret hx hb hr hlk hsz hP hS rfl (by rw [r_X6_put, if_pos h_1]) (by rw [s_X6_put, if_pos h_1]) dX6_put_65
  · refine lv_iload_n hx hb dX6_put_7 rfl (lv_at hl 2 rfl) ?_
    refine x_callSi (w := wM cI a) (σ := σ) (σ' := σ) (As := [.int st]) (rest := []) ⟨hx, hb, hml, hown, hts⟩ hG hP hS hsz (c_X6_isStation l D cI a H.size σ st) (va_cwS 1 hts gX6_put_X6_isStation rfl rfl rfl (by decide +kernel) ⟨Nat.le_of_ble_eq_true rfl, Nat.le_of_ble_eq_true rfl⟩) rfl hl.1 rfl (Nat.le_of_ble_eq_true rfl) ⟨Nat.zero_le _, Nat.zero_le _⟩ dX6_put_8 (fun H locs hP hS => ?_)
    refine lv_if_eq (tgt := 18) hx hb dX6_put_11 (by decide) (fun h_2 => ?_) (fun h_2 => ?_)
    · refine lv_iconst (v := 0) hx hb dX6_put_18 (by decide) ?_
      refine lv_istore_n (lv' := [(3, .int 0), (0, .ref (a 0)), (1, .int cy), (2, .int st)]) hx hb dX6_put_19 rfl hl (by decide) rfl (fun ls hl => ?_)
      refine lv_aload_n hx hb dX6_put_20 rfl (lv_at hl 1 rfl) ?_
      refine lv_iload_n hx hb dX6_put_21 rfl (lv_at hl 0 rfl) ?_
      refine lv_if_ne (tgt := 29) hx hb dX6_put_22 (by decide) (fun h => absurd (by decide) h) (fun _ => ?_)
      refine lv_iconst (v := 1) hx hb dX6_put_25 (by decide) ?_
      refine lv_goto (tgt := 44) hx hb dX6_put_26 (by decide) ?_
      refine x_callVi (w := wM cI a) (σ := σ) (σ' := s_X6_goesWell σ 1) (As := [.int 1]) (rest := []) (q0 := 0) ⟨hx, hb, hml, hown, hts⟩ hG hP hS hsz (c_X6_goesWell l D cI a H.size σ 1) (cwV 1 hts gX6_put_X6_goesWell rfl rfl rfl (by decide +kernel) ⟨Nat.le_of_ble_eq_true rfl, Nat.le_of_ble_eq_true rfl⟩) rfl rfl rfl rfl hl.1 rfl (Nat.le_of_ble_eq_true rfl) ⟨Nat.zero_le _, Nat.zero_le _⟩ dX6_put_44 (fun H locs hP hS => ?_)
      refine W.eq (g2 := F0 m 47 ls [.int 0]) rfl ?_
      refine lv_if_eq (tgt := 64) hx hb dX6_put_47 (by decide) (fun _ => ?_) (fun h => absurd (by decide) h)
      refine lv_iconst (v := 0) hx hb dX6_put_64 (by decide) ?_
      exact x_iret hx hb hr hlk hsz hP hS rfl (by rw [r_X6_put, if_neg h_1, if_pos h_2]) (by rw [s_X6_put, if_neg h_1, if_pos h_2]) dX6_put_65
    · refine lv_iconst (v := 1) hx hb dX6_put_14 (by decide) ?_
      refine lv_goto (tgt := 19) hx hb dX6_put_15 (by decide) ?_
      refine lv_istore_n (lv' := [(3, .int 1), (0, .ref (a 0)), (1, .int cy), (2, .int st)]) hx hb dX6_put_19 rfl hl (by decide) rfl (fun ls hl => ?_)
      refine lv_aload_n hx hb dX6_put_20 rfl (lv_at hl 1 rfl) ?_
      refine lv_iload_n hx hb dX6_put_21 rfl (lv_at hl 0 rfl) ?_
      refine lv_if_ne (tgt := 29) hx hb dX6_put_22 (by decide) (fun _ => ?_) (fun h => absurd h (by decide))
      refine lv_aload_n hx hb dX6_put_29 rfl (lv_at hl 1 rfl) ?_
      refine x_get (ci := 6) (C := RX6) (T := TX6) (M := 29) (v := .int (σ 0 5)) hx hb hts in_X6_put_6 hown hG hP 0 rfl rfl 5 (by decide) (List.mem_of_getElem? (i := 1) rfl) rfl rfl dX6_put_30 ?_
      refine lv_sipush (v := 300) hx hb dX6_put_33 (by decide) ?_
      refine lv_icmp_ne (tgt := 43) hx hb dX6_put_36 (by decide) (fun h_3 => ?_) (fun h_3 => ?_)
      · refine lv_iconst (v := 0) hx hb dX6_put_43 (by decide) ?_
        refine x_callVi (w := wM cI a) (σ := σ) (σ' := s_X6_goesWell σ 0) (As := [.int 0]) (rest := []) (q0 := 0) ⟨hx, hb, hml, hown, hts⟩ hG hP hS hsz (c_X6_goesWell l D cI a H.size σ 0) (cwV 1 hts gX6_put_X6_goesWell rfl rfl rfl (by decide +kernel) ⟨Nat.le_of_ble_eq_true rfl, Nat.le_of_ble_eq_true rfl⟩) rfl rfl rfl rfl hl.1 rfl (Nat.le_of_ble_eq_true rfl) ⟨Nat.zero_le _, Nat.zero_le _⟩ dX6_put_44 (fun H locs hP hS => ?_)
        refine W.eq (g2 := F0 m 47 ls [.int 1]) rfl ?_
        refine lv_if_eq (tgt := 64) hx hb dX6_put_47 (by decide) (fun h => absurd h (by decide)) (fun _ => ?_)
        refine lv_aload_n hx hb dX6_put_50 rfl (lv_at hl 1 rfl) ?_
        refine lv_iconst (v := 1) hx hb dX6_put_51 (by decide) ?_
        refine lv_iload_n hx hb dX6_put_52 rfl (lv_at hl 2 rfl) ?_
        refine lv_iload_n hx hb dX6_put_53 rfl (lv_at hl 3 rfl) ?_
        refine x_callVi (w := wM cI a) (σ := s_X6_goesWell σ 0) (σ' := s_X6_tell (s_X6_goesWell σ 0) 1 cy st n) (As := [.int 1, .int cy, .int st]) (rest := []) (q0 := 0) ⟨hx, hb, hml, hown, hts⟩ hG hP hS hsz (c_X6_tell l D cI a H.size (s_X6_goesWell σ 0) 1 cy st n (lt300 hcn hn h_3) hcn (hg h_1 h_2 h_3)) (cwV 3 hts gX6_put_X6_tell rfl rfl rfl (by decide +kernel) ⟨Nat.le_of_ble_eq_true rfl, Nat.le_of_ble_eq_true rfl⟩) rfl rfl rfl rfl hl.1 rfl (Nat.le_of_ble_eq_true rfl) ⟨Nat.zero_le _, Nat.zero_le _⟩ dX6_put_54 (fun H locs hP hS => ?_)
        refine lv_if_eq (tgt := 64) hx hb dX6_put_57 (by decide) (fun h_4 => ?_) (fun h_4 => ?_)
        · refine lv_iconst (v := 0) hx hb dX6_put_64 (by decide) ?_
          exact x_iret hx hb hr hlk hsz hP hS rfl (by rw [r_X6_put, if_neg h_1, if_neg h_2, if_neg h_3, if_pos h_4]) (by rw [s_X6_put, if_neg h_1, if_neg h_2, if_neg h_3, if_pos h_4]) dX6_put_65
        · refine lv_iconst (v := 1) hx hb dX6_put_60 (by decide) ?_
          refine lv_goto (tgt := 65) hx hb dX6_put_61 (by decide) ?_
          exact x_iret hx hb hr hlk hsz hP hS rfl (by rw [r_X6_put, if_neg h_1, if_neg h_2, if_neg h_3, if_neg h_4]) (by rw [s_X6_put, if_neg h_1, if_neg h_2, if_neg h_3, if_neg h_4]) dX6_put_65
      · refine lv_iconst (v := 2) hx hb dX6_put_39 (by decide) ?_
        refine lv_goto (tgt := 44) hx hb dX6_put_40 (by decide) ?_
        refine x_callVi (w := wM cI a) (σ := σ) (σ' := s_X6_goesWell σ 2) (As := [.int 2]) (rest := []) (q0 := 0) ⟨hx, hb, hml, hown, hts⟩ hG hP hS hsz (c_X6_goesWell l D cI a H.size σ 2) (cwV 1 hts gX6_put_X6_goesWell rfl rfl rfl (by decide +kernel) ⟨Nat.le_of_ble_eq_true rfl, Nat.le_of_ble_eq_true rfl⟩) rfl rfl rfl rfl hl.1 rfl (Nat.le_of_ble_eq_true rfl) ⟨Nat.zero_le _, Nat.zero_le _⟩ dX6_put_44 (fun H locs hP hS => ?_)
        refine W.eq (g2 := F0 m 47 ls [.int 0]) rfl ?_
        refine lv_if_eq (tgt := 64) hx hb dX6_put_47 (by decide) (fun _ => ?_) (fun h => absurd (by decide) h)
        refine lv_iconst (v := 0) hx hb dX6_put_64 (by decide) ?_
        exact x_iret hx hb hr hlk hsz hP hS rfl (by rw [r_X6_put, if_neg h_1, if_neg h_2, if_pos h_3]) (by rw [s_X6_put, if_neg h_1, if_neg h_2, if_pos h_3]) dX6_put_65
set_option maxHeartbeats 4000000 in
set_option maxRecDepth 100000 in
theorem cg_X6_take (l : Launch) (D : va_G) (cI : ClassId) (a : Nat → Nat) (sz : Nat) (σ : Sg) (cy : Int32) (n : Nat) (hn : n ≤ 300) (hcn : σ 0 5 = nI n) (hg : ¬ r_X6_isCycle σ cy = 0 → ¬ σ 0 5 = 300 → gOK (sx (s_X6_keep (s_X6_goesWell σ 0) 2 cy 0 ((s_X6_goesWell σ 0) 0 1) n) 0 28 (r_X6_keep (s_X6_goesWell σ 0) 2 cy 0 ((s_X6_goesWell σ 0) 0 1) n)) (n + 1)) : Met l yX6_take wsX6_take ({ frames := 6, cells := 0, slots := 0, locals := 144 }) (PcW D cI 24 a (wM cI a) sz σ [.ref (a 0), .int cy]) (QiW D 24 a (wM cI a) sz (r_X6_take σ cy n) (s_X6_take σ cy n)) 0 0 (AX 24 a sz) := by
  refine x_of (cc := cX6_take) (maxL := 2) (ret := some .boolean) (C := RX6) rfl (by decide) rfl (Nat.le_of_ble_eq_true rfl) (fun p e s m below meth c hx hb hr hml hlk hts hown hsz H hP hS hG ls hl => ?_)
  have hl : lv_has ls 2 [(0, .ref (a 0)), (1, .int cy)] := hl
  refine lv_aload_n hx hb dX6_take_0 rfl (lv_at hl 0 rfl) ?_
  refine lv_iload_n hx hb dX6_take_1 rfl (lv_at hl 1 rfl) ?_
  refine x_callSi (w := wM cI a) (σ := σ) (σ' := σ) (As := [.int cy]) (rest := [.ref (a 0)]) ⟨hx, hb, hml, hown, hts⟩ hG hP hS hsz (c_X6_isCycle l D cI a H.size σ cy) (va_cwS 1 hts gX6_take_X6_isCycle rfl rfl rfl (by decide +kernel) ⟨Nat.le_of_ble_eq_true rfl, Nat.le_of_ble_eq_true rfl⟩) rfl hl.1 rfl (Nat.le_of_ble_eq_true rfl) ⟨Nat.zero_le _, Nat.zero_le _⟩ dX6_take_2 (fun H locs hP hS => ?_)
  refine lv_if_ne (tgt := 12) hx hb dX6_take_5 (by decide) (fun h_1 => ?_) (fun h_1 => ?_)
  · refine lv_aload_n hx hb dX6_take_12 rfl (lv_at hl 0 rfl) ?_
    refine x_get (ci := 6) (C := RX6) (T := TX6) (M := 29) (v := .int (σ 0 5)) hx hb hts in_X6_take_6 hown hG hP 0 rfl rfl 5 (by decide) (List.mem_of_getElem? (i := 1) rfl) rfl rfl dX6_take_13 ?_
    refine lv_sipush (v := 300) hx hb dX6_take_16 (by decide) ?_
    refine lv_icmp_ne (tgt := 26) hx hb dX6_take_19 (by decide) (fun h_2 => ?_) (fun h_2 => ?_)
    · refine lv_iconst (v := 0) hx hb dX6_take_26 (by decide) ?_
      refine x_callVi (w := wM cI a) (σ := σ) (σ' := s_X6_goesWell σ 0) (As := [.int 0]) (rest := []) (q0 := 0) ⟨hx, hb, hml, hown, hts⟩ hG hP hS hsz (c_X6_goesWell l D cI a H.size σ 0) (cwV 1 hts gX6_take_X6_goesWell rfl rfl rfl (by decide +kernel) ⟨Nat.le_of_ble_eq_true rfl, Nat.le_of_ble_eq_true rfl⟩) rfl rfl rfl rfl hl.1 rfl (Nat.le_of_ble_eq_true rfl) ⟨Nat.zero_le _, Nat.zero_le _⟩ dX6_take_27 (fun H locs hP hS => ?_)
      refine W.eq (g2 := F0 m 30 ls [.int 1]) rfl ?_
      refine lv_if_eq (tgt := 47) hx hb dX6_take_30 (by decide) (fun h => absurd h (by decide)) (fun _ => ?_)
      refine lv_aload_n hx hb dX6_take_33 rfl (lv_at hl 0 rfl) ?_
      refine lv_iconst (v := 2) hx hb dX6_take_34 (by decide) ?_
      refine lv_iload_n hx hb dX6_take_35 rfl (lv_at hl 1 rfl) ?_
      refine lv_iconst (v := 0) hx hb dX6_take_36 (by decide) ?_
      refine x_callVi (w := wM cI a) (σ := s_X6_goesWell σ 0) (σ' := s_X6_tell (s_X6_goesWell σ 0) 2 cy 0 n) (As := [.int 2, .int cy, .int 0]) (rest := []) (q0 := 0) ⟨hx, hb, hml, hown, hts⟩ hG hP hS hsz (c_X6_tell l D cI a H.size (s_X6_goesWell σ 0) 2 cy 0 n (lt300 hcn hn h_2) hcn (hg h_1 h_2)) (cwV 3 hts gX6_take_X6_tell rfl rfl rfl (by decide +kernel) ⟨Nat.le_of_ble_eq_true rfl, Nat.le_of_ble_eq_true rfl⟩) rfl rfl rfl rfl hl.1 rfl (Nat.le_of_ble_eq_true rfl) ⟨Nat.zero_le _, Nat.zero_le _⟩ dX6_take_37 (fun H locs hP hS => ?_)
      refine lv_if_eq (tgt := 47) hx hb dX6_take_40 (by decide) (fun h_3 => ?_) (fun h_3 => ?_)
      · refine lv_iconst (v := 0) hx hb dX6_take_47 (by decide) ?_
        exact x_iret hx hb hr hlk hsz hP hS rfl (by rw [r_X6_take, if_neg h_1, if_neg h_2, if_pos h_3]) (by rw [s_X6_take, if_neg h_1, if_neg h_2, if_pos h_3]) dX6_take_48
      · refine lv_iconst (v := 1) hx hb dX6_take_43 (by decide) ?_
        refine lv_goto (tgt := 48) hx hb dX6_take_44 (by decide) ?_
        exact x_iret hx hb hr hlk hsz hP hS rfl (by rw [r_X6_take, if_neg h_1, if_neg h_2, if_neg h_3]) (by rw [s_X6_take, if_neg h_1, if_neg h_2, if_neg h_3]) dX6_take_48
    · refine lv_iconst (v := 2) hx hb dX6_take_22 (by decide) ?_
      refine lv_goto (tgt := 27) hx hb dX6_take_23 (by decide) ?_
      refine x_callVi (w := wM cI a) (σ := σ) (σ' := s_X6_goesWell σ 2) (As := [.int 2]) (rest := []) (q0 := 0) ⟨hx, hb, hml, hown, hts⟩ hG hP hS hsz (c_X6_goesWell l D cI a H.size σ 2) (cwV 1 hts gX6_take_X6_goesWell rfl rfl rfl (by decide +kernel) ⟨Nat.le_of_ble_eq_true rfl, Nat.le_of_ble_eq_true rfl⟩) rfl rfl rfl rfl hl.1 rfl (Nat.le_of_ble_eq_true rfl) ⟨Nat.zero_le _, Nat.zero_le _⟩ dX6_take_27 (fun H locs hP hS => ?_)
      refine W.eq (g2 := F0 m 30 ls [.int 0]) rfl ?_
      refine lv_if_eq (tgt := 47) hx hb dX6_take_30 (by decide) (fun _ => ?_) (fun h => absurd (by decide) h)
      refine lv_iconst (v := 0) hx hb dX6_take_47 (by decide) ?_
      exact x_iret hx hb hr hlk hsz hP hS rfl (by rw [r_X6_take, if_neg h_1, if_pos h_2]) (by rw [s_X6_take, if_neg h_1, if_pos h_2]) dX6_take_48
  · refine lv_iconst (v := 1) hx hb dX6_take_8 (by decide) ?_
    refine lv_goto (tgt := 27) hx hb dX6_take_9 (by decide) ?_
    refine x_callVi (w := wM cI a) (σ := σ) (σ' := s_X6_goesWell σ 1) (As := [.int 1]) (rest := []) (q0 := 0) ⟨hx, hb, hml, hown, hts⟩ hG hP hS hsz (c_X6_goesWell l D cI a H.size σ 1) (cwV 1 hts gX6_take_X6_goesWell rfl rfl rfl (by decide +kernel) ⟨Nat.le_of_ble_eq_true rfl, Nat.le_of_ble_eq_true rfl⟩) rfl rfl rfl rfl hl.1 rfl (Nat.le_of_ble_eq_true rfl) ⟨Nat.zero_le _, Nat.zero_le _⟩ dX6_take_27 (fun H locs hP hS => ?_)
    refine W.eq (g2 := F0 m 30 ls [.int 0]) rfl ?_
    refine lv_if_eq (tgt := 47) hx hb dX6_take_30 (by decide) (fun _ => ?_) (fun h => absurd (by decide) h)
    refine lv_iconst (v := 0) hx hb dX6_take_47 (by decide) ?_
    exact x_iret hx hb hr hlk hsz hP hS rfl (by rw [r_X6_take, if_pos h_1]) (by rw [s_X6_take, if_pos h_1]) dX6_take_48
set_option maxHeartbeats 4000000 in
set_option maxRecDepth 100000 in
theorem cg_X6_mend (l : Launch) (D : va_G) (cI : ClassId) (a : Nat → Nat) (sz : Nat) (σ : Sg) (cy : Int32) (n : Nat) (hn : n ≤ 300) (hcn : σ 0 5 = nI n) (hg : ¬ r_X6_isCycle σ cy = 0 → ¬ σ 0 5 = 300 → gOK (sx (s_X6_keep (s_X6_goesWell σ 0) 6 cy 0 ((s_X6_goesWell σ 0) 0 1) n) 0 28 (r_X6_keep (s_X6_goesWell σ 0) 6 cy 0 ((s_X6_goesWell σ 0) 0 1) n)) (n + 1)) : Met l yX6_mend wsX6_mend ({ frames := 6, cells := 0, slots := 0, locals := 144 }) (PcW D cI 24 a (wM cI a) sz σ [.ref (a 0), .int cy]) (QiW D 24 a (wM cI a) sz (r_X6_mend σ cy n) (s_X6_mend σ cy n)) 0 0 (AX 24 a sz) := by
  refine x_of (cc := cX6_mend) (maxL := 2) (ret := some .boolean) (C := RX6) rfl (by decide) rfl (Nat.le_of_ble_eq_true rfl) (fun p e s m below meth c hx hb hr hml hlk hts hown hsz H hP hS hG ls hl => ?_)
  have hl : lv_has ls 2 [(0, .ref (a 0)), (1, .int cy)] := hl
  refine lv_aload_n hx hb dX6_mend_0 rfl (lv_at hl 0 rfl) ?_
  refine lv_iload_n hx hb dX6_mend_1 rfl (lv_at hl 1 rfl) ?_
  refine x_callSi (w := wM cI a) (σ := σ) (σ' := σ) (As := [.int cy]) (rest := [.ref (a 0)]) ⟨hx, hb, hml, hown, hts⟩ hG hP hS hsz (c_X6_isCycle l D cI a H.size σ cy) (va_cwS 1 hts gX6_mend_X6_isCycle rfl rfl rfl (by decide +kernel) ⟨Nat.le_of_ble_eq_true rfl, Nat.le_of_ble_eq_true rfl⟩) rfl hl.1 rfl (Nat.le_of_ble_eq_true rfl) ⟨Nat.zero_le _, Nat.zero_le _⟩ dX6_mend_2 (fun H locs hP hS => ?_)
  refine lv_if_ne (tgt := 12) hx hb dX6_mend_5 (by decide) (fun h_1 => ?_) (fun h_1 => ?_)
  · refine lv_aload_n hx hb dX6_mend_12 rfl (lv_at hl 0 rfl) ?_
    refine x_get (ci := 6) (C := RX6) (T := TX6) (M := 29) (v := .int (σ 0 5)) hx hb hts in_X6_mend_6 hown hG hP 0 rfl rfl 5 (by decide) (List.mem_of_getElem? (i := 1) rfl) rfl rfl dX6_mend_13 ?_
    refine lv_sipush (v := 300) hx hb dX6_mend_16 (by decide) ?_
    refine lv_icmp_ne (tgt := 26) hx hb dX6_mend_19 (by decide) (fun h_2 => ?_) (fun h_2 => ?_)
    · refine lv_iconst (v := 0) hx hb dX6_mend_26 (by decide) ?_
      refine x_callVi (w := wM cI a) (σ := σ) (σ' := s_X6_goesWell σ 0) (As := [.int 0]) (rest := []) (q0 := 0) ⟨hx, hb, hml, hown, hts⟩ hG hP hS hsz (c_X6_goesWell l D cI a H.size σ 0) (cwV 1 hts gX6_mend_X6_goesWell rfl rfl rfl (by decide +kernel) ⟨Nat.le_of_ble_eq_true rfl, Nat.le_of_ble_eq_true rfl⟩) rfl rfl rfl rfl hl.1 rfl (Nat.le_of_ble_eq_true rfl) ⟨Nat.zero_le _, Nat.zero_le _⟩ dX6_mend_27 (fun H locs hP hS => ?_)
      refine W.eq (g2 := F0 m 30 ls [.int 1]) rfl ?_
      refine lv_if_eq (tgt := 48) hx hb dX6_mend_30 (by decide) (fun h => absurd h (by decide)) (fun _ => ?_)
      refine lv_aload_n hx hb dX6_mend_33 rfl (lv_at hl 0 rfl) ?_
      refine lv_bipush (v := 6) hx hb dX6_mend_34 (by decide) ?_
      refine lv_iload_n hx hb dX6_mend_36 rfl (lv_at hl 1 rfl) ?_
      refine lv_iconst (v := 0) hx hb dX6_mend_37 (by decide) ?_
      refine x_callVi (w := wM cI a) (σ := s_X6_goesWell σ 0) (σ' := s_X6_tell (s_X6_goesWell σ 0) 6 cy 0 n) (As := [.int 6, .int cy, .int 0]) (rest := []) (q0 := 0) ⟨hx, hb, hml, hown, hts⟩ hG hP hS hsz (c_X6_tell l D cI a H.size (s_X6_goesWell σ 0) 6 cy 0 n (lt300 hcn hn h_2) hcn (hg h_1 h_2)) (cwV 3 hts gX6_mend_X6_tell rfl rfl rfl (by decide +kernel) ⟨Nat.le_of_ble_eq_true rfl, Nat.le_of_ble_eq_true rfl⟩) rfl rfl rfl rfl hl.1 rfl (Nat.le_of_ble_eq_true rfl) ⟨Nat.zero_le _, Nat.zero_le _⟩ dX6_mend_38 (fun H locs hP hS => ?_)
      refine lv_if_eq (tgt := 48) hx hb dX6_mend_41 (by decide) (fun h_3 => ?_) (fun h_3 => ?_)
      · refine lv_iconst (v := 0) hx hb dX6_mend_48 (by decide) ?_
        exact x_iret hx hb hr hlk hsz hP hS rfl (by rw [r_X6_mend, if_neg h_1, if_neg h_2, if_pos h_3]) (by rw [s_X6_mend, if_neg h_1, if_neg h_2, if_pos h_3]) dX6_mend_49
      · refine lv_iconst (v := 1) hx hb dX6_mend_44 (by decide) ?_
        refine lv_goto (tgt := 49) hx hb dX6_mend_45 (by decide) ?_
        exact x_iret hx hb hr hlk hsz hP hS rfl (by rw [r_X6_mend, if_neg h_1, if_neg h_2, if_neg h_3]) (by rw [s_X6_mend, if_neg h_1, if_neg h_2, if_neg h_3]) dX6_mend_49
    · refine lv_iconst (v := 2) hx hb dX6_mend_22 (by decide) ?_
      refine lv_goto (tgt := 27) hx hb dX6_mend_23 (by decide) ?_
      refine x_callVi (w := wM cI a) (σ := σ) (σ' := s_X6_goesWell σ 2) (As := [.int 2]) (rest := []) (q0 := 0) ⟨hx, hb, hml, hown, hts⟩ hG hP hS hsz (c_X6_goesWell l D cI a H.size σ 2) (cwV 1 hts gX6_mend_X6_goesWell rfl rfl rfl (by decide +kernel) ⟨Nat.le_of_ble_eq_true rfl, Nat.le_of_ble_eq_true rfl⟩) rfl rfl rfl rfl hl.1 rfl (Nat.le_of_ble_eq_true rfl) ⟨Nat.zero_le _, Nat.zero_le _⟩ dX6_mend_27 (fun H locs hP hS => ?_)
      refine W.eq (g2 := F0 m 30 ls [.int 0]) rfl ?_
      refine lv_if_eq (tgt := 48) hx hb dX6_mend_30 (by decide) (fun _ => ?_) (fun h => absurd (by decide) h)
      refine lv_iconst (v := 0) hx hb dX6_mend_48 (by decide) ?_
      exact x_iret hx hb hr hlk hsz hP hS rfl (by rw [r_X6_mend, if_neg h_1, if_pos h_2]) (by rw [s_X6_mend, if_neg h_1, if_pos h_2]) dX6_mend_49
  · refine lv_iconst (v := 1) hx hb dX6_mend_8 (by decide) ?_
    refine lv_goto (tgt := 27) hx hb dX6_mend_9 (by decide) ?_
    refine x_callVi (w := wM cI a) (σ := σ) (σ' := s_X6_goesWell σ 1) (As := [.int 1]) (rest := []) (q0 := 0) ⟨hx, hb, hml, hown, hts⟩ hG hP hS hsz (c_X6_goesWell l D cI a H.size σ 1) (cwV 1 hts gX6_mend_X6_goesWell rfl rfl rfl (by decide +kernel) ⟨Nat.le_of_ble_eq_true rfl, Nat.le_of_ble_eq_true rfl⟩) rfl rfl rfl rfl hl.1 rfl (Nat.le_of_ble_eq_true rfl) ⟨Nat.zero_le _, Nat.zero_le _⟩ dX6_mend_27 (fun H locs hP hS => ?_)
    refine W.eq (g2 := F0 m 30 ls [.int 0]) rfl ?_
    refine lv_if_eq (tgt := 48) hx hb dX6_mend_30 (by decide) (fun _ => ?_) (fun h => absurd (by decide) h)
    refine lv_iconst (v := 0) hx hb dX6_mend_48 (by decide) ?_
    exact x_iret hx hb hr hlk hsz hP hS rfl (by rw [r_X6_mend, if_pos h_1]) (by rw [s_X6_mend, if_pos h_1]) dX6_mend_49
set_option maxHeartbeats 4000000 in
set_option maxRecDepth 100000 in
theorem cg_X6_promise (l : Launch) (D : va_G) (cI : ClassId) (a : Nat → Nat) (sz : Nat) (σ : Sg) (ri : Int32) (st : Int32) (n : Nat) (hn : n ≤ 300) (hcn : σ 0 5 = nI n) (hg : ¬ r_X6_isRider σ ri = 0 → ¬ r_X6_isStation σ st = 0 → ¬ σ 0 5 = 300 → gOK (sx (s_X6_keep (s_X6_goesWell σ 0) 8 ri st ((s_X6_goesWell σ 0) 0 1) n) 0 28 (r_X6_keep (s_X6_goesWell σ 0) 8 ri st ((s_X6_goesWell σ 0) 0 1) n)) (n + 1)) : Met l yX6_promise wsX6_promise ({ frames := 6, cells := 0, slots := 0, locals := 144 }) (PcW D cI 24 a (wM cI a) sz σ [.ref (a 0), .int ri, .int st]) (QiW D 24 a (wM cI a) sz (r_X6_promise σ ri st n) (s_X6_promise σ ri st n)) 0 0 (AX 24 a sz) := by
  refine x_of (cc := cX6_promise) (maxL := 4) (ret := some .boolean) (C := RX6) rfl (by decide) rfl (Nat.le_of_ble_eq_true rfl) (fun p e s m below meth c hx hb hr hml hlk hts hown hsz H hP hS hG ls hl => ?_)
  have hl : lv_has ls 4 [(0, .ref (a 0)), (1, .int ri), (2, .int st)] := hl
  refine lv_iload_n hx hb dX6_promise_0 rfl (lv_at hl 1 rfl) ?_
  refine x_callSi (w := wM cI a) (σ := σ) (σ' := σ) (As := [.int ri]) (rest := []) ⟨hx, hb, hml, hown, hts⟩ hG hP hS hsz (c_X6_isRider l D cI a H.size σ ri) (va_cwS 1 hts gX6_promise_X6_isRider rfl rfl rfl (by decide +kernel) ⟨Nat.le_of_ble_eq_true rfl, Nat.le_of_ble_eq_true rfl⟩) rfl hl.1 rfl (Nat.le_of_ble_eq_true rfl) ⟨Nat.zero_le _, Nat.zero_le _⟩ dX6_promise_1 (fun H locs hP hS => ?_)
  refine lv_if_eq (tgt := 18) hx hb dX6_promise_4 (by decide) (fun h_1 => ?_) (fun h_1 => ?_)
  · refine lv_iconst (v := 0) hx hb dX6_promise_18 (by decide) ?_
    refine lv_istore_n (lv' := [(3, .int 0), (0, .ref (a 0)), (1, .int ri), (2, .int st)]) hx hb dX6_promise_19 rfl hl (by decide) rfl (fun ls hl => ?_)
    refine lv_aload_n hx hb dX6_promise_20 rfl (lv_at hl 1 rfl) ?_
    refine lv_iload_n hx hb dX6_promise_21 rfl (lv_at hl 0 rfl) ?_
    refine lv_if_ne (tgt := 29) hx hb dX6_promise_22 (by decide) (fun h => absurd (by decide) h) (fun _ => ?_)
    refine lv_iconst (v := 1) hx hb dX6_promise_25 (by decide) ?_
    refine lv_goto (tgt := 44) hx hb dX6_promise_26 (by decide) ?_
    refine x_callVi (w := wM cI a) (σ := σ) (σ' := s_X6_goesWell σ 1) (As := [.int 1]) (rest := []) (q0 := 0) ⟨hx, hb, hml, hown, hts⟩ hG hP hS hsz (c_X6_goesWell l D cI a H.size σ 1) (cwV 1 hts gX6_promise_X6_goesWell rfl rfl rfl (by decide +kernel) ⟨Nat.le_of_ble_eq_true rfl, Nat.le_of_ble_eq_true rfl⟩) rfl rfl rfl rfl hl.1 rfl (Nat.le_of_ble_eq_true rfl) ⟨Nat.zero_le _, Nat.zero_le _⟩ dX6_promise_44 (fun H locs hP hS => ?_)
    refine W.eq (g2 := F0 m 47 ls [.int 0]) rfl ?_
    refine lv_if_eq (tgt := 65) hx hb dX6_promise_47 (by decide) (fun _ => ?_) (fun h => absurd (by decide) h)
    refine lv_iconst (v := 0) hx hb dX6_promise_65 (by decide) ?_
    exact x_iret hx hb hr hlk hsz hP hS rfl (by rw [r_X6_promise, if_pos h_1]) (by rw [s_X6_promise, if_pos h_1]) dX6_promise_66
  · refine lv_iload_n hx hb dX6_promise_7 rfl (lv_at hl 2 rfl) ?_
    refine x_callSi (w := wM cI a) (σ := σ) (σ' := σ) (As := [.int st]) (rest := []) ⟨hx, hb, hml, hown, hts⟩ hG hP hS hsz (c_X6_isStation l D cI a H.size σ st) (va_cwS 1 hts gX6_promise_X6_isStation rfl rfl rfl (by decide +kernel) ⟨Nat.le_of_ble_eq_true rfl, Nat.le_of_ble_eq_true rfl⟩) rfl hl.1 rfl (Nat.le_of_ble_eq_true rfl) ⟨Nat.zero_le _, Nat.zero_le _⟩ dX6_promise_8 (fun H locs hP hS => ?_)
    refine lv_if_eq (tgt := 18) hx hb dX6_promise_11 (by decide) (fun h_2 => ?_) (fun h_2 => ?_)
    · refine lv_iconst (v := 0) hx hb dX6_promise_18 (by decide) ?_
      refine lv_istore_n (lv' := [(3, .int 0), (0, .ref (a 0)), (1, .int ri), (2, .int st)]) hx hb dX6_promise_19 rfl hl (by decide) rfl (fun ls hl => ?_)
      refine lv_aload_n hx hb dX6_promise_20 rfl (lv_at hl 1 rfl) ?_
      refine lv_iload_n hx hb dX6_promise_21 rfl (lv_at hl 0 rfl) ?_
      refine lv_if_ne (tgt := 29) hx hb dX6_promise_22 (by decide) (fun h => absurd (by decide) h) (fun _ => ?_)
      refine lv_iconst (v := 1) hx hb dX6_promise_25 (by decide) ?_
      refine lv_goto (tgt := 44) hx hb dX6_promise_26 (by decide) ?_
      refine x_callVi (w := wM cI a) (σ := σ) (σ' := s_X6_goesWell σ 1) (As := [.int 1]) (rest := []) (q0 := 0) ⟨hx, hb, hml, hown, hts⟩ hG hP hS hsz (c_X6_goesWell l D cI a H.size σ 1) (cwV 1 hts gX6_promise_X6_goesWell rfl rfl rfl (by decide +kernel) ⟨Nat.le_of_ble_eq_true rfl, Nat.le_of_ble_eq_true rfl⟩) rfl rfl rfl rfl hl.1 rfl (Nat.le_of_ble_eq_true rfl) ⟨Nat.zero_le _, Nat.zero_le _⟩ dX6_promise_44 (fun H locs hP hS => ?_)
      refine W.eq (g2 := F0 m 47 ls [.int 0]) rfl ?_
      refine lv_if_eq (tgt := 65) hx hb dX6_promise_47 (by decide) (fun _ => ?_) (fun h => absurd (by decide) h)
      refine lv_iconst (v := 0) hx hb dX6_promise_65 (by decide) ?_
      exact x_iret hx hb hr hlk hsz hP hS rfl (by rw [r_X6_promise, if_neg h_1, if_pos h_2]) (by rw [s_X6_promise, if_neg h_1, if_pos h_2]) dX6_promise_66
    · refine lv_iconst (v := 1) hx hb dX6_promise_14 (by decide) ?_
      refine lv_goto (tgt := 19) hx hb dX6_promise_15 (by decide) ?_
      refine lv_istore_n (lv' := [(3, .int 1), (0, .ref (a 0)), (1, .int ri), (2, .int st)]) hx hb dX6_promise_19 rfl hl (by decide) rfl (fun ls hl => ?_)
      refine lv_aload_n hx hb dX6_promise_20 rfl (lv_at hl 1 rfl) ?_
      refine lv_iload_n hx hb dX6_promise_21 rfl (lv_at hl 0 rfl) ?_
      refine lv_if_ne (tgt := 29) hx hb dX6_promise_22 (by decide) (fun _ => ?_) (fun h => absurd h (by decide))
      refine lv_aload_n hx hb dX6_promise_29 rfl (lv_at hl 1 rfl) ?_
      refine x_get (ci := 6) (C := RX6) (T := TX6) (M := 29) (v := .int (σ 0 5)) hx hb hts in_X6_promise_6 hown hG hP 0 rfl rfl 5 (by decide) (List.mem_of_getElem? (i := 1) rfl) rfl rfl dX6_promise_30 ?_
      refine lv_sipush (v := 300) hx hb dX6_promise_33 (by decide) ?_
      refine lv_icmp_ne (tgt := 43) hx hb dX6_promise_36 (by decide) (fun h_3 => ?_) (fun h_3 => ?_)
      · refine lv_iconst (v := 0) hx hb dX6_promise_43 (by decide) ?_
        refine x_callVi (w := wM cI a) (σ := σ) (σ' := s_X6_goesWell σ 0) (As := [.int 0]) (rest := []) (q0 := 0) ⟨hx, hb, hml, hown, hts⟩ hG hP hS hsz (c_X6_goesWell l D cI a H.size σ 0) (cwV 1 hts gX6_promise_X6_goesWell rfl rfl rfl (by decide +kernel) ⟨Nat.le_of_ble_eq_true rfl, Nat.le_of_ble_eq_true rfl⟩) rfl rfl rfl rfl hl.1 rfl (Nat.le_of_ble_eq_true rfl) ⟨Nat.zero_le _, Nat.zero_le _⟩ dX6_promise_44 (fun H locs hP hS => ?_)
        refine W.eq (g2 := F0 m 47 ls [.int 1]) rfl ?_
        refine lv_if_eq (tgt := 65) hx hb dX6_promise_47 (by decide) (fun h => absurd h (by decide)) (fun _ => ?_)
        refine lv_aload_n hx hb dX6_promise_50 rfl (lv_at hl 1 rfl) ?_
        refine lv_bipush (v := 8) hx hb dX6_promise_51 (by decide) ?_
        refine lv_iload_n hx hb dX6_promise_53 rfl (lv_at hl 2 rfl) ?_
        refine lv_iload_n hx hb dX6_promise_54 rfl (lv_at hl 3 rfl) ?_
        refine x_callVi (w := wM cI a) (σ := s_X6_goesWell σ 0) (σ' := s_X6_tell (s_X6_goesWell σ 0) 8 ri st n) (As := [.int 8, .int ri, .int st]) (rest := []) (q0 := 0) ⟨hx, hb, hml, hown, hts⟩ hG hP hS hsz (c_X6_tell l D cI a H.size (s_X6_goesWell σ 0) 8 ri st n (lt300 hcn hn h_3) hcn (hg h_1 h_2 h_3)) (cwV 3 hts gX6_promise_X6_tell rfl rfl rfl (by decide +kernel) ⟨Nat.le_of_ble_eq_true rfl, Nat.le_of_ble_eq_true rfl⟩) rfl rfl rfl rfl hl.1 rfl (Nat.le_of_ble_eq_true rfl) ⟨Nat.zero_le _, Nat.zero_le _⟩ dX6_promise_55 (fun H locs hP hS => ?_)
        refine lv_if_eq (tgt := 65) hx hb dX6_promise_58 (by decide) (fun h_4 => ?_) (fun h_4 => ?_)
        · refine lv_iconst (v := 0) hx hb dX6_promise_65 (by decide) ?_
          exact x_iret hx hb hr hlk hsz hP hS rfl (by rw [r_X6_promise, if_neg h_1, if_neg h_2, if_neg h_3, if_pos h_4]) (by rw [s_X6_promise, if_neg h_1, if_neg h_2, if_neg h_3, if_pos h_4]) dX6_promise_66
        · refine lv_iconst (v := 1) hx hb dX6_promise_61 (by decide) ?_
          refine lv_goto (tgt := 66) hx hb dX6_promise_62 (by decide) ?_
          exact x_iret hx hb hr hlk hsz hP hS rfl (by rw [r_X6_promise, if_neg h_1, if_neg h_2, if_neg h_3, if_neg h_4]) (by rw [s_X6_promise, if_neg h_1, if_neg h_2, if_neg h_3, if_neg h_4]) dX6_promise_66
      · refine lv_iconst (v := 2) hx hb dX6_promise_39 (by decide) ?_
        refine lv_goto (tgt := 44) hx hb dX6_promise_40 (by decide) ?_
        refine x_callVi (w := wM cI a) (σ := σ) (σ' := s_X6_goesWell σ 2) (As := [.int 2]) (rest := []) (q0 := 0) ⟨hx, hb, hml, hown, hts⟩ hG hP hS hsz (c_X6_goesWell l D cI a H.size σ 2) (cwV 1 hts gX6_promise_X6_goesWell rfl rfl rfl (by decide +kernel) ⟨Nat.le_of_ble_eq_true rfl, Nat.le_of_ble_eq_true rfl⟩) rfl rfl rfl rfl hl.1 rfl (Nat.le_of_ble_eq_true rfl) ⟨Nat.zero_le _, Nat.zero_le _⟩ dX6_promise_44 (fun H locs hP hS => ?_)
        refine W.eq (g2 := F0 m 47 ls [.int 0]) rfl ?_
        refine lv_if_eq (tgt := 65) hx hb dX6_promise_47 (by decide) (fun _ => ?_) (fun h => absurd (by decide) h)
        refine lv_iconst (v := 0) hx hb dX6_promise_65 (by decide) ?_
        exact x_iret hx hb hr hlk hsz hP hS rfl (by rw [r_X6_promise, if_neg h_1, if_neg h_2, if_pos h_3]) (by rw [s_X6_promise, if_neg h_1, if_neg h_2, if_pos h_3]) dX6_promise_66
