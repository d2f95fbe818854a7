-- both sides together: what holds behind each call
def kL (τ σ : Sg) : Prop := (∀ q j, 1 ≤ q → q ≤ 7 → τ q j = σ q j) ∧ τ 0 1 = σ 0 1 ∧ τ 0 5 = σ 0 5
theorem kL_M {τ σ : Sg} (h : kM τ σ) : kL τ σ := ⟨h.1, h.2 1 (by decide), h.2 5 (by decide)⟩
theorem kL_tr {a b c : Sg} (h : kL a b) (g : kL b c) : kL a c := ⟨fun q j h1 h2 => (h.1 q j h1 h2).trans (g.1 q j h1 h2), h.2.1.trans g.2.1, h.2.2.trans g.2.2⟩
theorem gw_eq (μ : Sg) (k : Int32) : s_X6_goesWell μ k = sx μ 0 0 k := by unfold s_X6_goesWell; split <;> rfl
theorem kL_w (μ : Sg) (k : Int32) : kL (sx μ 0 0 k) μ := by
  refine ⟨fun q j a b => by rw [sx_r, if_neg (by omega)], by rw [sx_r, if_pos rfl, if_neg (by decide)], by rw [sx_r, if_pos rfl, if_neg (by decide)]⟩
def MI (σ μ : Sg) (n : Nat) : Prop := CI σ n ∧ (∀ i, i < n → sEq σ μ i) ∧ μ 0 5 = nI n ∧ σ 0 5 = μ 0 1 ∧ (∀ j, j < 8 → σ 10 j = μ 1 j ∧ σ 11 j = μ 2 j ∧ σ 12 j = μ 3 j) ∧ GRM μ ∧ ∃ t : Nat, t ≤ 20000 ∧ μ 0 1 = nI t
theorem sEq_kL {σ μ τ x : Sg} {i : Nat} (h : sEq σ μ i) (hx : kX τ σ) (hm : kL x μ) : sEq τ x i := by
  obtain ⟨h6, h7, h9, h8, ht⟩ := h
  unfold sEq
  rw [hx.1 6 i (by decide) (by decide), hx.1 7 i (by decide) (by decide), hx.1 8 i (by decide) (by decide), hx.1 9 i (by decide) (by decide), hm.1 4 i (by decide) (by decide), hm.1 5 i (by decide) (by decide), hm.1 6 i (by decide) (by decide), hm.1 7 i (by decide) (by decide)]
  exact ⟨h6, h7, h9, h8, ht⟩
theorem GRM_L {μ μ' : Sg} (h : GRM μ) (k : kL μ' μ) : GRM μ' := by
  intro j hj
  rw [k.1 1 j (by decide) (by decide), k.1 2 j (by decide) (by decide), k.1 3 j (by decide) (by decide)]
  exact h j hj
theorem MI_L {σ μ μ' : Sg} {n : Nat} (h : MI σ μ n) (k : kL μ' μ) : MI σ μ' n := by
  obtain ⟨h1, h2, h3, h4, h5, h6, t, ht, h7⟩ := h
  refine ⟨h1, fun i hi => sEq_kL (h2 i hi) (kX_r σ) k, k.2.2.trans h3, h4.trans k.2.1.symm, fun j hj => ?_, GRM_L h6 k, t, ht, k.2.1.trans h7⟩
  rw [k.1 1 j (by decide) (by decide), k.1 2 j (by decide) (by decide), k.1 3 j (by decide) (by decide)]
  exact h5 j hj
theorem MI_grx {σ μ : Sg} {n : Nat} (h : MI σ μ n) : GRX σ := by
  intro j hj
  obtain ⟨a, b, d, ha, hb, hd, e1, e2, e3⟩ := h.2.2.2.2.2.1 j hj
  obtain ⟨f1, f2, f3⟩ := h.2.2.2.2.1 j hj
  exact ⟨a, b, d, ha, hb, hd, f1.trans e1, f2.trans e2, f3.trans e3⟩
theorem MI_gok {σ μ : Sg} {n : Nat} (h : MI σ μ n) : gOK μ n := gok h.1 h.2.1 h.2.2.1
theorem in_iff {σ : Sg} {v lo hi : Int32} : r_X6_in σ v lo hi = 0 ↔ ¬ (lo ≤ v ∧ v ≤ hi) := by
  unfold r_X6_in
  by_cases h1 : v < lo
  · rw [if_pos h1]; exact ⟨fun _ q => (Int32.not_lt.mpr q.1) h1, fun _ => rfl⟩
  · rw [if_neg h1]
    by_cases h2 : hi < v
    · rw [if_pos h2]; exact ⟨fun _ q => (Int32.not_lt.mpr q.2) h2, fun _ => rfl⟩
    · rw [if_neg h2]; exact ⟨fun q => absurd q (by decide), fun q => absurd ⟨Int32.not_lt.mp h1, Int32.not_lt.mp h2⟩ q⟩
theorem vp_iff {v hi : Int32} {n : Nat} (hh : hi.toInt = n) : vp_in v (n + 1) ↔ (0 : Int32) ≤ v ∧ v ≤ hi := by
  rw [vp_in_iff, Int32.le_iff_toInt_le, Int32.le_iff_toInt_le, zI, hh]
  omega
theorem isSt_iff {σ : Sg} {v : Int32} : r_X6_isStation σ v = 0 ↔ ¬ vp_in v 8 := by
  unfold r_X6_isStation
  rw [in_iff, vp_iff (hi := 7) (n := 7) (by decide)]
theorem isCy_iff {σ : Sg} {v : Int32} : r_X6_isCycle σ v = 0 ↔ ¬ vp_in v 30 := by
  unfold r_X6_isCycle
  rw [in_iff, vp_iff (hi := 29) (n := 29) (by decide)]
theorem isRi_iff {σ : Sg} {v : Int32} : r_X6_isRider σ v = 0 ↔ ¬ vp_in v 10 := by
  unfold r_X6_isRider
  rw [in_iff, vp_iff (hi := 9) (n := 9) (by decide)]
theorem up_iff {σ : Sg} {v k : Int32} : r_X6_in σ v 0 k = 0 ↔ ¬ (¬ v < 0 ∧ v ≤ k) := by
  rw [in_iff, Int32.not_lt]
theorem full_iff {σ : Sg} {n : Nat} (h : σ 0 5 = nI n) (hn : n ≤ 300) : σ 0 5 = 300 ↔ ¬ n < 300 := by
  rw [h]
  constructor
  · intro q hlt
    exact absurd ((nI_eq (a := n) (b := 300) (by omega) (by omega)).mp q) (by omega)
  · intro q
    rw [show n = 300 by omega]; rfl
theorem isF_iff {σ : Sg} {n : Nat} (h : σ 1 4 = nI n) (hn : n ≤ 300) : r_X4_isFull σ = 0 ↔ n < 300 := by
  constructor
  · intro q
    rcases Nat.lt_or_ge n 300 with z | z
    · exact z
    · unfold r_X4_isFull at q
      rw [h, if_neg (show ¬ nI n < (300 : Int32) from nI_nlt (a := n) (b := 300) z (by omega))] at q
      exact absurd q (by decide)
  · exact fun q => isFull0 h q
theorem when_iff {σ μ : Sg} {n : Nat} {wh : Int32} (h : MI σ μ n) : r_X6_isWhen μ wh = 0 ↔ ¬ hW σ wh := by
  obtain ⟨t, ht, e⟩ := h.2.2.2.2.2.2
  have e5 : σ 0 5 = nI t := h.2.2.2.1.trans e
  unfold r_X6_isWhen hW
  rw [e, e5]
  have et : (nI t).toInt = (t : Int) := nI_toInt (by omega)
  have e60 : (60 : Int32).toInt = 60 := by decide
  have es : (nI t - 60).toInt = (t : Int) - 60 := by rw [fb_subI (by rw [et, e60]; omega) (by rw [et, e60]; omega), et, e60]
  by_cases h1 : 60 ≤ nI t
  · have q1 := Int32.le_iff_toInt_le.mp h1
    rw [et, e60] at q1
    rw [if_pos h1, in_iff]
    by_cases h2 : (0 : Int32) < nI t - 60
    · rw [if_pos h2, Int32.not_lt]
    · have q2 : ¬ (0 : Int32).toInt < (nI t - 60).toInt := fun z => h2 (Int32.lt_iff_toInt_lt.mpr z)
      rw [zI, es] at q2
      have e0 : nI t - 60 = 0 := Int32.toInt_inj.mp (by rw [es, zI]; omega)
      rw [if_neg h2, Int32.not_lt, e0]
  · have q1 : ¬ (60 : Int32).toInt ≤ (nI t).toInt := fun z => h1 (Int32.le_iff_toInt_le.mpr z)
    rw [et, e60] at q1
    have h2 : ¬ (0 : Int32) < nI t - 60 := fun z => by
      have q := Int32.lt_iff_toInt_lt.mp z
      rw [zI, es] at q
      omega
    rw [if_neg h1, in_iff, if_neg h2, Int32.not_lt]
/-- one more thing kept -/
theorem op_keep {σ μ : Sg} {n : Nat} {k f s s' m v : Int32} (h : MI σ μ n) (hn : n < 300) (ht : tOK k f s) (hs : s = s' ∨ k = 2 ∨ k = 6 ∨ k = 7) (hm : m ≤ σ 0 5) :
    hearOK σ k f s m n n ∧ MI (s_X5_hear σ k f s m n n) (s_X6_keep (sx μ 0 0 v) k f s' m n) (n + 1) ∧ (s_X6_keep (sx μ 0 0 v) k f s' m n) 0 0 = v ∧ r_X6_keep (sx μ 0 0 v) k f s' m n = nI (dwi (σ 9) m n) ∧
    (dwi (σ 9) m n = n → ∀ μ' : Sg, (∀ i, i < n + 1 → sEq (s_X4_insert σ k f s m n) μ' i) → r_X5_hear σ k f s m n n = r_X6_does (s_X6_stand (RP μ' n).1 (RP μ' n).2 ((RP μ' n).1 7 n)) (nI n)) ∧
    (∀ i, i < n + 1 → sEq (s_X4_insert σ k f s m n) (s_X6_keep (sx μ 0 0 v) k f s' m n) i) := by
  obtain ⟨h1, h2, h3, h4, h5, h6, t, ht2, h7⟩ := h
  have hmn := hear_main h1 hn ht hm
  have h2' : ∀ i, i < n → sEq σ (sx μ 0 0 v) i := fun i hi => sEq_kL (h2 i hi) (kX_r σ) (kL_w μ v)
  have hk := keep_spec (μ := sx μ 0 0 v) (k := k) (f := f) (s := s') (m := m) hn
  have hse := sEq_ins (m := m) hn h1.1 h2' ht hs
  have ep : dwi (σ 9) m n = dwi (sx μ 0 0 v 7) m n := dwi_congr n (fun i hi => (h2' i hi).2.2.1)
  have io := fun q a b => ins_o (σ := σ) (k := k) (f := f) (s := s) (m := m) hn h1.1 q a b
  have k0 : ∀ j, j ≠ 5 → s_X6_keep (sx μ 0 0 v) k f s' m n 0 j = sx μ 0 0 v 0 j := fun j hj => by rw [hk.2, if_neg (by omega), if_neg (fun z => hj z.2)]
  have kg : ∀ q j, 1 ≤ q → q ≤ 3 → s_X6_keep (sx μ 0 0 v) k f s' m n q j = μ q j := fun q j a b => by rw [hk.2, if_neg (by omega), if_neg (by omega), sx_r, if_neg (by omega)]
  refine ⟨hmn.1, ⟨hmn.2.1, fun i hi => sEq_kL (hse i hi) hmn.2.2.1 (kL_M (kM_r _)), ?_, ?_, ?_, ?_, t, ht2, ?_⟩, ?_, by rw [ep]; exact hk.1, hmn.2.2.2, hse⟩
  · rw [hk.2, if_neg (by decide), if_pos ⟨rfl, rfl⟩, sx_r, if_pos rfl, if_neg (by decide), h3, nI_1]
  · rw [hmn.2.2.1.2.1, io 0 (by decide) (by decide), k0 1 (by decide), sx_r, if_pos rfl, if_neg (by decide)]
    exact h4
  · intro j hj
    rw [hmn.2.2.1.1 10 j (by decide) (by decide), hmn.2.2.1.1 11 j (by decide) (by decide), hmn.2.2.1.1 12 j (by decide) (by decide), io 10 (by decide) (by decide), io 11 (by decide) (by decide), io 12 (by decide) (by decide), kg 1 j (by decide) (by decide), kg 2 j (by decide) (by decide), kg 3 j (by decide) (by decide)]
    exact h5 j hj
  · intro j hj
    rw [kg 1 j (by decide) (by decide), kg 2 j (by decide) (by decide), kg 3 j (by decide) (by decide)]
    exact h6 j hj
  · rw [k0 1 (by decide), sx_r, if_pos rfl, if_neg (by decide)]; exact h7
  · rw [k0 0 (by decide), sx_r, if_pos rfl, if_pos rfl]
theorem RP_28 (μ : Sg) : ∀ i, i ≤ 300 → (∀ k, k < i → ¬ nI k = μ 0 28) → (RP μ i).1 0 28 = μ 0 28 := by
  intro i
  induction i with
  | zero =>
    intro _ _
    have e : (RP μ 0).1 = s_X6_begin μ := rfl
    rw [e]
    exact (kN_begin (kN_r μ)).2
  | succ i ih =>
    intro hi h
    rw [RP_s, (st13_spec μ (RP μ i).1 (RP μ i).2 (show i < 300 by omega)).2.2.1, if_neg (h i (by omega)), ih (by omega) (fun k hk => h k (by omega))]
    split <;> rfl
/-- what is told now -/
theorem op_tell {σ μ : Sg} {n : Nat} {k f s s' : Int32} (h : MI σ μ n) (hn : n < 300) (ht : tOK k f s) (hs : s = s' ∨ k = 2 ∨ k = 6 ∨ k = 7) :
    hearOK σ k f s (σ 0 5) n n ∧ gOK (sx (s_X6_keep (sx μ 0 0 0) k f s' (sx μ 0 0 0 0 1) n) 0 28 (r_X6_keep (sx μ 0 0 0) k f s' (sx μ 0 0 0 0 1) n)) (n + 1) ∧
    r_X5_hear σ k f s (σ 0 5) n n = r_X6_tell (sx μ 0 0 0) k f s' n ∧ MI (s_X5_hear σ k f s (σ 0 5) n n) (s_X6_tell (sx μ 0 0 0) k f s' n) (n + 1) ∧ (s_X6_tell (sx μ 0 0 0) k f s' n) 0 0 = 0 := by
  have em : sx μ 0 0 0 0 1 = σ 0 5 := by rw [sx_r, if_pos rfl, if_neg (by decide)]; exact h.2.2.2.1.symm
  have hk := op_keep (m := σ 0 5) (v := 0) h hn ht hs (Int32.le_refl _)
  have hp : dwi (σ 9) (σ 0 5) n = n := dwi_top h.1.2.2.2.2.1
  obtain ⟨k1, k2, k3, k4, k5, k6⟩ := hk
  have k5 := k5 hp
  rw [hp] at k4
  unfold r_X6_tell s_X6_tell
  rw [em, k4]
  generalize s_X6_keep (sx μ 0 0 0) k f s' (σ 0 5) n = K at k2 k3 k6 ⊢
  have kK : kM (sx K 0 28 (nI n)) K := kM_0 (kM_r K) (by decide)
  have m2 : MI (s_X5_hear σ k f s (σ 0 5) n n) (sx K 0 28 (nI n)) (n + 1) := MI_L k2 (kL_M kK)
  have se : ∀ i, i < n + 1 → sEq (s_X4_insert σ k f s (σ 0 5) n) (sx K 0 28 (nI n)) i := fun i hi => sEq_kL (k6 i hi) (kX_r _) (kL_M kK)
  have hr := k5 _ se
  have k28 : sx K 0 28 (nI n) 0 28 = nI n := by rw [sx_r, if_pos rfl, if_pos rfl]
  have g28 : s_X6_goThrough (sx K 0 28 (nI n)) (n + 1) 0 28 = if r_X6_does (s_X6_stand (RP (sx K 0 28 (nI n)) n).1 (RP (sx K 0 28 (nI n)) n).2 ((RP (sx K 0 28 (nI n)) n).1 7 n)) (nI n) = 0 then -1 else nI n := by
    rw [gt_o _ _ _ _ (by decide) (by decide) (by decide) (by decide), RP_s, (st13_spec (sx K 0 28 (nI n)) (RP (sx K 0 28 (nI n)) n).1 (RP (sx K 0 28 (nI n)) n).2 hn).2.2.1, k28, if_pos rfl, RP_28 _ n (by omega) (fun j hj => by rw [k28]; exact fun q => absurd ((nI_eq (by omega) (by omega)).mp q) (by omega)), k28]
  have gM := gt_M (sx K 0 28 (nI n)) (show n + 1 ≤ 300 by omega)
  refine ⟨k1, MI_gok m2, ?_, ?_, ?_⟩
  · rw [hr, k28, g28]
    have hb := b_X6_does (s_X6_stand (RP (sx K 0 28 (nI n)) n).1 (RP (sx K 0 28 (nI n)) n).2 ((RP (sx K 0 28 (nI n)) n).1 7 n)) (nI n)
    generalize r_X6_does (s_X6_stand (RP (sx K 0 28 (nI n)) n).1 (RP (sx K 0 28 (nI n)) n).2 ((RP (sx K 0 28 (nI n)) n).1 7 n)) (nI n) = z at hb ⊢
    rcases hb with rfl | rfl
    · have ne : ¬ (-1 : Int32) = nI n := fun q => by
        have q1 := congrArg Int32.toInt q
        rw [nI_toInt (by omega)] at q1
        have q2 : (-1 : Int32).toInt = -1 := by decide
        omega
      rw [if_pos rfl, if_neg ne]
    · rw [if_neg (show ¬ (1 : Int32) = 0 by decide), if_pos rfl]
  · have q : MI (s_X5_hear σ k f s (σ 0 5) n n) (s_X6_goThrough (sx K 0 28 (nI n)) (n + 1)) (n + 1) := MI_L m2 (kL_M gM)
    split <;> exact q
  · have q : s_X6_goThrough (sx K 0 28 (nI n)) (n + 1) 0 0 = 0 := by
      rw [gM.2 0 (by decide), sx_r, if_pos rfl, if_neg (by decide)]; exact k3
    split <;> exact q
