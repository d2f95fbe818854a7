theorem act_lies {l : Launch} {D : va_G} {cI : ClassId} {σ : Sg} {n : Nat} {st ea no hi : Int32} (h : MC σ n) (hlf : l.stackTraces = false) : ∃ (k : Int32) (σ' : Sg) (n' : Nat), MC σ' n' ∧ (k = -99999999 → σ' = σ) ∧ σ' 0 5 = σ 0 5 ∧ Act 8 200 l D cI yL_lies wsL_lies [.int st, .int ea, .int no, .int hi] σ k σ' := by
  by_cases g1 : vp_in st 8
  · by_cases g2 : (¬ ea < 0 ∧ ea ≤ 99)
    · by_cases g3 : (¬ no < 0 ∧ no ≤ 99)
      · by_cases g4 : (¬ hi < 0 ∧ hi ≤ 99)
        · have q := lies_MC h g1 g2 g3 g4
          exact ⟨0, _, n, q.1, fun z => absurd z (by decide), q.2, ⟨_, 0, 0, fun a sz => c_L_lies l D cI a sz σ st ea no hi g1 g2 g3 g4, rfl, rfl, Nat.le_of_ble_eq_true rfl, Nat.le_of_ble_eq_true rfl, fun _ => ⟨rfl, rfl⟩, Nat.le_of_ble_eq_true rfl, Nat.le_of_ble_eq_true rfl⟩⟩
        · exact ⟨-99999999, σ, n, h, fun _ => rfl, rfl, ⟨_, 1, 6, fun a sz => c_L_lies_x20 l D cI a sz σ st ea no hi g1 g2 g3 g4 hlf, rfl, rfl, Nat.le_of_ble_eq_true rfl, Nat.le_of_ble_eq_true rfl, fun z => absurd rfl z, Nat.le_of_ble_eq_true rfl, Nat.le_of_ble_eq_true rfl⟩⟩
      · exact ⟨-99999999, σ, n, h, fun _ => rfl, rfl, ⟨_, 1, 6, fun a sz => c_L_lies_x13 l D cI a sz σ st ea no hi g1 g2 g3 hlf, rfl, rfl, Nat.le_of_ble_eq_true rfl, Nat.le_of_ble_eq_true rfl, fun z => absurd rfl z, Nat.le_of_ble_eq_true rfl, Nat.le_of_ble_eq_true rfl⟩⟩
    · exact ⟨-99999999, σ, n, h, fun _ => rfl, rfl, ⟨_, 1, 6, fun a sz => c_L_lies_x7 l D cI a sz σ st ea no hi g1 g2 hlf, rfl, rfl, Nat.le_of_ble_eq_true rfl, Nat.le_of_ble_eq_true rfl, fun z => absurd rfl z, Nat.le_of_ble_eq_true rfl, Nat.le_of_ble_eq_true rfl⟩⟩
  · exact ⟨-99999999, σ, n, h, fun _ => rfl, rfl, ⟨_, 1, 6, fun a sz => c_L_lies_x1 l D cI a sz σ st ea no hi g1 hlf, rfl, rfl, Nat.le_of_ble_eq_true rfl, Nat.le_of_ble_eq_true rfl, fun z => absurd rfl z, Nat.le_of_ble_eq_true rfl, Nat.le_of_ble_eq_true rfl⟩⟩
theorem act_pass {l : Launch} {D : va_G} {cI : ClassId} {σ : Sg} {n : Nat} {mi : Int32} (h : MC σ n) (hlf : l.stackTraces = false) : ∃ (k : Int32) (σ' : Sg) (n' : Nat), MC σ' n' ∧ (k = -99999999 → σ' = σ) ∧ (k ≠ -99999999 → σ' 0 5 = k) ∧ Act 8 200 l D cI yL_pass wsL_pass [.int mi] σ k σ' := by
  by_cases g1 : (¬ mi < 1 ∧ mi ≤ 600)
  · by_cases g2 : σ 0 5 + mi ≤ 20000
    · have q := pass_MC h g1.1 g1.2 g2
      exact ⟨_, _, n, q.1, fun z => absurd z q.2.2, fun _ => q.2.1, ⟨_, 0, 0, fun a sz => c_L_pass l D cI a sz σ mi g1.1 g1.2 g2, rfl, rfl, Nat.le_of_ble_eq_true rfl, Nat.le_of_ble_eq_true rfl, fun _ => ⟨rfl, rfl⟩, Nat.le_of_ble_eq_true rfl, Nat.le_of_ble_eq_true rfl⟩⟩
    · exact ⟨-99999999, σ, n, h, fun _ => rfl, fun z => absurd rfl z, ⟨_, 1, 6, fun a sz => c_L_pass_x34 l D cI a sz σ mi g1.1 g1.2 g2 hlf, rfl, rfl, Nat.le_of_ble_eq_true rfl, Nat.le_of_ble_eq_true rfl, fun z => absurd rfl z, Nat.le_of_ble_eq_true rfl, Nat.le_of_ble_eq_true rfl⟩⟩
  · exact ⟨-99999999, σ, n, h, fun _ => rfl, fun z => absurd rfl z, ⟨_, 1, 6, fun a sz => c_L_pass_x12 l D cI a sz σ mi g1 hlf, rfl, rfl, Nat.le_of_ble_eq_true rfl, Nat.le_of_ble_eq_true rfl, fun z => absurd rfl z, Nat.le_of_ble_eq_true rfl, Nat.le_of_ble_eq_true rfl⟩⟩
theorem act_docks {l : Launch} {D : va_G} {cI : ClassId} {σ : Sg} {n : Nat} {st pl : Int32} (h : MC σ n) (hlf : l.stackTraces = false) : ∃ (k : Int32) (σ' : Sg) (n' : Nat), MC σ' n' ∧ (k = -99999999 → σ' = σ) ∧ σ' 0 5 = σ 0 5 ∧ Act 8 200 l D cI yL_docks wsL_docks [.int st, .int pl] σ k σ' := by
  by_cases g1 : vp_in st 8
  · by_cases g2 : (¬ pl < 0 ∧ pl ≤ 20)
    · by_cases g3 : r_X4_isFull σ = 0
      · have hlt : n < 300 := (isF_iff h.1.1 h.1.2.2.1).mp g3
        obtain ⟨i1, h1, e1⟩ := vp_in_of g1 (by decide)
        obtain ⟨i2, h2, e2⟩ := nI_of2 (M := 20) (n := 20) (by decide) g2.1 g2.2
        have ht : tOK 0 st pl := Or.inl ⟨rfl, i1, i2, h1, h2, e1, e2⟩
        have q := hear_MC h hlt ht (pOK_now h (by decide)) (Int32.le_refl _)
        exact ⟨0, _, n + 1, q.2.1, fun z => absurd z (by decide), q.2.2, ⟨_, 0, 0, fun a sz => c_L_docks l D cI a sz σ st pl n n g1 g2 hlt h.1.1 q.1, rfl, rfl, Nat.le_of_ble_eq_true rfl, Nat.le_of_ble_eq_true rfl, fun _ => ⟨rfl, rfl⟩, Nat.le_of_ble_eq_true rfl, Nat.le_of_ble_eq_true rfl⟩⟩
      · exact ⟨-99999999, σ, n, h, fun _ => rfl, rfl, ⟨_, 1, 6, fun a sz => c_L_docks_x11 l D cI a sz σ st pl g1 g2 g3 hlf, rfl, rfl, Nat.le_of_ble_eq_true rfl, Nat.le_of_ble_eq_true rfl, fun z => absurd rfl z, Nat.le_of_ble_eq_true rfl, Nat.le_of_ble_eq_true rfl⟩⟩
    · exact ⟨-99999999, σ, n, h, fun _ => rfl, rfl, ⟨_, 1, 6, fun a sz => c_L_docks_x7 l D cI a sz σ st pl g1 g2 hlf, rfl, rfl, Nat.le_of_ble_eq_true rfl, Nat.le_of_ble_eq_true rfl, fun z => absurd rfl z, Nat.le_of_ble_eq_true rfl, Nat.le_of_ble_eq_true rfl⟩⟩
  · exact ⟨-99999999, σ, n, h, fun _ => rfl, rfl, ⟨_, 1, 6, fun a sz => c_L_docks_x1 l D cI a sz σ st pl g1 hlf, rfl, rfl, Nat.le_of_ble_eq_true rfl, Nat.le_of_ble_eq_true rfl, fun z => absurd rfl z, Nat.le_of_ble_eq_true rfl, Nat.le_of_ble_eq_true rfl⟩⟩
theorem act_put {l : Launch} {D : va_G} {cI : ClassId} {σ : Sg} {n : Nat} {cy st : Int32} (h : MC σ n) (hlf : l.stackTraces = false) : ∃ (k : Int32) (σ' : Sg) (n' : Nat), MC σ' n' ∧ (k = -99999999 → σ' = σ) ∧ σ' 0 5 = σ 0 5 ∧ Act 8 200 l D cI yL_put wsL_put [.int cy, .int st] σ k σ' := by
  by_cases g1 : vp_in cy 30
  · by_cases g2 : vp_in st 8
    · by_cases g3 : r_X4_isFull σ = 0
      · have hlt : n < 300 := (isF_iff h.1.1 h.1.2.2.1).mp g3
        obtain ⟨i1, h1, e1⟩ := vp_in_of g1 (by decide)
        obtain ⟨i2, h2, e2⟩ := vp_in_of g2 (by decide)
        have ht : tOK 1 cy st := Or.inr (Or.inl ⟨rfl, i1, i2, h1, h2, e1, e2⟩)
        have q := hear_MC h hlt ht (pOK_now h (by decide)) (Int32.le_refl _)
        exact ⟨_, _, n + 1, q.2.1, fun z => absurd z (k01 _), q.2.2, ⟨_, 0, 0, fun a sz => c_L_put l D cI a sz σ cy st n n g1 g2 hlt h.1.1 q.1, rfl, rfl, Nat.le_of_ble_eq_true rfl, Nat.le_of_ble_eq_true rfl, fun _ => ⟨rfl, rfl⟩, Nat.le_of_ble_eq_true rfl, Nat.le_of_ble_eq_true rfl⟩⟩
      · exact ⟨-99999999, σ, n, h, fun _ => rfl, rfl, ⟨_, 1, 6, fun a sz => c_L_put_x9 l D cI a sz σ cy st g1 g2 g3 hlf, rfl, rfl, Nat.le_of_ble_eq_true rfl, Nat.le_of_ble_eq_true rfl, fun z => absurd rfl z, Nat.le_of_ble_eq_true rfl, Nat.le_of_ble_eq_true rfl⟩⟩
    · exact ⟨-99999999, σ, n, h, fun _ => rfl, rfl, ⟨_, 1, 6, fun a sz => c_L_put_x5 l D cI a sz σ cy st g1 g2 hlf, rfl, rfl, Nat.le_of_ble_eq_true rfl, Nat.le_of_ble_eq_true rfl, fun z => absurd rfl z, Nat.le_of_ble_eq_true rfl, Nat.le_of_ble_eq_true rfl⟩⟩
  · exact ⟨-99999999, σ, n, h, fun _ => rfl, rfl, ⟨_, 1, 6, fun a sz => c_L_put_x1 l D cI a sz σ cy st g1 hlf, rfl, rfl, Nat.le_of_ble_eq_true rfl, Nat.le_of_ble_eq_true rfl, fun z => absurd rfl z, Nat.le_of_ble_eq_true rfl, Nat.le_of_ble_eq_true rfl⟩⟩
theorem act_take {l : Launch} {D : va_G} {cI : ClassId} {σ : Sg} {n : Nat} {cy : Int32} (h : MC σ n) (hlf : l.stackTraces = false) : ∃ (k : Int32) (σ' : Sg) (n' : Nat), MC σ' n' ∧ (k = -99999999 → σ' = σ) ∧ σ' 0 5 = σ 0 5 ∧ Act 8 200 l D cI yL_take wsL_take [.int cy] σ k σ' := by
  by_cases g1 : vp_in cy 30
  · by_cases g2 : r_X4_isFull σ = 0
    · have hlt : n < 300 := (isF_iff h.1.1 h.1.2.2.1).mp g2
      obtain ⟨i1, h1, e1⟩ := vp_in_of g1 (by decide)
      have ht : tOK 2 cy (-1) := Or.inr (Or.inr (Or.inl ⟨rfl, i1, h1, e1⟩))
      have q := hear_MC h hlt ht (pOK_now h (by decide)) (Int32.le_refl _)
      exact ⟨_, _, n + 1, q.2.1, fun z => absurd z (k01 _), q.2.2, ⟨_, 0, 0, fun a sz => c_L_take l D cI a sz σ cy n n g1 hlt h.1.1 q.1, rfl, rfl, Nat.le_of_ble_eq_true rfl, Nat.le_of_ble_eq_true rfl, fun _ => ⟨rfl, rfl⟩, Nat.le_of_ble_eq_true rfl, Nat.le_of_ble_eq_true rfl⟩⟩
    · exact ⟨-99999999, σ, n, h, fun _ => rfl, rfl, ⟨_, 1, 6, fun a sz => c_L_take_x5 l D cI a sz σ cy g1 g2 hlf, rfl, rfl, Nat.le_of_ble_eq_true rfl, Nat.le_of_ble_eq_true rfl, fun z => absurd rfl z, Nat.le_of_ble_eq_true rfl, Nat.le_of_ble_eq_true rfl⟩⟩
  · exact ⟨-99999999, σ, n, h, fun _ => rfl, rfl, ⟨_, 1, 6, fun a sz => c_L_take_x1 l D cI a sz σ cy g1 hlf, rfl, rfl, Nat.le_of_ble_eq_true rfl, Nat.le_of_ble_eq_true rfl, fun z => absurd rfl z, Nat.le_of_ble_eq_true rfl, Nat.le_of_ble_eq_true rfl⟩⟩
theorem act_unlocked {l : Launch} {D : va_G} {cI : ClassId} {σ : Sg} {n : Nat} {cy ri wh : Int32} (h : MC σ n) (hlf : l.stackTraces = false) : ∃ (k : Int32) (σ' : Sg) (n' : Nat), MC σ' n' ∧ (k = -99999999 → σ' = σ) ∧ σ' 0 5 = σ 0 5 ∧ Act 8 200 l D cI yL_unlocked wsL_unlocked [.int cy, .int ri, .int wh] σ k σ' := by
  by_cases g1 : vp_in cy 30
  · by_cases g2 : vp_in ri 10
    · by_cases g3 : hW σ wh
      · by_cases g4 : r_X4_isFull σ = 0
        · have hlt : n < 300 := (isF_iff h.1.1 h.1.2.2.1).mp g4
          obtain ⟨i1, h1, e1⟩ := vp_in_of g1 (by decide)
          obtain ⟨i2, h2, e2⟩ := vp_in_of g2 (by decide)
          have ht : tOK 3 cy ri := Or.inr (Or.inr (Or.inr (Or.inl ⟨rfl, i1, i2, h1, h2, e1, e2⟩)))
          have hw := hW_p h g3
          have q := once_MC (m := wh) h hlt ht ⟨hw.1, fun z => absurd z (by decide)⟩ hw.2
          obtain ⟨n2, hn2⟩ := q.2.1
          exact ⟨_, _, n2, hn2, fun z => absurd z (k01 _), q.2.2, ⟨_, 0, 0, fun a sz => c_L_unlocked l D cI a sz σ cy ri wh n n g1 g2 g3 hlt h.1.1 q.1, rfl, rfl, Nat.le_of_ble_eq_true rfl, Nat.le_of_ble_eq_true rfl, fun _ => ⟨rfl, rfl⟩, Nat.le_of_ble_eq_true rfl, Nat.le_of_ble_eq_true rfl⟩⟩
        · exact ⟨-99999999, σ, n, h, fun _ => rfl, rfl, ⟨_, 1, 6, fun a sz => c_L_unlocked_x14 l D cI a sz σ cy ri wh g1 g2 g3 g4 hlf, rfl, rfl, Nat.le_of_ble_eq_true rfl, Nat.le_of_ble_eq_true rfl, fun z => absurd rfl z, Nat.le_of_ble_eq_true rfl, Nat.le_of_ble_eq_true rfl⟩⟩
      · exact ⟨-99999999, σ, n, h, fun _ => rfl, rfl, ⟨_, 1, 6, fun a sz => c_L_unlocked_x10 l D cI a sz σ cy ri wh g1 g2 g3 hlf, rfl, rfl, Nat.le_of_ble_eq_true rfl, Nat.le_of_ble_eq_true rfl, fun z => absurd rfl z, Nat.le_of_ble_eq_true rfl, Nat.le_of_ble_eq_true rfl⟩⟩
    · exact ⟨-99999999, σ, n, h, fun _ => rfl, rfl, ⟨_, 1, 6, fun a sz => c_L_unlocked_x5 l D cI a sz σ cy ri wh g1 g2 hlf, rfl, rfl, Nat.le_of_ble_eq_true rfl, Nat.le_of_ble_eq_true rfl, fun z => absurd rfl z, Nat.le_of_ble_eq_true rfl, Nat.le_of_ble_eq_true rfl⟩⟩
  · exact ⟨-99999999, σ, n, h, fun _ => rfl, rfl, ⟨_, 1, 6, fun a sz => c_L_unlocked_x1 l D cI a sz σ cy ri wh g1 hlf, rfl, rfl, Nat.le_of_ble_eq_true rfl, Nat.le_of_ble_eq_true rfl, fun z => absurd rfl z, Nat.le_of_ble_eq_true rfl, Nat.le_of_ble_eq_true rfl⟩⟩
theorem act_locked {l : Launch} {D : va_G} {cI : ClassId} {σ : Sg} {n : Nat} {cy st wh : Int32} (h : MC σ n) (hlf : l.stackTraces = false) : ∃ (k : Int32) (σ' : Sg) (n' : Nat), MC σ' n' ∧ (k = -99999999 → σ' = σ) ∧ σ' 0 5 = σ 0 5 ∧ Act 8 200 l D cI yL_locked wsL_locked [.int cy, .int st, .int wh] σ k σ' := by
  by_cases g1 : vp_in cy 30
  · by_cases g2 : vp_in st 8
    · by_cases g3 : hW σ wh
      · by_cases g4 : r_X4_isFull σ = 0
        · have hlt : n < 300 := (isF_iff h.1.1 h.1.2.2.1).mp g4
          obtain ⟨i1, h1, e1⟩ := vp_in_of g1 (by decide)
          obtain ⟨i2, h2, e2⟩ := vp_in_of g2 (by decide)
          have ht : tOK 4 cy st := Or.inr (Or.inr (Or.inr (Or.inr (Or.inl ⟨rfl, i1, i2, h1, h2, e1, e2⟩))))
          have hw := hW_p h g3
          have q := once_MC (m := wh) h hlt ht ⟨hw.1, fun z => absurd z (by decide)⟩ hw.2
          obtain ⟨n2, hn2⟩ := q.2.1
          exact ⟨_, _, n2, hn2, fun z => absurd z (k01 _), q.2.2, ⟨_, 0, 0, fun a sz => c_L_locked l D cI a sz σ cy st wh n n g1 g2 g3 hlt h.1.1 q.1, rfl, rfl, Nat.le_of_ble_eq_true rfl, Nat.le_of_ble_eq_true rfl, fun _ => ⟨rfl, rfl⟩, Nat.le_of_ble_eq_true rfl, Nat.le_of_ble_eq_true rfl⟩⟩
        · exact ⟨-99999999, σ, n, h, fun _ => rfl, rfl, ⟨_, 1, 6, fun a sz => c_L_locked_x14 l D cI a sz σ cy st wh g1 g2 g3 g4 hlf, rfl, rfl, Nat.le_of_ble_eq_true rfl, Nat.le_of_ble_eq_true rfl, fun z => absurd rfl z, Nat.le_of_ble_eq_true rfl, Nat.le_of_ble_eq_true rfl⟩⟩
      · exact ⟨-99999999, σ, n, h, fun _ => rfl, rfl, ⟨_, 1, 6, fun a sz => c_L_locked_x10 l D cI a sz σ cy st wh g1 g2 g3 hlf, rfl, rfl, Nat.le_of_ble_eq_true rfl, Nat.le_of_ble_eq_true rfl, fun z => absurd rfl z, Nat.le_of_ble_eq_true rfl, Nat.le_of_ble_eq_true rfl⟩⟩
    · exact ⟨-99999999, σ, n, h, fun _ => rfl, rfl, ⟨_, 1, 6, fun a sz => c_L_locked_x5 l D cI a sz σ cy st wh g1 g2 hlf, rfl, rfl, Nat.le_of_ble_eq_true rfl, Nat.le_of_ble_eq_true rfl, fun z => absurd rfl z, Nat.le_of_ble_eq_true rfl, Nat.le_of_ble_eq_true rfl⟩⟩
  · exact ⟨-99999999, σ, n, h, fun _ => rfl, rfl, ⟨_, 1, 6, fun a sz => c_L_locked_x1 l D cI a sz σ cy st wh g1 hlf, rfl, rfl, Nat.le_of_ble_eq_true rfl, Nat.le_of_ble_eq_true rfl, fun z => absurd rfl z, Nat.le_of_ble_eq_true rfl, Nat.le_of_ble_eq_true rfl⟩⟩
theorem act_faulty {l : Launch} {D : va_G} {cI : ClassId} {σ : Sg} {n : Nat} {cy ri wh : Int32} (h : MC σ n) (hlf : l.stackTraces = false) : ∃ (k : Int32) (σ' : Sg) (n' : Nat), MC σ' n' ∧ (k = -99999999 → σ' = σ) ∧ σ' 0 5 = σ 0 5 ∧ Act 8 200 l D cI yL_faulty wsL_faulty [.int cy, .int ri, .int wh] σ k σ' := by
  by_cases g1 : vp_in cy 30
  · by_cases g2 : vp_in ri 10
    · by_cases g3 : hW σ wh
      · by_cases g4 : r_X4_isFull σ = 0
        · have hlt : n < 300 := (isF_iff h.1.1 h.1.2.2.1).mp g4
          obtain ⟨i1, h1, e1⟩ := vp_in_of g1 (by decide)
          obtain ⟨i2, h2, e2⟩ := vp_in_of g2 (by decide)
          have ht : tOK 5 cy ri := Or.inr (Or.inr (Or.inr (Or.inr (Or.inr (Or.inl ⟨rfl, i1, i2, h1, h2, e1, e2⟩)))))
          have hw := hW_p h g3
          have q := once_MC (m := wh) h hlt ht ⟨hw.1, fun z => absurd z (by decide)⟩ hw.2
          obtain ⟨n2, hn2⟩ := q.2.1
          exact ⟨_, _, n2, hn2, fun z => absurd z (k01 _), q.2.2, ⟨_, 0, 0, fun a sz => c_L_faulty l D cI a sz σ cy ri wh n n g1 g2 g3 hlt h.1.1 q.1, rfl, rfl, Nat.le_of_ble_eq_true rfl, Nat.le_of_ble_eq_true rfl, fun _ => ⟨rfl, rfl⟩, Nat.le_of_ble_eq_true rfl, Nat.le_of_ble_eq_true rfl⟩⟩
        · exact ⟨-99999999, σ, n, h, fun _ => rfl, rfl, ⟨_, 1, 6, fun a sz => c_L_faulty_x14 l D cI a sz σ cy ri wh g1 g2 g3 g4 hlf, rfl, rfl, Nat.le_of_ble_eq_true rfl, Nat.le_of_ble_eq_true rfl, fun z => absurd rfl z, Nat.le_of_ble_eq_true rfl, Nat.le_of_ble_eq_true rfl⟩⟩
      · exact ⟨-99999999, σ, n, h, fun _ => rfl, rfl, ⟨_, 1, 6, fun a sz => c_L_faulty_x10 l D cI a sz σ cy ri wh g1 g2 g3 hlf, rfl, rfl, Nat.le_of_ble_eq_true rfl, Nat.le_of_ble_eq_true rfl, fun z => absurd rfl z, Nat.le_of_ble_eq_true rfl, Nat.le_of_ble_eq_true rfl⟩⟩
    · exact ⟨-99999999, σ, n, h, fun _ => rfl, rfl, ⟨_, 1, 6, fun a sz => c_L_faulty_x5 l D cI a sz σ cy ri wh g1 g2 hlf, rfl, rfl, Nat.le_of_ble_eq_true rfl, Nat.le_of_ble_eq_true rfl, fun z => absurd rfl z, Nat.le_of_ble_eq_true rfl, Nat.le_of_ble_eq_true rfl⟩⟩
  · exact ⟨-99999999, σ, n, h, fun _ => rfl, rfl, ⟨_, 1, 6, fun a sz => c_L_faulty_x1 l D cI a sz σ cy ri wh g1 hlf, rfl, rfl, Nat.le_of_ble_eq_true rfl, Nat.le_of_ble_eq_true rfl, fun z => absurd rfl z, Nat.le_of_ble_eq_true rfl, Nat.le_of_ble_eq_true rfl⟩⟩
theorem act_mend {l : Launch} {D : va_G} {cI : ClassId} {σ : Sg} {n : Nat} {cy : Int32} (h : MC σ n) (hlf : l.stackTraces = false) : ∃ (k : Int32) (σ' : Sg) (n' : Nat), MC σ' n' ∧ (k = -99999999 → σ' = σ) ∧ σ' 0 5 = σ 0 5 ∧ Act 8 200 l D cI yL_mend wsL_mend [.int cy] σ k σ' := by
  by_cases g1 : vp_in cy 30
  · by_cases g2 : r_X4_isFull σ = 0
    · have hlt : n < 300 := (isF_iff h.1.1 h.1.2.2.1).mp g2
      obtain ⟨i1, h1, e1⟩ := vp_in_of g1 (by decide)
      have ht : tOK 6 cy (-1) := Or.inr (Or.inr (Or.inr (Or.inr (Or.inr (Or.inr (Or.inl ⟨rfl, i1, h1, e1⟩))))))
      have q := hear_MC h hlt ht (pOK_now h (by decide)) (Int32.le_refl _)
      exact ⟨_, _, n + 1, q.2.1, fun z => absurd z (k01 _), q.2.2, ⟨_, 0, 0, fun a sz => c_L_mend l D cI a sz σ cy n n g1 hlt h.1.1 q.1, rfl, rfl, Nat.le_of_ble_eq_true rfl, Nat.le_of_ble_eq_true rfl, fun _ => ⟨rfl, rfl⟩, Nat.le_of_ble_eq_true rfl, Nat.le_of_ble_eq_true rfl⟩⟩
    · exact ⟨-99999999, σ, n, h, fun _ => rfl, rfl, ⟨_, 1, 6, fun a sz => c_L_mend_x5 l D cI a sz σ cy g1 g2 hlf, rfl, rfl, Nat.le_of_ble_eq_true rfl, Nat.le_of_ble_eq_true rfl, fun z => absurd rfl z, Nat.le_of_ble_eq_true rfl, Nat.le_of_ble_eq_true rfl⟩⟩
  · exact ⟨-99999999, σ, n, h, fun _ => rfl, rfl, ⟨_, 1, 6, fun a sz => c_L_mend_x1 l D cI a sz σ cy g1 hlf, rfl, rfl, Nat.le_of_ble_eq_true rfl, Nat.le_of_ble_eq_true rfl, fun z => absurd rfl z, Nat.le_of_ble_eq_true rfl, Nat.le_of_ble_eq_true rfl⟩⟩
theorem act_price {l : Launch} {D : va_G} {cI : ClassId} {σ : Sg} {n : Nat} {pr : Int32} (h : MC σ n) (hlf : l.stackTraces = false) : ∃ (k : Int32) (σ' : Sg) (n' : Nat), MC σ' n' ∧ (k = -99999999 → σ' = σ) ∧ σ' 0 5 = σ 0 5 ∧ Act 8 200 l D cI yL_price wsL_price [.int pr] σ k σ' := by
  by_cases g1 : (¬ pr < 0 ∧ pr ≤ 99)
  · by_cases g2 : r_X4_isFull σ = 0
    · have hlt : n < 300 := (isF_iff h.1.1 h.1.2.2.1).mp g2
      obtain ⟨i1, h1, e1⟩ := nI_of2 (M := 99) (n := 99) (by decide) g1.1 g1.2
      have ht : tOK 7 pr (-1) := Or.inr (Or.inr (Or.inr (Or.inr (Or.inr (Or.inr (Or.inr (Or.inl rfl)))))))
      have q := hear_MC h hlt ht ⟨h.2.2, fun _ => ⟨i1, h1, e1⟩⟩ (Int32.le_refl _)
      exact ⟨0, _, n + 1, q.2.1, fun z => absurd z (by decide), q.2.2, ⟨_, 0, 0, fun a sz => c_L_price l D cI a sz σ pr n n g1 hlt h.1.1 q.1, rfl, rfl, Nat.le_of_ble_eq_true rfl, Nat.le_of_ble_eq_true rfl, fun _ => ⟨rfl, rfl⟩, Nat.le_of_ble_eq_true rfl, Nat.le_of_ble_eq_true rfl⟩⟩
    · exact ⟨-99999999, σ, n, h, fun _ => rfl, rfl, ⟨_, 1, 6, fun a sz => c_L_price_x7 l D cI a sz σ pr g1 g2 hlf, rfl, rfl, Nat.le_of_ble_eq_true rfl, Nat.le_of_ble_eq_true rfl, fun z => absurd rfl z, Nat.le_of_ble_eq_true rfl, Nat.le_of_ble_eq_true rfl⟩⟩
  · exact ⟨-99999999, σ, n, h, fun _ => rfl, rfl, ⟨_, 1, 6, fun a sz => c_L_price_x3 l D cI a sz σ pr g1 hlf, rfl, rfl, Nat.le_of_ble_eq_true rfl, Nat.le_of_ble_eq_true rfl, fun z => absurd rfl z, Nat.le_of_ble_eq_true rfl, Nat.le_of_ble_eq_true rfl⟩⟩
theorem act_promise {l : Launch} {D : va_G} {cI : ClassId} {σ : Sg} {n : Nat} {ri st : Int32} (h : MC σ n) (hlf : l.stackTraces = false) : ∃ (k : Int32) (σ' : Sg) (n' : Nat), MC σ' n' ∧ (k = -99999999 → σ' = σ) ∧ σ' 0 5 = σ 0 5 ∧ Act 8 200 l D cI yL_promise wsL_promise [.int ri, .int st] σ k σ' := by
  by_cases g1 : vp_in ri 10
  · by_cases g2 : vp_in st 8
    · by_cases g3 : r_X4_isFull σ = 0
      · have hlt : n < 300 := (isF_iff h.1.1 h.1.2.2.1).mp g3
        obtain ⟨i1, h1, e1⟩ := vp_in_of g1 (by decide)
        obtain ⟨i2, h2, e2⟩ := vp_in_of g2 (by decide)
        have ht : tOK 8 ri st := Or.inr (Or.inr (Or.inr (Or.inr (Or.inr (Or.inr (Or.inr (Or.inr (⟨rfl, i1, i2, h1, h2, e1, e2⟩))))))))
        have q := hear_MC h hlt ht (pOK_now h (by decide)) (Int32.le_refl _)
        exact ⟨_, _, n + 1, q.2.1, fun z => absurd z (k01 _), q.2.2, ⟨_, 0, 0, fun a sz => c_L_promise l D cI a sz σ ri st n n g1 g2 hlt h.1.1 q.1, rfl, rfl, Nat.le_of_ble_eq_true rfl, Nat.le_of_ble_eq_true rfl, fun _ => ⟨rfl, rfl⟩, Nat.le_of_ble_eq_true rfl, Nat.le_of_ble_eq_true rfl⟩⟩
      · exact ⟨-99999999, σ, n, h, fun _ => rfl, rfl, ⟨_, 1, 6, fun a sz => c_L_promise_x9 l D cI a sz σ ri st g1 g2 g3 hlf, rfl, rfl, Nat.le_of_ble_eq_true rfl, Nat.le_of_ble_eq_true rfl, fun z => absurd rfl z, Nat.le_of_ble_eq_true rfl, Nat.le_of_ble_eq_true rfl⟩⟩
    · exact ⟨-99999999, σ, n, h, fun _ => rfl, rfl, ⟨_, 1, 6, fun a sz => c_L_promise_x5 l D cI a sz σ ri st g1 g2 hlf, rfl, rfl, Nat.le_of_ble_eq_true rfl, Nat.le_of_ble_eq_true rfl, fun z => absurd rfl z, Nat.le_of_ble_eq_true rfl, Nat.le_of_ble_eq_true rfl⟩⟩
  · exact ⟨-99999999, σ, n, h, fun _ => rfl, rfl, ⟨_, 1, 6, fun a sz => c_L_promise_x1 l D cI a sz σ ri st g1 hlf, rfl, rfl, Nat.le_of_ble_eq_true rfl, Nat.le_of_ble_eq_true rfl, fun z => absurd rfl z, Nat.le_of_ble_eq_true rfl, Nat.le_of_ble_eq_true rfl⟩⟩
theorem act_cycle {l : Launch} {D : va_G} {cI : ClassId} {σ : Sg} {n : Nat} {cy its : Int32} (h : MC σ n) (hlf : l.stackTraces = false) : ∃ (k : Int32) (σ' : Sg) (n' : Nat), MC σ' n' ∧ (k = -99999999 → σ' = σ) ∧ σ' 0 5 = σ 0 5 ∧ Act 8 200 l D cI yL_cycle wsL_cycle [.int cy, .int its] σ k σ' := by
  by_cases g1 : vp_in cy 30
  · by_cases g2 : vp_in its 4
    · exact ⟨_, σ, n, h, fun _ => rfl, rfl, ⟨_, 0, 0, fun a sz => c_L_cycle l D cI a sz σ cy its g1 g2, rfl, rfl, Nat.le_of_ble_eq_true rfl, Nat.le_of_ble_eq_true rfl, fun _ => ⟨rfl, rfl⟩, Nat.le_of_ble_eq_true rfl, Nat.le_of_ble_eq_true rfl⟩⟩
    · exact ⟨-99999999, σ, n, h, fun _ => rfl, rfl, ⟨_, 1, 6, fun a sz => c_L_cycle_xd l D cI a sz σ cy its g1 g2 hlf, rfl, rfl, Nat.le_of_ble_eq_true rfl, Nat.le_of_ble_eq_true rfl, fun z => absurd rfl z, Nat.le_of_ble_eq_true rfl, Nat.le_of_ble_eq_true rfl⟩⟩
  · exact ⟨-99999999, σ, n, h, fun _ => rfl, rfl, ⟨_, 1, 6, fun a sz => c_L_cycle_x1 l D cI a sz σ cy its g1 hlf, rfl, rfl, Nat.le_of_ble_eq_true rfl, Nat.le_of_ble_eq_true rfl, fun z => absurd rfl z, Nat.le_of_ble_eq_true rfl, Nat.le_of_ble_eq_true rfl⟩⟩
theorem act_station {l : Launch} {D : va_G} {cI : ClassId} {σ : Sg} {n : Nat} {st its : Int32} (h : MC σ n) (hlf : l.stackTraces = false) : ∃ (k : Int32) (σ' : Sg) (n' : Nat), MC σ' n' ∧ (k = -99999999 → σ' = σ) ∧ σ' 0 5 = σ 0 5 ∧ Act 8 200 l D cI yL_station wsL_station [.int st, .int its] σ k σ' := by
  by_cases g1 : vp_in st 8
  · by_cases g2 : vp_in its 5
    · exact ⟨_, σ, n, h, fun _ => rfl, rfl, ⟨_, 0, 0, fun a sz => c_L_station l D cI a sz σ st its g1 g2, rfl, rfl, Nat.le_of_ble_eq_true rfl, Nat.le_of_ble_eq_true rfl, fun _ => ⟨rfl, rfl⟩, Nat.le_of_ble_eq_true rfl, Nat.le_of_ble_eq_true rfl⟩⟩
    · exact ⟨-99999999, σ, n, h, fun _ => rfl, rfl, ⟨_, 1, 6, fun a sz => c_L_station_xd l D cI a sz σ st its g1 g2 hlf, rfl, rfl, Nat.le_of_ble_eq_true rfl, Nat.le_of_ble_eq_true rfl, fun z => absurd rfl z, Nat.le_of_ble_eq_true rfl, Nat.le_of_ble_eq_true rfl⟩⟩
  · exact ⟨-99999999, σ, n, h, fun _ => rfl, rfl, ⟨_, 1, 6, fun a sz => c_L_station_x1 l D cI a sz σ st its g1 hlf, rfl, rfl, Nat.le_of_ble_eq_true rfl, Nat.le_of_ble_eq_true rfl, fun z => absurd rfl z, Nat.le_of_ble_eq_true rfl, Nat.le_of_ble_eq_true rfl⟩⟩
theorem act_rider {l : Launch} {D : va_G} {cI : ClassId} {σ : Sg} {n : Nat} {ri its : Int32} (h : MC σ n) (hlf : l.stackTraces = false) : ∃ (k : Int32) (σ' : Sg) (n' : Nat), MC σ' n' ∧ (k = -99999999 → σ' = σ) ∧ σ' 0 5 = σ 0 5 ∧ Act 8 200 l D cI yL_rider wsL_rider [.int ri, .int its] σ k σ' := by
  by_cases g1 : vp_in ri 10
  · by_cases g2 : vp_in its 5
    · exact ⟨_, σ, n, h, fun _ => rfl, rfl, ⟨_, 0, 0, fun a sz => c_L_rider l D cI a sz σ ri its g1 g2, rfl, rfl, Nat.le_of_ble_eq_true rfl, Nat.le_of_ble_eq_true rfl, fun _ => ⟨rfl, rfl⟩, Nat.le_of_ble_eq_true rfl, Nat.le_of_ble_eq_true rfl⟩⟩
    · exact ⟨-99999999, σ, n, h, fun _ => rfl, rfl, ⟨_, 1, 6, fun a sz => c_L_rider_xd l D cI a sz σ ri its g1 g2 hlf, rfl, rfl, Nat.le_of_ble_eq_true rfl, Nat.le_of_ble_eq_true rfl, fun z => absurd rfl z, Nat.le_of_ble_eq_true rfl, Nat.le_of_ble_eq_true rfl⟩⟩
  · exact ⟨-99999999, σ, n, h, fun _ => rfl, rfl, ⟨_, 1, 6, fun a sz => c_L_rider_x1 l D cI a sz σ ri its g1 hlf, rfl, rfl, Nat.le_of_ble_eq_true rfl, Nat.le_of_ble_eq_true rfl, fun z => absurd rfl z, Nat.le_of_ble_eq_true rfl, Nat.le_of_ble_eq_true rfl⟩⟩
theorem act_nearest {l : Launch} {D : va_G} {cI : ClassId} {σ : Sg} {n : Nat} {st : Int32} (h : MC σ n) (hlf : l.stackTraces = false) : ∃ (k : Int32) (σ' : Sg) (n' : Nat), MC σ' n' ∧ (k = -99999999 → σ' = σ) ∧ σ' 0 5 = σ 0 5 ∧ Act 8 200 l D cI yL_nearest wsL_nearest [.int st] σ k σ' := by
  by_cases g1 : vp_in st 8
  · exact ⟨_, σ, n, h, fun _ => rfl, rfl, ⟨_, 0, 0, fun a sz => c_L_nearest l D cI a sz σ st g1 h.2.1, rfl, rfl, Nat.le_of_ble_eq_true rfl, Nat.le_of_ble_eq_true rfl, fun _ => ⟨rfl, rfl⟩, Nat.le_of_ble_eq_true rfl, Nat.le_of_ble_eq_true rfl⟩⟩
  · exact ⟨-99999999, σ, n, h, fun _ => rfl, rfl, ⟨_, 1, 6, fun a sz => c_L_nearest_x1 l D cI a sz σ st g1 hlf, rfl, rfl, Nat.le_of_ble_eq_true rfl, Nat.le_of_ble_eq_true rfl, fun z => absurd rfl z, Nat.le_of_ble_eq_true rfl, Nat.le_of_ble_eq_true rfl⟩⟩
theorem act_way {l : Launch} {D : va_G} {cI : ClassId} {σ : Sg} {n : Nat} {st ot : Int32} (h : MC σ n) (hlf : l.stackTraces = false) : ∃ (k : Int32) (σ' : Sg) (n' : Nat), MC σ' n' ∧ (k = -99999999 → σ' = σ) ∧ σ' 0 5 = σ 0 5 ∧ Act 8 200 l D cI yL_way wsL_way [.int st, .int ot] σ k σ' := by
  by_cases g1 : vp_in st 8
  · by_cases g2 : vp_in ot 8
    · exact ⟨_, σ, n, h, fun _ => rfl, rfl, ⟨_, 0, 0, fun a sz => c_L_way l D cI a sz σ st ot g1 g2 h.2.1, rfl, rfl, Nat.le_of_ble_eq_true rfl, Nat.le_of_ble_eq_true rfl, fun _ => ⟨rfl, rfl⟩, Nat.le_of_ble_eq_true rfl, Nat.le_of_ble_eq_true rfl⟩⟩
    · exact ⟨-99999999, σ, n, h, fun _ => rfl, rfl, ⟨_, 1, 6, fun a sz => c_L_way_x5 l D cI a sz σ st ot g1 g2 hlf, rfl, rfl, Nat.le_of_ble_eq_true rfl, Nat.le_of_ble_eq_true rfl, fun z => absurd rfl z, Nat.le_of_ble_eq_true rfl, Nat.le_of_ble_eq_true rfl⟩⟩
  · exact ⟨-99999999, σ, n, h, fun _ => rfl, rfl, ⟨_, 1, 6, fun a sz => c_L_way_x1 l D cI a sz σ st ot g1 hlf, rfl, rfl, Nat.le_of_ble_eq_true rfl, Nat.le_of_ble_eq_true rfl, fun z => absurd rfl z, Nat.le_of_ble_eq_true rfl, Nat.le_of_ble_eq_true rfl⟩⟩
