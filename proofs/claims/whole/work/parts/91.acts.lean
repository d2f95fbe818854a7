/-- one call of the law's own, what it gives and costs -/
def Act (l : Launch) (D : va_G) (cI cJ : ClassId) (a : Nat → Nat) (o sz : Nat) (y : MethodName) (ws : List Cond) (av : List Value) (σ : Sg) (f : Nat → Int64) (k : Int32) (σ' : Sg) (f' : Nat → Int64) : Prop :=
  ∃ (rm : Room) (mc ms : Nat), Met l y ws rm (PcO D cI cJ a o sz σ f av) (QiO D cI cJ a o sz k σ' f') mc ms (AO a o sz) ∧ rm.cells = mc ∧ rm.slots = ms ∧ mc ≤ 1 ∧ ms ≤ 6 ∧ rm.frames ≤ 10 ∧ rm.locals ≤ 350
theorem act_lies {l : Launch} {D : va_G} {cI cJ : ClassId} {a : Nat → Nat} {o sz : Nat} {σ μ : Sg} {n : Nat} {f : Nat → Int64} {st ea no hi : Int32} (h : MI σ μ n) (hlf : l.stackTraces = false) : ∃ (k : Int32) (σ' : Sg) (f' : Nat → Int64) (n' : Nat), Act l D cI cJ a o sz yL_lies wsL_lies [.ref (a 0), .int st, .int ea, .int no, .int hi] σ f k σ' f' ∧ (s_X6_lies μ st ea no hi) 0 0 = k ∧ MI σ' (s_X6_lies μ st ea no hi) n' := by
  obtain ⟨p1, p2, pg⟩ := p_lies (st := st) (ea := ea) (no := no) (hi := hi) h
  by_cases g1 : vp_in st 8
  · by_cases g2 : (¬ ea < 0 ∧ ea ≤ 99)
    · by_cases g3 : (¬ no < 0 ∧ no ≤ 99)
      · by_cases g4 : (¬ hi < 0 ∧ hi ≤ 99)
        · obtain ⟨e0, hm⟩ := pg g1 g2 g3 g4
          exact ⟨0, _, _, n, ⟨_, _, _, c_L_lies l D cI cJ a o sz σ f st ea no hi g1 g2 g3 g4, rfl, rfl, Nat.le_of_ble_eq_true rfl, Nat.le_of_ble_eq_true rfl, Nat.le_of_ble_eq_true rfl, Nat.le_of_ble_eq_true rfl⟩, e0, hm⟩
        · exact ⟨2, σ, f, n, ⟨_, _, _, c_L_lies_x20 l D cI cJ a o sz σ f st ea no hi g1 g2 g3 g4 hlf, rfl, rfl, Nat.le_of_ble_eq_true rfl, Nat.le_of_ble_eq_true rfl, Nat.le_of_ble_eq_true rfl, Nat.le_of_ble_eq_true rfl⟩, (p2 g1 (fun z => g4 z.2.2)).1, (p2 g1 (fun z => g4 z.2.2)).2⟩
      · exact ⟨2, σ, f, n, ⟨_, _, _, c_L_lies_x13 l D cI cJ a o sz σ f st ea no hi g1 g2 g3 hlf, rfl, rfl, Nat.le_of_ble_eq_true rfl, Nat.le_of_ble_eq_true rfl, Nat.le_of_ble_eq_true rfl, Nat.le_of_ble_eq_true rfl⟩, (p2 g1 (fun z => g3 z.2.1)).1, (p2 g1 (fun z => g3 z.2.1)).2⟩
    · exact ⟨2, σ, f, n, ⟨_, _, _, c_L_lies_x7 l D cI cJ a o sz σ f st ea no hi g1 g2 hlf, rfl, rfl, Nat.le_of_ble_eq_true rfl, Nat.le_of_ble_eq_true rfl, Nat.le_of_ble_eq_true rfl, Nat.le_of_ble_eq_true rfl⟩, (p2 g1 (fun z => g2 z.1)).1, (p2 g1 (fun z => g2 z.1)).2⟩
  · exact ⟨1, σ, f, n, ⟨_, _, _, c_L_lies_x1 l D cI cJ a o sz σ f st ea no hi g1 hlf, rfl, rfl, Nat.le_of_ble_eq_true rfl, Nat.le_of_ble_eq_true rfl, Nat.le_of_ble_eq_true rfl, Nat.le_of_ble_eq_true rfl⟩, (p1 g1).1, (p1 g1).2⟩
theorem act_pass {l : Launch} {D : va_G} {cI cJ : ClassId} {a : Nat → Nat} {o sz : Nat} {σ μ : Sg} {n : Nat} {f : Nat → Int64} {mi : Int32} (h : MI σ μ n) (hlf : l.stackTraces = false) : ∃ (k : Int32) (σ' : Sg) (f' : Nat → Int64) (n' : Nat), Act l D cI cJ a o sz yL_pass wsL_pass [.ref (a 0), .int mi, .ref o] σ f k σ' f' ∧ (s_X6_pass μ mi) 0 0 = k ∧ (k = 0 → f' 0 = Int32.toInt64 (r_X6_pass μ mi)) ∧ MI σ' (s_X6_pass μ mi) n' := by
  obtain ⟨p1, p2, pg⟩ := p_pass (mi := mi) h
  by_cases g1 : (¬ mi < 1 ∧ mi ≤ 600)
  · by_cases g2 : σ 0 5 + mi ≤ 20000
    · obtain ⟨e0, er, hm⟩ := pg g1.1 g1.2 g2
      exact ⟨0, _, _, n, ⟨_, _, _, c_L_pass l D cI cJ a o sz σ f mi g1.1 g1.2 g2, rfl, rfl, Nat.le_of_ble_eq_true rfl, Nat.le_of_ble_eq_true rfl, Nat.le_of_ble_eq_true rfl, Nat.le_of_ble_eq_true rfl⟩, e0, fun _ => by rw [pk_uLs, er], hm⟩
    · exact ⟨2, σ, f, n, ⟨_, _, _, c_L_pass_x34 l D cI cJ a o sz σ f mi g1.1 g1.2 g2 hlf, rfl, rfl, Nat.le_of_ble_eq_true rfl, Nat.le_of_ble_eq_true rfl, Nat.le_of_ble_eq_true rfl, Nat.le_of_ble_eq_true rfl⟩, (p2 g1.1 g1.2 g2).1, fun z => absurd z (by decide), (p2 g1.1 g1.2 g2).2⟩
  · exact ⟨1, σ, f, n, ⟨_, _, _, c_L_pass_x12 l D cI cJ a o sz σ f mi g1 hlf, rfl, rfl, Nat.le_of_ble_eq_true rfl, Nat.le_of_ble_eq_true rfl, Nat.le_of_ble_eq_true rfl, Nat.le_of_ble_eq_true rfl⟩, (p1 g1).1, fun z => absurd z (by decide), (p1 g1).2⟩
theorem act_docks {l : Launch} {D : va_G} {cI cJ : ClassId} {a : Nat → Nat} {o sz : Nat} {σ μ : Sg} {n : Nat} {f : Nat → Int64} {st pl : Int32} (h : MI σ μ n) (hlf : l.stackTraces = false) : ∃ (k : Int32) (σ' : Sg) (f' : Nat → Int64) (n' : Nat), Act l D cI cJ a o sz yL_docks wsL_docks [.ref (a 0), .int st, .int pl] σ f k σ' f' ∧ (s_X6_docks μ st pl n) 0 0 = k ∧ MI σ' (s_X6_docks μ st pl n) n' := by
  obtain ⟨p1, p2, p3, pg⟩ := p_docks (st := st) (pl := pl) h
  by_cases g1 : vp_in st 8
  · by_cases g2 : (¬ pl < 0 ∧ pl ≤ 20)
    · by_cases g3 : r_X4_isFull σ = 0
      · obtain ⟨hlt, hh, e0, hm⟩ := pg g1 g2 g3
        exact ⟨0, _, _, n + 1, ⟨_, _, _, c_L_docks l D cI cJ a o sz σ f st pl n n g1 g2 hlt h.1.1 hh, rfl, rfl, Nat.le_of_ble_eq_true rfl, Nat.le_of_ble_eq_true rfl, Nat.le_of_ble_eq_true rfl, Nat.le_of_ble_eq_true rfl⟩, e0, hm⟩
      · exact ⟨3, σ, f, n, ⟨_, _, _, c_L_docks_x11 l D cI cJ a o sz σ f st pl g1 g2 g3 hlf, rfl, rfl, Nat.le_of_ble_eq_true rfl, Nat.le_of_ble_eq_true rfl, Nat.le_of_ble_eq_true rfl, Nat.le_of_ble_eq_true rfl⟩, (p3 g1 g2 g3).1, (p3 g1 g2 g3).2⟩
    · exact ⟨2, σ, f, n, ⟨_, _, _, c_L_docks_x7 l D cI cJ a o sz σ f st pl g1 g2 hlf, rfl, rfl, Nat.le_of_ble_eq_true rfl, Nat.le_of_ble_eq_true rfl, Nat.le_of_ble_eq_true rfl, Nat.le_of_ble_eq_true rfl⟩, (p2 g1 g2).1, (p2 g1 g2).2⟩
  · exact ⟨1, σ, f, n, ⟨_, _, _, c_L_docks_x1 l D cI cJ a o sz σ f st pl g1 hlf, rfl, rfl, Nat.le_of_ble_eq_true rfl, Nat.le_of_ble_eq_true rfl, Nat.le_of_ble_eq_true rfl, Nat.le_of_ble_eq_true rfl⟩, (p1 g1).1, (p1 g1).2⟩
theorem act_put {l : Launch} {D : va_G} {cI cJ : ClassId} {a : Nat → Nat} {o sz : Nat} {σ μ : Sg} {n : Nat} {f : Nat → Int64} {cy st : Int32} (h : MI σ μ n) (hlf : l.stackTraces = false) : ∃ (k : Int32) (σ' : Sg) (f' : Nat → Int64) (n' : Nat), Act l D cI cJ a o sz yL_put wsL_put [.ref (a 0), .int cy, .int st, .ref o] σ f k σ' f' ∧ (s_X6_put μ cy st n) 0 0 = k ∧ (k = 0 → f' 0 = (if r_X6_put μ cy st n = 0 then 0 else 1)) ∧ MI σ' (s_X6_put μ cy st n) n' := by
  obtain ⟨p1, p2, p3, pg, -⟩ := p_put (cy := cy) (st := st) h
  by_cases g1 : vp_in cy 30
  · by_cases g2 : vp_in st 8
    · by_cases g3 : r_X4_isFull σ = 0
      · obtain ⟨hlt, hh, e0, er, hm⟩ := pg g1 g2 g3
        exact ⟨0, _, _, n + 1, ⟨_, _, _, c_L_put l D cI cJ a o sz σ f cy st n n g1 g2 hlt h.1.1 hh, rfl, rfl, Nat.le_of_ble_eq_true rfl, Nat.le_of_ble_eq_true rfl, Nat.le_of_ble_eq_true rfl, Nat.le_of_ble_eq_true rfl⟩, e0, fun _ => by rw [pk_uLs, er], hm⟩
      · exact ⟨2, σ, f, n, ⟨_, _, _, c_L_put_x9 l D cI cJ a o sz σ f cy st g1 g2 g3 hlf, rfl, rfl, Nat.le_of_ble_eq_true rfl, Nat.le_of_ble_eq_true rfl, Nat.le_of_ble_eq_true rfl, Nat.le_of_ble_eq_true rfl⟩, (p3 g1 g2 g3).1, fun z => absurd z (by decide), (p3 g1 g2 g3).2⟩
    · exact ⟨1, σ, f, n, ⟨_, _, _, c_L_put_x5 l D cI cJ a o sz σ f cy st g1 g2 hlf, rfl, rfl, Nat.le_of_ble_eq_true rfl, Nat.le_of_ble_eq_true rfl, Nat.le_of_ble_eq_true rfl, Nat.le_of_ble_eq_true rfl⟩, (p2 g1 g2).1, fun z => absurd z (by decide), (p2 g1 g2).2⟩
  · exact ⟨1, σ, f, n, ⟨_, _, _, c_L_put_x1 l D cI cJ a o sz σ f cy st g1 hlf, rfl, rfl, Nat.le_of_ble_eq_true rfl, Nat.le_of_ble_eq_true rfl, Nat.le_of_ble_eq_true rfl, Nat.le_of_ble_eq_true rfl⟩, (p1 g1).1, fun z => absurd z (by decide), (p1 g1).2⟩
theorem act_take {l : Launch} {D : va_G} {cI cJ : ClassId} {a : Nat → Nat} {o sz : Nat} {σ μ : Sg} {n : Nat} {f : Nat → Int64} {cy : Int32} (h : MI σ μ n) (hlf : l.stackTraces = false) : ∃ (k : Int32) (σ' : Sg) (f' : Nat → Int64) (n' : Nat), Act l D cI cJ a o sz yL_take wsL_take [.ref (a 0), .int cy, .ref o] σ f k σ' f' ∧ (s_X6_take μ cy n) 0 0 = k ∧ (k = 0 → f' 0 = (if r_X6_take μ cy n = 0 then 0 else 1)) ∧ MI σ' (s_X6_take μ cy n) n' := by
  obtain ⟨p1, p2, pg, -⟩ := p_take (cy := cy) h
  by_cases g1 : vp_in cy 30
  · by_cases g2 : r_X4_isFull σ = 0
    · obtain ⟨hlt, hh, e0, er, hm⟩ := pg g1 g2
      exact ⟨0, _, _, n + 1, ⟨_, _, _, c_L_take l D cI cJ a o sz σ f cy n n g1 hlt h.1.1 hh, rfl, rfl, Nat.le_of_ble_eq_true rfl, Nat.le_of_ble_eq_true rfl, Nat.le_of_ble_eq_true rfl, Nat.le_of_ble_eq_true rfl⟩, e0, fun _ => by rw [pk_uLs, er], hm⟩
    · exact ⟨2, σ, f, n, ⟨_, _, _, c_L_take_x5 l D cI cJ a o sz σ f cy g1 g2 hlf, rfl, rfl, Nat.le_of_ble_eq_true rfl, Nat.le_of_ble_eq_true rfl, Nat.le_of_ble_eq_true rfl, Nat.le_of_ble_eq_true rfl⟩, (p2 g1 g2).1, fun z => absurd z (by decide), (p2 g1 g2).2⟩
  · exact ⟨1, σ, f, n, ⟨_, _, _, c_L_take_x1 l D cI cJ a o sz σ f cy g1 hlf, rfl, rfl, Nat.le_of_ble_eq_true rfl, Nat.le_of_ble_eq_true rfl, Nat.le_of_ble_eq_true rfl, Nat.le_of_ble_eq_true rfl⟩, (p1 g1).1, fun z => absurd z (by decide), (p1 g1).2⟩
theorem act_unlocked {l : Launch} {D : va_G} {cI cJ : ClassId} {a : Nat → Nat} {o sz : Nat} {σ μ : Sg} {n : Nat} {f : Nat → Int64} {cy ri wh : Int32} (h : MI σ μ n) (hlf : l.stackTraces = false) : ∃ (k : Int32) (σ' : Sg) (f' : Nat → Int64) (n' : Nat), Act l D cI cJ a o sz yL_unlocked wsL_unlocked [.ref (a 0), .int cy, .int ri, .int wh, .ref o] σ f k σ' f' ∧ (s_X6_unlocked μ cy ri wh n) 0 0 = k ∧ (k = 0 → f' 0 = (if r_X6_unlocked μ cy ri wh n = 0 then 0 else 1)) ∧ MI σ' (s_X6_unlocked μ cy ri wh n) n' := by
  obtain ⟨p1, p2, p3, p4, pg⟩ := p_unlocked (cy := cy) (ri := ri) (wh := wh) h
  by_cases g1 : vp_in cy 30
  · by_cases g2 : vp_in ri 10
    · by_cases g3 : hW σ wh
      · by_cases g4 : r_X4_isFull σ = 0
        · obtain ⟨hlt, hh, e0, er, n2, hm⟩ := pg g1 g2 g3 g4
          exact ⟨0, _, _, n2, ⟨_, _, _, c_L_unlocked l D cI cJ a o sz σ f cy ri wh n n g1 g2 g3 hlt h.1.1 hh, rfl, rfl, Nat.le_of_ble_eq_true rfl, Nat.le_of_ble_eq_true rfl, Nat.le_of_ble_eq_true rfl, Nat.le_of_ble_eq_true rfl⟩, e0, fun _ => by rw [pk_uLs, er], hm⟩
        · exact ⟨3, σ, f, n, ⟨_, _, _, c_L_unlocked_x14 l D cI cJ a o sz σ f cy ri wh g1 g2 g3 g4 hlf, rfl, rfl, Nat.le_of_ble_eq_true rfl, Nat.le_of_ble_eq_true rfl, Nat.le_of_ble_eq_true rfl, Nat.le_of_ble_eq_true rfl⟩, (p4 g1 g2 g3 g4).1, fun z => absurd z (by decide), (p4 g1 g2 g3 g4).2⟩
      · exact ⟨2, σ, f, n, ⟨_, _, _, c_L_unlocked_x10 l D cI cJ a o sz σ f cy ri wh g1 g2 g3 hlf, rfl, rfl, Nat.le_of_ble_eq_true rfl, Nat.le_of_ble_eq_true rfl, Nat.le_of_ble_eq_true rfl, Nat.le_of_ble_eq_true rfl⟩, (p3 g1 g2 g3).1, fun z => absurd z (by decide), (p3 g1 g2 g3).2⟩
    · exact ⟨1, σ, f, n, ⟨_, _, _, c_L_unlocked_x5 l D cI cJ a o sz σ f cy ri wh g1 g2 hlf, rfl, rfl, Nat.le_of_ble_eq_true rfl, Nat.le_of_ble_eq_true rfl, Nat.le_of_ble_eq_true rfl, Nat.le_of_ble_eq_true rfl⟩, (p2 g1 g2).1, fun z => absurd z (by decide), (p2 g1 g2).2⟩
  · exact ⟨1, σ, f, n, ⟨_, _, _, c_L_unlocked_x1 l D cI cJ a o sz σ f cy ri wh g1 hlf, rfl, rfl, Nat.le_of_ble_eq_true rfl, Nat.le_of_ble_eq_true rfl, Nat.le_of_ble_eq_true rfl, Nat.le_of_ble_eq_true rfl⟩, (p1 g1).1, fun z => absurd z (by decide), (p1 g1).2⟩
theorem act_locked {l : Launch} {D : va_G} {cI cJ : ClassId} {a : Nat → Nat} {o sz : Nat} {σ μ : Sg} {n : Nat} {f : Nat → Int64} {cy st wh : Int32} (h : MI σ μ n) (hlf : l.stackTraces = false) : ∃ (k : Int32) (σ' : Sg) (f' : Nat → Int64) (n' : Nat), Act l D cI cJ a o sz yL_locked wsL_locked [.ref (a 0), .int cy, .int st, .int wh, .ref o] σ f k σ' f' ∧ (s_X6_locked μ cy st wh n) 0 0 = k ∧ (k = 0 → f' 0 = (if r_X6_locked μ cy st wh n = 0 then 0 else 1)) ∧ MI σ' (s_X6_locked μ cy st wh n) n' := by
  obtain ⟨p1, p2, p3, p4, pg⟩ := p_locked (cy := cy) (st := st) (wh := wh) h
  by_cases g1 : vp_in cy 30
  · by_cases g2 : vp_in st 8
    · by_cases g3 : hW σ wh
      · by_cases g4 : r_X4_isFull σ = 0
        · obtain ⟨hlt, hh, e0, er, n2, hm⟩ := pg g1 g2 g3 g4
          exact ⟨0, _, _, n2, ⟨_, _, _, c_L_locked l D cI cJ a o sz σ f cy st wh n n g1 g2 g3 hlt h.1.1 hh, rfl, rfl, Nat.le_of_ble_eq_true rfl, Nat.le_of_ble_eq_true rfl, Nat.le_of_ble_eq_true rfl, Nat.le_of_ble_eq_true rfl⟩, e0, fun _ => by rw [pk_uLs, er], hm⟩
        · exact ⟨3, σ, f, n, ⟨_, _, _, c_L_locked_x14 l D cI cJ a o sz σ f cy st wh g1 g2 g3 g4 hlf, rfl, rfl, Nat.le_of_ble_eq_true rfl, Nat.le_of_ble_eq_true rfl, Nat.le_of_ble_eq_true rfl, Nat.le_of_ble_eq_true rfl⟩, (p4 g1 g2 g3 g4).1, fun z => absurd z (by decide), (p4 g1 g2 g3 g4).2⟩
      · exact ⟨2, σ, f, n, ⟨_, _, _, c_L_locked_x10 l D cI cJ a o sz σ f cy st wh g1 g2 g3 hlf, rfl, rfl, Nat.le_of_ble_eq_true rfl, Nat.le_of_ble_eq_true rfl, Nat.le_of_ble_eq_true rfl, Nat.le_of_ble_eq_true rfl⟩, (p3 g1 g2 g3).1, fun z => absurd z (by decide), (p3 g1 g2 g3).2⟩
    · exact ⟨1, σ, f, n, ⟨_, _, _, c_L_locked_x5 l D cI cJ a o sz σ f cy st wh g1 g2 hlf, rfl, rfl, Nat.le_of_ble_eq_true rfl, Nat.le_of_ble_eq_true rfl, Nat.le_of_ble_eq_true rfl, Nat.le_of_ble_eq_true rfl⟩, (p2 g1 g2).1, fun z => absurd z (by decide), (p2 g1 g2).2⟩
  · exact ⟨1, σ, f, n, ⟨_, _, _, c_L_locked_x1 l D cI cJ a o sz σ f cy st wh g1 hlf, rfl, rfl, Nat.le_of_ble_eq_true rfl, Nat.le_of_ble_eq_true rfl, Nat.le_of_ble_eq_true rfl, Nat.le_of_ble_eq_true rfl⟩, (p1 g1).1, fun z => absurd z (by decide), (p1 g1).2⟩
theorem act_faulty {l : Launch} {D : va_G} {cI cJ : ClassId} {a : Nat → Nat} {o sz : Nat} {σ μ : Sg} {n : Nat} {f : Nat → Int64} {cy ri wh : Int32} (h : MI σ μ n) (hlf : l.stackTraces = false) : ∃ (k : Int32) (σ' : Sg) (f' : Nat → Int64) (n' : Nat), Act l D cI cJ a o sz yL_faulty wsL_faulty [.ref (a 0), .int cy, .int ri, .int wh, .ref o] σ f k σ' f' ∧ (s_X6_faulty μ cy ri wh n) 0 0 = k ∧ (k = 0 → f' 0 = (if r_X6_faulty μ cy ri wh n = 0 then 0 else 1)) ∧ MI σ' (s_X6_faulty μ cy ri wh n) n' := by
  obtain ⟨p1, p2, p3, p4, pg⟩ := p_faulty (cy := cy) (ri := ri) (wh := wh) h
  by_cases g1 : vp_in cy 30
  · by_cases g2 : vp_in ri 10
    · by_cases g3 : hW σ wh
      · by_cases g4 : r_X4_isFull σ = 0
        · obtain ⟨hlt, hh, e0, er, n2, hm⟩ := pg g1 g2 g3 g4
          exact ⟨0, _, _, n2, ⟨_, _, _, c_L_faulty l D cI cJ a o sz σ f cy ri wh n n g1 g2 g3 hlt h.1.1 hh, rfl, rfl, Nat.le_of_ble_eq_true rfl, Nat.le_of_ble_eq_true rfl, Nat.le_of_ble_eq_true rfl, Nat.le_of_ble_eq_true rfl⟩, e0, fun _ => by rw [pk_uLs, er], hm⟩
        · exact ⟨3, σ, f, n, ⟨_, _, _, c_L_faulty_x14 l D cI cJ a o sz σ f cy ri wh g1 g2 g3 g4 hlf, rfl, rfl, Nat.le_of_ble_eq_true rfl, Nat.le_of_ble_eq_true rfl, Nat.le_of_ble_eq_true rfl, Nat.le_of_ble_eq_true rfl⟩, (p4 g1 g2 g3 g4).1, fun z => absurd z (by decide), (p4 g1 g2 g3 g4).2⟩
      · exact ⟨2, σ, f, n, ⟨_, _, _, c_L_faulty_x10 l D cI cJ a o sz σ f cy ri wh g1 g2 g3 hlf, rfl, rfl, Nat.le_of_ble_eq_true rfl, Nat.le_of_ble_eq_true rfl, Nat.le_of_ble_eq_true rfl, Nat.le_of_ble_eq_true rfl⟩, (p3 g1 g2 g3).1, fun z => absurd z (by decide), (p3 g1 g2 g3).2⟩
    · exact ⟨1, σ, f, n, ⟨_, _, _, c_L_faulty_x5 l D cI cJ a o sz σ f cy ri wh g1 g2 hlf, rfl, rfl, Nat.le_of_ble_eq_true rfl, Nat.le_of_ble_eq_true rfl, Nat.le_of_ble_eq_true rfl, Nat.le_of_ble_eq_true rfl⟩, (p2 g1 g2).1, fun z => absurd z (by decide), (p2 g1 g2).2⟩
  · exact ⟨1, σ, f, n, ⟨_, _, _, c_L_faulty_x1 l D cI cJ a o sz σ f cy ri wh g1 hlf, rfl, rfl, Nat.le_of_ble_eq_true rfl, Nat.le_of_ble_eq_true rfl, Nat.le_of_ble_eq_true rfl, Nat.le_of_ble_eq_true rfl⟩, (p1 g1).1, fun z => absurd z (by decide), (p1 g1).2⟩
theorem act_mend {l : Launch} {D : va_G} {cI cJ : ClassId} {a : Nat → Nat} {o sz : Nat} {σ μ : Sg} {n : Nat} {f : Nat → Int64} {cy : Int32} (h : MI σ μ n) (hlf : l.stackTraces = false) : ∃ (k : Int32) (σ' : Sg) (f' : Nat → Int64) (n' : Nat), Act l D cI cJ a o sz yL_mend wsL_mend [.ref (a 0), .int cy, .ref o] σ f k σ' f' ∧ (s_X6_mend μ cy n) 0 0 = k ∧ (k = 0 → f' 0 = (if r_X6_mend μ cy n = 0 then 0 else 1)) ∧ MI σ' (s_X6_mend μ cy n) n' := by
  obtain ⟨p1, p2, pg, -⟩ := p_mend (cy := cy) h
  by_cases g1 : vp_in cy 30
  · by_cases g2 : r_X4_isFull σ = 0
    · obtain ⟨hlt, hh, e0, er, hm⟩ := pg g1 g2
      exact ⟨0, _, _, n + 1, ⟨_, _, _, c_L_mend l D cI cJ a o sz σ f cy n n g1 hlt h.1.1 hh, rfl, rfl, Nat.le_of_ble_eq_true rfl, Nat.le_of_ble_eq_true rfl, Nat.le_of_ble_eq_true rfl, Nat.le_of_ble_eq_true rfl⟩, e0, fun _ => by rw [pk_uLs, er], hm⟩
    · exact ⟨2, σ, f, n, ⟨_, _, _, c_L_mend_x5 l D cI cJ a o sz σ f cy g1 g2 hlf, rfl, rfl, Nat.le_of_ble_eq_true rfl, Nat.le_of_ble_eq_true rfl, Nat.le_of_ble_eq_true rfl, Nat.le_of_ble_eq_true rfl⟩, (p2 g1 g2).1, fun z => absurd z (by decide), (p2 g1 g2).2⟩
  · exact ⟨1, σ, f, n, ⟨_, _, _, c_L_mend_x1 l D cI cJ a o sz σ f cy g1 hlf, rfl, rfl, Nat.le_of_ble_eq_true rfl, Nat.le_of_ble_eq_true rfl, Nat.le_of_ble_eq_true rfl, Nat.le_of_ble_eq_true rfl⟩, (p1 g1).1, fun z => absurd z (by decide), (p1 g1).2⟩
theorem act_price {l : Launch} {D : va_G} {cI cJ : ClassId} {a : Nat → Nat} {o sz : Nat} {σ μ : Sg} {n : Nat} {f : Nat → Int64} {pr : Int32} (h : MI σ μ n) (hlf : l.stackTraces = false) : ∃ (k : Int32) (σ' : Sg) (f' : Nat → Int64) (n' : Nat), Act l D cI cJ a o sz yL_price wsL_price [.ref (a 0), .int pr] σ f k σ' f' ∧ (s_X6_price μ pr n) 0 0 = k ∧ MI σ' (s_X6_price μ pr n) n' := by
  obtain ⟨p1, p2, pg⟩ := p_price (pr := pr) h
  by_cases g1 : (¬ pr < 0 ∧ pr ≤ 99)
  · by_cases g2 : r_X4_isFull σ = 0
    · obtain ⟨hlt, hh, e0, hm⟩ := pg g1 g2
      exact ⟨0, _, _, n + 1, ⟨_, _, _, c_L_price l D cI cJ a o sz σ f pr n n g1 hlt h.1.1 hh, rfl, rfl, Nat.le_of_ble_eq_true rfl, Nat.le_of_ble_eq_true rfl, Nat.le_of_ble_eq_true rfl, Nat.le_of_ble_eq_true rfl⟩, e0, hm⟩
    · exact ⟨2, σ, f, n, ⟨_, _, _, c_L_price_x7 l D cI cJ a o sz σ f pr g1 g2 hlf, rfl, rfl, Nat.le_of_ble_eq_true rfl, Nat.le_of_ble_eq_true rfl, Nat.le_of_ble_eq_true rfl, Nat.le_of_ble_eq_true rfl⟩, (p2 g1 g2).1, (p2 g1 g2).2⟩
  · exact ⟨1, σ, f, n, ⟨_, _, _, c_L_price_x3 l D cI cJ a o sz σ f pr g1 hlf, rfl, rfl, Nat.le_of_ble_eq_true rfl, Nat.le_of_ble_eq_true rfl, Nat.le_of_ble_eq_true rfl, Nat.le_of_ble_eq_true rfl⟩, (p1 g1).1, (p1 g1).2⟩
theorem act_promise {l : Launch} {D : va_G} {cI cJ : ClassId} {a : Nat → Nat} {o sz : Nat} {σ μ : Sg} {n : Nat} {f : Nat → Int64} {ri st : Int32} (h : MI σ μ n) (hlf : l.stackTraces = false) : ∃ (k : Int32) (σ' : Sg) (f' : Nat → Int64) (n' : Nat), Act l D cI cJ a o sz yL_promise wsL_promise [.ref (a 0), .int ri, .int st, .ref o] σ f k σ' f' ∧ (s_X6_promise μ ri st n) 0 0 = k ∧ (k = 0 → f' 0 = (if r_X6_promise μ ri st n = 0 then 0 else 1)) ∧ MI σ' (s_X6_promise μ ri st n) n' := by
  obtain ⟨p1, p2, p3, pg, -⟩ := p_promise (ri := ri) (st := st) h
  by_cases g1 : vp_in ri 10
  · by_cases g2 : vp_in st 8
    · by_cases g3 : r_X4_isFull σ = 0
      · obtain ⟨hlt, hh, e0, er, hm⟩ := pg g1 g2 g3
        exact ⟨0, _, _, n + 1, ⟨_, _, _, c_L_promise l D cI cJ a o sz σ f ri st n n g1 g2 hlt h.1.1 hh, rfl, rfl, Nat.le_of_ble_eq_true rfl, Nat.le_of_ble_eq_true rfl, Nat.le_of_ble_eq_true rfl, Nat.le_of_ble_eq_true rfl⟩, e0, fun _ => by rw [pk_uLs, er], hm⟩
      · exact ⟨2, σ, f, n, ⟨_, _, _, c_L_promise_x9 l D cI cJ a o sz σ f ri st g1 g2 g3 hlf, rfl, rfl, Nat.le_of_ble_eq_true rfl, Nat.le_of_ble_eq_true rfl, Nat.le_of_ble_eq_true rfl, Nat.le_of_ble_eq_true rfl⟩, (p3 g1 g2 g3).1, fun z => absurd z (by decide), (p3 g1 g2 g3).2⟩
    · exact ⟨1, σ, f, n, ⟨_, _, _, c_L_promise_x5 l D cI cJ a o sz σ f ri st g1 g2 hlf, rfl, rfl, Nat.le_of_ble_eq_true rfl, Nat.le_of_ble_eq_true rfl, Nat.le_of_ble_eq_true rfl, Nat.le_of_ble_eq_true rfl⟩, (p2 g1 g2).1, fun z => absurd z (by decide), (p2 g1 g2).2⟩
  · exact ⟨1, σ, f, n, ⟨_, _, _, c_L_promise_x1 l D cI cJ a o sz σ f ri st g1 hlf, rfl, rfl, Nat.le_of_ble_eq_true rfl, Nat.le_of_ble_eq_true rfl, Nat.le_of_ble_eq_true rfl, Nat.le_of_ble_eq_true rfl⟩, (p1 g1).1, fun z => absurd z (by decide), (p1 g1).2⟩
theorem act_cycle {l : Launch} {D : va_G} {cI cJ : ClassId} {a : Nat → Nat} {o sz : Nat} {σ μ : Sg} {n : Nat} {f : Nat → Int64} {cy its : Int32} (h : MI σ μ n) (hlf : l.stackTraces = false) : ∃ (k : Int32) (σ' : Sg) (f' : Nat → Int64) (n' : Nat), Act l D cI cJ a o sz yL_cycle wsL_cycle [.ref (a 0), .int cy, .int its, .ref o] σ f k σ' f' ∧ (s_X6_cycle μ cy its n) 0 0 = k ∧ (k = 0 → f' 0 = Int32.toInt64 (r_X6_cycle μ cy its n)) ∧ MI σ' (s_X6_cycle μ cy its n) n' := by
  obtain ⟨p1, p2, pg, -⟩ := p_cycle (cy := cy) (its := its) h
  by_cases g1 : vp_in cy 30
  · by_cases g2 : vp_in its 4
    · obtain ⟨e0, er, hm⟩ := pg g1 g2
      exact ⟨0, _, _, n, ⟨_, _, _, c_L_cycle l D cI cJ a o sz σ f cy its g1 g2, rfl, rfl, Nat.le_of_ble_eq_true rfl, Nat.le_of_ble_eq_true rfl, Nat.le_of_ble_eq_true rfl, Nat.le_of_ble_eq_true rfl⟩, e0, fun _ => by rw [pk_uLs, er], hm⟩
    · exact ⟨2, σ, f, n, ⟨_, _, _, c_L_cycle_xd l D cI cJ a o sz σ f cy its g1 g2 hlf, rfl, rfl, Nat.le_of_ble_eq_true rfl, Nat.le_of_ble_eq_true rfl, Nat.le_of_ble_eq_true rfl, Nat.le_of_ble_eq_true rfl⟩, (p2 g1 g2).1, fun z => absurd z (by decide), (p2 g1 g2).2⟩
  · exact ⟨1, σ, f, n, ⟨_, _, _, c_L_cycle_x1 l D cI cJ a o sz σ f cy its g1 hlf, rfl, rfl, Nat.le_of_ble_eq_true rfl, Nat.le_of_ble_eq_true rfl, Nat.le_of_ble_eq_true rfl, Nat.le_of_ble_eq_true rfl⟩, (p1 g1).1, fun z => absurd z (by decide), (p1 g1).2⟩
theorem act_station {l : Launch} {D : va_G} {cI cJ : ClassId} {a : Nat → Nat} {o sz : Nat} {σ μ : Sg} {n : Nat} {f : Nat → Int64} {st its : Int32} (h : MI σ μ n) (hlf : l.stackTraces = false) : ∃ (k : Int32) (σ' : Sg) (f' : Nat → Int64) (n' : Nat), Act l D cI cJ a o sz yL_station wsL_station [.ref (a 0), .int st, .int its, .ref o] σ f k σ' f' ∧ (s_X6_station μ st its n) 0 0 = k ∧ (k = 0 → f' 0 = Int32.toInt64 (r_X6_station μ st its n)) ∧ MI σ' (s_X6_station μ st its n) n' := by
  obtain ⟨p1, p2, pg, -⟩ := p_station (st := st) (its := its) h
  by_cases g1 : vp_in st 8
  · by_cases g2 : vp_in its 5
    · obtain ⟨e0, er, hm⟩ := pg g1 g2
      exact ⟨0, _, _, n, ⟨_, _, _, c_L_station l D cI cJ a o sz σ f st its g1 g2, rfl, rfl, Nat.le_of_ble_eq_true rfl, Nat.le_of_ble_eq_true rfl, Nat.le_of_ble_eq_true rfl, Nat.le_of_ble_eq_true rfl⟩, e0, fun _ => by rw [pk_uLs, er], hm⟩
    · exact ⟨2, σ, f, n, ⟨_, _, _, c_L_station_xd l D cI cJ a o sz σ f st its g1 g2 hlf, rfl, rfl, Nat.le_of_ble_eq_true rfl, Nat.le_of_ble_eq_true rfl, Nat.le_of_ble_eq_true rfl, Nat.le_of_ble_eq_true rfl⟩, (p2 g1 g2).1, fun z => absurd z (by decide), (p2 g1 g2).2⟩
  · exact ⟨1, σ, f, n, ⟨_, _, _, c_L_station_x1 l D cI cJ a o sz σ f st its g1 hlf, rfl, rfl, Nat.le_of_ble_eq_true rfl, Nat.le_of_ble_eq_true rfl, Nat.le_of_ble_eq_true rfl, Nat.le_of_ble_eq_true rfl⟩, (p1 g1).1, fun z => absurd z (by decide), (p1 g1).2⟩
theorem act_rider {l : Launch} {D : va_G} {cI cJ : ClassId} {a : Nat → Nat} {o sz : Nat} {σ μ : Sg} {n : Nat} {f : Nat → Int64} {ri its : Int32} (h : MI σ μ n) (hlf : l.stackTraces = false) : ∃ (k : Int32) (σ' : Sg) (f' : Nat → Int64) (n' : Nat), Act l D cI cJ a o sz yL_rider wsL_rider [.ref (a 0), .int ri, .int its, .ref o] σ f k σ' f' ∧ (s_X6_rider μ ri its n) 0 0 = k ∧ (k = 0 → f' 0 = Int32.toInt64 (r_X6_rider μ ri its n)) ∧ MI σ' (s_X6_rider μ ri its n) n' := by
  obtain ⟨p1, p2, pg, -⟩ := p_rider (ri := ri) (its := its) h
  by_cases g1 : vp_in ri 10
  · by_cases g2 : vp_in its 5
    · obtain ⟨e0, er, hm⟩ := pg g1 g2
      exact ⟨0, _, _, n, ⟨_, _, _, c_L_rider l D cI cJ a o sz σ f ri its g1 g2, rfl, rfl, Nat.le_of_ble_eq_true rfl, Nat.le_of_ble_eq_true rfl, Nat.le_of_ble_eq_true rfl, Nat.le_of_ble_eq_true rfl⟩, e0, fun _ => by rw [pk_uLs, er], hm⟩
    · exact ⟨2, σ, f, n, ⟨_, _, _, c_L_rider_xd l D cI cJ a o sz σ f ri its g1 g2 hlf, rfl, rfl, Nat.le_of_ble_eq_true rfl, Nat.le_of_ble_eq_true rfl, Nat.le_of_ble_eq_true rfl, Nat.le_of_ble_eq_true rfl⟩, (p2 g1 g2).1, fun z => absurd z (by decide), (p2 g1 g2).2⟩
  · exact ⟨1, σ, f, n, ⟨_, _, _, c_L_rider_x1 l D cI cJ a o sz σ f ri its g1 hlf, rfl, rfl, Nat.le_of_ble_eq_true rfl, Nat.le_of_ble_eq_true rfl, Nat.le_of_ble_eq_true rfl, Nat.le_of_ble_eq_true rfl⟩, (p1 g1).1, fun z => absurd z (by decide), (p1 g1).2⟩
theorem act_nearest {l : Launch} {D : va_G} {cI cJ : ClassId} {a : Nat → Nat} {o sz : Nat} {σ μ : Sg} {n : Nat} {f : Nat → Int64} {st : Int32} (h : MI σ μ n) (hlf : l.stackTraces = false) : ∃ (k : Int32) (σ' : Sg) (f' : Nat → Int64) (n' : Nat), Act l D cI cJ a o sz yL_nearest wsL_nearest [.ref (a 0), .int st, .ref o] σ f k σ' f' ∧ (s_X6_nearest μ st n) 0 0 = k ∧ (k = 0 → f' 0 = Int32.toInt64 (r_X6_nearest μ st n)) ∧ MI σ' (s_X6_nearest μ st n) n' := by
  obtain ⟨p1, pg, -, -⟩ := p_nearest (st := st) h
  have hgr : GRX σ := fun j hj => by
    obtain ⟨e1, e2, e3⟩ := h.2.2.2.2.1 j hj
    rw [e1, e2, e3]
    exact h.2.2.2.2.2.1 j hj
  by_cases g1 : vp_in st 8
  · obtain ⟨e0, er, hm⟩ := pg g1
    exact ⟨0, _, _, n, ⟨_, _, _, c_L_nearest l D cI cJ a o sz σ f st g1 hgr, rfl, rfl, Nat.le_of_ble_eq_true rfl, Nat.le_of_ble_eq_true rfl, Nat.le_of_ble_eq_true rfl, Nat.le_of_ble_eq_true rfl⟩, e0, fun _ => by rw [pk_uLs, er], hm⟩
  · exact ⟨1, σ, f, n, ⟨_, _, _, c_L_nearest_x1 l D cI cJ a o sz σ f st g1 hlf, rfl, rfl, Nat.le_of_ble_eq_true rfl, Nat.le_of_ble_eq_true rfl, Nat.le_of_ble_eq_true rfl, Nat.le_of_ble_eq_true rfl⟩, (p1 g1).1, fun z => absurd z (by decide), (p1 g1).2⟩
theorem act_way {l : Launch} {D : va_G} {cI cJ : ClassId} {a : Nat → Nat} {o sz : Nat} {σ μ : Sg} {n : Nat} {f : Nat → Int64} {st ot : Int32} (h : MI σ μ n) (hlf : l.stackTraces = false) : ∃ (k : Int32) (σ' : Sg) (f' : Nat → Int64) (n' : Nat), Act l D cI cJ a o sz yL_way wsL_way [.ref (a 0), .int st, .int ot, .ref o] σ f k σ' f' ∧ (s_X6_way μ st ot) 0 0 = k ∧ (k = 0 → f' 0 = Int32.toInt64 (r_X6_way μ st ot)) ∧ MI σ' (s_X6_way μ st ot) n' := by
  obtain ⟨p1, p2, pg, -⟩ := p_way (st := st) (ot := ot) h
  have hgr : GRX σ := fun j hj => by
    obtain ⟨e1, e2, e3⟩ := h.2.2.2.2.1 j hj
    rw [e1, e2, e3]
    exact h.2.2.2.2.2.1 j hj
  by_cases g1 : vp_in st 8
  · by_cases g2 : vp_in ot 8
    · obtain ⟨e0, er, hm⟩ := pg g1 g2
      exact ⟨0, _, _, n, ⟨_, _, _, c_L_way l D cI cJ a o sz σ f st ot g1 g2 hgr, rfl, rfl, Nat.le_of_ble_eq_true rfl, Nat.le_of_ble_eq_true rfl, Nat.le_of_ble_eq_true rfl, Nat.le_of_ble_eq_true rfl⟩, e0, fun _ => by rw [pk_uLs, er], hm⟩
    · exact ⟨1, σ, f, n, ⟨_, _, _, c_L_way_x5 l D cI cJ a o sz σ f st ot g1 g2 hlf, rfl, rfl, Nat.le_of_ble_eq_true rfl, Nat.le_of_ble_eq_true rfl, Nat.le_of_ble_eq_true rfl, Nat.le_of_ble_eq_true rfl⟩, (p2 g1 g2).1, fun z => absurd z (by decide), (p2 g1 g2).2⟩
  · exact ⟨1, σ, f, n, ⟨_, _, _, c_L_way_x1 l D cI cJ a o sz σ f st ot g1 hlf, rfl, rfl, Nat.le_of_ble_eq_true rfl, Nat.le_of_ble_eq_true rfl, Nat.le_of_ble_eq_true rfl, Nat.le_of_ble_eq_true rfl⟩, (p1 g1).1, fun z => absurd z (by decide), (p1 g1).2⟩
