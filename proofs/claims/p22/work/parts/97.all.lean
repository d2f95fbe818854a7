-- act, every way
def SwTo (l : Launch) (v : Int32) (tgt : Nat) : Prop := ∀ (p : Program) (e : Env) (R : Room) (s : State) (m : MethodId) (args : Array Value) (below : List Frame) (meth : Method) (c : Code) (H : Heap) (locs : List Loc) (cells slots : Nat) (Q : State → Prop) (ls : Array Slot), p.tables.exec = Jvm.exec → c.code = cL_act → W p l e R s m args below meth c H locs cells slots Q (F0 m tgt ls []) → W p l e R s m args below meth c H locs cells slots Q (F0 m 164 ls [.int (lw v 34)])
theorem act_of {l : Launch} {D : va_G} {cI : ClassId} {σ σ' : Sg} {v now k : Int32} {tgt mc ms : Nat} (hT : Tl l D cI σ v now tgt k σ' mc ms) (h1 : mc ≤ 1) (h2 : ms ≤ 6) (h3 : k ≠ -99999999 → mc = 0 ∧ ms = 0) (ht : ∃ t, t ≤ 20000 ∧ now = nI t) (hsw : SwTo l v tgt) : Act 9 240 l D cI yL_act wsL_act [.int v, .int now] σ k σ' := by
  refine ⟨{ frames := 9, cells := mc, slots := ms, locals := 240 }, mc, ms, fun a sz => ?_, rfl, rfl, h1, h2, h3, Nat.le_refl _, Nat.le_refl _⟩
  refine a_of (cc := cL_act) (maxL := 9) (ret := some .int) (C := RL) rfl (by decide) rfl (Nat.le_of_ble_eq_true rfl) (fun p e s m below meth c hx hb hr hml hlk hts hown hsz hE hEC H hP hS hG ls hl => ?_)
  have hl : lv_has ls 9 [(0, .ref (a 0)), (1, .int v), (2, .int now)] := hl
  refine act_pre ⟨hx, hb, hml, hown, hts⟩ hG hP hS hsz ⟨Nat.le_refl _, Nat.le_refl _⟩ ⟨Nat.zero_le _, Nat.zero_le _⟩ ht hl (fun H1 locs1 ls1 hP1 hS1 hl1 => ?_)
  exact hsw _ _ _ _ _ _ _ _ _ _ _ _ _ _ _ hx hb (hT _ _ _ _ _ _ _ _ _ _ _ _ a sz ⟨hx, hb, hml, hown, hts⟩ hG hP1 hS1 hsz hE hEC hr hlk ⟨Nat.le_refl _, Nat.le_refl _⟩ ⟨Nat.le_refl _, Nat.le_refl _⟩ hl1)
/-- now, behind a call -/
def nxF (v now k : Int32) : Int32 := if (22 < lw v 34 ∧ lw v 34 < 26) ∧ k ≠ -99999999 then k else now
/-- a call of act, told of an object's contents alone -/
def AllA (l : Launch) (D : va_G) (cI : ClassId) (σ : Sg) (v : Int32) : Prop := ∃ (k : Int32) (σ' : Sg) (n' : Nat), MC σ' n' ∧ (k = -99999999 → σ' = σ) ∧ σ' 0 5 = nxF v (σ 0 5) k ∧ Act 9 240 l D cI yL_act wsL_act [.int v, .int (σ 0 5)] σ k σ'
theorem A_docks {l : Launch} {D : va_G} {cI : ClassId} {σ : Sg} {n : Nat} {v : Int32} (h : MC σ n) (hlf : l.stackTraces = false) (hq : ¬ (22 < lw v 34 ∧ lw v 34 < 26)) (hsw : SwTo l v 312) : AllA l D cI σ v := by
  obtain ⟨k, σ', n', hm, h1, h2, hA⟩ := act_docks (l := l) (D := D) (cI := cI) (st := plF v) (pl := muF v) h hlf
  obtain ⟨mc, ms, m1, m2, m3, hT⟩ := T_docks (now := σ 0 5) hA
  refine ⟨k, σ', n', hm, h1, ?_, act_of hT m1 m2 m3 h.2.2 hsw⟩
  unfold nxF
  rw [if_neg (fun z => hq z.1)]; exact h2
theorem A_put {l : Launch} {D : va_G} {cI : ClassId} {σ : Sg} {n : Nat} {v : Int32} (h : MC σ n) (hlf : l.stackTraces = false) (hq : ¬ (22 < lw v 34 ∧ lw v 34 < 26)) (hsw : SwTo l v 321) : AllA l D cI σ v := by
  obtain ⟨k, σ', n', hm, h1, h2, hA⟩ := act_put (l := l) (D := D) (cI := cI) (cy := cyF v) (st := plF v) h hlf
  obtain ⟨mc, ms, m1, m2, m3, hT⟩ := T_put (now := σ 0 5) hA
  refine ⟨k, σ', n', hm, h1, ?_, act_of hT m1 m2 m3 h.2.2 hsw⟩
  unfold nxF
  rw [if_neg (fun z => hq z.1)]; exact h2
theorem A_take {l : Launch} {D : va_G} {cI : ClassId} {σ : Sg} {n : Nat} {v : Int32} (h : MC σ n) (hlf : l.stackTraces = false) (hq : ¬ (22 < lw v 34 ∧ lw v 34 < 26)) (hsw : SwTo l v 330) : AllA l D cI σ v := by
  obtain ⟨k, σ', n', hm, h1, h2, hA⟩ := act_take (l := l) (D := D) (cI := cI) (cy := cyF v) h hlf
  obtain ⟨mc, ms, m1, m2, m3, hT⟩ := T_take (now := σ 0 5) hA
  refine ⟨k, σ', n', hm, h1, ?_, act_of hT m1 m2 m3 h.2.2 hsw⟩
  unfold nxF
  rw [if_neg (fun z => hq z.1)]; exact h2
theorem A_unlocked {l : Launch} {D : va_G} {cI : ClassId} {σ : Sg} {n : Nat} {v : Int32} (h : MC σ n) (hlf : l.stackTraces = false) (hq : ¬ (22 < lw v 34 ∧ lw v 34 < 26)) (hsw : SwTo l v 337) : AllA l D cI σ v := by
  obtain ⟨k, σ', n', hm, h1, h2, hA⟩ := act_unlocked (l := l) (D := D) (cI := cI) (cy := cyF v) (ri := riF v) (wh := whF v (σ 0 5)) h hlf
  obtain ⟨mc, ms, m1, m2, m3, hT⟩ := T_unlocked (now := σ 0 5) hA
  refine ⟨k, σ', n', hm, h1, ?_, act_of hT m1 m2 m3 h.2.2 hsw⟩
  unfold nxF
  rw [if_neg (fun z => hq z.1)]; exact h2
theorem A_locked {l : Launch} {D : va_G} {cI : ClassId} {σ : Sg} {n : Nat} {v : Int32} (h : MC σ n) (hlf : l.stackTraces = false) (hq : ¬ (22 < lw v 34 ∧ lw v 34 < 26)) (hsw : SwTo l v 348) : AllA l D cI σ v := by
  obtain ⟨k, σ', n', hm, h1, h2, hA⟩ := act_locked (l := l) (D := D) (cI := cI) (cy := cyF v) (st := plF v) (wh := whF v (σ 0 5)) h hlf
  obtain ⟨mc, ms, m1, m2, m3, hT⟩ := T_locked (now := σ 0 5) hA
  refine ⟨k, σ', n', hm, h1, ?_, act_of hT m1 m2 m3 h.2.2 hsw⟩
  unfold nxF
  rw [if_neg (fun z => hq z.1)]; exact h2
theorem A_faulty {l : Launch} {D : va_G} {cI : ClassId} {σ : Sg} {n : Nat} {v : Int32} (h : MC σ n) (hlf : l.stackTraces = false) (hq : ¬ (22 < lw v 34 ∧ lw v 34 < 26)) (hsw : SwTo l v 359) : AllA l D cI σ v := by
  obtain ⟨k, σ', n', hm, h1, h2, hA⟩ := act_faulty (l := l) (D := D) (cI := cI) (cy := cyF v) (ri := riF v) (wh := whF v (σ 0 5)) h hlf
  obtain ⟨mc, ms, m1, m2, m3, hT⟩ := T_faulty (now := σ 0 5) hA
  refine ⟨k, σ', n', hm, h1, ?_, act_of hT m1 m2 m3 h.2.2 hsw⟩
  unfold nxF
  rw [if_neg (fun z => hq z.1)]; exact h2
theorem A_mend {l : Launch} {D : va_G} {cI : ClassId} {σ : Sg} {n : Nat} {v : Int32} (h : MC σ n) (hlf : l.stackTraces = false) (hq : ¬ (22 < lw v 34 ∧ lw v 34 < 26)) (hsw : SwTo l v 370) : AllA l D cI σ v := by
  obtain ⟨k, σ', n', hm, h1, h2, hA⟩ := act_mend (l := l) (D := D) (cI := cI) (cy := cyF v) h hlf
  obtain ⟨mc, ms, m1, m2, m3, hT⟩ := T_mend (now := σ 0 5) hA
  refine ⟨k, σ', n', hm, h1, ?_, act_of hT m1 m2 m3 h.2.2 hsw⟩
  unfold nxF
  rw [if_neg (fun z => hq z.1)]; exact h2
theorem A_price {l : Launch} {D : va_G} {cI : ClassId} {σ : Sg} {n : Nat} {v : Int32} (h : MC σ n) (hlf : l.stackTraces = false) (hq : ¬ (22 < lw v 34 ∧ lw v 34 < 26)) (hsw : SwTo l v 377) : AllA l D cI σ v := by
  obtain ⟨k, σ', n', hm, h1, h2, hA⟩ := act_price (l := l) (D := D) (cI := cI) (pr := if odF v = 0 then 3 * muF v else muF v) h hlf
  obtain ⟨mc, ms, m1, m2, m3, hT⟩ := T_price (now := σ 0 5) hA
  refine ⟨k, σ', n', hm, h1, ?_, act_of hT m1 m2 m3 h.2.2 hsw⟩
  unfold nxF
  rw [if_neg (fun z => hq z.1)]; exact h2
theorem A_promise {l : Launch} {D : va_G} {cI : ClassId} {σ : Sg} {n : Nat} {v : Int32} (h : MC σ n) (hlf : l.stackTraces = false) (hq : ¬ (22 < lw v 34 ∧ lw v 34 < 26)) (hsw : SwTo l v 395) : AllA l D cI σ v := by
  obtain ⟨k, σ', n', hm, h1, h2, hA⟩ := act_promise (l := l) (D := D) (cI := cI) (ri := riF v) (st := plF v) h hlf
  obtain ⟨mc, ms, m1, m2, m3, hT⟩ := T_promise (now := σ 0 5) hA
  refine ⟨k, σ', n', hm, h1, ?_, act_of hT m1 m2 m3 h.2.2 hsw⟩
  unfold nxF
  rw [if_neg (fun z => hq z.1)]; exact h2
theorem A_pass {l : Launch} {D : va_G} {cI : ClassId} {σ : Sg} {n : Nat} {v : Int32} (h : MC σ n) (hlf : l.stackTraces = false) (hq : 22 < lw v 34 ∧ lw v 34 < 26) (hsw : SwTo l v 404) : AllA l D cI σ v := by
  obtain ⟨k, σ', n', hm, h1, h2, hA⟩ := act_pass (l := l) (D := D) (cI := cI) (mi := if odF v = 0 then 1 + 2 * muF v else muF v) h hlf
  obtain ⟨mc, ms, m1, m2, m3, hT⟩ := T_pass (now := σ 0 5) hA
  refine ⟨k, σ', n', hm, h1, ?_, act_of hT m1 m2 m3 h.2.2 hsw⟩
  unfold nxF
  by_cases hk : k = -99999999
  · rw [if_neg (fun z => z.2 hk), h1 hk]
  · rw [if_pos ⟨hq, hk⟩]; exact h2 hk
theorem A_lies {l : Launch} {D : va_G} {cI : ClassId} {σ : Sg} {n : Nat} {v : Int32} (h : MC σ n) (hlf : l.stackTraces = false) (hq : ¬ (22 < lw v 34 ∧ lw v 34 < 26)) (hsw : SwTo l v 424) : AllA l D cI σ v := by
  obtain ⟨k, σ', n', hm, h1, h2, hA⟩ := act_lies (l := l) (D := D) (cI := cI) (st := plF v) (ea := muF v) (no := if odF v = 0 then lw (v >>> (6 &&& 31)) 60 else muF v) (hi := if odF v = 0 then lw (v >>> (8 &&& 31)) 30 else riF v) h hlf
  obtain ⟨mc, ms, m1, m2, m3, hT⟩ := T_lies (now := σ 0 5) hA
  refine ⟨k, σ', n', hm, h1, ?_, act_of hT m1 m2 m3 h.2.2 hsw⟩
  unfold nxF
  rw [if_neg (fun z => hq z.1)]; exact h2
theorem A_cycle {l : Launch} {D : va_G} {cI : ClassId} {σ : Sg} {n : Nat} {v : Int32} (h : MC σ n) (hlf : l.stackTraces = false) (hq : ¬ (22 < lw v 34 ∧ lw v 34 < 26)) (hsw : SwTo l v 469) : AllA l D cI σ v := by
  obtain ⟨k, σ', n', hm, h1, h2, hA⟩ := act_cycle (l := l) (D := D) (cI := cI) (cy := cyF v) (its := if odF v = 0 then lw (v >>> (9 &&& 31)) 4 else muF v) h hlf
  obtain ⟨mc, ms, m1, m2, m3, hT⟩ := T_cycle (now := σ 0 5) hA
  refine ⟨k, σ', n', hm, h1, ?_, act_of hT m1 m2 m3 h.2.2 hsw⟩
  unfold nxF
  rw [if_neg (fun z => hq z.1)]; exact h2
theorem A_station {l : Launch} {D : va_G} {cI : ClassId} {σ : Sg} {n : Nat} {v : Int32} (h : MC σ n) (hlf : l.stackTraces = false) (hq : ¬ (22 < lw v 34 ∧ lw v 34 < 26)) (hsw : SwTo l v 493) : AllA l D cI σ v := by
  obtain ⟨k, σ', n', hm, h1, h2, hA⟩ := act_station (l := l) (D := D) (cI := cI) (st := plF v) (its := if odF v = 0 then lw (v >>> (9 &&& 31)) 5 else muF v) h hlf
  obtain ⟨mc, ms, m1, m2, m3, hT⟩ := T_station (now := σ 0 5) hA
  refine ⟨k, σ', n', hm, h1, ?_, act_of hT m1 m2 m3 h.2.2 hsw⟩
  unfold nxF
  rw [if_neg (fun z => hq z.1)]; exact h2
theorem A_rider {l : Launch} {D : va_G} {cI : ClassId} {σ : Sg} {n : Nat} {v : Int32} (h : MC σ n) (hlf : l.stackTraces = false) (hq : ¬ (22 < lw v 34 ∧ lw v 34 < 26)) (hsw : SwTo l v 517) : AllA l D cI σ v := by
  obtain ⟨k, σ', n', hm, h1, h2, hA⟩ := act_rider (l := l) (D := D) (cI := cI) (ri := riF v) (its := if odF v = 0 then lw (v >>> (3 &&& 31)) 5 else muF v) h hlf
  obtain ⟨mc, ms, m1, m2, m3, hT⟩ := T_rider (now := σ 0 5) hA
  refine ⟨k, σ', n', hm, h1, ?_, act_of hT m1 m2 m3 h.2.2 hsw⟩
  unfold nxF
  rw [if_neg (fun z => hq z.1)]; exact h2
theorem A_nearest {l : Launch} {D : va_G} {cI : ClassId} {σ : Sg} {n : Nat} {v : Int32} (h : MC σ n) (hlf : l.stackTraces = false) (hq : ¬ (22 < lw v 34 ∧ lw v 34 < 26)) (hsw : SwTo l v 540) : AllA l D cI σ v := by
  obtain ⟨k, σ', n', hm, h1, h2, hA⟩ := act_nearest (l := l) (D := D) (cI := cI) (st := plF v) h hlf
  obtain ⟨mc, ms, m1, m2, m3, hT⟩ := T_nearest (now := σ 0 5) hA
  refine ⟨k, σ', n', hm, h1, ?_, act_of hT m1 m2 m3 h.2.2 hsw⟩
  unfold nxF
  rw [if_neg (fun z => hq z.1)]; exact h2
theorem A_way {l : Launch} {D : va_G} {cI : ClassId} {σ : Sg} {n : Nat} {v : Int32} (h : MC σ n) (hlf : l.stackTraces = false) (hq : ¬ (22 < lw v 34 ∧ lw v 34 < 26)) (hsw : SwTo l v 547) : AllA l D cI σ v := by
  obtain ⟨k, σ', n', hm, h1, h2, hA⟩ := act_way (l := l) (D := D) (cI := cI) (st := plF v) (ot := if odF v = 0 then lw (v >>> (9 &&& 31)) 3 else riF v) h hlf
  obtain ⟨mc, ms, m1, m2, m3, hT⟩ := T_way (now := σ 0 5) hA
  refine ⟨k, σ', n', hm, h1, ?_, act_of hT m1 m2 m3 h.2.2 hsw⟩
  unfold nxF
  rw [if_neg (fun z => hq z.1)]; exact h2
theorem A_plan {l : Launch} {D : va_G} {cI : ClassId} {σ : Sg} {n : Nat} {v : Int32} (h : MC σ n) (hq : ¬ (22 < lw v 34 ∧ lw v 34 < 26)) (hsw : SwTo l v 571) : AllA l D cI σ v := by
  obtain ⟨mc, ms, m1, m2, m3, hT⟩ := T_plan (l := l) (D := D) (cI := cI) (σ := σ) (v := v) (now := σ 0 5)
  refine ⟨_, σ, n, h, fun _ => rfl, ?_, act_of hT m1 m2 m3 h.2.2 hsw⟩
  unfold nxF
  rw [if_neg (fun z => hq z.1)]
theorem A_odd {l : Launch} {D : va_G} {cI : ClassId} {σ : Sg} {n : Nat} {v : Int32} (h : MC σ n) (hq : ¬ (22 < lw v 34 ∧ lw v 34 < 26)) (hsw : SwTo l v 576) : AllA l D cI σ v := by
  obtain ⟨mc, ms, m1, m2, m3, hT⟩ := T_odd (l := l) (D := D) (cI := cI) (σ := σ) (v := v) (now := σ 0 5)
  refine ⟨_, σ, n, h, fun _ => rfl, ?_, act_of hT m1 m2 m3 h.2.2 hsw⟩
  unfold nxF
  rw [if_neg (fun z => hq z.1)]
theorem act_all {l : Launch} {D : va_G} {cI : ClassId} {σ : Sg} {n : Nat} (h : MC σ n) (hlf : l.stackTraces = false) (v : Int32) : AllA l D cI σ v := by
  obtain ⟨j, hj, ej⟩ := vp_in_of (lw_in v (N := 34) (by decide) (by decide)) (by decide)
  have ej : lw v 34 = nI j := ej
  rcases (show j = 0 ∨ j = 1 ∨ j = 2 ∨ j = 3 ∨ j = 4 ∨ j = 5 ∨ j = 6 ∨ j = 7 ∨ j = 8 ∨ j = 9 ∨ j = 10 ∨ j = 11 ∨ j = 12 ∨ j = 13 ∨ j = 14 ∨ j = 15 ∨ j = 16 ∨ j = 17 ∨ j = 18 ∨ j = 19 ∨ j = 20 ∨ j = 21 ∨ j = 22 ∨ j = 23 ∨ j = 24 ∨ j = 25 ∨ j = 26 ∨ j = 27 ∨ j = 28 ∨ j = 29 ∨ j = 30 ∨ j = 31 ∨ j = 32 ∨ j = 33 by omega) with rfl | rfl | rfl | rfl | rfl | rfl | rfl | rfl | rfl | rfl | rfl | rfl | rfl | rfl | rfl | rfl | rfl | rfl | rfl | rfl | rfl | rfl | rfl | rfl | rfl | rfl | rfl | rfl | rfl | rfl | rfl | rfl | rfl | rfl
  · exact A_docks h hlf (by rw [ej]; decide) (fun _ _ _ _ _ _ _ _ _ _ _ _ _ _ _ hx hb kk => lv_tableIn (off := 148) (tgt := 312) hx hb dL_act_164 (by rw [ej]; decide) (by rw [ej]; decide) (by rw [ej]; rfl) (by decide) kk)
  · exact A_docks h hlf (by rw [ej]; decide) (fun _ _ _ _ _ _ _ _ _ _ _ _ _ _ _ hx hb kk => lv_tableIn (off := 148) (tgt := 312) hx hb dL_act_164 (by rw [ej]; decide) (by rw [ej]; decide) (by rw [ej]; rfl) (by decide) kk)
  · exact A_docks h hlf (by rw [ej]; decide) (fun _ _ _ _ _ _ _ _ _ _ _ _ _ _ _ hx hb kk => lv_tableIn (off := 148) (tgt := 312) hx hb dL_act_164 (by rw [ej]; decide) (by rw [ej]; decide) (by rw [ej]; rfl) (by decide) kk)
  · exact A_put h hlf (by rw [ej]; decide) (fun _ _ _ _ _ _ _ _ _ _ _ _ _ _ _ hx hb kk => lv_tableIn (off := 157) (tgt := 321) hx hb dL_act_164 (by rw [ej]; decide) (by rw [ej]; decide) (by rw [ej]; rfl) (by decide) kk)
  · exact A_put h hlf (by rw [ej]; decide) (fun _ _ _ _ _ _ _ _ _ _ _ _ _ _ _ hx hb kk => lv_tableIn (off := 157) (tgt := 321) hx hb dL_act_164 (by rw [ej]; decide) (by rw [ej]; decide) (by rw [ej]; rfl) (by decide) kk)
  · exact A_put h hlf (by rw [ej]; decide) (fun _ _ _ _ _ _ _ _ _ _ _ _ _ _ _ hx hb kk => lv_tableIn (off := 157) (tgt := 321) hx hb dL_act_164 (by rw [ej]; decide) (by rw [ej]; decide) (by rw [ej]; rfl) (by decide) kk)
  · exact A_take h hlf (by rw [ej]; decide) (fun _ _ _ _ _ _ _ _ _ _ _ _ _ _ _ hx hb kk => lv_tableIn (off := 166) (tgt := 330) hx hb dL_act_164 (by rw [ej]; decide) (by rw [ej]; decide) (by rw [ej]; rfl) (by decide) kk)
  · exact A_unlocked h hlf (by rw [ej]; decide) (fun _ _ _ _ _ _ _ _ _ _ _ _ _ _ _ hx hb kk => lv_tableIn (off := 173) (tgt := 337) hx hb dL_act_164 (by rw [ej]; decide) (by rw [ej]; decide) (by rw [ej]; rfl) (by decide) kk)
  · exact A_unlocked h hlf (by rw [ej]; decide) (fun _ _ _ _ _ _ _ _ _ _ _ _ _ _ _ hx hb kk => lv_tableIn (off := 173) (tgt := 337) hx hb dL_act_164 (by rw [ej]; decide) (by rw [ej]; decide) (by rw [ej]; rfl) (by decide) kk)
  · exact A_unlocked h hlf (by rw [ej]; decide) (fun _ _ _ _ _ _ _ _ _ _ _ _ _ _ _ hx hb kk => lv_tableIn (off := 173) (tgt := 337) hx hb dL_act_164 (by rw [ej]; decide) (by rw [ej]; decide) (by rw [ej]; rfl) (by decide) kk)
  · exact A_unlocked h hlf (by rw [ej]; decide) (fun _ _ _ _ _ _ _ _ _ _ _ _ _ _ _ hx hb kk => lv_tableIn (off := 173) (tgt := 337) hx hb dL_act_164 (by rw [ej]; decide) (by rw [ej]; decide) (by rw [ej]; rfl) (by decide) kk)
  · exact A_unlocked h hlf (by rw [ej]; decide) (fun _ _ _ _ _ _ _ _ _ _ _ _ _ _ _ hx hb kk => lv_tableIn (off := 173) (tgt := 337) hx hb dL_act_164 (by rw [ej]; decide) (by rw [ej]; decide) (by rw [ej]; rfl) (by decide) kk)
  · exact A_locked h hlf (by rw [ej]; decide) (fun _ _ _ _ _ _ _ _ _ _ _ _ _ _ _ hx hb kk => lv_tableIn (off := 184) (tgt := 348) hx hb dL_act_164 (by rw [ej]; decide) (by rw [ej]; decide) (by rw [ej]; rfl) (by decide) kk)
  · exact A_locked h hlf (by rw [ej]; decide) (fun _ _ _ _ _ _ _ _ _ _ _ _ _ _ _ hx hb kk => lv_tableIn (off := 184) (tgt := 348) hx hb dL_act_164 (by rw [ej]; decide) (by rw [ej]; decide) (by rw [ej]; rfl) (by decide) kk)
  · exact A_locked h hlf (by rw [ej]; decide) (fun _ _ _ _ _ _ _ _ _ _ _ _ _ _ _ hx hb kk => lv_tableIn (off := 184) (tgt := 348) hx hb dL_act_164 (by rw [ej]; decide) (by rw [ej]; decide) (by rw [ej]; rfl) (by decide) kk)
  · exact A_locked h hlf (by rw [ej]; decide) (fun _ _ _ _ _ _ _ _ _ _ _ _ _ _ _ hx hb kk => lv_tableIn (off := 184) (tgt := 348) hx hb dL_act_164 (by rw [ej]; decide) (by rw [ej]; decide) (by rw [ej]; rfl) (by decide) kk)
  · exact A_locked h hlf (by rw [ej]; decide) (fun _ _ _ _ _ _ _ _ _ _ _ _ _ _ _ hx hb kk => lv_tableIn (off := 184) (tgt := 348) hx hb dL_act_164 (by rw [ej]; decide) (by rw [ej]; decide) (by rw [ej]; rfl) (by decide) kk)
  · exact A_faulty h hlf (by rw [ej]; decide) (fun _ _ _ _ _ _ _ _ _ _ _ _ _ _ _ hx hb kk => lv_tableIn (off := 195) (tgt := 359) hx hb dL_act_164 (by rw [ej]; decide) (by rw [ej]; decide) (by rw [ej]; rfl) (by decide) kk)
  · exact A_faulty h hlf (by rw [ej]; decide) (fun _ _ _ _ _ _ _ _ _ _ _ _ _ _ _ hx hb kk => lv_tableIn (off := 195) (tgt := 359) hx hb dL_act_164 (by rw [ej]; decide) (by rw [ej]; decide) (by rw [ej]; rfl) (by decide) kk)
  · exact A_mend h hlf (by rw [ej]; decide) (fun _ _ _ _ _ _ _ _ _ _ _ _ _ _ _ hx hb kk => lv_tableIn (off := 206) (tgt := 370) hx hb dL_act_164 (by rw [ej]; decide) (by rw [ej]; decide) (by rw [ej]; rfl) (by decide) kk)
  · exact A_price h hlf (by rw [ej]; decide) (fun _ _ _ _ _ _ _ _ _ _ _ _ _ _ _ hx hb kk => lv_tableIn (off := 213) (tgt := 377) hx hb dL_act_164 (by rw [ej]; decide) (by rw [ej]; decide) (by rw [ej]; rfl) (by decide) kk)
  · exact A_promise h hlf (by rw [ej]; decide) (fun _ _ _ _ _ _ _ _ _ _ _ _ _ _ _ hx hb kk => lv_tableIn (off := 231) (tgt := 395) hx hb dL_act_164 (by rw [ej]; decide) (by rw [ej]; decide) (by rw [ej]; rfl) (by decide) kk)
  · exact A_promise h hlf (by rw [ej]; decide) (fun _ _ _ _ _ _ _ _ _ _ _ _ _ _ _ hx hb kk => lv_tableIn (off := 231) (tgt := 395) hx hb dL_act_164 (by rw [ej]; decide) (by rw [ej]; decide) (by rw [ej]; rfl) (by decide) kk)
  · exact A_pass h hlf (by rw [ej]; decide) (fun _ _ _ _ _ _ _ _ _ _ _ _ _ _ _ hx hb kk => lv_tableIn (off := 240) (tgt := 404) hx hb dL_act_164 (by rw [ej]; decide) (by rw [ej]; decide) (by rw [ej]; rfl) (by decide) kk)
  · exact A_pass h hlf (by rw [ej]; decide) (fun _ _ _ _ _ _ _ _ _ _ _ _ _ _ _ hx hb kk => lv_tableIn (off := 240) (tgt := 404) hx hb dL_act_164 (by rw [ej]; decide) (by rw [ej]; decide) (by rw [ej]; rfl) (by decide) kk)
  · exact A_pass h hlf (by rw [ej]; decide) (fun _ _ _ _ _ _ _ _ _ _ _ _ _ _ _ hx hb kk => lv_tableIn (off := 240) (tgt := 404) hx hb dL_act_164 (by rw [ej]; decide) (by rw [ej]; decide) (by rw [ej]; rfl) (by decide) kk)
  · exact A_lies h hlf (by rw [ej]; decide) (fun _ _ _ _ _ _ _ _ _ _ _ _ _ _ _ hx hb kk => lv_tableIn (off := 260) (tgt := 424) hx hb dL_act_164 (by rw [ej]; decide) (by rw [ej]; decide) (by rw [ej]; rfl) (by decide) kk)
  · exact A_cycle h hlf (by rw [ej]; decide) (fun _ _ _ _ _ _ _ _ _ _ _ _ _ _ _ hx hb kk => lv_tableIn (off := 305) (tgt := 469) hx hb dL_act_164 (by rw [ej]; decide) (by rw [ej]; decide) (by rw [ej]; rfl) (by decide) kk)
  · exact A_station h hlf (by rw [ej]; decide) (fun _ _ _ _ _ _ _ _ _ _ _ _ _ _ _ hx hb kk => lv_tableIn (off := 329) (tgt := 493) hx hb dL_act_164 (by rw [ej]; decide) (by rw [ej]; decide) (by rw [ej]; rfl) (by decide) kk)
  · exact A_rider h hlf (by rw [ej]; decide) (fun _ _ _ _ _ _ _ _ _ _ _ _ _ _ _ hx hb kk => lv_tableIn (off := 353) (tgt := 517) hx hb dL_act_164 (by rw [ej]; decide) (by rw [ej]; decide) (by rw [ej]; rfl) (by decide) kk)
  · exact A_nearest h hlf (by rw [ej]; decide) (fun _ _ _ _ _ _ _ _ _ _ _ _ _ _ _ hx hb kk => lv_tableIn (off := 376) (tgt := 540) hx hb dL_act_164 (by rw [ej]; decide) (by rw [ej]; decide) (by rw [ej]; rfl) (by decide) kk)
  · exact A_way h hlf (by rw [ej]; decide) (fun _ _ _ _ _ _ _ _ _ _ _ _ _ _ _ hx hb kk => lv_tableIn (off := 383) (tgt := 547) hx hb dL_act_164 (by rw [ej]; decide) (by rw [ej]; decide) (by rw [ej]; rfl) (by decide) kk)
  · exact A_plan h (by rw [ej]; decide) (fun _ _ _ _ _ _ _ _ _ _ _ _ _ _ _ hx hb kk => lv_tableIn (off := 407) (tgt := 571) hx hb dL_act_164 (by rw [ej]; decide) (by rw [ej]; decide) (by rw [ej]; rfl) (by decide) kk)
  · exact A_odd h (by rw [ej]; decide) (fun _ _ _ _ _ _ _ _ _ _ _ _ _ _ _ hx hb kk => lv_tableOut (tgt := 576) hx hb dL_act_164 (Or.inr (by rw [ej]; decide)) (by decide) kk)
