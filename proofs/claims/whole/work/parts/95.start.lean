/-! THE CLAIM OUT OF ONE WALK OF THE LAW'S BODY. Your part is whole_start (and what it stands on); all else here is the same for every law, but numbers. -/
def R_law : String := "WheelDocksLaw"
def lw_P (b : Addr) (xs : List Int32) (args : Array Value) (s : State) : Prop := args = #[.ref b] ∧ s.IntsAt b xs ∧ xs.length ≤ 2560 ∧ (Jvm.Cond.and given_1 narrow_1).before args s = true
/-- what a walk over the start with the record d0 says of its end, said of the start itself -/
theorem lw_closed {s t : State} {o : Outcome} {d0 : Drawn} {L : List Loc} {k n : Nat} (hd0 : s.drawn.sameBut d0 lw_cs) (hv : ∃ v, o = .returned v) (hW : (s.setDrawn d0).WarmedH t.vm) (hs : (s.setDrawn d0).sameButNew ({ t with vm := s.vm } : State) L k n) : State.butDraws s t lw_cs (fun t1 => Framed s o t1 L k n) := by
  have h2 : t.drawn = d0 := congrArg State.drawn hs.1
  refine ⟨⟨hv, hW, State.sameButNew.setDrawn hs s.drawn⟩, ?_, by decide⟩
  rw [h2]
  exact hd0
def lw_Q (_ : Array Value) (s : State) (o : Outcome) (t : State) : Prop := o = .returned (some (.int 1)) ∧ State.butDraws s t lw_cs (fun t1 => Framed s o t1 [] 1089 11358)
def lw_Z (below : List Frame) (a : Array Value) (s : State) : State → Prop := fun t => ∃ o, t.status = .running ∧ Ended t below o ∧ lw_Q a s o t
/-- the law's own end, with 1 on the stack, nothing written that was there before, its room as the claim has it; d0: the record of draws at this point (at the entry s.drawn: begin with 'refine W.base ?_' and 'have hd0 := Drawn.sameBut.refl s.drawn lw_cs') -/
theorem lw_ret {p : Program} {l : Launch} {e : Env} {s : State} {m : MethodId} {below : List Frame} {meth : Method} {c : Code} {b : Nat} {d0 : Drawn} (hd0 : s.drawn.sameBut d0 lw_cs) (hx : p.tables.exec = Jvm.exec) (hb : c.code = code) (hr : meth.sig.returnType = ret) (hlocks : meth.locks = false) {pc : Nat} {H : Heap} {ls : Array Slot} (hdg : decode code pc = .ok (.ireturn, 1)) : W p l e room_1 (s.setDrawn d0) m #[Value.ref b] below meth c H [] 1089 11358 (lw_Z below #[Value.ref b] s) (F0 m pc ls [.int 1]) := by
  intro T hT X
  obtain ⟨fs, hret, hrun, hended, hW, hframe⟩ := X.leave (v := some (.int 1)) (hlocks := hlocks) (fun h => by rw [hr] at h; cases h)
  have hmeth' : T.vm.method? m = some meth := X.method'
  refine ⟨T.setFrames fs, ?_, .returned (some (.int 1)), hrun, hended, rfl, lw_closed hd0 ⟨_, rfl⟩ hW hframe⟩
  jvm_step X.here [X.here.top, hx, hb, hdg, hmeth', hr, ret, narrow_b1]
  (try refine ⟨rfl, ?_⟩); (try refine ⟨rfl, ?_⟩)
  first | (intro acts; rw [hret _ acts rfl rfl rfl]) | rw [hret _ _ rfl rfl rfl]
  exact Steps.refl _
/-- what holds at the law's entry: the machine, the code, the tables' words (any of lw_tbl by 'hts w (by decide +kernel)'), the script of L ints xs at the cell b, what the Statement gives of the start (any of its parts by flat_of_before) -/
def lw_At (p : Program) (s : State) (m : MethodId) (meth : Method) (c : Code) (b L : Nat) (xs : Nat → Int32) : Prop :=
  p.tables.exec = Jvm.exec ∧ c.code = code ∧ meth.sig.returnType = ret ∧ c.maxLocals = 7 ∧ s.vm.findClass R_law = some m.cls ∧ (∀ w ∈ lw_tbl, w.before #[Value.ref b] s = true) ∧ va_X b L xs s s.heap ∧ b < s.heap.size ∧ meth.locks = false ∧ (Jvm.Cond.and given_1 narrow_1).before #[Value.ref b] s = true
-- the law from its entry
theorem fst_key {w : va_W} {a : Nat → Nat} {N : Nat} (h : w.map Prod.fst = (List.range N).map a) (i : Nat) (hi : i < N) : ∃ q, w[i]? = some q ∧ q.1 = a i := by
  have h1 : (w.map Prod.fst)[i]? = some (a i) := by rw [h, List.getElem?_map, List.getElem?_range hi]; rfl
  rw [List.getElem?_map] at h1
  cases hq : w[i]? with
  | none => rw [hq] at h1; cases h1
  | some q => rw [hq] at h1; exact ⟨q, rfl, Option.some.inj h1⟩
theorem pL {D : va_G} {w1 w2 : va_W} {H : Heap} (h : va_P D vwCl (w1 ++ w2) H) : va_P D vwCl w1 H := fun k q hk => h k q (by rw [List.getElem?_append_left (List.getElem?_eq_some_iff.mp hk).1]; exact hk)
theorem pR {D : va_G} {w1 w2 : va_W} {H : Heap} (h : va_P D vwCl (w1 ++ w2) H) : va_P D vwCl w2 H := fun k q hk => h (w1.length + k) q (by rw [List.getElem?_append_right (Nat.le_add_right _ _), Nat.add_sub_cancel_left]; exact hk)
theorem dL2 {A : Nat → Prop} {w1 w2 : va_W} (h : va_D A (w1 ++ w2)) : va_D A w1 := by
  have key : ∀ (k : Nat) (q : Nat × va_E), w1[k]? = some q → (w1 ++ w2)[k]? = some q := fun k q hk => by rw [List.getElem?_append_left (List.getElem?_eq_some_iff.mp hk).1]; exact hk
  exact ⟨fun i j p q hi hj e => h.1 i j p q (key i p hi) (key j q hj) e, fun k q hk => h.2 k q (key k q hk)⟩
theorem dR2 {A : Nat → Prop} {w1 w2 : va_W} (h : va_D A (w1 ++ w2)) : va_D A w2 := by
  have key : ∀ (k : Nat) (q : Nat × va_E), w2[k]? = some q → (w1 ++ w2)[w1.length + k]? = some q := fun k q hk => by rw [List.getElem?_append_right (Nat.le_add_right _ _), Nat.add_sub_cancel_left]; exact hk
  exact ⟨fun i j p q hi hj e => Nat.add_left_cancel (h.1 _ _ p q (key i p hi) (key j q hj) e), fun k q hk => h.2 _ q (key k q hk)⟩
theorem dX2 {A : Nat → Prop} {w1 w2 : va_W} (h : va_D A (w1 ++ w2)) {i j : Nat} {p q : Nat × va_E} (hi : w1[i]? = some p) (hj : w2[j]? = some q) : p.1 ≠ q.1 := by
  intro e
  have hl := (List.getElem?_eq_some_iff.mp hi).1
  have := h.1 i (w1.length + j) p q (by rw [List.getElem?_append_left hl]; exact hi) (by rw [List.getElem?_append_right (Nat.le_add_right _ _), Nat.add_sub_cancel_left]; exact hj) e
  omega
/-- at the start both sides say the same: nothing was told -/
theorem MI_0 : MI (s_X5_beginAnew σ0X) (fun _ _ => 0) 0 := by
  refine ⟨⟨by rw [anew_r]; decide +kernel, by rw [anew_r]; decide +kernel, by decide, fun i hi => absurd hi (Nat.not_lt_zero i), fun i hi => absurd hi (Nat.not_lt_zero i), iq_anew σ0X, su_anew σ0X, fun μ _ => q_anew σ0X μ⟩, fun i hi => absurd hi (Nat.not_lt_zero i), rfl, by rw [anew_r]; decide +kernel, fun j hj => ?_, fun j hj => ⟨0, 0, 0, by decide, by decide, by decide, rfl, rfl, rfl⟩, 0, by decide, rfl⟩
  rw [anew_r, anew_r, anew_r]
  simp [σ0X]
theorem st_EX {args : Array Value} {s : State} (hts : ∀ w ∈ lw_tbl, w.before args s = true) (hg : (Jvm.Cond.and given_1 narrow_1).before args s = true) : EX (AN s) s := by
  have hf := flat_of_before _ hg
  have hA : ∀ a : Nat, a < s.heap.size → ¬ AN s a := fun a h z => absurd h (Nat.not_lt.mpr z)
  refine ⟨vx_Zqof (args := args) (hts _ (List.mem_of_getElem? (i := 312) (by decide +kernel))) (hts _ (List.mem_of_getElem? (i := 49) (by decide +kernel))) (hf _ (List.mem_of_getElem? (i := 4) (by decide +kernel))) hA, vx_Zqof (args := args) (hts _ (List.mem_of_getElem? (i := 314) (by decide +kernel))) (hts _ (List.mem_of_getElem? (i := 49) (by decide +kernel))) (hf _ (List.mem_of_getElem? (i := 5) (by decide +kernel))) hA, fun w hw => ?_, fun x hx => ?_⟩
  · unfold dB at hw
    rcases List.mem_cons.mp hw with rfl | hw
    · exact va_Nw.of rfl (hts _ (List.mem_of_getElem? (i := 289) (by decide +kernel)))
    rcases List.mem_cons.mp hw with rfl | hw
    · exact va_Nw.of rfl (hts _ (List.mem_of_getElem? (i := 291) (by decide +kernel)))
    rcases List.mem_cons.mp hw with rfl | hw
    · exact va_Nw.of rfl (hts _ (List.mem_of_getElem? (i := 293) (by decide +kernel)))
    rcases List.mem_cons.mp hw with rfl | hw
    · exact va_Nw.of rfl (hts _ (List.mem_of_getElem? (i := 287) (by decide +kernel)))
    rcases List.mem_cons.mp hw with rfl | hw
    · exact va_Nw.of rfl (hts _ (List.mem_of_getElem? (i := 358) (by decide +kernel)))
    rcases List.mem_cons.mp hw with rfl | hw
    · exact va_Nw.of rfl (hts _ (List.mem_of_getElem? (i := 383) (by decide +kernel)))
    · nomatch hw
  · unfold xS at hx
    rcases List.mem_cons.mp hx with rfl | hx
    · obtain ⟨a, -, -, -, q1, -⟩ := Cond.exactly_spec (args := args) (first := s) (o := none) (s := s) (idx := []) (t := .string RX5 80) (cls := "java/lang/String") (hf _ (List.mem_of_getElem? (i := 77) (by decide +kernel)))
      exact ⟨a, vk_R.of (hts _ (List.mem_of_getElem? (i := 380) (by decide +kernel))) q1⟩
    rcases List.mem_cons.mp hx with rfl | hx
    · obtain ⟨a, -, -, -, q1, -⟩ := Cond.exactly_spec (args := args) (first := s) (o := none) (s := s) (idx := []) (t := .string RX5 87) (cls := "java/lang/String") (hf _ (List.mem_of_getElem? (i := 103) (by decide +kernel)))
      exact ⟨a, vk_R.of (hts _ (List.mem_of_getElem? (i := 390) (by decide +kernel))) q1⟩
    rcases List.mem_cons.mp hx with rfl | hx
    · obtain ⟨a, -, -, -, q1, -⟩ := Cond.exactly_spec (args := args) (first := s) (o := none) (s := s) (idx := []) (t := .string RX5 126) (cls := "java/lang/String") (hf _ (List.mem_of_getElem? (i := 254) (by decide +kernel)))
      exact ⟨a, vk_R.of (hts _ (List.mem_of_getElem? (i := 593) (by decide +kernel))) q1⟩
    rcases List.mem_cons.mp hx with rfl | hx
    · obtain ⟨a, -, -, -, q1, -⟩ := Cond.exactly_spec (args := args) (first := s) (o := none) (s := s) (idx := []) (t := .string RX5 145) (cls := "java/lang/String") (hf _ (List.mem_of_getElem? (i := 293) (by decide +kernel)))
      exact ⟨a, vk_R.of (hts _ (List.mem_of_getElem? (i := 602) (by decide +kernel))) q1⟩
    rcases List.mem_cons.mp hx with rfl | hx
    · obtain ⟨a, -, -, -, q1, -⟩ := Cond.exactly_spec (args := args) (first := s) (o := none) (s := s) (idx := []) (t := .string RX5 165) (cls := "java/lang/String") (hf _ (List.mem_of_getElem? (i := 335) (by decide +kernel)))
      exact ⟨a, vk_R.of (hts _ (List.mem_of_getElem? (i := 614) (by decide +kernel))) q1⟩
    rcases List.mem_cons.mp hx with rfl | hx
    · obtain ⟨a, -, -, -, q1, -⟩ := Cond.exactly_spec (args := args) (first := s) (o := none) (s := s) (idx := []) (t := .string RX5 175) (cls := "java/lang/String") (hf _ (List.mem_of_getElem? (i := 33) (by decide +kernel)))
      exact ⟨a, vk_R.of (hts _ (List.mem_of_getElem? (i := 326) (by decide +kernel))) q1⟩
    rcases List.mem_cons.mp hx with rfl | hx
    · obtain ⟨a, -, -, -, q1, -⟩ := Cond.exactly_spec (args := args) (first := s) (o := none) (s := s) (idx := []) (t := .string RX5 178) (cls := "java/lang/String") (hf _ (List.mem_of_getElem? (i := 179) (by decide +kernel)))
      exact ⟨a, vk_R.of (hts _ (List.mem_of_getElem? (i := 518) (by decide +kernel))) q1⟩
    rcases List.mem_cons.mp hx with rfl | hx
    · obtain ⟨a, -, -, -, q1, -⟩ := Cond.exactly_spec (args := args) (first := s) (o := none) (s := s) (idx := []) (t := .string RX5 180) (cls := "java/lang/String") (hf _ (List.mem_of_getElem? (i := 201) (by decide +kernel)))
      exact ⟨a, vk_R.of (hts _ (List.mem_of_getElem? (i := 536) (by decide +kernel))) q1⟩
    rcases List.mem_cons.mp hx with rfl | hx
    · obtain ⟨a, -, -, -, q1, -⟩ := Cond.exactly_spec (args := args) (first := s) (o := none) (s := s) (idx := []) (t := .string RX5 182) (cls := "java/lang/String") (hf _ (List.mem_of_getElem? (i := 52) (by decide +kernel)))
      exact ⟨a, vk_R.of (hts _ (List.mem_of_getElem? (i := 365) (by decide +kernel))) q1⟩
    rcases List.mem_cons.mp hx with rfl | hx
    · obtain ⟨a, -, -, -, q1, -⟩ := Cond.exactly_spec (args := args) (first := s) (o := none) (s := s) (idx := []) (t := .string RX5 189) (cls := "java/lang/String") (hf _ (List.mem_of_getElem? (i := 224) (by decide +kernel)))
      exact ⟨a, vk_R.of (hts _ (List.mem_of_getElem? (i := 542) (by decide +kernel))) q1⟩
    rcases List.mem_cons.mp hx with rfl | hx
    · obtain ⟨a, -, -, -, q1, -⟩ := Cond.exactly_spec (args := args) (first := s) (o := none) (s := s) (idx := []) (t := .string RX5 195) (cls := "java/lang/String") (hf _ (List.mem_of_getElem? (i := 144) (by decide +kernel)))
      exact ⟨a, vk_R.of (hts _ (List.mem_of_getElem? (i := 412) (by decide +kernel))) q1⟩
    · nomatch hx
theorem st_EC {args : Array Value} {s : State} (hg : (Jvm.Cond.and given_1 narrow_1).before args s = true) : EC s := by
  have hf := flat_of_before _ hg
  exact ⟨va_Nc.of (args := args) (hf _ (List.mem_of_getElem? (i := 13) (by decide +kernel))), va_Nc.of (args := args) (hf _ (List.mem_of_getElem? (i := 14) (by decide +kernel))), va_Nc.of (args := args) (hf _ (List.mem_of_getElem? (i := 23) (by decide +kernel)))⟩
theorem st_N {args : Array Value} {s : State} (hts : ∀ w ∈ lw_tbl, w.before args s = true) : ∀ w ∈ nW, va_Nw w s := by
  intro w hw
  unfold nW at hw
  rcases List.mem_cons.mp hw with rfl | hw
  · exact va_Nw.of rfl (hts _ (List.mem_of_getElem? (i := 68) (by decide +kernel)))
  rcases List.mem_cons.mp hw with rfl | hw
  · exact va_Nw.of rfl (hts _ (List.mem_of_getElem? (i := 96) (by decide +kernel)))
  rcases List.mem_cons.mp hw with rfl | hw
  · exact va_Nw.of rfl (hts _ (List.mem_of_getElem? (i := 115) (by decide +kernel)))
  rcases List.mem_cons.mp hw with rfl | hw
  · exact va_Nw.of rfl (hts _ (List.mem_of_getElem? (i := 136) (by decide +kernel)))
  rcases List.mem_cons.mp hw with rfl | hw
  · exact va_Nw.of rfl (hts _ (List.mem_of_getElem? (i := 171) (by decide +kernel)))
  · nomatch hw
theorem nW_warm {s U : State} (hW : s.WarmedH U.vm) (h : ∀ w ∈ nW, va_Nw w s) : ∀ w ∈ nW, va_Nw w U := by
  intro w hw
  have h9 := h w hw
  unfold nW at hw
  rcases List.mem_cons.mp hw with rfl | hw
  · exact va_Nw.warmM hW h9
  rcases List.mem_cons.mp hw with rfl | hw
  · exact va_Nw.warmM hW h9
  rcases List.mem_cons.mp hw with rfl | hw
  · exact va_Nw.warmM hW h9
  rcases List.mem_cons.mp hw with rfl | hw
  · exact va_Nw.warmM hW h9
  rcases List.mem_cons.mp hw with rfl | hw
  · exact va_Nw.warmM hW h9
  · nomatch hw
theorem nW_same {u U : State} (hv : u.vm = U.vm) (h : ∀ w ∈ nW, va_Nw w u) : ∀ w ∈ nW, va_Nw w U := by
  intro w hw
  have h9 := h w hw
  unfold nW at hw
  rcases List.mem_cons.mp hw with rfl | hw
  · exact va_Nw.same rfl hv h9
  rcases List.mem_cons.mp hw with rfl | hw
  · exact va_Nw.same rfl hv h9
  rcases List.mem_cons.mp hw with rfl | hw
  · exact va_Nw.same rfl hv h9
  rcases List.mem_cons.mp hw with rfl | hw
  · exact va_Nw.same rfl hv h9
  rcases List.mem_cons.mp hw with rfl | hw
  · exact va_Nw.same rfl hv h9
  · nomatch hw
theorem st_K {args : Array Value} {s : State} (hts : ∀ w ∈ lw_tbl, w.before args s = true) : ∃ (D : va_G) (cI : ClassId), va_K D vwCl [(cI, .int)] s := by
  obtain ⟨c0, i0, h0⟩ := u_known (C := RX0) (T := TX0) (N := 7) (n := 7) hts inX0 (hts _ (List.mem_of_getElem? (i := 135) (by decide +kernel)))
  obtain ⟨c1, i1, h1⟩ := u_known (C := RX1) (T := TX1) (N := 3) (n := 3) hts inX1 (hts _ (List.mem_of_getElem? (i := 95) (by decide +kernel)))
  obtain ⟨c2, i2, h2⟩ := u_known (C := RX2) (T := TX2) (N := 6) (n := 6) hts inX2 (hts _ (List.mem_of_getElem? (i := 170) (by decide +kernel)))
  obtain ⟨c3, i3, h3⟩ := u_known (C := RX3) (T := TX3) (N := 4) (n := 4) hts inX3 (hts _ (List.mem_of_getElem? (i := 114) (by decide +kernel)))
  obtain ⟨c4, i4, h4⟩ := u_known (C := RX4) (T := TX4) (N := 5) (n := 5) hts inX4 (hts _ (List.mem_of_getElem? (i := 67) (by decide +kernel)))
  obtain ⟨c5, i5, h5⟩ := u_known (C := RX5) (T := TX5) (N := 9) (n := 9) hts inX5 (hts _ (List.mem_of_getElem? (i := 59) (by decide +kernel)))
  obtain ⟨c6, i6, h6⟩ := u_known (C := RX6) (T := TX6) (N := 29) (n := 29) hts inX6 (hts _ (List.mem_of_getElem? (i := 643) (by decide +kernel)))
  obtain ⟨cA, kA, comp, e1, e2, e3⟩ := Cond.arrayClass_spec (args := args) (first := s) (o := none) (s := s) (idx := []) (type := .int) (hts _ (List.mem_of_getElem? (i := 93) (by decide +kernel)))
  refine ⟨(fun k => if k = 0 then c0 else if k = 1 then c1 else if k = 2 then c2 else if k = 3 then c3 else if k = 4 then c4 else if k = 5 then c5 else c6, fun k => if k = 0 then i0 else if k = 1 then i1 else if k = 2 then i2 else if k = 3 then i3 else if k = 4 then i4 else if k = 5 then i5 else i6), cA, ?_, ?_⟩
  · intro k q hq
    match k, hq with
    | 0, hq => cases hq; exact h0
    | 1, hq => cases hq; exact h1
    | 2, hq => cases hq; exact h2
    | 3, hq => cases hq; exact h3
    | 4, hq => cases hq; exact h4
    | 5, hq => cases hq; exact h5
    | 6, hq => cases hq; exact h6
    | k + 7, hq => simp at hq
  · intro k q hq
    match k, hq with
    | 0, hq =>
      cases hq
      exact ⟨fun n z => ⟨fun k h => (by cases h), kA, e2, comp, e3⟩, e1⟩
    | k + 1, hq => simp at hq
set_option maxHeartbeats 4000000 in
set_option maxRecDepth 100000 in
theorem whole_start {p : Program} {e : Env} {s : State} {m : MethodId} {below : List Frame} {meth : Method} {c : Code} (l : Launch) (hflags : l.flags = flags0) {b L : Nat} {xs : Nat → Int32} (hL : L ≤ 2560) (C0 : lw_At p s m meth c b L xs) : W p l e room_1 s m #[Value.ref b] below meth c s.heap [] 0 0 (lw_Z below #[Value.ref b] s) (entryFrame m ([Value.ref b] : List Value).toArray 7) := by
  obtain ⟨hx, hb, hr, hml, hown, hts, hX, hbl, hlk, hgv⟩ := id C0
  have S : CallFix p m c cL_law 7 s #[Value.ref b] wsL_law RL := ⟨hx, hb, hml, hown, fun w h => hts w (wsL_law_in w h)⟩
  have hb : c.code = cL_law := hb
  have htl : ∀ w ∈ wsL_law, w.before #[Value.ref b] s = true := fun w h => hts w (wsL_law_in w h)
  obtain ⟨D, cI, hK⟩ := st_K hts
  have hE := st_EX hts hgv
  have hEC := st_EC hgv
  have hN := st_N hts
  have hlf : l.stackTraces = false := by unfold Launch.stackTraces; rw [hflags]; decide
  have hA : ∀ q : Nat, s.heap.size ≤ q → AN s q := fun _ h => h
  have hS : va_S (AN s) s.heap s.heap [] := va_S.rf
  have hP : va_P D vwCl [] s.heap := fun k q h => by simp at h
  have hD : va_D (AN s) [] := ⟨fun i j p q h => by simp at h, fun k q h => by simp at h⟩
  have hl := lv_entry ([.ref b]) (n := 7) (Nat.le_of_ble_eq_true rfl)
  rw [lg_entry_eq]
  generalize (lg_sl ([.ref b]) ++ List.replicate (7 - (lg_sl ([.ref b])).length) Slot.unset).toArray = ls at hl ⊢
  have hl : lv_has ls 7 [(0, .ref b)] := hl
  refine va_new (ci := 5) (fs := [.null, .null, .null, .null, .null, .int 0, .int 0, .int 0, .int 0]) (C := RX5) (T := TX5) (N := 9) hx hb hts inX5 tyX5 tyX5_ok hown (hts _ (List.mem_of_getElem? (i := 58) (by decide +kernel))) (hts _ (List.mem_of_getElem? (i := 59) (by decide +kernel))) (hts _ (List.mem_of_getElem? (i := 41) (by decide +kernel))) hK hP hD hS hA rfl (fun j hj => by rcases (show j = 0 ∨ j = 1 ∨ j = 2 ∨ j = 3 ∨ j = 4 ∨ j = 5 ∨ j = 6 ∨ j = 7 ∨ j = 8 by omega) with rfl | rfl | rfl | rfl | rfl | rfl | rfl | rfl | rfl <;> rfl) (Nat.le_of_ble_eq_true rfl) (Nat.le_of_ble_eq_true rfl) dL_law_0 (fun q0 H hP hD hS => ?_)
  have hP : va_P D vwCl [(q0, .inr (5, [.null, .null, .null, .null, .null, .int 0, .int 0, .int 0, .int 0]))] H := hP
  have hD : va_D (AN s) [(q0, .inr (5, [.null, .null, .null, .null, .null, .int 0, .int 0, .int 0, .int 0]))] := hD
  refine W.widen (k := 1) (n := 9) (by omega) (by omega) ?_
  refine lv_dup hx hb dL_law_3 rfl ?_
  have hFc := va_free (wc := [(q0, .inr (5, [.null, .null, .null, .null, .null, .int 0, .int 0, .int 0, .int 0]))]) hD hS hA [0] rfl
  refine va_callv (va_runI (As := []) (rest := [.ref q0]) S (c_X5_init l D cI q0 H.size) (cwI 0 htl gL_law_X5_init rfl rfl rfl (hts _ (List.mem_of_getElem? (i := 41) (by decide +kernel))) (hts _ (List.mem_of_getElem? (i := 60) (by decide +kernel))) (hts _ (List.mem_of_getElem? (i := 61) (by decide +kernel))) rfl (by decide +kernel) ⟨Nat.le_of_ble_eq_true rfl, Nat.le_of_ble_eq_true rfl⟩) ⟨fun a U g mk q => ⟨q.1, q.2.1, q.2.2.1, va_K.moved (u := U) (U := U.calling g mk a) (Vm.Alike.refl U.vm) q.2.2.2.1, q.2.2.2.2.1, nW_same (u := U) (U := U.calling g mk a) rfl q.2.2.2.2.2⟩, fun U hU hW => ⟨rfl, by rw [hU], by rw [hU]; exact hP, va_K.moved hW.alike hK, hD.weaken (fun _ _ _ _ => trivial), nW_warm hW hN⟩⟩ rfl rfl hl.1 rfl (lv_room (Nat.le_of_ble_eq_true rfl)) dL_law_4 ⟨Nat.le_of_ble_eq_true rfl, Nat.le_of_ble_eq_true rfl⟩) hS (fun q _ h => hFc q h) hFc (fun aX t H1 locs ht hvm h5 hB hz1 hk1 hS => ?_)
  obtain ⟨hP1, hD1⟩ := hB
  rw [ht] at hP1
  obtain ⟨hP9, hD9⟩ := va_join (wr := []) (w1 := wX cI aX (s_X5_beginAnew σ0X)) hP hD [0] [] rfl rfl (by decide) (by decide) hk1 hFc hP1 hD1
  generalize H1 = H at hP9 hS ⊢
  obtain rfl := h5
  have hP : va_P D vwCl (wX cI aX (s_X5_beginAnew σ0X)) H := hP9
  have hD : va_D (AN s) (wX cI aX (s_X5_beginAnew σ0X)) := hD9
  obtain ⟨σ1, hσ1⟩ : ∃ z, z = s_X5_beginAnew σ0X := ⟨_, rfl⟩
  have hMI : MI σ1 (fun _ _ => 0) 0 := by rw [hσ1]; exact MI_0
  rw [← hσ1] at hP hD
  refine W.widen (k := 29) (n := 1552) (by omega) (by omega) ?_
  refine lv_astore_n (lv' := [(1, .ref (aX 0)), (0, .ref b)]) hx hb dL_law_7 rfl hl (by decide) rfl (fun ls hl => ?_)
  refine va_new (ci := 6) (fs := [.int 0, .int 0, .null, .null, .null, .int 0, .null, .null, .null, .null, .null, .null, .null, .null, .null, .null, .null, .null, .null, .null, .null, .null, .null, .null, .null, .null, .int 0, .int 0, .int 0]) (C := RX6) (T := TX6) (N := 29) hx hb hts inX6 tyX6 tyX6_ok hown (hts _ (List.mem_of_getElem? (i := 642) (by decide +kernel))) (hts _ (List.mem_of_getElem? (i := 643) (by decide +kernel))) (hts _ (List.mem_of_getElem? (i := 48) (by decide +kernel))) hK hP hD hS hA rfl (fun j hj => by rcases (show j = 0 ∨ j = 1 ∨ j = 2 ∨ j = 3 ∨ j = 4 ∨ j = 5 ∨ j = 6 ∨ j = 7 ∨ j = 8 ∨ j = 9 ∨ j = 10 ∨ j = 11 ∨ j = 12 ∨ j = 13 ∨ j = 14 ∨ j = 15 ∨ j = 16 ∨ j = 17 ∨ j = 18 ∨ j = 19 ∨ j = 20 ∨ j = 21 ∨ j = 22 ∨ j = 23 ∨ j = 24 ∨ j = 25 ∨ j = 26 ∨ j = 27 ∨ j = 28 by omega) with rfl | rfl | rfl | rfl | rfl | rfl | rfl | rfl | rfl | rfl | rfl | rfl | rfl | rfl | rfl | rfl | rfl | rfl | rfl | rfl | rfl | rfl | rfl | rfl | rfl | rfl | rfl | rfl | rfl <;> rfl) (Nat.le_of_ble_eq_true rfl) (Nat.le_of_ble_eq_true rfl) dL_law_8 (fun q8 H hP hD hS => ?_)
  refine W.widen (k := 30) (n := 1581) (by omega) (by omega) ?_
  refine lv_dup hx hb dL_law_11 rfl ?_
  have hPc : va_P D vwCl [(q8, .inr (6, [.int 0, .int 0, .null, .null, .null, .int 0, .null, .null, .null, .null, .null, .null, .null, .null, .null, .null, .null, .null, .null, .null, .null, .null, .null, .null, .null, .null, .int 0, .int 0, .int 0]))] H := pR hP
  have hDc : va_D (AN s) [(q8, .inr (6, [.int 0, .int 0, .null, .null, .null, .int 0, .null, .null, .null, .null, .null, .null, .null, .null, .null, .null, .null, .null, .null, .null, .null, .null, .null, .null, .null, .null, .int 0, .int 0, .int 0]))] := dR2 hD
  have hFc := va_free (wc := [(q8, .inr (6, [.int 0, .int 0, .null, .null, .null, .int 0, .null, .null, .null, .null, .null, .null, .null, .null, .null, .null, .null, .null, .null, .null, .null, .null, .null, .null, .null, .null, .int 0, .int 0, .int 0]))]) hD hS hA [29] rfl
  refine va_callv (va_runI (As := []) (rest := [.ref q8]) S (c_X6_init l D cI q8 H.size) (cwI 0 htl gL_law_X6_init rfl rfl rfl (hts _ (List.mem_of_getElem? (i := 48) (by decide +kernel))) (hts _ (List.mem_of_getElem? (i := 644) (by decide +kernel))) (hts _ (List.mem_of_getElem? (i := 645) (by decide +kernel))) rfl (by decide +kernel) ⟨Nat.le_of_ble_eq_true rfl, Nat.le_of_ble_eq_true rfl⟩) ⟨fun a U g mk q => ⟨q.1, q.2.1, q.2.2.1, va_K.moved (u := U) (U := U.calling g mk a) (Vm.Alike.refl U.vm) q.2.2.2.1, q.2.2.2.2⟩, fun U hU hW => ⟨rfl, by rw [hU], by rw [hU]; exact hPc, va_K.moved hW.alike hK, hDc.weaken (fun _ _ _ _ => trivial)⟩⟩ rfl rfl hl.1 rfl (lv_room (Nat.le_of_ble_eq_true rfl)) dL_law_12 ⟨Nat.le_of_ble_eq_true rfl, Nat.le_of_ble_eq_true rfl⟩) hS (fun q _ h => hFc q h) hFc (fun aM t H1 locs ht hvm h5 hB hz1 hk1 hS => ?_)
  obtain ⟨hP1, hD1⟩ := hB
  rw [ht] at hP1
  obtain ⟨hP9, hD9⟩ := va_join (wr := wX cI aX σ1) (w1 := leaf6 cI aM) hP hD [29] (List.range 29) rfl rfl (by decide) (by decide) hk1 hFc hP1 hD1
  generalize H1 = H at hP9 hS ⊢
  obtain rfl := h5
  have hP : va_P D vwCl (wX cI aX σ1 ++ wM cI aM (fun _ _ => 0)) H := hP9
  have hD : va_D (AN s) (wX cI aX σ1 ++ wM cI aM (fun _ _ => 0)) := hD9
  refine W.widen (k := 53) (n := 3099) (by omega) (by omega) ?_
  refine lv_astore_n (lv' := [(2, .ref (aM 0)), (1, .ref (aX 0)), (0, .ref b)]) hx hb dL_law_15 rfl hl (by decide) rfl (fun ls hl => ?_)
  refine lv_iconst (v := 1) hx hb dL_law_16 (by decide) ?_
  refine va_newa (atype := .long) (ty := .long) (a0 := (1, .inr (.inl (fun _ => 0)))) hx hb (hts _ (List.mem_of_getElem? (i := 927) (by decide +kernel))) rfl hK hP hD hS hA (fun cA => rfl) (by decide) (by decide) (by decide) (Nat.le_of_ble_eq_true rfl) (Nat.le_of_ble_eq_true rfl) dL_law_17 (fun o cJ H hK2 hP hD hS => ?_)
  have kJ : va_K D vwCl [(cJ, .long)] s := hK2.sub [1] rfl
  refine lv_astore_n (lv' := [(3, .ref o), (2, .ref (aM 0)), (1, .ref (aX 0)), (0, .ref b)]) hx hb dL_law_19 rfl hl (by decide) rfl (fun ls hl => ?_)
  refine lv_iconst (v := nI 0) hx hb dL_law_20 (by decide) ?_
  refine lv_istore (lv' := [(4, .int (nI 0)), (3, .ref o), (2, .ref (aM 0)), (1, .ref (aX 0)), (0, .ref b)]) hx hb dL_law_21 hl (by decide) rfl (fun ls hl => ?_)
  have hXk := fst_key (wX_fst cI aX σ1)
  have hMk := fst_key (wM_fst cI aM (fun _ _ => 0))
  have hO0 : ([(o, .inl (cJ, 1, .inr (.inl (fun _ => 0))))] : va_W)[0]? = some (o, .inl (cJ, 1, .inr (.inl (fun _ => 0)))) := rfl
  have hDl := dL2 hD
  have C1 : LC l D cI cJ aX aM o s := by
    refine ⟨gw_of hK (dL2 hDl), gw_ofM hK (dR2 hDl), kJ, fun i hi => ?_, fun i hi => ?_, fun i j hi hj => ?_, fun i hi => ?_, fun i hi => ?_, (dR2 hD).2 0 _ hO0, hE, hEC, hlf⟩
    · obtain ⟨q, h1, h2⟩ := hXk i hi
      rw [← h2]
      exact dX2 hD (i := i) (by rw [List.getElem?_append_left (List.getElem?_eq_some_iff.mp h1).1]; exact h1) hO0
    · obtain ⟨q, h1, h2⟩ := hMk i hi
      rw [← h2]
      exact dX2 hD (i := (wX cI aX σ1).length + i) (by rw [List.getElem?_append_right (Nat.le_add_right _ _), Nat.add_sub_cancel_left]; exact h1) hO0
    · obtain ⟨q, h1, h2⟩ := hXk i hi
      obtain ⟨r, h3, h4⟩ := hMk j hj
      rw [← h2, ← h4]
      exact dX2 hDl h1 h3
    · obtain ⟨q, h1, h2⟩ := hXk i hi
      rw [← h2]
      exact (dL2 hDl).2 i q h1
    · obtain ⟨q, h1, h2⟩ := hMk i hi
      rw [← h2]
      exact (dR2 hDl).2 i q h1
  refine law_loop (KC := 1089) (KS := 11358) S C1 hX hbl hL ⟨Nat.le_of_ble_eq_true rfl, Nat.le_of_ble_eq_true rfl⟩ ⟨Nat.le_of_ble_eq_true rfl, Nat.le_of_ble_eq_true rfl⟩ (fun H1 locs1 ls1 cells1 slots1 hS1 hc1 hs1 => ?_) 512 0 (53 + 1) (3099 + 1) 0 σ1 (fun _ _ => 0) (fun _ => 0) H _ ls (by omega) (by omega) (by omega) (by omega) hMI ⟨pL (pL hP), pR (pL hP), pR hP, hS⟩ ⟨hl.1, hl.2.1, fun q hq => hl.2.2 q ?_⟩
  · refine lv_iconst (v := 1) hx hb dL_law_1250 (by decide) ?_
    refine va_forget (fun q hq => hS1.2.2 q hq) ?_
    refine W.widen (k := 1089) (n := 11358) hc1 hs1 ?_
    refine W.base ?_
    exact lw_ret (Drawn.sameBut.refl s.drawn lw_cs) hx hb hr hlk dL_law_1251
  · simp only [List.mem_cons, List.not_mem_nil, or_false] at hq ⊢
    rcases hq with h | h | h | h | h <;> simp [h]
