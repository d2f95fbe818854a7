/-! THE CLAIM OUT OF ONE WALK OF THE LAW'S BODY. Your part is whole_start (and what it stands on); all else here is the same for every law, but numbers. -/
def R_law : String := "WheelDocksLaw"
def lw_P (b : Addr) (xs : List Int32) (args : Array Value) (s : State) : Prop := args = #[.ref b] ∧ s.IntsAt b xs ∧ xs.length ≤ 260 ∧ (Jvm.Cond.and given_1 narrow_1).before args s = true
/-- what a walk over the start with the record d0 says of its end, said of the start itself -/
theorem lw_closed {s t : State} {o : Outcome} {d0 : Drawn} {L : List Loc} {k n : Nat} (hd0 : s.drawn.sameBut d0 lw_cs) (hv : ∃ v, o = .returned v) (hW : (s.setDrawn d0).WarmedH t.vm) (hs : (s.setDrawn d0).sameButNew ({ t with vm := s.vm } : State) L k n) : State.butDraws s t lw_cs (fun t1 => Framed s o t1 L k n) := by
  have h2 : t.drawn = d0 := congrArg State.drawn hs.1
  refine ⟨⟨hv, hW, State.sameButNew.setDrawn hs s.drawn⟩, ?_, by decide⟩
  rw [h2]
  exact hd0
def lw_Q (_ : Array Value) (s : State) (o : Outcome) (t : State) : Prop := o = .returned (some (.int 1)) ∧ State.butDraws s t lw_cs (fun t1 => Framed s o t1 [] 173 4002)
def lw_Z (below : List Frame) (a : Array Value) (s : State) : State → Prop := fun t => ∃ o, t.status = .running ∧ Ended t below o ∧ lw_Q a s o t
/-- the law's own end, with 1 on the stack, nothing written that was there before, its room as the claim has it; d0: the record of draws at this point (at the entry s.drawn: begin with 'refine W.base ?_' and 'have hd0 := Drawn.sameBut.refl s.drawn lw_cs') -/
theorem lw_ret {p : Program} {l : Launch} {e : Env} {s : State} {m : MethodId} {below : List Frame} {meth : Method} {c : Code} {b : Nat} {d0 : Drawn} (hd0 : s.drawn.sameBut d0 lw_cs) (hx : p.tables.exec = Jvm.exec) (hb : c.code = code) (hr : meth.sig.returnType = ret) (hlocks : meth.locks = false) {pc : Nat} {H : Heap} {ls : Array Slot} (hdg : decode code pc = .ok (.ireturn, 1)) : W p l e room_1 (s.setDrawn d0) m #[Value.ref b] below meth c H [] 173 4002 (lw_Z below #[Value.ref b] s) (F0 m pc ls [.int 1]) := by
  intro T hT X
  obtain ⟨fs, hret, hrun, hended, hW, hframe⟩ := X.leave (v := some (.int 1)) (hlocks := hlocks) (fun h => by rw [hr] at h; cases h)
  have hmeth' : T.vm.method? m = some meth := X.method'
  refine ⟨T.setFrames fs, ?_, .returned (some (.int 1)), hrun, hended, rfl, lw_closed hd0 ⟨_, rfl⟩ hW hframe⟩
  jvm_step X.here [X.here.top, hx, hb, hdg, hmeth', hr, ret, narrow_b1]
  (try refine ⟨rfl, ?_⟩); (try refine ⟨rfl, ?_⟩)
  first | (intro acts; rw [hret _ acts rfl rfl rfl]) | rw [hret _ _ rfl rfl rfl]
  exact Steps.refl _
/-- what holds at the law's entry: the machine, the code, the tables' words (any of lw_tbl by 'hts w (by decide +kernel)'), the script of L ints xs at the cell b, what the Statement gives of the start (any of its parts by flat_of_before) -/
def lw_At (p : Program) (s : State) (m : MethodId) (meth : Method) (c : Code) (b L : Nat) (xs : Nat → Int32) : Prop :=
  p.tables.exec = Jvm.exec ∧ c.code = code ∧ meth.sig.returnType = ret ∧ c.maxLocals = 8 ∧ s.vm.findClass R_law = some m.cls ∧ (∀ w ∈ lw_tbl, w.before #[Value.ref b] s = true) ∧ va_X b L xs s s.heap ∧ b < s.heap.size ∧ meth.locks = false ∧ (Jvm.Cond.and given_1 narrow_1).before #[Value.ref b] s = true
theorem fst_key {w : va_W} {a : Nat → Nat} {N : Nat} (h : w.map Prod.fst = (List.range N).map a) (i : Nat) (hi : i < N) : ∃ q, w[i]? = some q ∧ q.1 = a i := by
  have h1 : (w.map Prod.fst)[i]? = some (a i) := by rw [h, List.getElem?_map, List.getElem?_range hi]; rfl
  rw [List.getElem?_map] at h1
  cases hq : w[i]? with
  | none => rw [hq] at h1; cases h1
  | some q => rw [hq] at h1; exact ⟨q, rfl, Option.some.inj h1⟩
theorem pL {D : va_G} {w1 w2 : va_W} {H : Heap} (h : va_P D vwCl (w1 ++ w2) H) : va_P D vwCl w1 H := fun k q hk => h k q (by rw [List.getElem?_append_left (List.getElem?_eq_some_iff.mp hk).1]; exact hk)
theorem pR {D : va_G} {w1 w2 : va_W} {H : Heap} (h : va_P D vwCl (w1 ++ w2) H) : va_P D vwCl w2 H := fun k q hk => h (w1.length + k) q (by rw [List.getElem?_append_right (Nat.le_add_right _ _), Nat.add_sub_cancel_left]; exact hk)
theorem dL2 {A : Nat → Prop} {w1 w2 : va_W} (h : va_D A (w1 ++ w2)) : va_D A w1 := by
  have key : ∀ (k : Nat) (q : Nat × va_E), w1[k]? = some q → (w1 ++ w2)[k]? = some q := fun k q hk => by rw [List.getElem?_append_left (List.getElem?_eq_some_iff.mp hk).1]; exact hk
  exact ⟨fun i j p q hi hj e => h.1 i j p q (key i p hi) (key j q hj) e, fun k q hk => h.2 k q (key k q hk)⟩
theorem dR2 {A : Nat → Prop} {w1 w2 : va_W} (h : va_D A (w1 ++ w2)) : va_D A w2 := by
  have key : ∀ (k : Nat) (q : Nat × va_E), w2[k]? = some q → (w1 ++ w2)[w1.length + k]? = some q := fun k q hk => by rw [List.getElem?_append_right (Nat.le_add_right _ _), Nat.add_sub_cancel_left]; exact hk
  exact ⟨fun i j p q hi hj e => Nat.add_left_cancel (h.1 _ _ p q (key i p hi) (key j q hj) e), fun k q hk => h.2 _ q (key k q hk)⟩
theorem dX2 {A : Nat → Prop} {w1 w2 : va_W} (h : va_D A (w1 ++ w2)) {i j : Nat} {p q : Nat × va_E} (hi : w1[i]? = some p) (hj : w2[j]? = some q) : p.1 ≠ q.1 := by
  intro e
  have hl := (List.getElem?_eq_some_iff.mp hi).1
  have := h.1 i (w1.length + j) p q (by rw [List.getElem?_append_left hl]; exact hi) (by rw [List.getElem?_append_right (Nat.le_add_right _ _), Nat.add_sub_cancel_left]; exact hj) e
  omega
theorem st_EX {args : Array Value} {s : State} (hts : ∀ w ∈ lw_tbl, w.before args s = true) (hg : (Jvm.Cond.and given_1 narrow_1).before args s = true) : EX (AN s) s := by
  have hf := flat_of_before _ hg
  have hA : ∀ a : Nat, a < s.heap.size → ¬ AN s a := fun a h z => absurd h (Nat.not_lt.mpr z)
  refine ⟨vx_Zqof (args := args) (hts _ (List.mem_of_getElem? (i := 276) (by decide +kernel))) (hts _ (List.mem_of_getElem? (i := 26) (by decide +kernel))) (hf _ (List.mem_of_getElem? (i := 4) (by decide +kernel))) hA, vx_Zqof (args := args) (hts _ (List.mem_of_getElem? (i := 278) (by decide +kernel))) (hts _ (List.mem_of_getElem? (i := 26) (by decide +kernel))) (hf _ (List.mem_of_getElem? (i := 5) (by decide +kernel))) hA, fun w hw => ?_, fun x hx => ?_⟩
  · unfold dB at hw
    rcases List.mem_cons.mp hw with rfl | hw
    · exact va_Nw.of rfl (hts _ (List.mem_of_getElem? (i := 253) (by decide +kernel)))
    rcases List.mem_cons.mp hw with rfl | hw
    · exact va_Nw.of rfl (hts _ (List.mem_of_getElem? (i := 255) (by decide +kernel)))
    rcases List.mem_cons.mp hw with rfl | hw
    · exact va_Nw.of rfl (hts _ (List.mem_of_getElem? (i := 257) (by decide +kernel)))
    rcases List.mem_cons.mp hw with rfl | hw
    · exact va_Nw.of rfl (hts _ (List.mem_of_getElem? (i := 251) (by decide +kernel)))
    rcases List.mem_cons.mp hw with rfl | hw
    · exact va_Nw.of rfl (hts _ (List.mem_of_getElem? (i := 322) (by decide +kernel)))
    rcases List.mem_cons.mp hw with rfl | hw
    · exact va_Nw.of rfl (hts _ (List.mem_of_getElem? (i := 346) (by decide +kernel)))
    · nomatch hw
  · unfold xS at hx
    rcases List.mem_cons.mp hx with rfl | hx
    · obtain ⟨a, -, -, -, q1, -⟩ := Cond.exactly_spec (args := args) (first := s) (o := none) (s := s) (idx := []) (t := .string RX5 80) (cls := "java/lang/String") (hf _ (List.mem_of_getElem? (i := 176) (by decide +kernel)))
      exact ⟨a, vk_R.of (hts _ (List.mem_of_getElem? (i := 545) (by decide +kernel))) q1⟩
    rcases List.mem_cons.mp hx with rfl | hx
    · obtain ⟨a, -, -, -, q1, -⟩ := Cond.exactly_spec (args := args) (first := s) (o := none) (s := s) (idx := []) (t := .string RX5 87) (cls := "java/lang/String") (hf _ (List.mem_of_getElem? (i := 206) (by decide +kernel)))
      exact ⟨a, vk_R.of (hts _ (List.mem_of_getElem? (i := 546) (by decide +kernel))) q1⟩
    rcases List.mem_cons.mp hx with rfl | hx
    · obtain ⟨a, -, -, -, q1, -⟩ := Cond.exactly_spec (args := args) (first := s) (o := none) (s := s) (idx := []) (t := .string RX5 126) (cls := "java/lang/String") (hf _ (List.mem_of_getElem? (i := 251) (by decide +kernel)))
      exact ⟨a, vk_R.of (hts _ (List.mem_of_getElem? (i := 561) (by decide +kernel))) q1⟩
    rcases List.mem_cons.mp hx with rfl | hx
    · obtain ⟨a, -, -, -, q1, -⟩ := Cond.exactly_spec (args := args) (first := s) (o := none) (s := s) (idx := []) (t := .string RX5 145) (cls := "java/lang/String") (hf _ (List.mem_of_getElem? (i := 290) (by decide +kernel)))
      exact ⟨a, vk_R.of (hts _ (List.mem_of_getElem? (i := 570) (by decide +kernel))) q1⟩
    rcases List.mem_cons.mp hx with rfl | hx
    · obtain ⟨a, -, -, -, q1, -⟩ := Cond.exactly_spec (args := args) (first := s) (o := none) (s := s) (idx := []) (t := .string RX5 165) (cls := "java/lang/String") (hf _ (List.mem_of_getElem? (i := 332) (by decide +kernel)))
      exact ⟨a, vk_R.of (hts _ (List.mem_of_getElem? (i := 590) (by decide +kernel))) q1⟩
    rcases List.mem_cons.mp hx with rfl | hx
    · obtain ⟨a, -, -, -, q1, -⟩ := Cond.exactly_spec (args := args) (first := s) (o := none) (s := s) (idx := []) (t := .string RX5 175) (cls := "java/lang/String") (hf _ (List.mem_of_getElem? (i := 30) (by decide +kernel)))
      exact ⟨a, vk_R.of (hts _ (List.mem_of_getElem? (i := 290) (by decide +kernel))) q1⟩
    rcases List.mem_cons.mp hx with rfl | hx
    · obtain ⟨a, -, -, -, q1, -⟩ := Cond.exactly_spec (args := args) (first := s) (o := none) (s := s) (idx := []) (t := .string RX5 178) (cls := "java/lang/String") (hf _ (List.mem_of_getElem? (i := 107) (by decide +kernel)))
      exact ⟨a, vk_R.of (hts _ (List.mem_of_getElem? (i := 470) (by decide +kernel))) q1⟩
    rcases List.mem_cons.mp hx with rfl | hx
    · obtain ⟨a, -, -, -, q1, -⟩ := Cond.exactly_spec (args := args) (first := s) (o := none) (s := s) (idx := []) (t := .string RX5 180) (cls := "java/lang/String") (hf _ (List.mem_of_getElem? (i := 127) (by decide +kernel)))
      exact ⟨a, vk_R.of (hts _ (List.mem_of_getElem? (i := 488) (by decide +kernel))) q1⟩
    rcases List.mem_cons.mp hx with rfl | hx
    · obtain ⟨a, -, -, -, q1, -⟩ := Cond.exactly_spec (args := args) (first := s) (o := none) (s := s) (idx := []) (t := .string RX5 182) (cls := "java/lang/String") (hf _ (List.mem_of_getElem? (i := 49) (by decide +kernel)))
      exact ⟨a, vk_R.of (hts _ (List.mem_of_getElem? (i := 329) (by decide +kernel))) q1⟩
    rcases List.mem_cons.mp hx with rfl | hx
    · obtain ⟨a, -, -, -, q1, -⟩ := Cond.exactly_spec (args := args) (first := s) (o := none) (s := s) (idx := []) (t := .string RX5 189) (cls := "java/lang/String") (hf _ (List.mem_of_getElem? (i := 148) (by decide +kernel)))
      exact ⟨a, vk_R.of (hts _ (List.mem_of_getElem? (i := 494) (by decide +kernel))) q1⟩
    rcases List.mem_cons.mp hx with rfl | hx
    · obtain ⟨a, -, -, -, q1, -⟩ := Cond.exactly_spec (args := args) (first := s) (o := none) (s := s) (idx := []) (t := .string RX5 195) (cls := "java/lang/String") (hf _ (List.mem_of_getElem? (i := 74) (by decide +kernel)))
      exact ⟨a, vk_R.of (hts _ (List.mem_of_getElem? (i := 353) (by decide +kernel))) q1⟩
    · nomatch hx
theorem st_EC {args : Array Value} {s : State} (hg : (Jvm.Cond.and given_1 narrow_1).before args s = true) : EC s := by
  have hf := flat_of_before _ hg
  exact ⟨va_Nc.of (args := args) (hf _ (List.mem_of_getElem? (i := 12) (by decide +kernel))), va_Nc.of (args := args) (hf _ (List.mem_of_getElem? (i := 13) (by decide +kernel))), va_Nc.of (args := args) (hf _ (List.mem_of_getElem? (i := 21) (by decide +kernel)))⟩
theorem st_N {args : Array Value} {s : State} (hts : ∀ w ∈ lw_tbl, w.before args s = true) : ∀ w ∈ nW, va_Nw w s := by
  intro w hw
  unfold nW at hw
  rcases List.mem_cons.mp hw with rfl | hw
  · exact va_Nw.of rfl (hts _ (List.mem_of_getElem? (i := 45) (by decide +kernel)))
  rcases List.mem_cons.mp hw with rfl | hw
  · exact va_Nw.of rfl (hts _ (List.mem_of_getElem? (i := 73) (by decide +kernel)))
  rcases List.mem_cons.mp hw with rfl | hw
  · exact va_Nw.of rfl (hts _ (List.mem_of_getElem? (i := 92) (by decide +kernel)))
  rcases List.mem_cons.mp hw with rfl | hw
  · exact va_Nw.of rfl (hts _ (List.mem_of_getElem? (i := 113) (by decide +kernel)))
  rcases List.mem_cons.mp hw with rfl | hw
  · exact va_Nw.of rfl (hts _ (List.mem_of_getElem? (i := 148) (by decide +kernel)))
  · nomatch hw
theorem nW_warm {s U : State} (hW : s.WarmedH U.vm) (h : ∀ w ∈ nW, va_Nw w s) : ∀ w ∈ nW, va_Nw w U := by
  intro w hw
  have h9 := h w hw
  unfold nW at hw
  rcases List.mem_cons.mp hw with rfl | hw
  · exact va_Nw.warmM hW h9
  rcases List.mem_cons.mp hw with rfl | hw
  · exact va_Nw.warmM hW h9
  rcases List.mem_cons.mp hw with rfl | hw
  · exact va_Nw.warmM hW h9
  rcases List.mem_cons.mp hw with rfl | hw
  · exact va_Nw.warmM hW h9
  rcases List.mem_cons.mp hw with rfl | hw
  · exact va_Nw.warmM hW h9
  · nomatch hw
theorem nW_same {u U : State} (hv : u.vm = U.vm) (h : ∀ w ∈ nW, va_Nw w u) : ∀ w ∈ nW, va_Nw w U := by
  intro w hw
  have h9 := h w hw
  unfold nW at hw
  rcases List.mem_cons.mp hw with rfl | hw
  · exact va_Nw.same rfl hv h9
  rcases List.mem_cons.mp hw with rfl | hw
  · exact va_Nw.same rfl hv h9
  rcases List.mem_cons.mp hw with rfl | hw
  · exact va_Nw.same rfl hv h9
  rcases List.mem_cons.mp hw with rfl | hw
  · exact va_Nw.same rfl hv h9
  rcases List.mem_cons.mp hw with rfl | hw
  · exact va_Nw.same rfl hv h9
  · nomatch hw
theorem st_K {args : Array Value} {s : State} (hts : ∀ w ∈ lw_tbl, w.before args s = true) : ∃ (D : va_G) (cI : ClassId), va_K D vwCl [(cI, .int)] s := by
  obtain ⟨c0, i0, h0⟩ := u_known (C := RX0) (T := TX0) (N := 7) (n := 7) hts inX0 (hts _ (List.mem_of_getElem? (i := 112) (by decide +kernel)))
  obtain ⟨c1, i1, h1⟩ := u_known (C := RX1) (T := TX1) (N := 3) (n := 3) hts inX1 (hts _ (List.mem_of_getElem? (i := 72) (by decide +kernel)))
  obtain ⟨c2, i2, h2⟩ := u_known (C := RX2) (T := TX2) (N := 6) (n := 6) hts inX2 (hts _ (List.mem_of_getElem? (i := 147) (by decide +kernel)))
  obtain ⟨c3, i3, h3⟩ := u_known (C := RX3) (T := TX3) (N := 4) (n := 4) hts inX3 (hts _ (List.mem_of_getElem? (i := 91) (by decide +kernel)))
  obtain ⟨c4, i4, h4⟩ := u_known (C := RX4) (T := TX4) (N := 5) (n := 5) hts inX4 (hts _ (List.mem_of_getElem? (i := 44) (by decide +kernel)))
  obtain ⟨c5, i5, h5⟩ := u_known (C := RX5) (T := TX5) (N := 9) (n := 9) hts inX5 (hts _ (List.mem_of_getElem? (i := 36) (by decide +kernel)))
  obtain ⟨cA, kA, comp, e1, e2, e3⟩ := Cond.arrayClass_spec (args := args) (first := s) (o := none) (s := s) (idx := []) (type := .int) (hts _ (List.mem_of_getElem? (i := 70) (by decide +kernel)))
  refine ⟨(fun k => if k = 0 then c0 else if k = 1 then c1 else if k = 2 then c2 else if k = 3 then c3 else if k = 4 then c4 else c5, fun k => if k = 0 then i0 else if k = 1 then i1 else if k = 2 then i2 else if k = 3 then i3 else if k = 4 then i4 else i5), cA, ?_, ?_⟩
  · intro k q hq
    match k, hq with
    | 0, hq => cases hq; exact h0
    | 1, hq => cases hq; exact h1
    | 2, hq => cases hq; exact h2
    | 3, hq => cases hq; exact h3
    | 4, hq => cases hq; exact h4
    | 5, hq => cases hq; exact h5
    | k + 6, hq => simp at hq
  · intro k q hq
    match k, hq with
    | 0, hq =>
      cases hq
      exact ⟨fun n z => ⟨fun k h => (by cases h), kA, e2, comp, e3⟩, e1⟩
    | k + 1, hq => simp at hq
set_option maxHeartbeats 4000000 in
set_option maxRecDepth 100000 in
theorem whole_start {p : Program} {e : Env} {s : State} {m : MethodId} {below : List Frame} {meth : Method} {c : Code} (l : Launch) (hflags : l.flags = flags0) {b L : Nat} {xs : Nat → Int32} (hL : L ≤ 260) (C0 : lw_At p s m meth c b L xs) : W p l e room_1 s m #[Value.ref b] below meth c s.heap [] 0 0 (lw_Z below #[Value.ref b] s) (entryFrame m ([Value.ref b] : List Value).toArray 8) := by
  obtain ⟨hx, hb, hr, hml, hown, hts, hX, hbl, hlk, hgv⟩ := id C0
  have S : CallFix p m c cL_law 8 s #[Value.ref b] wsL_law RL := ⟨hx, hb, hml, hown, fun w h => hts w (wsL_law_in w h)⟩
  have hb : c.code = cL_law := hb
  have htl : ∀ w ∈ wsL_law, w.before #[Value.ref b] s = true := fun w h => hts w (wsL_law_in w h)
  obtain ⟨D, cI, hK⟩ := st_K hts
  have hE := st_EX hts hgv
  have hEC := st_EC hgv
  have hN := st_N hts
  have hlf : l.stackTraces = false := by unfold Launch.stackTraces; rw [hflags]; decide
  have hA : ∀ q : Nat, s.heap.size ≤ q → AN s q := fun _ h => h
  have hS : va_S (AN s) s.heap s.heap [] := va_S.rf
  have hP : va_P D vwCl [] s.heap := fun k q h => by simp at h
  have hD : va_D (AN s) [] := ⟨fun i j p q h => by simp at h, fun k q h => by simp at h⟩
  have hl := lv_entry ([.ref b]) (n := 8) (Nat.le_of_ble_eq_true rfl)
  rw [lg_entry_eq]
  generalize (lg_sl ([.ref b]) ++ List.replicate (8 - (lg_sl ([.ref b])).length) Slot.unset).toArray = ls at hl ⊢
  have hl : lv_has ls 8 [(0, .ref b)] := hl
  refine va_new (ci := 5) (fs := [.null, .null, .null, .null, .null, .int 0, .int 0, .int 0, .int 0]) (C := RX5) (T := TX5) (N := 9) hx hb hts inX5 tyX5 tyX5_ok hown (hts _ (List.mem_of_getElem? (i := 35) (by decide +kernel))) (hts _ (List.mem_of_getElem? (i := 36) (by decide +kernel))) (hts _ (List.mem_of_getElem? (i := 19) (by decide +kernel))) hK hP hD hS hA rfl (fun j hj => by rcases (show j = 0 ∨ j = 1 ∨ j = 2 ∨ j = 3 ∨ j = 4 ∨ j = 5 ∨ j = 6 ∨ j = 7 ∨ j = 8 by omega) with rfl | rfl | rfl | rfl | rfl | rfl | rfl | rfl | rfl <;> rfl) (Nat.le_of_ble_eq_true rfl) (Nat.le_of_ble_eq_true rfl) dL_law_0 (fun q0 H hP hD hS => ?_)
  have hP : va_P D vwCl [(q0, .inr (5, [.null, .null, .null, .null, .null, .int 0, .int 0, .int 0, .int 0]))] H := hP
  have hD : va_D (AN s) [(q0, .inr (5, [.null, .null, .null, .null, .null, .int 0, .int 0, .int 0, .int 0]))] := hD
  refine W.widen (k := 1) (n := 9) (by omega) (by omega) ?_
  refine lv_dup hx hb dL_law_3 rfl ?_
  have hFc := va_free (wc := [(q0, .inr (5, [.null, .null, .null, .null, .null, .int 0, .int 0, .int 0, .int 0]))]) hD hS hA [0] rfl
  refine va_callv (va_runI (As := []) (rest := [.ref q0]) S (c_X5_init l D cI q0 H.size) (cwI 0 htl gL_law_X5_init rfl rfl rfl (hts _ (List.mem_of_getElem? (i := 19) (by decide +kernel))) (hts _ (List.mem_of_getElem? (i := 37) (by decide +kernel))) (hts _ (List.mem_of_getElem? (i := 38) (by decide +kernel))) rfl (by decide +kernel) ⟨Nat.le_of_ble_eq_true rfl, Nat.le_of_ble_eq_true rfl⟩) ⟨fun a U g mk q => ⟨q.1, q.2.1, q.2.2.1, va_K.moved (u := U) (U := U.calling g mk a) (Vm.Alike.refl U.vm) q.2.2.2.1, q.2.2.2.2.1, nW_same (u := U) (U := U.calling g mk a) rfl q.2.2.2.2.2⟩, fun U hU hW => ⟨rfl, by rw [hU], by rw [hU]; exact hP, va_K.moved hW.alike hK, hD.weaken (fun _ _ _ _ => trivial), nW_warm hW hN⟩⟩ rfl rfl hl.1 rfl (lv_room (Nat.le_of_ble_eq_true rfl)) dL_law_4 ⟨Nat.le_of_ble_eq_true rfl, Nat.le_of_ble_eq_true rfl⟩) hS (fun q _ h => hFc q h) hFc (fun aO t H1 locs ht hvm h5 hB hz1 hk1 hS => ?_)
  obtain ⟨hP1, hD1⟩ := hB
  rw [ht] at hP1
  obtain ⟨hP9, hD9⟩ := va_join (wr := []) (w1 := wX cI aO (s_X5_beginAnew σ0X)) hP hD [0] [] rfl rfl (by decide) (by decide) hk1 hFc hP1 hD1
  generalize H1 = H at hP9 hS ⊢
  obtain rfl := h5
  have hP : va_P D vwCl (wX cI aO (s_X5_beginAnew σ0X)) H := hP9
  have hD : va_D (AN s) (wX cI aO (s_X5_beginAnew σ0X)) := hD9
  obtain ⟨σ1, hσ1⟩ : ∃ z, z = s_X5_beginAnew σ0X := ⟨_, rfl⟩
  have hMC : MC σ1 0 := by rw [hσ1]; exact MC_0
  have e05 : σ1 0 5 = 0 := by rw [hσ1, anew_r]; decide +kernel
  rw [← hσ1] at hP hD
  refine W.widen (k := 29) (n := 1552) (by omega) (by omega) ?_
  refine lv_astore_n (lv' := [(1, .ref (aO 0)), (0, .ref b)]) hx hb dL_law_7 rfl hl (by decide) rfl (fun ls hl => ?_)
  refine va_new (ci := 5) (fs := [.null, .null, .null, .null, .null, .int 0, .int 0, .int 0, .int 0]) (C := RX5) (T := TX5) (N := 9) hx hb hts inX5 tyX5 tyX5_ok hown (hts _ (List.mem_of_getElem? (i := 35) (by decide +kernel))) (hts _ (List.mem_of_getElem? (i := 36) (by decide +kernel))) (hts _ (List.mem_of_getElem? (i := 19) (by decide +kernel))) hK hP hD hS hA rfl (fun j hj => by rcases (show j = 0 ∨ j = 1 ∨ j = 2 ∨ j = 3 ∨ j = 4 ∨ j = 5 ∨ j = 6 ∨ j = 7 ∨ j = 8 by omega) with rfl | rfl | rfl | rfl | rfl | rfl | rfl | rfl | rfl <;> rfl) (Nat.le_of_ble_eq_true rfl) (Nat.le_of_ble_eq_true rfl) dL_law_8 (fun q8 H hP hD hS => ?_)
  refine W.widen (k := 30) (n := 1561) (by omega) (by omega) ?_
  refine lv_dup hx hb dL_law_11 rfl ?_
  have hPc : va_P D vwCl [(q8, .inr (5, [.null, .null, .null, .null, .null, .int 0, .int 0, .int 0, .int 0]))] H := pR hP
  have hDc : va_D (AN s) [(q8, .inr (5, [.null, .null, .null, .null, .null, .int 0, .int 0, .int 0, .int 0]))] := dR2 hD
  have hFc := va_free (wc := [(q8, .inr (5, [.null, .null, .null, .null, .null, .int 0, .int 0, .int 0, .int 0]))]) hD hS hA [29] rfl
  refine va_callv (va_runI (As := []) (rest := [.ref q8]) S (c_X5_init l D cI q8 H.size) (cwI 0 htl gL_law_X5_init rfl rfl rfl (hts _ (List.mem_of_getElem? (i := 19) (by decide +kernel))) (hts _ (List.mem_of_getElem? (i := 37) (by decide +kernel))) (hts _ (List.mem_of_getElem? (i := 38) (by decide +kernel))) rfl (by decide +kernel) ⟨Nat.le_of_ble_eq_true rfl, Nat.le_of_ble_eq_true rfl⟩) ⟨fun a U g mk q => ⟨q.1, q.2.1, q.2.2.1, va_K.moved (u := U) (U := U.calling g mk a) (Vm.Alike.refl U.vm) q.2.2.2.1, q.2.2.2.2.1, nW_same (u := U) (U := U.calling g mk a) rfl q.2.2.2.2.2⟩, fun U hU hW => ⟨rfl, by rw [hU], by rw [hU]; exact hPc, va_K.moved hW.alike hK, hDc.weaken (fun _ _ _ _ => trivial), nW_warm hW hN⟩⟩ rfl rfl hl.1 rfl (lv_room (Nat.le_of_ble_eq_true rfl)) dL_law_12 ⟨Nat.le_of_ble_eq_true rfl, Nat.le_of_ble_eq_true rfl⟩) hS (fun q _ h => hFc q h) hFc (fun aP t H1 locs ht hvm h5 hB hz1 hk1 hS => ?_)
  obtain ⟨hP1, hD1⟩ := hB
  rw [ht] at hP1
  obtain ⟨hP9, hD9⟩ := va_join (wr := wX cI aO σ1) (w1 := wX cI aP (s_X5_beginAnew σ0X)) hP hD [29] (List.range 29) rfl rfl (by decide) (by decide) hk1 hFc hP1 hD1
  generalize H1 = H at hP9 hS ⊢
  obtain rfl := h5
  rw [← hσ1] at hP9 hD9
  have hP : va_P D vwCl (wX cI aO σ1 ++ wX cI aP σ1) H := hP9
  have hD : va_D (AN s) (wX cI aO σ1 ++ wX cI aP σ1) := hD9
  refine W.widen (k := 58) (n := 3104) (by omega) (by omega) ?_
  refine lv_astore_n (lv' := [(2, .ref (aP 0)), (1, .ref (aO 0)), (0, .ref b)]) hx hb dL_law_15 rfl hl (by decide) rfl (fun ls hl => ?_)
  refine lv_iconst (v := σ1 0 5) hx hb dL_law_16 (by rw [e05]; decide) ?_
  refine lv_istore_n (lv' := [(3, .int (σ1 0 5)), (2, .ref (aP 0)), (1, .ref (aO 0)), (0, .ref b)]) hx hb dL_law_17 rfl hl (by decide) rfl (fun ls hl => ?_)
  refine lv_iconst (v := nI 0) hx hb dL_law_18 (by decide) ?_
  refine lv_istore (lv' := [(4, .int (nI 0)), (3, .int (σ1 0 5)), (2, .ref (aP 0)), (1, .ref (aO 0)), (0, .ref b)]) hx hb dL_law_19 hl (by decide) rfl (fun ls hl => ?_)
  have hOk := fst_key (wX_fst cI aO σ1)
  have hPk := fst_key (wX_fst cI aP σ1)
  have C1 : LC D cI aO aP (AN s) s := by
    refine ⟨gw_of hK (dL2 hD), gw_of hK (dR2 hD), fun i j hi hj => ?_, fun i hi => ?_, fun i hi => ?_, fun q h => h, hE, hEC⟩
    · obtain ⟨q, h1, h2⟩ := hOk i hi
      obtain ⟨r, h3, h4⟩ := hPk j hj
      rw [← h2, ← h4]
      exact dX2 hD h1 h3
    · obtain ⟨q, h1, h2⟩ := hOk i hi
      rw [← h2]
      exact (dL2 hD).2 i q h1
    · obtain ⟨q, h1, h2⟩ := hPk i hi
      rw [← h2]
      exact (dR2 hD).2 i q h1
  refine law_loop (KC := 158) (KS := 3704) S C1 hlf hX hbl (by omega) ⟨Nat.le_of_ble_eq_true rfl, Nat.le_of_ble_eq_true rfl⟩ ⟨Nat.le_of_ble_eq_true rfl, Nat.le_of_ble_eq_true rfl⟩ (fun H1 locs1 ls1 cells1 slots1 σ2 n2 hm2 hL2 hc1 hs1 hl1 => ?_) 100 0 58 3104 0 σ1 H _ ls rfl (by omega) (by omega) hMC ⟨pL hP, pR hP, hS⟩ (lv_sub hl [0, 1, 4, 3, 2] rfl)
  refine lv_aload_n hx hb dL_law_144 rfl (lv_at hl1 0 rfl) ?_
  refine t_callC (n := 1) (As := [.ref (aO 0)]) (rest := []) S C1 hL2 (c_L_isSo l D cI aO H1.size σ2 n2 hm2 hlf) rfl rfl gL_law_L_isSo rfl (by decide +kernel) ⟨Nat.le_of_ble_eq_true rfl, Nat.le_of_ble_eq_true rfl⟩ rfl hl1.1 rfl (Nat.le_of_ble_eq_true rfl) ⟨Nat.le_trans (Nat.add_le_add_right hc1 2) (Nat.le_of_ble_eq_true rfl), Nat.le_trans (Nat.add_le_add_right hs1 12) (Nat.le_of_ble_eq_true rfl)⟩ dL_law_145 (fun H2 locs2 hL3 => ?_)
  refine va_forget (fun q hq => hL3.2.2.2.2 q hq) ?_
  refine W.widen (k := 173) (n := 4002) (by omega) (by omega) ?_
  refine W.base ?_
  exact lw_ret (Drawn.sameBut.refl s.drawn lw_cs) hx hb hr hlk dL_law_148
