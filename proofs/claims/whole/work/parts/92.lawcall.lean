-- the law: its rows
theorem thr_eq {X : Sg} {k : Int32} (h : X 0 0 = k) : r_X6_thrown X = k := h
/-- what lies new behind the start -/
def AN (s : State) : Nat → Prop := fun q => s.heap.size ≤ q
def LC (l : Launch) (D : va_G) (cI cJ : ClassId) (aX aM : Nat → Nat) (o : Nat) (s : State) : Prop :=
  GW D cI 29 aX (wX cI aX) s ∧ GW D cI 24 aM (wM cI aM) s ∧ va_K D vwCl [(cJ, .long)] s ∧ (∀ i, i < 29 → aX i ≠ o) ∧ (∀ i, i < 24 → aM i ≠ o) ∧ (∀ i j, i < 29 → j < 24 → aX i ≠ aM j) ∧
  (∀ i, i < 29 → s.heap.size ≤ aX i) ∧ (∀ i, i < 24 → s.heap.size ≤ aM i) ∧ s.heap.size ≤ o ∧ EX (AN s) s ∧ EC s ∧ l.stackTraces = false
def LH (D : va_G) (cI cJ : ClassId) (aX aM : Nat → Nat) (o : Nat) (s : State) (σ μ : Sg) (f : Nat → Int64) (H : Heap) (locs : List Loc) : Prop :=
  va_P D vwCl (wX cI aX σ) H ∧ va_P D vwCl (wM cI aM μ) H ∧ va_P D vwCl [(o, oE cJ f)] H ∧ va_S (AN s) s.heap H locs
theorem keepP {D : va_G} {ws : va_W} {A : Nat → Prop} {H H1 : Heap} (h : va_P D vwCl ws H) (hk : ∀ q : Nat, q < H.size → ¬ A q → H1[q]? = H[q]?) (hd : ∀ (k : Nat) (q : Nat × va_E), ws[k]? = some q → ¬ A q.1) : va_P D vwCl ws H1 :=
  h.kept (fun k q hq => hk q.1 (h k q hq).lt (hd k q hq))
section LW
variable {p : Program} {l : Launch} {e : Env} {R : Room} {s : State} {m : MethodId} {args : Array Value} {below : List Frame} {meth : Method} {c : Code} {H : Heap} {locs : List Loc} {cells slots : Nat} {Q : State → Prop}
variable {cc : ByteArray} {pc nL : Nat} {ls : Array Slot} {rest : List Value} {D : va_G} {cI cJ : ClassId} {aX aM : Nat → Nat} {o : Nat} {σ μ : Sg} {f : Nat → Int64} {Ts : List Cond} {own : String}
/-- a call of the law's own -/
theorem L_call {y : MethodName} {bytes : ByteArray} {maxL n index : Nat} {ret : Option FieldType} {hh : List (Nat × Nat × Nat × Nat)} {ws ws' : List Cond} {As : List Value} {st0 : List Value} {k : Int32} {σ' : Sg} {f' : Nat → Int64} (S : CallFix p m c cc nL s args Ts own) (C0 : LC l D cI cJ aX aM o s) (hL : LH D cI cJ aX aM o s σ μ f H locs)
    (hA : Act l D cI cJ aX o H.size y ws As σ f k σ' f') (hT : GoodIn Ts (va_wsS own index y ws)) (hw : ws = Cond.codeWith y bytes maxL ret hh :: ws')
    (hd : y.cls ≠ "java/lang/invoke/MethodHandle" ∧ y.cls ≠ "java/lang/invoke/VarHandle" ∧ (parseMethodDescriptor y.desc).map (fun d => d.parameters.length) = some n) (hmx : maxL ≤ 7) (hRm : 11 ≤ R.frames ∧ 432 ≤ R.locals)
    (hn : As.length = n) (hl : ls.size = nL) (hst : st0 = As.reverse) (hR : cells + 1 ≤ R.cells ∧ slots + 6 ≤ R.slots) (hdg : decode cc pc = .ok (.invokestatic index, 3))
    (kk : ∀ (H1 : Heap) (locs1 : List Loc), LH D cI cJ aX aM o s σ' μ f' H1 locs1 → W p l e R s m args below meth c H1 locs1 (cells + 1) (slots + 6) Q (F0 m (pc + 3) ls [.int k])) : W p l e R s m args below meth c H locs cells slots Q (F0 m pc ls st0) := by
  subst hst
  obtain ⟨gX, gM, kJ, hXo, hMo, hXM, bX, bM, bo, hE, hEC, hlf⟩ := C0
  obtain ⟨hX, hM, hO, hS⟩ := hL
  obtain ⟨rm, mc, ms, hMet, hrc, hrs, hmc, hms, hfr, hlo⟩ := hA
  have hAO : ∀ q, AO aX o H.size q → AN s q := fun q hq => by
    rcases hq with (⟨i, hi, rfl⟩ | hq) | rfl
    · exact bX i hi
    · exact Nat.le_trans hS.1 hq
    · exact bo
  have cw : vx_CSW R s args own index y bytes maxL ret hh ws rm mc ms n := vx_cwSW n S.2.2.2.2 hT hw hrc hrs hd ⟨by omega, by omega⟩
  refine va_calli (vx_runSW (As := As) (rest := []) S hMet cw ⟨pco_blind, fun U hU hW => ⟨rfl, ⟨⟨by rw [hU], by rw [hU]; exact hX, gw_moved hW.alike gX⟩, ex_moved hS.2.1 hAO hW hU hE⟩, ec_moved hW.alike hEC, by rw [hU]; exact hO, va_K.moved hW.alike kJ, hXo⟩⟩ rfl hn hl (List.append_nil _).symm (lv_room (m := m) (pc := pc) (ls := ls) (rest := As.reverse) (st := []) (Nat.zero_le _)) hdg ⟨by omega, by omega⟩) hS (fun q _ h => hAO q h) hAO (fun r1 u t H1 locs1 ht hvm hw2 hB hz1 hk1 hS1 => ?_)
  rw [ht] at hB
  subst hw2
  refine W.widen (k := cells + 1) (n := slots + 6) (by omega) (by omega) (kk H1 locs1 ⟨hB.1, keepP hM hk1 (fun k q hq z => ?_), hB.2, hS1⟩)
  obtain ⟨hk24, e1⟩ := gw_key gM μ k q hq
  rcases z with (⟨i, hi, z⟩ | z) | z
  · exact hXM i k hi hk24 (z.symm.trans e1)
  · exact absurd (hM k q hq).lt (Nat.not_lt.mpr z)
  · exact hMo k hk24 (e1.symm.trans z)
/-- a call of the model -/
theorem M_calli {y : MethodName} {bytes : ByteArray} {maxL n index : Nat} {ret : Option FieldType} {ws : List Cond} {rm : Room} {As : List Value} {st0 : List Value} {r : Int32} {μ' : Sg} (S : CallFix p m c cc nL s args Ts own) (C0 : LC l D cI cJ aX aM o s) (hL : LH D cI cJ aX aM o s σ μ f H locs)
    (hMet : Met l y ws rm (PcW D cI 24 aM (wM cI aM) H.size μ (.ref (aM 0) :: As)) (QiW D 24 aM (wM cI aM) H.size r μ') 0 0 (AX 24 aM H.size)) (cw : CallW R s args own RX6 index y bytes maxL ret ws rm 0 0 n)
    (hn : As.length = n) (hl : ls.size = nL) (hst : st0 = As.reverse ++ .ref (aM 0) :: rest) (hW : (rest.map fun v => v.category).sum ≤ 8) (hR : cells ≤ R.cells ∧ slots ≤ R.slots) (hdg : decode cc pc = .ok (.invokevirtual index, 3))
    (kk : ∀ (H1 : Heap) (locs1 : List Loc), LH D cI cJ aX aM o s σ μ' f H1 locs1 → W p l e R s m args below meth c H1 locs1 cells slots Q (F0 m (pc + 3) ls (.int r :: rest))) : W p l e R s m args below meth c H locs cells slots Q (F0 m pc ls st0) := by
  subst hst
  obtain ⟨gX, gM, kJ, hXo, hMo, hXM, bX, bM, bo, hE, hEC, hlf⟩ := C0
  obtain ⟨hX, hM, hO, hS⟩ := hL
  have hAM : ∀ q, AX 24 aM H.size q → AN s q := fun q hq => by
    rcases hq with ⟨i, hi, rfl⟩ | hq
    · exact bM i hi
    · exact Nat.le_trans hS.1 hq
  refine va_calli (va_runV (As := As) (rest := rest) S hMet cw ⟨pcw_blind, va_recv gM.1 hM (ci := 6) (q0 := 0) rfl rfl, fun U hU hW => ⟨rfl, by rw [hU], by rw [hU]; exact hM, gw_moved hW.alike gM⟩⟩ rfl hn hl rfl (lv_room hW) hdg hR) hS (fun q _ h => hAM q h) hAM (fun r1 u t H1 locs1 ht hvm hw2 hB hz1 hk1 hS1 => ?_)
  rw [ht] at hB
  subst hw2
  refine kk H1 locs1 ⟨keepP hX hk1 (fun k q hq z => ?_), hB, keepP hO hk1 (fun k q hq z => ?_), hS1⟩
  · obtain ⟨hk29, e1⟩ := gw_key gX σ k q hq
    rcases z with ⟨i, hi, z⟩ | z
    · exact hXM k i hk29 hi (e1.symm.trans z)
    · exact absurd (hX k q hq).lt (Nat.not_lt.mpr z)
  · have e1 : q.1 = o := by
      cases k with
      | zero => rw [← Option.some.inj hq]
      | succ k => simp at hq
    rcases z with ⟨i, hi, z⟩ | z
    · exact hMo i hi (z.symm.trans e1)
    · exact absurd (hO k q hq).lt (Nat.not_lt.mpr z)
theorem M_callv {y : MethodName} {bytes : ByteArray} {maxL n index : Nat} {ret : Option FieldType} {ws : List Cond} {rm : Room} {As : List Value} {st0 : List Value} {μ' : Sg} (S : CallFix p m c cc nL s args Ts own) (C0 : LC l D cI cJ aX aM o s) (hL : LH D cI cJ aX aM o s σ μ f H locs)
    (hMet : Met l y ws rm (PcW D cI 24 aM (wM cI aM) H.size μ (.ref (aM 0) :: As)) (QvW D 24 aM (wM cI aM) H.size μ') 0 0 (AX 24 aM H.size)) (cw : CallW R s args own RX6 index y bytes maxL ret ws rm 0 0 n)
    (hn : As.length = n) (hl : ls.size = nL) (hst : st0 = As.reverse ++ .ref (aM 0) :: rest) (hW : (rest.map fun v => v.category).sum ≤ 8) (hR : cells ≤ R.cells ∧ slots ≤ R.slots) (hdg : decode cc pc = .ok (.invokevirtual index, 3))
    (kk : ∀ (H1 : Heap) (locs1 : List Loc), LH D cI cJ aX aM o s σ μ' f H1 locs1 → W p l e R s m args below meth c H1 locs1 cells slots Q (F0 m (pc + 3) ls rest)) : W p l e R s m args below meth c H locs cells slots Q (F0 m pc ls st0) := by
  subst hst
  obtain ⟨gX, gM, kJ, hXo, hMo, hXM, bX, bM, bo, hE, hEC, hlf⟩ := C0
  obtain ⟨hX, hM, hO, hS⟩ := hL
  have hAM : ∀ q, AX 24 aM H.size q → AN s q := fun q hq => by
    rcases hq with ⟨i, hi, rfl⟩ | hq
    · exact bM i hi
    · exact Nat.le_trans hS.1 hq
  refine va_callv (va_runV (As := As) (rest := rest) S hMet cw ⟨pcw_blind, va_recv gM.1 hM (ci := 6) (q0 := 0) rfl rfl, fun U hU hW => ⟨rfl, by rw [hU], by rw [hU]; exact hM, gw_moved hW.alike gM⟩⟩ rfl hn hl rfl (lv_room hW) hdg hR) hS (fun q _ h => hAM q h) hAM (fun u t H1 locs1 ht hvm hw2 hB hz1 hk1 hS1 => ?_)
  rw [ht] at hB
  refine kk H1 locs1 ⟨keepP hX hk1 (fun k q hq z => ?_), hB, keepP hO hk1 (fun k q hq z => ?_), hS1⟩
  · obtain ⟨hk29, e1⟩ := gw_key gX σ k q hq
    rcases z with ⟨i, hi, z⟩ | z
    · exact hXM k i hk29 hi (e1.symm.trans z)
    · exact absurd (hX k q hq).lt (Nat.not_lt.mpr z)
  · have e1 : q.1 = o := by
      cases k with
      | zero => rw [← Option.some.inj hq]
      | succ k => simp at hq
    rcases z with ⟨i, hi, z⟩ | z
    · exact hMo i hi (z.symm.trans e1)
    · exact absurd (hO k q hq).lt (Nat.not_lt.mpr z)
/-- a call of the program itself that changes nothing -/
theorem X_calli {y : MethodName} {bytes : ByteArray} {maxL n index : Nat} {ret : Option FieldType} {ws : List Cond} {rm : Room} {As : List Value} {st0 : List Value} {r : Int32} {σ' : Sg} (S : CallFix p m c cc nL s args Ts own) (C0 : LC l D cI cJ aX aM o s) (hL : LH D cI cJ aX aM o s σ μ f H locs)
    (hMet : Met l y ws rm (PcW D cI 29 aX (wX cI aX) H.size σ (.ref (aX 0) :: As)) (QiW D 29 aX (wX cI aX) H.size r σ') 0 0 (AX 29 aX H.size)) (cw : CallW R s args own RX5 index y bytes maxL ret ws rm 0 0 n)
    (hn : As.length = n) (hl : ls.size = nL) (hst : st0 = As.reverse ++ .ref (aX 0) :: rest) (hW : (rest.map fun v => v.category).sum ≤ 8) (hR : cells ≤ R.cells ∧ slots ≤ R.slots) (hdg : decode cc pc = .ok (.invokevirtual index, 3))
    (kk : ∀ (H1 : Heap) (locs1 : List Loc), LH D cI cJ aX aM o s σ' μ f H1 locs1 → W p l e R s m args below meth c H1 locs1 cells slots Q (F0 m (pc + 3) ls (.int r :: rest))) : W p l e R s m args below meth c H locs cells slots Q (F0 m pc ls st0) := by
  subst hst
  obtain ⟨gX, gM, kJ, hXo, hMo, hXM, bX, bM, bo, hE, hEC, hlf⟩ := C0
  obtain ⟨hX, hM, hO, hS⟩ := hL
  have hAX : ∀ q, AX 29 aX H.size q → AN s q := fun q hq => by
    rcases hq with ⟨i, hi, rfl⟩ | hq
    · exact bX i hi
    · exact Nat.le_trans hS.1 hq
  refine va_calli (va_runV (As := As) (rest := rest) S hMet cw ⟨pcw_blind, va_recv gX.1 hX (ci := 5) (q0 := 0) rfl rfl, fun U hU hW => ⟨rfl, by rw [hU], by rw [hU]; exact hX, gw_moved hW.alike gX⟩⟩ rfl hn hl rfl (lv_room hW) hdg hR) hS (fun q _ h => hAX q h) hAX (fun r1 u t H1 locs1 ht hvm hw2 hB hz1 hk1 hS1 => ?_)
  rw [ht] at hB
  subst hw2
  refine kk H1 locs1 ⟨hB, keepP hM hk1 (fun k q hq z => ?_), keepP hO hk1 (fun k q hq z => ?_), hS1⟩
  · obtain ⟨hk24, e1⟩ := gw_key gM μ k q hq
    rcases z with ⟨i, hi, z⟩ | z
    · exact hXM i k hi hk24 (z.symm.trans e1)
    · exact absurd (hM k q hq).lt (Nat.not_lt.mpr z)
  · have e1 : q.1 = o := by
      cases k with
      | zero => rw [← Option.some.inj hq]
      | succ k => simp at hq
    rcases z with ⟨i, hi, z⟩ | z
    · exact hXo i hi (z.symm.trans e1)
    · exact absurd (hO k q hq).lt (Nat.not_lt.mpr z)
/-- a word of the script -/
theorem sc_ld {b L i j : Nat} {xs : Nat → Int32} {lv : List (Nat × Value)} {k0 k4 : Nat} {jv : Int} (hx : p.tables.exec = Jvm.exec) (hb : c.code = cc) (hX : va_X b L xs s s.heap) (hbl : b < s.heap.size) (hL : L ≤ 2560) (hS : va_S (AN s) s.heap H locs) (hl : lv_has ls nL lv) (h0 : lv[k0]? = some (0, .ref b)) (h4 : lv[k4]? = some (4, .int (nI i)))
    (hij : i + j < L) (hjv : Int32.ofInt jv = nI j)
    (d0 : decode cc pc = .ok (.aload_n 0, 1)) (d1 : decode cc (pc + 1) = .ok (.iload 4, 2)) (d3 : decode cc (pc + 3) = .ok (.iconst jv, 1)) (d4 : decode cc (pc + 4) = .ok (.iadd, 1)) (d5 : decode cc (pc + 5) = .ok (.iaload, 1))
    (kk : W p l e R s m args below meth c H locs cells slots Q (F0 m (pc + 6) ls (.int (xs (i + j)) :: rest))) : W p l e R s m args below meth c H locs cells slots Q (F0 m pc ls rest) := by
  refine lv_aload_n hx hb d0 rfl (lv_at hl k0 h0) ?_
  refine lv_iload hx hb d1 (lv_at hl k4 h4) ?_
  refine lv_iconst (v := nI j) hx hb d3 hjv ?_
  refine lv_iadd hx hb d4 ?_
  rw [show nI i + nI j = nI (i + j) from (nI_add i j)]
  refine va_sld hx hb hX hbl (fun z => absurd hbl (Nat.not_lt.mpr z)) hS (vp_in_nI hij (by omega)) d5 ?_
  rw [nI_clamp (show i + j < 2 ^ 31 by omega)]
  exact kk
theorem sc_ld0 {b L i : Nat} {xs : Nat → Int32} {lv : List (Nat × Value)} {k0 k4 : Nat} (hx : p.tables.exec = Jvm.exec) (hb : c.code = cc) (hX : va_X b L xs s s.heap) (hbl : b < s.heap.size) (hL : L ≤ 2560) (hS : va_S (AN s) s.heap H locs) (hl : lv_has ls nL lv) (h0 : lv[k0]? = some (0, .ref b)) (h4 : lv[k4]? = some (4, .int (nI i)))
    (hij : i < L) (d0 : decode cc pc = .ok (.aload_n 0, 1)) (d1 : decode cc (pc + 1) = .ok (.iload 4, 2)) (d5 : decode cc (pc + 3) = .ok (.iaload, 1))
    (kk : W p l e R s m args below meth c H locs cells slots Q (F0 m (pc + 4) ls (.int (xs i) :: rest))) : W p l e R s m args below meth c H locs cells slots Q (F0 m pc ls rest) := by
  refine lv_aload_n hx hb d0 rfl (lv_at hl k0 h0) ?_
  refine lv_iload hx hb d1 (lv_at hl k4 h4) ?_
  refine va_sld hx hb hX hbl (fun z => absurd hbl (Nat.not_lt.mpr z)) hS (vp_in_nI hij (by omega)) d5 ?_
  rw [nI_clamp (show i < 2 ^ 31 by omega)]
  exact kk
/-- the answer out of out -/
theorem o_ald (hx : p.tables.exec = Jvm.exec) (hb : c.code = cc) (C0 : LC l D cI cJ aX aM o s) (hL : LH D cI cJ aX aM o s σ μ f H locs) (hdg : decode cc pc = .ok (.laload, 1))
    (kk : W p l e R s m args below meth c H locs cells slots Q (F0 m (pc + 1) ls (.long (f 0) :: rest))) : W p l e R s m args below meth c H locs cells slots Q (F0 m pc ls (.int 0 :: .ref o :: rest)) := by
  refine va_lald hx hb C0.2.2.1 hL.2.2.1 0 0 rfl rfl (vp_in_nI (n := 0) (N := 1) (by decide) (by decide)) hdg ?_
  exact kk
theorem l_cmpE {x y : Int64} (hx : p.tables.exec = Jvm.exec) (hb : c.code = cc) (hxy : x = y) (hdg : decode cc pc = .ok (.lcmp, 1))
    (kk : W p l e R s m args below meth c H locs cells slots Q (F0 m (pc + 1) ls (.int 0 :: rest))) : W p l e R s m args below meth c H locs cells slots Q (F0 m pc ls (.long y :: .long x :: rest)) := by
  subst hxy
  intro T hT X
  obtain ⟨t, a, b⟩ := kk T hT X
  refine ⟨t, ?_, b⟩
  have h1 : ¬ x < x := fun z => absurd z (by simp)
  jvm_step X.here [X.here.top, hx, hb, hdg, h1]
  exact a
end LW
