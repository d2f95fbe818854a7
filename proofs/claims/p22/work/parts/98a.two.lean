-- two objects side by side
def LC (D : va_G) (cI : ClassId) (aO aP : Nat → Nat) (A : Nat → Prop) (s : State) : Prop :=
  GW D cI 29 aO (wX cI aO) s ∧ GW D cI 29 aP (wX cI aP) s ∧ (∀ i j, i < 29 → j < 29 → aO i ≠ aP j) ∧ (∀ i, i < 29 → A (aO i)) ∧ (∀ i, i < 29 → A (aP i)) ∧ (∀ q : Nat, s.heap.size ≤ q → A q) ∧ EX A s ∧ EC s
def LH (D : va_G) (cI : ClassId) (aO aP : Nat → Nat) (A : Nat → Prop) (s : State) (σ τ : Sg) (H : Heap) (locs : List Loc) : Prop :=
  va_P D vwCl (wX cI aO σ) H ∧ va_P D vwCl (wX cI aP τ) H ∧ va_S A s.heap H locs
theorem lc_sw {D : va_G} {cI : ClassId} {aO aP : Nat → Nat} {A : Nat → Prop} {s : State} (h : LC D cI aO aP A s) : LC D cI aP aO A s := by
  obtain ⟨g1, g2, h3, h4, h5, h6⟩ := h
  exact ⟨g2, g1, fun i j hi hj q => h3 j i hj hi q.symm, h5, h4, h6⟩
theorem lh_sw {D : va_G} {cI : ClassId} {aO aP : Nat → Nat} {A : Nat → Prop} {s : State} {σ τ : Sg} {H : Heap} {locs : List Loc} (h : LH D cI aO aP A s σ τ H locs) : LH D cI aP aO A s τ σ H locs := ⟨h.2.1, h.1, h.2.2⟩
theorem keepP {D : va_G} {ws : va_W} {A : Nat → Prop} {H H1 : Heap} (h : va_P D vwCl ws H) (hk : ∀ q : Nat, q < H.size → ¬ A q → H1[q]? = H[q]?) (hd : ∀ (k : Nat) (q : Nat × va_E), ws[k]? = some q → ¬ A q.1) : va_P D vwCl ws H1 :=
  h.kept (fun k q hq => hk q.1 (h k q hq).lt (hd k q hq))
theorem lc_kp {D : va_G} {cI : ClassId} {aO aP : Nat → Nat} {A : Nat → Prop} {s : State} {τ : Sg} {H H1 : Heap} (C0 : LC D cI aO aP A s) (hP : va_P D vwCl (wX cI aP τ) H) (hk : ∀ q : Nat, q < H.size → ¬ AX 29 aO H.size q → H1[q]? = H[q]?) : va_P D vwCl (wX cI aP τ) H1 := keepP hP hk (fun k q hq z => by
  obtain ⟨hk29, e1⟩ := gw_key C0.2.1 τ k q hq
  rcases z with ⟨i, hi, z⟩ | z
  · exact C0.2.2.1 i k hi hk29 (z.symm.trans e1)
  · exact absurd (hP k q hq).lt (Nat.not_lt.mpr z))
theorem lc_A {D : va_G} {cI : ClassId} {aO aP : Nat → Nat} {A : Nat → Prop} {s : State} {H : Heap} {locs : List Loc} (C0 : LC D cI aO aP A s) (hS : va_S A s.heap H locs) : ∀ q, AX 29 aO H.size q → A q := fun q hq => by
  rcases hq with ⟨i, hi, rfl⟩ | hq
  · exact C0.2.2.2.1 i hi
  · exact C0.2.2.2.2.2.1 q (Nat.le_trans hS.1 hq)
section TW
variable {p : Program} {l : Launch} {e : Env} {R : Room} {s : State} {m : MethodId} {args : Array Value} {below : List Frame} {meth : Method} {c : Code} {H : Heap} {locs : List Loc} {cells slots : Nat} {Q : State → Prop}
variable {cc : ByteArray} {pc nL : Nat} {ls : Array Slot} {rest : List Value} {D : va_G} {cI : ClassId} {aO aP : Nat → Nat} {A : Nat → Prop} {σ τ : Sg} {Ts : List Cond} {own : String}
/-- a call of the law's with handlers, on the first object -/
theorem t_callW {y : MethodName} {bytes : ByteArray} {maxL n index : Nat} {ret : Option FieldType} {hh : List (Nat × Nat × Nat × Nat)} {ws ws' : List Cond} {rm : Room} {As : List Value} {st0 : List Value} {k : Int32} {σ' : Sg} {mc1 ms1 : Nat} (S : CallFix p m c cc nL s args Ts own) (C0 : LC D cI aO aP A s) (hL : LH D cI aO aP A s σ τ H locs)
    (hM : Met l y ws rm (PcO D cI aO H.size σ As) (QiW D 29 aO (wX cI aO) H.size k σ') mc1 ms1 (AX 29 aO H.size)) (hrc : rm.cells = mc1) (hrs : rm.slots = ms1) (hT : GoodIn Ts (va_wsS own index y ws)) (hw : ws = Cond.codeWith y bytes maxL ret hh :: ws')
    (hd : y.cls ≠ "java/lang/invoke/MethodHandle" ∧ y.cls ≠ "java/lang/invoke/VarHandle" ∧ (parseMethodDescriptor y.desc).map (fun d => d.parameters.length) = some n) (hRm : rm.frames + 1 ≤ R.frames ∧ 8 + (maxL + 11) + rm.locals ≤ R.locals)
    (hn : As.length = n) (hl : ls.size = nL) (hst : st0 = As.reverse ++ rest) (hW : (rest.map fun v => v.category).sum ≤ 8) (hR : cells + mc1 ≤ R.cells ∧ slots + ms1 ≤ R.slots) (hdg : decode cc pc = .ok (.invokestatic index, 3))
    (kk : ∀ (H1 : Heap) (locs1 : List Loc), LH D cI aO aP A s σ' τ H1 locs1 → W p l e R s m args below meth c H1 locs1 (cells + mc1) (slots + ms1) Q (F0 m (pc + 3) ls (.int k :: rest))) : W p l e R s m args below meth c H locs cells slots Q (F0 m pc ls st0) := by
  subst hst
  obtain ⟨hO, hP, hS⟩ := hL
  have hA := lc_A C0 hS
  have cw : vx_CSW R s args own index y bytes maxL ret hh ws rm mc1 ms1 n := vx_cwSW n S.2.2.2.2 hT hw hrc hrs hd hRm
  refine va_calli (vx_runSW (As := As) (rest := rest) S hM cw ⟨pco_blind, fun U hU hW => ⟨rfl, ⟨⟨by rw [hU], by rw [hU]; exact hO, gw_moved hW.alike C0.1⟩, ex_moved hS.2.1 hA hW hU C0.2.2.2.2.2.2.1⟩, ec_moved hW.alike C0.2.2.2.2.2.2.2⟩⟩ rfl hn hl rfl (lv_room hW) hdg hR) hS (fun q _ h => hA q h) hA (fun r1 u t H1 locs1 ht hvm hw2 hB hz1 hk1 hS1 => ?_)
  rw [ht] at hB
  subst hw2
  exact kk H1 locs1 ⟨hB, lc_kp C0 hP hk1, hS1⟩
/-- the same of a method without handlers -/
theorem t_callC {y : MethodName} {bytes : ByteArray} {maxL n index : Nat} {ret : Option FieldType} {ws ws' : List Cond} {rm : Room} {As : List Value} {st0 : List Value} {k : Int32} {σ' : Sg} {mc1 ms1 : Nat} (S : CallFix p m c cc nL s args Ts own) (C0 : LC D cI aO aP A s) (hL : LH D cI aO aP A s σ τ H locs)
    (hM : Met l y ws rm (PcO D cI aO H.size σ As) (QiW D 29 aO (wX cI aO) H.size k σ') mc1 ms1 (AX 29 aO H.size)) (hrc : rm.cells = mc1) (hrs : rm.slots = ms1) (hT : GoodIn Ts (va_wsS own index y ws)) (hw : ws = Cond.code y bytes maxL ret :: ws')
    (hd : y.cls ≠ "java/lang/invoke/MethodHandle" ∧ y.cls ≠ "java/lang/invoke/VarHandle" ∧ (parseMethodDescriptor y.desc).map (fun d => d.parameters.length) = some n) (hRm : rm.frames + 1 ≤ R.frames ∧ 8 + (maxL + 11) + rm.locals ≤ R.locals)
    (hn : As.length = n) (hl : ls.size = nL) (hst : st0 = As.reverse ++ rest) (hW : (rest.map fun v => v.category).sum ≤ 8) (hR : cells + mc1 ≤ R.cells ∧ slots + ms1 ≤ R.slots) (hdg : decode cc pc = .ok (.invokestatic index, 3))
    (kk : ∀ (H1 : Heap) (locs1 : List Loc), LH D cI aO aP A s σ' τ H1 locs1 → W p l e R s m args below meth c H1 locs1 (cells + mc1) (slots + ms1) Q (F0 m (pc + 3) ls (.int k :: rest))) : W p l e R s m args below meth c H locs cells slots Q (F0 m pc ls st0) := by
  subst hst
  obtain ⟨hO, hP, hS⟩ := hL
  have hA := lc_A C0 hS
  refine va_calli (va_runS (As := As) (rest := rest) S hM (va_cwS n S.2.2.2.2 hT hw hrc hrs hd hRm) ⟨pco_blind, fun U hU hW => ⟨rfl, ⟨⟨by rw [hU], by rw [hU]; exact hO, gw_moved hW.alike C0.1⟩, ex_moved hS.2.1 hA hW hU C0.2.2.2.2.2.2.1⟩, ec_moved hW.alike C0.2.2.2.2.2.2.2⟩⟩ rfl hn hl rfl (lv_room hW) hdg hR) hS (fun q _ h => hA q h) hA (fun r1 u t H1 locs1 ht hvm hw2 hB hz1 hk1 hS1 => ?_)
  rw [ht] at hB
  subst hw2
  exact kk H1 locs1 ⟨hB, lc_kp C0 hP hk1, hS1⟩
theorem t_low {index : Nat} {v n : Int32} (S : CallFix p m c cc nL s args Ts own) (C0 : LC D cI aO aP A s) (hL : LH D cI aO aP A s σ τ H locs) (hT : GoodIn Ts (va_wsS own index yL_low wsL_low)) (hRm : 1 ≤ R.frames ∧ 21 ≤ R.locals) (hC : cells ≤ R.cells ∧ slots ≤ R.slots)
    (hn : ¬ n = 0) (hl : ls.size = nL) (hW : (rest.map fun v => v.category).sum ≤ 8) (hdg : decode cc pc = .ok (.invokestatic index, 3))
    (kk : ∀ (H1 : Heap) (locs1 : List Loc), LH D cI aO aP A s σ τ H1 locs1 → W p l e R s m args below meth c H1 locs1 cells slots Q (F0 m (pc + 3) ls (.int (lw v n) :: rest))) : W p l e R s m args below meth c H locs cells slots Q (F0 m pc ls (.int n :: .int v :: rest)) := by
  obtain ⟨hO, hP, hS⟩ := hL
  have hA := lc_A C0 hS
  refine va_calli (va_runS (As := [.int v, .int n]) (rest := rest) S (c_L_low l D cI aO H.size σ v n hn) (va_cwS 2 S.2.2.2.2 hT rfl rfl rfl (by decide +kernel) ⟨hRm.1, hRm.2⟩) ⟨pcw_blind, fun U hU hW => ⟨rfl, by rw [hU], by rw [hU]; exact hO, gw_moved hW.alike C0.1⟩⟩ rfl rfl hl rfl (lv_room hW) hdg hC) hS (fun q _ h => hA q h) hA (fun r1 u t H1 locs1 ht hvm hw2 hB hz1 hk1 hS1 => ?_)
  rw [ht] at hB
  subst hw2
  exact kk H1 locs1 ⟨hB, lc_kp C0 hP hk1, hS1⟩
/-- a call of the class's own that changes nothing -/
theorem t_callV {y : MethodName} {bytes : ByteArray} {maxL n index : Nat} {ret : Option FieldType} {ws : List Cond} {rm : Room} {As : List Value} {st0 : List Value} {r : Int32} {σ' : Sg} (S : CallFix p m c cc nL s args Ts own) (C0 : LC D cI aO aP A s) (hL : LH D cI aO aP A s σ τ H locs)
    (hM : Met l y ws rm (PcW D cI 29 aO (wX cI aO) H.size σ (.ref (aO 0) :: As)) (QiW D 29 aO (wX cI aO) H.size r σ') 0 0 (AX 29 aO H.size)) (cw : CallW R s args own RX5 index y bytes maxL ret ws rm 0 0 n)
    (hn : As.length = n) (hl : ls.size = nL) (hst : st0 = As.reverse ++ .ref (aO 0) :: rest) (hW : (rest.map fun v => v.category).sum ≤ 8) (hC : cells ≤ R.cells ∧ slots ≤ R.slots) (hdg : decode cc pc = .ok (.invokevirtual index, 3))
    (kk : ∀ (H1 : Heap) (locs1 : List Loc), LH D cI aO aP A s σ' τ H1 locs1 → W p l e R s m args below meth c H1 locs1 cells slots Q (F0 m (pc + 3) ls (.int r :: rest))) : W p l e R s m args below meth c H locs cells slots Q (F0 m pc ls st0) := by
  subst hst
  obtain ⟨hO, hP, hS⟩ := hL
  have hA := lc_A C0 hS
  refine va_calli (va_runV (As := As) (rest := rest) S hM cw ⟨pcw_blind, va_recv C0.1.1 hO (ci := 5) (q0 := 0) rfl rfl, fun U hU hW => ⟨rfl, by rw [hU], by rw [hU]; exact hO, gw_moved hW.alike C0.1⟩⟩ rfl hn hl rfl (lv_room hW) hdg hC) hS (fun q _ h => hA q h) hA (fun r1 u t H1 locs1 ht hvm hw2 hB hz1 hk1 hS1 => ?_)
  rw [ht] at hB
  subst hw2
  exact kk H1 locs1 ⟨hB, lc_kp C0 hP hk1, hS1⟩
end TW
/-- areAlike's start and end -/
def AT (aO aP : Nat → Nat) (sz : Nat) : Nat → Prop := fun q => AX 29 aO sz q ∨ AX 29 aP sz q
abbrev PcT (D : va_G) (cI : ClassId) (aO aP : Nat → Nat) (sz : Nat) (σ : Sg) (av : List Value) : Array Value → State → Prop := va_Pc av (fun U => U.heap.size = sz ∧ va_P D vwCl (wX cI aO σ) U.heap ∧ va_P D vwCl (wX cI aP σ) U.heap ∧ LC D cI aO aP (AT aO aP sz) U)
abbrev QiT (D : va_G) (cI : ClassId) (aO aP : Nat → Nat) (sz : Nat) (σ : Sg) : Array Value → State → Outcome → State → Prop := va_Qi (fun (x : Int32) (_ : Unit) => x = 1) (fun _ t => va_P D vwCl (wX cI aO σ) t.heap ∧ va_P D vwCl (wX cI aP σ) t.heap) (AT aO aP sz)
theorem lc_call {D : va_G} {cI : ClassId} {aO aP : Nat → Nat} {A : Nat → Prop} {U : State} (v : Array Value) (g : JFrame) (mk : MethodId) (h : LC D cI aO aP A U) : LC D cI aO aP A (U.calling g mk v) :=
  ⟨gw_moved (u := U) (U := U.calling g mk v) (Vm.Alike.refl U.vm) h.1, gw_moved (u := U) (U := U.calling g mk v) (Vm.Alike.refl U.vm) h.2.1, h.2.2.1, h.2.2.2.1, h.2.2.2.2.1, h.2.2.2.2.2.1, ex_call v g mk h.2.2.2.2.2.2.1, ec_moved (u := U) (U := U.calling g mk v) (Vm.Alike.refl U.vm) h.2.2.2.2.2.2.2⟩
theorem pct_blind {D : va_G} {cI : ClassId} {aO aP : Nat → Nat} {sz : Nat} {σ : Sg} {av : List Value} : FrameBlind (PcT D cI aO aP sz σ av) := fun v U g mk q => ⟨q.1, q.2.1, q.2.2.1, q.2.2.2.1, lc_call v g mk q.2.2.2.2⟩
theorem at_of {D : va_G} {cI : ClassId} {aO aP : Nat → Nat} {A : Nat → Prop} {s U : State} {H : Heap} {locs : List Loc} (C0 : LC D cI aO aP A s) (hS : va_S A s.heap H locs) (hU : U.heap = H) (hW : s.WarmedH U.vm) : LC D cI aO aP (AT aO aP H.size) U := by
  have hA := lc_A C0 hS
  have hB := lc_A (lc_sw C0) hS
  exact ⟨gw_moved hW.alike C0.1, gw_moved hW.alike C0.2.1, C0.2.2.1, fun i hi => Or.inl (Or.inl ⟨i, hi, rfl⟩), fun i hi => Or.inr (Or.inl ⟨i, hi, rfl⟩), fun q hq => Or.inl (Or.inr (by rw [hU] at hq; exact hq)), ex_moved hS.2.1 (fun q h => h.elim (hA q) (hB q)) hW hU C0.2.2.2.2.2.2.1, ec_moved hW.alike C0.2.2.2.2.2.2.2⟩
