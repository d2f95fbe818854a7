-- the law's own methods: rows
def EC (U : State) : Prop := va_Nc "java/lang/IllegalArgumentException" "java/lang/IndexOutOfBoundsException" U ∧ va_Nc "java/lang/IllegalStateException" "java/lang/IndexOutOfBoundsException" U ∧ va_Nc "java/lang/IllegalStateException" "java/lang/IllegalArgumentException" U
theorem ec_moved {u U : State} (hvm : u.vm.Alike U.vm) (h : EC u) : EC U := ⟨va_Nc.moved hvm h.1, va_Nc.moved hvm h.2.1, va_Nc.moved hvm h.2.2⟩
theorem ex_call {A : Nat → Prop} {U : State} (v : Array Value) (g : JFrame) (mk : MethodId) (h : EX A U) : EX A (U.calling g mk v) :=
  ⟨vx_Zq.moved (u := U) (U := U.calling g mk v) (Vm.Alike.refl U.vm) h.1, vx_Zq.moved (u := U) (U := U.calling g mk v) (Vm.Alike.refl U.vm) h.2.1,
      fun w hw => dB_nw (u := U) (U := U.calling g mk v) hw (Vm.Alike.refl U.vm) (h.2.2.1 w hw), fun x hx => by
        obtain ⟨q9, h9⟩ := h.2.2.2 x hx
        exact ⟨q9, vk_R.same (u := U) (U := U.calling g mk v) rfl h9⟩⟩
abbrev PcO (D : va_G) (cI : ClassId) (a : Nat → Nat) (sz : Nat) (σ : Sg) (av : List Value) : Array Value → State → Prop := va_Pc av (fun U => ((U.heap.size = sz ∧ va_P D vwCl (wX cI a σ) U.heap ∧ GW D cI 29 a (wX cI a) U) ∧ EX (AX 29 a sz) U) ∧ EC U)
theorem pco_blind {D : va_G} {cI : ClassId} {a : Nat → Nat} {sz : Nat} {σ : Sg} {av : List Value} : FrameBlind (PcO D cI a sz σ av) := fun v U g mk q =>
  ⟨q.1, ⟨⟨q.2.1.1.1, q.2.1.1.2.1, gw_moved (u := U) (U := U.calling g mk v) (Vm.Alike.refl U.vm) q.2.1.1.2.2⟩, ex_call v g mk q.2.1.2⟩, ec_moved (u := U) (U := U.calling g mk v) (Vm.Alike.refl U.vm) q.2.2⟩
/-- one call of the law's own, what it gives and costs: a call that doesn't answer -99999999 makes nothing -/
def Act (F Lo : Nat) (l : Launch) (D : va_G) (cI : ClassId) (y : MethodName) (ws : List Cond) (vs : List Value) (σ : Sg) (k : Int32) (σ' : Sg) : Prop :=
  ∃ (rm : Room) (mc ms : Nat), (∀ (a : Nat → Nat) (sz : Nat), Met l y ws rm (PcO D cI a sz σ (.ref (a 0) :: vs)) (QiW D 29 a (wX cI a) sz k σ') mc ms (AX 29 a sz)) ∧ rm.cells = mc ∧ rm.slots = ms ∧ mc ≤ 1 ∧ ms ≤ 6 ∧ (k ≠ -99999999 → mc = 0 ∧ ms = 0) ∧ rm.frames ≤ F ∧ rm.locals ≤ Lo
section OL
variable {p : Program} {l : Launch} {e : Env} {R : Room} {s : State} {m : MethodId} {args : Array Value} {below : List Frame} {meth : Method} {c : Code} {H : Heap} {locs : List Loc} {cells slots : Nat} {Q : State → Prop}
variable {cc : ByteArray} {pc : Nat} {ls : Array Slot} {rest : List Value} {D : va_G} {cI : ClassId} {a : Nat → Nat} {σ : Sg} {Qc : Array Value → State → Outcome → State → Prop} {mc ms : Nat}
theorem o_of {y : MethodName} {ws ws' : List Cond} {rm : Room} {maxL : Nat} {ret : Option FieldType} {hh : List (Nat × Nat × Nat × Nat)} {sz : Nat} {av : List Value} {C : String} (hC : y.cls = C)
    (hy : plainName y.cls = true) (hw : ws = Cond.codeWith y cc maxL ret hh :: ws') (hn : (lg_sl av).length ≤ maxL)
    (body : ∀ (p : Program) (e : Env) (s : State) (m : MethodId) (below : List Frame) (meth : Method) (c : Code), p.tables.exec = Jvm.exec → c.code = cc → meth.sig.returnType = ret → c.maxLocals = maxL → meth.locks = false → (∀ wd ∈ ws, wd.before av.toArray s = true) → s.vm.findClass C = some m.cls → s.heap.size = sz → c.exceptionTable.toList = tableOf hh → EX (AX 29 a sz) s → EC s → ∀ H : Heap, va_P D vwCl (wX cI a σ) H → va_S (AX 29 a sz) s.heap H [] → GW D cI 29 a (wX cI a) s → ∀ ls : Array Slot, lv_has ls maxL (lv_args 0 av) →
      W p l e (headSpec ws rm).room s m av.toArray below meth c H [] 0 0 (MQ below Qc av.toArray s mc ms (AX 29 a sz)) (F0 m 0 ls [])) : Met l y ws rm (PcO D cI a sz σ av) Qc mc ms (AX 29 a sz) := by
  refine MetFree.of_bodyS (code := cc) (maxLocals := maxL) (ret := ret) hy ?_ ?_
  · intro args s m h hn
    obtain ⟨m9, meth, c, hn9, h1, h2, h3, h4, -, h5, h6, -⟩ := Cond.codeWith_spec (atoms_spec (ws := ws) h _ (by rw [hw]; exact List.mem_cons_self))
    cases hn.symm.trans hn9
    exact ⟨meth, c, h1, h2, h3, h4, h5, h6⟩
  · intro p e s m args below meth c s₁ B hml hP _
    have hh0 : s₁.heap = s.heap := by rw [B.state]; rfl
    obtain ⟨rfl, ⟨⟨hsz, hPX, hG⟩, hE⟩, hEC⟩ := hP
    have hts := atoms_spec (ws := ws) B.pre
    have hown : s.vm.findClass C = some m.cls := hC ▸ findClass_of_methodNamed B.named
    have ht := vx_table (x := y) B (hts (Cond.codeWith y cc maxL ret hh) (by rw [hw]; exact List.mem_cons_self))
    have hl := lv_entry av (n := maxL) hn
    have K : W p l e (headSpec ws rm).room s m av.toArray below meth c s.heap [] 0 0 (MQ below Qc av.toArray s mc ms (AX 29 a sz)) (entryFrame m av.toArray maxL) := by
      rw [lg_entry_eq]
      generalize (lg_sl av ++ List.replicate (maxL - (lg_sl av).length) Slot.unset).toArray = ls at hl ⊢
      exact body p e s m below meth c B.exec B.bytes B.returns hml B.notSynchronized hts hown hsz ht hE hEC s.heap hPX va_S.rf hG ls hl
    obtain ⟨t, a1, o9, b1, b2, b3⟩ := K s₁ hh0 (Stand.of_body B)
    exact ⟨t, o9, a1, b1, b2, ⟨b3.1, b3.2⟩⟩
/-- the same of a method without handlers -/
theorem a_of {y : MethodName} {ws ws' : List Cond} {rm : Room} {maxL : Nat} {ret : Option FieldType} {sz : Nat} {av : List Value} {C : String} (hC : y.cls = C)
    (hy : plainName y.cls = true) (hw : ws = Cond.code y cc maxL ret :: ws') (hn : (lg_sl av).length ≤ maxL)
    (body : ∀ (p : Program) (e : Env) (s : State) (m : MethodId) (below : List Frame) (meth : Method) (c : Code), p.tables.exec = Jvm.exec → c.code = cc → meth.sig.returnType = ret → c.maxLocals = maxL → meth.locks = false → (∀ wd ∈ ws, wd.before av.toArray s = true) → s.vm.findClass C = some m.cls → s.heap.size = sz → EX (AX 29 a sz) s → EC s → ∀ H : Heap, va_P D vwCl (wX cI a σ) H → va_S (AX 29 a sz) s.heap H [] → GW D cI 29 a (wX cI a) s → ∀ ls : Array Slot, lv_has ls maxL (lv_args 0 av) →
      W p l e (headSpec ws rm).room s m av.toArray below meth c H [] 0 0 (MQ below Qc av.toArray s mc ms (AX 29 a sz)) (F0 m 0 ls [])) : Met l y ws rm (PcO D cI a sz σ av) Qc mc ms (AX 29 a sz) := by
  refine Met.ofW (cc := cc) (maxL := maxL) (ret := ret) hy hw ?_
  intro p e s m args below meth c s₁ B hml hv
  obtain ⟨rfl, ⟨⟨hsz, hP, hG⟩, hE⟩, hEC⟩ := hv
  have hts := atoms_spec (ws := ws) B.pre
  have hown : s.vm.findClass C = some m.cls := hC ▸ findClass_of_methodNamed B.named
  have hl := lv_entry av (n := maxL) hn
  rw [lg_entry_eq]
  generalize (lg_sl av ++ List.replicate (maxL - (lg_sl av).length) Slot.unset).toArray = ls at hl ⊢
  exact body p e s m below meth c B.exec B.bytes B.returns hml B.notSynchronized hts hown hsz hE hEC s.heap hP va_S.rf hG ls hl
/-- a call that throws, caught here -/
theorem o_catVi {E0 : String} {hpc : Nat} {y : MethodName} {bytes : ByteArray} {maxL nL n index sz : Nat} {ret : Option FieldType} {ws Ts : List Cond} {rm : Room} {own : String} {As : List Value} {st0 : List Value} (S : CallFix p m c cc nL s args Ts own) (hG : GW D cI 29 a (wX cI a) s) (hP : va_P D vwCl (wX cI a σ) H) (hS : va_S (AX 29 a sz) s.heap H locs) (hz : s.heap.size = sz) (hE : EX (AX 29 a sz) s)
    (hM : vx_Met l y ws rm (PcE D cI 29 a (wX cI a) H.size σ (.ref (a 0) :: As)) (QxI 29 a H.size) (XE D 29 a (wX cI a) H.size σ E0) 1 6 (AX 29 a H.size)) (cw : CallW R s args own RX5 index y bytes maxL ret ws rm 1 6 n)
    (hn : As.length = n) (hl : ls.size = nL) (hst : st0 = As.reverse ++ .ref (a 0) :: rest) (hW : (rest.map fun v => v.category).sum ≤ 8) (hR : cells + 1 ≤ R.cells ∧ slots + 6 ≤ R.slots) (hdg : decode cc pc = .ok (.invokevirtual index, 3))
    (pre : List ExceptionTableEntry) (x : ExceptionTableEntry) (suf : List ExceptionTableEntry) (hsplit : c.exceptionTable.toList = pre ++ x :: suf)
    (hpass : ∀ z ∈ pre, covers z pc = false ∨ (z.catchType ≠ 0 ∧ ∃ nm : String, (Cond.classLink own z.catchType nm).before args s = true ∧ va_Nc E0 nm s)) (hx : covers x pc = true) (h0 : x.catchType ≠ 0) (hlink : (Cond.classLink own x.catchType E0).before args s = true) (hcast : Cond.castable E0 E0 ∈ dB) (hpx : x.handlerPc = hpc)
    (kk : ∀ (q : Nat) (H1 : Heap) (locs1 : List Loc), va_P D vwCl (wX cI a σ) H1 → va_S (AX 29 a sz) s.heap H1 locs1 → W p l e R s m args below meth c H1 locs1 (cells + 1) (slots + 6) Q (F0 m hpc ls [.ref q])) : W p l e R s m args below meth c H locs cells slots Q (F0 m pc ls st0) := by
  subst hst; subst hz; subst hpx
  refine vx_calli (vx_runV (As := As) (rest := rest) S hM cw ⟨pce_blind, va_recv hG.1 hP (ci := 5) (q0 := 0) rfl rfl, fun U hU hW => ⟨rfl, ⟨by rw [hU], by rw [hU]; exact hP, gw_moved hW.alike hG⟩, ex_moved hS.2.1 (fun q h => ax_f hS.1 h) hW hU hE⟩⟩ rfl hn hl rfl (lv_room hW) hdg hR) hS (fun q h1 h2 => ax_A h1 h2) (fun q h => ax_f hS.1 h) (fun q h1 h2 => ax_A h1 h2) (fun E ce q9 u t H1 locs1 ht hvm _ hB hz1 hk1 hS1 hcell hv hcl => ?_) (fun r u t H1 locs1 ht hvm hw => hw.elim)
  obtain ⟨rfl, hB⟩ := hB
  rw [ht] at hB
  have hc9 : (Cond.castable E E).before args s = true := va_Nw.use rfl (hE.2.2.1 _ hcast)
  exact vx_catch S.2.2.2.1 pre x suf hsplit hpass hx h0 hlink hc9 hcell hv hcl (kk q9 H1 locs1 hB hS1)
theorem o_catVv {E0 : String} {hpc : Nat} {y : MethodName} {bytes : ByteArray} {maxL nL n index sz : Nat} {ret : Option FieldType} {ws Ts : List Cond} {rm : Room} {own : String} {As : List Value} {st0 : List Value} (S : CallFix p m c cc nL s args Ts own) (hG : GW D cI 29 a (wX cI a) s) (hP : va_P D vwCl (wX cI a σ) H) (hS : va_S (AX 29 a sz) s.heap H locs) (hz : s.heap.size = sz) (hE : EX (AX 29 a sz) s)
    (hM : vx_Met l y ws rm (PcE D cI 29 a (wX cI a) H.size σ (.ref (a 0) :: As)) (QxV 29 a H.size) (XE D 29 a (wX cI a) H.size σ E0) 1 6 (AX 29 a H.size)) (cw : CallW R s args own RX5 index y bytes maxL ret ws rm 1 6 n)
    (hn : As.length = n) (hl : ls.size = nL) (hst : st0 = As.reverse ++ .ref (a 0) :: rest) (hW : (rest.map fun v => v.category).sum ≤ 8) (hR : cells + 1 ≤ R.cells ∧ slots + 6 ≤ R.slots) (hdg : decode cc pc = .ok (.invokevirtual index, 3))
    (pre : List ExceptionTableEntry) (x : ExceptionTableEntry) (suf : List ExceptionTableEntry) (hsplit : c.exceptionTable.toList = pre ++ x :: suf)
    (hpass : ∀ z ∈ pre, covers z pc = false ∨ (z.catchType ≠ 0 ∧ ∃ nm : String, (Cond.classLink own z.catchType nm).before args s = true ∧ va_Nc E0 nm s)) (hx : covers x pc = true) (h0 : x.catchType ≠ 0) (hlink : (Cond.classLink own x.catchType E0).before args s = true) (hcast : Cond.castable E0 E0 ∈ dB) (hpx : x.handlerPc = hpc)
    (kk : ∀ (q : Nat) (H1 : Heap) (locs1 : List Loc), va_P D vwCl (wX cI a σ) H1 → va_S (AX 29 a sz) s.heap H1 locs1 → W p l e R s m args below meth c H1 locs1 (cells + 1) (slots + 6) Q (F0 m hpc ls [.ref q])) : W p l e R s m args below meth c H locs cells slots Q (F0 m pc ls st0) := by
  subst hst; subst hz; subst hpx
  refine vx_callv (vx_runV (As := As) (rest := rest) S hM cw ⟨pce_blind, va_recv hG.1 hP (ci := 5) (q0 := 0) rfl rfl, fun U hU hW => ⟨rfl, ⟨by rw [hU], by rw [hU]; exact hP, gw_moved hW.alike hG⟩, ex_moved hS.2.1 (fun q h => ax_f hS.1 h) hW hU hE⟩⟩ rfl hn hl rfl (lv_room hW) hdg hR) hS (fun q h1 h2 => ax_A h1 h2) (fun q h => ax_f hS.1 h) (fun q h1 h2 => ax_A h1 h2) (fun E ce q9 u t H1 locs1 ht hvm _ hB hz1 hk1 hS1 hcell hv hcl => ?_) (fun u t H1 locs1 ht hvm hw => hw.elim)
  obtain ⟨rfl, hB⟩ := hB
  rw [ht] at hB
  have hc9 : (Cond.castable E E).before args s = true := va_Nw.use rfl (hE.2.2.1 _ hcast)
  exact vx_catch S.2.2.2.1 pre x suf hsplit hpass hx h0 hlink hc9 hcell hv hcl (kk q9 H1 locs1 hB hS1)
/-- a call of a method of the law's with handlers, over one world -/
theorem w_call {y : MethodName} {bytes : ByteArray} {maxL nL n index sz : Nat} {ret : Option FieldType} {hh : List (Nat × Nat × Nat × Nat)} {ws ws' Ts : List Cond} {rm : Room} {own : String} {As : List Value} {st0 : List Value} {k : Int32} {σ' : Sg} {mc1 ms1 : Nat} (S : CallFix p m c cc nL s args Ts own) (hG : GW D cI 29 a (wX cI a) s) (hP : va_P D vwCl (wX cI a σ) H) (hS : va_S (AX 29 a sz) s.heap H locs) (hz : s.heap.size = sz) (hE : EX (AX 29 a sz) s) (hEC : EC s)
    (hM : Met l y ws rm (PcO D cI a H.size σ As) (QiW D 29 a (wX cI a) H.size k σ') mc1 ms1 (AX 29 a H.size)) (hrc : rm.cells = mc1) (hrs : rm.slots = ms1) (hT : GoodIn Ts (va_wsS own index y ws)) (hw : ws = Cond.codeWith y bytes maxL ret hh :: ws')
    (hd : y.cls ≠ "java/lang/invoke/MethodHandle" ∧ y.cls ≠ "java/lang/invoke/VarHandle" ∧ (parseMethodDescriptor y.desc).map (fun d => d.parameters.length) = some n) (hRm : rm.frames + 1 ≤ R.frames ∧ rm.locals + 8 + (maxL + 11) ≤ R.locals)
    (hn : As.length = n) (hl : ls.size = nL) (hst : st0 = As.reverse ++ rest) (hW : (rest.map fun v => v.category).sum ≤ 8) (hR : cells + mc1 ≤ R.cells ∧ slots + ms1 ≤ R.slots) (hdg : decode cc pc = .ok (.invokestatic index, 3))
    (kk : ∀ (H1 : Heap) (locs1 : List Loc), va_P D vwCl (wX cI a σ') H1 → va_S (AX 29 a sz) s.heap H1 locs1 → W p l e R s m args below meth c H1 locs1 (cells + mc1) (slots + ms1) Q (F0 m (pc + 3) ls (.int k :: rest))) : W p l e R s m args below meth c H locs cells slots Q (F0 m pc ls st0) := by
  subst hst; subst hz
  have cw : vx_CSW R s args own index y bytes maxL ret hh ws rm mc1 ms1 n := vx_cwSW n S.2.2.2.2 hT hw hrc hrs hd ⟨by omega, by omega⟩
  refine va_calli (vx_runSW (As := As) (rest := rest) S hM cw ⟨pco_blind, fun U hU hW => ⟨rfl, ⟨⟨by rw [hU], by rw [hU]; exact hP, gw_moved hW.alike hG⟩, ex_moved hS.2.1 (fun q h => ax_f hS.1 h) hW hU hE⟩, ec_moved hW.alike hEC⟩⟩ rfl hn hl rfl (lv_room hW) hdg hR) hS (fun q h1 h2 => ax_A h1 h2) (fun q h => ax_f hS.1 h) (fun r1 u t H1 locs1 ht hvm hw2 hB hz1 hk1 hS1 => ?_)
  rw [ht] at hB
  subst hw2
  exact kk H1 locs1 hB hS1
end OL
