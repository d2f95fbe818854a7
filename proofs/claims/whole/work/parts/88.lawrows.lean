-- the law's own methods: rows
def oE (cJ : ClassId) (f : Nat → Int64) : va_E := .inl (cJ, 1, .inr (.inl f))
def AO (a : Nat → Nat) (o sz : Nat) : Nat → Prop := fun q => AX 29 a sz q ∨ q = o
def EC (U : State) : Prop := va_Nc "java/lang/IllegalArgumentException" "java/lang/IndexOutOfBoundsException" U ∧ va_Nc "java/lang/IllegalStateException" "java/lang/IndexOutOfBoundsException" U ∧ va_Nc "java/lang/IllegalStateException" "java/lang/IllegalArgumentException" U
theorem ec_moved {u U : State} (hvm : u.vm.Alike U.vm) (h : EC u) : EC U := ⟨va_Nc.moved hvm h.1, va_Nc.moved hvm h.2.1, va_Nc.moved hvm h.2.2⟩
theorem ex_call {A : Nat → Prop} {U : State} (v : Array Value) (g : JFrame) (mk : MethodId) (h : EX A U) : EX A (U.calling g mk v) :=
  ⟨vx_Zq.moved (u := U) (U := U.calling g mk v) (Vm.Alike.refl U.vm) h.1, vx_Zq.moved (u := U) (U := U.calling g mk v) (Vm.Alike.refl U.vm) h.2.1,
      fun w hw => dB_nw (u := U) (U := U.calling g mk v) hw (Vm.Alike.refl U.vm) (h.2.2.1 w hw), fun x hx => by
        obtain ⟨q9, h9⟩ := h.2.2.2 x hx
        exact ⟨q9, vk_R.same (u := U) (U := U.calling g mk v) rfl h9⟩⟩
abbrev PcO (D : va_G) (cI cJ : ClassId) (a : Nat → Nat) (o sz : Nat) (σ : Sg) (f : Nat → Int64) (av : List Value) : Array Value → State → Prop := va_Pc av (fun U => ((U.heap.size = sz ∧ va_P D vwCl (wX cI a σ) U.heap ∧ GW D cI 29 a (wX cI a) U) ∧ EX (AO a o sz) U) ∧ EC U ∧ va_P D vwCl [(o, oE cJ f)] U.heap ∧ va_K D vwCl [(cJ, .long)] U ∧ ∀ i, i < 29 → a i ≠ o)
abbrev QiO (D : va_G) (cI cJ : ClassId) (a : Nat → Nat) (o sz : Nat) (r : Int32) (σ' : Sg) (f' : Nat → Int64) : Array Value → State → Outcome → State → Prop := va_Qi (fun (x : Int32) (_ : Unit) => x = r) (fun _ t => va_P D vwCl (wX cI a σ') t.heap ∧ va_P D vwCl [(o, oE cJ f')] t.heap) (AO a o sz)
theorem pco_blind {D : va_G} {cI cJ : ClassId} {a : Nat → Nat} {o sz : Nat} {σ : Sg} {f : Nat → Int64} {av : List Value} : FrameBlind (PcO D cI cJ a o sz σ f av) := fun v U g mk q =>
  ⟨q.1, ⟨⟨q.2.1.1.1, q.2.1.1.2.1, gw_moved (u := U) (U := U.calling g mk v) (Vm.Alike.refl U.vm) q.2.1.1.2.2⟩, ex_call v g mk q.2.1.2⟩, ec_moved (u := U) (U := U.calling g mk v) (Vm.Alike.refl U.vm) q.2.2.1, q.2.2.2.1, va_K.moved (u := U) (U := U.calling g mk v) (Vm.Alike.refl U.vm) q.2.2.2.2.1, q.2.2.2.2.2⟩
theorem keepO {D : va_G} {cJ : ClassId} {a : Nat → Nat} {o : Nat} {f : Nat → Int64} {H H1 : Heap} (h : va_P D vwCl [(o, oE cJ f)] H) (hk : ∀ q : Nat, q < H.size → ¬ AX 29 a H.size q → H1[q]? = H[q]?) (hao : ∀ i, i < 29 → a i ≠ o) : va_P D vwCl [(o, oE cJ f)] H1 := by
  refine h.kept (fun k q hq => ?_)
  have hlt := (h k q hq).lt
  have e : q.1 = o := by
    cases k with
    | zero => rw [← Option.some.inj hq]
    | succ k => simp at hq
  refine hk q.1 hlt (fun z => ?_)
  rcases z with ⟨i, hi, z⟩ | z
  · exact hao i hi (z.symm.trans e)
  · omega
theorem ao_ax {a : Nat → Nat} {o sz sz2 : Nat} (hz : sz ≤ sz2) {q : Nat} (h : AX 29 a sz2 q) : AO a o sz q := Or.inl (ax_f hz h)
section OL
variable {p : Program} {l : Launch} {e : Env} {R : Room} {s : State} {m : MethodId} {args : Array Value} {below : List Frame} {meth : Method} {c : Code} {H : Heap} {locs : List Loc} {cells slots : Nat} {Q : State → Prop}
variable {cc : ByteArray} {pc : Nat} {ls : Array Slot} {rest : List Value} {D : va_G} {cI cJ : ClassId} {a : Nat → Nat} {o : Nat} {σ : Sg} {f : Nat → Int64} {Qc : Array Value → State → Outcome → State → Prop} {mc ms : Nat}
theorem o_of {y : MethodName} {ws ws' : List Cond} {rm : Room} {maxL : Nat} {ret : Option FieldType} {hh : List (Nat × Nat × Nat × Nat)} {sz : Nat} {av : List Value} {C : String} (hC : y.cls = C)
    (hy : plainName y.cls = true) (hw : ws = Cond.codeWith y cc maxL ret hh :: ws') (hn : (lg_sl av).length ≤ maxL)
    (body : ∀ (p : Program) (e : Env) (s : State) (m : MethodId) (below : List Frame) (meth : Method) (c : Code), p.tables.exec = Jvm.exec → c.code = cc → meth.sig.returnType = ret → c.maxLocals = maxL → meth.locks = false → (∀ wd ∈ ws, wd.before av.toArray s = true) → s.vm.findClass C = some m.cls → s.heap.size = sz → c.exceptionTable.toList = tableOf hh → EX (AO a o sz) s → EC s → va_K D vwCl [(cJ, .long)] s → (∀ i, i < 29 → a i ≠ o) → ∀ H : Heap, va_P D vwCl (wX cI a σ) H → va_P D vwCl [(o, oE cJ f)] H → va_S (AO a o sz) s.heap H [] → GW D cI 29 a (wX cI a) s → ∀ ls : Array Slot, lv_has ls maxL (lv_args 0 av) →
      W p l e (headSpec ws rm).room s m av.toArray below meth c H [] 0 0 (MQ below Qc av.toArray s mc ms (AO a o sz)) (F0 m 0 ls [])) : Met l y ws rm (PcO D cI cJ a o sz σ f av) Qc mc ms (AO a o sz) := by
  refine MetFree.of_bodyS (code := cc) (maxLocals := maxL) (ret := ret) hy ?_ ?_
  · intro args s m h hn
    obtain ⟨m9, meth, c, hn9, h1, h2, h3, h4, -, h5, h6, -⟩ := Cond.codeWith_spec (atoms_spec (ws := ws) h _ (by rw [hw]; exact List.mem_cons_self))
    cases hn.symm.trans hn9
    exact ⟨meth, c, h1, h2, h3, h4, h5, h6⟩
  · intro p e s m args below meth c s₁ B hml hP _
    have hh0 : s₁.heap = s.heap := by rw [B.state]; rfl
    obtain ⟨rfl, ⟨⟨hsz, hPX, hG⟩, hE⟩, hEC, hPO, hKJ, hao⟩ := hP
    have hts := atoms_spec (ws := ws) B.pre
    have hown : s.vm.findClass C = some m.cls := hC ▸ findClass_of_methodNamed B.named
    have ht := vx_table (x := y) B (hts (Cond.codeWith y cc maxL ret hh) (by rw [hw]; exact List.mem_cons_self))
    have hl := lv_entry av (n := maxL) hn
    have K : W p l e (headSpec ws rm).room s m av.toArray below meth c s.heap [] 0 0 (MQ below Qc av.toArray s mc ms (AO a o sz)) (entryFrame m av.toArray maxL) := by
      rw [lg_entry_eq]
      generalize (lg_sl av ++ List.replicate (maxL - (lg_sl av).length) Slot.unset).toArray = ls at hl ⊢
      exact body p e s m below meth c B.exec B.bytes B.returns hml B.notSynchronized hts hown hsz ht hE hEC hKJ hao s.heap hPX hPO va_S.rf hG ls hl
    obtain ⟨t, a1, o9, b1, b2, b3⟩ := K s₁ hh0 (Stand.of_body B)
    exact ⟨t, o9, a1, b1, b2, ⟨b3.1, b3.2⟩⟩
theorem o_callVi {y : MethodName} {bytes : ByteArray} {maxL nL n index sz : Nat} {ret : Option FieldType} {ws Ts : List Cond} {rm : Room} {own : String} {As : List Value} {st0 : List Value} {r : Int32} {σ' : Sg} (S : CallFix p m c cc nL s args Ts own) (hG : GW D cI 29 a (wX cI a) s) (hP : va_P D vwCl (wX cI a σ) H) (hO : va_P D vwCl [(o, oE cJ f)] H) (hao : ∀ i, i < 29 → a i ≠ o) (hS : va_S (AO a o sz) s.heap H locs) (hz : s.heap.size = sz)
    (hM : Met l y ws rm (PcW D cI 29 a (wX cI a) H.size σ (.ref (a 0) :: As)) (QiW D 29 a (wX cI a) H.size r σ') 0 0 (AX 29 a H.size)) (cw : CallW R s args own RX5 index y bytes maxL ret ws rm 0 0 n)
    (hn : As.length = n) (hl : ls.size = nL) (hst : st0 = As.reverse ++ .ref (a 0) :: rest) (hW : (rest.map fun v => v.category).sum ≤ 8) (hR : cells ≤ R.cells ∧ slots ≤ R.slots) (hdg : decode cc pc = .ok (.invokevirtual index, 3))
    (kk : ∀ (H1 : Heap) (locs1 : List Loc), va_P D vwCl (wX cI a σ') H1 → va_P D vwCl [(o, oE cJ f)] H1 → va_S (AO a o sz) s.heap H1 locs1 → W p l e R s m args below meth c H1 locs1 cells slots Q (F0 m (pc + 3) ls (.int r :: rest))) : W p l e R s m args below meth c H locs cells slots Q (F0 m pc ls st0) := by
  subst hst; subst hz
  refine va_calli (va_runV (As := As) (rest := rest) S hM cw ⟨pcw_blind, va_recv hG.1 hP (ci := 5) (q0 := 0) rfl rfl, fun U hU hW => ⟨rfl, by rw [hU], by rw [hU]; exact hP, gw_moved hW.alike hG⟩⟩ rfl hn hl rfl (lv_room hW) hdg hR) hS (fun q h1 h2 => Or.inl (ax_A h1 h2)) (fun q h => ao_ax hS.1 h) (fun r1 u t H1 locs1 ht hvm hw hB hz1 hk1 hS => ?_)
  rw [ht] at hB
  subst hw
  exact kk H1 locs1 hB (keepO hO hk1 hao) hS
theorem o_callVv {y : MethodName} {bytes : ByteArray} {maxL nL n index sz : Nat} {ret : Option FieldType} {ws Ts : List Cond} {rm : Room} {own : String} {As : List Value} {st0 : List Value} {σ' : Sg} (S : CallFix p m c cc nL s args Ts own) (hG : GW D cI 29 a (wX cI a) s) (hP : va_P D vwCl (wX cI a σ) H) (hO : va_P D vwCl [(o, oE cJ f)] H) (hao : ∀ i, i < 29 → a i ≠ o) (hS : va_S (AO a o sz) s.heap H locs) (hz : s.heap.size = sz)
    (hM : Met l y ws rm (PcW D cI 29 a (wX cI a) H.size σ (.ref (a 0) :: As)) (QvW D 29 a (wX cI a) H.size σ') 0 0 (AX 29 a H.size)) (cw : CallW R s args own RX5 index y bytes maxL ret ws rm 0 0 n)
    (hn : As.length = n) (hl : ls.size = nL) (hst : st0 = As.reverse ++ .ref (a 0) :: rest) (hW : (rest.map fun v => v.category).sum ≤ 8) (hR : cells ≤ R.cells ∧ slots ≤ R.slots) (hdg : decode cc pc = .ok (.invokevirtual index, 3))
    (kk : ∀ (H1 : Heap) (locs1 : List Loc), va_P D vwCl (wX cI a σ') H1 → va_P D vwCl [(o, oE cJ f)] H1 → va_S (AO a o sz) s.heap H1 locs1 → W p l e R s m args below meth c H1 locs1 cells slots Q (F0 m (pc + 3) ls rest)) : W p l e R s m args below meth c H locs cells slots Q (F0 m pc ls st0) := by
  subst hst; subst hz
  refine va_callv (va_runV (As := As) (rest := rest) S hM cw ⟨pcw_blind, va_recv hG.1 hP (ci := 5) (q0 := 0) rfl rfl, fun U hU hW => ⟨rfl, by rw [hU], by rw [hU]; exact hP, gw_moved hW.alike hG⟩⟩ rfl hn hl rfl (lv_room hW) hdg hR) hS (fun q h1 h2 => Or.inl (ax_A h1 h2)) (fun q h => ao_ax hS.1 h) (fun u t H1 locs1 ht hvm hw hB hz1 hk1 hS => ?_)
  rw [ht] at hB
  exact kk H1 locs1 hB (keepO hO hk1 hao) hS
/-- a call that throws, caught here -/
theorem o_catVi {E0 : String} {hpc : Nat} {y : MethodName} {bytes : ByteArray} {maxL nL n index sz : Nat} {ret : Option FieldType} {ws Ts : List Cond} {rm : Room} {own : String} {As : List Value} {st0 : List Value} (S : CallFix p m c cc nL s args Ts own) (hG : GW D cI 29 a (wX cI a) s) (hP : va_P D vwCl (wX cI a σ) H) (hO : va_P D vwCl [(o, oE cJ f)] H) (hao : ∀ i, i < 29 → a i ≠ o) (hS : va_S (AO a o sz) s.heap H locs) (hz : s.heap.size = sz) (hE : EX (AO a o sz) s)
    (hM : vx_Met l y ws rm (PcE D cI 29 a (wX cI a) H.size σ (.ref (a 0) :: As)) (QxI 29 a H.size) (XE D 29 a (wX cI a) H.size σ E0) 1 6 (AX 29 a H.size)) (cw : CallW R s args own RX5 index y bytes maxL ret ws rm 1 6 n)
    (hn : As.length = n) (hl : ls.size = nL) (hst : st0 = As.reverse ++ .ref (a 0) :: rest) (hW : (rest.map fun v => v.category).sum ≤ 8) (hR : cells + 1 ≤ R.cells ∧ slots + 6 ≤ R.slots) (hdg : decode cc pc = .ok (.invokevirtual index, 3))
    (pre : List ExceptionTableEntry) (x : ExceptionTableEntry) (suf : List ExceptionTableEntry) (hsplit : c.exceptionTable.toList = pre ++ x :: suf)
    (hpass : ∀ z ∈ pre, covers z pc = false ∨ (z.catchType ≠ 0 ∧ ∃ nm : String, (Cond.classLink own z.catchType nm).before args s = true ∧ va_Nc E0 nm s)) (hx : covers x pc = true) (h0 : x.catchType ≠ 0) (hlink : (Cond.classLink own x.catchType E0).before args s = true) (hcast : Cond.castable E0 E0 ∈ dB) (hpx : x.handlerPc = hpc)
    (kk : ∀ (q : Nat) (H1 : Heap) (locs1 : List Loc), va_P D vwCl (wX cI a σ) H1 → va_P D vwCl [(o, oE cJ f)] H1 → va_S (AO a o sz) s.heap H1 locs1 → W p l e R s m args below meth c H1 locs1 (cells + 1) (slots + 6) Q (F0 m hpc ls [.ref q])) : W p l e R s m args below meth c H locs cells slots Q (F0 m pc ls st0) := by
  subst hst; subst hz; subst hpx
  refine vx_calli (vx_runV (As := As) (rest := rest) S hM cw ⟨pce_blind, va_recv hG.1 hP (ci := 5) (q0 := 0) rfl rfl, fun U hU hW => ⟨rfl, ⟨by rw [hU], by rw [hU]; exact hP, gw_moved hW.alike hG⟩, ex_moved hS.2.1 (fun q h => ao_ax hS.1 h) hW hU hE⟩⟩ rfl hn hl rfl (lv_room hW) hdg hR) hS (fun q h1 h2 => Or.inl (ax_A h1 h2)) (fun q h => ao_ax hS.1 h) (fun q h1 h2 => Or.inl (ax_A h1 h2)) (fun E ce q9 u t H1 locs1 ht hvm _ hB hz1 hk1 hS1 hcell hv hcl => ?_) (fun r u t H1 locs1 ht hvm hw => hw.elim)
  obtain ⟨rfl, hB⟩ := hB
  rw [ht] at hB
  have hc9 : (Cond.castable E E).before args s = true := va_Nw.use rfl (hE.2.2.1 _ hcast)
  exact vx_catch S.2.2.2.1 pre x suf hsplit hpass hx h0 hlink hc9 hcell hv hcl (kk q9 H1 locs1 hB (keepO hO hk1 hao) hS1)
theorem o_catVv {E0 : String} {hpc : Nat} {y : MethodName} {bytes : ByteArray} {maxL nL n index sz : Nat} {ret : Option FieldType} {ws Ts : List Cond} {rm : Room} {own : String} {As : List Value} {st0 : List Value} (S : CallFix p m c cc nL s args Ts own) (hG : GW D cI 29 a (wX cI a) s) (hP : va_P D vwCl (wX cI a σ) H) (hO : va_P D vwCl [(o, oE cJ f)] H) (hao : ∀ i, i < 29 → a i ≠ o) (hS : va_S (AO a o sz) s.heap H locs) (hz : s.heap.size = sz) (hE : EX (AO a o sz) s)
    (hM : vx_Met l y ws rm (PcE D cI 29 a (wX cI a) H.size σ (.ref (a 0) :: As)) (QxV 29 a H.size) (XE D 29 a (wX cI a) H.size σ E0) 1 6 (AX 29 a H.size)) (cw : CallW R s args own RX5 index y bytes maxL ret ws rm 1 6 n)
    (hn : As.length = n) (hl : ls.size = nL) (hst : st0 = As.reverse ++ .ref (a 0) :: rest) (hW : (rest.map fun v => v.category).sum ≤ 8) (hR : cells + 1 ≤ R.cells ∧ slots + 6 ≤ R.slots) (hdg : decode cc pc = .ok (.invokevirtual index, 3))
    (pre : List ExceptionTableEntry) (x : ExceptionTableEntry) (suf : List ExceptionTableEntry) (hsplit : c.exceptionTable.toList = pre ++ x :: suf)
    (hpass : ∀ z ∈ pre, covers z pc = false ∨ (z.catchType ≠ 0 ∧ ∃ nm : String, (Cond.classLink own z.catchType nm).before args s = true ∧ va_Nc E0 nm s)) (hx : covers x pc = true) (h0 : x.catchType ≠ 0) (hlink : (Cond.classLink own x.catchType E0).before args s = true) (hcast : Cond.castable E0 E0 ∈ dB) (hpx : x.handlerPc = hpc)
    (kk : ∀ (q : Nat) (H1 : Heap) (locs1 : List Loc), va_P D vwCl (wX cI a σ) H1 → va_P D vwCl [(o, oE cJ f)] H1 → va_S (AO a o sz) s.heap H1 locs1 → W p l e R s m args below meth c H1 locs1 (cells + 1) (slots + 6) Q (F0 m hpc ls [.ref q])) : W p l e R s m args below meth c H locs cells slots Q (F0 m pc ls st0) := by
  subst hst; subst hz; subst hpx
  refine vx_callv (vx_runV (As := As) (rest := rest) S hM cw ⟨pce_blind, va_recv hG.1 hP (ci := 5) (q0 := 0) rfl rfl, fun U hU hW => ⟨rfl, ⟨by rw [hU], by rw [hU]; exact hP, gw_moved hW.alike hG⟩, ex_moved hS.2.1 (fun q h => ao_ax hS.1 h) hW hU hE⟩⟩ rfl hn hl rfl (lv_room hW) hdg hR) hS (fun q h1 h2 => Or.inl (ax_A h1 h2)) (fun q h => ao_ax hS.1 h) (fun q h1 h2 => Or.inl (ax_A h1 h2)) (fun E ce q9 u t H1 locs1 ht hvm _ hB hz1 hk1 hS1 hcell hv hcl => ?_) (fun u t H1 locs1 ht hvm hw => hw.elim)
  obtain ⟨rfl, hB⟩ := hB
  rw [ht] at hB
  have hc9 : (Cond.castable E E).before args s = true := va_Nw.use rfl (hE.2.2.1 _ hcast)
  exact vx_catch S.2.2.2.1 pre x suf hsplit hpass hx h0 hlink hc9 hcell hv hcl (kk q9 H1 locs1 hB (keepO hO hk1 hao) hS1)
/-- the answer is laid into out -/
theorem o_last {sz : Nat} {x : Int64} (hx : p.tables.exec = Jvm.exec) (hb : c.code = cc) (hG : GW D cI 29 a (wX cI a) s) (hKJ : va_K D vwCl [(cJ, .long)] s) (hP : va_P D vwCl (wX cI a σ) H) (hO : va_P D vwCl [(o, oE cJ f)] H) (hao : ∀ i, i < 29 → a i ≠ o) (hS : va_S (AO a o sz) s.heap H locs) (hdg : decode cc pc = .ok (.lastore, 1))
    (kk : ∀ (H1 : Heap) (locs1 : List Loc), va_P D vwCl (wX cI a σ) H1 → va_P D vwCl [(o, oE cJ (vp_updL f 0 x))] H1 → va_S (AO a o sz) s.heap H1 locs1 → W p l e R s m args below meth c H1 locs1 cells slots Q (F0 m (pc + 1) ls rest)) : W p l e R s m args below meth c H locs cells slots Q (F0 m pc ls (.long x :: .int 0 :: .ref o :: rest)) := by
  have hD : va_D (AO a o sz) (wX cI a σ ++ [(o, oE cJ f)]) := by
    refine va_D.app ((gw_D hG sz σ).weaken (fun _ _ _ h => Or.inl h)) ⟨fun i j p q hi hj _ => ?_, fun k q hk => ?_⟩ (fun i j p q hi hj => ?_)
    · cases i with
      | zero => cases j with
        | zero => rfl
        | succ j => simp at hj
      | succ i => simp at hi
    · cases k with
      | zero => exact Or.inr (by rw [← Option.some.inj hk])
      | succ k => simp at hk
    · obtain ⟨h1, h2⟩ := gw_key hG σ i p hi
      cases j with
      | zero => rw [h2, ← Option.some.inj hj]; exact hao i h1
      | succ j => simp at hj
  refine va_last hx hb hKJ (hP.app hO) hD hS 29 0 rfl rfl (vp_in_nI (n := 0) (by decide) (by decide)) hdg (fun H1 locs1 h1 _ h3 => kk H1 locs1 (fun k q hk => ?_) (fun k q hk => ?_) h3)
  · have hlen : k < 29 := (gw_key hG σ k q hk).1
    refine h1 k q ?_
    rw [List.getElem?_set_ne (by omega), List.getElem?_append_left (by have := (List.getElem?_eq_some_iff.mp hk).1; exact this)]
    exact hk
  · cases k with
    | zero => refine h1 29 q ?_; rw [← hk]; rfl
    | succ k => simp at hk
/-- its end -/
theorem o_iret {sz : Nat} {v r : Int32} {σ' : Sg} {f' : Nat → Int64} {ty : FieldType} (hx : p.tables.exec = Jvm.exec) (hb : c.code = cc) (hr : meth.sig.returnType = some ty) (hlk : meth.locks = false) (hP : va_P D vwCl (wX cI a σ) H) (hO : va_P D vwCl [(o, oE cJ f)] H) (hS : va_S (AO a o sz) s.heap H locs) (hn : narrow ty (.int v) = .int v) (hv : r = v) (hσ : σ' = σ) (hf : f' = f) (hdg : decode cc pc = .ok (.ireturn, 1)) : W p l e R s m args below meth c H locs cells slots (MQ below (QiO D cI cJ a o sz r σ' f') args s cells slots (AO a o sz)) (F0 m pc ls [.int v]) := by
  subst hv; subst hσ; subst hf
  exact W.zret (ty := ty) hx hb hr hn (fun t ht hW => ⟨⟨r, (), rfl, rfl, by dsimp only; rw [ht]; exact ⟨hP, hO⟩⟩, hS.F ht⟩) hS.2.2 hdg hlk
end OL
