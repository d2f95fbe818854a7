-- methods of the class that throw
def dB : List Cond := [.declares (Bundle.initS "java/lang/RuntimeException"), .declares (Bundle.initS "java/lang/Exception"), .declares (Bundle.initS Bundle.tN), .castable "java/lang/IndexOutOfBoundsException" "java/lang/IndexOutOfBoundsException", .castable "java/lang/IllegalArgumentException" "java/lang/IllegalArgumentException", .castable "java/lang/IllegalStateException" "java/lang/IllegalStateException"]
def xS : List (Nat × String) := [(80, "minutes out of range"), (87, "now would be above its last minute"), (126, "no such question of a cycle"), (145, "no such question of a station"), (165, "no such question of a rider"), (175, "no such station"), (178, "no such cycle"), (180, "no such rider"), (182, "a value out of range"), (189, "minute out of range"), (195, "as much as can be was heard")]
theorem xI_B : ∀ w ∈ (vx_atS RX5 177 "java/lang/IndexOutOfBoundsException" ["java/lang/RuntimeException", "java/lang/Exception"]).filter (fun w => !goodWord w), w ∈ dB := by decide +kernel
theorem xA_B : ∀ w ∈ (vx_atS RX5 82 "java/lang/IllegalArgumentException" ["java/lang/RuntimeException", "java/lang/Exception"]).filter (fun w => !goodWord w), w ∈ dB := by decide +kernel
theorem xT_B : ∀ w ∈ (vx_atS RX5 89 "java/lang/IllegalStateException" ["java/lang/RuntimeException", "java/lang/Exception"]).filter (fun w => !goodWord w), w ∈ dB := by decide +kernel
theorem xI_g : ∀ w ∈ Cond.classLink RX5 173 "java/lang/IndexOutOfBoundsException" :: Cond.initialized "java/lang/IndexOutOfBoundsException" :: vx_atS RX5 177 "java/lang/IndexOutOfBoundsException" ["java/lang/RuntimeException", "java/lang/Exception"], vx_ot w = true := by decide +kernel
theorem xA_g : ∀ w ∈ Cond.classLink RX5 78 "java/lang/IllegalArgumentException" :: Cond.initialized "java/lang/IllegalArgumentException" :: vx_atS RX5 82 "java/lang/IllegalArgumentException" ["java/lang/RuntimeException", "java/lang/Exception"], vx_ot w = true := by decide +kernel
theorem xT_g : ∀ w ∈ Cond.classLink RX5 85 "java/lang/IllegalStateException" :: Cond.initialized "java/lang/IllegalStateException" :: vx_atS RX5 89 "java/lang/IllegalStateException" ["java/lang/RuntimeException", "java/lang/Exception"], vx_ot w = true := by decide +kernel
/-- what a throw needs of a start -/
def EX (A : Nat → Prop) (U : State) : Prop := vx_Zq Bundle.tN "UNASSIGNED_STACK" Bundle.steD A U U.heap ∧ vx_Zq Bundle.tN "SUPPRESSED_SENTINEL" Bundle.listD A U U.heap ∧ (∀ w ∈ dB, va_Nw w U) ∧ ∀ x ∈ xS, ∃ q, vk_R RX5 x.1 x.2 q U
theorem dB_nw {w : Cond} (hw : w ∈ dB) {u U : State} (hvm : u.vm.Alike U.vm) (h : va_Nw w u) : va_Nw w U := by
  have key : ∀ x : MethodName, va_Nw (.declares x) u → va_Nw (.declares x) U := fun x hZ => va_tabs rfl (rfl : (u.setVm U.vm).vm = U.vm) (by rw [Cond.declares_setVm hvm]; exact hZ)
  have keyC : ∀ x y : String, va_Nw (.castable x y) u → va_Nw (.castable x y) U := fun x y hZ => va_tabs rfl (rfl : (u.setVm U.vm).vm = U.vm) (by rw [Cond.castable_setVm hvm]; exact hZ)
  unfold dB at hw
  rcases List.mem_cons.mp hw with rfl | hw
  · exact key _ h
  rcases List.mem_cons.mp hw with rfl | hw
  · exact key _ h
  rcases List.mem_cons.mp hw with rfl | hw
  · exact key _ h
  rcases List.mem_cons.mp hw with rfl | hw
  · exact keyC _ _ h
  rcases List.mem_cons.mp hw with rfl | hw
  · exact keyC _ _ h
  rcases List.mem_cons.mp hw with rfl | hw
  · exact keyC _ _ h
  · nomatch hw
theorem ex_moved {A B : Nat → Prop} {s U : State} {H : Heap} (hq : ∀ q : Nat, q < s.heap.size → ¬ A q → H[q]? = s.heap[q]?) (hB : ∀ q, B q → A q) (hW : s.WarmedH U.vm) (hU : U.heap = H) (h : EX A s) : EX B U := by
  obtain ⟨h1, h2, h3, h4⟩ := h
  refine ⟨?_, ?_, fun w hw => dB_nw hw hW.alike (h3 w hw), fun x hx => ?_⟩
  · rw [hU]; exact (vx_Zq.moved hW.alike (h1.kept hq)).narrow hB
  · rw [hU]; exact (vx_Zq.moved hW.alike (h2.kept hq)).narrow hB
  · obtain ⟨q, hq⟩ := h4 x hx
    exact ⟨q, vk_R.warm hW hq⟩
abbrev PcE (D : va_G) (cI : ClassId) (N : Nat) (a : Nat → Nat) (w : Sg → va_W) (sz : Nat) (σ : Sg) (av : List Value) : Array Value → State → Prop := va_Pc av (fun U => (U.heap.size = sz ∧ va_P D vwCl (w σ) U.heap ∧ GW D cI N a w U) ∧ EX (AX N a sz) U)
abbrev XE (D : va_G) (N : Nat) (a : Nat → Nat) (w : Sg → va_W) (sz : Nat) (σ : Sg) (E0 : String) : String → State → State → Prop := vx_X (fun (_ : Unit) => True) (fun E _ t => E = E0 ∧ va_P D vwCl (w σ) t.heap) (AX N a sz)
abbrev QxV (N : Nat) (a : Nat → Nat) (sz : Nat) : Array Value → State → Outcome → State → Prop := va_Qv (fun (_ : Unit) => False) (fun _ _ => True) (AX N a sz)
abbrev QxI (N : Nat) (a : Nat → Nat) (sz : Nat) : Array Value → State → Outcome → State → Prop := va_Qi (fun (_ : Int32) (_ : Unit) => False) (fun _ _ => True) (AX N a sz)
theorem pce_blind {D : va_G} {cI : ClassId} {N : Nat} {a : Nat → Nat} {w : Sg → va_W} {sz : Nat} {σ : Sg} {av : List Value} : FrameBlind (PcE D cI N a w sz σ av) := fun v U g mk q =>
  ⟨q.1, ⟨q.2.1.1, q.2.1.2.1, gw_moved (u := U) (U := U.calling g mk v) (Vm.Alike.refl U.vm) q.2.1.2.2⟩,
    ⟨vx_Zq.moved (u := U) (U := U.calling g mk v) (Vm.Alike.refl U.vm) q.2.2.1, vx_Zq.moved (u := U) (U := U.calling g mk v) (Vm.Alike.refl U.vm) q.2.2.2.1,
      fun w hw => dB_nw (u := U) (U := U.calling g mk v) hw (Vm.Alike.refl U.vm) (q.2.2.2.2.1 w hw), fun x hx => by
        obtain ⟨q9, h9⟩ := q.2.2.2.2.2 x hx
        exact ⟨q9, vk_R.same (u := U) (U := U.calling g mk v) rfl h9⟩⟩⟩
section XT
variable {p : Program} {l : Launch} {e : Env} {R : Room} {s : State} {m : MethodId} {args : Array Value} {below : List Frame} {meth : Method} {c : Code} {H : Heap} {locs : List Loc} {cells slots : Nat}
variable {cc : ByteArray} {pc : Nat} {ls : Array Slot} {rest : List Value} {D : va_G} {cI : ClassId} {N : Nat} {a : Nat → Nat} {w : Sg → va_W} {σ : Sg} {Qc : Array Value → State → Outcome → State → Prop} {mc ms : Nat}
theorem x_ofE {y : MethodName} {ws ws' : List Cond} {rm : Room} {XC : String → State → State → Prop} {free : Addr → Prop} {maxL : Nat} {ret : Option FieldType} {sz : Nat} {av : List Value} {C : String} (hC : y.cls = C)
    (hy : plainName y.cls = true) (hw : ws = Cond.code y cc maxL ret :: ws') (hn : (lg_sl av).length ≤ maxL)
    (body : ∀ (p : Program) (e : Env) (s : State) (m : MethodId) (below : List Frame) (meth : Method) (c : Code), p.tables.exec = Jvm.exec → c.code = cc → meth.sig.returnType = ret → c.maxLocals = maxL → meth.locks = false → (∀ wd ∈ ws, wd.before av.toArray s = true) → s.vm.findClass C = some m.cls → s.heap.size = sz → (∀ x ∈ c.exceptionTable.toList, False) → EX (AX N a sz) s → ∀ H : Heap, va_P D vwCl (w σ) H → va_S (AX N a sz) s.heap H [] → GW D cI N a w s → ∀ ls : Array Slot, lv_has ls maxL (lv_args 0 av) →
      W p l e (headSpec ws rm).room s m av.toArray below meth c H [] 0 0 (vx_MQ below Qc XC av.toArray s mc ms free) (F0 m 0 ls [])) : vx_Met l y ws rm (PcE D cI N a w sz σ av) Qc XC mc ms free := by
  refine vx_ofW (cc := cc) (maxL := maxL) (ret := ret) hy hw ?_
  intro p e s m args below meth c s₁ B hml hnt hv
  obtain ⟨rfl, ⟨hsz, hP, hG⟩, hE⟩ := hv
  have hts := atoms_spec (ws := ws) B.pre
  have hown : s.vm.findClass C = some m.cls := hC ▸ findClass_of_methodNamed B.named
  have hl := lv_entry av (n := maxL) hn
  rw [lg_entry_eq]
  generalize (lg_sl av ++ List.replicate (maxL - (lg_sl av).length) Slot.unset).toArray = ls at hl ⊢
  exact body p e s m below meth c B.exec B.bytes B.returns hml B.notSynchronized hts hown hsz hnt hE s.heap hP va_S.rf hG ls hl
/-- new X(text), thrown, not caught here -/
theorem x_thr {sz maxL : Nat} {cls text : String} {ik is ic : Nat} (hx : p.tables.exec = Jvm.exec) (hb : c.code = cc) (hlf : l.stackTraces = false) (hml : c.maxLocals = maxL) (hlk : meth.locks = false) (hown : s.vm.findClass RX5 = some m.cls) (hnt : ∀ x ∈ c.exceptionTable.toList, False) (hE : EX (AX N a sz) s) (hP : va_P D vwCl (w σ) H) (hS : va_S (AX N a sz) s.heap H locs)
    (hfit : Bundle.fit cls = true) (hk : (Cond.classLink RX5 ik cls).before args s = true) (hini : (Cond.initialized cls).before args s = true) (hat : ∀ w ∈ (vx_atS RX5 ic cls ["java/lang/RuntimeException", "java/lang/Exception"]).filter goodWord, w.before args s = true)
    (hB : ∀ w ∈ (vx_atS RX5 ic cls ["java/lang/RuntimeException", "java/lang/Exception"]).filter (fun w => !goodWord w), w ∈ dB) (hgood : ∀ w ∈ Cond.classLink RX5 ik cls :: Cond.initialized cls :: vx_atS RX5 ic cls ["java/lang/RuntimeException", "java/lang/Exception"], vx_ot w = true) (hstr : (is, text) ∈ xS) (hlsz : ls.size = maxL)
    (d0 : decode cc pc = .ok (.new ik, 3)) (d3 : decode cc (pc + 3) = .ok (.dup, 1)) (d4 : decode cc (pc + 4) = .ok (.ldc is, 2)) (d6 : decode cc (pc + 6) = .ok (.invokespecial ic, 3)) (d9 : decode cc (pc + 9) = .ok (.athrow, 1))
    (hF : 5 < R.frames ∧ (rest.map fun v => v.category).sum + 82 ≤ R.locals) (hR : cells + 1 ≤ R.cells ∧ slots + 6 ≤ R.slots) (hM : cells + 1 ≤ mc ∧ slots + 6 ≤ ms) :
    W p l e R s m args below meth c H locs cells slots (vx_MQ below Qc (XE D N a w sz σ cls) args s mc ms (AX N a sz)) (F0 m pc ls rest) := by
  obtain ⟨sa, hsa⟩ := hE.2.2.2 _ hstr
  refine vx_throwS (names := ["java/lang/RuntimeException", "java/lang/Exception"]) (A := AX N a sz) (sa := sa) hx hb hlf hown hfit (by decide) hk hini hsa (vx_hat hat hB (fun w hw => va_Nw.use ?_ (hE.2.2.1 w hw))) hgood hE.1 hE.2.1 hS (hlsz.trans hml.symm) d0 d3 d4 d6 d9 (fun x hx => (hnt x hx).elim) hF.1 hF.2 hR.1 hR.2 hlk ?_ hS.2.2 hM.1 hM.2
  · revert w hw; decide
  · intro t hvm hz hk9
    exact ⟨(), trivial, ⟨rfl, hP.kept (fun k q hkq => hk9 q.1 ((hP k q hkq).lt))⟩, ⟨Nat.le_trans hS.1 hz, fun q h1 h2 => (hk9 q (Nat.lt_of_lt_of_le h1 hS.1)).trans (hS.2.1 q h1 h2)⟩⟩
/-- a call that throws; it goes on to the caller -/
theorem x_outS {E0 : String} {y : MethodName} {bytes : ByteArray} {maxL nL n index sz : Nat} {ret : Option FieldType} {ws Ts : List Cond} {rm : Room} {own : String} {As : List Value} {st0 : List Value} (S : CallFix p m c cc nL s args Ts own) (hG : GW D cI N a w s) (hP : va_P D vwCl (w σ) H) (hS : va_S (AX N a sz) s.heap H locs) (hz : s.heap.size = sz) (hE : EX (AX N a sz) s) (hnt : ∀ x ∈ c.exceptionTable.toList, False) (hlk : meth.locks = false)
    (hM : vx_Met l y ws rm (PcE D cI N a w H.size σ As) (QxV N a H.size) (XE D N a w H.size σ E0) 1 6 (AX N a H.size)) (cw : CallB R s args own index y bytes maxL ret ws rm 1 6 n ∧ (Cond.static y).before args s = true)
    (hn : As.length = n) (hl : ls.size = nL) (hst : st0 = As.reverse ++ rest) (hW : (rest.map fun v => v.category).sum ≤ 8) (hR : cells + 1 ≤ R.cells ∧ slots + 6 ≤ R.slots) (hdg : decode cc pc = .ok (.invokestatic index, 3)) (hM2 : cells + 1 ≤ mc ∧ slots + 6 ≤ ms) :
    W p l e R s m args below meth c H locs cells slots (vx_MQ below Qc (XE D N a w sz σ E0) args s mc ms (AX N a sz)) (F0 m pc ls st0) := by
  subst hst; subst hz
  refine vx_callv (vx_runS (As := As) (rest := rest) S hM cw ⟨pce_blind, fun U hU hW => ⟨rfl, ⟨by rw [hU], by rw [hU]; exact hP, gw_moved hW.alike hG⟩, ex_moved hS.2.1 (fun q h => ax_f hS.1 h) hW hU hE⟩⟩ rfl hn hl rfl (lv_room hW) hdg hR) hS (fun q h1 h2 => ax_A h1 h2) (fun q h => ax_f hS.1 h) (fun q h1 h2 => ax_A h1 h2) (fun E ce q9 u t H1 locs1 ht hvm _ hB hz1 hk1 hS1 hcell hv hcl => ?_) (fun u t H1 locs1 ht hvm hw => hw.elim)
  obtain ⟨rfl, hB⟩ := hB
  exact vx_out (fun x hx => (hnt x hx).elim) hlk hcell hv hcl (fun t2 ht2 _ => ⟨(), trivial, ⟨rfl, by rw [ht2, ← ht]; exact hB⟩, hS1.F ht2⟩) hS1.2.2 hM2.1 hM2.2
theorem x_outV {E0 : String} {y : MethodName} {bytes : ByteArray} {maxL nL n index sz ci q0 : Nat} {ret : Option FieldType} {ws Ts : List Cond} {rm : Room} {own C : String} {As : List Value} {st0 : List Value} {fs : List Value} {q : vw_C} (S : CallFix p m c cc nL s args Ts own) (hG : GW D cI N a w s) (hP : va_P D vwCl (w σ) H) (hS : va_S (AX N a sz) s.heap H locs) (hz : s.heap.size = sz) (hE : EX (AX N a sz) s) (hnt : ∀ x ∈ c.exceptionTable.toList, False) (hlk : meth.locks = false)
    (hM : vx_Met l y ws rm (PcE D cI N a w H.size σ (.ref (a q0) :: As)) (QxV N a H.size) (XE D N a w H.size σ E0) 1 6 (AX N a H.size)) (cw : CallW R s args own C index y bytes maxL ret ws rm 1 6 n) (he : (w σ)[q0]? = some (a q0, .inr (ci, fs))) (hc : vwCl[ci]? = some q) (hq : q.1 = C)
    (hn : As.length = n) (hl : ls.size = nL) (hst : st0 = As.reverse ++ .ref (a q0) :: rest) (hW : (rest.map fun v => v.category).sum ≤ 8) (hR : cells + 1 ≤ R.cells ∧ slots + 6 ≤ R.slots) (hdg : decode cc pc = .ok (.invokevirtual index, 3)) (hM2 : cells + 1 ≤ mc ∧ slots + 6 ≤ ms) :
    W p l e R s m args below meth c H locs cells slots (vx_MQ below Qc (XE D N a w sz σ E0) args s mc ms (AX N a sz)) (F0 m pc ls st0) := by
  subst hst; subst hq; subst hz
  refine vx_callv (vx_runV (As := As) (rest := rest) S hM cw ⟨pce_blind, va_recv hG.1 hP hc he, fun U hU hW => ⟨rfl, ⟨by rw [hU], by rw [hU]; exact hP, gw_moved hW.alike hG⟩, ex_moved hS.2.1 (fun q h => ax_f hS.1 h) hW hU hE⟩⟩ rfl hn hl rfl (lv_room hW) hdg hR) hS (fun q h1 h2 => ax_A h1 h2) (fun q h => ax_f hS.1 h) (fun q h1 h2 => ax_A h1 h2) (fun E ce q9 u t H1 locs1 ht hvm _ hB hz1 hk1 hS1 hcell hv hcl => ?_) (fun u t H1 locs1 ht hvm hw => hw.elim)
  obtain ⟨rfl, hB⟩ := hB
  exact vx_out (fun x hx => (hnt x hx).elim) hlk hcell hv hcl (fun t2 ht2 _ => ⟨(), trivial, ⟨rfl, by rw [ht2, ← ht]; exact hB⟩, hS1.F ht2⟩) hS1.2.2 hM2.1 hM2.2
end XT
