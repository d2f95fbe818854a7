/-- the contents: of a cell of ints its places; of an object its int fields by their slots -/
abbrev Sg : Type := Nat → Nat → Int32
def sx (σ : Sg) (k i : Nat) (x : Int32) : Sg := fun q => if q = k then upd (σ q) i x else σ q
def sf (σ : Sg) (k : Nat) (f : Nat → Int32) : Sg := fun q => if q = k then f else σ q
/-- the cells of an object's world, and all that is new -/
def AX (N : Nat) (a : Nat → Nat) (sz : Nat) : Nat → Prop := fun q => (∃ i, i < N ∧ q = a i) ∨ sz ≤ q
/-- what stays of a world: the classes, its addresses, that they are apart -/
def GW (D : va_G) (cI : ClassId) (N : Nat) (a : Nat → Nat) (w : Sg → va_W) (U : State) : Prop := va_K D vwCl [(cI, .int)] U ∧ (∀ σ, (w σ).map Prod.fst = (List.range N).map a) ∧ (∀ i j, i < N → j < N → a i = a j → i = j)
def wX (cI : ClassId) (a : Nat → Nat) (σ : Sg) : va_W := [
  (a 0, .inr (5, [.ref (a 1), .ref (a 2), .ref (a 3), .ref (a 4), .ref (a 5), .int (σ 0 5), .int (σ 0 6), .int (σ 0 7), .int (σ 0 8)])),
  (a 1, .inr (4, [.ref (a 6), .ref (a 7), .ref (a 8), .ref (a 9), .int (σ 1 4)])),
  (a 2, .inr (1, [.ref (a 10), .ref (a 11), .ref (a 12)])),
  (a 3, .inr (3, [.ref (a 13), .ref (a 14), .ref (a 15), .int (σ 3 3)])),
  (a 4, .inr (0, [.ref (a 16), .ref (a 17), .ref (a 18), .ref (a 19), .ref (a 20), .ref (a 21), .ref (a 22)])),
  (a 5, .inr (2, [.ref (a 23), .ref (a 24), .ref (a 25), .ref (a 26), .ref (a 27), .ref (a 28)])),
  (a 6, .inl (cI, 300, .inl (σ 6))), (a 7, .inl (cI, 300, .inl (σ 7))), (a 8, .inl (cI, 300, .inl (σ 8))), (a 9, .inl (cI, 300, .inl (σ 9))),
  (a 10, .inl (cI, 8, .inl (σ 10))), (a 11, .inl (cI, 8, .inl (σ 11))), (a 12, .inl (cI, 8, .inl (σ 12))),
  (a 13, .inl (cI, 8, .inl (σ 13))), (a 14, .inl (cI, 8, .inl (σ 14))), (a 15, .inl (cI, 8, .inl (σ 15))),
  (a 16, .inl (cI, 30, .inl (σ 16))), (a 17, .inl (cI, 30, .inl (σ 17))), (a 18, .inl (cI, 30, .inl (σ 18))), (a 19, .inl (cI, 30, .inl (σ 19))), (a 20, .inl (cI, 30, .inl (σ 20))), (a 21, .inl (cI, 30, .inl (σ 21))), (a 22, .inl (cI, 30, .inl (σ 22))),
  (a 23, .inl (cI, 10, .inl (σ 23))), (a 24, .inl (cI, 10, .inl (σ 24))), (a 25, .inl (cI, 10, .inl (σ 25))), (a 26, .inl (cI, 10, .inl (σ 26))), (a 27, .inl (cI, 10, .inl (σ 27))), (a 28, .inl (cI, 10, .inl (σ 28)))]
theorem wX_fst (cI : ClassId) (a : Nat → Nat) (σ : Sg) : (wX cI a σ).map Prod.fst = (List.range 29).map a := rfl
section XW
variable {D : va_G} {cI : ClassId} {N : Nat} {a : Nat → Nat} {w : Sg → va_W}
theorem gw_key {U : State} (h : GW D cI N a w U) (σ : Sg) : ∀ (k : Nat) (q : Nat × va_E), (w σ)[k]? = some q → k < N ∧ q.1 = a k := by
  intro k q hk
  have h1 : ((w σ).map Prod.fst)[k]? = some q.1 := by rw [List.getElem?_map, hk]; rfl
  rw [h.2.1 σ, List.getElem?_map] at h1
  by_cases hn : k < N
  · rw [List.getElem?_range hn] at h1
    exact ⟨hn, (Option.some.inj h1).symm⟩
  · have h2 : (List.range N)[k]? = none := List.getElem?_eq_none (by rw [List.length_range]; omega)
    rw [h2] at h1
    cases h1
theorem gw_D {U : State} (h : GW D cI N a w U) (sz : Nat) (σ : Sg) : va_D (AX N a sz) (w σ) := by
  refine ⟨fun i j p q hi hj hpq => ?_, fun k q hk => ?_⟩
  · obtain ⟨h1, h2⟩ := gw_key h σ i p hi
    obtain ⟨h3, h4⟩ := gw_key h σ j q hj
    exact h.2.2 i j h1 h3 (h2.symm.trans (hpq.trans h4))
  · obtain ⟨h1, h2⟩ := gw_key h σ k q hk
    exact Or.inl ⟨k, h1, h2⟩
theorem gw_moved {u U : State} (hvm : u.vm.Alike U.vm) (h : GW D cI N a w u) : GW D cI N a w U := ⟨va_K.moved hvm h.1, h.2⟩
/-- a method's start over a world -/
abbrev PcW (D : va_G) (cI : ClassId) (N : Nat) (a : Nat → Nat) (w : Sg → va_W) (sz : Nat) (σ : Sg) (av : List Value) : Array Value → State → Prop := va_Pc av (fun U => U.heap.size = sz ∧ va_P D vwCl (w σ) U.heap ∧ GW D cI N a w U)
abbrev QiW (D : va_G) (N : Nat) (a : Nat → Nat) (w : Sg → va_W) (sz : Nat) (r : Int32) (σ' : Sg) : Array Value → State → Outcome → State → Prop := va_Qi (fun (x : Int32) (_ : Unit) => x = r) (fun _ t => va_P D vwCl (w σ') t.heap) (AX N a sz)
abbrev QvW (D : va_G) (N : Nat) (a : Nat → Nat) (w : Sg → va_W) (sz : Nat) (σ' : Sg) : Array Value → State → Outcome → State → Prop := va_Qv (fun (_ : Unit) => True) (fun _ t => va_P D vwCl (w σ') t.heap) (AX N a sz)
abbrev QdW (D : va_G) (N : Nat) (a : Nat → Nat) (w : Sg → va_W) (sz : Nat) (r : UInt64) (σ' : Sg) : Array Value → State → Outcome → State → Prop := va_Qd (fun (x : UInt64) (_ : Unit) => x = r) (fun _ t => va_P D vwCl (w σ') t.heap) (AX N a sz)
theorem pcw_blind {sz : Nat} {σ : Sg} {av : List Value} : FrameBlind (PcW D cI N a w sz σ av) := fun v U g mk q => ⟨q.1, q.2.1, q.2.2.1, gw_moved (u := U) (U := U.calling g mk v) (Vm.Alike.refl U.vm) q.2.2.2⟩
theorem ax_A {sz sz2 : Nat} {q : Nat} (hq : q < sz2) (h : AX N a sz2 q) : AX N a sz q := by
  rcases h with h | h
  · exact Or.inl h
  · omega
theorem ax_f {sz sz2 : Nat} (hz : sz ≤ sz2) {q : Nat} (h : AX N a sz2 q) : AX N a sz q := by
  rcases h with h | h
  · exact Or.inl h
  · exact Or.inr (by omega)
theorem ax_n {sz : Nat} : ∀ q, sz ≤ q → AX N a sz q := fun _ h => Or.inr h
end XW
section XR
variable {p : Program} {l : Launch} {e : Env} {R : Room} {s : State} {m : MethodId} {args : Array Value} {below : List Frame} {meth : Method} {c : Code} {H : Heap} {locs : List Loc} {cells slots : Nat} {Q : State → Prop}
variable {cc : ByteArray} {pc : Nat} {ls : Array Slot} {rest : List Value} {D : va_G} {cI : ClassId} {N : Nat} {a : Nat → Nat} {w : Sg → va_W} {σ : Sg}
/-- a body over a world, from its start -/
theorem x_of {y : MethodName} {ws ws' : List Cond} {rm : Room} {Qc : Array Value → State → Outcome → State → Prop} {mc ms : Nat} {free : Addr → Prop} {maxL : Nat} {ret : Option FieldType} {sz : Nat} {av : List Value} {C : String} (hC : y.cls = C)
    (hy : plainName y.cls = true) (hw : ws = Cond.code y cc maxL ret :: ws') (hn : (lg_sl av).length ≤ maxL)
    (body : ∀ (p : Program) (e : Env) (s : State) (m : MethodId) (below : List Frame) (meth : Method) (c : Code), p.tables.exec = Jvm.exec → c.code = cc → meth.sig.returnType = ret → c.maxLocals = maxL → meth.locks = false → (∀ wd ∈ ws, wd.before av.toArray s = true) → s.vm.findClass C = some m.cls → s.heap.size = sz → ∀ H : Heap, va_P D vwCl (w σ) H → va_S (AX N a sz) s.heap H [] → GW D cI N a w s → ∀ ls : Array Slot, lv_has ls maxL (lv_args 0 av) →
      W p l e (headSpec ws rm).room s m av.toArray below meth c H [] 0 0 (MQ below Qc av.toArray s mc ms free) (F0 m 0 ls [])) : Met l y ws rm (PcW D cI N a w sz σ av) Qc mc ms free := by
  refine Met.ofW (cc := cc) (maxL := maxL) (ret := ret) hy hw ?_
  intro p e s m args below meth c s₁ B hml hv
  obtain ⟨rfl, hsz, hP, hG⟩ := hv
  have hts := atoms_spec (ws := ws) B.pre
  have hown : s.vm.findClass C = some m.cls := hC ▸ findClass_of_methodNamed B.named
  have hl := lv_entry av (n := maxL) hn
  rw [lg_entry_eq]
  generalize (lg_sl av ++ List.replicate (maxL - (lg_sl av).length) Slot.unset).toArray = ls at hl ⊢
  exact body p e s m below meth c B.exec B.bytes B.returns hml B.notSynchronized hts hown hsz s.heap hP va_S.rf hG ls hl
/-- an array's element -/
theorem x_iald (hx : p.tables.exec = Jvm.exec) (hb : c.code = cc) (hG : GW D cI N a w s) (hP : va_P D vwCl (w σ) H) (k : Nat) {n : Nat} {f : Nat → Int32} (ha : (w σ)[k]? = some (a k, .inl (cI, n, .inl f))) {i : Int32} (hin : vp_in i n) (hdg : decode cc pc = .ok (.iaload, 1))
    (kk : W p l e R s m args below meth c H locs cells slots Q (F0 m (pc + 1) ls (.int (f i.toNatClampNeg) :: rest))) : W p l e R s m args below meth c H locs cells slots Q (F0 m pc ls (.int i :: .ref (a k) :: rest)) := va_iald hx hb hG.1 hP k 0 ha rfl hin hdg kk
theorem x_iast {sz : Nat} {H0 : Heap} (hx : p.tables.exec = Jvm.exec) (hb : c.code = cc) (hG : GW D cI N a w s) (hP : va_P D vwCl (w σ) H) (hS : va_S (AX N a sz) H0 H locs) (k : Nat) {n : Nat} (ha : (w σ)[k]? = some (a k, .inl (cI, n, .inl (σ k)))) {i x : Int32}
    (hst : (w σ).set k (a k, .inl (cI, n, .inl (upd (σ k) i.toNatClampNeg x))) = w (sx σ k i.toNatClampNeg x)) (hin : vp_in i n) (hdg : decode cc pc = .ok (.iastore, 1))
    (kk : ∀ (H1 : Heap) (locs1 : List Loc), va_P D vwCl (w (sx σ k i.toNatClampNeg x)) H1 → va_S (AX N a sz) H0 H1 locs1 → W p l e R s m args below meth c H1 locs1 cells slots Q (F0 m (pc + 1) ls rest)) : W p l e R s m args below meth c H locs cells slots Q (F0 m pc ls (.int x :: .int i :: .ref (a k) :: rest)) := by
  refine va_iast hx hb hG.1 hP (gw_D hG sz σ) hS k 0 ha rfl hin hdg (fun H1 locs1 h1 _ h3 => kk H1 locs1 ?_ h3)
  rw [← hst]
  exact h1
/-- an array moved by one place -/
theorem x_copy {sz : Nat} {H0 : Heap} (hx : p.tables.exec = Jvm.exec) (hb : c.code = cc) (hml : c.maxLocals = ls.size) {own : String} {index : Nat} (hown : s.vm.findClass own = some m.cls) (hlink : (Cond.methodLink own index arraycopyName).before args s = true) (hnat : (Cond.native arraycopyName).before args s = true) (hstat : (Cond.static arraycopyName).before args s = true) (hini : (Cond.initialized "java/lang/System").before args s = true)
    (hG : GW D cI N a w s) (hP : va_P D vwCl (w σ) H) (hS : va_S (AX N a sz) H0 H locs) (k : Nat) {n p1 nn : Nat} {f : Nat → Int32} (ha : (w σ)[k]? = some (a k, .inl (cI, n, .inl (σ k)))) (hf : σ k = f) (hst : (w σ).set k (a k, .inl (cI, n, .inl (va_cpy f f p1 (p1 + 1) (nn - p1)))) = w (sf σ k (va_cpy f f p1 (p1 + 1) (nn - p1)))) {sp dp ln : Int32} (h1 : sp = nI p1) (h2 : dp = nI (p1 + 1)) (h3 : ln = nI (nn - p1)) (h4 : p1 ≤ nn) (h5 : nn < n) (h6 : n < 2 ^ 31)
    (hframes : 1 ≤ R.frames) (hlocals : (rest.map fun v => v.category).sum + (nativeFrameWords "java/lang/System" "arraycopy" 5 + 11) ≤ R.locals) (hdg : decode cc pc = .ok (.invokestatic index, 3))
    (kk : ∀ (H1 : Heap) (locs1 : List Loc), va_P D vwCl (w (sf σ k (va_cpy f f p1 (p1 + 1) (nn - p1)))) H1 → va_S (AX N a sz) H0 H1 locs1 → W p l e R s m args below meth c H1 locs1 cells slots Q (F0 m (pc + 3) ls rest)) : W p l e R s m args below meth c H locs cells slots Q (F0 m pc ls (.int ln :: .int dp :: .ref (a k) :: .int sp :: .ref (a k) :: rest)) := by
  subst h1; subst h2; subst h3; subst hf
  have c1 : (nI p1).toNatClampNeg = p1 := nI_clamp (by omega)
  have c2 : (nI (p1 + 1)).toNatClampNeg = p1 + 1 := nI_clamp (by omega)
  have c3 : (nI (nn - p1)).toNatClampNeg = nn - p1 := nI_clamp (by omega)
  refine va_copyi hx hb hml hown hlink hnat hstat hini hG.1 hP (gw_D hG sz σ) hS k k 0 0 ha ha rfl rfl rfl (nI_pos (by omega)) (nI_pos (by omega)) (nI_pos (by omega)) (by rw [c1, c3]; omega) (by rw [c2, c3]; omega) (fun _ _ => rfl) hframes hlocals hdg (fun H1 locs1 h7 _ h8 => kk H1 locs1 ?_ h8)
  rw [← hst]
  rw [c1, c2, c3] at h7
  exact h7
/-- a field read -/
theorem x_get (hx : p.tables.exec = Jvm.exec) (hb : c.code = cc) {own ref C : String} {T : u_T} {M ci index : Nat} {Ts : List Cond} (hts : ∀ wd ∈ Ts, wd.before args s = true) (hin : ∀ wd ∈ u_ws C T M, wd ∈ Ts) (hown : s.vm.findClass own = some m.cls) (hG : GW D cI N a w s) (hP : va_P D vwCl (w σ) H) (q0 : Nat) {fs : List Value} (he : (w σ)[q0]? = some (a q0, .inr (ci, fs))) (hc : vwCl[ci]? = some (C, T, M)) (k : Nat) (hk : k < M) (hlink : Cond.fieldLink own index ref (T k).2.1 (T k).2.2.1 ∈ Ts) (hsame : (T k).1 = ref) {v : Value} (hv : fs[k]? = some v) (hdg : decode cc pc = .ok (.getfield index, 3))
    (kk : W p l e R s m args below meth c H locs cells slots Q (F0 m (pc + 3) ls (v :: rest))) : W p l e R s m args below meth c H locs cells slots Q (F0 m pc ls (.ref (a q0) :: rest)) :=
  va_get hx hb hts hin hown hG.1 hP q0 he hc k hk (hts _ hlink) (fun x h9 => by rw [hsame] at h9; exact h9) hv hdg kk
theorem x_put {sz : Nat} {H0 : Heap} (hx : p.tables.exec = Jvm.exec) (hb : c.code = cc) {own ref C : String} {T : u_T} {M ci index : Nat} {Ts : List Cond} (hts : ∀ wd ∈ Ts, wd.before args s = true) (hin : ∀ wd ∈ u_ws C T M, wd ∈ Ts) (ty0 : Nat → FieldType) (hty : ∀ k, k < M → parseFieldDescriptor (T k).2.2.1 = some (ty0 k)) (hnm : ∀ a, a < M → ∀ b, b < M → a ≠ b → (T a).2.1 ≠ (T b).2.1) (hown : s.vm.findClass own = some m.cls) (hG : GW D cI N a w s) (hP : va_P D vwCl (w σ) H) (hS : va_S (AX N a sz) H0 H locs) (q0 : Nat) {fs : List Value} (he : (w σ)[q0]? = some (a q0, .inr (ci, fs))) (hc : vwCl[ci]? = some (C, T, M)) (k : Nat) (hk : k < M) (hlink : Cond.fieldLink own index ref (T k).2.1 (T k).2.2.1 ∈ Ts) (hsame : (T k).1 = ref) (hfin : (T k).2.2.2 = false) {x : Int32} (hd : parseFieldDescriptor (T k).2.2.1 = some .int) (hl : k < fs.length)
    (hst : (w σ).set q0 (a q0, .inr (ci, fs.set k (.int x))) = w (sx σ q0 k x)) (hdg : decode cc pc = .ok (.putfield index, 3))
    (kk : ∀ (H1 : Heap) (locs1 : List Loc), va_P D vwCl (w (sx σ q0 k x)) H1 → va_S (AX N a sz) H0 H1 locs1 → W p l e R s m args below meth c H1 locs1 cells slots Q (F0 m (pc + 3) ls rest)) : W p l e R s m args below meth c H locs cells slots Q (F0 m pc ls (.int x :: .ref (a q0) :: rest)) := by
  refine va_put hx hb hts hin ty0 hty hnm hown hG.1 hP (gw_D hG sz σ) hS q0 he hc k hk (hts _ hlink) (fun x h9 => by rw [hsame] at h9; exact h9) hfin hd rfl rfl hl hdg (fun H1 locs1 h1 _ h3 => kk H1 locs1 ?_ h3)
  rw [← hst]
  exact h1
/-- ends -/
theorem x_iret {sz : Nat} {v r : Int32} {σ' : Sg} {ty : FieldType} (hx : p.tables.exec = Jvm.exec) (hb : c.code = cc) (hr : meth.sig.returnType = some ty) (hlk : meth.locks = false) (hsz : s.heap.size = sz) (hP : va_P D vwCl (w σ) H) (hS : va_S (AX N a sz) s.heap H locs) (hn : narrow ty (.int v) = .int v) (hv : r = v) (hσ : σ' = σ) (hdg : decode cc pc = .ok (.ireturn, 1)) : W p l e R s m args below meth c H locs cells slots (MQ below (QiW D N a w sz r σ') args s cells slots (AX N a sz)) (F0 m pc ls [.int v]) := by
  subst hv; subst hσ
  exact W.zret (ty := ty) hx hb hr hn (fun t ht hW => ⟨⟨r, (), rfl, rfl, by dsimp only; rw [ht]; exact hP⟩, hS.F ht⟩) hS.2.2 hdg hlk
theorem x_vret {sz : Nat} {σ' : Sg} (hx : p.tables.exec = Jvm.exec) (hb : c.code = cc) (hr : meth.sig.returnType = none) (hlk : meth.locks = false) (hsz : s.heap.size = sz) (hP : va_P D vwCl (w σ) H) (hS : va_S (AX N a sz) s.heap H locs) (hσ : σ' = σ) (hdg : decode cc pc = .ok (.return_, 1)) : W p l e R s m args below meth c H locs cells slots (MQ below (QvW D N a w sz σ') args s cells slots (AX N a sz)) (F0 m pc ls []) := by
  subst hσ
  exact W.vret hx hb hr (fun t ht hW => ⟨⟨(), rfl, trivial, by dsimp only; rw [ht]; exact hP⟩, hS.F ht⟩) hS.2.2 hdg hlk
theorem x_dret {sz : Nat} {v r : UInt64} {σ' : Sg} (hx : p.tables.exec = Jvm.exec) (hb : c.code = cc) (hr : meth.sig.returnType = some .double) (hlk : meth.locks = false) (hsz : s.heap.size = sz) (hP : va_P D vwCl (w σ) H) (hS : va_S (AX N a sz) s.heap H locs) (hv : r = v) (hσ : σ' = σ) (hdg : decode cc pc = .ok (.dreturn, 1)) : W p l e R s m args below meth c H locs cells slots (MQ below (QdW D N a w sz r σ') args s cells slots (AX N a sz)) (F0 m pc ls [.double v]) := by
  subst hv; subst hσ
  exact W.dret hx hb hr (fun t ht hW => ⟨⟨r, (), rfl, rfl, by dsimp only; rw [ht]; exact hP⟩, hS.F ht⟩) hS.2.2 hdg hlk
/-- calls of methods over the same world -/
theorem x_callVi {y : MethodName} {bytes : ByteArray} {maxL nL n index sz ci q0 : Nat} {ret : Option FieldType} {ws Ts : List Cond} {rm : Room} {own C : String} {As : List Value} {st0 : List Value} {r : Int32} {σ' : Sg} {fs : List Value} {q : vw_C} (S : CallFix p m c cc nL s args Ts own) (hG : GW D cI N a w s) (hP : va_P D vwCl (w σ) H) (hS : va_S (AX N a sz) s.heap H locs) (hz : s.heap.size = sz)
    (hM : Met l y ws rm (PcW D cI N a w H.size σ (.ref (a q0) :: As)) (QiW D N a w H.size r σ') 0 0 (AX N a H.size)) (cw : CallW R s args own C index y bytes maxL ret ws rm 0 0 n) (he : (w σ)[q0]? = some (a q0, .inr (ci, fs))) (hc : vwCl[ci]? = some q) (hq : q.1 = C)
    (hn : As.length = n) (hl : ls.size = nL) (hst : st0 = As.reverse ++ .ref (a q0) :: rest) (hW : (rest.map fun v => v.category).sum ≤ 8) (hR : cells ≤ R.cells ∧ slots ≤ R.slots) (hdg : decode cc pc = .ok (.invokevirtual index, 3))
    (kk : ∀ (H1 : Heap) (locs1 : List Loc), va_P D vwCl (w σ') H1 → va_S (AX N a sz) s.heap H1 locs1 → W p l e R s m args below meth c H1 locs1 cells slots Q (F0 m (pc + 3) ls (.int r :: rest))) : W p l e R s m args below meth c H locs cells slots Q (F0 m pc ls st0) := by
  subst hst; subst hq; subst hz
  refine va_calli (va_runV (As := As) (rest := rest) S hM cw ⟨pcw_blind, va_recv hG.1 hP hc he, fun U hU hW => ⟨rfl, by rw [hU], by rw [hU]; exact hP, gw_moved hW.alike hG⟩⟩ rfl hn hl rfl (lv_room hW) hdg hR) hS (fun q h1 h2 => ax_A h1 h2) (fun q h => ax_f hS.1 h) (fun r1 u t H1 locs1 ht hvm hw hB hz1 hk1 hS => ?_)
  rw [ht] at hB
  subst hw
  exact kk H1 locs1 hB hS
theorem x_callVv {y : MethodName} {bytes : ByteArray} {maxL nL n index sz ci q0 : Nat} {ret : Option FieldType} {ws Ts : List Cond} {rm : Room} {own C : String} {As : List Value} {st0 : List Value} {σ' : Sg} {fs : List Value} {q : vw_C} (S : CallFix p m c cc nL s args Ts own) (hG : GW D cI N a w s) (hP : va_P D vwCl (w σ) H) (hS : va_S (AX N a sz) s.heap H locs) (hz : s.heap.size = sz)
    (hM : Met l y ws rm (PcW D cI N a w H.size σ (.ref (a q0) :: As)) (QvW D N a w H.size σ') 0 0 (AX N a H.size)) (cw : CallW R s args own C index y bytes maxL ret ws rm 0 0 n) (he : (w σ)[q0]? = some (a q0, .inr (ci, fs))) (hc : vwCl[ci]? = some q) (hq : q.1 = C)
    (hn : As.length = n) (hl : ls.size = nL) (hst : st0 = As.reverse ++ .ref (a q0) :: rest) (hW : (rest.map fun v => v.category).sum ≤ 8) (hR : cells ≤ R.cells ∧ slots ≤ R.slots) (hdg : decode cc pc = .ok (.invokevirtual index, 3))
    (kk : ∀ (H1 : Heap) (locs1 : List Loc), va_P D vwCl (w σ') H1 → va_S (AX N a sz) s.heap H1 locs1 → W p l e R s m args below meth c H1 locs1 cells slots Q (F0 m (pc + 3) ls rest)) : W p l e R s m args below meth c H locs cells slots Q (F0 m pc ls st0) := by
  subst hst; subst hq; subst hz
  refine va_callv (va_runV (As := As) (rest := rest) S hM cw ⟨pcw_blind, va_recv hG.1 hP hc he, fun U hU hW => ⟨rfl, by rw [hU], by rw [hU]; exact hP, gw_moved hW.alike hG⟩⟩ rfl hn hl rfl (lv_room hW) hdg hR) hS (fun q h1 h2 => ax_A h1 h2) (fun q h => ax_f hS.1 h) (fun u t H1 locs1 ht hvm hw hB hz1 hk1 hS => ?_)
  rw [ht] at hB
  exact kk H1 locs1 hB hS
theorem x_callVd {y : MethodName} {bytes : ByteArray} {maxL nL n index sz ci q0 : Nat} {ret : Option FieldType} {ws Ts : List Cond} {rm : Room} {own C : String} {As : List Value} {st0 : List Value} {r : UInt64} {σ' : Sg} {fs : List Value} {q : vw_C} (S : CallFix p m c cc nL s args Ts own) (hG : GW D cI N a w s) (hP : va_P D vwCl (w σ) H) (hS : va_S (AX N a sz) s.heap H locs) (hz : s.heap.size = sz)
    (hM : Met l y ws rm (PcW D cI N a w H.size σ (.ref (a q0) :: As)) (QdW D N a w H.size r σ') 0 0 (AX N a H.size)) (cw : CallW R s args own C index y bytes maxL ret ws rm 0 0 n) (he : (w σ)[q0]? = some (a q0, .inr (ci, fs))) (hc : vwCl[ci]? = some q) (hq : q.1 = C)
    (hn : As.length = n) (hl : ls.size = nL) (hst : st0 = As.reverse ++ .ref (a q0) :: rest) (hW : (rest.map fun v => v.category).sum ≤ 8) (hR : cells ≤ R.cells ∧ slots ≤ R.slots) (hdg : decode cc pc = .ok (.invokevirtual index, 3))
    (kk : ∀ (H1 : Heap) (locs1 : List Loc), va_P D vwCl (w σ') H1 → va_S (AX N a sz) s.heap H1 locs1 → W p l e R s m args below meth c H1 locs1 cells slots Q (F0 m (pc + 3) ls (.double r :: rest))) : W p l e R s m args below meth c H locs cells slots Q (F0 m pc ls st0) := by
  subst hst; subst hq; subst hz
  refine va_calld (va_runV (As := As) (rest := rest) S hM cw ⟨pcw_blind, va_recv hG.1 hP hc he, fun U hU hW => ⟨rfl, by rw [hU], by rw [hU]; exact hP, gw_moved hW.alike hG⟩⟩ rfl hn hl rfl (lv_room hW) hdg hR) hS (fun q h1 h2 => ax_A h1 h2) (fun q h => ax_f hS.1 h) (fun r1 u t H1 locs1 ht hvm hw hB hz1 hk1 hS => ?_)
  rw [ht] at hB
  subst hw
  exact kk H1 locs1 hB hS
/-- static calls over the same world -/
theorem x_callSi {y : MethodName} {bytes : ByteArray} {maxL nL n index sz : Nat} {ret : Option FieldType} {ws Ts : List Cond} {rm : Room} {own : String} {As : List Value} {st0 : List Value} {r : Int32} {σ' : Sg} (S : CallFix p m c cc nL s args Ts own) (hG : GW D cI N a w s) (hP : va_P D vwCl (w σ) H) (hS : va_S (AX N a sz) s.heap H locs) (hz : s.heap.size = sz)
    (hM : Met l y ws rm (PcW D cI N a w H.size σ As) (QiW D N a w H.size r σ') 0 0 (AX N a H.size)) (cw : CallB R s args own index y bytes maxL ret ws rm 0 0 n ∧ (Cond.static y).before args s = true)
    (hn : As.length = n) (hl : ls.size = nL) (hst : st0 = As.reverse ++ rest) (hW : (rest.map fun v => v.category).sum ≤ 8) (hR : cells ≤ R.cells ∧ slots ≤ R.slots) (hdg : decode cc pc = .ok (.invokestatic index, 3))
    (kk : ∀ (H1 : Heap) (locs1 : List Loc), va_P D vwCl (w σ') H1 → va_S (AX N a sz) s.heap H1 locs1 → W p l e R s m args below meth c H1 locs1 cells slots Q (F0 m (pc + 3) ls (.int r :: rest))) : W p l e R s m args below meth c H locs cells slots Q (F0 m pc ls st0) := by
  subst hst; subst hz
  refine va_calli (va_runS (As := As) (rest := rest) S hM cw ⟨pcw_blind, fun U hU hW => ⟨rfl, by rw [hU], by rw [hU]; exact hP, gw_moved hW.alike hG⟩⟩ rfl hn hl rfl (lv_room hW) hdg hR) hS (fun q h1 h2 => ax_A h1 h2) (fun q h => ax_f hS.1 h) (fun r1 u t H1 locs1 ht hvm hw hB hz1 hk1 hS => ?_)
  rw [ht] at hB
  subst hw
  exact kk H1 locs1 hB hS
theorem x_callSd {y : MethodName} {bytes : ByteArray} {maxL nL n index sz : Nat} {ret : Option FieldType} {ws Ts : List Cond} {rm : Room} {own : String} {As : List Value} {st0 : List Value} {r : UInt64} {σ' : Sg} (S : CallFix p m c cc nL s args Ts own) (hG : GW D cI N a w s) (hP : va_P D vwCl (w σ) H) (hS : va_S (AX N a sz) s.heap H locs) (hz : s.heap.size = sz)
    (hM : Met l y ws rm (PcW D cI N a w H.size σ As) (QdW D N a w H.size r σ') 0 0 (AX N a H.size)) (cw : CallB R s args own index y bytes maxL ret ws rm 0 0 n ∧ (Cond.static y).before args s = true)
    (hn : As.length = n) (hl : ls.size = nL) (hst : st0 = As.reverse ++ rest) (hW : (rest.map fun v => v.category).sum ≤ 8) (hR : cells ≤ R.cells ∧ slots ≤ R.slots) (hdg : decode cc pc = .ok (.invokestatic index, 3))
    (kk : ∀ (H1 : Heap) (locs1 : List Loc), va_P D vwCl (w σ') H1 → va_S (AX N a sz) s.heap H1 locs1 → W p l e R s m args below meth c H1 locs1 cells slots Q (F0 m (pc + 3) ls (.double r :: rest))) : W p l e R s m args below meth c H locs cells slots Q (F0 m pc ls st0) := by
  subst hst; subst hz
  refine va_calld (va_runS (As := As) (rest := rest) S hM cw ⟨pcw_blind, fun U hU hW => ⟨rfl, by rw [hU], by rw [hU]; exact hP, gw_moved hW.alike hG⟩⟩ rfl hn hl rfl (lv_room hW) hdg hR) hS (fun q h1 h2 => ax_A h1 h2) (fun q h => ax_f hS.1 h) (fun r1 u t H1 locs1 ht hvm hw hB hz1 hk1 hS => ?_)
  rw [ht] at hB
  subst hw
  exact kk H1 locs1 hB hS
theorem x_callSv {y : MethodName} {bytes : ByteArray} {maxL nL n index sz : Nat} {ret : Option FieldType} {ws Ts : List Cond} {rm : Room} {own : String} {As : List Value} {st0 : List Value} {σ' : Sg} (S : CallFix p m c cc nL s args Ts own) (hG : GW D cI N a w s) (hP : va_P D vwCl (w σ) H) (hS : va_S (AX N a sz) s.heap H locs) (hz : s.heap.size = sz)
    (hM : Met l y ws rm (PcW D cI N a w H.size σ As) (QvW D N a w H.size σ') 0 0 (AX N a H.size)) (cw : CallB R s args own index y bytes maxL ret ws rm 0 0 n ∧ (Cond.static y).before args s = true)
    (hn : As.length = n) (hl : ls.size = nL) (hst : st0 = As.reverse ++ rest) (hW : (rest.map fun v => v.category).sum ≤ 8) (hR : cells ≤ R.cells ∧ slots ≤ R.slots) (hdg : decode cc pc = .ok (.invokestatic index, 3))
    (kk : ∀ (H1 : Heap) (locs1 : List Loc), va_P D vwCl (w σ') H1 → va_S (AX N a sz) s.heap H1 locs1 → W p l e R s m args below meth c H1 locs1 cells slots Q (F0 m (pc + 3) ls rest)) : W p l e R s m args below meth c H locs cells slots Q (F0 m pc ls st0) := by
  subst hst; subst hz
  refine va_callv (va_runS (As := As) (rest := rest) S hM cw ⟨pcw_blind, fun U hU hW => ⟨rfl, by rw [hU], by rw [hU]; exact hP, gw_moved hW.alike hG⟩⟩ rfl hn hl rfl (lv_room hW) hdg hR) hS (fun q h1 h2 => ax_A h1 h2) (fun q h => ax_f hS.1 h) (fun u t H1 locs1 ht hvm hw hB hz1 hk1 hS => ?_)
  rw [ht] at hB
  exact kk H1 locs1 hB hS
/-- switches -/
theorem x_swin (hx : p.tables.exec = Jvm.exec) (hb : c.code = cc) {dflt lo hi : Int} {offs : Array Int} {len : Nat} {x k : Int32} {off : Int} {tgt : Nat} (h : x = k) (hdg : decode cc pc = .ok (.tableswitch dflt lo hi offs, len)) (h1 : ¬ k.toInt < lo) (h2 : ¬ hi < k.toInt) (ho : offs[(k.toInt - lo).toNat]? = some off) (ht : (pc : Int) + off = (tgt : Int))
    (kk : W p l e R s m args below meth c H locs cells slots Q (F0 m tgt ls rest)) : W p l e R s m args below meth c H locs cells slots Q (F0 m pc ls (.int x :: rest)) := by
  subst h
  exact lv_tableIn hx hb hdg h1 h2 ho ht kk
end XR
theorem sw_ne {x k : Int32} {z : Int} (h : ¬ x = k) (hz : k.toInt = z) : x.toInt ≠ z := fun e => h (Int32.toInt_inj.mp (e.trans hz.symm))
theorem nb01 {v : Int32} (h : v = 0 ∨ v = 1) : narrow .boolean (.int v) = .int v := by
  rcases h with rfl | rfl <;> rfl
/-- stores: the world behind them -/
theorem wX_st6 (cI : ClassId) (a : Nat → Nat) (σ : Sg) (i : Nat) (x : Int32) : (wX cI a σ).set 6 (a 6, .inl (cI, 300, .inl (upd (σ 6) i x))) = wX cI a (sx σ 6 i x) := rfl
theorem wX_sf6 (cI : ClassId) (a : Nat → Nat) (σ : Sg) (f : Nat → Int32) : (wX cI a σ).set 6 (a 6, .inl (cI, 300, .inl f)) = wX cI a (sf σ 6 f) := rfl
theorem wX_st7 (cI : ClassId) (a : Nat → Nat) (σ : Sg) (i : Nat) (x : Int32) : (wX cI a σ).set 7 (a 7, .inl (cI, 300, .inl (upd (σ 7) i x))) = wX cI a (sx σ 7 i x) := rfl
theorem wX_sf7 (cI : ClassId) (a : Nat → Nat) (σ : Sg) (f : Nat → Int32) : (wX cI a σ).set 7 (a 7, .inl (cI, 300, .inl f)) = wX cI a (sf σ 7 f) := rfl
theorem wX_st8 (cI : ClassId) (a : Nat → Nat) (σ : Sg) (i : Nat) (x : Int32) : (wX cI a σ).set 8 (a 8, .inl (cI, 300, .inl (upd (σ 8) i x))) = wX cI a (sx σ 8 i x) := rfl
theorem wX_sf8 (cI : ClassId) (a : Nat → Nat) (σ : Sg) (f : Nat → Int32) : (wX cI a σ).set 8 (a 8, .inl (cI, 300, .inl f)) = wX cI a (sf σ 8 f) := rfl
theorem wX_st9 (cI : ClassId) (a : Nat → Nat) (σ : Sg) (i : Nat) (x : Int32) : (wX cI a σ).set 9 (a 9, .inl (cI, 300, .inl (upd (σ 9) i x))) = wX cI a (sx σ 9 i x) := rfl
theorem wX_sf9 (cI : ClassId) (a : Nat → Nat) (σ : Sg) (f : Nat → Int32) : (wX cI a σ).set 9 (a 9, .inl (cI, 300, .inl f)) = wX cI a (sf σ 9 f) := rfl
theorem wX_st10 (cI : ClassId) (a : Nat → Nat) (σ : Sg) (i : Nat) (x : Int32) : (wX cI a σ).set 10 (a 10, .inl (cI, 8, .inl (upd (σ 10) i x))) = wX cI a (sx σ 10 i x) := rfl
theorem wX_sf10 (cI : ClassId) (a : Nat → Nat) (σ : Sg) (f : Nat → Int32) : (wX cI a σ).set 10 (a 10, .inl (cI, 8, .inl f)) = wX cI a (sf σ 10 f) := rfl
theorem wX_st11 (cI : ClassId) (a : Nat → Nat) (σ : Sg) (i : Nat) (x : Int32) : (wX cI a σ).set 11 (a 11, .inl (cI, 8, .inl (upd (σ 11) i x))) = wX cI a (sx σ 11 i x) := rfl
theorem wX_sf11 (cI : ClassId) (a : Nat → Nat) (σ : Sg) (f : Nat → Int32) : (wX cI a σ).set 11 (a 11, .inl (cI, 8, .inl f)) = wX cI a (sf σ 11 f) := rfl
theorem wX_st12 (cI : ClassId) (a : Nat → Nat) (σ : Sg) (i : Nat) (x : Int32) : (wX cI a σ).set 12 (a 12, .inl (cI, 8, .inl (upd (σ 12) i x))) = wX cI a (sx σ 12 i x) := rfl
theorem wX_sf12 (cI : ClassId) (a : Nat → Nat) (σ : Sg) (f : Nat → Int32) : (wX cI a σ).set 12 (a 12, .inl (cI, 8, .inl f)) = wX cI a (sf σ 12 f) := rfl
theorem wX_st13 (cI : ClassId) (a : Nat → Nat) (σ : Sg) (i : Nat) (x : Int32) : (wX cI a σ).set 13 (a 13, .inl (cI, 8, .inl (upd (σ 13) i x))) = wX cI a (sx σ 13 i x) := rfl
theorem wX_sf13 (cI : ClassId) (a : Nat → Nat) (σ : Sg) (f : Nat → Int32) : (wX cI a σ).set 13 (a 13, .inl (cI, 8, .inl f)) = wX cI a (sf σ 13 f) := rfl
theorem wX_st14 (cI : ClassId) (a : Nat → Nat) (σ : Sg) (i : Nat) (x : Int32) : (wX cI a σ).set 14 (a 14, .inl (cI, 8, .inl (upd (σ 14) i x))) = wX cI a (sx σ 14 i x) := rfl
theorem wX_sf14 (cI : ClassId) (a : Nat → Nat) (σ : Sg) (f : Nat → Int32) : (wX cI a σ).set 14 (a 14, .inl (cI, 8, .inl f)) = wX cI a (sf σ 14 f) := rfl
theorem wX_st15 (cI : ClassId) (a : Nat → Nat) (σ : Sg) (i : Nat) (x : Int32) : (wX cI a σ).set 15 (a 15, .inl (cI, 8, .inl (upd (σ 15) i x))) = wX cI a (sx σ 15 i x) := rfl
theorem wX_sf15 (cI : ClassId) (a : Nat → Nat) (σ : Sg) (f : Nat → Int32) : (wX cI a σ).set 15 (a 15, .inl (cI, 8, .inl f)) = wX cI a (sf σ 15 f) := rfl
theorem wX_st16 (cI : ClassId) (a : Nat → Nat) (σ : Sg) (i : Nat) (x : Int32) : (wX cI a σ).set 16 (a 16, .inl (cI, 30, .inl (upd (σ 16) i x))) = wX cI a (sx σ 16 i x) := rfl
theorem wX_sf16 (cI : ClassId) (a : Nat → Nat) (σ : Sg) (f : Nat → Int32) : (wX cI a σ).set 16 (a 16, .inl (cI, 30, .inl f)) = wX cI a (sf σ 16 f) := rfl
theorem wX_st17 (cI : ClassId) (a : Nat → Nat) (σ : Sg) (i : Nat) (x : Int32) : (wX cI a σ).set 17 (a 17, .inl (cI, 30, .inl (upd (σ 17) i x))) = wX cI a (sx σ 17 i x) := rfl
theorem wX_sf17 (cI : ClassId) (a : Nat → Nat) (σ : Sg) (f : Nat → Int32) : (wX cI a σ).set 17 (a 17, .inl (cI, 30, .inl f)) = wX cI a (sf σ 17 f) := rfl
theorem wX_st18 (cI : ClassId) (a : Nat → Nat) (σ : Sg) (i : Nat) (x : Int32) : (wX cI a σ).set 18 (a 18, .inl (cI, 30, .inl (upd (σ 18) i x))) = wX cI a (sx σ 18 i x) := rfl
theorem wX_sf18 (cI : ClassId) (a : Nat → Nat) (σ : Sg) (f : Nat → Int32) : (wX cI a σ).set 18 (a 18, .inl (cI, 30, .inl f)) = wX cI a (sf σ 18 f) := rfl
theorem wX_st19 (cI : ClassId) (a : Nat → Nat) (σ : Sg) (i : Nat) (x : Int32) : (wX cI a σ).set 19 (a 19, .inl (cI, 30, .inl (upd (σ 19) i x))) = wX cI a (sx σ 19 i x) := rfl
theorem wX_sf19 (cI : ClassId) (a : Nat → Nat) (σ : Sg) (f : Nat → Int32) : (wX cI a σ).set 19 (a 19, .inl (cI, 30, .inl f)) = wX cI a (sf σ 19 f) := rfl
theorem wX_st20 (cI : ClassId) (a : Nat → Nat) (σ : Sg) (i : Nat) (x : Int32) : (wX cI a σ).set 20 (a 20, .inl (cI, 30, .inl (upd (σ 20) i x))) = wX cI a (sx σ 20 i x) := rfl
theorem wX_sf20 (cI : ClassId) (a : Nat → Nat) (σ : Sg) (f : Nat → Int32) : (wX cI a σ).set 20 (a 20, .inl (cI, 30, .inl f)) = wX cI a (sf σ 20 f) := rfl
theorem wX_st21 (cI : ClassId) (a : Nat → Nat) (σ : Sg) (i : Nat) (x : Int32) : (wX cI a σ).set 21 (a 21, .inl (cI, 30, .inl (upd (σ 21) i x))) = wX cI a (sx σ 21 i x) := rfl
theorem wX_sf21 (cI : ClassId) (a : Nat → Nat) (σ : Sg) (f : Nat → Int32) : (wX cI a σ).set 21 (a 21, .inl (cI, 30, .inl f)) = wX cI a (sf σ 21 f) := rfl
theorem wX_st22 (cI : ClassId) (a : Nat → Nat) (σ : Sg) (i : Nat) (x : Int32) : (wX cI a σ).set 22 (a 22, .inl (cI, 30, .inl (upd (σ 22) i x))) = wX cI a (sx σ 22 i x) := rfl
theorem wX_sf22 (cI : ClassId) (a : Nat → Nat) (σ : Sg) (f : Nat → Int32) : (wX cI a σ).set 22 (a 22, .inl (cI, 30, .inl f)) = wX cI a (sf σ 22 f) := rfl
theorem wX_st23 (cI : ClassId) (a : Nat → Nat) (σ : Sg) (i : Nat) (x : Int32) : (wX cI a σ).set 23 (a 23, .inl (cI, 10, .inl (upd (σ 23) i x))) = wX cI a (sx σ 23 i x) := rfl
theorem wX_sf23 (cI : ClassId) (a : Nat → Nat) (σ : Sg) (f : Nat → Int32) : (wX cI a σ).set 23 (a 23, .inl (cI, 10, .inl f)) = wX cI a (sf σ 23 f) := rfl
theorem wX_st24 (cI : ClassId) (a : Nat → Nat) (σ : Sg) (i : Nat) (x : Int32) : (wX cI a σ).set 24 (a 24, .inl (cI, 10, .inl (upd (σ 24) i x))) = wX cI a (sx σ 24 i x) := rfl
theorem wX_sf24 (cI : ClassId) (a : Nat → Nat) (σ : Sg) (f : Nat → Int32) : (wX cI a σ).set 24 (a 24, .inl (cI, 10, .inl f)) = wX cI a (sf σ 24 f) := rfl
theorem wX_st25 (cI : ClassId) (a : Nat → Nat) (σ : Sg) (i : Nat) (x : Int32) : (wX cI a σ).set 25 (a 25, .inl (cI, 10, .inl (upd (σ 25) i x))) = wX cI a (sx σ 25 i x) := rfl
theorem wX_sf25 (cI : ClassId) (a : Nat → Nat) (σ : Sg) (f : Nat → Int32) : (wX cI a σ).set 25 (a 25, .inl (cI, 10, .inl f)) = wX cI a (sf σ 25 f) := rfl
theorem wX_st26 (cI : ClassId) (a : Nat → Nat) (σ : Sg) (i : Nat) (x : Int32) : (wX cI a σ).set 26 (a 26, .inl (cI, 10, .inl (upd (σ 26) i x))) = wX cI a (sx σ 26 i x) := rfl
theorem wX_sf26 (cI : ClassId) (a : Nat → Nat) (σ : Sg) (f : Nat → Int32) : (wX cI a σ).set 26 (a 26, .inl (cI, 10, .inl f)) = wX cI a (sf σ 26 f) := rfl
theorem wX_st27 (cI : ClassId) (a : Nat → Nat) (σ : Sg) (i : Nat) (x : Int32) : (wX cI a σ).set 27 (a 27, .inl (cI, 10, .inl (upd (σ 27) i x))) = wX cI a (sx σ 27 i x) := rfl
theorem wX_sf27 (cI : ClassId) (a : Nat → Nat) (σ : Sg) (f : Nat → Int32) : (wX cI a σ).set 27 (a 27, .inl (cI, 10, .inl f)) = wX cI a (sf σ 27 f) := rfl
theorem wX_st28 (cI : ClassId) (a : Nat → Nat) (σ : Sg) (i : Nat) (x : Int32) : (wX cI a σ).set 28 (a 28, .inl (cI, 10, .inl (upd (σ 28) i x))) = wX cI a (sx σ 28 i x) := rfl
theorem wX_sf28 (cI : ClassId) (a : Nat → Nat) (σ : Sg) (f : Nat → Int32) : (wX cI a σ).set 28 (a 28, .inl (cI, 10, .inl f)) = wX cI a (sf σ 28 f) := rfl
theorem wX_pt0_5 (cI : ClassId) (a : Nat → Nat) (σ : Sg) (x : Int32) : (wX cI a σ).set 0 (a 0, .inr (5, ([.ref (a 1), .ref (a 2), .ref (a 3), .ref (a 4), .ref (a 5), .int (σ 0 5), .int (σ 0 6), .int (σ 0 7), .int (σ 0 8)] : List Value).set 5 (.int x))) = wX cI a (sx σ 0 5 x) := rfl
theorem wX_pt0_6 (cI : ClassId) (a : Nat → Nat) (σ : Sg) (x : Int32) : (wX cI a σ).set 0 (a 0, .inr (5, ([.ref (a 1), .ref (a 2), .ref (a 3), .ref (a 4), .ref (a 5), .int (σ 0 5), .int (σ 0 6), .int (σ 0 7), .int (σ 0 8)] : List Value).set 6 (.int x))) = wX cI a (sx σ 0 6 x) := rfl
theorem wX_pt0_7 (cI : ClassId) (a : Nat → Nat) (σ : Sg) (x : Int32) : (wX cI a σ).set 0 (a 0, .inr (5, ([.ref (a 1), .ref (a 2), .ref (a 3), .ref (a 4), .ref (a 5), .int (σ 0 5), .int (σ 0 6), .int (σ 0 7), .int (σ 0 8)] : List Value).set 7 (.int x))) = wX cI a (sx σ 0 7 x) := rfl
theorem wX_pt0_8 (cI : ClassId) (a : Nat → Nat) (σ : Sg) (x : Int32) : (wX cI a σ).set 0 (a 0, .inr (5, ([.ref (a 1), .ref (a 2), .ref (a 3), .ref (a 4), .ref (a 5), .int (σ 0 5), .int (σ 0 6), .int (σ 0 7), .int (σ 0 8)] : List Value).set 8 (.int x))) = wX cI a (sx σ 0 8 x) := rfl
theorem wX_pt1_4 (cI : ClassId) (a : Nat → Nat) (σ : Sg) (x : Int32) : (wX cI a σ).set 1 (a 1, .inr (4, ([.ref (a 6), .ref (a 7), .ref (a 8), .ref (a 9), .int (σ 1 4)] : List Value).set 4 (.int x))) = wX cI a (sx σ 1 4 x) := rfl
theorem wX_pt3_3 (cI : ClassId) (a : Nat → Nat) (σ : Sg) (x : Int32) : (wX cI a σ).set 3 (a 3, .inr (3, ([.ref (a 13), .ref (a 14), .ref (a 15), .int (σ 3 3)] : List Value).set 3 (.int x))) = wX cI a (sx σ 3 3 x) := rfl
/-- a loop's steps, from the first on -/
def itn {α : Type} (f : Nat → α → α) : Nat → α → α
  | 0, x => x
  | n + 1, x => f n (itn f n x)
theorem itn0 {α : Type} (f : Nat → α → α) (x : α) : x = itn f 0 x := rfl
