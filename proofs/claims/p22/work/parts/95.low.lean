-- low and cell
def lw (v n : Int32) : Int32 := (v &&& 2147483647) - (v &&& 2147483647) / n * n
theorem lw_in (v : Int32) {N : Nat} (h0 : 0 < N) (hN : N < 2 ^ 31) : vp_in (lw v (nI N)) N := by
  obtain ⟨j, hj, e⟩ := pk_andE v (m := 2147483647) 31 (by decide)
  unfold lw
  rw [e, pk_rem hj h0 hN]
  exact vp_in_nI (Nat.mod_lt _ h0) hN
set_option maxRecDepth 100000 in
theorem c_L_low (l : Launch) (D : va_G) (cI : ClassId) (a : Nat → Nat) (sz : Nat) (σ : Sg) (v n : Int32) (hn : ¬ n = 0) : Met l yL_low wsL_low ({ frames := 0, cells := 0, slots := 0, locals := 0 }) (PcW D cI 29 a (wX cI a) sz σ [.int v, .int n]) (QiW D 29 a (wX cI a) sz (lw v n) σ) 0 0 (AX 29 a sz) := by
  refine x_of (cc := cL_low) (maxL := 2) (ret := some .int) (C := RL) rfl (by decide) rfl (Nat.le_of_ble_eq_true rfl) (fun p e s m below meth c hx hb hr hml hlk hts hown hsz H hP hS hG ls hl => ?_)
  have hl : lv_has ls 2 [(0, .int v), (1, .int n)] := hl
  refine lv_iload_n hx hb dL_low_0 rfl (lv_at hl 0 rfl) ?_
  refine lv_ldc (v := 2147483647) hx hb hown (hts _ (List.mem_of_getElem? (i := 1) rfl)) dL_low_1 ?_
  refine lv_iand hx hb dL_low_3 ?_
  refine lv_iload_n hx hb dL_low_4 rfl (lv_at hl 1 rfl) ?_
  refine lv_irem hx hb dL_low_5 hn ?_
  exact x_iret hx hb hr hlk hsz hP hS rfl rfl rfl dL_low_6
section LOWC
variable {p : Program} {l : Launch} {e : Env} {R : Room} {s : State} {m : MethodId} {args : Array Value} {below : List Frame} {meth : Method} {c : Code} {H : Heap} {locs : List Loc} {cells slots : Nat} {Q : State → Prop}
variable {cc : ByteArray} {pc : Nat} {ls : Array Slot} {rest : List Value} {D : va_G} {cI : ClassId} {a : Nat → Nat} {σ : Sg}
theorem low_call {nL index sz : Nat} {Ts : List Cond} {own : String} {v n : Int32} (S : CallFix p m c cc nL s args Ts own) (hG : GW D cI 29 a (wX cI a) s) (hP : va_P D vwCl (wX cI a σ) H) (hS : va_S (AX 29 a sz) s.heap H locs) (hz : s.heap.size = sz) (hT : GoodIn Ts (va_wsS own index yL_low wsL_low)) (hRm : 1 ≤ R.frames ∧ 21 ≤ R.locals) (hC : cells ≤ R.cells ∧ slots ≤ R.slots)
    (hn : ¬ n = 0) (hl : ls.size = nL) (hW : (rest.map fun v => v.category).sum ≤ 8) (hdg : decode cc pc = .ok (.invokestatic index, 3))
    (kk : ∀ (H1 : Heap) (locs1 : List Loc), va_P D vwCl (wX cI a σ) H1 → va_S (AX 29 a sz) s.heap H1 locs1 → W p l e R s m args below meth c H1 locs1 cells slots Q (F0 m (pc + 3) ls (.int (lw v n) :: rest))) : W p l e R s m args below meth c H locs cells slots Q (F0 m pc ls (.int n :: .int v :: rest)) :=
  x_callSi (w := wX cI a) (σ := σ) (σ' := σ) (As := [.int v, .int n]) (rest := rest) S hG hP hS hz (c_L_low l D cI a H.size σ v n hn) (va_cwS 2 S.2.2.2.2 hT rfl rfl rfl (by decide +kernel) ⟨hRm.1, hRm.2⟩) rfl hl rfl hW hC hdg kk
end LOWC
def cl (L : Nat) (xs : Nat → Int32) (k : Nat) : Int32 := if k < L then xs k else 7919 * (nI k + 2659) * (nI k + 389)
theorem c_L_cell (l : Launch) (b L : Nat) (xs : Nat → Int32) (sz k : Nat) (hk : k < 100) (hL : L < 2 ^ 31) : Met l yL_cell wsL_cell ({ frames := 0, cells := 0, slots := 0, locals := 0 }) (va_Pc [.ref b, .int (nI k)] (fun U => U.heap.size = sz ∧ b < sz ∧ va_X b L xs U U.heap)) (va_Qi (fun (x : Int32) (_ : Unit) => x = cl L xs k) (fun _ _ => True) (fun q => sz ≤ q)) 0 0 (fun q => sz ≤ q) := by
  refine Met.ofW (cc := cL_cell) (maxL := 2) (ret := some .int) (by decide) rfl ?_
  intro p e s m args below meth c s₁ B hml hv
  obtain ⟨rfl, rfl, hbl, hX⟩ := hv
  have hx := B.exec
  have hb := B.bytes
  have hr := B.returns
  have hlk := B.notSynchronized
  have hl := lv_entry ([.ref b, .int (nI k)]) (n := 2) (Nat.le_of_ble_eq_true rfl)
  rw [lg_entry_eq]
  generalize (lg_sl ([.ref b, .int (nI k)]) ++ List.replicate (2 - (lg_sl ([.ref b, .int (nI k)])).length) Slot.unset).toArray = ls at hl ⊢
  have hl : lv_has ls 2 [(0, .ref b), (1, .int (nI k))] := hl
  have hS : va_S (fun q => s.heap.size ≤ q) s.heap s.heap [] := va_S.rf
  refine lv_iload_n hx hb dL_cell_0 rfl (lv_at hl 1 rfl) ?_
  refine lv_aload_n hx hb dL_cell_1 rfl (lv_at hl 0 rfl) ?_
  refine va_slen hx hb hX hbl (fun z => absurd hbl (Nat.not_lt.mpr z)) hS dL_cell_2 ?_
  unfold cl
  by_cases hkL : k < L
  · rw [if_pos hkL]
    refine lv_icmp_ge (tgt := 12) hx hb dL_cell_3 (by decide) (fun h => absurd h (nI_ge hkL hL)) (fun _ => ?_)
    refine lv_aload_n hx hb dL_cell_6 rfl (lv_at hl 0 rfl) ?_
    refine lv_iload_n hx hb dL_cell_7 rfl (lv_at hl 1 rfl) ?_
    refine va_sld hx hb hX hbl (fun z => absurd hbl (Nat.not_lt.mpr z)) hS (vp_in_nI hkL hL) dL_cell_8 ?_
    rw [nI_clamp (show k < 2 ^ 31 by omega)]
    refine lv_goto (tgt := 27) hx hb dL_cell_9 (by decide) ?_
    exact W.zret (ty := .int) hx hb hr rfl (fun t ht hW => ⟨⟨_, (), rfl, rfl, trivial⟩, hS.F ht⟩) hS.2.2 dL_cell_27 hlk
  · rw [if_neg hkL]
    refine lv_icmp_ge (tgt := 12) hx hb dL_cell_3 (by decide) (fun _ => ?_) (fun h => absurd (nI_le (a := L) (b := k) (by omega) (by omega)) h)
    refine lv_sipush (v := 7919) hx hb dL_cell_12 (by decide) ?_
    refine lv_iload_n hx hb dL_cell_15 rfl (lv_at hl 1 rfl) ?_
    refine lv_sipush (v := 2659) hx hb dL_cell_16 (by decide) ?_
    refine lv_iadd hx hb dL_cell_19 ?_
    refine lv_imul hx hb dL_cell_20 ?_
    refine lv_iload_n hx hb dL_cell_21 rfl (lv_at hl 1 rfl) ?_
    refine lv_sipush (v := 389) hx hb dL_cell_22 (by decide) ?_
    refine lv_iadd hx hb dL_cell_25 ?_
    refine lv_imul hx hb dL_cell_26 ?_
    exact W.zret (ty := .int) hx hb hr rfl (fun t ht hW => ⟨⟨_, (), rfl, rfl, trivial⟩, hS.F ht⟩) hS.2.2 dL_cell_27 hlk
