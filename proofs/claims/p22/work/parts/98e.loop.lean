-- the law's loop
def AN (s : State) : Nat → Prop := fun q => s.heap.size ≤ q
section LLW
variable {p : Program} {l : Launch} {e : Env} {R : Room} {s : State} {m : MethodId} {args : Array Value} {below : List Frame} {meth : Method} {c : Code} {H : Heap} {locs : List Loc} {cells slots : Nat} {Q : State → Prop}
variable {cc : ByteArray} {pc nL : Nat} {ls : Array Slot} {rest : List Value} {D : va_G} {cI : ClassId} {aO aP : Nat → Nat} {A : Nat → Prop} {σ τ : Sg} {Ts : List Cond} {own : String}
theorem t_cell {index b L k : Nat} {xs : Nat → Int32} (S : CallFix p m c cc nL s args Ts own) (hL : LH D cI aO aP (AN s) s σ τ H locs) (hX : va_X b L xs s s.heap) (hbl : b < s.heap.size) (hL9 : L < 2 ^ 31) (hk : k < 100) (hT : GoodIn Ts (va_wsS own index yL_cell wsL_cell)) (hRm : 1 ≤ R.frames ∧ 21 ≤ R.locals) (hC : cells ≤ R.cells ∧ slots ≤ R.slots)
    (hl : ls.size = nL) (hW : (rest.map fun v => v.category).sum ≤ 8) (hdg : decode cc pc = .ok (.invokestatic index, 3))
    (kk : ∀ (H1 : Heap) (locs1 : List Loc), LH D cI aO aP (AN s) s σ τ H1 locs1 → W p l e R s m args below meth c H1 locs1 cells slots Q (F0 m (pc + 3) ls (.int (cl L xs k) :: rest))) : W p l e R s m args below meth c H locs cells slots Q (F0 m pc ls (.int (nI k) :: .ref b :: rest)) := by
  obtain ⟨hO, hP, hS⟩ := hL
  have hXH : va_X b L xs s H := hX.kept (hS.2.1 b hbl (fun z => absurd hbl (Nat.not_lt.mpr z)))
  have hA : ∀ q : Nat, H.size ≤ q → AN s q := fun q h => Nat.le_trans hS.1 h
  refine va_calli (va_runS (As := [.ref b, .int (nI k)]) (rest := rest) S (c_L_cell l b L xs H.size k hk hL9) (va_cwS 2 S.2.2.2.2 hT rfl rfl rfl (by decide +kernel) ⟨hRm.1, hRm.2⟩) ⟨fun v U g mk q => ⟨q.1, q.2.1, q.2.2.1, va_X.moved (u := U) (U := U.calling g mk v) (Vm.Alike.refl U.vm) q.2.2.2⟩, fun U hU hW => ⟨rfl, by rw [hU], Nat.lt_of_lt_of_le hbl hS.1, by rw [hU]; exact va_X.moved hW.alike hXH⟩⟩ rfl rfl hl rfl (lv_room hW) hdg hC) hS (fun q _ h => hA q h) hA (fun r1 u t H1 locs1 ht hvm hw2 hB hz1 hk1 hS1 => ?_)
  subst hw2
  exact kk H1 locs1 ⟨keepP hO hk1 (fun k q hq z => absurd (hO k q hq).lt (Nat.not_lt.mpr z)), keepP hP hk1 (fun k q hq z => absurd (hP k q hq).lt (Nat.not_lt.mpr z)), hS1⟩
theorem t_alike {index n : Nat} {v : Int32} (S : CallFix p m c cc nL s args Ts own) (C0 : LC D cI aO aP A s) (hL : LH D cI aO aP A s σ σ H locs) (hm : MC σ n) (hT : GoodIn Ts (va_wsS own index yL_areAlike wsL_areAlike)) (hRm : 10 ≤ R.frames ∧ 264 ≤ R.locals) (hC : cells ≤ R.cells ∧ slots ≤ R.slots)
    (hl : ls.size = nL) (hW : (rest.map fun v => v.category).sum ≤ 8) (hdg : decode cc pc = .ok (.invokestatic index, 3))
    (kk : ∀ (H1 : Heap) (locs1 : List Loc), LH D cI aO aP A s σ σ H1 locs1 → W p l e R s m args below meth c H1 locs1 cells slots Q (F0 m (pc + 3) ls (.int 1 :: rest))) : W p l e R s m args below meth c H locs cells slots Q (F0 m pc ls (.int v :: .ref (aP 0) :: .ref (aO 0) :: rest)) := by
  obtain ⟨hO, hP, hS⟩ := hL
  have hA : ∀ q, AT aO aP H.size q → A q := fun q h => h.elim (lc_A C0 hS q) (lc_A (lc_sw C0) hS q)
  refine va_calli (va_runS (As := [.ref (aO 0), .ref (aP 0), .int v]) (rest := rest) S (c_L_areAlike l D cI aO aP H.size σ n v hm) (va_cwS 3 S.2.2.2.2 hT rfl rfl rfl (by decide +kernel) ⟨hRm.1, hRm.2⟩) ⟨pct_blind, fun U hU hW => ⟨rfl, by rw [hU], by rw [hU]; exact hO, by rw [hU]; exact hP, at_of C0 hS hU hW⟩⟩ rfl rfl hl rfl (lv_room hW) hdg hC) hS (fun q _ h => hA q h) hA (fun r1 u t H1 locs1 ht hvm hw2 hB hz1 hk1 hS1 => ?_)
  rw [ht] at hB
  subst hw2
  exact kk H1 locs1 ⟨hB.1, hB.2, hS1⟩
/-- from 88 on: now, behind the call -/
theorem law_tail {b i : Nat} {v now k : Int32} (S : CallFix p m c cL_law 8 s args wsL_law RL) (C0 : LC D cI aO aP A s) (hL : LH D cI aO aP A s σ τ H locs) (hRm : 12 ≤ R.frames ∧ 486 ≤ R.locals) (hC : cells ≤ R.cells ∧ slots ≤ R.slots)
    (hl : lv_has ls 8 [(6, .int k), (5, .int v), (4, .int (nI i)), (3, .int now), (0, .ref b), (1, .ref (aO 0)), (2, .ref (aP 0))])
    (kk : ∀ (H1 : Heap) (locs1 : List Loc) (ls1 : Array Slot), LH D cI aO aP A s σ τ H1 locs1 → lv_has ls1 8 [(4, .int (nI (i + 1))), (3, .int (nxF v now k)), (0, .ref b), (1, .ref (aO 0)), (2, .ref (aP 0))] → W p l e R s m args below meth c H1 locs1 cells slots Q (F0 m 21 ls1 [])) : W p l e R s m args below meth c H locs cells slots Q (F0 m 88 ls []) := by
  have hx := S.1
  have hb := S.2.1
  by_cases g1 : 22 < lw v 34
  · by_cases g2 : lw v 34 < 26
    · by_cases g3 : k = -99999999
      · have e9 : nxF v now k = now := by unfold nxF; rw [if_neg (fun z => z.2 g3)]
        rw [e9] at kk
        refine lv_iload hx hb dL_law_88 (lv_at hl 1 rfl) ?_
        refine lv_bipush (v := 34) hx hb dL_law_90 (by decide) ?_
        refine t_low (v := v) (n := 34) (rest := []) S C0 hL gL_law_L_low ⟨Nat.le_trans (Nat.le_of_ble_eq_true rfl) hRm.1, Nat.le_trans (Nat.le_of_ble_eq_true rfl) hRm.2⟩ hC (by decide) hl.1 (Nat.le_of_ble_eq_true rfl) dL_law_92 (fun H locs hL => ?_)
        refine lv_bipush (v := 22) hx hb dL_law_95 (by decide) ?_
        refine lv_icmp_le (tgt := 116) hx hb dL_law_97 (by decide) (fun h => absurd h (fun q => (Int32.not_lt.mpr q) g1)) (fun _ => ?_)
        refine lv_iload hx hb dL_law_100 (lv_at hl 1 rfl) ?_
        refine lv_bipush (v := 34) hx hb dL_law_102 (by decide) ?_
        refine t_low (v := v) (n := 34) (rest := []) S C0 hL gL_law_L_low ⟨Nat.le_trans (Nat.le_of_ble_eq_true rfl) hRm.1, Nat.le_trans (Nat.le_of_ble_eq_true rfl) hRm.2⟩ hC (by decide) hl.1 (Nat.le_of_ble_eq_true rfl) dL_law_104 (fun H locs hL => ?_)
        refine lv_bipush (v := 26) hx hb dL_law_107 (by decide) ?_
        refine lv_icmp_ge (tgt := 116) hx hb dL_law_109 (by decide) (fun h => absurd h (fun q => (Int32.not_lt.mpr q) g2)) (fun _ => ?_)
        refine lv_iconst (v := 1) hx hb dL_law_112 (by decide) ?_
        refine lv_goto (tgt := 117) hx hb dL_law_113 (by decide) ?_
        refine lv_istore (lv' := [(7, .int 1), (6, .int k), (5, .int v), (4, .int (nI i)), (3, .int now), (0, .ref b), (1, .ref (aO 0)), (2, .ref (aP 0))]) hx hb dL_law_117 hl (by decide) rfl (fun ls hl => ?_)
        refine lv_iload hx hb dL_law_119 (lv_at hl 0 rfl) ?_
        refine lv_if_eq (tgt := 136) hx hb dL_law_121 (by decide) (fun h => absurd h (by decide)) (fun _ => ?_)
        refine lv_iload hx hb dL_law_124 (lv_at hl 1 rfl) ?_
        refine lv_ldc (v := -99999999) hx hb S.2.2.2.1 (S.2.2.2.2 _ (List.mem_of_getElem? (i := 3) rfl)) dL_law_126 ?_
        refine lv_icmp_eq (tgt := 136) hx hb dL_law_128 (by decide) (fun _ => ?_) (fun h => absurd g3 h)
        refine lv_iload_n hx hb dL_law_136 rfl (lv_at hl 4 rfl) ?_
        refine lv_istore_n (lv' := [(3, .int now), (7, .int 1), (6, .int k), (5, .int v), (4, .int (nI i)), (0, .ref b), (1, .ref (aO 0)), (2, .ref (aP 0))]) hx hb dL_law_137 rfl hl (by decide) rfl (fun ls hl => ?_)
        refine lv_iinc (v := nI (i + 1)) (lv' := [(4, .int (nI (i + 1))), (3, .int now), (7, .int 1), (6, .int k), (5, .int v), (0, .ref b), (1, .ref (aO 0)), (2, .ref (aP 0))]) hx hb dL_law_138 hl (k := 4) rfl (by rw [nI_succ]; rfl) (by decide) rfl (fun ls hl => ?_)
        refine lv_goto (tgt := 21) hx hb dL_law_141 (by decide) ?_
        exact kk H locs ls hL (lv_sub hl [0, 1, 5, 6, 7] rfl)
      · have e9 : nxF v now k = k := by unfold nxF; rw [if_pos ⟨⟨g1, g2⟩, g3⟩]
        rw [e9] at kk
        refine lv_iload hx hb dL_law_88 (lv_at hl 1 rfl) ?_
        refine lv_bipush (v := 34) hx hb dL_law_90 (by decide) ?_
        refine t_low (v := v) (n := 34) (rest := []) S C0 hL gL_law_L_low ⟨Nat.le_trans (Nat.le_of_ble_eq_true rfl) hRm.1, Nat.le_trans (Nat.le_of_ble_eq_true rfl) hRm.2⟩ hC (by decide) hl.1 (Nat.le_of_ble_eq_true rfl) dL_law_92 (fun H locs hL => ?_)
        refine lv_bipush (v := 22) hx hb dL_law_95 (by decide) ?_
        refine lv_icmp_le (tgt := 116) hx hb dL_law_97 (by decide) (fun h => absurd h (fun q => (Int32.not_lt.mpr q) g1)) (fun _ => ?_)
        refine lv_iload hx hb dL_law_100 (lv_at hl 1 rfl) ?_
        refine lv_bipush (v := 34) hx hb dL_law_102 (by decide) ?_
        refine t_low (v := v) (n := 34) (rest := []) S C0 hL gL_law_L_low ⟨Nat.le_trans (Nat.le_of_ble_eq_true rfl) hRm.1, Nat.le_trans (Nat.le_of_ble_eq_true rfl) hRm.2⟩ hC (by decide) hl.1 (Nat.le_of_ble_eq_true rfl) dL_law_104 (fun H locs hL => ?_)
        refine lv_bipush (v := 26) hx hb dL_law_107 (by decide) ?_
        refine lv_icmp_ge (tgt := 116) hx hb dL_law_109 (by decide) (fun h => absurd h (fun q => (Int32.not_lt.mpr q) g2)) (fun _ => ?_)
        refine lv_iconst (v := 1) hx hb dL_law_112 (by decide) ?_
        refine lv_goto (tgt := 117) hx hb dL_law_113 (by decide) ?_
        refine lv_istore (lv' := [(7, .int 1), (6, .int k), (5, .int v), (4, .int (nI i)), (3, .int now), (0, .ref b), (1, .ref (aO 0)), (2, .ref (aP 0))]) hx hb dL_law_117 hl (by decide) rfl (fun ls hl => ?_)
        refine lv_iload hx hb dL_law_119 (lv_at hl 0 rfl) ?_
        refine lv_if_eq (tgt := 136) hx hb dL_law_121 (by decide) (fun h => absurd h (by decide)) (fun _ => ?_)
        refine lv_iload hx hb dL_law_124 (lv_at hl 1 rfl) ?_
        refine lv_ldc (v := -99999999) hx hb S.2.2.2.1 (S.2.2.2.2 _ (List.mem_of_getElem? (i := 3) rfl)) dL_law_126 ?_
        refine lv_icmp_eq (tgt := 136) hx hb dL_law_128 (by decide) (fun h => absurd h g3) (fun _ => ?_)
        refine lv_iload hx hb dL_law_131 (lv_at hl 1 rfl) ?_
        refine lv_goto (tgt := 137) hx hb dL_law_133 (by decide) ?_
        refine lv_istore_n (lv' := [(3, .int k), (7, .int 1), (6, .int k), (5, .int v), (4, .int (nI i)), (0, .ref b), (1, .ref (aO 0)), (2, .ref (aP 0))]) hx hb dL_law_137 rfl hl (by decide) rfl (fun ls hl => ?_)
        refine lv_iinc (v := nI (i + 1)) (lv' := [(4, .int (nI (i + 1))), (3, .int k), (7, .int 1), (6, .int k), (5, .int v), (0, .ref b), (1, .ref (aO 0)), (2, .ref (aP 0))]) hx hb dL_law_138 hl (k := 4) rfl (by rw [nI_succ]; rfl) (by decide) rfl (fun ls hl => ?_)
        refine lv_goto (tgt := 21) hx hb dL_law_141 (by decide) ?_
        exact kk H locs ls hL (lv_sub hl [0, 1, 5, 6, 7] rfl)
    · have e9 : nxF v now k = now := by unfold nxF; rw [if_neg (fun z => g2 z.1.2)]
      rw [e9] at kk
      refine lv_iload hx hb dL_law_88 (lv_at hl 1 rfl) ?_
      refine lv_bipush (v := 34) hx hb dL_law_90 (by decide) ?_
      refine t_low (v := v) (n := 34) (rest := []) S C0 hL gL_law_L_low ⟨Nat.le_trans (Nat.le_of_ble_eq_true rfl) hRm.1, Nat.le_trans (Nat.le_of_ble_eq_true rfl) hRm.2⟩ hC (by decide) hl.1 (Nat.le_of_ble_eq_true rfl) dL_law_92 (fun H locs hL => ?_)
      refine lv_bipush (v := 22) hx hb dL_law_95 (by decide) ?_
      refine lv_icmp_le (tgt := 116) hx hb dL_law_97 (by decide) (fun h => absurd h (fun q => (Int32.not_lt.mpr q) g1)) (fun _ => ?_)
      refine lv_iload hx hb dL_law_100 (lv_at hl 1 rfl) ?_
      refine lv_bipush (v := 34) hx hb dL_law_102 (by decide) ?_
      refine t_low (v := v) (n := 34) (rest := []) S C0 hL gL_law_L_low ⟨Nat.le_trans (Nat.le_of_ble_eq_true rfl) hRm.1, Nat.le_trans (Nat.le_of_ble_eq_true rfl) hRm.2⟩ hC (by decide) hl.1 (Nat.le_of_ble_eq_true rfl) dL_law_104 (fun H locs hL => ?_)
      refine lv_bipush (v := 26) hx hb dL_law_107 (by decide) ?_
      refine lv_icmp_ge (tgt := 116) hx hb dL_law_109 (by decide) (fun _ => ?_) (fun h => absurd (Int32.not_lt.mp g2) h)
      refine lv_iconst (v := 0) hx hb dL_law_116 (by decide) ?_
      refine lv_istore (lv' := [(7, .int 0), (6, .int k), (5, .int v), (4, .int (nI i)), (3, .int now), (0, .ref b), (1, .ref (aO 0)), (2, .ref (aP 0))]) hx hb dL_law_117 hl (by decide) rfl (fun ls hl => ?_)
      refine lv_iload hx hb dL_law_119 (lv_at hl 0 rfl) ?_
      refine lv_if_eq (tgt := 136) hx hb dL_law_121 (by decide) (fun _ => ?_) (fun h => absurd (by decide) h)
      refine lv_iload_n hx hb dL_law_136 rfl (lv_at hl 4 rfl) ?_
      refine lv_istore_n (lv' := [(3, .int now), (7, .int 0), (6, .int k), (5, .int v), (4, .int (nI i)), (0, .ref b), (1, .ref (aO 0)), (2, .ref (aP 0))]) hx hb dL_law_137 rfl hl (by decide) rfl (fun ls hl => ?_)
      refine lv_iinc (v := nI (i + 1)) (lv' := [(4, .int (nI (i + 1))), (3, .int now), (7, .int 0), (6, .int k), (5, .int v), (0, .ref b), (1, .ref (aO 0)), (2, .ref (aP 0))]) hx hb dL_law_138 hl (k := 4) rfl (by rw [nI_succ]; rfl) (by decide) rfl (fun ls hl => ?_)
      refine lv_goto (tgt := 21) hx hb dL_law_141 (by decide) ?_
      exact kk H locs ls hL (lv_sub hl [0, 1, 5, 6, 7] rfl)
  · have e9 : nxF v now k = now := by unfold nxF; rw [if_neg (fun z => g1 z.1.1)]
    rw [e9] at kk
    refine lv_iload hx hb dL_law_88 (lv_at hl 1 rfl) ?_
    refine lv_bipush (v := 34) hx hb dL_law_90 (by decide) ?_
    refine t_low (v := v) (n := 34) (rest := []) S C0 hL gL_law_L_low ⟨Nat.le_trans (Nat.le_of_ble_eq_true rfl) hRm.1, Nat.le_trans (Nat.le_of_ble_eq_true rfl) hRm.2⟩ hC (by decide) hl.1 (Nat.le_of_ble_eq_true rfl) dL_law_92 (fun H locs hL => ?_)
    refine lv_bipush (v := 22) hx hb dL_law_95 (by decide) ?_
    refine lv_icmp_le (tgt := 116) hx hb dL_law_97 (by decide) (fun _ => ?_) (fun h => absurd (Int32.not_lt.mp g1) h)
    refine lv_iconst (v := 0) hx hb dL_law_116 (by decide) ?_
    refine lv_istore (lv' := [(7, .int 0), (6, .int k), (5, .int v), (4, .int (nI i)), (3, .int now), (0, .ref b), (1, .ref (aO 0)), (2, .ref (aP 0))]) hx hb dL_law_117 hl (by decide) rfl (fun ls hl => ?_)
    refine lv_iload hx hb dL_law_119 (lv_at hl 0 rfl) ?_
    refine lv_if_eq (tgt := 136) hx hb dL_law_121 (by decide) (fun _ => ?_) (fun h => absurd (by decide) h)
    refine lv_iload_n hx hb dL_law_136 rfl (lv_at hl 4 rfl) ?_
    refine lv_istore_n (lv' := [(3, .int now), (7, .int 0), (6, .int k), (5, .int v), (4, .int (nI i)), (0, .ref b), (1, .ref (aO 0)), (2, .ref (aP 0))]) hx hb dL_law_137 rfl hl (by decide) rfl (fun ls hl => ?_)
    refine lv_iinc (v := nI (i + 1)) (lv' := [(4, .int (nI (i + 1))), (3, .int now), (7, .int 0), (6, .int k), (5, .int v), (0, .ref b), (1, .ref (aO 0)), (2, .ref (aP 0))]) hx hb dL_law_138 hl (k := 4) rfl (by rw [nI_succ]; rfl) (by decide) rfl (fun ls hl => ?_)
    refine lv_goto (tgt := 21) hx hb dL_law_141 (by decide) ?_
    exact kk H locs ls hL (lv_sub hl [0, 1, 5, 6, 7] rfl)
/-- from 64 to 88: they are alike -/
theorem law_mid {b i n : Nat} {v now k : Int32} (S : CallFix p m c cL_law 8 s args wsL_law RL) (C0 : LC D cI aO aP A s) (hL : LH D cI aO aP A s σ σ H locs) (hm : MC σ n) (hRm : 12 ≤ R.frames ∧ 486 ≤ R.locals) (hC : cells ≤ R.cells ∧ slots ≤ R.slots)
    (hl : lv_has ls 8 [(6, .int k), (5, .int v), (4, .int (nI i)), (3, .int now), (0, .ref b), (1, .ref (aO 0)), (2, .ref (aP 0))])
    (kk : ∀ (H1 : Heap) (locs1 : List Loc) (ls1 : Array Slot), LH D cI aO aP A s σ σ H1 locs1 → lv_has ls1 8 [(6, .int k), (5, .int v), (4, .int (nI i)), (3, .int now), (0, .ref b), (1, .ref (aO 0)), (2, .ref (aP 0))] → W p l e R s m args below meth c H1 locs1 cells slots Q (F0 m 88 ls1 [])) : W p l e R s m args below meth c H locs cells slots Q (F0 m 64 ls []) := by
  have hx := S.1
  have hb := S.2.1
  by_cases g1 : nI i - nI i / 33 * 33 = 32
  · refine lv_iload hx hb dL_law_64 (lv_at hl 2 rfl) ?_
    refine lv_bipush (v := 33) hx hb dL_law_66 (by decide) ?_
    refine lv_irem hx hb dL_law_68 (by decide) ?_
    refine lv_bipush (v := 32) hx hb dL_law_69 (by decide) ?_
    refine lv_icmp_ne (tgt := 88) hx hb dL_law_71 (by decide) (fun h => absurd g1 h) (fun _ => ?_)
    refine lv_aload_n hx hb dL_law_74 rfl (lv_at hl 5 rfl) ?_
    refine lv_aload_n hx hb dL_law_75 rfl (lv_at hl 6 rfl) ?_
    refine lv_iload hx hb dL_law_76 (lv_at hl 1 rfl) ?_
    refine lv_iconst (v := 3) hx hb dL_law_78 (by decide) ?_
    refine lv_ishr hx hb dL_law_79 ?_
    refine t_alike (rest := []) S C0 hL hm gL_law_L_areAlike ⟨Nat.le_trans (Nat.le_of_ble_eq_true rfl) hRm.1, Nat.le_trans (Nat.le_of_ble_eq_true rfl) hRm.2⟩ hC hl.1 (Nat.le_of_ble_eq_true rfl) dL_law_80 (fun H locs hL => ?_)
    refine lv_if_ne (tgt := 88) hx hb dL_law_83 (by decide) (fun _ => ?_) (fun h => absurd h (by decide))
    exact kk H locs ls hL hl
  · refine lv_iload hx hb dL_law_64 (lv_at hl 2 rfl) ?_
    refine lv_bipush (v := 33) hx hb dL_law_66 (by decide) ?_
    refine lv_irem hx hb dL_law_68 (by decide) ?_
    refine lv_bipush (v := 32) hx hb dL_law_69 (by decide) ?_
    refine lv_icmp_ne (tgt := 88) hx hb dL_law_71 (by decide) (fun _ => ?_) (fun h => absurd h g1)
    exact kk H locs ls hL hl
/-- a round: from 28 to 21 -/
theorem law_round {b i L n : Nat} {xs : Nat → Int32} (S : CallFix p m c cL_law 8 s args wsL_law RL) (C0 : LC D cI aO aP (AN s) s) (hL : LH D cI aO aP (AN s) s σ σ H locs) (hm : MC σ n) (hlf : l.stackTraces = false) (hX : va_X b L xs s s.heap) (hbl : b < s.heap.size) (hL9 : L < 2 ^ 31) (hi : i < 100) (hRm : 12 ≤ R.frames ∧ 486 ≤ R.locals) (hC1 : cells + 1 ≤ R.cells ∧ slots + 6 ≤ R.slots)
    (hl : lv_has ls 8 [(4, .int (nI i)), (3, .int (σ 0 5)), (0, .ref b), (1, .ref (aO 0)), (2, .ref (aP 0))])
    (kk : ∀ (H1 : Heap) (locs1 : List Loc) (ls1 : Array Slot) (σ1 : Sg) (n1 : Nat), MC σ1 n1 → LH D cI aO aP (AN s) s σ1 σ1 H1 locs1 → lv_has ls1 8 [(4, .int (nI (i + 1))), (3, .int (σ1 0 5)), (0, .ref b), (1, .ref (aO 0)), (2, .ref (aP 0))] → W p l e R s m args below meth c H1 locs1 (cells + 1) (slots + 6) Q (F0 m 21 ls1 [])) : W p l e R s m args below meth c H locs cells slots Q (F0 m 28 ls []) := by
  have hx := S.1
  have hb := S.2.1
  have hC : cells ≤ R.cells ∧ slots ≤ R.slots := ⟨by omega, by omega⟩
  obtain ⟨v, hv⟩ : ∃ v, v = cl L xs i := ⟨_, rfl⟩
  obtain ⟨k, σ', n', hm', hk, hnow, ⟨rm, mc, ms, hM, hrc, hrs, h1, h2, h3, hfr, hlo⟩⟩ := act_all (l := l) (D := D) (cI := cI) hm hlf v
  have k64 : ∀ (H : Heap) (locs : List Loc) (ls : Array Slot), LH D cI aO aP (AN s) s σ' σ' H locs → lv_has ls 8 [(6, .int k), (5, .int v), (4, .int (nI i)), (3, .int (σ 0 5)), (0, .ref b), (1, .ref (aO 0)), (2, .ref (aP 0))] → W p l e R s m args below meth c H locs (cells + 1) (slots + 6) Q (F0 m 64 ls []) := by
    intro H locs ls hL hl
    refine law_mid S C0 hL hm' hRm hC1 hl (fun H locs ls hL hl => ?_)
    refine law_tail S C0 hL hRm hC1 hl (fun H locs ls hL hl => ?_)
    rw [← hnow] at hl
    exact kk H locs ls σ' n' hm' hL hl
  refine lv_aload_n hx hb dL_law_28 rfl (lv_at hl 2 rfl) ?_
  refine lv_iload hx hb dL_law_29 (lv_at hl 0 rfl) ?_
  refine t_cell (k := i) (rest := []) S hL hX hbl hL9 hi gL_law_L_cell ⟨Nat.le_trans (Nat.le_of_ble_eq_true rfl) hRm.1, Nat.le_trans (Nat.le_of_ble_eq_true rfl) hRm.2⟩ hC hl.1 (Nat.le_of_ble_eq_true rfl) dL_law_31 (fun H locs hL => ?_)
  rw [← hv]
  refine lv_istore (lv' := [(5, .int v), (4, .int (nI i)), (3, .int (σ 0 5)), (0, .ref b), (1, .ref (aO 0)), (2, .ref (aP 0))]) hx hb dL_law_34 hl (by decide) rfl (fun ls hl => ?_)
  refine lv_aload_n hx hb dL_law_36 rfl (lv_at hl 4 rfl) ?_
  refine lv_iload hx hb dL_law_37 (lv_at hl 0 rfl) ?_
  refine lv_iload_n hx hb dL_law_39 rfl (lv_at hl 2 rfl) ?_
  refine t_callC (n := 3) (σ' := σ') (As := [.ref (aO 0), .int v, .int (σ 0 5)]) (rest := []) S C0 hL (hM aO H.size) hrc hrs gL_law_L_act rfl (by decide +kernel) ⟨by omega, by omega⟩ rfl hl.1 rfl (Nat.le_of_ble_eq_true rfl) ⟨by omega, by omega⟩ dL_law_40 (fun H locs hL => ?_)
  refine lv_istore (lv' := [(6, .int k), (5, .int v), (4, .int (nI i)), (3, .int (σ 0 5)), (0, .ref b), (1, .ref (aO 0)), (2, .ref (aP 0))]) hx hb dL_law_43 hl (by decide) rfl (fun ls hl => ?_)
  by_cases g : k = -99999999
  · have hσ := hk g
    subst hσ
    refine lv_iload hx hb dL_law_45 (lv_at hl 0 rfl) ?_
    refine lv_ldc (v := -99999999) hx hb S.2.2.2.1 (S.2.2.2.2 _ (List.mem_of_getElem? (i := 3) rfl)) dL_law_47 ?_
    refine lv_icmp_eq (tgt := 64) hx hb dL_law_49 (by decide) (fun _ => ?_) (fun h => absurd g h)
    refine W.widen (k := cells + 1) (n := slots + 6) (by omega) (by omega) ?_
    exact k64 H locs ls hL hl
  · obtain ⟨hmc, hms⟩ := h3 g
    refine lv_iload hx hb dL_law_45 (lv_at hl 0 rfl) ?_
    refine lv_ldc (v := -99999999) hx hb S.2.2.2.1 (S.2.2.2.2 _ (List.mem_of_getElem? (i := 3) rfl)) dL_law_47 ?_
    refine lv_icmp_eq (tgt := 64) hx hb dL_law_49 (by decide) (fun h => absurd h g) (fun _ => ?_)
    refine lv_aload_n hx hb dL_law_52 rfl (lv_at hl 6 rfl) ?_
    refine lv_iload hx hb dL_law_53 (lv_at hl 1 rfl) ?_
    refine lv_iload_n hx hb dL_law_55 rfl (lv_at hl 3 rfl) ?_
    refine t_callC (aO := aP) (aP := aO) (n := 3) (σ' := σ') (As := [.ref (aP 0), .int v, .int (σ 0 5)]) (rest := []) S (lc_sw C0) (lh_sw hL) (hM aP H.size) hrc hrs gL_law_L_act rfl (by decide +kernel) ⟨by omega, by omega⟩ rfl hl.1 rfl (Nat.le_of_ble_eq_true rfl) ⟨by omega, by omega⟩ dL_law_56 (fun H locs hL => ?_)
    have hL := lh_sw hL
    refine lv_iload hx hb dL_law_59 (lv_at hl 0 rfl) ?_
    refine lv_icmp_ne (tgt := 86) hx hb dL_law_61 (by decide) (fun h => absurd rfl h) (fun _ => ?_)
    refine W.widen (k := cells + 1) (n := slots + 6) (by omega) (by omega) ?_
    exact k64 H locs ls hL hl
set_option maxHeartbeats 4000000 in
theorem law_loop {b L KC KS : Nat} {xs : Nat → Int32} (S : CallFix p m c cL_law 8 s args wsL_law RL) (C0 : LC D cI aO aP (AN s) s) (hlf : l.stackTraces = false) (hX : va_X b L xs s s.heap) (hbl : b < s.heap.size) (hL9 : L < 2 ^ 31) (hRm : 12 ≤ R.frames ∧ 486 ≤ R.locals) (hK : KC ≤ R.cells ∧ KS ≤ R.slots)
    (kE : ∀ (H1 : Heap) (locs1 : List Loc) (ls1 : Array Slot) (cells1 slots1 : Nat) (σ1 : Sg) (n1 : Nat), MC σ1 n1 → LH D cI aO aP (AN s) s σ1 σ1 H1 locs1 → cells1 ≤ KC → slots1 ≤ KS → lv_has ls1 8 [(1, .ref (aO 0))] → W p l e R s m args below meth c H1 locs1 cells1 slots1 Q (F0 m 144 ls1 [])) :
    ∀ (N i cells slots n : Nat) (σ : Sg) (H : Heap) (locs : List Loc) (ls : Array Slot), i + N = 100 → cells + N ≤ KC → slots + 6 * N ≤ KS → MC σ n → LH D cI aO aP (AN s) s σ σ H locs → lv_has ls 8 [(4, .int (nI i)), (3, .int (σ 0 5)), (0, .ref b), (1, .ref (aO 0)), (2, .ref (aP 0))] → W p l e R s m args below meth c H locs cells slots Q (F0 m 21 ls []) := by
  have hx := S.1
  have hb := S.2.1
  intro N
  induction N with
  | zero =>
    intro i cells slots n σ H locs ls hi hc hs hm hL hl
    obtain rfl : i = 100 := by omega
    refine lv_iload hx hb dL_law_21 (lv_at hl 0 rfl) ?_
    refine lv_bipush (v := 100) hx hb dL_law_23 (by decide) ?_
    refine lv_icmp_ge (tgt := 144) hx hb dL_law_25 (by decide) (fun _ => ?_) (fun h => absurd (by decide) h)
    exact kE H locs ls cells slots σ n hm hL (by omega) (by omega) (lv_sub hl [3] rfl)
  | succ N ih =>
    intro i cells slots n σ H locs ls hi hc hs hm hL hl
    refine lv_iload hx hb dL_law_21 (lv_at hl 0 rfl) ?_
    refine lv_bipush (v := 100) hx hb dL_law_23 (by decide) ?_
    refine lv_icmp_ge (tgt := 144) hx hb dL_law_25 (by decide) (fun h => absurd h (nI_ge (a := i) (b := 100) (by omega) (by decide))) (fun _ => ?_)
    refine law_round S C0 hL hm hlf hX hbl hL9 (by omega) hRm ⟨by omega, by omega⟩ hl (fun H1 locs1 ls1 σ1 n1 hm1 hL1 hl1 => ?_)
    exact ih (i + 1) (cells + 1) (slots + 6) n1 σ1 H1 locs1 ls1 (by omega) (by omega) (by omega) hm1 hL1 hl1
end LLW
