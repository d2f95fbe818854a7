-- act
def odF (v : Int32) : Int32 := if lw (v >>> (26 &&& 31)) 14 = 0 then 1 else 0
def cyF (v : Int32) : Int32 := if lw (v >>> (26 &&& 31)) 14 = 0 then lw (v >>> (4 &&& 31)) 36 - 3 else lw (v >>> (4 &&& 31)) 4
def plF (v : Int32) : Int32 := if lw (v >>> (26 &&& 31)) 14 = 0 then lw (v >>> (7 &&& 31)) 14 - 3 else lw (v >>> (7 &&& 31)) 3
def riF (v : Int32) : Int32 := if lw (v >>> (26 &&& 31)) 14 = 0 then lw (v >>> (9 &&& 31)) 16 - 3 else lw (v >>> (9 &&& 31)) 3
def muF (v : Int32) : Int32 := if lw (v >>> (26 &&& 31)) 14 = 0 then v >>> (9 &&& 31) else lw (v >>> (9 &&& 31)) 9
def whF (v now : Int32) : Int32 := if lw (v >>> (26 &&& 31)) 14 = 0 then v >>> (6 &&& 31) else now - lw (v >>> (12 &&& 31)) (1 + (if now < 20 then now else 20))
abbrev lvA (a : Nat → Nat) (v now : Int32) : List (Nat × Value) := [(8, .int (whF v now)), (7, .int (muF v)), (6, .int (riF v)), (5, .int (plF v)), (4, .int (cyF v)), (3, .int (odF v)), (0, .ref (a 0)), (1, .int v), (2, .int now)]
section ACTW
variable {p : Program} {l : Launch} {e : Env} {R : Room} {s : State} {m : MethodId} {args : Array Value} {below : List Frame} {meth : Method} {c : Code} {H : Heap} {locs : List Loc} {cells slots : Nat} {Q : State → Prop}
variable {ls : Array Slot} {D : va_G} {cI : ClassId} {a : Nat → Nat} {σ : Sg}
set_option maxHeartbeats 4000000 in
theorem act_pre {sz : Nat} {v now : Int32} (S : CallFix p m c cL_act 9 s args wsL_act RL) (hG : GW D cI 29 a (wX cI a) s) (hP : va_P D vwCl (wX cI a σ) H) (hS : va_S (AX 29 a sz) s.heap H locs) (hz : s.heap.size = sz) (hRm : 9 ≤ R.frames ∧ 240 ≤ R.locals) (hC : cells ≤ R.cells ∧ slots ≤ R.slots) (ht : ∃ t, t ≤ 20000 ∧ now = nI t) (hl : lv_has ls 9 [(0, .ref (a 0)), (1, .int v), (2, .int now)])
    (kk : ∀ (H1 : Heap) (locs1 : List Loc) (ls1 : Array Slot), va_P D vwCl (wX cI a σ) H1 → va_S (AX 29 a sz) s.heap H1 locs1 → lv_has ls1 9 (lvA a v now) → W p l e R s m args below meth c H1 locs1 cells slots Q (F0 m 164 ls1 [.int (lw v 34)])) : W p l e R s m args below meth c H locs cells slots Q (F0 m 0 ls []) := by
  have hx := S.1
  have hb := S.2.1
  have hn1 : ¬ 1 + now = 0 := by
    obtain ⟨t, ht2, rfl⟩ := ht
    rw [show (1 : Int32) = nI 1 from rfl, nI_add]
    exact nI_ne0 (by omega) (by omega)
  unfold lvA odF cyF plF riF muF whF at kk
  by_cases h0 : lw (v >>> (26 &&& 31)) 14 = 0
  · simp only [if_pos h0] at kk
    refine lv_iload_n hx hb dL_act_0 rfl (lv_at hl 1 rfl) ?_
    refine lv_bipush (v := 26) hx hb dL_act_1 (by decide) ?_
    refine lv_ishr hx hb dL_act_3 ?_
    refine lv_bipush (v := 14) hx hb dL_act_4 (by decide) ?_
    refine low_call (v := (v >>> (26 &&& 31))) (n := 14) (rest := []) S hG hP hS hz gL_act_L_low ⟨Nat.le_trans (Nat.le_of_ble_eq_true rfl) hRm.1, Nat.le_trans (Nat.le_of_ble_eq_true rfl) hRm.2⟩ hC (by decide) hl.1 (Nat.le_of_ble_eq_true rfl) dL_act_6 (fun H locs hP hS => ?_)
    refine lv_if_ne (tgt := 16) hx hb dL_act_9 (by decide) (fun h => absurd h0 h) (fun _ => ?_)
    refine lv_iconst (v := 1) hx hb dL_act_12 (by decide) ?_
    refine lv_goto (tgt := 17) hx hb dL_act_13 (by decide) ?_
    refine lv_istore_n (lv' := [(3, .int 1), (0, .ref (a 0)), (1, .int v), (2, .int now)]) hx hb dL_act_17 rfl hl (by decide) rfl (fun ls hl => ?_)
    refine lv_iload_n hx hb dL_act_18 rfl (lv_at hl 0 rfl) ?_
    refine lv_if_eq (tgt := 35) hx hb dL_act_19 (by decide) (fun h => absurd h (by decide)) (fun _ => ?_)
    refine lv_iload_n hx hb dL_act_22 rfl (lv_at hl 2 rfl) ?_
    refine lv_iconst (v := 4) hx hb dL_act_23 (by decide) ?_
    refine lv_ishr hx hb dL_act_24 ?_
    refine lv_bipush (v := 36) hx hb dL_act_25 (by decide) ?_
    refine low_call (v := (v >>> (4 &&& 31))) (n := 36) (rest := []) S hG hP hS hz gL_act_L_low ⟨Nat.le_trans (Nat.le_of_ble_eq_true rfl) hRm.1, Nat.le_trans (Nat.le_of_ble_eq_true rfl) hRm.2⟩ hC (by decide) hl.1 (Nat.le_of_ble_eq_true rfl) dL_act_27 (fun H locs hP hS => ?_)
    refine lv_iconst (v := 3) hx hb dL_act_30 (by decide) ?_
    refine lv_isub hx hb dL_act_31 ?_
    refine lv_goto (tgt := 42) hx hb dL_act_32 (by decide) ?_
    refine lv_istore (lv' := [(4, .int ((lw (v >>> (4 &&& 31)) 36) - 3)), (3, .int 1), (0, .ref (a 0)), (1, .int v), (2, .int now)]) hx hb dL_act_42 hl (by decide) rfl (fun ls hl => ?_)
    refine lv_iload_n hx hb dL_act_44 rfl (lv_at hl 1 rfl) ?_
    refine lv_if_eq (tgt := 62) hx hb dL_act_45 (by decide) (fun h => absurd h (by decide)) (fun _ => ?_)
    refine lv_iload_n hx hb dL_act_48 rfl (lv_at hl 3 rfl) ?_
    refine lv_bipush (v := 7) hx hb dL_act_49 (by decide) ?_
    refine lv_ishr hx hb dL_act_51 ?_
    refine lv_bipush (v := 14) hx hb dL_act_52 (by decide) ?_
    refine low_call (v := (v >>> (7 &&& 31))) (n := 14) (rest := []) S hG hP hS hz gL_act_L_low ⟨Nat.le_trans (Nat.le_of_ble_eq_true rfl) hRm.1, Nat.le_trans (Nat.le_of_ble_eq_true rfl) hRm.2⟩ hC (by decide) hl.1 (Nat.le_of_ble_eq_true rfl) dL_act_54 (fun H locs hP hS => ?_)
    refine lv_iconst (v := 3) hx hb dL_act_57 (by decide) ?_
    refine lv_isub hx hb dL_act_58 ?_
    refine lv_goto (tgt := 70) hx hb dL_act_59 (by decide) ?_
    refine lv_istore (lv' := [(5, .int ((lw (v >>> (7 &&& 31)) 14) - 3)), (4, .int ((lw (v >>> (4 &&& 31)) 36) - 3)), (3, .int 1), (0, .ref (a 0)), (1, .int v), (2, .int now)]) hx hb dL_act_70 hl (by decide) rfl (fun ls hl => ?_)
    refine lv_iload_n hx hb dL_act_72 rfl (lv_at hl 2 rfl) ?_
    refine lv_if_eq (tgt := 90) hx hb dL_act_73 (by decide) (fun h => absurd h (by decide)) (fun _ => ?_)
    refine lv_iload_n hx hb dL_act_76 rfl (lv_at hl 4 rfl) ?_
    refine lv_bipush (v := 9) hx hb dL_act_77 (by decide) ?_
    refine lv_ishr hx hb dL_act_79 ?_
    refine lv_bipush (v := 16) hx hb dL_act_80 (by decide) ?_
    refine low_call (v := (v >>> (9 &&& 31))) (n := 16) (rest := []) S hG hP hS hz gL_act_L_low ⟨Nat.le_trans (Nat.le_of_ble_eq_true rfl) hRm.1, Nat.le_trans (Nat.le_of_ble_eq_true rfl) hRm.2⟩ hC (by decide) hl.1 (Nat.le_of_ble_eq_true rfl) dL_act_82 (fun H locs hP hS => ?_)
    refine lv_iconst (v := 3) hx hb dL_act_85 (by decide) ?_
    refine lv_isub hx hb dL_act_86 ?_
    refine lv_goto (tgt := 98) hx hb dL_act_87 (by decide) ?_
    refine lv_istore (lv' := [(6, .int ((lw (v >>> (9 &&& 31)) 16) - 3)), (5, .int ((lw (v >>> (7 &&& 31)) 14) - 3)), (4, .int ((lw (v >>> (4 &&& 31)) 36) - 3)), (3, .int 1), (0, .ref (a 0)), (1, .int v), (2, .int now)]) hx hb dL_act_98 hl (by decide) rfl (fun ls hl => ?_)
    refine lv_iload_n hx hb dL_act_100 rfl (lv_at hl 3 rfl) ?_
    refine lv_if_eq (tgt := 111) hx hb dL_act_101 (by decide) (fun h => absurd h (by decide)) (fun _ => ?_)
    refine lv_iload_n hx hb dL_act_104 rfl (lv_at hl 5 rfl) ?_
    refine lv_bipush (v := 9) hx hb dL_act_105 (by decide) ?_
    refine lv_ishr hx hb dL_act_107 ?_
    refine lv_goto (tgt := 120) hx hb dL_act_108 (by decide) ?_
    refine lv_istore (lv' := [(7, .int (v >>> (9 &&& 31))), (6, .int ((lw (v >>> (9 &&& 31)) 16) - 3)), (5, .int ((lw (v >>> (7 &&& 31)) 14) - 3)), (4, .int ((lw (v >>> (4 &&& 31)) 36) - 3)), (3, .int 1), (0, .ref (a 0)), (1, .int v), (2, .int now)]) hx hb dL_act_120 hl (by decide) rfl (fun ls hl => ?_)
    refine lv_iload_n hx hb dL_act_122 rfl (lv_at hl 4 rfl) ?_
    refine lv_if_eq (tgt := 133) hx hb dL_act_123 (by decide) (fun h => absurd h (by decide)) (fun _ => ?_)
    refine lv_iload_n hx hb dL_act_126 rfl (lv_at hl 6 rfl) ?_
    refine lv_bipush (v := 6) hx hb dL_act_127 (by decide) ?_
    refine lv_ishr hx hb dL_act_129 ?_
    refine lv_goto (tgt := 156) hx hb dL_act_130 (by decide) ?_
    refine lv_istore (lv' := [(8, .int (v >>> (6 &&& 31))), (7, .int (v >>> (9 &&& 31))), (6, .int ((lw (v >>> (9 &&& 31)) 16) - 3)), (5, .int ((lw (v >>> (7 &&& 31)) 14) - 3)), (4, .int ((lw (v >>> (4 &&& 31)) 36) - 3)), (3, .int 1), (0, .ref (a 0)), (1, .int v), (2, .int now)]) hx hb dL_act_156 hl (by decide) rfl (fun ls hl => ?_)
    refine lv_iload_n hx hb dL_act_158 rfl (lv_at hl 7 rfl) ?_
    refine lv_bipush (v := 34) hx hb dL_act_159 (by decide) ?_
    refine low_call (v := v) (n := 34) (rest := []) S hG hP hS hz gL_act_L_low ⟨Nat.le_trans (Nat.le_of_ble_eq_true rfl) hRm.1, Nat.le_trans (Nat.le_of_ble_eq_true rfl) hRm.2⟩ hC (by decide) hl.1 (Nat.le_of_ble_eq_true rfl) dL_act_161 (fun H locs hP hS => ?_)
    exact kk H locs ls hP hS hl
  · simp only [if_neg h0] at kk
    by_cases h1 : now < 20
    · simp only [if_pos h1] at kk
      refine lv_iload_n hx hb dL_act_0 rfl (lv_at hl 1 rfl) ?_
      refine lv_bipush (v := 26) hx hb dL_act_1 (by decide) ?_
      refine lv_ishr hx hb dL_act_3 ?_
      refine lv_bipush (v := 14) hx hb dL_act_4 (by decide) ?_
      refine low_call (v := (v >>> (26 &&& 31))) (n := 14) (rest := []) S hG hP hS hz gL_act_L_low ⟨Nat.le_trans (Nat.le_of_ble_eq_true rfl) hRm.1, Nat.le_trans (Nat.le_of_ble_eq_true rfl) hRm.2⟩ hC (by decide) hl.1 (Nat.le_of_ble_eq_true rfl) dL_act_6 (fun H locs hP hS => ?_)
      refine lv_if_ne (tgt := 16) hx hb dL_act_9 (by decide) (fun _ => ?_) (fun h => absurd h h0)
      refine lv_iconst (v := 0) hx hb dL_act_16 (by decide) ?_
      refine lv_istore_n (lv' := [(3, .int 0), (0, .ref (a 0)), (1, .int v), (2, .int now)]) hx hb dL_act_17 rfl hl (by decide) rfl (fun ls hl => ?_)
      refine lv_iload_n hx hb dL_act_18 rfl (lv_at hl 0 rfl) ?_
      refine lv_if_eq (tgt := 35) hx hb dL_act_19 (by decide) (fun _ => ?_) (fun h => absurd (by decide) h)
      refine lv_iload_n hx hb dL_act_35 rfl (lv_at hl 2 rfl) ?_
      refine lv_iconst (v := 4) hx hb dL_act_36 (by decide) ?_
      refine lv_ishr hx hb dL_act_37 ?_
      refine lv_iconst (v := 4) hx hb dL_act_38 (by decide) ?_
      refine low_call (v := (v >>> (4 &&& 31))) (n := 4) (rest := []) S hG hP hS hz gL_act_L_low ⟨Nat.le_trans (Nat.le_of_ble_eq_true rfl) hRm.1, Nat.le_trans (Nat.le_of_ble_eq_true rfl) hRm.2⟩ hC (by decide) hl.1 (Nat.le_of_ble_eq_true rfl) dL_act_39 (fun H locs hP hS => ?_)
      refine lv_istore (lv' := [(4, .int (lw (v >>> (4 &&& 31)) 4)), (3, .int 0), (0, .ref (a 0)), (1, .int v), (2, .int now)]) hx hb dL_act_42 hl (by decide) rfl (fun ls hl => ?_)
      refine lv_iload_n hx hb dL_act_44 rfl (lv_at hl 1 rfl) ?_
      refine lv_if_eq (tgt := 62) hx hb dL_act_45 (by decide) (fun _ => ?_) (fun h => absurd (by decide) h)
      refine lv_iload_n hx hb dL_act_62 rfl (lv_at hl 3 rfl) ?_
      refine lv_bipush (v := 7) hx hb dL_act_63 (by decide) ?_
      refine lv_ishr hx hb dL_act_65 ?_
      refine lv_iconst (v := 3) hx hb dL_act_66 (by decide) ?_
      refine low_call (v := (v >>> (7 &&& 31))) (n := 3) (rest := []) S hG hP hS hz gL_act_L_low ⟨Nat.le_trans (Nat.le_of_ble_eq_true rfl) hRm.1, Nat.le_trans (Nat.le_of_ble_eq_true rfl) hRm.2⟩ hC (by decide) hl.1 (Nat.le_of_ble_eq_true rfl) dL_act_67 (fun H locs hP hS => ?_)
      refine lv_istore (lv' := [(5, .int (lw (v >>> (7 &&& 31)) 3)), (4, .int (lw (v >>> (4 &&& 31)) 4)), (3, .int 0), (0, .ref (a 0)), (1, .int v), (2, .int now)]) hx hb dL_act_70 hl (by decide) rfl (fun ls hl => ?_)
      refine lv_iload_n hx hb dL_act_72 rfl (lv_at hl 2 rfl) ?_
      refine lv_if_eq (tgt := 90) hx hb dL_act_73 (by decide) (fun _ => ?_) (fun h => absurd (by decide) h)
      refine lv_iload_n hx hb dL_act_90 rfl (lv_at hl 4 rfl) ?_
      refine lv_bipush (v := 9) hx hb dL_act_91 (by decide) ?_
      refine lv_ishr hx hb dL_act_93 ?_
      refine lv_iconst (v := 3) hx hb dL_act_94 (by decide) ?_
      refine low_call (v := (v >>> (9 &&& 31))) (n := 3) (rest := []) S hG hP hS hz gL_act_L_low ⟨Nat.le_trans (Nat.le_of_ble_eq_true rfl) hRm.1, Nat.le_trans (Nat.le_of_ble_eq_true rfl) hRm.2⟩ hC (by decide) hl.1 (Nat.le_of_ble_eq_true rfl) dL_act_95 (fun H locs hP hS => ?_)
      refine lv_istore (lv' := [(6, .int (lw (v >>> (9 &&& 31)) 3)), (5, .int (lw (v >>> (7 &&& 31)) 3)), (4, .int (lw (v >>> (4 &&& 31)) 4)), (3, .int 0), (0, .ref (a 0)), (1, .int v), (2, .int now)]) hx hb dL_act_98 hl (by decide) rfl (fun ls hl => ?_)
      refine lv_iload_n hx hb dL_act_100 rfl (lv_at hl 3 rfl) ?_
      refine lv_if_eq (tgt := 111) hx hb dL_act_101 (by decide) (fun _ => ?_) (fun h => absurd (by decide) h)
      refine lv_iload_n hx hb dL_act_111 rfl (lv_at hl 5 rfl) ?_
      refine lv_bipush (v := 9) hx hb dL_act_112 (by decide) ?_
      refine lv_ishr hx hb dL_act_114 ?_
      refine lv_bipush (v := 9) hx hb dL_act_115 (by decide) ?_
      refine low_call (v := (v >>> (9 &&& 31))) (n := 9) (rest := []) S hG hP hS hz gL_act_L_low ⟨Nat.le_trans (Nat.le_of_ble_eq_true rfl) hRm.1, Nat.le_trans (Nat.le_of_ble_eq_true rfl) hRm.2⟩ hC (by decide) hl.1 (Nat.le_of_ble_eq_true rfl) dL_act_117 (fun H locs hP hS => ?_)
      refine lv_istore (lv' := [(7, .int (lw (v >>> (9 &&& 31)) 9)), (6, .int (lw (v >>> (9 &&& 31)) 3)), (5, .int (lw (v >>> (7 &&& 31)) 3)), (4, .int (lw (v >>> (4 &&& 31)) 4)), (3, .int 0), (0, .ref (a 0)), (1, .int v), (2, .int now)]) hx hb dL_act_120 hl (by decide) rfl (fun ls hl => ?_)
      refine lv_iload_n hx hb dL_act_122 rfl (lv_at hl 4 rfl) ?_
      refine lv_if_eq (tgt := 133) hx hb dL_act_123 (by decide) (fun _ => ?_) (fun h => absurd (by decide) h)
      refine lv_iload_n hx hb dL_act_133 rfl (lv_at hl 7 rfl) ?_
      refine lv_iload_n hx hb dL_act_134 rfl (lv_at hl 6 rfl) ?_
      refine lv_bipush (v := 12) hx hb dL_act_135 (by decide) ?_
      refine lv_ishr hx hb dL_act_137 ?_
      refine lv_iconst (v := 1) hx hb dL_act_138 (by decide) ?_
      refine lv_iload_n hx hb dL_act_139 rfl (lv_at hl 7 rfl) ?_
      refine lv_bipush (v := 20) hx hb dL_act_140 (by decide) ?_
      refine lv_icmp_ge (tgt := 149) hx hb dL_act_142 (by decide) (fun h => absurd h (fun q => (Int32.not_lt.mpr q) h1)) (fun _ => ?_)
      refine lv_iload_n hx hb dL_act_145 rfl (lv_at hl 7 rfl) ?_
      refine lv_goto (tgt := 151) hx hb dL_act_146 (by decide) ?_
      refine lv_iadd hx hb dL_act_151 ?_
      refine low_call (v := (v >>> (12 &&& 31))) (n := (1 + now)) (rest := [.int now]) S hG hP hS hz gL_act_L_low ⟨Nat.le_trans (Nat.le_of_ble_eq_true rfl) hRm.1, Nat.le_trans (Nat.le_of_ble_eq_true rfl) hRm.2⟩ hC hn1 hl.1 (Nat.le_of_ble_eq_true rfl) dL_act_152 (fun H locs hP hS => ?_)
      refine lv_isub hx hb dL_act_155 ?_
      refine lv_istore (lv' := [(8, .int (now - (lw (v >>> (12 &&& 31)) (1 + now)))), (7, .int (lw (v >>> (9 &&& 31)) 9)), (6, .int (lw (v >>> (9 &&& 31)) 3)), (5, .int (lw (v >>> (7 &&& 31)) 3)), (4, .int (lw (v >>> (4 &&& 31)) 4)), (3, .int 0), (0, .ref (a 0)), (1, .int v), (2, .int now)]) hx hb dL_act_156 hl (by decide) rfl (fun ls hl => ?_)
      refine lv_iload_n hx hb dL_act_158 rfl (lv_at hl 7 rfl) ?_
      refine lv_bipush (v := 34) hx hb dL_act_159 (by decide) ?_
      refine low_call (v := v) (n := 34) (rest := []) S hG hP hS hz gL_act_L_low ⟨Nat.le_trans (Nat.le_of_ble_eq_true rfl) hRm.1, Nat.le_trans (Nat.le_of_ble_eq_true rfl) hRm.2⟩ hC (by decide) hl.1 (Nat.le_of_ble_eq_true rfl) dL_act_161 (fun H locs hP hS => ?_)
      exact kk H locs ls hP hS hl
    · simp only [if_neg h1] at kk
      refine lv_iload_n hx hb dL_act_0 rfl (lv_at hl 1 rfl) ?_
      refine lv_bipush (v := 26) hx hb dL_act_1 (by decide) ?_
      refine lv_ishr hx hb dL_act_3 ?_
      refine lv_bipush (v := 14) hx hb dL_act_4 (by decide) ?_
      refine low_call (v := (v >>> (26 &&& 31))) (n := 14) (rest := []) S hG hP hS hz gL_act_L_low ⟨Nat.le_trans (Nat.le_of_ble_eq_true rfl) hRm.1, Nat.le_trans (Nat.le_of_ble_eq_true rfl) hRm.2⟩ hC (by decide) hl.1 (Nat.le_of_ble_eq_true rfl) dL_act_6 (fun H locs hP hS => ?_)
      refine lv_if_ne (tgt := 16) hx hb dL_act_9 (by decide) (fun _ => ?_) (fun h => absurd h h0)
      refine lv_iconst (v := 0) hx hb dL_act_16 (by decide) ?_
      refine lv_istore_n (lv' := [(3, .int 0), (0, .ref (a 0)), (1, .int v), (2, .int now)]) hx hb dL_act_17 rfl hl (by decide) rfl (fun ls hl => ?_)
      refine lv_iload_n hx hb dL_act_18 rfl (lv_at hl 0 rfl) ?_
      refine lv_if_eq (tgt := 35) hx hb dL_act_19 (by decide) (fun _ => ?_) (fun h => absurd (by decide) h)
      refine lv_iload_n hx hb dL_act_35 rfl (lv_at hl 2 rfl) ?_
      refine lv_iconst (v := 4) hx hb dL_act_36 (by decide) ?_
      refine lv_ishr hx hb dL_act_37 ?_
      refine lv_iconst (v := 4) hx hb dL_act_38 (by decide) ?_
      refine low_call (v := (v >>> (4 &&& 31))) (n := 4) (rest := []) S hG hP hS hz gL_act_L_low ⟨Nat.le_trans (Nat.le_of_ble_eq_true rfl) hRm.1, Nat.le_trans (Nat.le_of_ble_eq_true rfl) hRm.2⟩ hC (by decide) hl.1 (Nat.le_of_ble_eq_true rfl) dL_act_39 (fun H locs hP hS => ?_)
      refine lv_istore (lv' := [(4, .int (lw (v >>> (4 &&& 31)) 4)), (3, .int 0), (0, .ref (a 0)), (1, .int v), (2, .int now)]) hx hb dL_act_42 hl (by decide) rfl (fun ls hl => ?_)
      refine lv_iload_n hx hb dL_act_44 rfl (lv_at hl 1 rfl) ?_
      refine lv_if_eq (tgt := 62) hx hb dL_act_45 (by decide) (fun _ => ?_) (fun h => absurd (by decide) h)
      refine lv_iload_n hx hb dL_act_62 rfl (lv_at hl 3 rfl) ?_
      refine lv_bipush (v := 7) hx hb dL_act_63 (by decide) ?_
      refine lv_ishr hx hb dL_act_65 ?_
      refine lv_iconst (v := 3) hx hb dL_act_66 (by decide) ?_
      refine low_call (v := (v >>> (7 &&& 31))) (n := 3) (rest := []) S hG hP hS hz gL_act_L_low ⟨Nat.le_trans (Nat.le_of_ble_eq_true rfl) hRm.1, Nat.le_trans (Nat.le_of_ble_eq_true rfl) hRm.2⟩ hC (by decide) hl.1 (Nat.le_of_ble_eq_true rfl) dL_act_67 (fun H locs hP hS => ?_)
      refine lv_istore (lv' := [(5, .int (lw (v >>> (7 &&& 31)) 3)), (4, .int (lw (v >>> (4 &&& 31)) 4)), (3, .int 0), (0, .ref (a 0)), (1, .int v), (2, .int now)]) hx hb dL_act_70 hl (by decide) rfl (fun ls hl => ?_)
      refine lv_iload_n hx hb dL_act_72 rfl (lv_at hl 2 rfl) ?_
      refine lv_if_eq (tgt := 90) hx hb dL_act_73 (by decide) (fun _ => ?_) (fun h => absurd (by decide) h)
      refine lv_iload_n hx hb dL_act_90 rfl (lv_at hl 4 rfl) ?_
      refine lv_bipush (v := 9) hx hb dL_act_91 (by decide) ?_
      refine lv_ishr hx hb dL_act_93 ?_
      refine lv_iconst (v := 3) hx hb dL_act_94 (by decide) ?_
      refine low_call (v := (v >>> (9 &&& 31))) (n := 3) (rest := []) S hG hP hS hz gL_act_L_low ⟨Nat.le_trans (Nat.le_of_ble_eq_true rfl) hRm.1, Nat.le_trans (Nat.le_of_ble_eq_true rfl) hRm.2⟩ hC (by decide) hl.1 (Nat.le_of_ble_eq_true rfl) dL_act_95 (fun H locs hP hS => ?_)
      refine lv_istore (lv' := [(6, .int (lw (v >>> (9 &&& 31)) 3)), (5, .int (lw (v >>> (7 &&& 31)) 3)), (4, .int (lw (v >>> (4 &&& 31)) 4)), (3, .int 0), (0, .ref (a 0)), (1, .int v), (2, .int now)]) hx hb dL_act_98 hl (by decide) rfl (fun ls hl => ?_)
      refine lv_iload_n hx hb dL_act_100 rfl (lv_at hl 3 rfl) ?_
      refine lv_if_eq (tgt := 111) hx hb dL_act_101 (by decide) (fun _ => ?_) (fun h => absurd (by decide) h)
      refine lv_iload_n hx hb dL_act_111 rfl (lv_at hl 5 rfl) ?_
      refine lv_bipush (v := 9) hx hb dL_act_112 (by decide) ?_
      refine lv_ishr hx hb dL_act_114 ?_
      refine lv_bipush (v := 9) hx hb dL_act_115 (by decide) ?_
      refine low_call (v := (v >>> (9 &&& 31))) (n := 9) (rest := []) S hG hP hS hz gL_act_L_low ⟨Nat.le_trans (Nat.le_of_ble_eq_true rfl) hRm.1, Nat.le_trans (Nat.le_of_ble_eq_true rfl) hRm.2⟩ hC (by decide) hl.1 (Nat.le_of_ble_eq_true rfl) dL_act_117 (fun H locs hP hS => ?_)
      refine lv_istore (lv' := [(7, .int (lw (v >>> (9 &&& 31)) 9)), (6, .int (lw (v >>> (9 &&& 31)) 3)), (5, .int (lw (v >>> (7 &&& 31)) 3)), (4, .int (lw (v >>> (4 &&& 31)) 4)), (3, .int 0), (0, .ref (a 0)), (1, .int v), (2, .int now)]) hx hb dL_act_120 hl (by decide) rfl (fun ls hl => ?_)
      refine lv_iload_n hx hb dL_act_122 rfl (lv_at hl 4 rfl) ?_
      refine lv_if_eq (tgt := 133) hx hb dL_act_123 (by decide) (fun _ => ?_) (fun h => absurd (by decide) h)
      refine lv_iload_n hx hb dL_act_133 rfl (lv_at hl 7 rfl) ?_
      refine lv_iload_n hx hb dL_act_134 rfl (lv_at hl 6 rfl) ?_
      refine lv_bipush (v := 12) hx hb dL_act_135 (by decide) ?_
      refine lv_ishr hx hb dL_act_137 ?_
      refine lv_iconst (v := 1) hx hb dL_act_138 (by decide) ?_
      refine lv_iload_n hx hb dL_act_139 rfl (lv_at hl 7 rfl) ?_
      refine lv_bipush (v := 20) hx hb dL_act_140 (by decide) ?_
      refine lv_icmp_ge (tgt := 149) hx hb dL_act_142 (by decide) (fun _ => ?_) (fun h => absurd (Int32.not_lt.mp h1) h)
      refine lv_bipush (v := 20) hx hb dL_act_149 (by decide) ?_
      refine lv_iadd hx hb dL_act_151 ?_
      refine low_call (v := (v >>> (12 &&& 31))) (n := (1 + 20)) (rest := [.int now]) S hG hP hS hz gL_act_L_low ⟨Nat.le_trans (Nat.le_of_ble_eq_true rfl) hRm.1, Nat.le_trans (Nat.le_of_ble_eq_true rfl) hRm.2⟩ hC (by decide) hl.1 (Nat.le_of_ble_eq_true rfl) dL_act_152 (fun H locs hP hS => ?_)
      refine lv_isub hx hb dL_act_155 ?_
      refine lv_istore (lv' := [(8, .int (now - (lw (v >>> (12 &&& 31)) (1 + 20)))), (7, .int (lw (v >>> (9 &&& 31)) 9)), (6, .int (lw (v >>> (9 &&& 31)) 3)), (5, .int (lw (v >>> (7 &&& 31)) 3)), (4, .int (lw (v >>> (4 &&& 31)) 4)), (3, .int 0), (0, .ref (a 0)), (1, .int v), (2, .int now)]) hx hb dL_act_156 hl (by decide) rfl (fun ls hl => ?_)
      refine lv_iload_n hx hb dL_act_158 rfl (lv_at hl 7 rfl) ?_
      refine lv_bipush (v := 34) hx hb dL_act_159 (by decide) ?_
      refine low_call (v := v) (n := 34) (rest := []) S hG hP hS hz gL_act_L_low ⟨Nat.le_trans (Nat.le_of_ble_eq_true rfl) hRm.1, Nat.le_trans (Nat.le_of_ble_eq_true rfl) hRm.2⟩ hC (by decide) hl.1 (Nat.le_of_ble_eq_true rfl) dL_act_161 (fun H locs hP hS => ?_)
      exact kk H locs ls hP hS hl
end ACTW
/-- the rest of act from a place on -/
def Tl (l : Launch) (D : va_G) (cI : ClassId) (σ : Sg) (v now : Int32) (tgt : Nat) (k : Int32) (σ' : Sg) (mc ms : Nat) : Prop :=
  ∀ (p : Program) (e : Env) (R : Room) (s : State) (m : MethodId) (args : Array Value) (below : List Frame) (meth : Method) (c : Code) (H : Heap) (locs : List Loc) (ls : Array Slot) (a : Nat → Nat) (sz : Nat), CallFix p m c cL_act 9 s args wsL_act RL → GW D cI 29 a (wX cI a) s → va_P D vwCl (wX cI a σ) H → va_S (AX 29 a sz) s.heap H locs → s.heap.size = sz → EX (AX 29 a sz) s → EC s → meth.sig.returnType = some .int → meth.locks = false → 9 ≤ R.frames ∧ 240 ≤ R.locals → mc ≤ R.cells ∧ ms ≤ R.slots → lv_has ls 9 (lvA a v now) →
    W p l e R s m args below meth c H locs 0 0 (MQ below (QiW D 29 a (wX cI a) sz k σ') args s mc ms (AX 29 a sz)) (F0 m tgt ls [])
def TlE (l : Launch) (D : va_G) (cI : ClassId) (σ : Sg) (v now : Int32) (tgt : Nat) (k : Int32) (σ' : Sg) : Prop := ∃ mc ms, mc ≤ 1 ∧ ms ≤ 6 ∧ (k ≠ -99999999 → mc = 0 ∧ ms = 0) ∧ Tl l D cI σ v now tgt k σ' mc ms
set_option maxHeartbeats 4000000 in
theorem T_docks {l : Launch} {D : va_G} {cI : ClassId} {σ σ' : Sg} {v now k : Int32} (hA : Act 8 200 l D cI yL_docks wsL_docks [.int (plF v), .int (muF v)] σ k σ') : TlE l D cI σ v now 312 k σ' := by
  obtain ⟨rm, mc, ms, hM, hrc, hrs, h1, h2, h3, hfr, hlo⟩ := hA
  refine ⟨mc, ms, h1, h2, h3, ?_⟩
  intro p e R s m args below meth c H locs ls a sz S hG hP hS hz hE hEC hr hlk hRm hCm hl
  have hx := S.1
  have hb := S.2.1
  have hC : 0 ≤ R.cells ∧ 0 ≤ R.slots := ⟨Nat.zero_le _, Nat.zero_le _⟩
  refine lv_aload_n hx hb dL_act_312 rfl (lv_at hl 6 rfl) ?_
  refine lv_iload hx hb dL_act_313 (lv_at hl 3 rfl) ?_
  refine lv_iload hx hb dL_act_315 (lv_at hl 1 rfl) ?_
  refine w_call (n := 3) (As := [.ref (a 0), .int (plF v), .int (muF v)]) (rest := []) S hG hP hS hz hE hEC (hM a H.size) hrc hrs gL_act_L_docks rfl (by decide +kernel) ⟨by omega, by omega⟩ rfl hl.1 rfl (Nat.le_of_ble_eq_true rfl) ⟨by omega, by omega⟩ dL_act_317 (fun H locs hP hS => ?_)
  rw [Nat.zero_add, Nat.zero_add]
  exact x_iret (σ := σ') S.1 S.2.1 hr hlk hz hP hS rfl rfl rfl dL_act_320
set_option maxHeartbeats 4000000 in
theorem T_put {l : Launch} {D : va_G} {cI : ClassId} {σ σ' : Sg} {v now k : Int32} (hA : Act 8 200 l D cI yL_put wsL_put [.int (cyF v), .int (plF v)] σ k σ') : TlE l D cI σ v now 321 k σ' := by
  obtain ⟨rm, mc, ms, hM, hrc, hrs, h1, h2, h3, hfr, hlo⟩ := hA
  refine ⟨mc, ms, h1, h2, h3, ?_⟩
  intro p e R s m args below meth c H locs ls a sz S hG hP hS hz hE hEC hr hlk hRm hCm hl
  have hx := S.1
  have hb := S.2.1
  have hC : 0 ≤ R.cells ∧ 0 ≤ R.slots := ⟨Nat.zero_le _, Nat.zero_le _⟩
  refine lv_aload_n hx hb dL_act_321 rfl (lv_at hl 6 rfl) ?_
  refine lv_iload hx hb dL_act_322 (lv_at hl 4 rfl) ?_
  refine lv_iload hx hb dL_act_324 (lv_at hl 3 rfl) ?_
  refine w_call (n := 3) (As := [.ref (a 0), .int (cyF v), .int (plF v)]) (rest := []) S hG hP hS hz hE hEC (hM a H.size) hrc hrs gL_act_L_put rfl (by decide +kernel) ⟨by omega, by omega⟩ rfl hl.1 rfl (Nat.le_of_ble_eq_true rfl) ⟨by omega, by omega⟩ dL_act_326 (fun H locs hP hS => ?_)
  rw [Nat.zero_add, Nat.zero_add]
  exact x_iret (σ := σ') S.1 S.2.1 hr hlk hz hP hS rfl rfl rfl dL_act_329
set_option maxHeartbeats 4000000 in
theorem T_take {l : Launch} {D : va_G} {cI : ClassId} {σ σ' : Sg} {v now k : Int32} (hA : Act 8 200 l D cI yL_take wsL_take [.int (cyF v)] σ k σ') : TlE l D cI σ v now 330 k σ' := by
  obtain ⟨rm, mc, ms, hM, hrc, hrs, h1, h2, h3, hfr, hlo⟩ := hA
  refine ⟨mc, ms, h1, h2, h3, ?_⟩
  intro p e R s m args below meth c H locs ls a sz S hG hP hS hz hE hEC hr hlk hRm hCm hl
  have hx := S.1
  have hb := S.2.1
  have hC : 0 ≤ R.cells ∧ 0 ≤ R.slots := ⟨Nat.zero_le _, Nat.zero_le _⟩
  refine lv_aload_n hx hb dL_act_330 rfl (lv_at hl 6 rfl) ?_
  refine lv_iload hx hb dL_act_331 (lv_at hl 4 rfl) ?_
  refine w_call (n := 2) (As := [.ref (a 0), .int (cyF v)]) (rest := []) S hG hP hS hz hE hEC (hM a H.size) hrc hrs gL_act_L_take rfl (by decide +kernel) ⟨by omega, by omega⟩ rfl hl.1 rfl (Nat.le_of_ble_eq_true rfl) ⟨by omega, by omega⟩ dL_act_333 (fun H locs hP hS => ?_)
  rw [Nat.zero_add, Nat.zero_add]
  exact x_iret (σ := σ') S.1 S.2.1 hr hlk hz hP hS rfl rfl rfl dL_act_336
set_option maxHeartbeats 4000000 in
theorem T_unlocked {l : Launch} {D : va_G} {cI : ClassId} {σ σ' : Sg} {v now k : Int32} (hA : Act 8 200 l D cI yL_unlocked wsL_unlocked [.int (cyF v), .int (riF v), .int (whF v now)] σ k σ') : TlE l D cI σ v now 337 k σ' := by
  obtain ⟨rm, mc, ms, hM, hrc, hrs, h1, h2, h3, hfr, hlo⟩ := hA
  refine ⟨mc, ms, h1, h2, h3, ?_⟩
  intro p e R s m args below meth c H locs ls a sz S hG hP hS hz hE hEC hr hlk hRm hCm hl
  have hx := S.1
  have hb := S.2.1
  have hC : 0 ≤ R.cells ∧ 0 ≤ R.slots := ⟨Nat.zero_le _, Nat.zero_le _⟩
  refine lv_aload_n hx hb dL_act_337 rfl (lv_at hl 6 rfl) ?_
  refine lv_iload hx hb dL_act_338 (lv_at hl 4 rfl) ?_
  refine lv_iload hx hb dL_act_340 (lv_at hl 2 rfl) ?_
  refine lv_iload hx hb dL_act_342 (lv_at hl 0 rfl) ?_
  refine w_call (n := 4) (As := [.ref (a 0), .int (cyF v), .int (riF v), .int (whF v now)]) (rest := []) S hG hP hS hz hE hEC (hM a H.size) hrc hrs gL_act_L_unlocked rfl (by decide +kernel) ⟨by omega, by omega⟩ rfl hl.1 rfl (Nat.le_of_ble_eq_true rfl) ⟨by omega, by omega⟩ dL_act_344 (fun H locs hP hS => ?_)
  rw [Nat.zero_add, Nat.zero_add]
  exact x_iret (σ := σ') S.1 S.2.1 hr hlk hz hP hS rfl rfl rfl dL_act_347
set_option maxHeartbeats 4000000 in
theorem T_locked {l : Launch} {D : va_G} {cI : ClassId} {σ σ' : Sg} {v now k : Int32} (hA : Act 8 200 l D cI yL_locked wsL_locked [.int (cyF v), .int (plF v), .int (whF v now)] σ k σ') : TlE l D cI σ v now 348 k σ' := by
  obtain ⟨rm, mc, ms, hM, hrc, hrs, h1, h2, h3, hfr, hlo⟩ := hA
  refine ⟨mc, ms, h1, h2, h3, ?_⟩
  intro p e R s m args below meth c H locs ls a sz S hG hP hS hz hE hEC hr hlk hRm hCm hl
  have hx := S.1
  have hb := S.2.1
  have hC : 0 ≤ R.cells ∧ 0 ≤ R.slots := ⟨Nat.zero_le _, Nat.zero_le _⟩
  refine lv_aload_n hx hb dL_act_348 rfl (lv_at hl 6 rfl) ?_
  refine lv_iload hx hb dL_act_349 (lv_at hl 4 rfl) ?_
  refine lv_iload hx hb dL_act_351 (lv_at hl 3 rfl) ?_
  refine lv_iload hx hb dL_act_353 (lv_at hl 0 rfl) ?_
  refine w_call (n := 4) (As := [.ref (a 0), .int (cyF v), .int (plF v), .int (whF v now)]) (rest := []) S hG hP hS hz hE hEC (hM a H.size) hrc hrs gL_act_L_locked rfl (by decide +kernel) ⟨by omega, by omega⟩ rfl hl.1 rfl (Nat.le_of_ble_eq_true rfl) ⟨by omega, by omega⟩ dL_act_355 (fun H locs hP hS => ?_)
  rw [Nat.zero_add, Nat.zero_add]
  exact x_iret (σ := σ') S.1 S.2.1 hr hlk hz hP hS rfl rfl rfl dL_act_358
set_option maxHeartbeats 4000000 in
theorem T_faulty {l : Launch} {D : va_G} {cI : ClassId} {σ σ' : Sg} {v now k : Int32} (hA : Act 8 200 l D cI yL_faulty wsL_faulty [.int (cyF v), .int (riF v), .int (whF v now)] σ k σ') : TlE l D cI σ v now 359 k σ' := by
  obtain ⟨rm, mc, ms, hM, hrc, hrs, h1, h2, h3, hfr, hlo⟩ := hA
  refine ⟨mc, ms, h1, h2, h3, ?_⟩
  intro p e R s m args below meth c H locs ls a sz S hG hP hS hz hE hEC hr hlk hRm hCm hl
  have hx := S.1
  have hb := S.2.1
  have hC : 0 ≤ R.cells ∧ 0 ≤ R.slots := ⟨Nat.zero_le _, Nat.zero_le _⟩
  refine lv_aload_n hx hb dL_act_359 rfl (lv_at hl 6 rfl) ?_
  refine lv_iload hx hb dL_act_360 (lv_at hl 4 rfl) ?_
  refine lv_iload hx hb dL_act_362 (lv_at hl 2 rfl) ?_
  refine lv_iload hx hb dL_act_364 (lv_at hl 0 rfl) ?_
  refine w_call (n := 4) (As := [.ref (a 0), .int (cyF v), .int (riF v), .int (whF v now)]) (rest := []) S hG hP hS hz hE hEC (hM a H.size) hrc hrs gL_act_L_faulty rfl (by decide +kernel) ⟨by omega, by omega⟩ rfl hl.1 rfl (Nat.le_of_ble_eq_true rfl) ⟨by omega, by omega⟩ dL_act_366 (fun H locs hP hS => ?_)
  rw [Nat.zero_add, Nat.zero_add]
  exact x_iret (σ := σ') S.1 S.2.1 hr hlk hz hP hS rfl rfl rfl dL_act_369
set_option maxHeartbeats 4000000 in
theorem T_mend {l : Launch} {D : va_G} {cI : ClassId} {σ σ' : Sg} {v now k : Int32} (hA : Act 8 200 l D cI yL_mend wsL_mend [.int (cyF v)] σ k σ') : TlE l D cI σ v now 370 k σ' := by
  obtain ⟨rm, mc, ms, hM, hrc, hrs, h1, h2, h3, hfr, hlo⟩ := hA
  refine ⟨mc, ms, h1, h2, h3, ?_⟩
  intro p e R s m args below meth c H locs ls a sz S hG hP hS hz hE hEC hr hlk hRm hCm hl
  have hx := S.1
  have hb := S.2.1
  have hC : 0 ≤ R.cells ∧ 0 ≤ R.slots := ⟨Nat.zero_le _, Nat.zero_le _⟩
  refine lv_aload_n hx hb dL_act_370 rfl (lv_at hl 6 rfl) ?_
  refine lv_iload hx hb dL_act_371 (lv_at hl 4 rfl) ?_
  refine w_call (n := 2) (As := [.ref (a 0), .int (cyF v)]) (rest := []) S hG hP hS hz hE hEC (hM a H.size) hrc hrs gL_act_L_mend rfl (by decide +kernel) ⟨by omega, by omega⟩ rfl hl.1 rfl (Nat.le_of_ble_eq_true rfl) ⟨by omega, by omega⟩ dL_act_373 (fun H locs hP hS => ?_)
  rw [Nat.zero_add, Nat.zero_add]
  exact x_iret (σ := σ') S.1 S.2.1 hr hlk hz hP hS rfl rfl rfl dL_act_376
set_option maxHeartbeats 4000000 in
theorem T_price {l : Launch} {D : va_G} {cI : ClassId} {σ σ' : Sg} {v now k : Int32} (hA : Act 8 200 l D cI yL_price wsL_price [.int (if odF v = 0 then 3 * muF v else muF v)] σ k σ') : TlE l D cI σ v now 377 k σ' := by
  obtain ⟨rm, mc, ms, hM, hrc, hrs, h1, h2, h3, hfr, hlo⟩ := hA
  refine ⟨mc, ms, h1, h2, h3, ?_⟩
  intro p e R s m args below meth c H locs ls a sz S hG hP hS hz hE hEC hr hlk hRm hCm hl
  have hx := S.1
  have hb := S.2.1
  have hC : 0 ≤ R.cells ∧ 0 ≤ R.slots := ⟨Nat.zero_le _, Nat.zero_le _⟩
  by_cases h0 : odF v = 0
  · simp only [if_pos h0] at hM
    refine lv_aload_n hx hb dL_act_377 rfl (lv_at hl 6 rfl) ?_
    refine lv_iload_n hx hb dL_act_378 rfl (lv_at hl 5 rfl) ?_
    refine lv_if_eq (tgt := 387) hx hb dL_act_379 (by decide) (fun _ => ?_) (fun h => absurd h0 h)
    refine lv_iconst (v := 3) hx hb dL_act_387 (by decide) ?_
    refine lv_iload hx hb dL_act_388 (lv_at hl 1 rfl) ?_
    refine lv_imul hx hb dL_act_390 ?_
    refine w_call (n := 2) (As := [.ref (a 0), .int (3 * (muF v))]) (rest := []) S hG hP hS hz hE hEC (hM a H.size) hrc hrs gL_act_L_price rfl (by decide +kernel) ⟨by omega, by omega⟩ rfl hl.1 rfl (Nat.le_of_ble_eq_true rfl) ⟨by omega, by omega⟩ dL_act_391 (fun H locs hP hS => ?_)
    rw [Nat.zero_add, Nat.zero_add]
    exact x_iret (σ := σ') S.1 S.2.1 hr hlk hz hP hS rfl rfl rfl dL_act_394
  · simp only [if_neg h0] at hM
    refine lv_aload_n hx hb dL_act_377 rfl (lv_at hl 6 rfl) ?_
    refine lv_iload_n hx hb dL_act_378 rfl (lv_at hl 5 rfl) ?_
    refine lv_if_eq (tgt := 387) hx hb dL_act_379 (by decide) (fun h => absurd h h0) (fun _ => ?_)
    refine lv_iload hx hb dL_act_382 (lv_at hl 1 rfl) ?_
    refine lv_goto (tgt := 391) hx hb dL_act_384 (by decide) ?_
    refine w_call (n := 2) (As := [.ref (a 0), .int (muF v)]) (rest := []) S hG hP hS hz hE hEC (hM a H.size) hrc hrs gL_act_L_price rfl (by decide +kernel) ⟨by omega, by omega⟩ rfl hl.1 rfl (Nat.le_of_ble_eq_true rfl) ⟨by omega, by omega⟩ dL_act_391 (fun H locs hP hS => ?_)
    rw [Nat.zero_add, Nat.zero_add]
    exact x_iret (σ := σ') S.1 S.2.1 hr hlk hz hP hS rfl rfl rfl dL_act_394
set_option maxHeartbeats 4000000 in
theorem T_promise {l : Launch} {D : va_G} {cI : ClassId} {σ σ' : Sg} {v now k : Int32} (hA : Act 8 200 l D cI yL_promise wsL_promise [.int (riF v), .int (plF v)] σ k σ') : TlE l D cI σ v now 395 k σ' := by
  obtain ⟨rm, mc, ms, hM, hrc, hrs, h1, h2, h3, hfr, hlo⟩ := hA
  refine ⟨mc, ms, h1, h2, h3, ?_⟩
  intro p e R s m args below meth c H locs ls a sz S hG hP hS hz hE hEC hr hlk hRm hCm hl
  have hx := S.1
  have hb := S.2.1
  have hC : 0 ≤ R.cells ∧ 0 ≤ R.slots := ⟨Nat.zero_le _, Nat.zero_le _⟩
  refine lv_aload_n hx hb dL_act_395 rfl (lv_at hl 6 rfl) ?_
  refine lv_iload hx hb dL_act_396 (lv_at hl 2 rfl) ?_
  refine lv_iload hx hb dL_act_398 (lv_at hl 3 rfl) ?_
  refine w_call (n := 3) (As := [.ref (a 0), .int (riF v), .int (plF v)]) (rest := []) S hG hP hS hz hE hEC (hM a H.size) hrc hrs gL_act_L_promise rfl (by decide +kernel) ⟨by omega, by omega⟩ rfl hl.1 rfl (Nat.le_of_ble_eq_true rfl) ⟨by omega, by omega⟩ dL_act_400 (fun H locs hP hS => ?_)
  rw [Nat.zero_add, Nat.zero_add]
  exact x_iret (σ := σ') S.1 S.2.1 hr hlk hz hP hS rfl rfl rfl dL_act_403
set_option maxHeartbeats 4000000 in
theorem T_pass {l : Launch} {D : va_G} {cI : ClassId} {σ σ' : Sg} {v now k : Int32} (hA : Act 8 200 l D cI yL_pass wsL_pass [.int (if odF v = 0 then 1 + 2 * muF v else muF v)] σ k σ') : TlE l D cI σ v now 404 k σ' := by
  obtain ⟨rm, mc, ms, hM, hrc, hrs, h1, h2, h3, hfr, hlo⟩ := hA
  refine ⟨mc, ms, h1, h2, h3, ?_⟩
  intro p e R s m args below meth c H locs ls a sz S hG hP hS hz hE hEC hr hlk hRm hCm hl
  have hx := S.1
  have hb := S.2.1
  have hC : 0 ≤ R.cells ∧ 0 ≤ R.slots := ⟨Nat.zero_le _, Nat.zero_le _⟩
  by_cases h0 : odF v = 0
  · simp only [if_pos h0] at hM
    refine lv_aload_n hx hb dL_act_404 rfl (lv_at hl 6 rfl) ?_
    refine lv_iload_n hx hb dL_act_405 rfl (lv_at hl 5 rfl) ?_
    refine lv_if_eq (tgt := 414) hx hb dL_act_406 (by decide) (fun _ => ?_) (fun h => absurd h0 h)
    refine lv_iconst (v := 1) hx hb dL_act_414 (by decide) ?_
    refine lv_iconst (v := 2) hx hb dL_act_415 (by decide) ?_
    refine lv_iload hx hb dL_act_416 (lv_at hl 1 rfl) ?_
    refine lv_imul hx hb dL_act_418 ?_
    refine lv_iadd hx hb dL_act_419 ?_
    refine w_call (n := 2) (As := [.ref (a 0), .int (1 + (2 * (muF v)))]) (rest := []) S hG hP hS hz hE hEC (hM a H.size) hrc hrs gL_act_L_pass rfl (by decide +kernel) ⟨by omega, by omega⟩ rfl hl.1 rfl (Nat.le_of_ble_eq_true rfl) ⟨by omega, by omega⟩ dL_act_420 (fun H locs hP hS => ?_)
    rw [Nat.zero_add, Nat.zero_add]
    exact x_iret (σ := σ') S.1 S.2.1 hr hlk hz hP hS rfl rfl rfl dL_act_423
  · simp only [if_neg h0] at hM
    refine lv_aload_n hx hb dL_act_404 rfl (lv_at hl 6 rfl) ?_
    refine lv_iload_n hx hb dL_act_405 rfl (lv_at hl 5 rfl) ?_
    refine lv_if_eq (tgt := 414) hx hb dL_act_406 (by decide) (fun h => absurd h h0) (fun _ => ?_)
    refine lv_iload hx hb dL_act_409 (lv_at hl 1 rfl) ?_
    refine lv_goto (tgt := 420) hx hb dL_act_411 (by decide) ?_
    refine w_call (n := 2) (As := [.ref (a 0), .int (muF v)]) (rest := []) S hG hP hS hz hE hEC (hM a H.size) hrc hrs gL_act_L_pass rfl (by decide +kernel) ⟨by omega, by omega⟩ rfl hl.1 rfl (Nat.le_of_ble_eq_true rfl) ⟨by omega, by omega⟩ dL_act_420 (fun H locs hP hS => ?_)
    rw [Nat.zero_add, Nat.zero_add]
    exact x_iret (σ := σ') S.1 S.2.1 hr hlk hz hP hS rfl rfl rfl dL_act_423
set_option maxHeartbeats 4000000 in
theorem T_lies {l : Launch} {D : va_G} {cI : ClassId} {σ σ' : Sg} {v now k : Int32} (hA : Act 8 200 l D cI yL_lies wsL_lies [.int (plF v), .int (muF v), .int (if odF v = 0 then lw (v >>> (6 &&& 31)) 60 else muF v), .int (if odF v = 0 then lw (v >>> (8 &&& 31)) 30 else riF v)] σ k σ') : TlE l D cI σ v now 424 k σ' := by
  obtain ⟨rm, mc, ms, hM, hrc, hrs, h1, h2, h3, hfr, hlo⟩ := hA
  refine ⟨mc, ms, h1, h2, h3, ?_⟩
  intro p e R s m args below meth c H locs ls a sz S hG hP hS hz hE hEC hr hlk hRm hCm hl
  have hx := S.1
  have hb := S.2.1
  have hC : 0 ≤ R.cells ∧ 0 ≤ R.slots := ⟨Nat.zero_le _, Nat.zero_le _⟩
  by_cases h0 : odF v = 0
  · simp only [if_pos h0] at hM
    refine lv_aload_n hx hb dL_act_424 rfl (lv_at hl 6 rfl) ?_
    refine lv_iload hx hb dL_act_425 (lv_at hl 3 rfl) ?_
    refine lv_iload hx hb dL_act_427 (lv_at hl 1 rfl) ?_
    refine lv_iload_n hx hb dL_act_429 rfl (lv_at hl 5 rfl) ?_
    refine lv_if_eq (tgt := 438) hx hb dL_act_430 (by decide) (fun _ => ?_) (fun h => absurd h0 h)
    refine lv_iload_n hx hb dL_act_438 rfl (lv_at hl 7 rfl) ?_
    refine lv_bipush (v := 6) hx hb dL_act_439 (by decide) ?_
    refine lv_ishr hx hb dL_act_441 ?_
    refine lv_bipush (v := 60) hx hb dL_act_442 (by decide) ?_
    refine low_call (v := (v >>> (6 &&& 31))) (n := 60) (rest := [.int (muF v), .int (plF v), .ref (a 0)]) S hG hP hS hz gL_act_L_low ⟨Nat.le_trans (Nat.le_of_ble_eq_true rfl) hRm.1, Nat.le_trans (Nat.le_of_ble_eq_true rfl) hRm.2⟩ hC (by decide) hl.1 (Nat.le_of_ble_eq_true rfl) dL_act_444 (fun H locs hP hS => ?_)
    refine lv_iload_n hx hb dL_act_447 rfl (lv_at hl 5 rfl) ?_
    refine lv_if_eq (tgt := 456) hx hb dL_act_448 (by decide) (fun _ => ?_) (fun h => absurd h0 h)
    refine lv_iload_n hx hb dL_act_456 rfl (lv_at hl 7 rfl) ?_
    refine lv_bipush (v := 8) hx hb dL_act_457 (by decide) ?_
    refine lv_ishr hx hb dL_act_459 ?_
    refine lv_bipush (v := 30) hx hb dL_act_460 (by decide) ?_
    refine low_call (v := (v >>> (8 &&& 31))) (n := 30) (rest := [.int (lw (v >>> (6 &&& 31)) 60), .int (muF v), .int (plF v), .ref (a 0)]) S hG hP hS hz gL_act_L_low ⟨Nat.le_trans (Nat.le_of_ble_eq_true rfl) hRm.1, Nat.le_trans (Nat.le_of_ble_eq_true rfl) hRm.2⟩ hC (by decide) hl.1 (Nat.le_of_ble_eq_true rfl) dL_act_462 (fun H locs hP hS => ?_)
    refine w_call (n := 5) (As := [.ref (a 0), .int (plF v), .int (muF v), .int (lw (v >>> (6 &&& 31)) 60), .int (lw (v >>> (8 &&& 31)) 30)]) (rest := []) S hG hP hS hz hE hEC (hM a H.size) hrc hrs gL_act_L_lies rfl (by decide +kernel) ⟨by omega, by omega⟩ rfl hl.1 rfl (Nat.le_of_ble_eq_true rfl) ⟨by omega, by omega⟩ dL_act_465 (fun H locs hP hS => ?_)
    rw [Nat.zero_add, Nat.zero_add]
    exact x_iret (σ := σ') S.1 S.2.1 hr hlk hz hP hS rfl rfl rfl dL_act_468
  · simp only [if_neg h0] at hM
    refine lv_aload_n hx hb dL_act_424 rfl (lv_at hl 6 rfl) ?_
    refine lv_iload hx hb dL_act_425 (lv_at hl 3 rfl) ?_
    refine lv_iload hx hb dL_act_427 (lv_at hl 1 rfl) ?_
    refine lv_iload_n hx hb dL_act_429 rfl (lv_at hl 5 rfl) ?_
    refine lv_if_eq (tgt := 438) hx hb dL_act_430 (by decide) (fun h => absurd h h0) (fun _ => ?_)
    refine lv_iload hx hb dL_act_433 (lv_at hl 1 rfl) ?_
    refine lv_goto (tgt := 447) hx hb dL_act_435 (by decide) ?_
    refine lv_iload_n hx hb dL_act_447 rfl (lv_at hl 5 rfl) ?_
    refine lv_if_eq (tgt := 456) hx hb dL_act_448 (by decide) (fun h => absurd h h0) (fun _ => ?_)
    refine lv_iload hx hb dL_act_451 (lv_at hl 2 rfl) ?_
    refine lv_goto (tgt := 465) hx hb dL_act_453 (by decide) ?_
    refine w_call (n := 5) (As := [.ref (a 0), .int (plF v), .int (muF v), .int (muF v), .int (riF v)]) (rest := []) S hG hP hS hz hE hEC (hM a H.size) hrc hrs gL_act_L_lies rfl (by decide +kernel) ⟨by omega, by omega⟩ rfl hl.1 rfl (Nat.le_of_ble_eq_true rfl) ⟨by omega, by omega⟩ dL_act_465 (fun H locs hP hS => ?_)
    rw [Nat.zero_add, Nat.zero_add]
    exact x_iret (σ := σ') S.1 S.2.1 hr hlk hz hP hS rfl rfl rfl dL_act_468
set_option maxHeartbeats 4000000 in
theorem T_cycle {l : Launch} {D : va_G} {cI : ClassId} {σ σ' : Sg} {v now k : Int32} (hA : Act 8 200 l D cI yL_cycle wsL_cycle [.int (cyF v), .int (if odF v = 0 then lw (v >>> (9 &&& 31)) 4 else muF v)] σ k σ') : TlE l D cI σ v now 469 k σ' := by
  obtain ⟨rm, mc, ms, hM, hrc, hrs, h1, h2, h3, hfr, hlo⟩ := hA
  refine ⟨mc, ms, h1, h2, h3, ?_⟩
  intro p e R s m args below meth c H locs ls a sz S hG hP hS hz hE hEC hr hlk hRm hCm hl
  have hx := S.1
  have hb := S.2.1
  have hC : 0 ≤ R.cells ∧ 0 ≤ R.slots := ⟨Nat.zero_le _, Nat.zero_le _⟩
  by_cases h0 : odF v = 0
  · simp only [if_pos h0] at hM
    refine lv_aload_n hx hb dL_act_469 rfl (lv_at hl 6 rfl) ?_
    refine lv_iload hx hb dL_act_470 (lv_at hl 4 rfl) ?_
    refine lv_iload_n hx hb dL_act_472 rfl (lv_at hl 5 rfl) ?_
    refine lv_if_eq (tgt := 481) hx hb dL_act_473 (by decide) (fun _ => ?_) (fun h => absurd h0 h)
    refine lv_iload_n hx hb dL_act_481 rfl (lv_at hl 7 rfl) ?_
    refine lv_bipush (v := 9) hx hb dL_act_482 (by decide) ?_
    refine lv_ishr hx hb dL_act_484 ?_
    refine lv_iconst (v := 4) hx hb dL_act_485 (by decide) ?_
    refine low_call (v := (v >>> (9 &&& 31))) (n := 4) (rest := [.int (cyF v), .ref (a 0)]) S hG hP hS hz gL_act_L_low ⟨Nat.le_trans (Nat.le_of_ble_eq_true rfl) hRm.1, Nat.le_trans (Nat.le_of_ble_eq_true rfl) hRm.2⟩ hC (by decide) hl.1 (Nat.le_of_ble_eq_true rfl) dL_act_486 (fun H locs hP hS => ?_)
    refine w_call (n := 3) (As := [.ref (a 0), .int (cyF v), .int (lw (v >>> (9 &&& 31)) 4)]) (rest := []) S hG hP hS hz hE hEC (hM a H.size) hrc hrs gL_act_L_cycle rfl (by decide +kernel) ⟨by omega, by omega⟩ rfl hl.1 rfl (Nat.le_of_ble_eq_true rfl) ⟨by omega, by omega⟩ dL_act_489 (fun H locs hP hS => ?_)
    rw [Nat.zero_add, Nat.zero_add]
    exact x_iret (σ := σ') S.1 S.2.1 hr hlk hz hP hS rfl rfl rfl dL_act_492
  · simp only [if_neg h0] at hM
    refine lv_aload_n hx hb dL_act_469 rfl (lv_at hl 6 rfl) ?_
    refine lv_iload hx hb dL_act_470 (lv_at hl 4 rfl) ?_
    refine lv_iload_n hx hb dL_act_472 rfl (lv_at hl 5 rfl) ?_
    refine lv_if_eq (tgt := 481) hx hb dL_act_473 (by decide) (fun h => absurd h h0) (fun _ => ?_)
    refine lv_iload hx hb dL_act_476 (lv_at hl 1 rfl) ?_
    refine lv_goto (tgt := 489) hx hb dL_act_478 (by decide) ?_
    refine w_call (n := 3) (As := [.ref (a 0), .int (cyF v), .int (muF v)]) (rest := []) S hG hP hS hz hE hEC (hM a H.size) hrc hrs gL_act_L_cycle rfl (by decide +kernel) ⟨by omega, by omega⟩ rfl hl.1 rfl (Nat.le_of_ble_eq_true rfl) ⟨by omega, by omega⟩ dL_act_489 (fun H locs hP hS => ?_)
    rw [Nat.zero_add, Nat.zero_add]
    exact x_iret (σ := σ') S.1 S.2.1 hr hlk hz hP hS rfl rfl rfl dL_act_492
set_option maxHeartbeats 4000000 in
theorem T_station {l : Launch} {D : va_G} {cI : ClassId} {σ σ' : Sg} {v now k : Int32} (hA : Act 8 200 l D cI yL_station wsL_station [.int (plF v), .int (if odF v = 0 then lw (v >>> (9 &&& 31)) 5 else muF v)] σ k σ') : TlE l D cI σ v now 493 k σ' := by
  obtain ⟨rm, mc, ms, hM, hrc, hrs, h1, h2, h3, hfr, hlo⟩ := hA
  refine ⟨mc, ms, h1, h2, h3, ?_⟩
  intro p e R s m args below meth c H locs ls a sz S hG hP hS hz hE hEC hr hlk hRm hCm hl
  have hx := S.1
  have hb := S.2.1
  have hC : 0 ≤ R.cells ∧ 0 ≤ R.slots := ⟨Nat.zero_le _, Nat.zero_le _⟩
  by_cases h0 : odF v = 0
  · simp only [if_pos h0] at hM
    refine lv_aload_n hx hb dL_act_493 rfl (lv_at hl 6 rfl) ?_
    refine lv_iload hx hb dL_act_494 (lv_at hl 3 rfl) ?_
    refine lv_iload_n hx hb dL_act_496 rfl (lv_at hl 5 rfl) ?_
    refine lv_if_eq (tgt := 505) hx hb dL_act_497 (by decide) (fun _ => ?_) (fun h => absurd h0 h)
    refine lv_iload_n hx hb dL_act_505 rfl (lv_at hl 7 rfl) ?_
    refine lv_bipush (v := 9) hx hb dL_act_506 (by decide) ?_
    refine lv_ishr hx hb dL_act_508 ?_
    refine lv_iconst (v := 5) hx hb dL_act_509 (by decide) ?_
    refine low_call (v := (v >>> (9 &&& 31))) (n := 5) (rest := [.int (plF v), .ref (a 0)]) S hG hP hS hz gL_act_L_low ⟨Nat.le_trans (Nat.le_of_ble_eq_true rfl) hRm.1, Nat.le_trans (Nat.le_of_ble_eq_true rfl) hRm.2⟩ hC (by decide) hl.1 (Nat.le_of_ble_eq_true rfl) dL_act_510 (fun H locs hP hS => ?_)
    refine w_call (n := 3) (As := [.ref (a 0), .int (plF v), .int (lw (v >>> (9 &&& 31)) 5)]) (rest := []) S hG hP hS hz hE hEC (hM a H.size) hrc hrs gL_act_L_station rfl (by decide +kernel) ⟨by omega, by omega⟩ rfl hl.1 rfl (Nat.le_of_ble_eq_true rfl) ⟨by omega, by omega⟩ dL_act_513 (fun H locs hP hS => ?_)
    rw [Nat.zero_add, Nat.zero_add]
    exact x_iret (σ := σ') S.1 S.2.1 hr hlk hz hP hS rfl rfl rfl dL_act_516
  · simp only [if_neg h0] at hM
    refine lv_aload_n hx hb dL_act_493 rfl (lv_at hl 6 rfl) ?_
    refine lv_iload hx hb dL_act_494 (lv_at hl 3 rfl) ?_
    refine lv_iload_n hx hb dL_act_496 rfl (lv_at hl 5 rfl) ?_
    refine lv_if_eq (tgt := 505) hx hb dL_act_497 (by decide) (fun h => absurd h h0) (fun _ => ?_)
    refine lv_iload hx hb dL_act_500 (lv_at hl 1 rfl) ?_
    refine lv_goto (tgt := 513) hx hb dL_act_502 (by decide) ?_
    refine w_call (n := 3) (As := [.ref (a 0), .int (plF v), .int (muF v)]) (rest := []) S hG hP hS hz hE hEC (hM a H.size) hrc hrs gL_act_L_station rfl (by decide +kernel) ⟨by omega, by omega⟩ rfl hl.1 rfl (Nat.le_of_ble_eq_true rfl) ⟨by omega, by omega⟩ dL_act_513 (fun H locs hP hS => ?_)
    rw [Nat.zero_add, Nat.zero_add]
    exact x_iret (σ := σ') S.1 S.2.1 hr hlk hz hP hS rfl rfl rfl dL_act_516
set_option maxHeartbeats 4000000 in
theorem T_rider {l : Launch} {D : va_G} {cI : ClassId} {σ σ' : Sg} {v now k : Int32} (hA : Act 8 200 l D cI yL_rider wsL_rider [.int (riF v), .int (if odF v = 0 then lw (v >>> (3 &&& 31)) 5 else muF v)] σ k σ') : TlE l D cI σ v now 517 k σ' := by
  obtain ⟨rm, mc, ms, hM, hrc, hrs, h1, h2, h3, hfr, hlo⟩ := hA
  refine ⟨mc, ms, h1, h2, h3, ?_⟩
  intro p e R s m args below meth c H locs ls a sz S hG hP hS hz hE hEC hr hlk hRm hCm hl
  have hx := S.1
  have hb := S.2.1
  have hC : 0 ≤ R.cells ∧ 0 ≤ R.slots := ⟨Nat.zero_le _, Nat.zero_le _⟩
  by_cases h0 : odF v = 0
  · simp only [if_pos h0] at hM
    refine lv_aload_n hx hb dL_act_517 rfl (lv_at hl 6 rfl) ?_
    refine lv_iload hx hb dL_act_518 (lv_at hl 2 rfl) ?_
    refine lv_iload_n hx hb dL_act_520 rfl (lv_at hl 5 rfl) ?_
    refine lv_if_eq (tgt := 529) hx hb dL_act_521 (by decide) (fun _ => ?_) (fun h => absurd h0 h)
    refine lv_iload_n hx hb dL_act_529 rfl (lv_at hl 7 rfl) ?_
    refine lv_iconst (v := 3) hx hb dL_act_530 (by decide) ?_
    refine lv_ishr hx hb dL_act_531 ?_
    refine lv_iconst (v := 5) hx hb dL_act_532 (by decide) ?_
    refine low_call (v := (v >>> (3 &&& 31))) (n := 5) (rest := [.int (riF v), .ref (a 0)]) S hG hP hS hz gL_act_L_low ⟨Nat.le_trans (Nat.le_of_ble_eq_true rfl) hRm.1, Nat.le_trans (Nat.le_of_ble_eq_true rfl) hRm.2⟩ hC (by decide) hl.1 (Nat.le_of_ble_eq_true rfl) dL_act_533 (fun H locs hP hS => ?_)
    refine w_call (n := 3) (As := [.ref (a 0), .int (riF v), .int (lw (v >>> (3 &&& 31)) 5)]) (rest := []) S hG hP hS hz hE hEC (hM a H.size) hrc hrs gL_act_L_rider rfl (by decide +kernel) ⟨by omega, by omega⟩ rfl hl.1 rfl (Nat.le_of_ble_eq_true rfl) ⟨by omega, by omega⟩ dL_act_536 (fun H locs hP hS => ?_)
    rw [Nat.zero_add, Nat.zero_add]
    exact x_iret (σ := σ') S.1 S.2.1 hr hlk hz hP hS rfl rfl rfl dL_act_539
  · simp only [if_neg h0] at hM
    refine lv_aload_n hx hb dL_act_517 rfl (lv_at hl 6 rfl) ?_
    refine lv_iload hx hb dL_act_518 (lv_at hl 2 rfl) ?_
    refine lv_iload_n hx hb dL_act_520 rfl (lv_at hl 5 rfl) ?_
    refine lv_if_eq (tgt := 529) hx hb dL_act_521 (by decide) (fun h => absurd h h0) (fun _ => ?_)
    refine lv_iload hx hb dL_act_524 (lv_at hl 1 rfl) ?_
    refine lv_goto (tgt := 536) hx hb dL_act_526 (by decide) ?_
    refine w_call (n := 3) (As := [.ref (a 0), .int (riF v), .int (muF v)]) (rest := []) S hG hP hS hz hE hEC (hM a H.size) hrc hrs gL_act_L_rider rfl (by decide +kernel) ⟨by omega, by omega⟩ rfl hl.1 rfl (Nat.le_of_ble_eq_true rfl) ⟨by omega, by omega⟩ dL_act_536 (fun H locs hP hS => ?_)
    rw [Nat.zero_add, Nat.zero_add]
    exact x_iret (σ := σ') S.1 S.2.1 hr hlk hz hP hS rfl rfl rfl dL_act_539
set_option maxHeartbeats 4000000 in
theorem T_nearest {l : Launch} {D : va_G} {cI : ClassId} {σ σ' : Sg} {v now k : Int32} (hA : Act 8 200 l D cI yL_nearest wsL_nearest [.int (plF v)] σ k σ') : TlE l D cI σ v now 540 k σ' := by
  obtain ⟨rm, mc, ms, hM, hrc, hrs, h1, h2, h3, hfr, hlo⟩ := hA
  refine ⟨mc, ms, h1, h2, h3, ?_⟩
  intro p e R s m args below meth c H locs ls a sz S hG hP hS hz hE hEC hr hlk hRm hCm hl
  have hx := S.1
  have hb := S.2.1
  have hC : 0 ≤ R.cells ∧ 0 ≤ R.slots := ⟨Nat.zero_le _, Nat.zero_le _⟩
  refine lv_aload_n hx hb dL_act_540 rfl (lv_at hl 6 rfl) ?_
  refine lv_iload hx hb dL_act_541 (lv_at hl 3 rfl) ?_
  refine w_call (n := 2) (As := [.ref (a 0), .int (plF v)]) (rest := []) S hG hP hS hz hE hEC (hM a H.size) hrc hrs gL_act_L_nearest rfl (by decide +kernel) ⟨by omega, by omega⟩ rfl hl.1 rfl (Nat.le_of_ble_eq_true rfl) ⟨by omega, by omega⟩ dL_act_543 (fun H locs hP hS => ?_)
  rw [Nat.zero_add, Nat.zero_add]
  exact x_iret (σ := σ') S.1 S.2.1 hr hlk hz hP hS rfl rfl rfl dL_act_546
set_option maxHeartbeats 4000000 in
theorem T_way {l : Launch} {D : va_G} {cI : ClassId} {σ σ' : Sg} {v now k : Int32} (hA : Act 8 200 l D cI yL_way wsL_way [.int (plF v), .int (if odF v = 0 then lw (v >>> (9 &&& 31)) 3 else riF v)] σ k σ') : TlE l D cI σ v now 547 k σ' := by
  obtain ⟨rm, mc, ms, hM, hrc, hrs, h1, h2, h3, hfr, hlo⟩ := hA
  refine ⟨mc, ms, h1, h2, h3, ?_⟩
  intro p e R s m args below meth c H locs ls a sz S hG hP hS hz hE hEC hr hlk hRm hCm hl
  have hx := S.1
  have hb := S.2.1
  have hC : 0 ≤ R.cells ∧ 0 ≤ R.slots := ⟨Nat.zero_le _, Nat.zero_le _⟩
  by_cases h0 : odF v = 0
  · simp only [if_pos h0] at hM
    refine lv_aload_n hx hb dL_act_547 rfl (lv_at hl 6 rfl) ?_
    refine lv_iload hx hb dL_act_548 (lv_at hl 3 rfl) ?_
    refine lv_iload_n hx hb dL_act_550 rfl (lv_at hl 5 rfl) ?_
    refine lv_if_eq (tgt := 559) hx hb dL_act_551 (by decide) (fun _ => ?_) (fun h => absurd h0 h)
    refine lv_iload_n hx hb dL_act_559 rfl (lv_at hl 7 rfl) ?_
    refine lv_bipush (v := 9) hx hb dL_act_560 (by decide) ?_
    refine lv_ishr hx hb dL_act_562 ?_
    refine lv_iconst (v := 3) hx hb dL_act_563 (by decide) ?_
    refine low_call (v := (v >>> (9 &&& 31))) (n := 3) (rest := [.int (plF v), .ref (a 0)]) S hG hP hS hz gL_act_L_low ⟨Nat.le_trans (Nat.le_of_ble_eq_true rfl) hRm.1, Nat.le_trans (Nat.le_of_ble_eq_true rfl) hRm.2⟩ hC (by decide) hl.1 (Nat.le_of_ble_eq_true rfl) dL_act_564 (fun H locs hP hS => ?_)
    refine w_call (n := 3) (As := [.ref (a 0), .int (plF v), .int (lw (v >>> (9 &&& 31)) 3)]) (rest := []) S hG hP hS hz hE hEC (hM a H.size) hrc hrs gL_act_L_way rfl (by decide +kernel) ⟨by omega, by omega⟩ rfl hl.1 rfl (Nat.le_of_ble_eq_true rfl) ⟨by omega, by omega⟩ dL_act_567 (fun H locs hP hS => ?_)
    rw [Nat.zero_add, Nat.zero_add]
    exact x_iret (σ := σ') S.1 S.2.1 hr hlk hz hP hS rfl rfl rfl dL_act_570
  · simp only [if_neg h0] at hM
    refine lv_aload_n hx hb dL_act_547 rfl (lv_at hl 6 rfl) ?_
    refine lv_iload hx hb dL_act_548 (lv_at hl 3 rfl) ?_
    refine lv_iload_n hx hb dL_act_550 rfl (lv_at hl 5 rfl) ?_
    refine lv_if_eq (tgt := 559) hx hb dL_act_551 (by decide) (fun h => absurd h h0) (fun _ => ?_)
    refine lv_iload hx hb dL_act_554 (lv_at hl 2 rfl) ?_
    refine lv_goto (tgt := 567) hx hb dL_act_556 (by decide) ?_
    refine w_call (n := 3) (As := [.ref (a 0), .int (plF v), .int (riF v)]) (rest := []) S hG hP hS hz hE hEC (hM a H.size) hrc hrs gL_act_L_way rfl (by decide +kernel) ⟨by omega, by omega⟩ rfl hl.1 rfl (Nat.le_of_ble_eq_true rfl) ⟨by omega, by omega⟩ dL_act_567 (fun H locs hP hS => ?_)
    rw [Nat.zero_add, Nat.zero_add]
    exact x_iret (σ := σ') S.1 S.2.1 hr hlk hz hP hS rfl rfl rfl dL_act_570
theorem T_plan {l : Launch} {D : va_G} {cI : ClassId} {σ : Sg} {v now : Int32} : TlE l D cI σ v now 571 (r_X5_plan σ) σ := by
  refine ⟨0, 0, by decide, by decide, fun _ => ⟨rfl, rfl⟩, ?_⟩
  intro p e R s m args below meth c H locs ls a sz S hG hP hS hz hE hEC hr hlk hRm hCm hl
  have hx := S.1
  have hb := S.2.1
  refine lv_aload_n hx hb dL_act_571 rfl (lv_at hl 6 rfl) ?_
  refine x_callVi (w := wX cI a) (σ := σ) (σ' := σ) (As := []) (rest := []) (q0 := 0) (ci := 5) (C := RX5) S hG hP hS hz (c_X5_plan l D cI a H.size σ) (cwV 0 S.2.2.2.2 gL_act_X5_plan rfl rfl rfl (by decide +kernel) ⟨Nat.le_trans (Nat.le_of_ble_eq_true rfl) hRm.1, Nat.le_trans (Nat.le_of_ble_eq_true rfl) hRm.2⟩) rfl rfl rfl rfl hl.1 rfl (Nat.le_of_ble_eq_true rfl) ⟨Nat.zero_le _, Nat.zero_le _⟩ dL_act_572 (fun H locs hP hS => ?_)
  exact x_iret (σ := σ) S.1 S.2.1 hr hlk hz hP hS rfl rfl rfl dL_act_575
theorem T_odd {l : Launch} {D : va_G} {cI : ClassId} {σ : Sg} {v now : Int32} : TlE l D cI σ v now 576 (r_X5_odd σ) σ := by
  refine ⟨0, 0, by decide, by decide, fun _ => ⟨rfl, rfl⟩, ?_⟩
  intro p e R s m args below meth c H locs ls a sz S hG hP hS hz hE hEC hr hlk hRm hCm hl
  have hx := S.1
  have hb := S.2.1
  refine lv_aload_n hx hb dL_act_576 rfl (lv_at hl 6 rfl) ?_
  refine x_callVi (w := wX cI a) (σ := σ) (σ' := σ) (As := []) (rest := []) (q0 := 0) (ci := 5) (C := RX5) S hG hP hS hz (c_X5_odd l D cI a H.size σ) (cwV 0 S.2.2.2.2 gL_act_X5_odd rfl rfl rfl (by decide +kernel) ⟨Nat.le_trans (Nat.le_of_ble_eq_true rfl) hRm.1, Nat.le_trans (Nat.le_of_ble_eq_true rfl) hRm.2⟩) rfl rfl rfl rfl hl.1 rfl (Nat.le_of_ble_eq_true rfl) ⟨Nat.zero_le _, Nat.zero_le _⟩ dL_act_577 (fun H locs hP hS => ?_)
  exact x_iret (σ := σ) S.1 S.2.1 hr hlk hz hP hS rfl rfl rfl dL_act_580
