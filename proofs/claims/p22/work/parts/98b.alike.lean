-- areAlike: two objects that hold the same
set_option maxHeartbeats 4000000 in
set_option maxRecDepth 100000 in
theorem c_L_areAlike (l : Launch) (D : va_G) (cI : ClassId) (aO aP : Nat → Nat) (sz : Nat) (σ : Sg) (n : Nat) (v : Int32) (h : MC σ n) : Met l yL_areAlike wsL_areAlike ({ frames := 9, cells := 0, slots := 0, locals := 240 }) (PcT D cI aO aP sz σ [.ref (aO 0), .ref (aP 0), .int v]) (QiT D cI aO aP sz σ) 0 0 (AT aO aP sz) := by
  refine Met.ofW (cc := cL_areAlike) (maxL := 5) (ret := some .boolean) (by decide) rfl ?_
  intro p e s m args below meth c s₁ B hml hv
  obtain ⟨rfl, hsz, hPO, hPP, C0⟩ := hv
  have hts := atoms_spec (ws := wsL_areAlike) B.pre
  have hown : s.vm.findClass RL = some m.cls := findClass_of_methodNamed B.named
  have hx := B.exec
  have hb := B.bytes
  have hr := B.returns
  have hlk := B.notSynchronized
  have S : CallFix p m c cL_areAlike 5 s ([.ref (aO 0), .ref (aP 0), .int v] : List Value).toArray wsL_areAlike RL := ⟨hx, hb, hml, hown, hts⟩
  have hl := lv_entry ([.ref (aO 0), .ref (aP 0), .int v]) (n := 5) (Nat.le_of_ble_eq_true rfl)
  rw [lg_entry_eq]
  generalize (lg_sl ([.ref (aO 0), .ref (aP 0), .int v]) ++ List.replicate (5 - (lg_sl ([.ref (aO 0), .ref (aP 0), .int v])).length) Slot.unset).toArray = ls at hl ⊢
  have hl : lv_has ls 5 [(0, .ref (aO 0)), (1, .ref (aP 0)), (2, .int v)] := hl
  have hL : LH D cI aO aP (AT aO aP sz) s σ σ s.heap [] := ⟨hPO, hPP, va_S.rf⟩
  have loop : ∀ (N i : Nat) (H : Heap) (locs : List Loc) (ls : Array Slot), i + N = 4 → LH D cI aO aP (AT aO aP sz) s σ σ H locs → lv_has ls 5 [(4, .int (nI i)), (3, .int 1), (0, .ref (aO 0)), (1, .ref (aP 0)), (2, .int v)] → W p l e (headSpec wsL_areAlike ({ frames := 9, cells := 0, slots := 0, locals := 240 } : Room)).room s m ([.ref (aO 0), .ref (aP 0), .int v] : List Value).toArray below meth c H locs 0 0 (MQ below (QiT D cI aO aP sz σ) ([.ref (aO 0), .ref (aP 0), .int v] : List Value).toArray s 0 0 (AT aO aP sz)) (F0 m 31 ls []) := by
    intro N
    induction N with
    | zero =>
      intro i H locs ls hi hL hl
      obtain rfl : i = 4 := by omega
      refine lv_iload hx hb dL_areAlike_31 (lv_at hl 0 rfl) ?_
      refine lv_iconst (v := 4) hx hb dL_areAlike_33 (by decide) ?_
      refine lv_icmp_ge (tgt := 168) hx hb dL_areAlike_34 (by decide) (fun _ => ?_) (fun h => absurd (by decide) h)
      refine lv_iload_n hx hb dL_areAlike_168 rfl (lv_at hl 1 rfl) ?_
      exact W.zret (ty := .boolean) hx hb hr rfl (fun t ht hW => ⟨⟨1, (), rfl, rfl, by dsimp only; rw [ht]; exact ⟨hL.1, hL.2.1⟩⟩, hL.2.2.F ht⟩) hL.2.2.2.2 dL_areAlike_169 hlk
    | succ N ih =>
      intro i H locs ls hi hL hl
      refine lv_iload hx hb dL_areAlike_31 (lv_at hl 0 rfl) ?_
      refine lv_iconst (v := 4) hx hb dL_areAlike_33 (by decide) ?_
      refine lv_icmp_ge (tgt := 168) hx hb dL_areAlike_34 (by decide) (fun h => absurd h (nI_ge (a := i) (b := 4) (by omega) (by decide))) (fun _ => ?_)
      refine lv_iload_n hx hb dL_areAlike_37 rfl (lv_at hl 1 rfl) ?_
      refine lv_if_eq (tgt := 168) hx hb dL_areAlike_38 (by decide) (fun h => absurd h (by decide)) (fun _ => ?_)
      refine lv_aload_n hx hb dL_areAlike_41 rfl (lv_at hl 2 rfl) ?_
      refine lv_iload hx hb dL_areAlike_42 (lv_at hl 0 rfl) ?_
      refine lv_iload_n hx hb dL_areAlike_44 rfl (lv_at hl 4 rfl) ?_
      refine lv_iconst (v := 4) hx hb dL_areAlike_45 (by decide) ?_
      refine t_low (v := v) (n := 4) (rest := [.int (nI i), .ref (aO 0)]) S C0 hL gL_areAlike_L_low ⟨Nat.le_of_ble_eq_true rfl, Nat.le_of_ble_eq_true rfl⟩ ⟨Nat.le_of_ble_eq_true rfl, Nat.le_of_ble_eq_true rfl⟩ (by decide) hl.1 (Nat.le_of_ble_eq_true rfl) dL_areAlike_46 (fun H locs hL => ?_)
      refine t_callW (aO := aO) (aP := aP) (n := 3) (As := [.ref (aO 0), .int (nI i), .int (lw v 4)]) (rest := []) S C0 hL (c_L_cycle l D cI aO H.size σ (nI i) (lw v 4) (vp_in_nI (by omega) (by decide)) (lw_in _ (N := 4) (by decide) (by decide))) rfl rfl gL_areAlike_L_cycle rfl (by decide +kernel) ⟨Nat.le_of_ble_eq_true rfl, Nat.le_of_ble_eq_true rfl⟩ rfl hl.1 rfl (Nat.le_of_ble_eq_true rfl) ⟨Nat.le_of_ble_eq_true rfl, Nat.le_of_ble_eq_true rfl⟩ dL_areAlike_49 (fun H locs hL => ?_)
      refine lv_aload_n hx hb dL_areAlike_52 rfl (lv_at hl 3 rfl) ?_
      refine lv_iload hx hb dL_areAlike_53 (lv_at hl 0 rfl) ?_
      refine lv_iload_n hx hb dL_areAlike_55 rfl (lv_at hl 4 rfl) ?_
      refine lv_iconst (v := 4) hx hb dL_areAlike_56 (by decide) ?_
      refine t_low (v := v) (n := 4) (rest := [.int (nI i), .ref (aP 0), .int (r_X5_cycle σ (nI i) (lw v 4))]) S C0 hL gL_areAlike_L_low ⟨Nat.le_of_ble_eq_true rfl, Nat.le_of_ble_eq_true rfl⟩ ⟨Nat.le_of_ble_eq_true rfl, Nat.le_of_ble_eq_true rfl⟩ (by decide) hl.1 (Nat.le_of_ble_eq_true rfl) dL_areAlike_57 (fun H locs hL => ?_)
      refine t_callW (aO := aP) (aP := aO) (n := 3) (As := [.ref (aP 0), .int (nI i), .int (lw v 4)]) (rest := [.int (r_X5_cycle σ (nI i) (lw v 4))]) S (lc_sw C0) (lh_sw hL) (c_L_cycle l D cI aP H.size σ (nI i) (lw v 4) (vp_in_nI (by omega) (by decide)) (lw_in _ (N := 4) (by decide) (by decide))) rfl rfl gL_areAlike_L_cycle rfl (by decide +kernel) ⟨Nat.le_of_ble_eq_true rfl, Nat.le_of_ble_eq_true rfl⟩ rfl hl.1 rfl (Nat.le_of_ble_eq_true rfl) ⟨Nat.le_of_ble_eq_true rfl, Nat.le_of_ble_eq_true rfl⟩ dL_areAlike_60 (fun H locs hL => ?_)
      have hL := lh_sw hL
      refine lv_icmp_ne (tgt := 160) hx hb dL_areAlike_63 (by decide) (fun h => absurd rfl h) (fun _ => ?_)
      refine lv_aload_n hx hb dL_areAlike_66 rfl (lv_at hl 2 rfl) ?_
      refine lv_iload hx hb dL_areAlike_67 (lv_at hl 0 rfl) ?_
      refine lv_iload_n hx hb dL_areAlike_69 rfl (lv_at hl 4 rfl) ?_
      refine lv_iconst (v := 2) hx hb dL_areAlike_70 (by decide) ?_
      refine lv_ishr hx hb dL_areAlike_71 ?_
      refine lv_iconst (v := 5) hx hb dL_areAlike_72 (by decide) ?_
      refine t_low (v := (v >>> (2 &&& 31))) (n := 5) (rest := [.int (nI i), .ref (aO 0)]) S C0 hL gL_areAlike_L_low ⟨Nat.le_of_ble_eq_true rfl, Nat.le_of_ble_eq_true rfl⟩ ⟨Nat.le_of_ble_eq_true rfl, Nat.le_of_ble_eq_true rfl⟩ (by decide) hl.1 (Nat.le_of_ble_eq_true rfl) dL_areAlike_73 (fun H locs hL => ?_)
      refine t_callW (aO := aO) (aP := aP) (n := 3) (As := [.ref (aO 0), .int (nI i), .int (lw (v >>> (2 &&& 31)) 5)]) (rest := []) S C0 hL (c_L_station l D cI aO H.size σ (nI i) (lw (v >>> (2 &&& 31)) 5) (vp_in_nI (by omega) (by decide)) (lw_in _ (N := 5) (by decide) (by decide))) rfl rfl gL_areAlike_L_station rfl (by decide +kernel) ⟨Nat.le_of_ble_eq_true rfl, Nat.le_of_ble_eq_true rfl⟩ rfl hl.1 rfl (Nat.le_of_ble_eq_true rfl) ⟨Nat.le_of_ble_eq_true rfl, Nat.le_of_ble_eq_true rfl⟩ dL_areAlike_76 (fun H locs hL => ?_)
      refine lv_aload_n hx hb dL_areAlike_79 rfl (lv_at hl 3 rfl) ?_
      refine lv_iload hx hb dL_areAlike_80 (lv_at hl 0 rfl) ?_
      refine lv_iload_n hx hb dL_areAlike_82 rfl (lv_at hl 4 rfl) ?_
      refine lv_iconst (v := 2) hx hb dL_areAlike_83 (by decide) ?_
      refine lv_ishr hx hb dL_areAlike_84 ?_
      refine lv_iconst (v := 5) hx hb dL_areAlike_85 (by decide) ?_
      refine t_low (v := (v >>> (2 &&& 31))) (n := 5) (rest := [.int (nI i), .ref (aP 0), .int (r_X5_station σ (nI i) (lw (v >>> (2 &&& 31)) 5))]) S C0 hL gL_areAlike_L_low ⟨Nat.le_of_ble_eq_true rfl, Nat.le_of_ble_eq_true rfl⟩ ⟨Nat.le_of_ble_eq_true rfl, Nat.le_of_ble_eq_true rfl⟩ (by decide) hl.1 (Nat.le_of_ble_eq_true rfl) dL_areAlike_86 (fun H locs hL => ?_)
      refine t_callW (aO := aP) (aP := aO) (n := 3) (As := [.ref (aP 0), .int (nI i), .int (lw (v >>> (2 &&& 31)) 5)]) (rest := [.int (r_X5_station σ (nI i) (lw (v >>> (2 &&& 31)) 5))]) S (lc_sw C0) (lh_sw hL) (c_L_station l D cI aP H.size σ (nI i) (lw (v >>> (2 &&& 31)) 5) (vp_in_nI (by omega) (by decide)) (lw_in _ (N := 5) (by decide) (by decide))) rfl rfl gL_areAlike_L_station rfl (by decide +kernel) ⟨Nat.le_of_ble_eq_true rfl, Nat.le_of_ble_eq_true rfl⟩ rfl hl.1 rfl (Nat.le_of_ble_eq_true rfl) ⟨Nat.le_of_ble_eq_true rfl, Nat.le_of_ble_eq_true rfl⟩ dL_areAlike_89 (fun H locs hL => ?_)
      have hL := lh_sw hL
      refine lv_icmp_ne (tgt := 160) hx hb dL_areAlike_92 (by decide) (fun h => absurd rfl h) (fun _ => ?_)
      refine lv_aload_n hx hb dL_areAlike_95 rfl (lv_at hl 2 rfl) ?_
      refine lv_iload hx hb dL_areAlike_96 (lv_at hl 0 rfl) ?_
      refine lv_iload_n hx hb dL_areAlike_98 rfl (lv_at hl 4 rfl) ?_
      refine lv_iconst (v := 3) hx hb dL_areAlike_99 (by decide) ?_
      refine lv_ishr hx hb dL_areAlike_100 ?_
      refine lv_iconst (v := 5) hx hb dL_areAlike_101 (by decide) ?_
      refine t_low (v := (v >>> (3 &&& 31))) (n := 5) (rest := [.int (nI i), .ref (aO 0)]) S C0 hL gL_areAlike_L_low ⟨Nat.le_of_ble_eq_true rfl, Nat.le_of_ble_eq_true rfl⟩ ⟨Nat.le_of_ble_eq_true rfl, Nat.le_of_ble_eq_true rfl⟩ (by decide) hl.1 (Nat.le_of_ble_eq_true rfl) dL_areAlike_102 (fun H locs hL => ?_)
      refine t_callW (aO := aO) (aP := aP) (n := 3) (As := [.ref (aO 0), .int (nI i), .int (lw (v >>> (3 &&& 31)) 5)]) (rest := []) S C0 hL (c_L_rider l D cI aO H.size σ (nI i) (lw (v >>> (3 &&& 31)) 5) (vp_in_nI (by omega) (by decide)) (lw_in _ (N := 5) (by decide) (by decide))) rfl rfl gL_areAlike_L_rider rfl (by decide +kernel) ⟨Nat.le_of_ble_eq_true rfl, Nat.le_of_ble_eq_true rfl⟩ rfl hl.1 rfl (Nat.le_of_ble_eq_true rfl) ⟨Nat.le_of_ble_eq_true rfl, Nat.le_of_ble_eq_true rfl⟩ dL_areAlike_105 (fun H locs hL => ?_)
      refine lv_aload_n hx hb dL_areAlike_108 rfl (lv_at hl 3 rfl) ?_
      refine lv_iload hx hb dL_areAlike_109 (lv_at hl 0 rfl) ?_
      refine lv_iload_n hx hb dL_areAlike_111 rfl (lv_at hl 4 rfl) ?_
      refine lv_iconst (v := 3) hx hb dL_areAlike_112 (by decide) ?_
      refine lv_ishr hx hb dL_areAlike_113 ?_
      refine lv_iconst (v := 5) hx hb dL_areAlike_114 (by decide) ?_
      refine t_low (v := (v >>> (3 &&& 31))) (n := 5) (rest := [.int (nI i), .ref (aP 0), .int (r_X5_rider σ (nI i) (lw (v >>> (3 &&& 31)) 5))]) S C0 hL gL_areAlike_L_low ⟨Nat.le_of_ble_eq_true rfl, Nat.le_of_ble_eq_true rfl⟩ ⟨Nat.le_of_ble_eq_true rfl, Nat.le_of_ble_eq_true rfl⟩ (by decide) hl.1 (Nat.le_of_ble_eq_true rfl) dL_areAlike_115 (fun H locs hL => ?_)
      refine t_callW (aO := aP) (aP := aO) (n := 3) (As := [.ref (aP 0), .int (nI i), .int (lw (v >>> (3 &&& 31)) 5)]) (rest := [.int (r_X5_rider σ (nI i) (lw (v >>> (3 &&& 31)) 5))]) S (lc_sw C0) (lh_sw hL) (c_L_rider l D cI aP H.size σ (nI i) (lw (v >>> (3 &&& 31)) 5) (vp_in_nI (by omega) (by decide)) (lw_in _ (N := 5) (by decide) (by decide))) rfl rfl gL_areAlike_L_rider rfl (by decide +kernel) ⟨Nat.le_of_ble_eq_true rfl, Nat.le_of_ble_eq_true rfl⟩ rfl hl.1 rfl (Nat.le_of_ble_eq_true rfl) ⟨Nat.le_of_ble_eq_true rfl, Nat.le_of_ble_eq_true rfl⟩ dL_areAlike_118 (fun H locs hL => ?_)
      have hL := lh_sw hL
      refine lv_icmp_ne (tgt := 160) hx hb dL_areAlike_121 (by decide) (fun h => absurd rfl h) (fun _ => ?_)
      refine lv_aload_n hx hb dL_areAlike_124 rfl (lv_at hl 2 rfl) ?_
      refine lv_iload hx hb dL_areAlike_125 (lv_at hl 0 rfl) ?_
      refine t_callW (aO := aO) (aP := aP) (n := 2) (As := [.ref (aO 0), .int (nI i)]) (rest := []) S C0 hL (c_L_nearest l D cI aO H.size σ (nI i) (vp_in_nI (by omega) (by decide)) h.2.1) rfl rfl gL_areAlike_L_nearest rfl (by decide +kernel) ⟨Nat.le_of_ble_eq_true rfl, Nat.le_of_ble_eq_true rfl⟩ rfl hl.1 rfl (Nat.le_of_ble_eq_true rfl) ⟨Nat.le_of_ble_eq_true rfl, Nat.le_of_ble_eq_true rfl⟩ dL_areAlike_127 (fun H locs hL => ?_)
      refine lv_aload_n hx hb dL_areAlike_130 rfl (lv_at hl 3 rfl) ?_
      refine lv_iload hx hb dL_areAlike_131 (lv_at hl 0 rfl) ?_
      refine t_callW (aO := aP) (aP := aO) (n := 2) (As := [.ref (aP 0), .int (nI i)]) (rest := [.int (r_X5_nearest σ (nI i))]) S (lc_sw C0) (lh_sw hL) (c_L_nearest l D cI aP H.size σ (nI i) (vp_in_nI (by omega) (by decide)) h.2.1) rfl rfl gL_areAlike_L_nearest rfl (by decide +kernel) ⟨Nat.le_of_ble_eq_true rfl, Nat.le_of_ble_eq_true rfl⟩ rfl hl.1 rfl (Nat.le_of_ble_eq_true rfl) ⟨Nat.le_of_ble_eq_true rfl, Nat.le_of_ble_eq_true rfl⟩ dL_areAlike_133 (fun H locs hL => ?_)
      have hL := lh_sw hL
      refine lv_icmp_ne (tgt := 160) hx hb dL_areAlike_136 (by decide) (fun h => absurd rfl h) (fun _ => ?_)
      refine lv_aload_n hx hb dL_areAlike_139 rfl (lv_at hl 2 rfl) ?_
      refine lv_iload hx hb dL_areAlike_140 (lv_at hl 0 rfl) ?_
      refine lv_iconst (v := 0) hx hb dL_areAlike_142 (by decide) ?_
      refine t_callW (aO := aO) (aP := aP) (n := 3) (As := [.ref (aO 0), .int (nI i), .int 0]) (rest := []) S C0 hL (c_L_way l D cI aO H.size σ (nI i) 0 (vp_in_nI (by omega) (by decide)) (vp_in_nI (n := 0) (by decide) (by decide)) h.2.1) rfl rfl gL_areAlike_L_way rfl (by decide +kernel) ⟨Nat.le_of_ble_eq_true rfl, Nat.le_of_ble_eq_true rfl⟩ rfl hl.1 rfl (Nat.le_of_ble_eq_true rfl) ⟨Nat.le_of_ble_eq_true rfl, Nat.le_of_ble_eq_true rfl⟩ dL_areAlike_143 (fun H locs hL => ?_)
      refine lv_aload_n hx hb dL_areAlike_146 rfl (lv_at hl 3 rfl) ?_
      refine lv_iload hx hb dL_areAlike_147 (lv_at hl 0 rfl) ?_
      refine lv_iconst (v := 0) hx hb dL_areAlike_149 (by decide) ?_
      refine t_callW (aO := aP) (aP := aO) (n := 3) (As := [.ref (aP 0), .int (nI i), .int 0]) (rest := [.int (r_X5_way σ (nI i) 0)]) S (lc_sw C0) (lh_sw hL) (c_L_way l D cI aP H.size σ (nI i) 0 (vp_in_nI (by omega) (by decide)) (vp_in_nI (n := 0) (by decide) (by decide)) h.2.1) rfl rfl gL_areAlike_L_way rfl (by decide +kernel) ⟨Nat.le_of_ble_eq_true rfl, Nat.le_of_ble_eq_true rfl⟩ rfl hl.1 rfl (Nat.le_of_ble_eq_true rfl) ⟨Nat.le_of_ble_eq_true rfl, Nat.le_of_ble_eq_true rfl⟩ dL_areAlike_150 (fun H locs hL => ?_)
      have hL := lh_sw hL
      refine lv_icmp_ne (tgt := 160) hx hb dL_areAlike_153 (by decide) (fun h => absurd rfl h) (fun _ => ?_)
      refine lv_iconst (v := 1) hx hb dL_areAlike_156 (by decide) ?_
      refine lv_goto (tgt := 161) hx hb dL_areAlike_157 (by decide) ?_
      refine lv_istore_n (lv' := [(3, .int 1), (4, .int (nI i)), (0, .ref (aO 0)), (1, .ref (aP 0)), (2, .int v)]) hx hb dL_areAlike_161 rfl hl (by decide) rfl (fun ls hl => ?_)
      refine lv_iinc (v := nI (i + 1)) (lv' := [(4, .int (nI (i + 1))), (3, .int 1), (0, .ref (aO 0)), (1, .ref (aP 0)), (2, .int v)]) hx hb dL_areAlike_162 hl (k := 1) rfl (by rw [nI_succ]; rfl) (by decide) rfl (fun ls hl => ?_)
      refine lv_goto (tgt := 31) hx hb dL_areAlike_165 (by decide) ?_
      exact ih (i + 1) H locs ls (by omega) hL hl
  refine lv_aload_n hx hb dL_areAlike_0 rfl (lv_at hl 0 rfl) ?_
  refine t_callV (aO := aO) (aP := aP) (σ' := σ) (As := []) (rest := []) S C0 hL (c_X5_odd l D cI aO s.heap.size σ) (cwV 0 S.2.2.2.2 gL_areAlike_X5_odd rfl rfl rfl (by decide +kernel) ⟨Nat.le_of_ble_eq_true rfl, Nat.le_of_ble_eq_true rfl⟩) rfl hl.1 rfl (Nat.le_of_ble_eq_true rfl) ⟨Nat.le_of_ble_eq_true rfl, Nat.le_of_ble_eq_true rfl⟩ dL_areAlike_1 (fun H locs hL => ?_)
  refine lv_aload_n hx hb dL_areAlike_4 rfl (lv_at hl 1 rfl) ?_
  refine t_callV (aO := aP) (aP := aO) (σ' := σ) (As := []) (rest := [.int (r_X5_odd σ)]) S (lc_sw C0) (lh_sw hL) (c_X5_odd l D cI aP H.size σ) (cwV 0 S.2.2.2.2 gL_areAlike_X5_odd rfl rfl rfl (by decide +kernel) ⟨Nat.le_of_ble_eq_true rfl, Nat.le_of_ble_eq_true rfl⟩) rfl hl.1 rfl (Nat.le_of_ble_eq_true rfl) ⟨Nat.le_of_ble_eq_true rfl, Nat.le_of_ble_eq_true rfl⟩ dL_areAlike_5 (fun H locs hL => ?_)
  have hL := lh_sw hL
  refine lv_icmp_ne (tgt := 26) hx hb dL_areAlike_8 (by decide) (fun h => absurd rfl h) (fun _ => ?_)
  refine lv_aload_n hx hb dL_areAlike_11 rfl (lv_at hl 0 rfl) ?_
  refine t_callV (aO := aO) (aP := aP) (σ' := σ) (As := []) (rest := []) S C0 hL (c_X5_plan l D cI aO H.size σ) (cwV 0 S.2.2.2.2 gL_areAlike_X5_plan rfl rfl rfl (by decide +kernel) ⟨Nat.le_of_ble_eq_true rfl, Nat.le_of_ble_eq_true rfl⟩) rfl hl.1 rfl (Nat.le_of_ble_eq_true rfl) ⟨Nat.le_of_ble_eq_true rfl, Nat.le_of_ble_eq_true rfl⟩ dL_areAlike_12 (fun H locs hL => ?_)
  refine lv_aload_n hx hb dL_areAlike_15 rfl (lv_at hl 1 rfl) ?_
  refine t_callV (aO := aP) (aP := aO) (σ' := σ) (As := []) (rest := [.int (r_X5_plan σ)]) S (lc_sw C0) (lh_sw hL) (c_X5_plan l D cI aP H.size σ) (cwV 0 S.2.2.2.2 gL_areAlike_X5_plan rfl rfl rfl (by decide +kernel) ⟨Nat.le_of_ble_eq_true rfl, Nat.le_of_ble_eq_true rfl⟩) rfl hl.1 rfl (Nat.le_of_ble_eq_true rfl) ⟨Nat.le_of_ble_eq_true rfl, Nat.le_of_ble_eq_true rfl⟩ dL_areAlike_16 (fun H locs hL => ?_)
  have hL := lh_sw hL
  refine lv_icmp_ne (tgt := 26) hx hb dL_areAlike_19 (by decide) (fun h => absurd rfl h) (fun _ => ?_)
  refine lv_iconst (v := 1) hx hb dL_areAlike_22 (by decide) ?_
  refine lv_goto (tgt := 27) hx hb dL_areAlike_23 (by decide) ?_
  refine lv_istore_n (lv' := [(3, .int 1), (0, .ref (aO 0)), (1, .ref (aP 0)), (2, .int v)]) hx hb dL_areAlike_27 rfl hl (by decide) rfl (fun ls hl => ?_)
  refine lv_iconst (v := nI 0) hx hb dL_areAlike_28 (by decide) ?_
  refine lv_istore (lv' := [(4, .int (nI 0)), (3, .int 1), (0, .ref (aO 0)), (1, .ref (aP 0)), (2, .int v)]) hx hb dL_areAlike_29 hl (by decide) rfl (fun ls hl => ?_)
  exact loop 4 0 H locs ls rfl hL hl
