/-- where a cycle that is DOCKED or RIDDEN is -/
def hX (σ : Sg) : Prop := (∀ cy : Int32, vp_in cy 30 → σ 16 cy.toNatClampNeg = 1 → vp_in (σ 17 cy.toNatClampNeg) 8) ∧ (∀ cy : Int32, vp_in cy 30 → σ 16 cy.toNatClampNeg = 2 → vp_in (σ 17 cy.toNatClampNeg) 10)
/-- what a thing of the story is about -/
def hT (k f s : Int32) : Prop := (k = 0 → vp_in f 8) ∧ (k = 1 → vp_in f 30 ∧ vp_in s 8) ∧ (k = 2 → vp_in f 30) ∧ (k = 3 → vp_in f 30 ∧ vp_in s 10) ∧ (k = 4 → vp_in f 30 ∧ vp_in s 8) ∧ (k = 5 → vp_in f 30 ∧ vp_in s 10) ∧ (k = 6 → vp_in f 30) ∧ (¬ k = 0 → ¬ k = 1 → ¬ k = 2 → ¬ k = 3 → ¬ k = 4 → ¬ k = 5 → ¬ k = 6 → ¬ k = 7 → vp_in f 10 ∧ vp_in s 8)
theorem in_X5_happens_3 : ∀ wd ∈ u_ws RX3 TX3 4, wd ∈ wsX5_happens := by decide +kernel
theorem in_X5_happens_4 : ∀ wd ∈ u_ws RX4 TX4 5, wd ∈ wsX5_happens := by decide +kernel
theorem in_X5_happens_5 : ∀ wd ∈ u_ws RX5 TX5 9, wd ∈ wsX5_happens := by decide +kernel
def r_X5_happens (σ : Sg) (ix : Int32) : Int32 :=
  if (s_X3_countEmptyUntil σ (σ 9 ix.toNatClampNeg)) 6 ix.toNatClampNeg = 0 then
    1
  else
    if (s_X3_countEmptyUntil σ (σ 9 ix.toNatClampNeg)) 6 ix.toNatClampNeg = 1 then
      r_X5_bePut (s_X3_countEmptyUntil σ (σ 9 ix.toNatClampNeg)) (σ 7 ix.toNatClampNeg) (σ 8 ix.toNatClampNeg)
    else
      if (s_X3_countEmptyUntil σ (σ 9 ix.toNatClampNeg)) 6 ix.toNatClampNeg = 2 then
        r_X5_beTaken (s_X3_countEmptyUntil σ (σ 9 ix.toNatClampNeg)) (σ 7 ix.toNatClampNeg)
      else
        if (s_X3_countEmptyUntil σ (σ 9 ix.toNatClampNeg)) 6 ix.toNatClampNeg = 3 then
          r_X5_beUnlocked (s_X3_countEmptyUntil σ (σ 9 ix.toNatClampNeg)) (σ 7 ix.toNatClampNeg) (σ 8 ix.toNatClampNeg) (σ 9 ix.toNatClampNeg)
        else
          if (s_X3_countEmptyUntil σ (σ 9 ix.toNatClampNeg)) 6 ix.toNatClampNeg = 4 then
            r_X5_beLocked (s_X3_countEmptyUntil σ (σ 9 ix.toNatClampNeg)) (σ 7 ix.toNatClampNeg) (σ 8 ix.toNatClampNeg) (σ 9 ix.toNatClampNeg)
          else
            if (s_X3_countEmptyUntil σ (σ 9 ix.toNatClampNeg)) 6 ix.toNatClampNeg = 5 then
              1
            else
              if (s_X3_countEmptyUntil σ (σ 9 ix.toNatClampNeg)) 6 ix.toNatClampNeg = 6 then
                r_X5_beMended (s_X3_countEmptyUntil σ (σ 9 ix.toNatClampNeg)) (σ 7 ix.toNatClampNeg)
              else
                if (s_X3_countEmptyUntil σ (σ 9 ix.toNatClampNeg)) 6 ix.toNatClampNeg = 7 then
                  1
                else
                  r_X5_bePromised (s_X3_countEmptyUntil σ (σ 9 ix.toNatClampNeg)) (σ 7 ix.toNatClampNeg) (σ 8 ix.toNatClampNeg) (σ 9 ix.toNatClampNeg)
def s_X5_happens (σ : Sg) (ix : Int32) : Sg :=
  if (s_X3_countEmptyUntil σ (σ 9 ix.toNatClampNeg)) 6 ix.toNatClampNeg = 0 then
    sx (s_X3_countEmptyUntil σ (σ 9 ix.toNatClampNeg)) 13 (σ 7 ix.toNatClampNeg).toNatClampNeg (σ 8 ix.toNatClampNeg)
  else
    if (s_X3_countEmptyUntil σ (σ 9 ix.toNatClampNeg)) 6 ix.toNatClampNeg = 1 then
      s_X5_bePut (s_X3_countEmptyUntil σ (σ 9 ix.toNatClampNeg)) (σ 7 ix.toNatClampNeg) (σ 8 ix.toNatClampNeg)
    else
      if (s_X3_countEmptyUntil σ (σ 9 ix.toNatClampNeg)) 6 ix.toNatClampNeg = 2 then
        s_X5_beTaken (s_X3_countEmptyUntil σ (σ 9 ix.toNatClampNeg)) (σ 7 ix.toNatClampNeg)
      else
        if (s_X3_countEmptyUntil σ (σ 9 ix.toNatClampNeg)) 6 ix.toNatClampNeg = 3 then
          s_X5_beUnlocked (s_X3_countEmptyUntil σ (σ 9 ix.toNatClampNeg)) (σ 7 ix.toNatClampNeg) (σ 8 ix.toNatClampNeg) (σ 9 ix.toNatClampNeg)
        else
          if (s_X3_countEmptyUntil σ (σ 9 ix.toNatClampNeg)) 6 ix.toNatClampNeg = 4 then
            s_X5_beLocked (s_X3_countEmptyUntil σ (σ 9 ix.toNatClampNeg)) (σ 7 ix.toNatClampNeg) (σ 8 ix.toNatClampNeg) (σ 9 ix.toNatClampNeg)
          else
            if (s_X3_countEmptyUntil σ (σ 9 ix.toNatClampNeg)) 6 ix.toNatClampNeg = 5 then
              s_X0_addFault (s_X3_countEmptyUntil σ (σ 9 ix.toNatClampNeg)) (σ 7 ix.toNatClampNeg) (σ 8 ix.toNatClampNeg)
            else
              if (s_X3_countEmptyUntil σ (σ 9 ix.toNatClampNeg)) 6 ix.toNatClampNeg = 6 then
                s_X5_beMended (s_X3_countEmptyUntil σ (σ 9 ix.toNatClampNeg)) (σ 7 ix.toNatClampNeg)
              else
                if (s_X3_countEmptyUntil σ (σ 9 ix.toNatClampNeg)) 6 ix.toNatClampNeg = 7 then
                  sx (s_X3_countEmptyUntil σ (σ 9 ix.toNatClampNeg)) 0 8 (σ 7 ix.toNatClampNeg)
                else
                  s_X5_bePromised (s_X3_countEmptyUntil σ (σ 9 ix.toNatClampNeg)) (σ 7 ix.toNatClampNeg) (σ 8 ix.toNatClampNeg) (σ 9 ix.toNatClampNeg)
theorem b_X5_happens (σ : Sg) (ix : Int32) : r_X5_happens σ ix = 0 ∨ r_X5_happens σ ix = 1 := by
  unfold r_X5_happens
  repeat' split
  all_goals first | with_reducible exact Or.inl rfl | with_reducible exact Or.inr rfl | with_reducible exact b_X5_bePut _ _ _ | with_reducible exact b_X5_beTaken _ _ | with_reducible exact b_X5_beUnlocked _ _ _ _ | with_reducible exact b_X5_beLocked _ _ _ _ | with_reducible exact b_X5_beMended _ _ | with_reducible exact b_X5_bePromised _ _ _ _
set_option maxHeartbeats 4000000 in
set_option maxRecDepth 100000 in
theorem c_X5_happens (l : Launch) (D : va_G) (cI : ClassId) (a : Nat → Nat) (sz : Nat) (σ : Sg) (ix : Int32) (hix : vp_in ix 300) (ht : hT ((s_X3_countEmptyUntil σ (σ 9 ix.toNatClampNeg)) 6 ix.toNatClampNeg) (σ 7 ix.toNatClampNeg) (σ 8 ix.toNatClampNeg)) (hw : hX (s_X3_countEmptyUntil σ (σ 9 ix.toNatClampNeg))) : Met l yX5_happens wsX5_happens ({ frames := 4, cells := 0, slots := 0, locals := 86 }) (PcW D cI 29 a (wX cI a) sz σ [.ref (a 0), .int ix]) (QiW D 29 a (wX cI a) sz (r_X5_happens σ ix) (s_X5_happens σ ix)) 0 0 (AX 29 a sz) := by
  refine x_of (cc := cX5_happens) (maxL := 5) (ret := some .boolean) (C := RX5) rfl (by decide) rfl (Nat.le_of_ble_eq_true rfl) (fun p e s m below meth c hx hb hr hml hlk hts hown hsz H hP hS hG ls hl => ?_)
  have hl : lv_has ls 5 [(0, .ref (a 0)), (1, .int ix)] := hl
  refine lv_aload_n hx hb dX5_happens_0 rfl (lv_at hl 0 rfl) ?_
  refine x_get (ci := 5) (C := RX5) (T := TX5) (M := 9) (v := .ref (a 1)) hx hb hts in_X5_happens_5 hown hG hP 0 rfl rfl 0 (by decide) (List.mem_of_getElem? (i := 1) rfl) rfl rfl dX5_happens_1 ?_
  refine x_get (ci := 4) (C := RX4) (T := TX4) (M := 5) (v := .ref (a 7)) hx hb hts in_X5_happens_4 hown hG hP 1 rfl rfl 1 (by decide) (List.mem_of_getElem? (i := 2) rfl) rfl rfl dX5_happens_4 ?_
  refine lv_iload_n hx hb dX5_happens_7 rfl (lv_at hl 1 rfl) ?_
  refine x_iald (f := σ 7) hx hb hG hP 7 rfl (by assumption) dX5_happens_8 ?_
  refine lv_istore_n (lv' := [(2, .int (σ 7 ix.toNatClampNeg)), (0, .ref (a 0)), (1, .int ix)]) hx hb dX5_happens_9 rfl hl (by decide) rfl (fun ls hl => ?_)
  refine lv_aload_n hx hb dX5_happens_10 rfl (lv_at hl 1 rfl) ?_
  refine x_get (ci := 5) (C := RX5) (T := TX5) (M := 9) (v := .ref (a 1)) hx hb hts in_X5_happens_5 hown hG hP 0 rfl rfl 0 (by decide) (List.mem_of_getElem? (i := 1) rfl) rfl rfl dX5_happens_11 ?_
  refine x_get (ci := 4) (C := RX4) (T := TX4) (M := 5) (v := .ref (a 8)) hx hb hts in_X5_happens_4 hown hG hP 1 rfl rfl 2 (by decide) (List.mem_of_getElem? (i := 3) rfl) rfl rfl dX5_happens_14 ?_
  refine lv_iload_n hx hb dX5_happens_17 rfl (lv_at hl 2 rfl) ?_
  refine x_iald (f := σ 8) hx hb hG hP 8 rfl (by assumption) dX5_happens_18 ?_
  refine lv_istore_n (lv' := [(3, .int (σ 8 ix.toNatClampNeg)), (2, .int (σ 7 ix.toNatClampNeg)), (0, .ref (a 0)), (1, .int ix)]) hx hb dX5_happens_19 rfl hl (by decide) rfl (fun ls hl => ?_)
  refine lv_aload_n hx hb dX5_happens_20 rfl (lv_at hl 2 rfl) ?_
  refine x_get (ci := 5) (C := RX5) (T := TX5) (M := 9) (v := .ref (a 1)) hx hb hts in_X5_happens_5 hown hG hP 0 rfl rfl 0 (by decide) (List.mem_of_getElem? (i := 1) rfl) rfl rfl dX5_happens_21 ?_
  refine x_get (ci := 4) (C := RX4) (T := TX4) (M := 5) (v := .ref (a 9)) hx hb hts in_X5_happens_4 hown hG hP 1 rfl rfl 3 (by decide) (List.mem_of_getElem? (i := 4) rfl) rfl rfl dX5_happens_24 ?_
  refine lv_iload_n hx hb dX5_happens_27 rfl (lv_at hl 3 rfl) ?_
  refine x_iald (f := σ 9) hx hb hG hP 9 rfl (by assumption) dX5_happens_28 ?_
  refine lv_istore (lv' := [(4, .int (σ 9 ix.toNatClampNeg)), (3, .int (σ 8 ix.toNatClampNeg)), (2, .int (σ 7 ix.toNatClampNeg)), (0, .ref (a 0)), (1, .int ix)]) hx hb dX5_happens_29 hl (by decide) rfl (fun ls hl => ?_)
  refine lv_aload_n hx hb dX5_happens_31 rfl (lv_at hl 3 rfl) ?_
  refine x_get (ci := 5) (C := RX5) (T := TX5) (M := 9) (v := .ref (a 3)) hx hb hts in_X5_happens_5 hown hG hP 0 rfl rfl 2 (by decide) (List.mem_of_getElem? (i := 5) rfl) rfl rfl dX5_happens_32 ?_
  refine lv_iload hx hb dX5_happens_35 (lv_at hl 0 rfl) ?_
  refine x_callVv (w := wX cI a) (σ := σ) (σ' := s_X3_countEmptyUntil σ (σ 9 ix.toNatClampNeg)) (As := [.int (σ 9 ix.toNatClampNeg)]) (rest := []) (q0 := 3) ⟨hx, hb, hml, hown, hts⟩ hG hP hS hsz (c_X3_countEmptyUntil l D cI a H.size σ (σ 9 ix.toNatClampNeg)) (cwV 1 hts gX5_happens_X3_countEmptyUntil rfl rfl rfl (by decide +kernel) ⟨Nat.le_of_ble_eq_true rfl, Nat.le_of_ble_eq_true rfl⟩) rfl rfl rfl rfl hl.1 rfl (Nat.le_of_ble_eq_true rfl) ⟨Nat.zero_le _, Nat.zero_le _⟩ dX5_happens_37 (fun H locs hP hS => ?_)
  refine lv_aload_n hx hb dX5_happens_40 rfl (lv_at hl 3 rfl) ?_
  refine x_get (ci := 5) (C := RX5) (T := TX5) (M := 9) (v := .ref (a 1)) hx hb hts in_X5_happens_5 hown hG hP 0 rfl rfl 0 (by decide) (List.mem_of_getElem? (i := 1) rfl) rfl rfl dX5_happens_41 ?_
  refine x_get (ci := 4) (C := RX4) (T := TX4) (M := 5) (v := .ref (a 6)) hx hb hts in_X5_happens_4 hown hG hP 1 rfl rfl 0 (by decide) (List.mem_of_getElem? (i := 6) rfl) rfl rfl dX5_happens_44 ?_
  refine lv_iload_n hx hb dX5_happens_47 rfl (lv_at hl 4 rfl) ?_
  refine x_iald (f := (s_X3_countEmptyUntil σ (σ 9 ix.toNatClampNeg)) 6) hx hb hG hP 6 rfl (by assumption) dX5_happens_48 ?_
  by_cases h_1 : (s_X3_countEmptyUntil σ (σ 9 ix.toNatClampNeg)) 6 ix.toNatClampNeg = 0
  · refine x_swin (off := 47) (tgt := 96) hx hb h_1 dX5_happens_49 (by decide) (by decide) (by decide) (by decide) ?_
    refine lv_aload_n hx hb dX5_happens_96 rfl (lv_at hl 3 rfl) ?_
    refine x_get (ci := 5) (C := RX5) (T := TX5) (M := 9) (v := .ref (a 3)) hx hb hts in_X5_happens_5 hown hG hP 0 rfl rfl 2 (by decide) (List.mem_of_getElem? (i := 5) rfl) rfl rfl dX5_happens_97 ?_
    refine x_get (ci := 3) (C := RX3) (T := TX3) (M := 4) (v := .ref (a 13)) hx hb hts in_X5_happens_3 hown hG hP 3 rfl rfl 0 (by decide) (List.mem_of_getElem? (i := 7) rfl) rfl rfl dX5_happens_100 ?_
    refine lv_iload_n hx hb dX5_happens_103 rfl (lv_at hl 2 rfl) ?_
    refine lv_iload_n hx hb dX5_happens_104 rfl (lv_at hl 1 rfl) ?_
    refine x_iast (w := wX cI a) (σ := s_X3_countEmptyUntil σ (σ 9 ix.toNatClampNeg)) hx hb hG hP hS 13 rfl (wX_st13 cI a _ _ _) (ht.1 h_1) dX5_happens_105 (fun H locs hP hS => ?_)
    refine lv_iconst (v := 1) hx hb dX5_happens_106 (by decide) ?_
    exact x_iret hx hb hr hlk hsz hP hS rfl (by rw [r_X5_happens, if_pos h_1]) (by rw [s_X5_happens, if_pos h_1]) dX5_happens_107
  by_cases h_2 : (s_X3_countEmptyUntil σ (σ 9 ix.toNatClampNeg)) 6 ix.toNatClampNeg = 1
  · refine x_swin (off := 59) (tgt := 108) hx hb h_2 dX5_happens_49 (by decide) (by decide) (by decide) (by decide) ?_
    refine lv_aload_n hx hb dX5_happens_108 rfl (lv_at hl 3 rfl) ?_
    refine lv_iload_n hx hb dX5_happens_109 rfl (lv_at hl 2 rfl) ?_
    refine lv_iload_n hx hb dX5_happens_110 rfl (lv_at hl 1 rfl) ?_
    refine x_callVi (w := wX cI a) (σ := s_X3_countEmptyUntil σ (σ 9 ix.toNatClampNeg)) (σ' := s_X5_bePut (s_X3_countEmptyUntil σ (σ 9 ix.toNatClampNeg)) (σ 7 ix.toNatClampNeg) (σ 8 ix.toNatClampNeg)) (As := [.int (σ 7 ix.toNatClampNeg), .int (σ 8 ix.toNatClampNeg)]) (rest := []) (q0 := 0) ⟨hx, hb, hml, hown, hts⟩ hG hP hS hsz (c_X5_bePut l D cI a H.size (s_X3_countEmptyUntil σ (σ 9 ix.toNatClampNeg)) (σ 7 ix.toNatClampNeg) (σ 8 ix.toNatClampNeg) (ht.2.1 h_2).1 (ht.2.1 h_2).2) (cwV 2 hts gX5_happens_X5_bePut rfl rfl rfl (by decide +kernel) ⟨Nat.le_of_ble_eq_true rfl, Nat.le_of_ble_eq_true rfl⟩) rfl rfl rfl rfl hl.1 rfl (Nat.le_of_ble_eq_true rfl) ⟨Nat.zero_le _, Nat.zero_le _⟩ dX5_happens_111 (fun H locs hP hS => ?_)
    exact x_iret hx hb hr hlk hsz hP hS (nb01 (b_X5_bePut _ _ _)) (by rw [r_X5_happens, if_pos h_2, if_neg h_1]) (by rw [s_X5_happens, if_pos h_2, if_neg h_1]) dX5_happens_114
  by_cases h_3 : (s_X3_countEmptyUntil σ (σ 9 ix.toNatClampNeg)) 6 ix.toNatClampNeg = 2
  · refine x_swin (off := 66) (tgt := 115) hx hb h_3 dX5_happens_49 (by decide) (by decide) (by decide) (by decide) ?_
    refine lv_aload_n hx hb dX5_happens_115 rfl (lv_at hl 3 rfl) ?_
    refine lv_iload_n hx hb dX5_happens_116 rfl (lv_at hl 2 rfl) ?_
    refine x_callVi (w := wX cI a) (σ := s_X3_countEmptyUntil σ (σ 9 ix.toNatClampNeg)) (σ' := s_X5_beTaken (s_X3_countEmptyUntil σ (σ 9 ix.toNatClampNeg)) (σ 7 ix.toNatClampNeg)) (As := [.int (σ 7 ix.toNatClampNeg)]) (rest := []) (q0 := 0) ⟨hx, hb, hml, hown, hts⟩ hG hP hS hsz (c_X5_beTaken l D cI a H.size (s_X3_countEmptyUntil σ (σ 9 ix.toNatClampNeg)) (σ 7 ix.toNatClampNeg) (ht.2.2.1 h_3) (hw.1 _ (ht.2.2.1 h_3))) (cwV 1 hts gX5_happens_X5_beTaken rfl rfl rfl (by decide +kernel) ⟨Nat.le_of_ble_eq_true rfl, Nat.le_of_ble_eq_true rfl⟩) rfl rfl rfl rfl hl.1 rfl (Nat.le_of_ble_eq_true rfl) ⟨Nat.zero_le _, Nat.zero_le _⟩ dX5_happens_117 (fun H locs hP hS => ?_)
    exact x_iret hx hb hr hlk hsz hP hS (nb01 (b_X5_beTaken _ _)) (by rw [r_X5_happens, if_pos h_3, if_neg h_1, if_neg h_2]) (by rw [s_X5_happens, if_pos h_3, if_neg h_1, if_neg h_2]) dX5_happens_120
  by_cases h_4 : (s_X3_countEmptyUntil σ (σ 9 ix.toNatClampNeg)) 6 ix.toNatClampNeg = 3
  · refine x_swin (off := 72) (tgt := 121) hx hb h_4 dX5_happens_49 (by decide) (by decide) (by decide) (by decide) ?_
    refine lv_aload_n hx hb dX5_happens_121 rfl (lv_at hl 3 rfl) ?_
    refine lv_iload_n hx hb dX5_happens_122 rfl (lv_at hl 2 rfl) ?_
    refine lv_iload_n hx hb dX5_happens_123 rfl (lv_at hl 1 rfl) ?_
    refine lv_iload hx hb dX5_happens_124 (lv_at hl 0 rfl) ?_
    refine x_callVi (w := wX cI a) (σ := s_X3_countEmptyUntil σ (σ 9 ix.toNatClampNeg)) (σ' := s_X5_beUnlocked (s_X3_countEmptyUntil σ (σ 9 ix.toNatClampNeg)) (σ 7 ix.toNatClampNeg) (σ 8 ix.toNatClampNeg) (σ 9 ix.toNatClampNeg)) (As := [.int (σ 7 ix.toNatClampNeg), .int (σ 8 ix.toNatClampNeg), .int (σ 9 ix.toNatClampNeg)]) (rest := []) (q0 := 0) ⟨hx, hb, hml, hown, hts⟩ hG hP hS hsz (c_X5_beUnlocked l D cI a H.size (s_X3_countEmptyUntil σ (σ 9 ix.toNatClampNeg)) (σ 7 ix.toNatClampNeg) (σ 8 ix.toNatClampNeg) (σ 9 ix.toNatClampNeg) (ht.2.2.2.1 h_4).1 (ht.2.2.2.1 h_4).2 (hw.1 _ (ht.2.2.2.1 h_4).1) (hw.2 _ (ht.2.2.2.1 h_4).1)) (cwV 3 hts gX5_happens_X5_beUnlocked rfl rfl rfl (by decide +kernel) ⟨Nat.le_of_ble_eq_true rfl, Nat.le_of_ble_eq_true rfl⟩) rfl rfl rfl rfl hl.1 rfl (Nat.le_of_ble_eq_true rfl) ⟨Nat.zero_le _, Nat.zero_le _⟩ dX5_happens_126 (fun H locs hP hS => ?_)
    exact x_iret hx hb hr hlk hsz hP hS (nb01 (b_X5_beUnlocked _ _ _ _)) (by rw [r_X5_happens, if_pos h_4, if_neg h_1, if_neg h_2, if_neg h_3]) (by rw [s_X5_happens, if_pos h_4, if_neg h_1, if_neg h_2, if_neg h_3]) dX5_happens_129
  by_cases h_5 : (s_X3_countEmptyUntil σ (σ 9 ix.toNatClampNeg)) 6 ix.toNatClampNeg = 4
  · refine x_swin (off := 81) (tgt := 130) hx hb h_5 dX5_happens_49 (by decide) (by decide) (by decide) (by decide) ?_
    refine lv_aload_n hx hb dX5_happens_130 rfl (lv_at hl 3 rfl) ?_
    refine lv_iload_n hx hb dX5_happens_131 rfl (lv_at hl 2 rfl) ?_
    refine lv_iload_n hx hb dX5_happens_132 rfl (lv_at hl 1 rfl) ?_
    refine lv_iload hx hb dX5_happens_133 (lv_at hl 0 rfl) ?_
    refine x_callVi (w := wX cI a) (σ := s_X3_countEmptyUntil σ (σ 9 ix.toNatClampNeg)) (σ' := s_X5_beLocked (s_X3_countEmptyUntil σ (σ 9 ix.toNatClampNeg)) (σ 7 ix.toNatClampNeg) (σ 8 ix.toNatClampNeg) (σ 9 ix.toNatClampNeg)) (As := [.int (σ 7 ix.toNatClampNeg), .int (σ 8 ix.toNatClampNeg), .int (σ 9 ix.toNatClampNeg)]) (rest := []) (q0 := 0) ⟨hx, hb, hml, hown, hts⟩ hG hP hS hsz (c_X5_beLocked l D cI a H.size (s_X3_countEmptyUntil σ (σ 9 ix.toNatClampNeg)) (σ 7 ix.toNatClampNeg) (σ 8 ix.toNatClampNeg) (σ 9 ix.toNatClampNeg) (ht.2.2.2.2.1 h_5).1 (ht.2.2.2.2.1 h_5).2 (hw.2 _ (ht.2.2.2.2.1 h_5).1)) (cwV 3 hts gX5_happens_X5_beLocked rfl rfl rfl (by decide +kernel) ⟨Nat.le_of_ble_eq_true rfl, Nat.le_of_ble_eq_true rfl⟩) rfl rfl rfl rfl hl.1 rfl (Nat.le_of_ble_eq_true rfl) ⟨Nat.zero_le _, Nat.zero_le _⟩ dX5_happens_135 (fun H locs hP hS => ?_)
    exact x_iret hx hb hr hlk hsz hP hS (nb01 (b_X5_beLocked _ _ _ _)) (by rw [r_X5_happens, if_pos h_5, if_neg h_1, if_neg h_2, if_neg h_3, if_neg h_4]) (by rw [s_X5_happens, if_pos h_5, if_neg h_1, if_neg h_2, if_neg h_3, if_neg h_4]) dX5_happens_138
  by_cases h_6 : (s_X3_countEmptyUntil σ (σ 9 ix.toNatClampNeg)) 6 ix.toNatClampNeg = 5
  · refine x_swin (off := 90) (tgt := 139) hx hb h_6 dX5_happens_49 (by decide) (by decide) (by decide) (by decide) ?_
    refine lv_aload_n hx hb dX5_happens_139 rfl (lv_at hl 3 rfl) ?_
    refine x_get (ci := 5) (C := RX5) (T := TX5) (M := 9) (v := .ref (a 4)) hx hb hts in_X5_happens_5 hown hG hP 0 rfl rfl 3 (by decide) (List.mem_of_getElem? (i := 8) rfl) rfl rfl dX5_happens_140 ?_
    refine lv_iload_n hx hb dX5_happens_143 rfl (lv_at hl 2 rfl) ?_
    refine lv_iload_n hx hb dX5_happens_144 rfl (lv_at hl 1 rfl) ?_
    refine x_callVv (w := wX cI a) (σ := s_X3_countEmptyUntil σ (σ 9 ix.toNatClampNeg)) (σ' := s_X0_addFault (s_X3_countEmptyUntil σ (σ 9 ix.toNatClampNeg)) (σ 7 ix.toNatClampNeg) (σ 8 ix.toNatClampNeg)) (As := [.int (σ 7 ix.toNatClampNeg), .int (σ 8 ix.toNatClampNeg)]) (rest := []) (q0 := 4) ⟨hx, hb, hml, hown, hts⟩ hG hP hS hsz (c_X0_addFault l D cI a H.size (s_X3_countEmptyUntil σ (σ 9 ix.toNatClampNeg)) (σ 7 ix.toNatClampNeg) (σ 8 ix.toNatClampNeg) (ht.2.2.2.2.2.1 h_6).1) (cwV 2 hts gX5_happens_X0_addFault rfl rfl rfl (by decide +kernel) ⟨Nat.le_of_ble_eq_true rfl, Nat.le_of_ble_eq_true rfl⟩) rfl rfl rfl rfl hl.1 rfl (Nat.le_of_ble_eq_true rfl) ⟨Nat.zero_le _, Nat.zero_le _⟩ dX5_happens_145 (fun H locs hP hS => ?_)
    refine lv_iconst (v := 1) hx hb dX5_happens_148 (by decide) ?_
    exact x_iret hx hb hr hlk hsz hP hS rfl (by rw [r_X5_happens, if_pos h_6, if_neg h_1, if_neg h_2, if_neg h_3, if_neg h_4, if_neg h_5]) (by rw [s_X5_happens, if_pos h_6, if_neg h_1, if_neg h_2, if_neg h_3, if_neg h_4, if_neg h_5]) dX5_happens_149
  by_cases h_7 : (s_X3_countEmptyUntil σ (σ 9 ix.toNatClampNeg)) 6 ix.toNatClampNeg = 6
  · refine x_swin (off := 101) (tgt := 150) hx hb h_7 dX5_happens_49 (by decide) (by decide) (by decide) (by decide) ?_
    refine lv_aload_n hx hb dX5_happens_150 rfl (lv_at hl 3 rfl) ?_
    refine lv_iload_n hx hb dX5_happens_151 rfl (lv_at hl 2 rfl) ?_
    refine x_callVi (w := wX cI a) (σ := s_X3_countEmptyUntil σ (σ 9 ix.toNatClampNeg)) (σ' := s_X5_beMended (s_X3_countEmptyUntil σ (σ 9 ix.toNatClampNeg)) (σ 7 ix.toNatClampNeg)) (As := [.int (σ 7 ix.toNatClampNeg)]) (rest := []) (q0 := 0) ⟨hx, hb, hml, hown, hts⟩ hG hP hS hsz (c_X5_beMended l D cI a H.size (s_X3_countEmptyUntil σ (σ 9 ix.toNatClampNeg)) (σ 7 ix.toNatClampNeg) (ht.2.2.2.2.2.2.1 h_7)) (cwV 1 hts gX5_happens_X5_beMended rfl rfl rfl (by decide +kernel) ⟨Nat.le_of_ble_eq_true rfl, Nat.le_of_ble_eq_true rfl⟩) rfl rfl rfl rfl hl.1 rfl (Nat.le_of_ble_eq_true rfl) ⟨Nat.zero_le _, Nat.zero_le _⟩ dX5_happens_152 (fun H locs hP hS => ?_)
    exact x_iret hx hb hr hlk hsz hP hS (nb01 (b_X5_beMended _ _)) (by rw [r_X5_happens, if_pos h_7, if_neg h_1, if_neg h_2, if_neg h_3, if_neg h_4, if_neg h_5, if_neg h_6]) (by rw [s_X5_happens, if_pos h_7, if_neg h_1, if_neg h_2, if_neg h_3, if_neg h_4, if_neg h_5, if_neg h_6]) dX5_happens_155
  by_cases h_8 : (s_X3_countEmptyUntil σ (σ 9 ix.toNatClampNeg)) 6 ix.toNatClampNeg = 7
  · refine x_swin (off := 107) (tgt := 156) hx hb h_8 dX5_happens_49 (by decide) (by decide) (by decide) (by decide) ?_
    refine lv_aload_n hx hb dX5_happens_156 rfl (lv_at hl 3 rfl) ?_
    refine lv_iload_n hx hb dX5_happens_157 rfl (lv_at hl 2 rfl) ?_
    refine x_put (w := wX cI a) (σ := s_X3_countEmptyUntil σ (σ 9 ix.toNatClampNeg)) (ci := 5) (C := RX5) (T := TX5) (M := 9) hx hb hts in_X5_happens_5 tyX5 tyX5_ok nmX5 hown hG hP hS 0 rfl rfl 8 (by decide) (List.mem_of_getElem? (i := 9) rfl) rfl rfl rfl (Nat.le_of_ble_eq_true rfl) (wX_pt0_8 cI a _ _) dX5_happens_158 (fun H locs hP hS => ?_)
    refine lv_iconst (v := 1) hx hb dX5_happens_161 (by decide) ?_
    exact x_iret hx hb hr hlk hsz hP hS rfl (by rw [r_X5_happens, if_pos h_8, if_neg h_1, if_neg h_2, if_neg h_3, if_neg h_4, if_neg h_5, if_neg h_6, if_neg h_7]) (by rw [s_X5_happens, if_pos h_8, if_neg h_1, if_neg h_2, if_neg h_3, if_neg h_4, if_neg h_5, if_neg h_6, if_neg h_7]) dX5_happens_162
  refine lv_tableOut (tgt := 163) hx hb dX5_happens_49 (by have e0 := sw_ne (z := 0) h_1 (by decide); have e1 := sw_ne (z := 1) h_2 (by decide); have e2 := sw_ne (z := 2) h_3 (by decide); have e3 := sw_ne (z := 3) h_4 (by decide); have e4 := sw_ne (z := 4) h_5 (by decide); have e5 := sw_ne (z := 5) h_6 (by decide); have e6 := sw_ne (z := 6) h_7 (by decide); have e7 := sw_ne (z := 7) h_8 (by decide); omega) (by decide) ?_
  refine lv_aload_n hx hb dX5_happens_163 rfl (lv_at hl 3 rfl) ?_
  refine lv_iload_n hx hb dX5_happens_164 rfl (lv_at hl 2 rfl) ?_
  refine lv_iload_n hx hb dX5_happens_165 rfl (lv_at hl 1 rfl) ?_
  refine lv_iload hx hb dX5_happens_166 (lv_at hl 0 rfl) ?_
  refine x_callVi (w := wX cI a) (σ := s_X3_countEmptyUntil σ (σ 9 ix.toNatClampNeg)) (σ' := s_X5_bePromised (s_X3_countEmptyUntil σ (σ 9 ix.toNatClampNeg)) (σ 7 ix.toNatClampNeg) (σ 8 ix.toNatClampNeg) (σ 9 ix.toNatClampNeg)) (As := [.int (σ 7 ix.toNatClampNeg), .int (σ 8 ix.toNatClampNeg), .int (σ 9 ix.toNatClampNeg)]) (rest := []) (q0 := 0) ⟨hx, hb, hml, hown, hts⟩ hG hP hS hsz (c_X5_bePromised l D cI a H.size (s_X3_countEmptyUntil σ (σ 9 ix.toNatClampNeg)) (σ 7 ix.toNatClampNeg) (σ 8 ix.toNatClampNeg) (σ 9 ix.toNatClampNeg) (ht.2.2.2.2.2.2.2 h_1 h_2 h_3 h_4 h_5 h_6 h_7 h_8).1 (ht.2.2.2.2.2.2.2 h_1 h_2 h_3 h_4 h_5 h_6 h_7 h_8).2) (cwV 3 hts gX5_happens_X5_bePromised rfl rfl rfl (by decide +kernel) ⟨Nat.le_of_ble_eq_true rfl, Nat.le_of_ble_eq_true rfl⟩) rfl rfl rfl rfl hl.1 rfl (Nat.le_of_ble_eq_true rfl) ⟨Nat.zero_le _, Nat.zero_le _⟩ dX5_happens_168 (fun H locs hP hS => ?_)
  exact x_iret hx hb hr hlk hsz hP hS (nb01 (b_X5_bePromised _ _ _ _)) (by rw [r_X5_happens, if_neg h_1, if_neg h_2, if_neg h_3, if_neg h_4, if_neg h_5, if_neg h_6, if_neg h_7, if_neg h_8]) (by rw [s_X5_happens, if_neg h_1, if_neg h_2, if_neg h_3, if_neg h_4, if_neg h_5, if_neg h_6, if_neg h_7, if_neg h_8]) dX5_happens_171
/-- what going through the thing at a place needs -/
def okX (σ : Sg) (ix : Int32) : Prop := hT ((s_X3_countEmptyUntil σ (σ 9 ix.toNatClampNeg)) 6 ix.toNatClampNeg) (σ 7 ix.toNatClampNeg) (σ 8 ix.toNatClampNeg) ∧ hX (s_X3_countEmptyUntil σ (σ 9 ix.toNatClampNeg))
theorem in_X5_hear_4 : ∀ wd ∈ u_ws RX4 TX4 5, wd ∈ wsX5_hear := by decide +kernel
theorem in_X5_hear_5 : ∀ wd ∈ u_ws RX5 TX5 9, wd ∈ wsX5_hear := by decide +kernel
def st_X5_hear_41  (i : Nat) : Sg × Int32 → Sg × Int32
  | (y, y_1) =>
    if r_X5_happens y (nI i) = 0 then
      (sx (s_X5_happens y (nI i)) 0 7 (((s_X5_happens y (nI i)) 0 7) + 1), r_X5_happens y (nI i))
    else
      (s_X5_happens y (nI i), r_X5_happens y (nI i))
def rk_X5_hear_23 (x : Sg) (g1 cn : Nat) : Int32 :=
  (itn (fun i => st_X5_hear_41 (g1 + i)) (cn - g1) (x, 1)).2
def sk_X5_hear_23 (x : Sg) (g1 cn : Nat) : Sg :=
  sx (itn (fun i => st_X5_hear_41 (g1 + i)) (cn - g1) (x, 1)).1 0 6 (x 1 4)
def r_X5_hear (σ : Sg) (ki : Int32) (f1 : Int32) (f2 : Int32) (mi : Int32) (n : Nat) (g : Nat) : Int32 :=
  if (s_X4_insert σ ki f1 f2 mi n) 0 6 ≤ r_X4_insert σ ki f1 f2 mi n then
    rk_X5_hear_23 (s_X4_insert σ ki f1 f2 mi n) g (n + 1)
  else
    rk_X5_hear_23 (s_X5_beginAnew (s_X4_insert σ ki f1 f2 mi n)) 0 (n + 1)
def s_X5_hear (σ : Sg) (ki : Int32) (f1 : Int32) (f2 : Int32) (mi : Int32) (n : Nat) (g : Nat) : Sg :=
  if (s_X4_insert σ ki f1 f2 mi n) 0 6 ≤ r_X4_insert σ ki f1 f2 mi n then
    sk_X5_hear_23 (s_X4_insert σ ki f1 f2 mi n) g (n + 1)
  else
    sk_X5_hear_23 (s_X5_beginAnew (s_X4_insert σ ki f1 f2 mi n)) 0 (n + 1)
theorem bk_X5_hear (g : Nat) (x : Sg) : ∀ i : Nat, (itn (fun i => st_X5_hear_41 (g + i)) i (x, 1)).2 = 0 ∨ (itn (fun i => st_X5_hear_41 (g + i)) i (x, 1)).2 = 1 := by
  intro i
  induction i with
  | zero => exact Or.inr rfl
  | succ i ih =>
    show (st_X5_hear_41 (g + i) (itn (fun i => st_X5_hear_41 (g + i)) i (x, 1))).2 = 0 ∨ (st_X5_hear_41 (g + i) (itn (fun i => st_X5_hear_41 (g + i)) i (x, 1))).2 = 1
    generalize itn (fun i => st_X5_hear_41 (g + i)) i (x, 1) = z
    obtain ⟨u, v⟩ := z
    unfold st_X5_hear_41
    dsimp only
    split <;> exact b_X5_happens _ _
theorem b_X5_hear (σ : Sg) (ki : Int32) (f1 : Int32) (f2 : Int32) (mi : Int32) (n : Nat) (g : Nat) : r_X5_hear σ ki f1 f2 mi n g = 0 ∨ r_X5_hear σ ki f1 f2 mi n g = 1 := by
  unfold r_X5_hear
  repeat' split
  all_goals first | with_reducible exact Or.inl rfl | with_reducible exact Or.inr rfl | exact bk_X5_hear _ _ _
set_option maxHeartbeats 4000000 in
set_option maxRecDepth 100000 in
theorem c_X5_hear (l : Launch) (D : va_G) (cI : ClassId) (a : Nat → Nat) (sz : Nat) (σ : Sg) (ki : Int32) (f1 : Int32) (f2 : Int32) (mi : Int32) (n : Nat) (g : Nat) (hn : n < 300) (hcn : σ 1 4 = nI n) (hg : g ≤ n + 1) (hx0 : (s_X5_beginAnew (s_X4_insert σ ki f1 f2 mi n)) 0 6 = nI 0) (hy0 : (s_X5_beginAnew (s_X4_insert σ ki f1 f2 mi n)) 1 4 = nI (n + 1)) (hx1 : (s_X4_insert σ ki f1 f2 mi n) 0 6 = nI g) (hy1 : (s_X4_insert σ ki f1 f2 mi n) 1 4 = nI (n + 1)) (hok0 : ∀ i, i < n + 1 - 0 → okX (itn (fun i => st_X5_hear_41 (0 + i)) i (s_X5_beginAnew (s_X4_insert σ ki f1 f2 mi n), 1)).1 (nI (0 + i))) (hok1 : (s_X4_insert σ ki f1 f2 mi n) 0 6 ≤ r_X4_insert σ ki f1 f2 mi n → ∀ i, i < n + 1 - g → okX (itn (fun i => st_X5_hear_41 (g + i)) i ((s_X4_insert σ ki f1 f2 mi n), 1)).1 (nI (g + i))) : Met l yX5_hear wsX5_hear ({ frames := 5, cells := 0, slots := 0, locals := 110 }) (PcW D cI 29 a (wX cI a) sz σ [.ref (a 0), .int ki, .int f1, .int f2, .int mi]) (QiW D 29 a (wX cI a) sz (r_X5_hear σ ki f1 f2 mi n g) (s_X5_hear σ ki f1 f2 mi n g)) 0 0 (AX 29 a sz) := by
  refine x_of (cc := cX5_hear) (maxL := 8) (ret := some .boolean) (C := RX5) rfl (by decide) rfl (Nat.le_of_ble_eq_true rfl) (fun p e s m below meth c hx hb hr hml hlk hts hown hsz H hP hS hG ls hl => ?_)
  have hl : lv_has ls 8 [(0, .ref (a 0)), (1, .int ki), (2, .int f1), (3, .int f2), (4, .int mi)] := hl
  have cut_23 : ∀ (x : Sg) (g1 : Nat) (cn : Nat) (_ : cn ≤ 300) (_ : g1 ≤ cn) (_ : x 0 6 = nI g1) (_ : x 1 4 = nI cn) (_ : ∀ i, i < cn - g1 → okX (itn (fun i => st_X5_hear_41 (g1 + i)) i (x, 1)).1 (nI (g1 + i))) (_ : (r_X5_hear σ ki f1 f2 mi n g) = rk_X5_hear_23 x g1 cn) (_ : (s_X5_hear σ ki f1 f2 mi n g) = sk_X5_hear_23 x g1 cn) (H : Heap) (locs : List Loc) (ls : Array Slot) (_ : va_P D vwCl (wX cI a x) H) (_ : va_S (AX 29 a sz) s.heap H locs) (_ : lv_has ls 8 [(0, .ref (a 0)), (1, .int ki), (2, .int f1), (3, .int f2), (4, .int mi)]), W p l e (headSpec wsX5_hear ({ frames := 5, cells := 0, slots := 0, locals := 110 } : Room)).room s m ([.ref (a 0), .int ki, .int f1, .int f2, .int mi] : List Value).toArray below meth c H locs 0 0 (MQ below (QiW D 29 a (wX cI a) sz (r_X5_hear σ ki f1 f2 mi n g) (s_X5_hear σ ki f1 f2 mi n g)) ([.ref (a 0), .int ki, .int f1, .int f2, .int mi] : List Value).toArray s 0 0 (AX 29 a sz)) (F0 m 23 ls []) := by
    intro x g1 cn hc3 hgc hg hc hok hres hsst H locs ls hP hS hl
    refine lv_iconst (v := 1) hx hb dX5_hear_23 (by decide) ?_
    refine lv_istore (lv' := [(5, .int 1), (0, .ref (a 0)), (1, .int ki), (2, .int f1), (3, .int f2), (4, .int mi)]) hx hb dX5_hear_24 hl (by decide) rfl (fun ls hl => ?_)
    refine lv_aload_n hx hb dX5_hear_26 rfl (lv_at hl 1 rfl) ?_
    refine x_get (ci := 5) (C := RX5) (T := TX5) (M := 9) (v := .ref (a 1)) hx hb hts in_X5_hear_5 hown hG hP 0 rfl rfl 0 (by decide) (List.mem_of_getElem? (i := 1) rfl) rfl rfl dX5_hear_27 ?_
    refine x_get (ci := 4) (C := RX4) (T := TX4) (M := 5) (v := .int (x 1 4)) hx hb hts in_X5_hear_4 hown hG hP 1 rfl rfl 4 (by decide) (List.mem_of_getElem? (i := 3) rfl) rfl rfl dX5_hear_30 ?_
    refine lv_istore (lv' := [(6, .int (x 1 4)), (5, .int 1), (0, .ref (a 0)), (1, .int ki), (2, .int f1), (3, .int f2), (4, .int mi)]) hx hb dX5_hear_33 hl (by decide) rfl (fun ls hl => ?_)
    refine lv_aload_n hx hb dX5_hear_35 rfl (lv_at hl 2 rfl) ?_
    refine x_get (ci := 5) (C := RX5) (T := TX5) (M := 9) (v := .int (x 0 6)) hx hb hts in_X5_hear_5 hown hG hP 0 rfl rfl 6 (by decide) (List.mem_of_getElem? (i := 2) rfl) rfl rfl dX5_hear_36 ?_
    refine lv_istore (lv' := [(7, .int (x 0 6)), (6, .int (x 1 4)), (5, .int 1), (0, .ref (a 0)), (1, .int ki), (2, .int f1), (3, .int f2), (4, .int mi)]) hx hb dX5_hear_39 hl (by decide) rfl (fun ls hl => ?_)
    have loop_41 : ∀ (rem i : Nat) (_ : i + rem = cn - g1) (y : Sg) (y_1 : Int32) (_ : (y, y_1) = itn (fun i => st_X5_hear_41 (g1 + i)) i (x, 1)) (H : Heap) (locs : List Loc) (ls : Array Slot) (_ : va_P D vwCl (wX cI a y) H) (_ : va_S (AX 29 a sz) s.heap H locs) (_ : lv_has ls 8 [(7, .int (nI (g1 + i))), (5, .int y_1), (6, .int (x 1 4)), (0, .ref (a 0)), (1, .int ki), (2, .int f1), (3, .int f2), (4, .int mi)]), W p l e (headSpec wsX5_hear ({ frames := 5, cells := 0, slots := 0, locals := 110 } : Room)).room s m ([.ref (a 0), .int ki, .int f1, .int f2, .int mi] : List Value).toArray below meth c H locs 0 0 (MQ below (QiW D 29 a (wX cI a) sz (r_X5_hear σ ki f1 f2 mi n g) (s_X5_hear σ ki f1 f2 mi n g)) ([.ref (a 0), .int ki, .int f1, .int f2, .int mi] : List Value).toArray s 0 0 (AX 29 a sz)) (F0 m 41 ls []) := by
      intro rem
      induction rem with
      | zero =>
        intro i hi y y_1 ex41 H locs ls hP hS hl
        obtain rfl : cn - g1 = i := by omega
        refine lv_iload hx hb dX5_hear_41 (lv_at hl 0 rfl) ?_
        refine lv_iload hx hb dX5_hear_43 (lv_at hl 2 rfl) ?_
        refine lv_icmp_ge (tgt := 77) hx hb dX5_hear_45 (by decide) (fun _ => ?_) (fun h => absurd (show x 1 4 ≤ nI (g1 + (cn - g1)) by rw [hc]; exact nI_le (by omega) (by omega)) h)
        refine lv_aload_n hx hb dX5_hear_77 rfl (lv_at hl 3 rfl) ?_
        refine lv_iload hx hb dX5_hear_78 (lv_at hl 2 rfl) ?_
        refine x_put (w := wX cI a) (σ := y) (ci := 5) (C := RX5) (T := TX5) (M := 9) hx hb hts in_X5_hear_5 tyX5 tyX5_ok nmX5 hown hG hP hS 0 rfl rfl 6 (by decide) (List.mem_of_getElem? (i := 2) rfl) rfl rfl rfl (Nat.le_of_ble_eq_true rfl) (wX_pt0_6 cI a _ _) dX5_hear_80 (fun H locs hP hS => ?_)
        refine lv_iload hx hb dX5_hear_83 (lv_at hl 1 rfl) ?_
        exact x_iret hx hb hr hlk hsz hP hS (nb01 (by have e1 := congrArg Prod.fst ex41; have e2 := congrArg Prod.snd ex41; dsimp only at e1 e2; rw [e2]; exact bk_X5_hear g1 x _)) (by rw [hres, rk_X5_hear_23, ← ex41]) (by rw [hsst, sk_X5_hear_23, ← ex41]) dX5_hear_85
      | succ rem ih =>
        intro i hi y y_1 ex41 H locs ls hP hS hl
        refine lv_iload hx hb dX5_hear_41 (lv_at hl 0 rfl) ?_
        refine lv_iload hx hb dX5_hear_43 (lv_at hl 2 rfl) ?_
        refine lv_icmp_ge (tgt := 77) hx hb dX5_hear_45 (by decide) (fun h => absurd h (show ¬ x 1 4 ≤ nI (g1 + i) by rw [hc]; exact nI_ge (by omega) (by omega))) (fun _ => ?_)
        refine lv_aload_n hx hb dX5_hear_48 rfl (lv_at hl 3 rfl) ?_
        refine lv_iload hx hb dX5_hear_49 (lv_at hl 0 rfl) ?_
        refine x_callVi (w := wX cI a) (σ := y) (σ' := s_X5_happens y (nI (g1 + i))) (As := [.int (nI (g1 + i))]) (rest := []) (q0 := 0) ⟨hx, hb, hml, hown, hts⟩ hG hP hS hsz (c_X5_happens l D cI a H.size y (nI (g1 + i)) (vp_in_nI (by omega) (by decide)) (by have e1 := congrArg Prod.fst ex41; have e2 := congrArg Prod.snd ex41; dsimp only at e1 e2; rw [e1]; exact (hok i (by omega)).1) (by have e1 := congrArg Prod.fst ex41; have e2 := congrArg Prod.snd ex41; dsimp only at e1 e2; rw [e1]; exact (hok i (by omega)).2)) (cwV 1 hts gX5_hear_X5_happens rfl rfl rfl (by decide +kernel) ⟨Nat.le_of_ble_eq_true rfl, Nat.le_of_ble_eq_true rfl⟩) rfl rfl rfl rfl hl.1 rfl (Nat.le_of_ble_eq_true rfl) ⟨Nat.zero_le _, Nat.zero_le _⟩ dX5_hear_51 (fun H locs hP hS => ?_)
        refine lv_istore (lv' := [(5, .int (r_X5_happens y (nI (g1 + i)))), (7, .int (nI (g1 + i))), (6, .int (x 1 4)), (0, .ref (a 0)), (1, .int ki), (2, .int f1), (3, .int f2), (4, .int mi)]) hx hb dX5_hear_54 hl (by decide) rfl (fun ls hl => ?_)
        refine lv_iload hx hb dX5_hear_56 (lv_at hl 0 rfl) ?_
        refine lv_if_ne (tgt := 71) hx hb dX5_hear_58 (by decide) (fun h_1 => ?_) (fun h_1 => ?_)
        · refine lv_iinc (v := nI (g1 + i + 1)) (lv' := [(7, .int (nI (g1 + i + 1))), (5, .int (r_X5_happens y (nI (g1 + i)))), (6, .int (x 1 4)), (0, .ref (a 0)), (1, .int ki), (2, .int f1), (3, .int f2), (4, .int mi)]) hx hb dX5_hear_71 hl (k := 1) rfl (by rw [nI_succ]; rfl) (by decide) rfl (fun ls hl => ?_)
          refine lv_goto (tgt := 41) hx hb dX5_hear_74 (by decide) ?_
          exact ih (i + 1) (by omega) (s_X5_happens y (nI (g1 + i))) (r_X5_happens y (nI (g1 + i))) (by rw [itn, ← ex41]; rw [st_X5_hear_41, if_neg h_1]) H locs ls hP hS (lv_sub hl [0, 1, 2, 3, 4, 5, 6, 7] rfl)
        · refine lv_aload_n hx hb dX5_hear_61 rfl (lv_at hl 3 rfl) ?_
          refine lv_dup hx hb dX5_hear_62 rfl ?_
          refine x_get (ci := 5) (C := RX5) (T := TX5) (M := 9) (v := .int ((s_X5_happens y (nI (g1 + i))) 0 7)) hx hb hts in_X5_hear_5 hown hG hP 0 rfl rfl 7 (by decide) (List.mem_of_getElem? (i := 4) rfl) rfl rfl dX5_hear_63 ?_
          refine lv_iconst (v := 1) hx hb dX5_hear_66 (by decide) ?_
          refine lv_iadd hx hb dX5_hear_67 ?_
          refine x_put (w := wX cI a) (σ := s_X5_happens y (nI (g1 + i))) (ci := 5) (C := RX5) (T := TX5) (M := 9) hx hb hts in_X5_hear_5 tyX5 tyX5_ok nmX5 hown hG hP hS 0 rfl rfl 7 (by decide) (List.mem_of_getElem? (i := 4) rfl) rfl rfl rfl (Nat.le_of_ble_eq_true rfl) (wX_pt0_7 cI a _ _) dX5_hear_68 (fun H locs hP hS => ?_)
          refine lv_iinc (v := nI (g1 + i + 1)) (lv' := [(7, .int (nI (g1 + i + 1))), (5, .int (r_X5_happens y (nI (g1 + i)))), (6, .int (x 1 4)), (0, .ref (a 0)), (1, .int ki), (2, .int f1), (3, .int f2), (4, .int mi)]) hx hb dX5_hear_71 hl (k := 1) rfl (by rw [nI_succ]; rfl) (by decide) rfl (fun ls hl => ?_)
          refine lv_goto (tgt := 41) hx hb dX5_hear_74 (by decide) ?_
          exact ih (i + 1) (by omega) (sx (s_X5_happens y (nI (g1 + i))) 0 7 (((s_X5_happens y (nI (g1 + i))) 0 7) + 1)) (r_X5_happens y (nI (g1 + i))) (by rw [itn, ← ex41]; rw [st_X5_hear_41, if_pos h_1]) H locs ls hP hS (lv_sub hl [0, 1, 2, 3, 4, 5, 6, 7] rfl)
    exact loop_41 (cn - g1) 0 (Nat.zero_add _) x 1 (itn0 _ _) _ _ _ hP hS (by rw [hg] at hl; exact lv_sub hl [0, 2, 1, 3, 4, 5, 6, 7] rfl)
  refine lv_aload_n hx hb dX5_hear_0 rfl (lv_at hl 0 rfl) ?_
  refine x_get (ci := 5) (C := RX5) (T := TX5) (M := 9) (v := .ref (a 1)) hx hb hts in_X5_hear_5 hown hG hP 0 rfl rfl 0 (by decide) (List.mem_of_getElem? (i := 1) rfl) rfl rfl dX5_hear_1 ?_
  refine lv_iload_n hx hb dX5_hear_4 rfl (lv_at hl 1 rfl) ?_
  refine lv_iload_n hx hb dX5_hear_5 rfl (lv_at hl 2 rfl) ?_
  refine lv_iload_n hx hb dX5_hear_6 rfl (lv_at hl 3 rfl) ?_
  refine lv_iload hx hb dX5_hear_7 (lv_at hl 4 rfl) ?_
  refine x_callVi (w := wX cI a) (σ := σ) (σ' := s_X4_insert σ ki f1 f2 mi n) (As := [.int ki, .int f1, .int f2, .int mi]) (rest := []) (q0 := 1) ⟨hx, hb, hml, hown, hts⟩ hG hP hS hsz (c_X4_insert l D cI a H.size σ ki f1 f2 mi n hn hcn) (cwV 4 hts gX5_hear_X4_insert rfl rfl rfl (by decide +kernel) ⟨Nat.le_of_ble_eq_true rfl, Nat.le_of_ble_eq_true rfl⟩) rfl rfl rfl rfl hl.1 rfl (Nat.le_of_ble_eq_true rfl) ⟨Nat.zero_le _, Nat.zero_le _⟩ dX5_hear_9 (fun H locs hP hS => ?_)
  refine lv_aload_n hx hb dX5_hear_12 rfl (lv_at hl 0 rfl) ?_
  refine x_get (ci := 5) (C := RX5) (T := TX5) (M := 9) (v := .int ((s_X4_insert σ ki f1 f2 mi n) 0 6)) hx hb hts in_X5_hear_5 hown hG hP 0 rfl rfl 6 (by decide) (List.mem_of_getElem? (i := 2) rfl) rfl rfl dX5_hear_13 ?_
  refine lv_icmp_ge (tgt := 23) hx hb dX5_hear_16 (by decide) (fun h_2 => ?_) (fun h_2 => ?_)
  · exact cut_23 (s_X4_insert σ ki f1 f2 mi n) g (n + 1) (by omega) hg hx1 hy1 (hok1 h_2) (by rw [r_X5_hear, if_pos h_2]) (by rw [s_X5_hear, if_pos h_2]) H _ ls hP hS (lv_sub hl [0, 1, 2, 3, 4] rfl)
  · refine lv_aload_n hx hb dX5_hear_19 rfl (lv_at hl 0 rfl) ?_
    refine x_callVv (w := wX cI a) (σ := s_X4_insert σ ki f1 f2 mi n) (σ' := s_X5_beginAnew (s_X4_insert σ ki f1 f2 mi n)) (As := []) (rest := []) (q0 := 0) ⟨hx, hb, hml, hown, hts⟩ hG hP hS hsz (c_X5_beginAnew l D cI a H.size (s_X4_insert σ ki f1 f2 mi n) ) (cwV 0 hts gX5_hear_X5_beginAnew rfl rfl rfl (by decide +kernel) ⟨Nat.le_of_ble_eq_true rfl, Nat.le_of_ble_eq_true rfl⟩) rfl rfl rfl rfl hl.1 rfl (Nat.le_of_ble_eq_true rfl) ⟨Nat.zero_le _, Nat.zero_le _⟩ dX5_hear_20 (fun H locs hP hS => ?_)
    exact cut_23 (s_X5_beginAnew (s_X4_insert σ ki f1 f2 mi n)) 0 (n + 1) (by omega) (Nat.zero_le _) hx0 hy0 hok0 (by rw [r_X5_hear, if_neg h_2]) (by rw [s_X5_hear, if_neg h_2]) H _ ls hP hS (lv_sub hl [0, 1, 2, 3, 4] rfl)
