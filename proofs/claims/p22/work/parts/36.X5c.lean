theorem in_X5_minutesOf_2 : ∀ wd ∈ u_ws RX2 TX2 6, wd ∈ wsX5_minutesOf := by decide +kernel
theorem in_X5_minutesOf_5 : ∀ wd ∈ u_ws RX5 TX5 9, wd ∈ wsX5_minutesOf := by decide +kernel
def st_X5_minutesOf_12 (σ : Sg) (ri : Int32) (i : Nat) (x12 : Int32) : Int32 :=
  if r_X0_isRiddenBy σ (nI i) ri = 0 then
    x12
  else
    (x12 + (r_X0_minutesGoingOn σ (nI i) (σ 0 5)))
def r_X5_minutesOf (σ : Sg) (ri : Int32) : Int32 :=
  (itn (st_X5_minutesOf_12 σ ri) 30 (σ 24 ri.toNatClampNeg))
set_option maxHeartbeats 4000000 in
set_option maxRecDepth 100000 in
theorem c_X5_minutesOf (l : Launch) (D : va_G) (cI : ClassId) (a : Nat → Nat) (sz : Nat) (σ : Sg) (ri : Int32) (hr1 : vp_in ri 10) : Met l yX5_minutesOf wsX5_minutesOf ({ frames := 1, cells := 0, slots := 0, locals := 22 }) (PcW D cI 29 a (wX cI a) sz σ [.ref (a 0), .int ri]) (QiW D 29 a (wX cI a) sz (r_X5_minutesOf σ ri) σ) 0 0 (AX 29 a sz) := by
  refine x_of (cc := cX5_minutesOf) (maxL := 4) (ret := some .int) (C := RX5) rfl (by decide) rfl (Nat.le_of_ble_eq_true rfl) (fun p e s m below meth c hx hb hr hml hlk hts hown hsz H hP hS hG ls hl => ?_)
  have hl : lv_has ls 4 [(0, .ref (a 0)), (1, .int ri)] := hl
  refine lv_aload_n hx hb dX5_minutesOf_0 rfl (lv_at hl 0 rfl) ?_
  refine x_get (ci := 5) (C := RX5) (T := TX5) (M := 9) (v := .ref (a 5)) hx hb hts in_X5_minutesOf_5 hown hG hP 0 rfl rfl 4 (by decide) (List.mem_of_getElem? (i := 1) rfl) rfl rfl dX5_minutesOf_1 ?_
  refine x_get (ci := 2) (C := RX2) (T := TX2) (M := 6) (v := .ref (a 24)) hx hb hts in_X5_minutesOf_2 hown hG hP 5 rfl rfl 1 (by decide) (List.mem_of_getElem? (i := 2) rfl) rfl rfl dX5_minutesOf_4 ?_
  refine lv_iload_n hx hb dX5_minutesOf_7 rfl (lv_at hl 1 rfl) ?_
  refine x_iald (f := σ 24) hx hb hG hP 24 rfl (by assumption) dX5_minutesOf_8 ?_
  refine lv_istore_n (lv' := [(2, .int (σ 24 ri.toNatClampNeg)), (0, .ref (a 0)), (1, .int ri)]) hx hb dX5_minutesOf_9 rfl hl (by decide) rfl (fun ls hl => ?_)
  refine lv_iconst (v := 0) hx hb dX5_minutesOf_10 (by decide) ?_
  refine lv_istore_n (lv' := [(3, .int 0), (2, .int (σ 24 ri.toNatClampNeg)), (0, .ref (a 0)), (1, .int ri)]) hx hb dX5_minutesOf_11 rfl hl (by decide) rfl (fun ls hl => ?_)
  have loop_12 : ∀ (rem i : Nat) (_ : i + rem = 30) (x12 : Int32) (_ : x12 = itn (st_X5_minutesOf_12 σ ri) i (σ 24 ri.toNatClampNeg)) (H : Heap) (locs : List Loc) (ls : Array Slot) (_ : va_P D vwCl (wX cI a σ) H) (_ : va_S (AX 29 a sz) s.heap H locs) (_ : lv_has ls 4 [(3, .int (nI i)), (2, .int x12), (0, .ref (a 0)), (1, .int ri)]), W p l e (headSpec wsX5_minutesOf ({ frames := 1, cells := 0, slots := 0, locals := 22 } : Room)).room s m ([.ref (a 0), .int ri] : List Value).toArray below meth c H locs 0 0 (MQ below (QiW D 29 a (wX cI a) sz (r_X5_minutesOf σ ri) σ) ([.ref (a 0), .int ri] : List Value).toArray s 0 0 (AX 29 a sz)) (F0 m 12 ls []) := by
    intro rem
    induction rem with
    | zero =>
      intro i hi x12 ex12 H locs ls hP hS hl
      obtain rfl : 30 = i := by omega
      refine lv_iload_n hx hb dX5_minutesOf_12 rfl (lv_at hl 0 rfl) ?_
      refine lv_bipush (v := 30) hx hb dX5_minutesOf_13 (by decide) ?_
      refine lv_icmp_ge (tgt := 51) hx hb dX5_minutesOf_15 (by decide) (fun _ => ?_) (fun h => absurd (show (30 : Int32) ≤ nI 30 by decide) h)
      refine lv_iload_n hx hb dX5_minutesOf_51 rfl (lv_at hl 1 rfl) ?_
      exact x_iret hx hb hr hlk hsz hP hS rfl (by rw [r_X5_minutesOf, ← ex12]) rfl dX5_minutesOf_52
    | succ rem ih =>
      intro i hi x12 ex12 H locs ls hP hS hl
      refine lv_iload_n hx hb dX5_minutesOf_12 rfl (lv_at hl 0 rfl) ?_
      refine lv_bipush (v := 30) hx hb dX5_minutesOf_13 (by decide) ?_
      refine lv_icmp_ge (tgt := 51) hx hb dX5_minutesOf_15 (by decide) (fun h => absurd h (nI_ge (a := i) (b := 30) (by omega) (by decide))) (fun _ => ?_)
      refine lv_aload_n hx hb dX5_minutesOf_18 rfl (lv_at hl 2 rfl) ?_
      refine x_get (ci := 5) (C := RX5) (T := TX5) (M := 9) (v := .ref (a 4)) hx hb hts in_X5_minutesOf_5 hown hG hP 0 rfl rfl 3 (by decide) (List.mem_of_getElem? (i := 3) rfl) rfl rfl dX5_minutesOf_19 ?_
      refine lv_iload_n hx hb dX5_minutesOf_22 rfl (lv_at hl 0 rfl) ?_
      refine lv_iload_n hx hb dX5_minutesOf_23 rfl (lv_at hl 3 rfl) ?_
      refine x_callVi (w := wX cI a) (σ := σ) (σ' := σ) (As := [.int (nI i), .int ri]) (rest := []) (q0 := 4) ⟨hx, hb, hml, hown, hts⟩ hG hP hS hsz (c_X0_isRiddenBy l D cI a H.size σ (nI i) ri (vp_in_nI (by omega) (by decide))) (cwV 2 hts gX5_minutesOf_X0_isRiddenBy rfl rfl rfl (by decide +kernel) ⟨Nat.le_of_ble_eq_true rfl, Nat.le_of_ble_eq_true rfl⟩) rfl rfl rfl rfl hl.1 rfl (Nat.le_of_ble_eq_true rfl) ⟨Nat.zero_le _, Nat.zero_le _⟩ dX5_minutesOf_24 (fun H locs hP hS => ?_)
      refine lv_if_eq (tgt := 45) hx hb dX5_minutesOf_27 (by decide) (fun h_1 => ?_) (fun h_1 => ?_)
      · refine lv_iinc (v := nI (i + 1)) (lv' := [(3, .int (nI (i + 1))), (2, .int x12), (0, .ref (a 0)), (1, .int ri)]) hx hb dX5_minutesOf_45 hl (k := 0) rfl (by rw [nI_succ]; rfl) (by decide) rfl (fun ls hl => ?_)
        refine lv_goto (tgt := 12) hx hb dX5_minutesOf_48 (by decide) ?_
        exact ih (i + 1) (by omega) x12 (by rw [itn, ← ex12]; rw [st_X5_minutesOf_12, if_pos h_1]) H locs ls hP hS (lv_sub hl [0, 1, 2, 3] rfl)
      · refine lv_iload_n hx hb dX5_minutesOf_30 rfl (lv_at hl 1 rfl) ?_
        refine lv_aload_n hx hb dX5_minutesOf_31 rfl (lv_at hl 2 rfl) ?_
        refine x_get (ci := 5) (C := RX5) (T := TX5) (M := 9) (v := .ref (a 4)) hx hb hts in_X5_minutesOf_5 hown hG hP 0 rfl rfl 3 (by decide) (List.mem_of_getElem? (i := 3) rfl) rfl rfl dX5_minutesOf_32 ?_
        refine lv_iload_n hx hb dX5_minutesOf_35 rfl (lv_at hl 0 rfl) ?_
        refine lv_aload_n hx hb dX5_minutesOf_36 rfl (lv_at hl 2 rfl) ?_
        refine x_get (ci := 5) (C := RX5) (T := TX5) (M := 9) (v := .int (σ 0 5)) hx hb hts in_X5_minutesOf_5 hown hG hP 0 rfl rfl 5 (by decide) (List.mem_of_getElem? (i := 4) rfl) rfl rfl dX5_minutesOf_37 ?_
        refine x_callVi (w := wX cI a) (σ := σ) (σ' := σ) (As := [.int (nI i), .int (σ 0 5)]) (rest := [.int x12]) (q0 := 4) ⟨hx, hb, hml, hown, hts⟩ hG hP hS hsz (c_X0_minutesGoingOn l D cI a H.size σ (nI i) (σ 0 5) (vp_in_nI (by omega) (by decide))) (cwV 2 hts gX5_minutesOf_X0_minutesGoingOn rfl rfl rfl (by decide +kernel) ⟨Nat.le_of_ble_eq_true rfl, Nat.le_of_ble_eq_true rfl⟩) rfl rfl rfl rfl hl.1 rfl (Nat.le_of_ble_eq_true rfl) ⟨Nat.zero_le _, Nat.zero_le _⟩ dX5_minutesOf_40 (fun H locs hP hS => ?_)
        refine lv_iadd hx hb dX5_minutesOf_43 ?_
        refine lv_istore_n (lv' := [(2, .int (x12 + (r_X0_minutesGoingOn σ (nI i) (σ 0 5)))), (3, .int (nI i)), (0, .ref (a 0)), (1, .int ri)]) hx hb dX5_minutesOf_44 rfl hl (by decide) rfl (fun ls hl => ?_)
        refine lv_iinc (v := nI (i + 1)) (lv' := [(3, .int (nI (i + 1))), (2, .int (x12 + (r_X0_minutesGoingOn σ (nI i) (σ 0 5)))), (0, .ref (a 0)), (1, .int ri)]) hx hb dX5_minutesOf_45 hl (k := 1) rfl (by rw [nI_succ]; rfl) (by decide) rfl (fun ls hl => ?_)
        refine lv_goto (tgt := 12) hx hb dX5_minutesOf_48 (by decide) ?_
        exact ih (i + 1) (by omega) (x12 + (r_X0_minutesGoingOn σ (nI i) (σ 0 5))) (by rw [itn, ← ex12]; rw [st_X5_minutesOf_12, if_neg h_1]) H locs ls hP hS (lv_sub hl [0, 1, 2, 3] rfl)
  exact loop_12 (30) 0 (Nat.zero_add _) (σ 24 ri.toNatClampNeg) (itn0 _ _) _ _ _ hP hS (lv_sub hl [0, 1, 2, 3] rfl)
theorem in_X5_costGoingOn_5 : ∀ wd ∈ u_ws RX5 TX5 9, wd ∈ wsX5_costGoingOn := by decide +kernel
def st_X5_costGoingOn_4 (σ : Sg) (ri : Int32) (i : Nat) (x4 : Int32) : Int32 :=
  if r_X0_isRiddenBy σ (nI i) ri = 0 then
    x4
  else
    (x4 + (r_X0_rideCost σ (nI i) (r_X0_minutesGoingOn σ (nI i) (σ 0 5))))
def r_X5_costGoingOn (σ : Sg) (ri : Int32) : Int32 :=
  (itn (st_X5_costGoingOn_4 σ ri) 30 0)
set_option maxHeartbeats 4000000 in
set_option maxRecDepth 100000 in
theorem c_X5_costGoingOn (l : Launch) (D : va_G) (cI : ClassId) (a : Nat → Nat) (sz : Nat) (σ : Sg) (ri : Int32) (hr1 : vp_in ri 10) : Met l yX5_costGoingOn wsX5_costGoingOn ({ frames := 2, cells := 0, slots := 0, locals := 36 }) (PcW D cI 29 a (wX cI a) sz σ [.ref (a 0), .int ri]) (QiW D 29 a (wX cI a) sz (r_X5_costGoingOn σ ri) σ) 0 0 (AX 29 a sz) := by
  refine x_of (cc := cX5_costGoingOn) (maxL := 4) (ret := some .int) (C := RX5) rfl (by decide) rfl (Nat.le_of_ble_eq_true rfl) (fun p e s m below meth c hx hb hr hml hlk hts hown hsz H hP hS hG ls hl => ?_)
  have hl : lv_has ls 4 [(0, .ref (a 0)), (1, .int ri)] := hl
  refine lv_iconst (v := 0) hx hb dX5_costGoingOn_0 (by decide) ?_
  refine lv_istore_n (lv' := [(2, .int 0), (0, .ref (a 0)), (1, .int ri)]) hx hb dX5_costGoingOn_1 rfl hl (by decide) rfl (fun ls hl => ?_)
  refine lv_iconst (v := 0) hx hb dX5_costGoingOn_2 (by decide) ?_
  refine lv_istore_n (lv' := [(3, .int 0), (2, .int 0), (0, .ref (a 0)), (1, .int ri)]) hx hb dX5_costGoingOn_3 rfl hl (by decide) rfl (fun ls hl => ?_)
  have loop_4 : ∀ (rem i : Nat) (_ : i + rem = 30) (x4 : Int32) (_ : x4 = itn (st_X5_costGoingOn_4 σ ri) i 0) (H : Heap) (locs : List Loc) (ls : Array Slot) (_ : va_P D vwCl (wX cI a σ) H) (_ : va_S (AX 29 a sz) s.heap H locs) (_ : lv_has ls 4 [(3, .int (nI i)), (2, .int x4), (0, .ref (a 0)), (1, .int ri)]), W p l e (headSpec wsX5_costGoingOn ({ frames := 2, cells := 0, slots := 0, locals := 36 } : Room)).room s m ([.ref (a 0), .int ri] : List Value).toArray below meth c H locs 0 0 (MQ below (QiW D 29 a (wX cI a) sz (r_X5_costGoingOn σ ri) σ) ([.ref (a 0), .int ri] : List Value).toArray s 0 0 (AX 29 a sz)) (F0 m 4 ls []) := by
    intro rem
    induction rem with
    | zero =>
      intro i hi x4 ex4 H locs ls hP hS hl
      obtain rfl : 30 = i := by omega
      refine lv_iload_n hx hb dX5_costGoingOn_4 rfl (lv_at hl 0 rfl) ?_
      refine lv_bipush (v := 30) hx hb dX5_costGoingOn_5 (by decide) ?_
      refine lv_icmp_ge (tgt := 51) hx hb dX5_costGoingOn_7 (by decide) (fun _ => ?_) (fun h => absurd (show (30 : Int32) ≤ nI 30 by decide) h)
      refine lv_iload_n hx hb dX5_costGoingOn_51 rfl (lv_at hl 1 rfl) ?_
      exact x_iret hx hb hr hlk hsz hP hS rfl (by rw [r_X5_costGoingOn, ← ex4]) rfl dX5_costGoingOn_52
    | succ rem ih =>
      intro i hi x4 ex4 H locs ls hP hS hl
      refine lv_iload_n hx hb dX5_costGoingOn_4 rfl (lv_at hl 0 rfl) ?_
      refine lv_bipush (v := 30) hx hb dX5_costGoingOn_5 (by decide) ?_
      refine lv_icmp_ge (tgt := 51) hx hb dX5_costGoingOn_7 (by decide) (fun h => absurd h (nI_ge (a := i) (b := 30) (by omega) (by decide))) (fun _ => ?_)
      refine lv_aload_n hx hb dX5_costGoingOn_10 rfl (lv_at hl 2 rfl) ?_
      refine x_get (ci := 5) (C := RX5) (T := TX5) (M := 9) (v := .ref (a 4)) hx hb hts in_X5_costGoingOn_5 hown hG hP 0 rfl rfl 3 (by decide) (List.mem_of_getElem? (i := 1) rfl) rfl rfl dX5_costGoingOn_11 ?_
      refine lv_iload_n hx hb dX5_costGoingOn_14 rfl (lv_at hl 0 rfl) ?_
      refine lv_iload_n hx hb dX5_costGoingOn_15 rfl (lv_at hl 3 rfl) ?_
      refine x_callVi (w := wX cI a) (σ := σ) (σ' := σ) (As := [.int (nI i), .int ri]) (rest := []) (q0 := 4) ⟨hx, hb, hml, hown, hts⟩ hG hP hS hsz (c_X0_isRiddenBy l D cI a H.size σ (nI i) ri (vp_in_nI (by omega) (by decide))) (cwV 2 hts gX5_costGoingOn_X0_isRiddenBy rfl rfl rfl (by decide +kernel) ⟨Nat.le_of_ble_eq_true rfl, Nat.le_of_ble_eq_true rfl⟩) rfl rfl rfl rfl hl.1 rfl (Nat.le_of_ble_eq_true rfl) ⟨Nat.zero_le _, Nat.zero_le _⟩ dX5_costGoingOn_16 (fun H locs hP hS => ?_)
      refine lv_if_eq (tgt := 45) hx hb dX5_costGoingOn_19 (by decide) (fun h_1 => ?_) (fun h_1 => ?_)
      · refine lv_iinc (v := nI (i + 1)) (lv' := [(3, .int (nI (i + 1))), (2, .int x4), (0, .ref (a 0)), (1, .int ri)]) hx hb dX5_costGoingOn_45 hl (k := 0) rfl (by rw [nI_succ]; rfl) (by decide) rfl (fun ls hl => ?_)
        refine lv_goto (tgt := 4) hx hb dX5_costGoingOn_48 (by decide) ?_
        exact ih (i + 1) (by omega) x4 (by rw [itn, ← ex4]; rw [st_X5_costGoingOn_4, if_pos h_1]) H locs ls hP hS (lv_sub hl [0, 1, 2, 3] rfl)
      · refine lv_iload_n hx hb dX5_costGoingOn_22 rfl (lv_at hl 1 rfl) ?_
        refine lv_aload_n hx hb dX5_costGoingOn_23 rfl (lv_at hl 2 rfl) ?_
        refine x_get (ci := 5) (C := RX5) (T := TX5) (M := 9) (v := .ref (a 4)) hx hb hts in_X5_costGoingOn_5 hown hG hP 0 rfl rfl 3 (by decide) (List.mem_of_getElem? (i := 1) rfl) rfl rfl dX5_costGoingOn_24 ?_
        refine lv_iload_n hx hb dX5_costGoingOn_27 rfl (lv_at hl 0 rfl) ?_
        refine lv_aload_n hx hb dX5_costGoingOn_28 rfl (lv_at hl 2 rfl) ?_
        refine x_get (ci := 5) (C := RX5) (T := TX5) (M := 9) (v := .ref (a 4)) hx hb hts in_X5_costGoingOn_5 hown hG hP 0 rfl rfl 3 (by decide) (List.mem_of_getElem? (i := 1) rfl) rfl rfl dX5_costGoingOn_29 ?_
        refine lv_iload_n hx hb dX5_costGoingOn_32 rfl (lv_at hl 0 rfl) ?_
        refine lv_aload_n hx hb dX5_costGoingOn_33 rfl (lv_at hl 2 rfl) ?_
        refine x_get (ci := 5) (C := RX5) (T := TX5) (M := 9) (v := .int (σ 0 5)) hx hb hts in_X5_costGoingOn_5 hown hG hP 0 rfl rfl 5 (by decide) (List.mem_of_getElem? (i := 2) rfl) rfl rfl dX5_costGoingOn_34 ?_
        refine x_callVi (w := wX cI a) (σ := σ) (σ' := σ) (As := [.int (nI i), .int (σ 0 5)]) (rest := [.int (nI i), .ref (a 4), .int x4]) (q0 := 4) ⟨hx, hb, hml, hown, hts⟩ hG hP hS hsz (c_X0_minutesGoingOn l D cI a H.size σ (nI i) (σ 0 5) (vp_in_nI (by omega) (by decide))) (cwV 2 hts gX5_costGoingOn_X0_minutesGoingOn rfl rfl rfl (by decide +kernel) ⟨Nat.le_of_ble_eq_true rfl, Nat.le_of_ble_eq_true rfl⟩) rfl rfl rfl rfl hl.1 rfl (Nat.le_of_ble_eq_true rfl) ⟨Nat.zero_le _, Nat.zero_le _⟩ dX5_costGoingOn_37 (fun H locs hP hS => ?_)
        refine x_callVi (w := wX cI a) (σ := σ) (σ' := σ) (As := [.int (nI i), .int (r_X0_minutesGoingOn σ (nI i) (σ 0 5))]) (rest := [.int x4]) (q0 := 4) ⟨hx, hb, hml, hown, hts⟩ hG hP hS hsz (c_X0_rideCost l D cI a H.size σ (nI i) (r_X0_minutesGoingOn σ (nI i) (σ 0 5)) (vp_in_nI (by omega) (by decide))) (cwV 2 hts gX5_costGoingOn_X0_rideCost rfl rfl rfl (by decide +kernel) ⟨Nat.le_of_ble_eq_true rfl, Nat.le_of_ble_eq_true rfl⟩) rfl rfl rfl rfl hl.1 rfl (Nat.le_of_ble_eq_true rfl) ⟨Nat.zero_le _, Nat.zero_le _⟩ dX5_costGoingOn_40 (fun H locs hP hS => ?_)
        refine lv_iadd hx hb dX5_costGoingOn_43 ?_
        refine lv_istore_n (lv' := [(2, .int (x4 + (r_X0_rideCost σ (nI i) (r_X0_minutesGoingOn σ (nI i) (σ 0 5))))), (3, .int (nI i)), (0, .ref (a 0)), (1, .int ri)]) hx hb dX5_costGoingOn_44 rfl hl (by decide) rfl (fun ls hl => ?_)
        refine lv_iinc (v := nI (i + 1)) (lv' := [(3, .int (nI (i + 1))), (2, .int (x4 + (r_X0_rideCost σ (nI i) (r_X0_minutesGoingOn σ (nI i) (σ 0 5))))), (0, .ref (a 0)), (1, .int ri)]) hx hb dX5_costGoingOn_45 hl (k := 1) rfl (by rw [nI_succ]; rfl) (by decide) rfl (fun ls hl => ?_)
        refine lv_goto (tgt := 4) hx hb dX5_costGoingOn_48 (by decide) ?_
        exact ih (i + 1) (by omega) (x4 + (r_X0_rideCost σ (nI i) (r_X0_minutesGoingOn σ (nI i) (σ 0 5)))) (by rw [itn, ← ex4]; rw [st_X5_costGoingOn_4, if_neg h_1]) H locs ls hP hS (lv_sub hl [0, 1, 2, 3] rfl)
  exact loop_4 (30) 0 (Nat.zero_add _) 0 (itn0 _ _) _ _ _ hP hS (lv_sub hl [0, 1, 2, 3] rfl)
theorem in_X5_agrees_0 : ∀ wd ∈ u_ws RX0 TX0 7, wd ∈ wsX5_agrees := by decide +kernel
theorem in_X5_agrees_5 : ∀ wd ∈ u_ws RX5 TX5 9, wd ∈ wsX5_agrees := by decide +kernel
def st_X5_agrees_45 (σ : Sg) (i : Nat) (x45 : Int32) : Int32 :=
  (x45 + (r_X5_minutesOf σ (nI i)))
def st_X5_agrees_4 (σ : Sg) (i : Nat) (x4 : Int32) : Int32 :=
  (x4 + ((σ 19 (nI i).toNatClampNeg) + (r_X0_minutesGoingOn σ (nI i) (σ 0 5))))
def r_X5_agrees (σ : Sg) : Int32 :=
  if (itn (st_X5_agrees_4 σ) 30 0) = (itn (st_X5_agrees_45 σ) 10 0) then
    1
  else
    0
theorem b_X5_agrees (σ : Sg) : r_X5_agrees σ = 0 ∨ r_X5_agrees σ = 1 := by
  unfold r_X5_agrees
  repeat' split
  all_goals first | with_reducible exact Or.inl rfl | with_reducible exact Or.inr rfl
set_option maxHeartbeats 4000000 in
set_option maxRecDepth 100000 in
theorem c_X5_agrees (l : Launch) (D : va_G) (cI : ClassId) (a : Nat → Nat) (sz : Nat) (σ : Sg) : Met l yX5_agrees wsX5_agrees ({ frames := 2, cells := 0, slots := 0, locals := 45 }) (PcW D cI 29 a (wX cI a) sz σ [.ref (a 0)]) (QiW D 29 a (wX cI a) sz (r_X5_agrees σ) σ) 0 0 (AX 29 a sz) := by
  refine x_of (cc := cX5_agrees) (maxL := 4) (ret := some .boolean) (C := RX5) rfl (by decide) rfl (Nat.le_of_ble_eq_true rfl) (fun p e s m below meth c hx hb hr hml hlk hts hown hsz H hP hS hG ls hl => ?_)
  have hl : lv_has ls 4 [(0, .ref (a 0))] := hl
  refine lv_iconst (v := 0) hx hb dX5_agrees_0 (by decide) ?_
  refine lv_istore_n (lv' := [(1, .int 0), (0, .ref (a 0))]) hx hb dX5_agrees_1 rfl hl (by decide) rfl (fun ls hl => ?_)
  refine lv_iconst (v := 0) hx hb dX5_agrees_2 (by decide) ?_
  refine lv_istore_n (lv' := [(2, .int 0), (1, .int 0), (0, .ref (a 0))]) hx hb dX5_agrees_3 rfl hl (by decide) rfl (fun ls hl => ?_)
  have loop_4 : ∀ (rem i : Nat) (_ : i + rem = 30) (x4 : Int32) (_ : x4 = itn (st_X5_agrees_4 σ) i 0) (H : Heap) (locs : List Loc) (ls : Array Slot) (_ : va_P D vwCl (wX cI a σ) H) (_ : va_S (AX 29 a sz) s.heap H locs) (_ : lv_has ls 4 [(2, .int (nI i)), (1, .int x4), (0, .ref (a 0))]), W p l e (headSpec wsX5_agrees ({ frames := 2, cells := 0, slots := 0, locals := 45 } : Room)).room s m ([.ref (a 0)] : List Value).toArray below meth c H locs 0 0 (MQ below (QiW D 29 a (wX cI a) sz (r_X5_agrees σ) σ) ([.ref (a 0)] : List Value).toArray s 0 0 (AX 29 a sz)) (F0 m 4 ls []) := by
    intro rem
    induction rem with
    | zero =>
      intro i hi x4 ex4 H locs ls hP hS hl
      obtain rfl : 30 = i := by omega
      refine lv_iload_n hx hb dX5_agrees_4 rfl (lv_at hl 0 rfl) ?_
      refine lv_bipush (v := 30) hx hb dX5_agrees_5 (by decide) ?_
      refine lv_icmp_ge (tgt := 41) hx hb dX5_agrees_7 (by decide) (fun _ => ?_) (fun h => absurd (show (30 : Int32) ≤ nI 30 by decide) h)
      refine lv_iconst (v := 0) hx hb dX5_agrees_41 (by decide) ?_
      refine lv_istore_n (lv' := [(2, .int 0), (1, .int x4), (0, .ref (a 0))]) hx hb dX5_agrees_42 rfl hl (by decide) rfl (fun ls hl => ?_)
      refine lv_iconst (v := 0) hx hb dX5_agrees_43 (by decide) ?_
      refine lv_istore_n (lv' := [(3, .int 0), (2, .int 0), (1, .int x4), (0, .ref (a 0))]) hx hb dX5_agrees_44 rfl hl (by decide) rfl (fun ls hl => ?_)
      have loop_45 : ∀ (rem i : Nat) (_ : i + rem = 10) (x45 : Int32) (_ : x45 = itn (st_X5_agrees_45 σ) i 0) (H : Heap) (locs : List Loc) (ls : Array Slot) (_ : va_P D vwCl (wX cI a σ) H) (_ : va_S (AX 29 a sz) s.heap H locs) (_ : lv_has ls 4 [(3, .int (nI i)), (2, .int x45), (1, .int x4), (0, .ref (a 0))]), W p l e (headSpec wsX5_agrees ({ frames := 2, cells := 0, slots := 0, locals := 45 } : Room)).room s m ([.ref (a 0)] : List Value).toArray below meth c H locs 0 0 (MQ below (QiW D 29 a (wX cI a) sz (r_X5_agrees σ) σ) ([.ref (a 0)] : List Value).toArray s 0 0 (AX 29 a sz)) (F0 m 45 ls []) := by
        intro rem
        induction rem with
        | zero =>
          intro i hi x45 ex45 H locs ls hP hS hl
          obtain rfl : 10 = i := by omega
          refine lv_iload_n hx hb dX5_agrees_45 rfl (lv_at hl 0 rfl) ?_
          refine lv_bipush (v := 10) hx hb dX5_agrees_46 (by decide) ?_
          refine lv_icmp_ge (tgt := 65) hx hb dX5_agrees_48 (by decide) (fun _ => ?_) (fun h => absurd (show (10 : Int32) ≤ nI 10 by decide) h)
          refine lv_iload_n hx hb dX5_agrees_65 rfl (lv_at hl 2 rfl) ?_
          refine lv_iload_n hx hb dX5_agrees_66 rfl (lv_at hl 1 rfl) ?_
          refine lv_icmp_ne (tgt := 74) hx hb dX5_agrees_67 (by decide) (fun h_1 => ?_) (fun h_1 => ?_)
          · refine lv_iconst (v := 0) hx hb dX5_agrees_74 (by decide) ?_
            exact x_iret hx hb hr hlk hsz hP hS rfl (by rw [r_X5_agrees, ← ex4, ← ex45] <;> (try dsimp only) <;> rw [if_neg h_1]) rfl dX5_agrees_75
          · refine lv_iconst (v := 1) hx hb dX5_agrees_70 (by decide) ?_
            refine lv_goto (tgt := 75) hx hb dX5_agrees_71 (by decide) ?_
            exact x_iret hx hb hr hlk hsz hP hS rfl (by rw [r_X5_agrees, ← ex4, ← ex45] <;> (try dsimp only) <;> rw [if_pos h_1]) rfl dX5_agrees_75
        | succ rem ih =>
          intro i hi x45 ex45 H locs ls hP hS hl
          refine lv_iload_n hx hb dX5_agrees_45 rfl (lv_at hl 0 rfl) ?_
          refine lv_bipush (v := 10) hx hb dX5_agrees_46 (by decide) ?_
          refine lv_icmp_ge (tgt := 65) hx hb dX5_agrees_48 (by decide) (fun h => absurd h (nI_ge (a := i) (b := 10) (by omega) (by decide))) (fun _ => ?_)
          refine lv_iload_n hx hb dX5_agrees_51 rfl (lv_at hl 1 rfl) ?_
          refine lv_aload_n hx hb dX5_agrees_52 rfl (lv_at hl 3 rfl) ?_
          refine lv_iload_n hx hb dX5_agrees_53 rfl (lv_at hl 0 rfl) ?_
          refine x_callVi (w := wX cI a) (σ := σ) (σ' := σ) (As := [.int (nI i)]) (rest := [.int x45]) (q0 := 0) ⟨hx, hb, hml, hown, hts⟩ hG hP hS hsz (c_X5_minutesOf l D cI a H.size σ (nI i) (vp_in_nI (by omega) (by decide))) (cwV 1 hts gX5_agrees_X5_minutesOf rfl rfl rfl (by decide +kernel) ⟨Nat.le_of_ble_eq_true rfl, Nat.le_of_ble_eq_true rfl⟩) rfl rfl rfl rfl hl.1 rfl (Nat.le_of_ble_eq_true rfl) ⟨Nat.zero_le _, Nat.zero_le _⟩ dX5_agrees_54 (fun H locs hP hS => ?_)
          refine lv_iadd hx hb dX5_agrees_57 ?_
          refine lv_istore_n (lv' := [(2, .int (x45 + (r_X5_minutesOf σ (nI i)))), (3, .int (nI i)), (1, .int x4), (0, .ref (a 0))]) hx hb dX5_agrees_58 rfl hl (by decide) rfl (fun ls hl => ?_)
          refine lv_iinc (v := nI (i + 1)) (lv' := [(3, .int (nI (i + 1))), (2, .int (x45 + (r_X5_minutesOf σ (nI i)))), (1, .int x4), (0, .ref (a 0))]) hx hb dX5_agrees_59 hl (k := 1) rfl (by rw [nI_succ]; rfl) (by decide) rfl (fun ls hl => ?_)
          refine lv_goto (tgt := 45) hx hb dX5_agrees_62 (by decide) ?_
          exact ih (i + 1) (by omega) (x45 + (r_X5_minutesOf σ (nI i))) (by rw [itn, ← ex45]; rw [st_X5_agrees_45]) H locs ls hP hS (lv_sub hl [0, 1, 2, 3] rfl)
      exact loop_45 (10) 0 (Nat.zero_add _) 0 (itn0 _ _) _ _ _ hP hS (lv_sub hl [0, 1, 2, 3] rfl)
    | succ rem ih =>
      intro i hi x4 ex4 H locs ls hP hS hl
      refine lv_iload_n hx hb dX5_agrees_4 rfl (lv_at hl 0 rfl) ?_
      refine lv_bipush (v := 30) hx hb dX5_agrees_5 (by decide) ?_
      refine lv_icmp_ge (tgt := 41) hx hb dX5_agrees_7 (by decide) (fun h => absurd h (nI_ge (a := i) (b := 30) (by omega) (by decide))) (fun _ => ?_)
      refine lv_iload_n hx hb dX5_agrees_10 rfl (lv_at hl 1 rfl) ?_
      refine lv_aload_n hx hb dX5_agrees_11 rfl (lv_at hl 2 rfl) ?_
      refine x_get (ci := 5) (C := RX5) (T := TX5) (M := 9) (v := .ref (a 4)) hx hb hts in_X5_agrees_5 hown hG hP 0 rfl rfl 3 (by decide) (List.mem_of_getElem? (i := 1) rfl) rfl rfl dX5_agrees_12 ?_
      refine x_get (ci := 0) (C := RX0) (T := TX0) (M := 7) (v := .ref (a 19)) hx hb hts in_X5_agrees_0 hown hG hP 4 rfl rfl 3 (by decide) (List.mem_of_getElem? (i := 2) rfl) rfl rfl dX5_agrees_15 ?_
      refine lv_iload_n hx hb dX5_agrees_18 rfl (lv_at hl 0 rfl) ?_
      refine x_iald (f := σ 19) hx hb hG hP 19 rfl (vp_in_nI (by omega) (by decide)) dX5_agrees_19 ?_
      refine lv_aload_n hx hb dX5_agrees_20 rfl (lv_at hl 2 rfl) ?_
      refine x_get (ci := 5) (C := RX5) (T := TX5) (M := 9) (v := .ref (a 4)) hx hb hts in_X5_agrees_5 hown hG hP 0 rfl rfl 3 (by decide) (List.mem_of_getElem? (i := 1) rfl) rfl rfl dX5_agrees_21 ?_
      refine lv_iload_n hx hb dX5_agrees_24 rfl (lv_at hl 0 rfl) ?_
      refine lv_aload_n hx hb dX5_agrees_25 rfl (lv_at hl 2 rfl) ?_
      refine x_get (ci := 5) (C := RX5) (T := TX5) (M := 9) (v := .int (σ 0 5)) hx hb hts in_X5_agrees_5 hown hG hP 0 rfl rfl 5 (by decide) (List.mem_of_getElem? (i := 3) rfl) rfl rfl dX5_agrees_26 ?_
      refine x_callVi (w := wX cI a) (σ := σ) (σ' := σ) (As := [.int (nI i), .int (σ 0 5)]) (rest := [.int (σ 19 (nI i).toNatClampNeg), .int x4]) (q0 := 4) ⟨hx, hb, hml, hown, hts⟩ hG hP hS hsz (c_X0_minutesGoingOn l D cI a H.size σ (nI i) (σ 0 5) (vp_in_nI (by omega) (by decide))) (cwV 2 hts gX5_agrees_X0_minutesGoingOn rfl rfl rfl (by decide +kernel) ⟨Nat.le_of_ble_eq_true rfl, Nat.le_of_ble_eq_true rfl⟩) rfl rfl rfl rfl hl.1 rfl (Nat.le_of_ble_eq_true rfl) ⟨Nat.zero_le _, Nat.zero_le _⟩ dX5_agrees_29 (fun H locs hP hS => ?_)
      refine lv_iadd hx hb dX5_agrees_32 ?_
      refine lv_iadd hx hb dX5_agrees_33 ?_
      refine lv_istore_n (lv' := [(1, .int (x4 + ((σ 19 (nI i).toNatClampNeg) + (r_X0_minutesGoingOn σ (nI i) (σ 0 5))))), (2, .int (nI i)), (0, .ref (a 0))]) hx hb dX5_agrees_34 rfl hl (by decide) rfl (fun ls hl => ?_)
      refine lv_iinc (v := nI (i + 1)) (lv' := [(2, .int (nI (i + 1))), (1, .int (x4 + ((σ 19 (nI i).toNatClampNeg) + (r_X0_minutesGoingOn σ (nI i) (σ 0 5))))), (0, .ref (a 0))]) hx hb dX5_agrees_35 hl (k := 1) rfl (by rw [nI_succ]; rfl) (by decide) rfl (fun ls hl => ?_)
      refine lv_goto (tgt := 4) hx hb dX5_agrees_38 (by decide) ?_
      exact ih (i + 1) (by omega) (x4 + ((σ 19 (nI i).toNatClampNeg) + (r_X0_minutesGoingOn σ (nI i) (σ 0 5)))) (by rw [itn, ← ex4]; rw [st_X5_agrees_4]) H locs ls hP hS (lv_sub hl [0, 1, 2] rfl)
  exact loop_4 (30) 0 (Nat.zero_add _) 0 (itn0 _ _) _ _ _ hP hS (lv_sub hl [0, 1, 2] rfl)
theorem in_X5_plan_3 : ∀ wd ∈ u_ws RX3 TX3 4, wd ∈ wsX5_plan := by decide +kernel
theorem in_X5_plan_5 : ∀ wd ∈ u_ws RX5 TX5 9, wd ∈ wsX5_plan := by decide +kernel
def st_X5_plan_12 (σ : Sg) (i : Nat) : Int32 × Int32 × Int32 × Int32 → Int32 × Int32 × Int32 × Int32
  | (x12, x12_1, x12_2, x12_3) =>
    if (σ 14 (nI i).toNatClampNeg) - ((σ 13 (nI i).toNatClampNeg) / 2) ≤ x12_2 then
      if -((σ 14 (nI i).toNatClampNeg) - ((σ 13 (nI i).toNatClampNeg) / 2)) ≤ x12_3 then
        (x12, x12_1, x12_2, x12_3)
      else
        (x12, nI i, x12_2, -((σ 14 (nI i).toNatClampNeg) - ((σ 13 (nI i).toNatClampNeg) / 2)))
    else
      if -((σ 14 (nI i).toNatClampNeg) - ((σ 13 (nI i).toNatClampNeg) / 2)) ≤ x12_3 then
        (nI i, x12_1, (σ 14 (nI i).toNatClampNeg) - ((σ 13 (nI i).toNatClampNeg) / 2), x12_3)
      else
        (nI i, nI i, (σ 14 (nI i).toNatClampNeg) - ((σ 13 (nI i).toNatClampNeg) / 2), -((σ 14 (nI i).toNatClampNeg) - ((σ 13 (nI i).toNatClampNeg) / 2)))
def r_X5_plan (σ : Sg) : Int32 :=
  if (itn (st_X5_plan_12 σ) 8 ((-1), (-1), 0, 0)).1 = (-1) then
    (-1)
  else
    if (itn (st_X5_plan_12 σ) 8 ((-1), (-1), 0, 0)).2.1 = (-1) then
      (-1)
    else
      (10 * (itn (st_X5_plan_12 σ) 8 ((-1), (-1), 0, 0)).1) + (itn (st_X5_plan_12 σ) 8 ((-1), (-1), 0, 0)).2.1
set_option maxHeartbeats 4000000 in
set_option maxRecDepth 100000 in
theorem c_X5_plan (l : Launch) (D : va_G) (cI : ClassId) (a : Nat → Nat) (sz : Nat) (σ : Sg) : Met l yX5_plan wsX5_plan ({ frames := 0, cells := 0, slots := 0, locals := 0 }) (PcW D cI 29 a (wX cI a) sz σ [.ref (a 0)]) (QiW D 29 a (wX cI a) sz (r_X5_plan σ) σ) 0 0 (AX 29 a sz) := by
  refine x_of (cc := cX5_plan) (maxL := 7) (ret := some .int) (C := RX5) rfl (by decide) rfl (Nat.le_of_ble_eq_true rfl) (fun p e s m below meth c hx hb hr hml hlk hts hown hsz H hP hS hG ls hl => ?_)
  have hl : lv_has ls 7 [(0, .ref (a 0))] := hl
  refine lv_iconst (v := (-1)) hx hb dX5_plan_0 (by decide) ?_
  refine lv_istore_n (lv' := [(1, .int (-1)), (0, .ref (a 0))]) hx hb dX5_plan_1 rfl hl (by decide) rfl (fun ls hl => ?_)
  refine lv_iconst (v := (-1)) hx hb dX5_plan_2 (by decide) ?_
  refine lv_istore_n (lv' := [(2, .int (-1)), (1, .int (-1)), (0, .ref (a 0))]) hx hb dX5_plan_3 rfl hl (by decide) rfl (fun ls hl => ?_)
  refine lv_iconst (v := 0) hx hb dX5_plan_4 (by decide) ?_
  refine lv_istore_n (lv' := [(3, .int 0), (2, .int (-1)), (1, .int (-1)), (0, .ref (a 0))]) hx hb dX5_plan_5 rfl hl (by decide) rfl (fun ls hl => ?_)
  refine lv_iconst (v := 0) hx hb dX5_plan_6 (by decide) ?_
  refine lv_istore (lv' := [(4, .int 0), (3, .int 0), (2, .int (-1)), (1, .int (-1)), (0, .ref (a 0))]) hx hb dX5_plan_7 hl (by decide) rfl (fun ls hl => ?_)
  refine lv_iconst (v := 0) hx hb dX5_plan_9 (by decide) ?_
  refine lv_istore (lv' := [(5, .int 0), (4, .int 0), (3, .int 0), (2, .int (-1)), (1, .int (-1)), (0, .ref (a 0))]) hx hb dX5_plan_10 hl (by decide) rfl (fun ls hl => ?_)
  have loop_12 : ∀ (rem i : Nat) (_ : i + rem = 8) (x12 : Int32) (x12_1 : Int32) (x12_2 : Int32) (x12_3 : Int32) (_ : (x12, x12_1, x12_2, x12_3) = itn (st_X5_plan_12 σ) i ((-1), (-1), 0, 0)) (H : Heap) (locs : List Loc) (ls : Array Slot) (_ : va_P D vwCl (wX cI a σ) H) (_ : va_S (AX 29 a sz) s.heap H locs) (_ : lv_has ls 7 [(5, .int (nI i)), (1, .int x12), (2, .int x12_1), (3, .int x12_2), (4, .int x12_3), (0, .ref (a 0))]), W p l e (headSpec wsX5_plan ({ frames := 0, cells := 0, slots := 0, locals := 0 } : Room)).room s m ([.ref (a 0)] : List Value).toArray below meth c H locs 0 0 (MQ below (QiW D 29 a (wX cI a) sz (r_X5_plan σ) σ) ([.ref (a 0)] : List Value).toArray s 0 0 (AX 29 a sz)) (F0 m 12 ls []) := by
    intro rem
    induction rem with
    | zero =>
      intro i hi x12 x12_1 x12_2 x12_3 ex12 H locs ls hP hS hl
      obtain rfl : 8 = i := by omega
      refine lv_iload hx hb dX5_plan_12 (lv_at hl 0 rfl) ?_
      refine lv_bipush (v := 8) hx hb dX5_plan_14 (by decide) ?_
      refine lv_icmp_ge (tgt := 78) hx hb dX5_plan_16 (by decide) (fun _ => ?_) (fun h => absurd (show (8 : Int32) ≤ nI 8 by decide) h)
      refine lv_iload_n hx hb dX5_plan_78 rfl (lv_at hl 1 rfl) ?_
      refine lv_iconst (v := (-1)) hx hb dX5_plan_79 (by decide) ?_
      refine lv_icmp_eq (tgt := 88) hx hb dX5_plan_80 (by decide) (fun h_1 => ?_) (fun h_1 => ?_)
      · refine lv_iconst (v := (-1)) hx hb dX5_plan_88 (by decide) ?_
        refine lv_goto (tgt := 98) hx hb dX5_plan_89 (by decide) ?_
        exact x_iret hx hb hr hlk hsz hP hS rfl (by rw [r_X5_plan, ← ex12] <;> (try dsimp only) <;> rw [if_pos h_1]) rfl dX5_plan_98
      · refine lv_iload_n hx hb dX5_plan_83 rfl (lv_at hl 2 rfl) ?_
        refine lv_iconst (v := (-1)) hx hb dX5_plan_84 (by decide) ?_
        refine lv_icmp_ne (tgt := 92) hx hb dX5_plan_85 (by decide) (fun h_2 => ?_) (fun h_2 => ?_)
        · refine lv_bipush (v := 10) hx hb dX5_plan_92 (by decide) ?_
          refine lv_iload_n hx hb dX5_plan_94 rfl (lv_at hl 1 rfl) ?_
          refine lv_imul hx hb dX5_plan_95 ?_
          refine lv_iload_n hx hb dX5_plan_96 rfl (lv_at hl 2 rfl) ?_
          refine lv_iadd hx hb dX5_plan_97 ?_
          exact x_iret hx hb hr hlk hsz hP hS rfl (by rw [r_X5_plan, ← ex12] <;> (try dsimp only) <;> rw [if_neg h_1, if_neg h_2]) rfl dX5_plan_98
        · refine lv_iconst (v := (-1)) hx hb dX5_plan_88 (by decide) ?_
          refine lv_goto (tgt := 98) hx hb dX5_plan_89 (by decide) ?_
          exact x_iret hx hb hr hlk hsz hP hS rfl (by rw [r_X5_plan, ← ex12] <;> (try dsimp only) <;> rw [if_neg h_1, if_pos h_2]) rfl dX5_plan_98
    | succ rem ih =>
      intro i hi x12 x12_1 x12_2 x12_3 ex12 H locs ls hP hS hl
      refine lv_iload hx hb dX5_plan_12 (lv_at hl 0 rfl) ?_
      refine lv_bipush (v := 8) hx hb dX5_plan_14 (by decide) ?_
      refine lv_icmp_ge (tgt := 78) hx hb dX5_plan_16 (by decide) (fun h => absurd h (nI_ge (a := i) (b := 8) (by omega) (by decide))) (fun _ => ?_)
      refine lv_aload_n hx hb dX5_plan_19 rfl (lv_at hl 5 rfl) ?_
      refine x_get (ci := 5) (C := RX5) (T := TX5) (M := 9) (v := .ref (a 3)) hx hb hts in_X5_plan_5 hown hG hP 0 rfl rfl 2 (by decide) (List.mem_of_getElem? (i := 1) rfl) rfl rfl dX5_plan_20 ?_
      refine x_get (ci := 3) (C := RX3) (T := TX3) (M := 4) (v := .ref (a 14)) hx hb hts in_X5_plan_3 hown hG hP 3 rfl rfl 1 (by decide) (List.mem_of_getElem? (i := 2) rfl) rfl rfl dX5_plan_23 ?_
      refine lv_iload hx hb dX5_plan_26 (lv_at hl 0 rfl) ?_
      refine x_iald (f := σ 14) hx hb hG hP 14 rfl (vp_in_nI (by omega) (by decide)) dX5_plan_28 ?_
      refine lv_aload_n hx hb dX5_plan_29 rfl (lv_at hl 5 rfl) ?_
      refine x_get (ci := 5) (C := RX5) (T := TX5) (M := 9) (v := .ref (a 3)) hx hb hts in_X5_plan_5 hown hG hP 0 rfl rfl 2 (by decide) (List.mem_of_getElem? (i := 1) rfl) rfl rfl dX5_plan_30 ?_
      refine x_get (ci := 3) (C := RX3) (T := TX3) (M := 4) (v := .ref (a 13)) hx hb hts in_X5_plan_3 hown hG hP 3 rfl rfl 0 (by decide) (List.mem_of_getElem? (i := 3) rfl) rfl rfl dX5_plan_33 ?_
      refine lv_iload hx hb dX5_plan_36 (lv_at hl 0 rfl) ?_
      refine x_iald (f := σ 13) hx hb hG hP 13 rfl (vp_in_nI (by omega) (by decide)) dX5_plan_38 ?_
      refine lv_iconst (v := 2) hx hb dX5_plan_39 (by decide) ?_
      refine lv_idiv hx hb dX5_plan_40 (by decide) ?_
      refine lv_isub hx hb dX5_plan_41 ?_
      refine lv_istore (lv' := [(6, .int ((σ 14 (nI i).toNatClampNeg) - ((σ 13 (nI i).toNatClampNeg) / 2))), (5, .int (nI i)), (1, .int x12), (2, .int x12_1), (3, .int x12_2), (4, .int x12_3), (0, .ref (a 0))]) hx hb dX5_plan_42 hl (by decide) rfl (fun ls hl => ?_)
      refine lv_iload hx hb dX5_plan_44 (lv_at hl 0 rfl) ?_
      refine lv_iload_n hx hb dX5_plan_46 rfl (lv_at hl 4 rfl) ?_
      refine lv_icmp_le (tgt := 56) hx hb dX5_plan_47 (by decide) (fun h_3 => ?_) (fun h_3 => ?_)
      · refine lv_iload hx hb dX5_plan_56 (lv_at hl 0 rfl) ?_
        refine lv_ineg hx hb dX5_plan_58 ?_
        refine lv_iload hx hb dX5_plan_59 (lv_at hl 5 rfl) ?_
        refine lv_icmp_le (tgt := 72) hx hb dX5_plan_61 (by decide) (fun h_4 => ?_) (fun h_4 => ?_)
        · refine lv_iinc (v := nI (i + 1)) (lv' := [(5, .int (nI (i + 1))), (6, .int ((σ 14 (nI i).toNatClampNeg) - ((σ 13 (nI i).toNatClampNeg) / 2))), (1, .int x12), (2, .int x12_1), (3, .int x12_2), (4, .int x12_3), (0, .ref (a 0))]) hx hb dX5_plan_72 hl (k := 1) rfl (by rw [nI_succ]; rfl) (by decide) rfl (fun ls hl => ?_)
          refine lv_goto (tgt := 12) hx hb dX5_plan_75 (by decide) ?_
          exact ih (i + 1) (by omega) x12 x12_1 x12_2 x12_3 (by rw [itn, ← ex12]; rw [st_X5_plan_12, if_pos h_3, if_pos h_4]) H locs ls hP hS (lv_sub hl [0, 2, 3, 4, 5, 6] rfl)
        · refine lv_iload hx hb dX5_plan_64 (lv_at hl 0 rfl) ?_
          refine lv_ineg hx hb dX5_plan_66 ?_
          refine lv_istore (lv' := [(4, .int (-((σ 14 (nI i).toNatClampNeg) - ((σ 13 (nI i).toNatClampNeg) / 2)))), (6, .int ((σ 14 (nI i).toNatClampNeg) - ((σ 13 (nI i).toNatClampNeg) / 2))), (5, .int (nI i)), (1, .int x12), (2, .int x12_1), (3, .int x12_2), (0, .ref (a 0))]) hx hb dX5_plan_67 hl (by decide) rfl (fun ls hl => ?_)
          refine lv_iload hx hb dX5_plan_69 (lv_at hl 2 rfl) ?_
          refine lv_istore_n (lv' := [(2, .int (nI i)), (4, .int (-((σ 14 (nI i).toNatClampNeg) - ((σ 13 (nI i).toNatClampNeg) / 2)))), (6, .int ((σ 14 (nI i).toNatClampNeg) - ((σ 13 (nI i).toNatClampNeg) / 2))), (5, .int (nI i)), (1, .int x12), (3, .int x12_2), (0, .ref (a 0))]) hx hb dX5_plan_71 rfl hl (by decide) rfl (fun ls hl => ?_)
          refine lv_iinc (v := nI (i + 1)) (lv' := [(5, .int (nI (i + 1))), (2, .int (nI i)), (4, .int (-((σ 14 (nI i).toNatClampNeg) - ((σ 13 (nI i).toNatClampNeg) / 2)))), (6, .int ((σ 14 (nI i).toNatClampNeg) - ((σ 13 (nI i).toNatClampNeg) / 2))), (1, .int x12), (3, .int x12_2), (0, .ref (a 0))]) hx hb dX5_plan_72 hl (k := 3) rfl (by rw [nI_succ]; rfl) (by decide) rfl (fun ls hl => ?_)
          refine lv_goto (tgt := 12) hx hb dX5_plan_75 (by decide) ?_
          exact ih (i + 1) (by omega) x12 (nI i) x12_2 (-((σ 14 (nI i).toNatClampNeg) - ((σ 13 (nI i).toNatClampNeg) / 2))) (by rw [itn, ← ex12]; rw [st_X5_plan_12, if_pos h_3, if_neg h_4]) H locs ls hP hS (lv_sub hl [0, 4, 1, 5, 2, 6] rfl)
      · refine lv_iload hx hb dX5_plan_50 (lv_at hl 0 rfl) ?_
        refine lv_istore_n (lv' := [(3, .int ((σ 14 (nI i).toNatClampNeg) - ((σ 13 (nI i).toNatClampNeg) / 2))), (6, .int ((σ 14 (nI i).toNatClampNeg) - ((σ 13 (nI i).toNatClampNeg) / 2))), (5, .int (nI i)), (1, .int x12), (2, .int x12_1), (4, .int x12_3), (0, .ref (a 0))]) hx hb dX5_plan_52 rfl hl (by decide) rfl (fun ls hl => ?_)
        refine lv_iload hx hb dX5_plan_53 (lv_at hl 2 rfl) ?_
        refine lv_istore_n (lv' := [(1, .int (nI i)), (3, .int ((σ 14 (nI i).toNatClampNeg) - ((σ 13 (nI i).toNatClampNeg) / 2))), (6, .int ((σ 14 (nI i).toNatClampNeg) - ((σ 13 (nI i).toNatClampNeg) / 2))), (5, .int (nI i)), (2, .int x12_1), (4, .int x12_3), (0, .ref (a 0))]) hx hb dX5_plan_55 rfl hl (by decide) rfl (fun ls hl => ?_)
        refine lv_iload hx hb dX5_plan_56 (lv_at hl 2 rfl) ?_
        refine lv_ineg hx hb dX5_plan_58 ?_
        refine lv_iload hx hb dX5_plan_59 (lv_at hl 5 rfl) ?_
        refine lv_icmp_le (tgt := 72) hx hb dX5_plan_61 (by decide) (fun h_5 => ?_) (fun h_5 => ?_)
        · refine lv_iinc (v := nI (i + 1)) (lv' := [(5, .int (nI (i + 1))), (1, .int (nI i)), (3, .int ((σ 14 (nI i).toNatClampNeg) - ((σ 13 (nI i).toNatClampNeg) / 2))), (6, .int ((σ 14 (nI i).toNatClampNeg) - ((σ 13 (nI i).toNatClampNeg) / 2))), (2, .int x12_1), (4, .int x12_3), (0, .ref (a 0))]) hx hb dX5_plan_72 hl (k := 3) rfl (by rw [nI_succ]; rfl) (by decide) rfl (fun ls hl => ?_)
          refine lv_goto (tgt := 12) hx hb dX5_plan_75 (by decide) ?_
          exact ih (i + 1) (by omega) (nI i) x12_1 ((σ 14 (nI i).toNatClampNeg) - ((σ 13 (nI i).toNatClampNeg) / 2)) x12_3 (by rw [itn, ← ex12]; rw [st_X5_plan_12, if_neg h_3, if_pos h_5]) H locs ls hP hS (lv_sub hl [0, 1, 4, 2, 5, 6] rfl)
        · refine lv_iload hx hb dX5_plan_64 (lv_at hl 2 rfl) ?_
          refine lv_ineg hx hb dX5_plan_66 ?_
          refine lv_istore (lv' := [(4, .int (-((σ 14 (nI i).toNatClampNeg) - ((σ 13 (nI i).toNatClampNeg) / 2)))), (1, .int (nI i)), (3, .int ((σ 14 (nI i).toNatClampNeg) - ((σ 13 (nI i).toNatClampNeg) / 2))), (6, .int ((σ 14 (nI i).toNatClampNeg) - ((σ 13 (nI i).toNatClampNeg) / 2))), (5, .int (nI i)), (2, .int x12_1), (0, .ref (a 0))]) hx hb dX5_plan_67 hl (by decide) rfl (fun ls hl => ?_)
          refine lv_iload hx hb dX5_plan_69 (lv_at hl 4 rfl) ?_
          refine lv_istore_n (lv' := [(2, .int (nI i)), (4, .int (-((σ 14 (nI i).toNatClampNeg) - ((σ 13 (nI i).toNatClampNeg) / 2)))), (1, .int (nI i)), (3, .int ((σ 14 (nI i).toNatClampNeg) - ((σ 13 (nI i).toNatClampNeg) / 2))), (6, .int ((σ 14 (nI i).toNatClampNeg) - ((σ 13 (nI i).toNatClampNeg) / 2))), (5, .int (nI i)), (0, .ref (a 0))]) hx hb dX5_plan_71 rfl hl (by decide) rfl (fun ls hl => ?_)
          refine lv_iinc (v := nI (i + 1)) (lv' := [(5, .int (nI (i + 1))), (2, .int (nI i)), (4, .int (-((σ 14 (nI i).toNatClampNeg) - ((σ 13 (nI i).toNatClampNeg) / 2)))), (1, .int (nI i)), (3, .int ((σ 14 (nI i).toNatClampNeg) - ((σ 13 (nI i).toNatClampNeg) / 2))), (6, .int ((σ 14 (nI i).toNatClampNeg) - ((σ 13 (nI i).toNatClampNeg) / 2))), (0, .ref (a 0))]) hx hb dX5_plan_72 hl (k := 5) rfl (by rw [nI_succ]; rfl) (by decide) rfl (fun ls hl => ?_)
          refine lv_goto (tgt := 12) hx hb dX5_plan_75 (by decide) ?_
          exact ih (i + 1) (by omega) (nI i) (nI i) ((σ 14 (nI i).toNatClampNeg) - ((σ 13 (nI i).toNatClampNeg) / 2)) (-((σ 14 (nI i).toNatClampNeg) - ((σ 13 (nI i).toNatClampNeg) / 2))) (by rw [itn, ← ex12]; rw [st_X5_plan_12, if_neg h_3, if_neg h_5]) H locs ls hP hS (lv_sub hl [0, 3, 1, 4, 2, 6] rfl)
  exact loop_12 (8) 0 (Nat.zero_add _) (-1) (-1) 0 0 (itn0 _ _) _ _ _ hP hS (lv_sub hl [0, 4, 3, 2, 1, 5] rfl)
theorem in_X5_odd_5 : ∀ wd ∈ u_ws RX5 TX5 9, wd ∈ wsX5_odd := by decide +kernel
def r_X5_odd (σ : Sg) : Int32 :=
  σ 0 7
set_option maxHeartbeats 4000000 in
set_option maxRecDepth 100000 in
theorem c_X5_odd (l : Launch) (D : va_G) (cI : ClassId) (a : Nat → Nat) (sz : Nat) (σ : Sg) : Met l yX5_odd wsX5_odd ({ frames := 0, cells := 0, slots := 0, locals := 0 }) (PcW D cI 29 a (wX cI a) sz σ [.ref (a 0)]) (QiW D 29 a (wX cI a) sz (r_X5_odd σ) σ) 0 0 (AX 29 a sz) := by
  refine x_of (cc := cX5_odd) (maxL := 1) (ret := some .int) (C := RX5) rfl (by decide) rfl (Nat.le_of_ble_eq_true rfl) (fun p e s m below meth c hx hb hr hml hlk hts hown hsz H hP hS hG ls hl => ?_)
  have hl : lv_has ls 1 [(0, .ref (a 0))] := hl
  refine lv_aload_n hx hb dX5_odd_0 rfl (lv_at hl 0 rfl) ?_
  refine x_get (ci := 5) (C := RX5) (T := TX5) (M := 9) (v := .int (σ 0 7)) hx hb hts in_X5_odd_5 hown hG hP 0 rfl rfl 7 (by decide) (List.mem_of_getElem? (i := 1) rfl) rfl rfl dX5_odd_1 ?_
  exact x_iret hx hb hr hlk hsz hP hS rfl (by rw [r_X5_odd]) rfl dX5_odd_4
/-- what hearing needs -/
def hearOK (σ : Sg) (ki f1 f2 mi : Int32) (n g : Nat) : Prop := (g ≤ n + 1) ∧ ((s_X5_beginAnew (s_X4_insert σ ki f1 f2 mi n)) 0 6 = nI 0) ∧ ((s_X5_beginAnew (s_X4_insert σ ki f1 f2 mi n)) 1 4 = nI (n + 1)) ∧ ((s_X4_insert σ ki f1 f2 mi n) 0 6 = nI g) ∧ ((s_X4_insert σ ki f1 f2 mi n) 1 4 = nI (n + 1)) ∧ (∀ i, i < n + 1 - 0 → okX (itn (fun i => st_X5_hear_41 (0 + i)) i (s_X5_beginAnew (s_X4_insert σ ki f1 f2 mi n), 1)).1 (nI (0 + i))) ∧ ((s_X4_insert σ ki f1 f2 mi n) 0 6 ≤ r_X4_insert σ ki f1 f2 mi n → ∀ i, i < n + 1 - g → okX (itn (fun i => st_X5_hear_41 (g + i)) i ((s_X4_insert σ ki f1 f2 mi n), 1)).1 (nI (g + i)))
theorem in_X5_hearOnce_5 : ∀ wd ∈ u_ws RX5 TX5 9, wd ∈ wsX5_hearOnce := by decide +kernel
def r_X5_hearOnce (σ : Sg) (ki : Int32) (cy : Int32) (ot : Int32) (mi : Int32) (n : Nat) (g : Nat) : Int32 :=
  if r_X4_tells σ ki cy ot mi n = 0 then
    1
  else
    0
def s_X5_hearOnce (σ : Sg) (ki : Int32) (cy : Int32) (ot : Int32) (mi : Int32) (n : Nat) (g : Nat) : Sg :=
  if r_X4_tells σ ki cy ot mi n = 0 then
    s_X5_hear σ ki cy ot mi n g
  else
    σ
theorem b_X5_hearOnce (σ : Sg) (ki : Int32) (cy : Int32) (ot : Int32) (mi : Int32) (n : Nat) (g : Nat) : r_X5_hearOnce σ ki cy ot mi n g = 0 ∨ r_X5_hearOnce σ ki cy ot mi n g = 1 := by
  unfold r_X5_hearOnce
  repeat' split
  all_goals first | with_reducible exact Or.inl rfl | with_reducible exact Or.inr rfl
set_option maxHeartbeats 4000000 in
set_option maxRecDepth 100000 in
theorem c_X5_hearOnce (l : Launch) (D : va_G) (cI : ClassId) (a : Nat → Nat) (sz : Nat) (σ : Sg) (ki : Int32) (cy : Int32) (ot : Int32) (mi : Int32) (n : Nat) (g : Nat) (hn : n < 300) (hcn : σ 1 4 = nI n) (hh : r_X4_tells σ ki cy ot mi n = 0 → hearOK σ ki cy ot mi n g) : Met l yX5_hearOnce wsX5_hearOnce ({ frames := 6, cells := 0, slots := 0, locals := 137 }) (PcW D cI 29 a (wX cI a) sz σ [.ref (a 0), .int ki, .int cy, .int ot, .int mi]) (QiW D 29 a (wX cI a) sz (r_X5_hearOnce σ ki cy ot mi n g) (s_X5_hearOnce σ ki cy ot mi n g)) 0 0 (AX 29 a sz) := by
  refine x_of (cc := cX5_hearOnce) (maxL := 5) (ret := some .boolean) (C := RX5) rfl (by decide) rfl (Nat.le_of_ble_eq_true rfl) (fun p e s m below meth c hx hb hr hml hlk hts hown hsz H hP hS hG ls hl => ?_)
  have hl : lv_has ls 5 [(0, .ref (a 0)), (1, .int ki), (2, .int cy), (3, .int ot), (4, .int mi)] := hl
  refine lv_aload_n hx hb dX5_hearOnce_0 rfl (lv_at hl 0 rfl) ?_
  refine x_get (ci := 5) (C := RX5) (T := TX5) (M := 9) (v := .ref (a 1)) hx hb hts in_X5_hearOnce_5 hown hG hP 0 rfl rfl 0 (by decide) (List.mem_of_getElem? (i := 1) rfl) rfl rfl dX5_hearOnce_1 ?_
  refine lv_iload_n hx hb dX5_hearOnce_4 rfl (lv_at hl 1 rfl) ?_
  refine lv_iload_n hx hb dX5_hearOnce_5 rfl (lv_at hl 2 rfl) ?_
  refine lv_iload_n hx hb dX5_hearOnce_6 rfl (lv_at hl 3 rfl) ?_
  refine lv_iload hx hb dX5_hearOnce_7 (lv_at hl 4 rfl) ?_
  refine x_callVi (w := wX cI a) (σ := σ) (σ' := σ) (As := [.int ki, .int cy, .int ot, .int mi]) (rest := []) (q0 := 1) ⟨hx, hb, hml, hown, hts⟩ hG hP hS hsz (c_X4_tells l D cI a H.size σ ki cy ot mi n (by omega) hcn) (cwV 4 hts gX5_hearOnce_X4_tells rfl rfl rfl (by decide +kernel) ⟨Nat.le_of_ble_eq_true rfl, Nat.le_of_ble_eq_true rfl⟩) rfl rfl rfl rfl hl.1 rfl (Nat.le_of_ble_eq_true rfl) ⟨Nat.zero_le _, Nat.zero_le _⟩ dX5_hearOnce_9 (fun H locs hP hS => ?_)
  refine lv_if_eq (tgt := 17) hx hb dX5_hearOnce_12 (by decide) (fun h_1 => ?_) (fun h_1 => ?_)
  · refine lv_aload_n hx hb dX5_hearOnce_17 rfl (lv_at hl 0 rfl) ?_
    refine lv_iload_n hx hb dX5_hearOnce_18 rfl (lv_at hl 1 rfl) ?_
    refine lv_iload_n hx hb dX5_hearOnce_19 rfl (lv_at hl 2 rfl) ?_
    refine lv_iload_n hx hb dX5_hearOnce_20 rfl (lv_at hl 3 rfl) ?_
    refine lv_iload hx hb dX5_hearOnce_21 (lv_at hl 4 rfl) ?_
    refine x_callVi (w := wX cI a) (σ := σ) (σ' := s_X5_hear σ ki cy ot mi n g) (As := [.int ki, .int cy, .int ot, .int mi]) (rest := []) (q0 := 0) ⟨hx, hb, hml, hown, hts⟩ hG hP hS hsz (c_X5_hear l D cI a H.size σ ki cy ot mi n g hn hcn (hh h_1).1 (hh h_1).2.1 (hh h_1).2.2.1 (hh h_1).2.2.2.1 (hh h_1).2.2.2.2.1 (hh h_1).2.2.2.2.2.1 (hh h_1).2.2.2.2.2.2) (cwV 4 hts gX5_hearOnce_X5_hear rfl rfl rfl (by decide +kernel) ⟨Nat.le_of_ble_eq_true rfl, Nat.le_of_ble_eq_true rfl⟩) rfl rfl rfl rfl hl.1 rfl (Nat.le_of_ble_eq_true rfl) ⟨Nat.zero_le _, Nat.zero_le _⟩ dX5_hearOnce_23 (fun H locs hP hS => ?_)
    refine lv_pop hx hb dX5_hearOnce_26 rfl ?_
    refine lv_iconst (v := 1) hx hb dX5_hearOnce_27 (by decide) ?_
    exact x_iret hx hb hr hlk hsz hP hS rfl (by rw [r_X5_hearOnce, if_pos h_1]) (by rw [s_X5_hearOnce, if_pos h_1]) dX5_hearOnce_28
  · refine lv_iconst (v := 0) hx hb dX5_hearOnce_15 (by decide) ?_
    exact x_iret hx hb hr hlk hsz hP hS rfl (by rw [r_X5_hearOnce, if_neg h_1]) (by rw [s_X5_hearOnce, if_neg h_1]) dX5_hearOnce_16
