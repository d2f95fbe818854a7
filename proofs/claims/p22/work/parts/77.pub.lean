theorem in_X1_wayBetween_1 : ∀ wd ∈ u_ws RX1 TX1 3, wd ∈ wsX1_wayBetween := by decide +kernel
noncomputable def r_X1_wayBetween (σ : Sg) (st : Int32) (ot : Int32) : UInt64 :=
  FP.dadd (r_X1_nearestRoot σ ((((σ 10 ot.toNatClampNeg) - (σ 10 st.toNatClampNeg)) * ((σ 10 ot.toNatClampNeg) - (σ 10 st.toNatClampNeg))) + (((σ 11 ot.toNatClampNeg) - (σ 11 st.toNatClampNeg)) * ((σ 11 ot.toNatClampNeg) - (σ 11 st.toNatClampNeg))))) (FP.dmul 4611686018427387904 (FP.i2d (if (0 : Int32) < (σ 12 ot.toNatClampNeg) - (σ 12 st.toNatClampNeg) then (σ 12 ot.toNatClampNeg) - (σ 12 st.toNatClampNeg) else 0)))
set_option maxHeartbeats 4000000 in
set_option maxRecDepth 100000 in
theorem c_X1_wayBetween (l : Launch) (D : va_G) (cI : ClassId) (a : Nat → Nat) (sz : Nat) (σ : Sg) (st : Int32) (ot : Int32) (hs : vp_in st 8) (hs2 : vp_in ot 8) (hgr : GRX σ) : Met l yX1_wayBetween wsX1_wayBetween ({ frames := 1, cells := 0, slots := 0, locals := 31 }) (PcW D cI 29 a (wX cI a) sz σ [.ref (a 2), .int st, .int ot]) (QdW D 29 a (wX cI a) sz (r_X1_wayBetween σ st ot) σ) 0 0 (AX 29 a sz) := by
  refine x_of (cc := cX1_wayBetween) (maxL := 6) (ret := some .double) (C := RX1) rfl (by decide) rfl (Nat.le_of_ble_eq_true rfl) (fun p e s m below meth c hx hb hr hml hlk hts hown hsz H hP hS hG ls hl => ?_)
  have hl : lv_has ls 6 [(0, .ref (a 2)), (1, .int st), (2, .int ot)] := hl
  refine lv_aload_n hx hb dX1_wayBetween_0 rfl (lv_at hl 0 rfl) ?_
  refine x_get (ci := 1) (C := RX1) (T := TX1) (M := 3) (v := .ref (a 10)) hx hb hts in_X1_wayBetween_1 hown hG hP 2 rfl rfl 0 (by decide) (List.mem_of_getElem? (i := 1) rfl) rfl rfl dX1_wayBetween_1 ?_
  refine lv_iload_n hx hb dX1_wayBetween_4 rfl (lv_at hl 2 rfl) ?_
  refine x_iald (f := σ 10) hx hb hG hP 10 rfl (by assumption) dX1_wayBetween_5 ?_
  refine lv_aload_n hx hb dX1_wayBetween_6 rfl (lv_at hl 0 rfl) ?_
  refine x_get (ci := 1) (C := RX1) (T := TX1) (M := 3) (v := .ref (a 10)) hx hb hts in_X1_wayBetween_1 hown hG hP 2 rfl rfl 0 (by decide) (List.mem_of_getElem? (i := 1) rfl) rfl rfl dX1_wayBetween_7 ?_
  refine lv_iload_n hx hb dX1_wayBetween_10 rfl (lv_at hl 1 rfl) ?_
  refine x_iald (f := σ 10) hx hb hG hP 10 rfl (by assumption) dX1_wayBetween_11 ?_
  refine lv_isub hx hb dX1_wayBetween_12 ?_
  refine lv_istore_n (lv' := [(3, .int ((σ 10 ot.toNatClampNeg) - (σ 10 st.toNatClampNeg))), (0, .ref (a 2)), (1, .int st), (2, .int ot)]) hx hb dX1_wayBetween_13 rfl hl (by decide) rfl (fun ls hl => ?_)
  refine lv_aload_n hx hb dX1_wayBetween_14 rfl (lv_at hl 1 rfl) ?_
  refine x_get (ci := 1) (C := RX1) (T := TX1) (M := 3) (v := .ref (a 11)) hx hb hts in_X1_wayBetween_1 hown hG hP 2 rfl rfl 1 (by decide) (List.mem_of_getElem? (i := 2) rfl) rfl rfl dX1_wayBetween_15 ?_
  refine lv_iload_n hx hb dX1_wayBetween_18 rfl (lv_at hl 3 rfl) ?_
  refine x_iald (f := σ 11) hx hb hG hP 11 rfl (by assumption) dX1_wayBetween_19 ?_
  refine lv_aload_n hx hb dX1_wayBetween_20 rfl (lv_at hl 1 rfl) ?_
  refine x_get (ci := 1) (C := RX1) (T := TX1) (M := 3) (v := .ref (a 11)) hx hb hts in_X1_wayBetween_1 hown hG hP 2 rfl rfl 1 (by decide) (List.mem_of_getElem? (i := 2) rfl) rfl rfl dX1_wayBetween_21 ?_
  refine lv_iload_n hx hb dX1_wayBetween_24 rfl (lv_at hl 2 rfl) ?_
  refine x_iald (f := σ 11) hx hb hG hP 11 rfl (by assumption) dX1_wayBetween_25 ?_
  refine lv_isub hx hb dX1_wayBetween_26 ?_
  refine lv_istore (lv' := [(4, .int ((σ 11 ot.toNatClampNeg) - (σ 11 st.toNatClampNeg))), (3, .int ((σ 10 ot.toNatClampNeg) - (σ 10 st.toNatClampNeg))), (0, .ref (a 2)), (1, .int st), (2, .int ot)]) hx hb dX1_wayBetween_27 hl (by decide) rfl (fun ls hl => ?_)
  refine lv_iconst (v := 0) hx hb dX1_wayBetween_29 (by decide) ?_
  refine lv_aload_n hx hb dX1_wayBetween_30 rfl (lv_at hl 2 rfl) ?_
  refine x_get (ci := 1) (C := RX1) (T := TX1) (M := 3) (v := .ref (a 12)) hx hb hts in_X1_wayBetween_1 hown hG hP 2 rfl rfl 2 (by decide) (List.mem_of_getElem? (i := 3) rfl) rfl rfl dX1_wayBetween_31 ?_
  refine lv_iload_n hx hb dX1_wayBetween_34 rfl (lv_at hl 4 rfl) ?_
  refine x_iald (f := σ 12) hx hb hG hP 12 rfl (by assumption) dX1_wayBetween_35 ?_
  refine lv_aload_n hx hb dX1_wayBetween_36 rfl (lv_at hl 2 rfl) ?_
  refine x_get (ci := 1) (C := RX1) (T := TX1) (M := 3) (v := .ref (a 12)) hx hb hts in_X1_wayBetween_1 hown hG hP 2 rfl rfl 2 (by decide) (List.mem_of_getElem? (i := 3) rfl) rfl rfl dX1_wayBetween_37 ?_
  refine lv_iload_n hx hb dX1_wayBetween_40 rfl (lv_at hl 3 rfl) ?_
  refine x_iald (f := σ 12) hx hb hG hP 12 rfl (by assumption) dX1_wayBetween_41 ?_
  refine lv_isub hx hb dX1_wayBetween_42 ?_
  refine va_mmax hx hb (by rw [hml]; exact hl.1.symm) hown (hts _ (List.mem_of_getElem? (i := 4) rfl)) (hts _ (List.mem_of_getElem? (i := 5) rfl)) (hts _ (List.mem_of_getElem? (i := 6) rfl)) (hts _ (List.mem_of_getElem? (i := 7) rfl)) (Nat.le_of_ble_eq_true rfl) (Nat.le_of_ble_eq_true rfl) (Nat.zero_le _) (Nat.zero_le _) dX1_wayBetween_43 ?_
  refine lv_istore (lv' := [(5, .int (if (0 : Int32) < (σ 12 ot.toNatClampNeg) - (σ 12 st.toNatClampNeg) then (σ 12 ot.toNatClampNeg) - (σ 12 st.toNatClampNeg) else 0)), (4, .int ((σ 11 ot.toNatClampNeg) - (σ 11 st.toNatClampNeg))), (3, .int ((σ 10 ot.toNatClampNeg) - (σ 10 st.toNatClampNeg))), (0, .ref (a 2)), (1, .int st), (2, .int ot)]) hx hb dX1_wayBetween_46 hl (by decide) rfl (fun ls hl => ?_)
  refine lv_iload_n hx hb dX1_wayBetween_48 rfl (lv_at hl 2 rfl) ?_
  refine lv_iload_n hx hb dX1_wayBetween_49 rfl (lv_at hl 2 rfl) ?_
  refine lv_imul hx hb dX1_wayBetween_50 ?_
  refine lv_iload hx hb dX1_wayBetween_51 (lv_at hl 1 rfl) ?_
  refine lv_iload hx hb dX1_wayBetween_53 (lv_at hl 1 rfl) ?_
  refine lv_imul hx hb dX1_wayBetween_55 ?_
  refine lv_iadd hx hb dX1_wayBetween_56 ?_
  refine x_callSd (w := wX cI a) (σ := σ) (σ' := σ) (As := [.int ((((σ 10 ot.toNatClampNeg) - (σ 10 st.toNatClampNeg)) * ((σ 10 ot.toNatClampNeg) - (σ 10 st.toNatClampNeg))) + (((σ 11 ot.toNatClampNeg) - (σ 11 st.toNatClampNeg)) * ((σ 11 ot.toNatClampNeg) - (σ 11 st.toNatClampNeg))))]) (rest := []) ⟨hx, hb, hml, hown, hts⟩ hG hP hS hsz (c_X1_nearestRoot l D cI a H.size σ ((((σ 10 ot.toNatClampNeg) - (σ 10 st.toNatClampNeg)) * ((σ 10 ot.toNatClampNeg) - (σ 10 st.toNatClampNeg))) + (((σ 11 ot.toNatClampNeg) - (σ 11 st.toNatClampNeg)) * ((σ 11 ot.toNatClampNeg) - (σ 11 st.toNatClampNeg)))) (sq_in hgr hs hs2)) (va_cwS 1 hts gX1_wayBetween_X1_nearestRoot rfl rfl rfl (by decide +kernel) ⟨Nat.le_of_ble_eq_true rfl, Nat.le_of_ble_eq_true rfl⟩) rfl hl.1 rfl (Nat.le_of_ble_eq_true rfl) ⟨Nat.zero_le _, Nat.zero_le _⟩ dX1_wayBetween_57 (fun H locs hP hS => ?_)
  refine lv_ldc2d (v := 4611686018427387904) hx hb hown (hts _ (List.mem_of_getElem? (i := 8) rfl)) dX1_wayBetween_60 ?_
  refine lv_iload hx hb dX1_wayBetween_63 (lv_at hl 0 rfl) ?_
  refine lv_i2d hx hb dX1_wayBetween_65 ?_
  refine lv_dmul hx hb dX1_wayBetween_66 (c2_nan _) ?_
  refine lv_dadd hx hb dX1_wayBetween_67 (wy_nan (rX_mag (sq_in hgr hs hs2))) ?_
  exact x_dret hx hb hr hlk hsz hP hS (by rw [r_X1_wayBetween]) rfl dX1_wayBetween_68
theorem wX_mag {σ : Sg} {st ot : Int32} (h : GRX σ) (h1 : vp_in st 8) (h2 : vp_in ot 8) : (r_X1_wayBetween σ st ot).toNat % 2 ^ 63 < 1091 * 2 ^ 52 := by
  unfold r_X1_wayBetween
  exact wy_mag (rX_mag (sq_in h h1 h2))
theorem in_X5_pass_5 : ∀ wd ∈ u_ws RX5 TX5 9, wd ∈ wsX5_pass := by decide +kernel
def r_X5_pass (σ : Sg) (mi : Int32) : Int32 :=
  (sx σ 0 5 ((σ 0 5) + mi)) 0 5
def s_X5_pass (σ : Sg) (mi : Int32) : Sg :=
  sx σ 0 5 ((σ 0 5) + mi)
set_option maxHeartbeats 4000000 in
set_option maxRecDepth 100000 in
theorem c_X5_pass (l : Launch) (D : va_G) (cI : ClassId) (a : Nat → Nat) (sz : Nat) (σ : Sg) (mi : Int32) (hp1 : ¬ mi < 1) (hp2 : mi ≤ 600) (hp3 : (σ 0 5) + mi ≤ 20000) : Met l yX5_pass wsX5_pass ({ frames := 0, cells := 0, slots := 0, locals := 0 }) (PcW D cI 29 a (wX cI a) sz σ [.ref (a 0), .int mi]) (QiW D 29 a (wX cI a) sz (r_X5_pass σ mi) (s_X5_pass σ mi)) 0 0 (AX 29 a sz) := by
  refine x_of (cc := cX5_pass) (maxL := 2) (ret := some .int) (C := RX5) rfl (by decide) rfl (Nat.le_of_ble_eq_true rfl) (fun p e s m below meth c hx hb hr hml hlk hts hown hsz H hP hS hG ls hl => ?_)
  have hl : lv_has ls 2 [(0, .ref (a 0)), (1, .int mi)] := hl
  refine lv_iload_n hx hb dX5_pass_0 rfl (lv_at hl 1 rfl) ?_
  refine lv_iconst (v := 1) hx hb dX5_pass_1 (by decide) ?_
  refine lv_icmp_lt (tgt := 12) hx hb dX5_pass_2 (by decide) (fun h => absurd h hp1) (fun _ => ?_)
  refine lv_iload_n hx hb dX5_pass_5 rfl (lv_at hl 1 rfl) ?_
  refine lv_sipush (v := 600) hx hb dX5_pass_6 (by decide) ?_
  refine lv_icmp_le (tgt := 22) hx hb dX5_pass_9 (by decide) (fun _ => ?_) (fun h => absurd hp2 h)
  refine lv_aload_n hx hb dX5_pass_22 rfl (lv_at hl 0 rfl) ?_
  refine x_get (ci := 5) (C := RX5) (T := TX5) (M := 9) (v := .int (σ 0 5)) hx hb hts in_X5_pass_5 hown hG hP 0 rfl rfl 5 (by decide) (List.mem_of_getElem? (i := 5) rfl) rfl rfl dX5_pass_23 ?_
  refine lv_iload_n hx hb dX5_pass_26 rfl (lv_at hl 1 rfl) ?_
  refine lv_iadd hx hb dX5_pass_27 ?_
  refine lv_sipush (v := 20000) hx hb dX5_pass_28 (by decide) ?_
  refine lv_icmp_le (tgt := 44) hx hb dX5_pass_31 (by decide) (fun _ => ?_) (fun h => absurd hp3 h)
  refine lv_aload_n hx hb dX5_pass_44 rfl (lv_at hl 0 rfl) ?_
  refine lv_dup hx hb dX5_pass_45 rfl ?_
  refine x_get (ci := 5) (C := RX5) (T := TX5) (M := 9) (v := .int (σ 0 5)) hx hb hts in_X5_pass_5 hown hG hP 0 rfl rfl 5 (by decide) (List.mem_of_getElem? (i := 5) rfl) rfl rfl dX5_pass_46 ?_
  refine lv_iload_n hx hb dX5_pass_49 rfl (lv_at hl 1 rfl) ?_
  refine lv_iadd hx hb dX5_pass_50 ?_
  refine x_put (w := wX cI a) (σ := σ) (ci := 5) (C := RX5) (T := TX5) (M := 9) hx hb hts in_X5_pass_5 tyX5 tyX5_ok nmX5 hown hG hP hS 0 rfl rfl 5 (by decide) (List.mem_of_getElem? (i := 5) rfl) rfl rfl rfl (Nat.le_of_ble_eq_true rfl) (wX_pt0_5 cI a _ _) dX5_pass_51 (fun H locs hP hS => ?_)
  refine lv_aload_n hx hb dX5_pass_54 rfl (lv_at hl 0 rfl) ?_
  refine x_get (ci := 5) (C := RX5) (T := TX5) (M := 9) (v := .int ((sx σ 0 5 ((σ 0 5) + mi)) 0 5)) hx hb hts in_X5_pass_5 hown hG hP 0 rfl rfl 5 (by decide) (List.mem_of_getElem? (i := 5) rfl) rfl rfl dX5_pass_55 ?_
  exact x_iret hx hb hr hlk hsz hP hS rfl (by rw [r_X5_pass]) (by rw [s_X5_pass]) dX5_pass_58
theorem in_X5_lies_1 : ∀ wd ∈ u_ws RX1 TX1 3, wd ∈ wsX5_lies := by decide +kernel
theorem in_X5_lies_5 : ∀ wd ∈ u_ws RX5 TX5 9, wd ∈ wsX5_lies := by decide +kernel
def s_X5_lies (σ : Sg) (st : Int32) (ea : Int32) (no : Int32) (hi : Int32) : Sg :=
  sx (sx (sx σ 10 st.toNatClampNeg ea) 11 st.toNatClampNeg no) 12 st.toNatClampNeg hi
set_option maxHeartbeats 4000000 in
set_option maxRecDepth 100000 in
theorem c_X5_lies (l : Launch) (D : va_G) (cI : ClassId) (a : Nat → Nat) (sz : Nat) (σ : Sg) (st : Int32) (ea : Int32) (no : Int32) (hi : Int32) (hs : vp_in st 8) (hu1 : (¬ ea < 0 ∧ ea ≤ 99)) (hu2 : (¬ no < 0 ∧ no ≤ 99)) (hu3 : (¬ hi < 0 ∧ hi ≤ 99)) : Met l yX5_lies wsX5_lies ({ frames := 1, cells := 0, slots := 0, locals := 21 }) (PcW D cI 29 a (wX cI a) sz σ [.ref (a 0), .int st, .int ea, .int no, .int hi]) (QvW D 29 a (wX cI a) sz (s_X5_lies σ st ea no hi)) 0 0 (AX 29 a sz) := by
  refine x_of (cc := cX5_lies) (maxL := 5) (ret := none) (C := RX5) rfl (by decide) rfl (Nat.le_of_ble_eq_true rfl) (fun p e s m below meth c hx hb hr hml hlk hts hown hsz H hP hS hG ls hl => ?_)
  have hl : lv_has ls 5 [(0, .ref (a 0)), (1, .int st), (2, .int ea), (3, .int no), (4, .int hi)] := hl
  refine lv_iload_n hx hb dX5_lies_0 rfl (lv_at hl 1 rfl) ?_
  refine x_callSv (w := wX cI a) (σ := σ) (σ' := σ) (As := [.int st]) (rest := []) ⟨hx, hb, hml, hown, hts⟩ hG hP hS hsz (c_X5_needStation l D cI a H.size σ st hs) (va_cwS 1 hts gX5_lies_X5_needStation rfl rfl rfl (by decide +kernel) ⟨Nat.le_of_ble_eq_true rfl, Nat.le_of_ble_eq_true rfl⟩) rfl hl.1 rfl (Nat.le_of_ble_eq_true rfl) ⟨Nat.zero_le _, Nat.zero_le _⟩ dX5_lies_1 (fun H locs hP hS => ?_)
  refine lv_iload_n hx hb dX5_lies_4 rfl (lv_at hl 2 rfl) ?_
  refine lv_bipush (v := 99) hx hb dX5_lies_5 (by decide) ?_
  refine x_callSv (w := wX cI a) (σ := σ) (σ' := σ) (As := [.int ea, .int 99]) (rest := []) ⟨hx, hb, hml, hown, hts⟩ hG hP hS hsz (c_X5_needUpTo l D cI a H.size σ ea 99 hu1) (va_cwS 2 hts gX5_lies_X5_needUpTo rfl rfl rfl (by decide +kernel) ⟨Nat.le_of_ble_eq_true rfl, Nat.le_of_ble_eq_true rfl⟩) rfl hl.1 rfl (Nat.le_of_ble_eq_true rfl) ⟨Nat.zero_le _, Nat.zero_le _⟩ dX5_lies_7 (fun H locs hP hS => ?_)
  refine lv_iload_n hx hb dX5_lies_10 rfl (lv_at hl 3 rfl) ?_
  refine lv_bipush (v := 99) hx hb dX5_lies_11 (by decide) ?_
  refine x_callSv (w := wX cI a) (σ := σ) (σ' := σ) (As := [.int no, .int 99]) (rest := []) ⟨hx, hb, hml, hown, hts⟩ hG hP hS hsz (c_X5_needUpTo l D cI a H.size σ no 99 hu2) (va_cwS 2 hts gX5_lies_X5_needUpTo rfl rfl rfl (by decide +kernel) ⟨Nat.le_of_ble_eq_true rfl, Nat.le_of_ble_eq_true rfl⟩) rfl hl.1 rfl (Nat.le_of_ble_eq_true rfl) ⟨Nat.zero_le _, Nat.zero_le _⟩ dX5_lies_13 (fun H locs hP hS => ?_)
  refine lv_iload hx hb dX5_lies_16 (lv_at hl 4 rfl) ?_
  refine lv_bipush (v := 99) hx hb dX5_lies_18 (by decide) ?_
  refine x_callSv (w := wX cI a) (σ := σ) (σ' := σ) (As := [.int hi, .int 99]) (rest := []) ⟨hx, hb, hml, hown, hts⟩ hG hP hS hsz (c_X5_needUpTo l D cI a H.size σ hi 99 hu3) (va_cwS 2 hts gX5_lies_X5_needUpTo rfl rfl rfl (by decide +kernel) ⟨Nat.le_of_ble_eq_true rfl, Nat.le_of_ble_eq_true rfl⟩) rfl hl.1 rfl (Nat.le_of_ble_eq_true rfl) ⟨Nat.zero_le _, Nat.zero_le _⟩ dX5_lies_20 (fun H locs hP hS => ?_)
  refine lv_aload_n hx hb dX5_lies_23 rfl (lv_at hl 0 rfl) ?_
  refine x_get (ci := 5) (C := RX5) (T := TX5) (M := 9) (v := .ref (a 2)) hx hb hts in_X5_lies_5 hown hG hP 0 rfl rfl 1 (by decide) (List.mem_of_getElem? (i := 1) rfl) rfl rfl dX5_lies_24 ?_
  refine x_get (ci := 1) (C := RX1) (T := TX1) (M := 3) (v := .ref (a 10)) hx hb hts in_X5_lies_1 hown hG hP 2 rfl rfl 0 (by decide) (List.mem_of_getElem? (i := 2) rfl) rfl rfl dX5_lies_27 ?_
  refine lv_iload_n hx hb dX5_lies_30 rfl (lv_at hl 1 rfl) ?_
  refine lv_iload_n hx hb dX5_lies_31 rfl (lv_at hl 2 rfl) ?_
  refine x_iast (w := wX cI a) (σ := σ) hx hb hG hP hS 10 rfl (wX_st10 cI a _ _ _) (by assumption) dX5_lies_32 (fun H locs hP hS => ?_)
  refine lv_aload_n hx hb dX5_lies_33 rfl (lv_at hl 0 rfl) ?_
  refine x_get (ci := 5) (C := RX5) (T := TX5) (M := 9) (v := .ref (a 2)) hx hb hts in_X5_lies_5 hown hG hP 0 rfl rfl 1 (by decide) (List.mem_of_getElem? (i := 1) rfl) rfl rfl dX5_lies_34 ?_
  refine x_get (ci := 1) (C := RX1) (T := TX1) (M := 3) (v := .ref (a 11)) hx hb hts in_X5_lies_1 hown hG hP 2 rfl rfl 1 (by decide) (List.mem_of_getElem? (i := 3) rfl) rfl rfl dX5_lies_37 ?_
  refine lv_iload_n hx hb dX5_lies_40 rfl (lv_at hl 1 rfl) ?_
  refine lv_iload_n hx hb dX5_lies_41 rfl (lv_at hl 3 rfl) ?_
  refine x_iast (w := wX cI a) (σ := sx σ 10 st.toNatClampNeg ea) hx hb hG hP hS 11 rfl (wX_st11 cI a _ _ _) (by assumption) dX5_lies_42 (fun H locs hP hS => ?_)
  refine lv_aload_n hx hb dX5_lies_43 rfl (lv_at hl 0 rfl) ?_
  refine x_get (ci := 5) (C := RX5) (T := TX5) (M := 9) (v := .ref (a 2)) hx hb hts in_X5_lies_5 hown hG hP 0 rfl rfl 1 (by decide) (List.mem_of_getElem? (i := 1) rfl) rfl rfl dX5_lies_44 ?_
  refine x_get (ci := 1) (C := RX1) (T := TX1) (M := 3) (v := .ref (a 12)) hx hb hts in_X5_lies_1 hown hG hP 2 rfl rfl 2 (by decide) (List.mem_of_getElem? (i := 4) rfl) rfl rfl dX5_lies_47 ?_
  refine lv_iload_n hx hb dX5_lies_50 rfl (lv_at hl 1 rfl) ?_
  refine lv_iload hx hb dX5_lies_51 (lv_at hl 4 rfl) ?_
  refine x_iast (w := wX cI a) (σ := sx (sx σ 10 st.toNatClampNeg ea) 11 st.toNatClampNeg no) hx hb hG hP hS 12 rfl (wX_st12 cI a _ _ _) (by assumption) dX5_lies_53 (fun H locs hP hS => ?_)
  exact x_vret hx hb hr hlk hsz hP hS (by rw [s_X5_lies]) dX5_lies_54
theorem in_X5_docks_5 : ∀ wd ∈ u_ws RX5 TX5 9, wd ∈ wsX5_docks := by decide +kernel
def s_X5_docks (σ : Sg) (st : Int32) (pl : Int32) (n : Nat) (g : Nat) : Sg :=
  s_X5_hear σ 0 st pl (σ 0 5) n g
set_option maxHeartbeats 4000000 in
set_option maxRecDepth 100000 in
theorem c_X5_docks (l : Launch) (D : va_G) (cI : ClassId) (a : Nat → Nat) (sz : Nat) (σ : Sg) (st : Int32) (pl : Int32) (n : Nat) (g : Nat) (hs : vp_in st 8) (hu1 : (¬ pl < 0 ∧ pl ≤ 20)) (hn : n < 300) (hcn : σ 1 4 = nI n) (hh : hearOK σ 0 st pl (σ 0 5) n g) : Met l yX5_docks wsX5_docks ({ frames := 6, cells := 0, slots := 0, locals := 137 }) (PcW D cI 29 a (wX cI a) sz σ [.ref (a 0), .int st, .int pl]) (QvW D 29 a (wX cI a) sz (s_X5_docks σ st pl n g)) 0 0 (AX 29 a sz) := by
  refine x_of (cc := cX5_docks) (maxL := 3) (ret := none) (C := RX5) rfl (by decide) rfl (Nat.le_of_ble_eq_true rfl) (fun p e s m below meth c hx hb hr hml hlk hts hown hsz H hP hS hG ls hl => ?_)
  have hl : lv_has ls 3 [(0, .ref (a 0)), (1, .int st), (2, .int pl)] := hl
  refine lv_iload_n hx hb dX5_docks_0 rfl (lv_at hl 1 rfl) ?_
  refine x_callSv (w := wX cI a) (σ := σ) (σ' := σ) (As := [.int st]) (rest := []) ⟨hx, hb, hml, hown, hts⟩ hG hP hS hsz (c_X5_needStation l D cI a H.size σ st hs) (va_cwS 1 hts gX5_docks_X5_needStation rfl rfl rfl (by decide +kernel) ⟨Nat.le_of_ble_eq_true rfl, Nat.le_of_ble_eq_true rfl⟩) rfl hl.1 rfl (Nat.le_of_ble_eq_true rfl) ⟨Nat.zero_le _, Nat.zero_le _⟩ dX5_docks_1 (fun H locs hP hS => ?_)
  refine lv_iload_n hx hb dX5_docks_4 rfl (lv_at hl 2 rfl) ?_
  refine lv_bipush (v := 20) hx hb dX5_docks_5 (by decide) ?_
  refine x_callSv (w := wX cI a) (σ := σ) (σ' := σ) (As := [.int pl, .int 20]) (rest := []) ⟨hx, hb, hml, hown, hts⟩ hG hP hS hsz (c_X5_needUpTo l D cI a H.size σ pl 20 hu1) (va_cwS 2 hts gX5_docks_X5_needUpTo rfl rfl rfl (by decide +kernel) ⟨Nat.le_of_ble_eq_true rfl, Nat.le_of_ble_eq_true rfl⟩) rfl hl.1 rfl (Nat.le_of_ble_eq_true rfl) ⟨Nat.zero_le _, Nat.zero_le _⟩ dX5_docks_7 (fun H locs hP hS => ?_)
  refine lv_aload_n hx hb dX5_docks_10 rfl (lv_at hl 0 rfl) ?_
  refine x_callVv (w := wX cI a) (σ := σ) (σ' := σ) (As := []) (rest := []) (q0 := 0) ⟨hx, hb, hml, hown, hts⟩ hG hP hS hsz (c_X5_needRoom l D cI a H.size σ  (isFull0 hcn hn)) (cwV 0 hts gX5_docks_X5_needRoom rfl rfl rfl (by decide +kernel) ⟨Nat.le_of_ble_eq_true rfl, Nat.le_of_ble_eq_true rfl⟩) rfl rfl rfl rfl hl.1 rfl (Nat.le_of_ble_eq_true rfl) ⟨Nat.zero_le _, Nat.zero_le _⟩ dX5_docks_11 (fun H locs hP hS => ?_)
  refine lv_aload_n hx hb dX5_docks_14 rfl (lv_at hl 0 rfl) ?_
  refine lv_iconst (v := 0) hx hb dX5_docks_15 (by decide) ?_
  refine lv_iload_n hx hb dX5_docks_16 rfl (lv_at hl 1 rfl) ?_
  refine lv_iload_n hx hb dX5_docks_17 rfl (lv_at hl 2 rfl) ?_
  refine lv_aload_n hx hb dX5_docks_18 rfl (lv_at hl 0 rfl) ?_
  refine x_get (ci := 5) (C := RX5) (T := TX5) (M := 9) (v := .int (σ 0 5)) hx hb hts in_X5_docks_5 hown hG hP 0 rfl rfl 5 (by decide) (List.mem_of_getElem? (i := 1) rfl) rfl rfl dX5_docks_19 ?_
  refine x_callVi (w := wX cI a) (σ := σ) (σ' := s_X5_hear σ 0 st pl (σ 0 5) n g) (As := [.int 0, .int st, .int pl, .int (σ 0 5)]) (rest := []) (q0 := 0) ⟨hx, hb, hml, hown, hts⟩ hG hP hS hsz (c_X5_hear l D cI a H.size σ 0 st pl (σ 0 5) n g hn hcn hh.1 hh.2.1 hh.2.2.1 hh.2.2.2.1 hh.2.2.2.2.1 hh.2.2.2.2.2.1 hh.2.2.2.2.2.2) (cwV 4 hts gX5_docks_X5_hear rfl rfl rfl (by decide +kernel) ⟨Nat.le_of_ble_eq_true rfl, Nat.le_of_ble_eq_true rfl⟩) rfl rfl rfl rfl hl.1 rfl (Nat.le_of_ble_eq_true rfl) ⟨Nat.zero_le _, Nat.zero_le _⟩ dX5_docks_22 (fun H locs hP hS => ?_)
  refine lv_pop hx hb dX5_docks_25 rfl ?_
  exact x_vret hx hb hr hlk hsz hP hS (by rw [s_X5_docks]) dX5_docks_26
theorem in_X5_put_5 : ∀ wd ∈ u_ws RX5 TX5 9, wd ∈ wsX5_put := by decide +kernel
def r_X5_put (σ : Sg) (cy : Int32) (st : Int32) (n : Nat) (g : Nat) : Int32 :=
  r_X5_hear σ 1 cy st (σ 0 5) n g
def s_X5_put (σ : Sg) (cy : Int32) (st : Int32) (n : Nat) (g : Nat) : Sg :=
  s_X5_hear σ 1 cy st (σ 0 5) n g
theorem b_X5_put (σ : Sg) (cy : Int32) (st : Int32) (n : Nat) (g : Nat) : r_X5_put σ cy st n g = 0 ∨ r_X5_put σ cy st n g = 1 := by
  unfold r_X5_put
  repeat' split
  all_goals first | with_reducible exact Or.inl rfl | with_reducible exact Or.inr rfl | with_reducible exact b_X5_hear _ _ _ _ _ _ _
set_option maxHeartbeats 4000000 in
set_option maxRecDepth 100000 in
theorem c_X5_put (l : Launch) (D : va_G) (cI : ClassId) (a : Nat → Nat) (sz : Nat) (σ : Sg) (cy : Int32) (st : Int32) (n : Nat) (g : Nat) (hc : vp_in cy 30) (hs : vp_in st 8) (hn : n < 300) (hcn : σ 1 4 = nI n) (hh : hearOK σ 1 cy st (σ 0 5) n g) : Met l yX5_put wsX5_put ({ frames := 6, cells := 0, slots := 0, locals := 137 }) (PcW D cI 29 a (wX cI a) sz σ [.ref (a 0), .int cy, .int st]) (QiW D 29 a (wX cI a) sz (r_X5_put σ cy st n g) (s_X5_put σ cy st n g)) 0 0 (AX 29 a sz) := by
  refine x_of (cc := cX5_put) (maxL := 3) (ret := some .boolean) (C := RX5) rfl (by decide) rfl (Nat.le_of_ble_eq_true rfl) (fun p e s m below meth c hx hb hr hml hlk hts hown hsz H hP hS hG ls hl => ?_)
  have hl : lv_has ls 3 [(0, .ref (a 0)), (1, .int cy), (2, .int st)] := hl
  refine lv_iload_n hx hb dX5_put_0 rfl (lv_at hl 1 rfl) ?_
  refine x_callSv (w := wX cI a) (σ := σ) (σ' := σ) (As := [.int cy]) (rest := []) ⟨hx, hb, hml, hown, hts⟩ hG hP hS hsz (c_X5_needCycle l D cI a H.size σ cy hc) (va_cwS 1 hts gX5_put_X5_needCycle rfl rfl rfl (by decide +kernel) ⟨Nat.le_of_ble_eq_true rfl, Nat.le_of_ble_eq_true rfl⟩) rfl hl.1 rfl (Nat.le_of_ble_eq_true rfl) ⟨Nat.zero_le _, Nat.zero_le _⟩ dX5_put_1 (fun H locs hP hS => ?_)
  refine lv_iload_n hx hb dX5_put_4 rfl (lv_at hl 2 rfl) ?_
  refine x_callSv (w := wX cI a) (σ := σ) (σ' := σ) (As := [.int st]) (rest := []) ⟨hx, hb, hml, hown, hts⟩ hG hP hS hsz (c_X5_needStation l D cI a H.size σ st hs) (va_cwS 1 hts gX5_put_X5_needStation rfl rfl rfl (by decide +kernel) ⟨Nat.le_of_ble_eq_true rfl, Nat.le_of_ble_eq_true rfl⟩) rfl hl.1 rfl (Nat.le_of_ble_eq_true rfl) ⟨Nat.zero_le _, Nat.zero_le _⟩ dX5_put_5 (fun H locs hP hS => ?_)
  refine lv_aload_n hx hb dX5_put_8 rfl (lv_at hl 0 rfl) ?_
  refine x_callVv (w := wX cI a) (σ := σ) (σ' := σ) (As := []) (rest := []) (q0 := 0) ⟨hx, hb, hml, hown, hts⟩ hG hP hS hsz (c_X5_needRoom l D cI a H.size σ  (isFull0 hcn hn)) (cwV 0 hts gX5_put_X5_needRoom rfl rfl rfl (by decide +kernel) ⟨Nat.le_of_ble_eq_true rfl, Nat.le_of_ble_eq_true rfl⟩) rfl rfl rfl rfl hl.1 rfl (Nat.le_of_ble_eq_true rfl) ⟨Nat.zero_le _, Nat.zero_le _⟩ dX5_put_9 (fun H locs hP hS => ?_)
  refine lv_aload_n hx hb dX5_put_12 rfl (lv_at hl 0 rfl) ?_
  refine lv_iconst (v := 1) hx hb dX5_put_13 (by decide) ?_
  refine lv_iload_n hx hb dX5_put_14 rfl (lv_at hl 1 rfl) ?_
  refine lv_iload_n hx hb dX5_put_15 rfl (lv_at hl 2 rfl) ?_
  refine lv_aload_n hx hb dX5_put_16 rfl (lv_at hl 0 rfl) ?_
  refine x_get (ci := 5) (C := RX5) (T := TX5) (M := 9) (v := .int (σ 0 5)) hx hb hts in_X5_put_5 hown hG hP 0 rfl rfl 5 (by decide) (List.mem_of_getElem? (i := 1) rfl) rfl rfl dX5_put_17 ?_
  refine x_callVi (w := wX cI a) (σ := σ) (σ' := s_X5_hear σ 1 cy st (σ 0 5) n g) (As := [.int 1, .int cy, .int st, .int (σ 0 5)]) (rest := []) (q0 := 0) ⟨hx, hb, hml, hown, hts⟩ hG hP hS hsz (c_X5_hear l D cI a H.size σ 1 cy st (σ 0 5) n g hn hcn hh.1 hh.2.1 hh.2.2.1 hh.2.2.2.1 hh.2.2.2.2.1 hh.2.2.2.2.2.1 hh.2.2.2.2.2.2) (cwV 4 hts gX5_put_X5_hear rfl rfl rfl (by decide +kernel) ⟨Nat.le_of_ble_eq_true rfl, Nat.le_of_ble_eq_true rfl⟩) rfl rfl rfl rfl hl.1 rfl (Nat.le_of_ble_eq_true rfl) ⟨Nat.zero_le _, Nat.zero_le _⟩ dX5_put_20 (fun H locs hP hS => ?_)
  exact x_iret hx hb hr hlk hsz hP hS (nb01 (b_X5_hear _ _ _ _ _ _ _)) (by rw [r_X5_put]) (by rw [s_X5_put]) dX5_put_23
theorem in_X5_take_5 : ∀ wd ∈ u_ws RX5 TX5 9, wd ∈ wsX5_take := by decide +kernel
def r_X5_take (σ : Sg) (cy : Int32) (n : Nat) (g : Nat) : Int32 :=
  r_X5_hear σ 2 cy (-1) (σ 0 5) n g
def s_X5_take (σ : Sg) (cy : Int32) (n : Nat) (g : Nat) : Sg :=
  s_X5_hear σ 2 cy (-1) (σ 0 5) n g
theorem b_X5_take (σ : Sg) (cy : Int32) (n : Nat) (g : Nat) : r_X5_take σ cy n g = 0 ∨ r_X5_take σ cy n g = 1 := by
  unfold r_X5_take
  repeat' split
  all_goals first | with_reducible exact Or.inl rfl | with_reducible exact Or.inr rfl | with_reducible exact b_X5_hear _ _ _ _ _ _ _
set_option maxHeartbeats 4000000 in
set_option maxRecDepth 100000 in
theorem c_X5_take (l : Launch) (D : va_G) (cI : ClassId) (a : Nat → Nat) (sz : Nat) (σ : Sg) (cy : Int32) (n : Nat) (g : Nat) (hc : vp_in cy 30) (hn : n < 300) (hcn : σ 1 4 = nI n) (hh : hearOK σ 2 cy (-1) (σ 0 5) n g) : Met l yX5_take wsX5_take ({ frames := 6, cells := 0, slots := 0, locals := 137 }) (PcW D cI 29 a (wX cI a) sz σ [.ref (a 0), .int cy]) (QiW D 29 a (wX cI a) sz (r_X5_take σ cy n g) (s_X5_take σ cy n g)) 0 0 (AX 29 a sz) := by
  refine x_of (cc := cX5_take) (maxL := 2) (ret := some .boolean) (C := RX5) rfl (by decide) rfl (Nat.le_of_ble_eq_true rfl) (fun p e s m below meth c hx hb hr hml hlk hts hown hsz H hP hS hG ls hl => ?_)
  have hl : lv_has ls 2 [(0, .ref (a 0)), (1, .int cy)] := hl
  refine lv_iload_n hx hb dX5_take_0 rfl (lv_at hl 1 rfl) ?_
  refine x_callSv (w := wX cI a) (σ := σ) (σ' := σ) (As := [.int cy]) (rest := []) ⟨hx, hb, hml, hown, hts⟩ hG hP hS hsz (c_X5_needCycle l D cI a H.size σ cy hc) (va_cwS 1 hts gX5_take_X5_needCycle rfl rfl rfl (by decide +kernel) ⟨Nat.le_of_ble_eq_true rfl, Nat.le_of_ble_eq_true rfl⟩) rfl hl.1 rfl (Nat.le_of_ble_eq_true rfl) ⟨Nat.zero_le _, Nat.zero_le _⟩ dX5_take_1 (fun H locs hP hS => ?_)
  refine lv_aload_n hx hb dX5_take_4 rfl (lv_at hl 0 rfl) ?_
  refine x_callVv (w := wX cI a) (σ := σ) (σ' := σ) (As := []) (rest := []) (q0 := 0) ⟨hx, hb, hml, hown, hts⟩ hG hP hS hsz (c_X5_needRoom l D cI a H.size σ  (isFull0 hcn hn)) (cwV 0 hts gX5_take_X5_needRoom rfl rfl rfl (by decide +kernel) ⟨Nat.le_of_ble_eq_true rfl, Nat.le_of_ble_eq_true rfl⟩) rfl rfl rfl rfl hl.1 rfl (Nat.le_of_ble_eq_true rfl) ⟨Nat.zero_le _, Nat.zero_le _⟩ dX5_take_5 (fun H locs hP hS => ?_)
  refine lv_aload_n hx hb dX5_take_8 rfl (lv_at hl 0 rfl) ?_
  refine lv_iconst (v := 2) hx hb dX5_take_9 (by decide) ?_
  refine lv_iload_n hx hb dX5_take_10 rfl (lv_at hl 1 rfl) ?_
  refine lv_iconst (v := (-1)) hx hb dX5_take_11 (by decide) ?_
  refine lv_aload_n hx hb dX5_take_12 rfl (lv_at hl 0 rfl) ?_
  refine x_get (ci := 5) (C := RX5) (T := TX5) (M := 9) (v := .int (σ 0 5)) hx hb hts in_X5_take_5 hown hG hP 0 rfl rfl 5 (by decide) (List.mem_of_getElem? (i := 1) rfl) rfl rfl dX5_take_13 ?_
  refine x_callVi (w := wX cI a) (σ := σ) (σ' := s_X5_hear σ 2 cy (-1) (σ 0 5) n g) (As := [.int 2, .int cy, .int (-1), .int (σ 0 5)]) (rest := []) (q0 := 0) ⟨hx, hb, hml, hown, hts⟩ hG hP hS hsz (c_X5_hear l D cI a H.size σ 2 cy (-1) (σ 0 5) n g hn hcn hh.1 hh.2.1 hh.2.2.1 hh.2.2.2.1 hh.2.2.2.2.1 hh.2.2.2.2.2.1 hh.2.2.2.2.2.2) (cwV 4 hts gX5_take_X5_hear rfl rfl rfl (by decide +kernel) ⟨Nat.le_of_ble_eq_true rfl, Nat.le_of_ble_eq_true rfl⟩) rfl rfl rfl rfl hl.1 rfl (Nat.le_of_ble_eq_true rfl) ⟨Nat.zero_le _, Nat.zero_le _⟩ dX5_take_16 (fun H locs hP hS => ?_)
  exact x_iret hx hb hr hlk hsz hP hS (nb01 (b_X5_hear _ _ _ _ _ _ _)) (by rw [r_X5_take]) (by rw [s_X5_take]) dX5_take_19
def r_X5_unlocked (σ : Sg) (cy : Int32) (ri : Int32) (wh : Int32) (n : Nat) (g : Nat) : Int32 :=
  r_X5_hearOnce σ 3 cy ri wh n g
def s_X5_unlocked (σ : Sg) (cy : Int32) (ri : Int32) (wh : Int32) (n : Nat) (g : Nat) : Sg :=
  s_X5_hearOnce σ 3 cy ri wh n g
theorem b_X5_unlocked (σ : Sg) (cy : Int32) (ri : Int32) (wh : Int32) (n : Nat) (g : Nat) : r_X5_unlocked σ cy ri wh n g = 0 ∨ r_X5_unlocked σ cy ri wh n g = 1 := by
  unfold r_X5_unlocked
  repeat' split
  all_goals first | with_reducible exact Or.inl rfl | with_reducible exact Or.inr rfl | with_reducible exact b_X5_hearOnce _ _ _ _ _ _ _
set_option maxHeartbeats 4000000 in
set_option maxRecDepth 100000 in
theorem c_X5_unlocked (l : Launch) (D : va_G) (cI : ClassId) (a : Nat → Nat) (sz : Nat) (σ : Sg) (cy : Int32) (ri : Int32) (wh : Int32) (n : Nat) (g : Nat) (hc : vp_in cy 30) (hr1 : vp_in ri 10) (hv : hW σ wh) (hn : n < 300) (hcn : σ 1 4 = nI n) (hh : r_X4_tells σ 3 cy ri wh n = 0 → hearOK σ 3 cy ri wh n g) : Met l yX5_unlocked wsX5_unlocked ({ frames := 7, cells := 0, slots := 0, locals := 161 }) (PcW D cI 29 a (wX cI a) sz σ [.ref (a 0), .int cy, .int ri, .int wh]) (QiW D 29 a (wX cI a) sz (r_X5_unlocked σ cy ri wh n g) (s_X5_unlocked σ cy ri wh n g)) 0 0 (AX 29 a sz) := by
  refine x_of (cc := cX5_unlocked) (maxL := 4) (ret := some .boolean) (C := RX5) rfl (by decide) rfl (Nat.le_of_ble_eq_true rfl) (fun p e s m below meth c hx hb hr hml hlk hts hown hsz H hP hS hG ls hl => ?_)
  have hl : lv_has ls 4 [(0, .ref (a 0)), (1, .int cy), (2, .int ri), (3, .int wh)] := hl
  refine lv_iload_n hx hb dX5_unlocked_0 rfl (lv_at hl 1 rfl) ?_
  refine x_callSv (w := wX cI a) (σ := σ) (σ' := σ) (As := [.int cy]) (rest := []) ⟨hx, hb, hml, hown, hts⟩ hG hP hS hsz (c_X5_needCycle l D cI a H.size σ cy hc) (va_cwS 1 hts gX5_unlocked_X5_needCycle rfl rfl rfl (by decide +kernel) ⟨Nat.le_of_ble_eq_true rfl, Nat.le_of_ble_eq_true rfl⟩) rfl hl.1 rfl (Nat.le_of_ble_eq_true rfl) ⟨Nat.zero_le _, Nat.zero_le _⟩ dX5_unlocked_1 (fun H locs hP hS => ?_)
  refine lv_iload_n hx hb dX5_unlocked_4 rfl (lv_at hl 2 rfl) ?_
  refine x_callSv (w := wX cI a) (σ := σ) (σ' := σ) (As := [.int ri]) (rest := []) ⟨hx, hb, hml, hown, hts⟩ hG hP hS hsz (c_X5_needRider l D cI a H.size σ ri hr1) (va_cwS 1 hts gX5_unlocked_X5_needRider rfl rfl rfl (by decide +kernel) ⟨Nat.le_of_ble_eq_true rfl, Nat.le_of_ble_eq_true rfl⟩) rfl hl.1 rfl (Nat.le_of_ble_eq_true rfl) ⟨Nat.zero_le _, Nat.zero_le _⟩ dX5_unlocked_5 (fun H locs hP hS => ?_)
  refine lv_aload_n hx hb dX5_unlocked_8 rfl (lv_at hl 0 rfl) ?_
  refine lv_iload_n hx hb dX5_unlocked_9 rfl (lv_at hl 3 rfl) ?_
  refine x_callVv (w := wX cI a) (σ := σ) (σ' := σ) (As := [.int wh]) (rest := []) (q0 := 0) ⟨hx, hb, hml, hown, hts⟩ hG hP hS hsz (c_X5_needHearableMinute l D cI a H.size σ wh hv) (cwV 1 hts gX5_unlocked_X5_needHearableMinute rfl rfl rfl (by decide +kernel) ⟨Nat.le_of_ble_eq_true rfl, Nat.le_of_ble_eq_true rfl⟩) rfl rfl rfl rfl hl.1 rfl (Nat.le_of_ble_eq_true rfl) ⟨Nat.zero_le _, Nat.zero_le _⟩ dX5_unlocked_10 (fun H locs hP hS => ?_)
  refine lv_aload_n hx hb dX5_unlocked_13 rfl (lv_at hl 0 rfl) ?_
  refine x_callVv (w := wX cI a) (σ := σ) (σ' := σ) (As := []) (rest := []) (q0 := 0) ⟨hx, hb, hml, hown, hts⟩ hG hP hS hsz (c_X5_needRoom l D cI a H.size σ  (isFull0 hcn hn)) (cwV 0 hts gX5_unlocked_X5_needRoom rfl rfl rfl (by decide +kernel) ⟨Nat.le_of_ble_eq_true rfl, Nat.le_of_ble_eq_true rfl⟩) rfl rfl rfl rfl hl.1 rfl (Nat.le_of_ble_eq_true rfl) ⟨Nat.zero_le _, Nat.zero_le _⟩ dX5_unlocked_14 (fun H locs hP hS => ?_)
  refine lv_aload_n hx hb dX5_unlocked_17 rfl (lv_at hl 0 rfl) ?_
  refine lv_iconst (v := 3) hx hb dX5_unlocked_18 (by decide) ?_
  refine lv_iload_n hx hb dX5_unlocked_19 rfl (lv_at hl 1 rfl) ?_
  refine lv_iload_n hx hb dX5_unlocked_20 rfl (lv_at hl 2 rfl) ?_
  refine lv_iload_n hx hb dX5_unlocked_21 rfl (lv_at hl 3 rfl) ?_
  refine x_callVi (w := wX cI a) (σ := σ) (σ' := s_X5_hearOnce σ 3 cy ri wh n g) (As := [.int 3, .int cy, .int ri, .int wh]) (rest := []) (q0 := 0) ⟨hx, hb, hml, hown, hts⟩ hG hP hS hsz (c_X5_hearOnce l D cI a H.size σ 3 cy ri wh n g hn hcn hh) (cwV 4 hts gX5_unlocked_X5_hearOnce rfl rfl rfl (by decide +kernel) ⟨Nat.le_of_ble_eq_true rfl, Nat.le_of_ble_eq_true rfl⟩) rfl rfl rfl rfl hl.1 rfl (Nat.le_of_ble_eq_true rfl) ⟨Nat.zero_le _, Nat.zero_le _⟩ dX5_unlocked_22 (fun H locs hP hS => ?_)
  exact x_iret hx hb hr hlk hsz hP hS (nb01 (b_X5_hearOnce _ _ _ _ _ _ _)) (by rw [r_X5_unlocked]) (by rw [s_X5_unlocked]) dX5_unlocked_25
def r_X5_locked (σ : Sg) (cy : Int32) (st : Int32) (wh : Int32) (n : Nat) (g : Nat) : Int32 :=
  r_X5_hearOnce σ 4 cy st wh n g
def s_X5_locked (σ : Sg) (cy : Int32) (st : Int32) (wh : Int32) (n : Nat) (g : Nat) : Sg :=
  s_X5_hearOnce σ 4 cy st wh n g
theorem b_X5_locked (σ : Sg) (cy : Int32) (st : Int32) (wh : Int32) (n : Nat) (g : Nat) : r_X5_locked σ cy st wh n g = 0 ∨ r_X5_locked σ cy st wh n g = 1 := by
  unfold r_X5_locked
  repeat' split
  all_goals first | with_reducible exact Or.inl rfl | with_reducible exact Or.inr rfl | with_reducible exact b_X5_hearOnce _ _ _ _ _ _ _
set_option maxHeartbeats 4000000 in
set_option maxRecDepth 100000 in
theorem c_X5_locked (l : Launch) (D : va_G) (cI : ClassId) (a : Nat → Nat) (sz : Nat) (σ : Sg) (cy : Int32) (st : Int32) (wh : Int32) (n : Nat) (g : Nat) (hc : vp_in cy 30) (hs : vp_in st 8) (hv : hW σ wh) (hn : n < 300) (hcn : σ 1 4 = nI n) (hh : r_X4_tells σ 4 cy st wh n = 0 → hearOK σ 4 cy st wh n g) : Met l yX5_locked wsX5_locked ({ frames := 7, cells := 0, slots := 0, locals := 161 }) (PcW D cI 29 a (wX cI a) sz σ [.ref (a 0), .int cy, .int st, .int wh]) (QiW D 29 a (wX cI a) sz (r_X5_locked σ cy st wh n g) (s_X5_locked σ cy st wh n g)) 0 0 (AX 29 a sz) := by
  refine x_of (cc := cX5_locked) (maxL := 4) (ret := some .boolean) (C := RX5) rfl (by decide) rfl (Nat.le_of_ble_eq_true rfl) (fun p e s m below meth c hx hb hr hml hlk hts hown hsz H hP hS hG ls hl => ?_)
  have hl : lv_has ls 4 [(0, .ref (a 0)), (1, .int cy), (2, .int st), (3, .int wh)] := hl
  refine lv_iload_n hx hb dX5_locked_0 rfl (lv_at hl 1 rfl) ?_
  refine x_callSv (w := wX cI a) (σ := σ) (σ' := σ) (As := [.int cy]) (rest := []) ⟨hx, hb, hml, hown, hts⟩ hG hP hS hsz (c_X5_needCycle l D cI a H.size σ cy hc) (va_cwS 1 hts gX5_locked_X5_needCycle rfl rfl rfl (by decide +kernel) ⟨Nat.le_of_ble_eq_true rfl, Nat.le_of_ble_eq_true rfl⟩) rfl hl.1 rfl (Nat.le_of_ble_eq_true rfl) ⟨Nat.zero_le _, Nat.zero_le _⟩ dX5_locked_1 (fun H locs hP hS => ?_)
  refine lv_iload_n hx hb dX5_locked_4 rfl (lv_at hl 2 rfl) ?_
  refine x_callSv (w := wX cI a) (σ := σ) (σ' := σ) (As := [.int st]) (rest := []) ⟨hx, hb, hml, hown, hts⟩ hG hP hS hsz (c_X5_needStation l D cI a H.size σ st hs) (va_cwS 1 hts gX5_locked_X5_needStation rfl rfl rfl (by decide +kernel) ⟨Nat.le_of_ble_eq_true rfl, Nat.le_of_ble_eq_true rfl⟩) rfl hl.1 rfl (Nat.le_of_ble_eq_true rfl) ⟨Nat.zero_le _, Nat.zero_le _⟩ dX5_locked_5 (fun H locs hP hS => ?_)
  refine lv_aload_n hx hb dX5_locked_8 rfl (lv_at hl 0 rfl) ?_
  refine lv_iload_n hx hb dX5_locked_9 rfl (lv_at hl 3 rfl) ?_
  refine x_callVv (w := wX cI a) (σ := σ) (σ' := σ) (As := [.int wh]) (rest := []) (q0 := 0) ⟨hx, hb, hml, hown, hts⟩ hG hP hS hsz (c_X5_needHearableMinute l D cI a H.size σ wh hv) (cwV 1 hts gX5_locked_X5_needHearableMinute rfl rfl rfl (by decide +kernel) ⟨Nat.le_of_ble_eq_true rfl, Nat.le_of_ble_eq_true rfl⟩) rfl rfl rfl rfl hl.1 rfl (Nat.le_of_ble_eq_true rfl) ⟨Nat.zero_le _, Nat.zero_le _⟩ dX5_locked_10 (fun H locs hP hS => ?_)
  refine lv_aload_n hx hb dX5_locked_13 rfl (lv_at hl 0 rfl) ?_
  refine x_callVv (w := wX cI a) (σ := σ) (σ' := σ) (As := []) (rest := []) (q0 := 0) ⟨hx, hb, hml, hown, hts⟩ hG hP hS hsz (c_X5_needRoom l D cI a H.size σ  (isFull0 hcn hn)) (cwV 0 hts gX5_locked_X5_needRoom rfl rfl rfl (by decide +kernel) ⟨Nat.le_of_ble_eq_true rfl, Nat.le_of_ble_eq_true rfl⟩) rfl rfl rfl rfl hl.1 rfl (Nat.le_of_ble_eq_true rfl) ⟨Nat.zero_le _, Nat.zero_le _⟩ dX5_locked_14 (fun H locs hP hS => ?_)
  refine lv_aload_n hx hb dX5_locked_17 rfl (lv_at hl 0 rfl) ?_
  refine lv_iconst (v := 4) hx hb dX5_locked_18 (by decide) ?_
  refine lv_iload_n hx hb dX5_locked_19 rfl (lv_at hl 1 rfl) ?_
  refine lv_iload_n hx hb dX5_locked_20 rfl (lv_at hl 2 rfl) ?_
  refine lv_iload_n hx hb dX5_locked_21 rfl (lv_at hl 3 rfl) ?_
  refine x_callVi (w := wX cI a) (σ := σ) (σ' := s_X5_hearOnce σ 4 cy st wh n g) (As := [.int 4, .int cy, .int st, .int wh]) (rest := []) (q0 := 0) ⟨hx, hb, hml, hown, hts⟩ hG hP hS hsz (c_X5_hearOnce l D cI a H.size σ 4 cy st wh n g hn hcn hh) (cwV 4 hts gX5_locked_X5_hearOnce rfl rfl rfl (by decide +kernel) ⟨Nat.le_of_ble_eq_true rfl, Nat.le_of_ble_eq_true rfl⟩) rfl rfl rfl rfl hl.1 rfl (Nat.le_of_ble_eq_true rfl) ⟨Nat.zero_le _, Nat.zero_le _⟩ dX5_locked_22 (fun H locs hP hS => ?_)
  exact x_iret hx hb hr hlk hsz hP hS (nb01 (b_X5_hearOnce _ _ _ _ _ _ _)) (by rw [r_X5_locked]) (by rw [s_X5_locked]) dX5_locked_25
def r_X5_faulty (σ : Sg) (cy : Int32) (ri : Int32) (wh : Int32) (n : Nat) (g : Nat) : Int32 :=
  r_X5_hearOnce σ 5 cy ri wh n g
def s_X5_faulty (σ : Sg) (cy : Int32) (ri : Int32) (wh : Int32) (n : Nat) (g : Nat) : Sg :=
  s_X5_hearOnce σ 5 cy ri wh n g
theorem b_X5_faulty (σ : Sg) (cy : Int32) (ri : Int32) (wh : Int32) (n : Nat) (g : Nat) : r_X5_faulty σ cy ri wh n g = 0 ∨ r_X5_faulty σ cy ri wh n g = 1 := by
  unfold r_X5_faulty
  repeat' split
  all_goals first | with_reducible exact Or.inl rfl | with_reducible exact Or.inr rfl | with_reducible exact b_X5_hearOnce _ _ _ _ _ _ _
set_option maxHeartbeats 4000000 in
set_option maxRecDepth 100000 in
theorem c_X5_faulty (l : Launch) (D : va_G) (cI : ClassId) (a : Nat → Nat) (sz : Nat) (σ : Sg) (cy : Int32) (ri : Int32) (wh : Int32) (n : Nat) (g : Nat) (hc : vp_in cy 30) (hr1 : vp_in ri 10) (hv : hW σ wh) (hn : n < 300) (hcn : σ 1 4 = nI n) (hh : r_X4_tells σ 5 cy ri wh n = 0 → hearOK σ 5 cy ri wh n g) : Met l yX5_faulty wsX5_faulty ({ frames := 7, cells := 0, slots := 0, locals := 161 }) (PcW D cI 29 a (wX cI a) sz σ [.ref (a 0), .int cy, .int ri, .int wh]) (QiW D 29 a (wX cI a) sz (r_X5_faulty σ cy ri wh n g) (s_X5_faulty σ cy ri wh n g)) 0 0 (AX 29 a sz) := by
  refine x_of (cc := cX5_faulty) (maxL := 4) (ret := some .boolean) (C := RX5) rfl (by decide) rfl (Nat.le_of_ble_eq_true rfl) (fun p e s m below meth c hx hb hr hml hlk hts hown hsz H hP hS hG ls hl => ?_)
  have hl : lv_has ls 4 [(0, .ref (a 0)), (1, .int cy), (2, .int ri), (3, .int wh)] := hl
  refine lv_iload_n hx hb dX5_faulty_0 rfl (lv_at hl 1 rfl) ?_
  refine x_callSv (w := wX cI a) (σ := σ) (σ' := σ) (As := [.int cy]) (rest := []) ⟨hx, hb, hml, hown, hts⟩ hG hP hS hsz (c_X5_needCycle l D cI a H.size σ cy hc) (va_cwS 1 hts gX5_faulty_X5_needCycle rfl rfl rfl (by decide +kernel) ⟨Nat.le_of_ble_eq_true rfl, Nat.le_of_ble_eq_true rfl⟩) rfl hl.1 rfl (Nat.le_of_ble_eq_true rfl) ⟨Nat.zero_le _, Nat.zero_le _⟩ dX5_faulty_1 (fun H locs hP hS => ?_)
  refine lv_iload_n hx hb dX5_faulty_4 rfl (lv_at hl 2 rfl) ?_
  refine x_callSv (w := wX cI a) (σ := σ) (σ' := σ) (As := [.int ri]) (rest := []) ⟨hx, hb, hml, hown, hts⟩ hG hP hS hsz (c_X5_needRider l D cI a H.size σ ri hr1) (va_cwS 1 hts gX5_faulty_X5_needRider rfl rfl rfl (by decide +kernel) ⟨Nat.le_of_ble_eq_true rfl, Nat.le_of_ble_eq_true rfl⟩) rfl hl.1 rfl (Nat.le_of_ble_eq_true rfl) ⟨Nat.zero_le _, Nat.zero_le _⟩ dX5_faulty_5 (fun H locs hP hS => ?_)
  refine lv_aload_n hx hb dX5_faulty_8 rfl (lv_at hl 0 rfl) ?_
  refine lv_iload_n hx hb dX5_faulty_9 rfl (lv_at hl 3 rfl) ?_
  refine x_callVv (w := wX cI a) (σ := σ) (σ' := σ) (As := [.int wh]) (rest := []) (q0 := 0) ⟨hx, hb, hml, hown, hts⟩ hG hP hS hsz (c_X5_needHearableMinute l D cI a H.size σ wh hv) (cwV 1 hts gX5_faulty_X5_needHearableMinute rfl rfl rfl (by decide +kernel) ⟨Nat.le_of_ble_eq_true rfl, Nat.le_of_ble_eq_true rfl⟩) rfl rfl rfl rfl hl.1 rfl (Nat.le_of_ble_eq_true rfl) ⟨Nat.zero_le _, Nat.zero_le _⟩ dX5_faulty_10 (fun H locs hP hS => ?_)
  refine lv_aload_n hx hb dX5_faulty_13 rfl (lv_at hl 0 rfl) ?_
  refine x_callVv (w := wX cI a) (σ := σ) (σ' := σ) (As := []) (rest := []) (q0 := 0) ⟨hx, hb, hml, hown, hts⟩ hG hP hS hsz (c_X5_needRoom l D cI a H.size σ  (isFull0 hcn hn)) (cwV 0 hts gX5_faulty_X5_needRoom rfl rfl rfl (by decide +kernel) ⟨Nat.le_of_ble_eq_true rfl, Nat.le_of_ble_eq_true rfl⟩) rfl rfl rfl rfl hl.1 rfl (Nat.le_of_ble_eq_true rfl) ⟨Nat.zero_le _, Nat.zero_le _⟩ dX5_faulty_14 (fun H locs hP hS => ?_)
  refine lv_aload_n hx hb dX5_faulty_17 rfl (lv_at hl 0 rfl) ?_
  refine lv_iconst (v := 5) hx hb dX5_faulty_18 (by decide) ?_
  refine lv_iload_n hx hb dX5_faulty_19 rfl (lv_at hl 1 rfl) ?_
  refine lv_iload_n hx hb dX5_faulty_20 rfl (lv_at hl 2 rfl) ?_
  refine lv_iload_n hx hb dX5_faulty_21 rfl (lv_at hl 3 rfl) ?_
  refine x_callVi (w := wX cI a) (σ := σ) (σ' := s_X5_hearOnce σ 5 cy ri wh n g) (As := [.int 5, .int cy, .int ri, .int wh]) (rest := []) (q0 := 0) ⟨hx, hb, hml, hown, hts⟩ hG hP hS hsz (c_X5_hearOnce l D cI a H.size σ 5 cy ri wh n g hn hcn hh) (cwV 4 hts gX5_faulty_X5_hearOnce rfl rfl rfl (by decide +kernel) ⟨Nat.le_of_ble_eq_true rfl, Nat.le_of_ble_eq_true rfl⟩) rfl rfl rfl rfl hl.1 rfl (Nat.le_of_ble_eq_true rfl) ⟨Nat.zero_le _, Nat.zero_le _⟩ dX5_faulty_22 (fun H locs hP hS => ?_)
  exact x_iret hx hb hr hlk hsz hP hS (nb01 (b_X5_hearOnce _ _ _ _ _ _ _)) (by rw [r_X5_faulty]) (by rw [s_X5_faulty]) dX5_faulty_25
theorem in_X5_mend_5 : ∀ wd ∈ u_ws RX5 TX5 9, wd ∈ wsX5_mend := by decide +kernel
def r_X5_mend (σ : Sg) (cy : Int32) (n : Nat) (g : Nat) : Int32 :=
  r_X5_hear σ 6 cy (-1) (σ 0 5) n g
def s_X5_mend (σ : Sg) (cy : Int32) (n : Nat) (g : Nat) : Sg :=
  s_X5_hear σ 6 cy (-1) (σ 0 5) n g
theorem b_X5_mend (σ : Sg) (cy : Int32) (n : Nat) (g : Nat) : r_X5_mend σ cy n g = 0 ∨ r_X5_mend σ cy n g = 1 := by
  unfold r_X5_mend
  repeat' split
  all_goals first | with_reducible exact Or.inl rfl | with_reducible exact Or.inr rfl | with_reducible exact b_X5_hear _ _ _ _ _ _ _
set_option maxHeartbeats 4000000 in
set_option maxRecDepth 100000 in
theorem c_X5_mend (l : Launch) (D : va_G) (cI : ClassId) (a : Nat → Nat) (sz : Nat) (σ : Sg) (cy : Int32) (n : Nat) (g : Nat) (hc : vp_in cy 30) (hn : n < 300) (hcn : σ 1 4 = nI n) (hh : hearOK σ 6 cy (-1) (σ 0 5) n g) : Met l yX5_mend wsX5_mend ({ frames := 6, cells := 0, slots := 0, locals := 137 }) (PcW D cI 29 a (wX cI a) sz σ [.ref (a 0), .int cy]) (QiW D 29 a (wX cI a) sz (r_X5_mend σ cy n g) (s_X5_mend σ cy n g)) 0 0 (AX 29 a sz) := by
  refine x_of (cc := cX5_mend) (maxL := 2) (ret := some .boolean) (C := RX5) rfl (by decide) rfl (Nat.le_of_ble_eq_true rfl) (fun p e s m below meth c hx hb hr hml hlk hts hown hsz H hP hS hG ls hl => ?_)
  have hl : lv_has ls 2 [(0, .ref (a 0)), (1, .int cy)] := hl
  refine lv_iload_n hx hb dX5_mend_0 rfl (lv_at hl 1 rfl) ?_
  refine x_callSv (w := wX cI a) (σ := σ) (σ' := σ) (As := [.int cy]) (rest := []) ⟨hx, hb, hml, hown, hts⟩ hG hP hS hsz (c_X5_needCycle l D cI a H.size σ cy hc) (va_cwS 1 hts gX5_mend_X5_needCycle rfl rfl rfl (by decide +kernel) ⟨Nat.le_of_ble_eq_true rfl, Nat.le_of_ble_eq_true rfl⟩) rfl hl.1 rfl (Nat.le_of_ble_eq_true rfl) ⟨Nat.zero_le _, Nat.zero_le _⟩ dX5_mend_1 (fun H locs hP hS => ?_)
  refine lv_aload_n hx hb dX5_mend_4 rfl (lv_at hl 0 rfl) ?_
  refine x_callVv (w := wX cI a) (σ := σ) (σ' := σ) (As := []) (rest := []) (q0 := 0) ⟨hx, hb, hml, hown, hts⟩ hG hP hS hsz (c_X5_needRoom l D cI a H.size σ  (isFull0 hcn hn)) (cwV 0 hts gX5_mend_X5_needRoom rfl rfl rfl (by decide +kernel) ⟨Nat.le_of_ble_eq_true rfl, Nat.le_of_ble_eq_true rfl⟩) rfl rfl rfl rfl hl.1 rfl (Nat.le_of_ble_eq_true rfl) ⟨Nat.zero_le _, Nat.zero_le _⟩ dX5_mend_5 (fun H locs hP hS => ?_)
  refine lv_aload_n hx hb dX5_mend_8 rfl (lv_at hl 0 rfl) ?_
  refine lv_bipush (v := 6) hx hb dX5_mend_9 (by decide) ?_
  refine lv_iload_n hx hb dX5_mend_11 rfl (lv_at hl 1 rfl) ?_
  refine lv_iconst (v := (-1)) hx hb dX5_mend_12 (by decide) ?_
  refine lv_aload_n hx hb dX5_mend_13 rfl (lv_at hl 0 rfl) ?_
  refine x_get (ci := 5) (C := RX5) (T := TX5) (M := 9) (v := .int (σ 0 5)) hx hb hts in_X5_mend_5 hown hG hP 0 rfl rfl 5 (by decide) (List.mem_of_getElem? (i := 1) rfl) rfl rfl dX5_mend_14 ?_
  refine x_callVi (w := wX cI a) (σ := σ) (σ' := s_X5_hear σ 6 cy (-1) (σ 0 5) n g) (As := [.int 6, .int cy, .int (-1), .int (σ 0 5)]) (rest := []) (q0 := 0) ⟨hx, hb, hml, hown, hts⟩ hG hP hS hsz (c_X5_hear l D cI a H.size σ 6 cy (-1) (σ 0 5) n g hn hcn hh.1 hh.2.1 hh.2.2.1 hh.2.2.2.1 hh.2.2.2.2.1 hh.2.2.2.2.2.1 hh.2.2.2.2.2.2) (cwV 4 hts gX5_mend_X5_hear rfl rfl rfl (by decide +kernel) ⟨Nat.le_of_ble_eq_true rfl, Nat.le_of_ble_eq_true rfl⟩) rfl rfl rfl rfl hl.1 rfl (Nat.le_of_ble_eq_true rfl) ⟨Nat.zero_le _, Nat.zero_le _⟩ dX5_mend_17 (fun H locs hP hS => ?_)
  exact x_iret hx hb hr hlk hsz hP hS (nb01 (b_X5_hear _ _ _ _ _ _ _)) (by rw [r_X5_mend]) (by rw [s_X5_mend]) dX5_mend_20
theorem in_X5_price_5 : ∀ wd ∈ u_ws RX5 TX5 9, wd ∈ wsX5_price := by decide +kernel
def s_X5_price (σ : Sg) (pr : Int32) (n : Nat) (g : Nat) : Sg :=
  s_X5_hear σ 7 pr (-1) (σ 0 5) n g
set_option maxHeartbeats 4000000 in
set_option maxRecDepth 100000 in
theorem c_X5_price (l : Launch) (D : va_G) (cI : ClassId) (a : Nat → Nat) (sz : Nat) (σ : Sg) (pr : Int32) (n : Nat) (g : Nat) (hu1 : (¬ pr < 0 ∧ pr ≤ 99)) (hn : n < 300) (hcn : σ 1 4 = nI n) (hh : hearOK σ 7 pr (-1) (σ 0 5) n g) : Met l yX5_price wsX5_price ({ frames := 6, cells := 0, slots := 0, locals := 137 }) (PcW D cI 29 a (wX cI a) sz σ [.ref (a 0), .int pr]) (QvW D 29 a (wX cI a) sz (s_X5_price σ pr n g)) 0 0 (AX 29 a sz) := by
  refine x_of (cc := cX5_price) (maxL := 2) (ret := none) (C := RX5) rfl (by decide) rfl (Nat.le_of_ble_eq_true rfl) (fun p e s m below meth c hx hb hr hml hlk hts hown hsz H hP hS hG ls hl => ?_)
  have hl : lv_has ls 2 [(0, .ref (a 0)), (1, .int pr)] := hl
  refine lv_iload_n hx hb dX5_price_0 rfl (lv_at hl 1 rfl) ?_
  refine lv_bipush (v := 99) hx hb dX5_price_1 (by decide) ?_
  refine x_callSv (w := wX cI a) (σ := σ) (σ' := σ) (As := [.int pr, .int 99]) (rest := []) ⟨hx, hb, hml, hown, hts⟩ hG hP hS hsz (c_X5_needUpTo l D cI a H.size σ pr 99 hu1) (va_cwS 2 hts gX5_price_X5_needUpTo rfl rfl rfl (by decide +kernel) ⟨Nat.le_of_ble_eq_true rfl, Nat.le_of_ble_eq_true rfl⟩) rfl hl.1 rfl (Nat.le_of_ble_eq_true rfl) ⟨Nat.zero_le _, Nat.zero_le _⟩ dX5_price_3 (fun H locs hP hS => ?_)
  refine lv_aload_n hx hb dX5_price_6 rfl (lv_at hl 0 rfl) ?_
  refine x_callVv (w := wX cI a) (σ := σ) (σ' := σ) (As := []) (rest := []) (q0 := 0) ⟨hx, hb, hml, hown, hts⟩ hG hP hS hsz (c_X5_needRoom l D cI a H.size σ  (isFull0 hcn hn)) (cwV 0 hts gX5_price_X5_needRoom rfl rfl rfl (by decide +kernel) ⟨Nat.le_of_ble_eq_true rfl, Nat.le_of_ble_eq_true rfl⟩) rfl rfl rfl rfl hl.1 rfl (Nat.le_of_ble_eq_true rfl) ⟨Nat.zero_le _, Nat.zero_le _⟩ dX5_price_7 (fun H locs hP hS => ?_)
  refine lv_aload_n hx hb dX5_price_10 rfl (lv_at hl 0 rfl) ?_
  refine lv_bipush (v := 7) hx hb dX5_price_11 (by decide) ?_
  refine lv_iload_n hx hb dX5_price_13 rfl (lv_at hl 1 rfl) ?_
  refine lv_iconst (v := (-1)) hx hb dX5_price_14 (by decide) ?_
  refine lv_aload_n hx hb dX5_price_15 rfl (lv_at hl 0 rfl) ?_
  refine x_get (ci := 5) (C := RX5) (T := TX5) (M := 9) (v := .int (σ 0 5)) hx hb hts in_X5_price_5 hown hG hP 0 rfl rfl 5 (by decide) (List.mem_of_getElem? (i := 1) rfl) rfl rfl dX5_price_16 ?_
  refine x_callVi (w := wX cI a) (σ := σ) (σ' := s_X5_hear σ 7 pr (-1) (σ 0 5) n g) (As := [.int 7, .int pr, .int (-1), .int (σ 0 5)]) (rest := []) (q0 := 0) ⟨hx, hb, hml, hown, hts⟩ hG hP hS hsz (c_X5_hear l D cI a H.size σ 7 pr (-1) (σ 0 5) n g hn hcn hh.1 hh.2.1 hh.2.2.1 hh.2.2.2.1 hh.2.2.2.2.1 hh.2.2.2.2.2.1 hh.2.2.2.2.2.2) (cwV 4 hts gX5_price_X5_hear rfl rfl rfl (by decide +kernel) ⟨Nat.le_of_ble_eq_true rfl, Nat.le_of_ble_eq_true rfl⟩) rfl rfl rfl rfl hl.1 rfl (Nat.le_of_ble_eq_true rfl) ⟨Nat.zero_le _, Nat.zero_le _⟩ dX5_price_19 (fun H locs hP hS => ?_)
  refine lv_pop hx hb dX5_price_22 rfl ?_
  exact x_vret hx hb hr hlk hsz hP hS (by rw [s_X5_price]) dX5_price_23
theorem in_X5_promise_5 : ∀ wd ∈ u_ws RX5 TX5 9, wd ∈ wsX5_promise := by decide +kernel
def r_X5_promise (σ : Sg) (ri : Int32) (st : Int32) (n : Nat) (g : Nat) : Int32 :=
  r_X5_hear σ 8 ri st (σ 0 5) n g
def s_X5_promise (σ : Sg) (ri : Int32) (st : Int32) (n : Nat) (g : Nat) : Sg :=
  s_X5_hear σ 8 ri st (σ 0 5) n g
theorem b_X5_promise (σ : Sg) (ri : Int32) (st : Int32) (n : Nat) (g : Nat) : r_X5_promise σ ri st n g = 0 ∨ r_X5_promise σ ri st n g = 1 := by
  unfold r_X5_promise
  repeat' split
  all_goals first | with_reducible exact Or.inl rfl | with_reducible exact Or.inr rfl | with_reducible exact b_X5_hear _ _ _ _ _ _ _
set_option maxHeartbeats 4000000 in
set_option maxRecDepth 100000 in
theorem c_X5_promise (l : Launch) (D : va_G) (cI : ClassId) (a : Nat → Nat) (sz : Nat) (σ : Sg) (ri : Int32) (st : Int32) (n : Nat) (g : Nat) (hr1 : vp_in ri 10) (hs : vp_in st 8) (hn : n < 300) (hcn : σ 1 4 = nI n) (hh : hearOK σ 8 ri st (σ 0 5) n g) : Met l yX5_promise wsX5_promise ({ frames := 6, cells := 0, slots := 0, locals := 137 }) (PcW D cI 29 a (wX cI a) sz σ [.ref (a 0), .int ri, .int st]) (QiW D 29 a (wX cI a) sz (r_X5_promise σ ri st n g) (s_X5_promise σ ri st n g)) 0 0 (AX 29 a sz) := by
  refine x_of (cc := cX5_promise) (maxL := 3) (ret := some .boolean) (C := RX5) rfl (by decide) rfl (Nat.le_of_ble_eq_true rfl) (fun p e s m below meth c hx hb hr hml hlk hts hown hsz H hP hS hG ls hl => ?_)
  have hl : lv_has ls 3 [(0, .ref (a 0)), (1, .int ri), (2, .int st)] := hl
  refine lv_iload_n hx hb dX5_promise_0 rfl (lv_at hl 1 rfl) ?_
  refine x_callSv (w := wX cI a) (σ := σ) (σ' := σ) (As := [.int ri]) (rest := []) ⟨hx, hb, hml, hown, hts⟩ hG hP hS hsz (c_X5_needRider l D cI a H.size σ ri hr1) (va_cwS 1 hts gX5_promise_X5_needRider rfl rfl rfl (by decide +kernel) ⟨Nat.le_of_ble_eq_true rfl, Nat.le_of_ble_eq_true rfl⟩) rfl hl.1 rfl (Nat.le_of_ble_eq_true rfl) ⟨Nat.zero_le _, Nat.zero_le _⟩ dX5_promise_1 (fun H locs hP hS => ?_)
  refine lv_iload_n hx hb dX5_promise_4 rfl (lv_at hl 2 rfl) ?_
  refine x_callSv (w := wX cI a) (σ := σ) (σ' := σ) (As := [.int st]) (rest := []) ⟨hx, hb, hml, hown, hts⟩ hG hP hS hsz (c_X5_needStation l D cI a H.size σ st hs) (va_cwS 1 hts gX5_promise_X5_needStation rfl rfl rfl (by decide +kernel) ⟨Nat.le_of_ble_eq_true rfl, Nat.le_of_ble_eq_true rfl⟩) rfl hl.1 rfl (Nat.le_of_ble_eq_true rfl) ⟨Nat.zero_le _, Nat.zero_le _⟩ dX5_promise_5 (fun H locs hP hS => ?_)
  refine lv_aload_n hx hb dX5_promise_8 rfl (lv_at hl 0 rfl) ?_
  refine x_callVv (w := wX cI a) (σ := σ) (σ' := σ) (As := []) (rest := []) (q0 := 0) ⟨hx, hb, hml, hown, hts⟩ hG hP hS hsz (c_X5_needRoom l D cI a H.size σ  (isFull0 hcn hn)) (cwV 0 hts gX5_promise_X5_needRoom rfl rfl rfl (by decide +kernel) ⟨Nat.le_of_ble_eq_true rfl, Nat.le_of_ble_eq_true rfl⟩) rfl rfl rfl rfl hl.1 rfl (Nat.le_of_ble_eq_true rfl) ⟨Nat.zero_le _, Nat.zero_le _⟩ dX5_promise_9 (fun H locs hP hS => ?_)
  refine lv_aload_n hx hb dX5_promise_12 rfl (lv_at hl 0 rfl) ?_
  refine lv_bipush (v := 8) hx hb dX5_promise_13 (by decide) ?_
  refine lv_iload_n hx hb dX5_promise_15 rfl (lv_at hl 1 rfl) ?_
  refine lv_iload_n hx hb dX5_promise_16 rfl (lv_at hl 2 rfl) ?_
  refine lv_aload_n hx hb dX5_promise_17 rfl (lv_at hl 0 rfl) ?_
  refine x_get (ci := 5) (C := RX5) (T := TX5) (M := 9) (v := .int (σ 0 5)) hx hb hts in_X5_promise_5 hown hG hP 0 rfl rfl 5 (by decide) (List.mem_of_getElem? (i := 1) rfl) rfl rfl dX5_promise_18 ?_
  refine x_callVi (w := wX cI a) (σ := σ) (σ' := s_X5_hear σ 8 ri st (σ 0 5) n g) (As := [.int 8, .int ri, .int st, .int (σ 0 5)]) (rest := []) (q0 := 0) ⟨hx, hb, hml, hown, hts⟩ hG hP hS hsz (c_X5_hear l D cI a H.size σ 8 ri st (σ 0 5) n g hn hcn hh.1 hh.2.1 hh.2.2.1 hh.2.2.2.1 hh.2.2.2.2.1 hh.2.2.2.2.2.1 hh.2.2.2.2.2.2) (cwV 4 hts gX5_promise_X5_hear rfl rfl rfl (by decide +kernel) ⟨Nat.le_of_ble_eq_true rfl, Nat.le_of_ble_eq_true rfl⟩) rfl rfl rfl rfl hl.1 rfl (Nat.le_of_ble_eq_true rfl) ⟨Nat.zero_le _, Nat.zero_le _⟩ dX5_promise_21 (fun H locs hP hS => ?_)
  exact x_iret hx hb hr hlk hsz hP hS (nb01 (b_X5_hear _ _ _ _ _ _ _)) (by rw [r_X5_promise]) (by rw [s_X5_promise]) dX5_promise_24
theorem in_X5_cycle_0 : ∀ wd ∈ u_ws RX0 TX0 7, wd ∈ wsX5_cycle := by decide +kernel
theorem in_X5_cycle_5 : ∀ wd ∈ u_ws RX5 TX5 9, wd ∈ wsX5_cycle := by decide +kernel
def r_X5_cycle (σ : Sg) (cy : Int32) (its : Int32) : Int32 :=
  if its = 0 then
    σ 16 cy.toNatClampNeg
  else
    if its = 1 then
      σ 17 cy.toNatClampNeg
    else
      if its = 2 then
        if r_X0_isBlocked σ cy = 0 then
          0
        else
          1
      else
        if its = 3 then
          (σ 19 cy.toNatClampNeg) + (r_X0_minutesGoingOn σ cy (σ 0 5))
        else
          0
set_option maxHeartbeats 4000000 in
set_option maxRecDepth 100000 in
theorem c_X5_cycle (l : Launch) (D : va_G) (cI : ClassId) (a : Nat → Nat) (sz : Nat) (σ : Sg) (cy : Int32) (its : Int32) (hc : vp_in cy 30) (hw4 : vp_in its 4) : Met l yX5_cycle wsX5_cycle ({ frames := 2, cells := 0, slots := 0, locals := 41 }) (PcW D cI 29 a (wX cI a) sz σ [.ref (a 0), .int cy, .int its]) (QiW D 29 a (wX cI a) sz (r_X5_cycle σ cy its) σ) 0 0 (AX 29 a sz) := by
  refine x_of (cc := cX5_cycle) (maxL := 3) (ret := some .int) (C := RX5) rfl (by decide) rfl (Nat.le_of_ble_eq_true rfl) (fun p e s m below meth c hx hb hr hml hlk hts hown hsz H hP hS hG ls hl => ?_)
  have hl : lv_has ls 3 [(0, .ref (a 0)), (1, .int cy), (2, .int its)] := hl
  refine lv_iload_n hx hb dX5_cycle_0 rfl (lv_at hl 1 rfl) ?_
  refine x_callSv (w := wX cI a) (σ := σ) (σ' := σ) (As := [.int cy]) (rest := []) ⟨hx, hb, hml, hown, hts⟩ hG hP hS hsz (c_X5_needCycle l D cI a H.size σ cy hc) (va_cwS 1 hts gX5_cycle_X5_needCycle rfl rfl rfl (by decide +kernel) ⟨Nat.le_of_ble_eq_true rfl, Nat.le_of_ble_eq_true rfl⟩) rfl hl.1 rfl (Nat.le_of_ble_eq_true rfl) ⟨Nat.zero_le _, Nat.zero_le _⟩ dX5_cycle_1 (fun H locs hP hS => ?_)
  refine lv_iload_n hx hb dX5_cycle_4 rfl (lv_at hl 2 rfl) ?_
  by_cases h_1 : its = 0
  · refine x_swin (off := 31) (tgt := 36) hx hb h_1 dX5_cycle_5 (by decide) (by decide) (by decide) (by decide) ?_
    refine lv_aload_n hx hb dX5_cycle_36 rfl (lv_at hl 0 rfl) ?_
    refine x_get (ci := 5) (C := RX5) (T := TX5) (M := 9) (v := .ref (a 4)) hx hb hts in_X5_cycle_5 hown hG hP 0 rfl rfl 3 (by decide) (List.mem_of_getElem? (i := 3) rfl) rfl rfl dX5_cycle_37 ?_
    refine x_get (ci := 0) (C := RX0) (T := TX0) (M := 7) (v := .ref (a 16)) hx hb hts in_X5_cycle_0 hown hG hP 4 rfl rfl 0 (by decide) (List.mem_of_getElem? (i := 4) rfl) rfl rfl dX5_cycle_40 ?_
    refine lv_iload_n hx hb dX5_cycle_43 rfl (lv_at hl 1 rfl) ?_
    refine x_iald (f := σ 16) hx hb hG hP 16 rfl (by assumption) dX5_cycle_44 ?_
    exact x_iret hx hb hr hlk hsz hP hS rfl (by rw [r_X5_cycle, if_pos h_1]) rfl dX5_cycle_45
  by_cases h_2 : its = 1
  · refine x_swin (off := 41) (tgt := 46) hx hb h_2 dX5_cycle_5 (by decide) (by decide) (by decide) (by decide) ?_
    refine lv_aload_n hx hb dX5_cycle_46 rfl (lv_at hl 0 rfl) ?_
    refine x_get (ci := 5) (C := RX5) (T := TX5) (M := 9) (v := .ref (a 4)) hx hb hts in_X5_cycle_5 hown hG hP 0 rfl rfl 3 (by decide) (List.mem_of_getElem? (i := 3) rfl) rfl rfl dX5_cycle_47 ?_
    refine x_get (ci := 0) (C := RX0) (T := TX0) (M := 7) (v := .ref (a 17)) hx hb hts in_X5_cycle_0 hown hG hP 4 rfl rfl 1 (by decide) (List.mem_of_getElem? (i := 5) rfl) rfl rfl dX5_cycle_50 ?_
    refine lv_iload_n hx hb dX5_cycle_53 rfl (lv_at hl 1 rfl) ?_
    refine x_iald (f := σ 17) hx hb hG hP 17 rfl (by assumption) dX5_cycle_54 ?_
    exact x_iret hx hb hr hlk hsz hP hS rfl (by rw [r_X5_cycle, if_pos h_2, if_neg h_1]) rfl dX5_cycle_55
  by_cases h_3 : its = 2
  · refine x_swin (off := 51) (tgt := 56) hx hb h_3 dX5_cycle_5 (by decide) (by decide) (by decide) (by decide) ?_
    refine lv_aload_n hx hb dX5_cycle_56 rfl (lv_at hl 0 rfl) ?_
    refine x_get (ci := 5) (C := RX5) (T := TX5) (M := 9) (v := .ref (a 4)) hx hb hts in_X5_cycle_5 hown hG hP 0 rfl rfl 3 (by decide) (List.mem_of_getElem? (i := 3) rfl) rfl rfl dX5_cycle_57 ?_
    refine lv_iload_n hx hb dX5_cycle_60 rfl (lv_at hl 1 rfl) ?_
    refine x_callVi (w := wX cI a) (σ := σ) (σ' := σ) (As := [.int cy]) (rest := []) (q0 := 4) ⟨hx, hb, hml, hown, hts⟩ hG hP hS hsz (c_X0_isBlocked l D cI a H.size σ cy (by assumption)) (cwV 1 hts gX5_cycle_X0_isBlocked rfl rfl rfl (by decide +kernel) ⟨Nat.le_of_ble_eq_true rfl, Nat.le_of_ble_eq_true rfl⟩) rfl rfl rfl rfl hl.1 rfl (Nat.le_of_ble_eq_true rfl) ⟨Nat.zero_le _, Nat.zero_le _⟩ dX5_cycle_61 (fun H locs hP hS => ?_)
    refine lv_if_eq (tgt := 71) hx hb dX5_cycle_64 (by decide) (fun h_4 => ?_) (fun h_4 => ?_)
    · refine lv_iconst (v := 0) hx hb dX5_cycle_71 (by decide) ?_
      exact x_iret hx hb hr hlk hsz hP hS rfl (by rw [r_X5_cycle, if_pos h_3, if_neg h_1, if_neg h_2, if_pos h_4]) rfl dX5_cycle_72
    · refine lv_iconst (v := 1) hx hb dX5_cycle_67 (by decide) ?_
      refine lv_goto (tgt := 72) hx hb dX5_cycle_68 (by decide) ?_
      exact x_iret hx hb hr hlk hsz hP hS rfl (by rw [r_X5_cycle, if_pos h_3, if_neg h_1, if_neg h_2, if_neg h_4]) rfl dX5_cycle_72
  by_cases h_5 : its = 3
  · refine x_swin (off := 68) (tgt := 73) hx hb h_5 dX5_cycle_5 (by decide) (by decide) (by decide) (by decide) ?_
    refine lv_aload_n hx hb dX5_cycle_73 rfl (lv_at hl 0 rfl) ?_
    refine x_get (ci := 5) (C := RX5) (T := TX5) (M := 9) (v := .ref (a 4)) hx hb hts in_X5_cycle_5 hown hG hP 0 rfl rfl 3 (by decide) (List.mem_of_getElem? (i := 3) rfl) rfl rfl dX5_cycle_74 ?_
    refine x_get (ci := 0) (C := RX0) (T := TX0) (M := 7) (v := .ref (a 19)) hx hb hts in_X5_cycle_0 hown hG hP 4 rfl rfl 3 (by decide) (List.mem_of_getElem? (i := 6) rfl) rfl rfl dX5_cycle_77 ?_
    refine lv_iload_n hx hb dX5_cycle_80 rfl (lv_at hl 1 rfl) ?_
    refine x_iald (f := σ 19) hx hb hG hP 19 rfl (by assumption) dX5_cycle_81 ?_
    refine lv_aload_n hx hb dX5_cycle_82 rfl (lv_at hl 0 rfl) ?_
    refine x_get (ci := 5) (C := RX5) (T := TX5) (M := 9) (v := .ref (a 4)) hx hb hts in_X5_cycle_5 hown hG hP 0 rfl rfl 3 (by decide) (List.mem_of_getElem? (i := 3) rfl) rfl rfl dX5_cycle_83 ?_
    refine lv_iload_n hx hb dX5_cycle_86 rfl (lv_at hl 1 rfl) ?_
    refine lv_aload_n hx hb dX5_cycle_87 rfl (lv_at hl 0 rfl) ?_
    refine x_get (ci := 5) (C := RX5) (T := TX5) (M := 9) (v := .int (σ 0 5)) hx hb hts in_X5_cycle_5 hown hG hP 0 rfl rfl 5 (by decide) (List.mem_of_getElem? (i := 7) rfl) rfl rfl dX5_cycle_88 ?_
    refine x_callVi (w := wX cI a) (σ := σ) (σ' := σ) (As := [.int cy, .int (σ 0 5)]) (rest := [.int (σ 19 cy.toNatClampNeg)]) (q0 := 4) ⟨hx, hb, hml, hown, hts⟩ hG hP hS hsz (c_X0_minutesGoingOn l D cI a H.size σ cy (σ 0 5) (by assumption)) (cwV 2 hts gX5_cycle_X0_minutesGoingOn rfl rfl rfl (by decide +kernel) ⟨Nat.le_of_ble_eq_true rfl, Nat.le_of_ble_eq_true rfl⟩) rfl rfl rfl rfl hl.1 rfl (Nat.le_of_ble_eq_true rfl) ⟨Nat.zero_le _, Nat.zero_le _⟩ dX5_cycle_91 (fun H locs hP hS => ?_)
    refine lv_iadd hx hb dX5_cycle_94 ?_
    exact x_iret hx hb hr hlk hsz hP hS rfl (by rw [r_X5_cycle, if_pos h_5, if_neg h_1, if_neg h_2, if_neg h_3]) rfl dX5_cycle_95
  exact (sw4 hw4 h_1 h_2 h_3 h_5).elim
theorem in_X5_station_3 : ∀ wd ∈ u_ws RX3 TX3 4, wd ∈ wsX5_station := by decide +kernel
theorem in_X5_station_5 : ∀ wd ∈ u_ws RX5 TX5 9, wd ∈ wsX5_station := by decide +kernel
def r_X5_station (σ : Sg) (st : Int32) (its : Int32) : Int32 :=
  if its = 0 then
    σ 13 st.toNatClampNeg
  else
    if its = 1 then
      σ 14 st.toNatClampNeg
    else
      if its = 2 then
        r_X3_freePlaces σ st
      else
        if its = 3 then
          r_X2_promisesAt σ st (-1) (σ 0 5)
        else
          if its = 4 then
            r_X3_emptyMinutes σ st (σ 0 5)
          else
            0
set_option maxHeartbeats 4000000 in
set_option maxRecDepth 100000 in
theorem c_X5_station (l : Launch) (D : va_G) (cI : ClassId) (a : Nat → Nat) (sz : Nat) (σ : Sg) (st : Int32) (its : Int32) (hs : vp_in st 8) (hw5 : vp_in its 5) : Met l yX5_station wsX5_station ({ frames := 2, cells := 0, slots := 0, locals := 47 }) (PcW D cI 29 a (wX cI a) sz σ [.ref (a 0), .int st, .int its]) (QiW D 29 a (wX cI a) sz (r_X5_station σ st its) σ) 0 0 (AX 29 a sz) := by
  refine x_of (cc := cX5_station) (maxL := 3) (ret := some .int) (C := RX5) rfl (by decide) rfl (Nat.le_of_ble_eq_true rfl) (fun p e s m below meth c hx hb hr hml hlk hts hown hsz H hP hS hG ls hl => ?_)
  have hl : lv_has ls 3 [(0, .ref (a 0)), (1, .int st), (2, .int its)] := hl
  refine lv_iload_n hx hb dX5_station_0 rfl (lv_at hl 1 rfl) ?_
  refine x_callSv (w := wX cI a) (σ := σ) (σ' := σ) (As := [.int st]) (rest := []) ⟨hx, hb, hml, hown, hts⟩ hG hP hS hsz (c_X5_needStation l D cI a H.size σ st hs) (va_cwS 1 hts gX5_station_X5_needStation rfl rfl rfl (by decide +kernel) ⟨Nat.le_of_ble_eq_true rfl, Nat.le_of_ble_eq_true rfl⟩) rfl hl.1 rfl (Nat.le_of_ble_eq_true rfl) ⟨Nat.zero_le _, Nat.zero_le _⟩ dX5_station_1 (fun H locs hP hS => ?_)
  refine lv_iload_n hx hb dX5_station_4 rfl (lv_at hl 2 rfl) ?_
  by_cases h_1 : its = 0
  · refine x_swin (off := 35) (tgt := 40) hx hb h_1 dX5_station_5 (by decide) (by decide) (by decide) (by decide) ?_
    refine lv_aload_n hx hb dX5_station_40 rfl (lv_at hl 0 rfl) ?_
    refine x_get (ci := 5) (C := RX5) (T := TX5) (M := 9) (v := .ref (a 3)) hx hb hts in_X5_station_5 hown hG hP 0 rfl rfl 2 (by decide) (List.mem_of_getElem? (i := 3) rfl) rfl rfl dX5_station_41 ?_
    refine x_get (ci := 3) (C := RX3) (T := TX3) (M := 4) (v := .ref (a 13)) hx hb hts in_X5_station_3 hown hG hP 3 rfl rfl 0 (by decide) (List.mem_of_getElem? (i := 4) rfl) rfl rfl dX5_station_44 ?_
    refine lv_iload_n hx hb dX5_station_47 rfl (lv_at hl 1 rfl) ?_
    refine x_iald (f := σ 13) hx hb hG hP 13 rfl (by assumption) dX5_station_48 ?_
    exact x_iret hx hb hr hlk hsz hP hS rfl (by rw [r_X5_station, if_pos h_1]) rfl dX5_station_49
  by_cases h_2 : its = 1
  · refine x_swin (off := 45) (tgt := 50) hx hb h_2 dX5_station_5 (by decide) (by decide) (by decide) (by decide) ?_
    refine lv_aload_n hx hb dX5_station_50 rfl (lv_at hl 0 rfl) ?_
    refine x_get (ci := 5) (C := RX5) (T := TX5) (M := 9) (v := .ref (a 3)) hx hb hts in_X5_station_5 hown hG hP 0 rfl rfl 2 (by decide) (List.mem_of_getElem? (i := 3) rfl) rfl rfl dX5_station_51 ?_
    refine x_get (ci := 3) (C := RX3) (T := TX3) (M := 4) (v := .ref (a 14)) hx hb hts in_X5_station_3 hown hG hP 3 rfl rfl 1 (by decide) (List.mem_of_getElem? (i := 5) rfl) rfl rfl dX5_station_54 ?_
    refine lv_iload_n hx hb dX5_station_57 rfl (lv_at hl 1 rfl) ?_
    refine x_iald (f := σ 14) hx hb hG hP 14 rfl (by assumption) dX5_station_58 ?_
    exact x_iret hx hb hr hlk hsz hP hS rfl (by rw [r_X5_station, if_pos h_2, if_neg h_1]) rfl dX5_station_59
  by_cases h_3 : its = 2
  · refine x_swin (off := 55) (tgt := 60) hx hb h_3 dX5_station_5 (by decide) (by decide) (by decide) (by decide) ?_
    refine lv_aload_n hx hb dX5_station_60 rfl (lv_at hl 0 rfl) ?_
    refine x_get (ci := 5) (C := RX5) (T := TX5) (M := 9) (v := .ref (a 3)) hx hb hts in_X5_station_5 hown hG hP 0 rfl rfl 2 (by decide) (List.mem_of_getElem? (i := 3) rfl) rfl rfl dX5_station_61 ?_
    refine lv_iload_n hx hb dX5_station_64 rfl (lv_at hl 1 rfl) ?_
    refine x_callVi (w := wX cI a) (σ := σ) (σ' := σ) (As := [.int st]) (rest := []) (q0 := 3) ⟨hx, hb, hml, hown, hts⟩ hG hP hS hsz (c_X3_freePlaces l D cI a H.size σ st (by assumption)) (cwV 1 hts gX5_station_X3_freePlaces rfl rfl rfl (by decide +kernel) ⟨Nat.le_of_ble_eq_true rfl, Nat.le_of_ble_eq_true rfl⟩) rfl rfl rfl rfl hl.1 rfl (Nat.le_of_ble_eq_true rfl) ⟨Nat.zero_le _, Nat.zero_le _⟩ dX5_station_65 (fun H locs hP hS => ?_)
    exact x_iret hx hb hr hlk hsz hP hS rfl (by rw [r_X5_station, if_pos h_3, if_neg h_1, if_neg h_2]) rfl dX5_station_68
  by_cases h_4 : its = 3
  · refine x_swin (off := 64) (tgt := 69) hx hb h_4 dX5_station_5 (by decide) (by decide) (by decide) (by decide) ?_
    refine lv_aload_n hx hb dX5_station_69 rfl (lv_at hl 0 rfl) ?_
    refine x_get (ci := 5) (C := RX5) (T := TX5) (M := 9) (v := .ref (a 5)) hx hb hts in_X5_station_5 hown hG hP 0 rfl rfl 4 (by decide) (List.mem_of_getElem? (i := 6) rfl) rfl rfl dX5_station_70 ?_
    refine lv_iload_n hx hb dX5_station_73 rfl (lv_at hl 1 rfl) ?_
    refine lv_iconst (v := (-1)) hx hb dX5_station_74 (by decide) ?_
    refine lv_aload_n hx hb dX5_station_75 rfl (lv_at hl 0 rfl) ?_
    refine x_get (ci := 5) (C := RX5) (T := TX5) (M := 9) (v := .int (σ 0 5)) hx hb hts in_X5_station_5 hown hG hP 0 rfl rfl 5 (by decide) (List.mem_of_getElem? (i := 7) rfl) rfl rfl dX5_station_76 ?_
    refine x_callVi (w := wX cI a) (σ := σ) (σ' := σ) (As := [.int st, .int (-1), .int (σ 0 5)]) (rest := []) (q0 := 5) ⟨hx, hb, hml, hown, hts⟩ hG hP hS hsz (c_X2_promisesAt l D cI a H.size σ st (-1) (σ 0 5)) (cwV 3 hts gX5_station_X2_promisesAt rfl rfl rfl (by decide +kernel) ⟨Nat.le_of_ble_eq_true rfl, Nat.le_of_ble_eq_true rfl⟩) rfl rfl rfl rfl hl.1 rfl (Nat.le_of_ble_eq_true rfl) ⟨Nat.zero_le _, Nat.zero_le _⟩ dX5_station_79 (fun H locs hP hS => ?_)
    exact x_iret hx hb hr hlk hsz hP hS rfl (by rw [r_X5_station, if_pos h_4, if_neg h_1, if_neg h_2, if_neg h_3]) rfl dX5_station_82
  by_cases h_5 : its = 4
  · refine x_swin (off := 78) (tgt := 83) hx hb h_5 dX5_station_5 (by decide) (by decide) (by decide) (by decide) ?_
    refine lv_aload_n hx hb dX5_station_83 rfl (lv_at hl 0 rfl) ?_
    refine x_get (ci := 5) (C := RX5) (T := TX5) (M := 9) (v := .ref (a 3)) hx hb hts in_X5_station_5 hown hG hP 0 rfl rfl 2 (by decide) (List.mem_of_getElem? (i := 3) rfl) rfl rfl dX5_station_84 ?_
    refine lv_iload_n hx hb dX5_station_87 rfl (lv_at hl 1 rfl) ?_
    refine lv_aload_n hx hb dX5_station_88 rfl (lv_at hl 0 rfl) ?_
    refine x_get (ci := 5) (C := RX5) (T := TX5) (M := 9) (v := .int (σ 0 5)) hx hb hts in_X5_station_5 hown hG hP 0 rfl rfl 5 (by decide) (List.mem_of_getElem? (i := 7) rfl) rfl rfl dX5_station_89 ?_
    refine x_callVi (w := wX cI a) (σ := σ) (σ' := σ) (As := [.int st, .int (σ 0 5)]) (rest := []) (q0 := 3) ⟨hx, hb, hml, hown, hts⟩ hG hP hS hsz (c_X3_emptyMinutes l D cI a H.size σ st (σ 0 5) (by assumption)) (cwV 2 hts gX5_station_X3_emptyMinutes rfl rfl rfl (by decide +kernel) ⟨Nat.le_of_ble_eq_true rfl, Nat.le_of_ble_eq_true rfl⟩) rfl rfl rfl rfl hl.1 rfl (Nat.le_of_ble_eq_true rfl) ⟨Nat.zero_le _, Nat.zero_le _⟩ dX5_station_92 (fun H locs hP hS => ?_)
    exact x_iret hx hb hr hlk hsz hP hS rfl (by rw [r_X5_station, if_pos h_5, if_neg h_1, if_neg h_2, if_neg h_3, if_neg h_4]) rfl dX5_station_95
  exact (sw5 hw5 h_1 h_2 h_3 h_4 h_5).elim
theorem in_X5_rider_2 : ∀ wd ∈ u_ws RX2 TX2 6, wd ∈ wsX5_rider := by decide +kernel
theorem in_X5_rider_5 : ∀ wd ∈ u_ws RX5 TX5 9, wd ∈ wsX5_rider := by decide +kernel
def r_X5_rider (σ : Sg) (ri : Int32) (its : Int32) : Int32 :=
  if its = 0 then
    σ 23 ri.toNatClampNeg
  else
    if its = 1 then
      r_X5_minutesOf σ ri
    else
      if its = 2 then
        σ 26 ri.toNatClampNeg
      else
        if its = 3 then
          ((σ 25 ri.toNatClampNeg) + (r_X5_costGoingOn σ ri)) - (σ 26 ri.toNatClampNeg)
        else
          if its = 4 then
            r_X2_promisedStation σ ri (σ 0 5)
          else
            0
set_option maxHeartbeats 4000000 in
set_option maxRecDepth 100000 in
theorem c_X5_rider (l : Launch) (D : va_G) (cI : ClassId) (a : Nat → Nat) (sz : Nat) (σ : Sg) (ri : Int32) (its : Int32) (hr1 : vp_in ri 10) (hw5 : vp_in its 5) : Met l yX5_rider wsX5_rider ({ frames := 3, cells := 0, slots := 0, locals := 59 }) (PcW D cI 29 a (wX cI a) sz σ [.ref (a 0), .int ri, .int its]) (QiW D 29 a (wX cI a) sz (r_X5_rider σ ri its) σ) 0 0 (AX 29 a sz) := by
  refine x_of (cc := cX5_rider) (maxL := 3) (ret := some .int) (C := RX5) rfl (by decide) rfl (Nat.le_of_ble_eq_true rfl) (fun p e s m below meth c hx hb hr hml hlk hts hown hsz H hP hS hG ls hl => ?_)
  have hl : lv_has ls 3 [(0, .ref (a 0)), (1, .int ri), (2, .int its)] := hl
  refine lv_iload_n hx hb dX5_rider_0 rfl (lv_at hl 1 rfl) ?_
  refine x_callSv (w := wX cI a) (σ := σ) (σ' := σ) (As := [.int ri]) (rest := []) ⟨hx, hb, hml, hown, hts⟩ hG hP hS hsz (c_X5_needRider l D cI a H.size σ ri hr1) (va_cwS 1 hts gX5_rider_X5_needRider rfl rfl rfl (by decide +kernel) ⟨Nat.le_of_ble_eq_true rfl, Nat.le_of_ble_eq_true rfl⟩) rfl hl.1 rfl (Nat.le_of_ble_eq_true rfl) ⟨Nat.zero_le _, Nat.zero_le _⟩ dX5_rider_1 (fun H locs hP hS => ?_)
  refine lv_iload_n hx hb dX5_rider_4 rfl (lv_at hl 2 rfl) ?_
  by_cases h_1 : its = 0
  · refine x_swin (off := 35) (tgt := 40) hx hb h_1 dX5_rider_5 (by decide) (by decide) (by decide) (by decide) ?_
    refine lv_aload_n hx hb dX5_rider_40 rfl (lv_at hl 0 rfl) ?_
    refine x_get (ci := 5) (C := RX5) (T := TX5) (M := 9) (v := .ref (a 5)) hx hb hts in_X5_rider_5 hown hG hP 0 rfl rfl 4 (by decide) (List.mem_of_getElem? (i := 3) rfl) rfl rfl dX5_rider_41 ?_
    refine x_get (ci := 2) (C := RX2) (T := TX2) (M := 6) (v := .ref (a 23)) hx hb hts in_X5_rider_2 hown hG hP 5 rfl rfl 0 (by decide) (List.mem_of_getElem? (i := 4) rfl) rfl rfl dX5_rider_44 ?_
    refine lv_iload_n hx hb dX5_rider_47 rfl (lv_at hl 1 rfl) ?_
    refine x_iald (f := σ 23) hx hb hG hP 23 rfl (by assumption) dX5_rider_48 ?_
    exact x_iret hx hb hr hlk hsz hP hS rfl (by rw [r_X5_rider, if_pos h_1]) rfl dX5_rider_49
  by_cases h_2 : its = 1
  · refine x_swin (off := 45) (tgt := 50) hx hb h_2 dX5_rider_5 (by decide) (by decide) (by decide) (by decide) ?_
    refine lv_aload_n hx hb dX5_rider_50 rfl (lv_at hl 0 rfl) ?_
    refine lv_iload_n hx hb dX5_rider_51 rfl (lv_at hl 1 rfl) ?_
    refine x_callVi (w := wX cI a) (σ := σ) (σ' := σ) (As := [.int ri]) (rest := []) (q0 := 0) ⟨hx, hb, hml, hown, hts⟩ hG hP hS hsz (c_X5_minutesOf l D cI a H.size σ ri (by assumption)) (cwV 1 hts gX5_rider_X5_minutesOf rfl rfl rfl (by decide +kernel) ⟨Nat.le_of_ble_eq_true rfl, Nat.le_of_ble_eq_true rfl⟩) rfl rfl rfl rfl hl.1 rfl (Nat.le_of_ble_eq_true rfl) ⟨Nat.zero_le _, Nat.zero_le _⟩ dX5_rider_52 (fun H locs hP hS => ?_)
    exact x_iret hx hb hr hlk hsz hP hS rfl (by rw [r_X5_rider, if_pos h_2, if_neg h_1]) rfl dX5_rider_55
  by_cases h_3 : its = 2
  · refine x_swin (off := 51) (tgt := 56) hx hb h_3 dX5_rider_5 (by decide) (by decide) (by decide) (by decide) ?_
    refine lv_aload_n hx hb dX5_rider_56 rfl (lv_at hl 0 rfl) ?_
    refine x_get (ci := 5) (C := RX5) (T := TX5) (M := 9) (v := .ref (a 5)) hx hb hts in_X5_rider_5 hown hG hP 0 rfl rfl 4 (by decide) (List.mem_of_getElem? (i := 3) rfl) rfl rfl dX5_rider_57 ?_
    refine x_get (ci := 2) (C := RX2) (T := TX2) (M := 6) (v := .ref (a 26)) hx hb hts in_X5_rider_2 hown hG hP 5 rfl rfl 3 (by decide) (List.mem_of_getElem? (i := 5) rfl) rfl rfl dX5_rider_60 ?_
    refine lv_iload_n hx hb dX5_rider_63 rfl (lv_at hl 1 rfl) ?_
    refine x_iald (f := σ 26) hx hb hG hP 26 rfl (by assumption) dX5_rider_64 ?_
    exact x_iret hx hb hr hlk hsz hP hS rfl (by rw [r_X5_rider, if_pos h_3, if_neg h_1, if_neg h_2]) rfl dX5_rider_65
  by_cases h_4 : its = 3
  · refine x_swin (off := 61) (tgt := 66) hx hb h_4 dX5_rider_5 (by decide) (by decide) (by decide) (by decide) ?_
    refine lv_aload_n hx hb dX5_rider_66 rfl (lv_at hl 0 rfl) ?_
    refine x_get (ci := 5) (C := RX5) (T := TX5) (M := 9) (v := .ref (a 5)) hx hb hts in_X5_rider_5 hown hG hP 0 rfl rfl 4 (by decide) (List.mem_of_getElem? (i := 3) rfl) rfl rfl dX5_rider_67 ?_
    refine x_get (ci := 2) (C := RX2) (T := TX2) (M := 6) (v := .ref (a 25)) hx hb hts in_X5_rider_2 hown hG hP 5 rfl rfl 2 (by decide) (List.mem_of_getElem? (i := 6) rfl) rfl rfl dX5_rider_70 ?_
    refine lv_iload_n hx hb dX5_rider_73 rfl (lv_at hl 1 rfl) ?_
    refine x_iald (f := σ 25) hx hb hG hP 25 rfl (by assumption) dX5_rider_74 ?_
    refine lv_aload_n hx hb dX5_rider_75 rfl (lv_at hl 0 rfl) ?_
    refine lv_iload_n hx hb dX5_rider_76 rfl (lv_at hl 1 rfl) ?_
    refine x_callVi (w := wX cI a) (σ := σ) (σ' := σ) (As := [.int ri]) (rest := [.int (σ 25 ri.toNatClampNeg)]) (q0 := 0) ⟨hx, hb, hml, hown, hts⟩ hG hP hS hsz (c_X5_costGoingOn l D cI a H.size σ ri (by assumption)) (cwV 1 hts gX5_rider_X5_costGoingOn rfl rfl rfl (by decide +kernel) ⟨Nat.le_of_ble_eq_true rfl, Nat.le_of_ble_eq_true rfl⟩) rfl rfl rfl rfl hl.1 rfl (Nat.le_of_ble_eq_true rfl) ⟨Nat.zero_le _, Nat.zero_le _⟩ dX5_rider_77 (fun H locs hP hS => ?_)
    refine lv_iadd hx hb dX5_rider_80 ?_
    refine lv_aload_n hx hb dX5_rider_81 rfl (lv_at hl 0 rfl) ?_
    refine x_get (ci := 5) (C := RX5) (T := TX5) (M := 9) (v := .ref (a 5)) hx hb hts in_X5_rider_5 hown hG hP 0 rfl rfl 4 (by decide) (List.mem_of_getElem? (i := 3) rfl) rfl rfl dX5_rider_82 ?_
    refine x_get (ci := 2) (C := RX2) (T := TX2) (M := 6) (v := .ref (a 26)) hx hb hts in_X5_rider_2 hown hG hP 5 rfl rfl 3 (by decide) (List.mem_of_getElem? (i := 5) rfl) rfl rfl dX5_rider_85 ?_
    refine lv_iload_n hx hb dX5_rider_88 rfl (lv_at hl 1 rfl) ?_
    refine x_iald (f := σ 26) hx hb hG hP 26 rfl (by assumption) dX5_rider_89 ?_
    refine lv_isub hx hb dX5_rider_90 ?_
    exact x_iret hx hb hr hlk hsz hP hS rfl (by rw [r_X5_rider, if_pos h_4, if_neg h_1, if_neg h_2, if_neg h_3]) rfl dX5_rider_91
  by_cases h_5 : its = 4
  · refine x_swin (off := 87) (tgt := 92) hx hb h_5 dX5_rider_5 (by decide) (by decide) (by decide) (by decide) ?_
    refine lv_aload_n hx hb dX5_rider_92 rfl (lv_at hl 0 rfl) ?_
    refine x_get (ci := 5) (C := RX5) (T := TX5) (M := 9) (v := .ref (a 5)) hx hb hts in_X5_rider_5 hown hG hP 0 rfl rfl 4 (by decide) (List.mem_of_getElem? (i := 3) rfl) rfl rfl dX5_rider_93 ?_
    refine lv_iload_n hx hb dX5_rider_96 rfl (lv_at hl 1 rfl) ?_
    refine lv_aload_n hx hb dX5_rider_97 rfl (lv_at hl 0 rfl) ?_
    refine x_get (ci := 5) (C := RX5) (T := TX5) (M := 9) (v := .int (σ 0 5)) hx hb hts in_X5_rider_5 hown hG hP 0 rfl rfl 5 (by decide) (List.mem_of_getElem? (i := 7) rfl) rfl rfl dX5_rider_98 ?_
    refine x_callVi (w := wX cI a) (σ := σ) (σ' := σ) (As := [.int ri, .int (σ 0 5)]) (rest := []) (q0 := 5) ⟨hx, hb, hml, hown, hts⟩ hG hP hS hsz (c_X2_promisedStation l D cI a H.size σ ri (σ 0 5) (by assumption)) (cwV 2 hts gX5_rider_X2_promisedStation rfl rfl rfl (by decide +kernel) ⟨Nat.le_of_ble_eq_true rfl, Nat.le_of_ble_eq_true rfl⟩) rfl rfl rfl rfl hl.1 rfl (Nat.le_of_ble_eq_true rfl) ⟨Nat.zero_le _, Nat.zero_le _⟩ dX5_rider_101 (fun H locs hP hS => ?_)
    exact x_iret hx hb hr hlk hsz hP hS rfl (by rw [r_X5_rider, if_pos h_5, if_neg h_1, if_neg h_2, if_neg h_3, if_neg h_4]) rfl dX5_rider_104
  exact (sw5 hw5 h_1 h_2 h_3 h_4 h_5).elim
theorem in_X5_nearest_5 : ∀ wd ∈ u_ws RX5 TX5 9, wd ∈ wsX5_nearest := by decide +kernel
noncomputable def st_X5_nearest_11 (σ : Sg) (st : Int32) (i : Nat) : Int32 × UInt64 → Int32 × UInt64
  | (x11, x11_1) =>
    if nI i = st then
      (x11, x11_1)
    else
      if r_X3_freePlaces σ (nI i) = 0 then
        (x11, x11_1)
      else
        if x11 = (-1) then
          (nI i, r_X1_wayBetween σ st (nI i))
        else
          if 0 ≤ Op.cmpValue (FP.dcmp (r_X1_wayBetween σ st (nI i)) x11_1) .g then
            (x11, x11_1)
          else
            (nI i, r_X1_wayBetween σ st (nI i))
noncomputable def r_X5_nearest (σ : Sg) (st : Int32) : Int32 :=
  (itn (st_X5_nearest_11 σ st) 8 ((-1), FP.dconst0)).1
set_option maxHeartbeats 4000000 in
set_option maxRecDepth 100000 in
theorem c_X5_nearest (l : Launch) (D : va_G) (cI : ClassId) (a : Nat → Nat) (sz : Nat) (σ : Sg) (st : Int32) (hs : vp_in st 8) (hgr : GRX σ) : Met l yX5_nearest wsX5_nearest ({ frames := 2, cells := 0, slots := 0, locals := 56 }) (PcW D cI 29 a (wX cI a) sz σ [.ref (a 0), .int st]) (QiW D 29 a (wX cI a) sz (r_X5_nearest σ st) σ) 0 0 (AX 29 a sz) := by
  refine x_of (cc := cX5_nearest) (maxL := 8) (ret := some .int) (C := RX5) rfl (by decide) rfl (Nat.le_of_ble_eq_true rfl) (fun p e s m below meth c hx hb hr hml hlk hts hown hsz H hP hS hG ls hl => ?_)
  have hl : lv_has ls 8 [(0, .ref (a 0)), (1, .int st)] := hl
  refine lv_iload_n hx hb dX5_nearest_0 rfl (lv_at hl 1 rfl) ?_
  refine x_callSv (w := wX cI a) (σ := σ) (σ' := σ) (As := [.int st]) (rest := []) ⟨hx, hb, hml, hown, hts⟩ hG hP hS hsz (c_X5_needStation l D cI a H.size σ st hs) (va_cwS 1 hts gX5_nearest_X5_needStation rfl rfl rfl (by decide +kernel) ⟨Nat.le_of_ble_eq_true rfl, Nat.le_of_ble_eq_true rfl⟩) rfl hl.1 rfl (Nat.le_of_ble_eq_true rfl) ⟨Nat.zero_le _, Nat.zero_le _⟩ dX5_nearest_1 (fun H locs hP hS => ?_)
  refine lv_iconst (v := (-1)) hx hb dX5_nearest_4 (by decide) ?_
  refine lv_istore_n (lv' := [(2, .int (-1)), (0, .ref (a 0)), (1, .int st)]) hx hb dX5_nearest_5 rfl hl (by decide) rfl (fun ls hl => ?_)
  refine lv_dconst0 hx hb dX5_nearest_6 ?_
  refine lv_dstore_n (lv' := [(3, .double FP.dconst0), (2, .int (-1)), (0, .ref (a 0)), (1, .int st)]) hx hb dX5_nearest_7 rfl hl (by decide) rfl (fun ls hl => ?_)
  refine lv_iconst (v := 0) hx hb dX5_nearest_8 (by decide) ?_
  refine lv_istore (lv' := [(5, .int 0), (3, .double FP.dconst0), (2, .int (-1)), (0, .ref (a 0)), (1, .int st)]) hx hb dX5_nearest_9 hl (by decide) rfl (fun ls hl => ?_)
  have loop_11 : ∀ (rem i : Nat) (_ : i + rem = 8) (x11 : Int32) (x11_1 : UInt64) (_ : (x11, x11_1) = itn (st_X5_nearest_11 σ st) i ((-1), FP.dconst0)) (H : Heap) (locs : List Loc) (ls : Array Slot) (_ : va_P D vwCl (wX cI a σ) H) (_ : va_S (AX 29 a sz) s.heap H locs) (_ : lv_has ls 8 [(5, .int (nI i)), (2, .int x11), (3, .double x11_1), (0, .ref (a 0)), (1, .int st)]), W p l e (headSpec wsX5_nearest ({ frames := 2, cells := 0, slots := 0, locals := 56 } : Room)).room s m ([.ref (a 0), .int st] : List Value).toArray below meth c H locs 0 0 (MQ below (QiW D 29 a (wX cI a) sz (r_X5_nearest σ st) σ) ([.ref (a 0), .int st] : List Value).toArray s 0 0 (AX 29 a sz)) (F0 m 11 ls []) := by
    intro rem
    induction rem with
    | zero =>
      intro i hi x11 x11_1 ex11 H locs ls hP hS hl
      obtain rfl : 8 = i := by omega
      refine lv_iload hx hb dX5_nearest_11 (lv_at hl 0 rfl) ?_
      refine lv_bipush (v := 8) hx hb dX5_nearest_13 (by decide) ?_
      refine lv_icmp_ge (tgt := 75) hx hb dX5_nearest_15 (by decide) (fun _ => ?_) (fun h => absurd (show (8 : Int32) ≤ nI 8 by decide) h)
      refine lv_iload_n hx hb dX5_nearest_75 rfl (lv_at hl 1 rfl) ?_
      exact x_iret hx hb hr hlk hsz hP hS rfl (by rw [r_X5_nearest, ← ex11]) rfl dX5_nearest_76
    | succ rem ih =>
      intro i hi x11 x11_1 ex11 H locs ls hP hS hl
      refine lv_iload hx hb dX5_nearest_11 (lv_at hl 0 rfl) ?_
      refine lv_bipush (v := 8) hx hb dX5_nearest_13 (by decide) ?_
      refine lv_icmp_ge (tgt := 75) hx hb dX5_nearest_15 (by decide) (fun h => absurd h (nI_ge (a := i) (b := 8) (by omega) (by decide))) (fun _ => ?_)
      refine lv_iload hx hb dX5_nearest_18 (lv_at hl 0 rfl) ?_
      refine lv_iload_n hx hb dX5_nearest_20 rfl (lv_at hl 4 rfl) ?_
      refine lv_icmp_eq (tgt := 69) hx hb dX5_nearest_21 (by decide) (fun h_1 => ?_) (fun h_1 => ?_)
      · refine lv_iinc (v := nI (i + 1)) (lv' := [(5, .int (nI (i + 1))), (2, .int x11), (3, .double x11_1), (0, .ref (a 0)), (1, .int st)]) hx hb dX5_nearest_69 hl (k := 0) rfl (by rw [nI_succ]; rfl) (by decide) rfl (fun ls hl => ?_)
        refine lv_goto (tgt := 11) hx hb dX5_nearest_72 (by decide) ?_
        exact ih (i + 1) (by omega) x11 x11_1 (by rw [itn, ← ex11]; rw [st_X5_nearest_11, if_pos h_1]) H locs ls hP hS (lv_sub hl [0, 1, 2, 3, 4] rfl)
      · refine lv_aload_n hx hb dX5_nearest_24 rfl (lv_at hl 3 rfl) ?_
        refine x_get (ci := 5) (C := RX5) (T := TX5) (M := 9) (v := .ref (a 3)) hx hb hts in_X5_nearest_5 hown hG hP 0 rfl rfl 2 (by decide) (List.mem_of_getElem? (i := 1) rfl) rfl rfl dX5_nearest_25 ?_
        refine lv_iload hx hb dX5_nearest_28 (lv_at hl 0 rfl) ?_
        refine x_callVi (w := wX cI a) (σ := σ) (σ' := σ) (As := [.int (nI i)]) (rest := []) (q0 := 3) ⟨hx, hb, hml, hown, hts⟩ hG hP hS hsz (c_X3_freePlaces l D cI a H.size σ (nI i) (vp_in_nI (by omega) (by decide))) (cwV 1 hts gX5_nearest_X3_freePlaces rfl rfl rfl (by decide +kernel) ⟨Nat.le_of_ble_eq_true rfl, Nat.le_of_ble_eq_true rfl⟩) rfl rfl rfl rfl hl.1 rfl (Nat.le_of_ble_eq_true rfl) ⟨Nat.zero_le _, Nat.zero_le _⟩ dX5_nearest_30 (fun H locs hP hS => ?_)
        refine lv_if_ne (tgt := 39) hx hb dX5_nearest_33 (by decide) (fun h_2 => ?_) (fun h_2 => ?_)
        · refine lv_aload_n hx hb dX5_nearest_39 rfl (lv_at hl 3 rfl) ?_
          refine x_get (ci := 5) (C := RX5) (T := TX5) (M := 9) (v := .ref (a 2)) hx hb hts in_X5_nearest_5 hown hG hP 0 rfl rfl 1 (by decide) (List.mem_of_getElem? (i := 2) rfl) rfl rfl dX5_nearest_40 ?_
          refine lv_iload_n hx hb dX5_nearest_43 rfl (lv_at hl 4 rfl) ?_
          refine lv_iload hx hb dX5_nearest_44 (lv_at hl 0 rfl) ?_
          refine x_callVd (w := wX cI a) (σ := σ) (σ' := σ) (As := [.int st, .int (nI i)]) (rest := []) (q0 := 2) ⟨hx, hb, hml, hown, hts⟩ hG hP hS hsz (c_X1_wayBetween l D cI a H.size σ st (nI i) (by assumption) (vp_in_nI (by omega) (by decide)) hgr) (cwV 2 hts gX5_nearest_X1_wayBetween rfl rfl rfl (by decide +kernel) ⟨Nat.le_of_ble_eq_true rfl, Nat.le_of_ble_eq_true rfl⟩) rfl rfl rfl rfl hl.1 rfl (Nat.le_of_ble_eq_true rfl) ⟨Nat.zero_le _, Nat.zero_le _⟩ dX5_nearest_46 (fun H locs hP hS => ?_)
          refine lv_dstore (lv' := [(6, .double (r_X1_wayBetween σ st (nI i))), (5, .int (nI i)), (2, .int x11), (3, .double x11_1), (0, .ref (a 0)), (1, .int st)]) hx hb dX5_nearest_49 hl (by decide) rfl (fun ls hl => ?_)
          refine lv_iload_n hx hb dX5_nearest_51 rfl (lv_at hl 2 rfl) ?_
          refine lv_iconst (v := (-1)) hx hb dX5_nearest_52 (by decide) ?_
          refine lv_icmp_eq (tgt := 63) hx hb dX5_nearest_53 (by decide) (fun h_3 => ?_) (fun h_3 => ?_)
          · refine lv_iload hx hb dX5_nearest_63 (lv_at hl 1 rfl) ?_
            refine lv_istore_n (lv' := [(2, .int (nI i)), (6, .double (r_X1_wayBetween σ st (nI i))), (5, .int (nI i)), (3, .double x11_1), (0, .ref (a 0)), (1, .int st)]) hx hb dX5_nearest_65 rfl hl (by decide) rfl (fun ls hl => ?_)
            refine lv_dload hx hb dX5_nearest_66 (lv_at hl 1 rfl) ?_
            refine lv_dstore_n (lv' := [(3, .double (r_X1_wayBetween σ st (nI i))), (2, .int (nI i)), (6, .double (r_X1_wayBetween σ st (nI i))), (5, .int (nI i)), (0, .ref (a 0)), (1, .int st)]) hx hb dX5_nearest_68 rfl hl (by decide) rfl (fun ls hl => ?_)
            refine lv_iinc (v := nI (i + 1)) (lv' := [(5, .int (nI (i + 1))), (3, .double (r_X1_wayBetween σ st (nI i))), (2, .int (nI i)), (6, .double (r_X1_wayBetween σ st (nI i))), (0, .ref (a 0)), (1, .int st)]) hx hb dX5_nearest_69 hl (k := 3) rfl (by rw [nI_succ]; rfl) (by decide) rfl (fun ls hl => ?_)
            refine lv_goto (tgt := 11) hx hb dX5_nearest_72 (by decide) ?_
            exact ih (i + 1) (by omega) (nI i) (r_X1_wayBetween σ st (nI i)) (by rw [itn, ← ex11]; rw [st_X5_nearest_11, if_neg h_1, if_neg h_2, if_pos h_3]) H locs ls hP hS (lv_sub hl [0, 2, 1, 4, 5] rfl)
          · refine lv_dload hx hb dX5_nearest_56 (lv_at hl 0 rfl) ?_
            refine lv_dload_n hx hb dX5_nearest_58 rfl (lv_at hl 3 rfl) ?_
            refine lv_dcmp hx hb dX5_nearest_59 ?_
            refine lv_if_ge (tgt := 69) hx hb dX5_nearest_60 (by decide) (fun h_4 => ?_) (fun h_4 => ?_)
            · refine lv_iinc (v := nI (i + 1)) (lv' := [(5, .int (nI (i + 1))), (6, .double (r_X1_wayBetween σ st (nI i))), (2, .int x11), (3, .double x11_1), (0, .ref (a 0)), (1, .int st)]) hx hb dX5_nearest_69 hl (k := 1) rfl (by rw [nI_succ]; rfl) (by decide) rfl (fun ls hl => ?_)
              refine lv_goto (tgt := 11) hx hb dX5_nearest_72 (by decide) ?_
              exact ih (i + 1) (by omega) x11 x11_1 (by rw [itn, ← ex11]; rw [st_X5_nearest_11, if_neg h_1, if_neg h_2, if_neg h_3, if_pos h_4]) H locs ls hP hS (lv_sub hl [0, 2, 3, 4, 5] rfl)
            · refine lv_iload hx hb dX5_nearest_63 (lv_at hl 1 rfl) ?_
              refine lv_istore_n (lv' := [(2, .int (nI i)), (6, .double (r_X1_wayBetween σ st (nI i))), (5, .int (nI i)), (3, .double x11_1), (0, .ref (a 0)), (1, .int st)]) hx hb dX5_nearest_65 rfl hl (by decide) rfl (fun ls hl => ?_)
              refine lv_dload hx hb dX5_nearest_66 (lv_at hl 1 rfl) ?_
              refine lv_dstore_n (lv' := [(3, .double (r_X1_wayBetween σ st (nI i))), (2, .int (nI i)), (6, .double (r_X1_wayBetween σ st (nI i))), (5, .int (nI i)), (0, .ref (a 0)), (1, .int st)]) hx hb dX5_nearest_68 rfl hl (by decide) rfl (fun ls hl => ?_)
              refine lv_iinc (v := nI (i + 1)) (lv' := [(5, .int (nI (i + 1))), (3, .double (r_X1_wayBetween σ st (nI i))), (2, .int (nI i)), (6, .double (r_X1_wayBetween σ st (nI i))), (0, .ref (a 0)), (1, .int st)]) hx hb dX5_nearest_69 hl (k := 3) rfl (by rw [nI_succ]; rfl) (by decide) rfl (fun ls hl => ?_)
              refine lv_goto (tgt := 11) hx hb dX5_nearest_72 (by decide) ?_
              exact ih (i + 1) (by omega) (nI i) (r_X1_wayBetween σ st (nI i)) (by rw [itn, ← ex11]; rw [st_X5_nearest_11, if_neg h_1, if_neg h_2, if_neg h_3, if_neg h_4]) H locs ls hP hS (lv_sub hl [0, 2, 1, 4, 5] rfl)
        · refine lv_goto (tgt := 69) hx hb dX5_nearest_36 (by decide) ?_
          refine lv_iinc (v := nI (i + 1)) (lv' := [(5, .int (nI (i + 1))), (2, .int x11), (3, .double x11_1), (0, .ref (a 0)), (1, .int st)]) hx hb dX5_nearest_69 hl (k := 0) rfl (by rw [nI_succ]; rfl) (by decide) rfl (fun ls hl => ?_)
          refine lv_goto (tgt := 11) hx hb dX5_nearest_72 (by decide) ?_
          exact ih (i + 1) (by omega) x11 x11_1 (by rw [itn, ← ex11]; rw [st_X5_nearest_11, if_neg h_1, if_pos h_2]) H locs ls hP hS (lv_sub hl [0, 1, 2, 3, 4] rfl)
  exact loop_11 (8) 0 (Nat.zero_add _) (-1) FP.dconst0 (itn0 _ _) _ _ _ hP hS (lv_sub hl [0, 2, 1, 3, 4] rfl)
theorem in_X5_way_5 : ∀ wd ∈ u_ws RX5 TX5 9, wd ∈ wsX5_way := by decide +kernel
noncomputable def r_X5_way (σ : Sg) (st : Int32) (ot : Int32) : Int32 :=
  FP.d2i (FP.dmul 4636737291354636288 (r_X1_wayBetween σ st ot))
set_option maxHeartbeats 4000000 in
set_option maxRecDepth 100000 in
theorem c_X5_way (l : Launch) (D : va_G) (cI : ClassId) (a : Nat → Nat) (sz : Nat) (σ : Sg) (st : Int32) (ot : Int32) (hs : vp_in st 8) (hs2 : vp_in ot 8) (hgr : GRX σ) : Met l yX5_way wsX5_way ({ frames := 2, cells := 0, slots := 0, locals := 56 }) (PcW D cI 29 a (wX cI a) sz σ [.ref (a 0), .int st, .int ot]) (QiW D 29 a (wX cI a) sz (r_X5_way σ st ot) σ) 0 0 (AX 29 a sz) := by
  refine x_of (cc := cX5_way) (maxL := 3) (ret := some .int) (C := RX5) rfl (by decide) rfl (Nat.le_of_ble_eq_true rfl) (fun p e s m below meth c hx hb hr hml hlk hts hown hsz H hP hS hG ls hl => ?_)
  have hl : lv_has ls 3 [(0, .ref (a 0)), (1, .int st), (2, .int ot)] := hl
  refine lv_iload_n hx hb dX5_way_0 rfl (lv_at hl 1 rfl) ?_
  refine x_callSv (w := wX cI a) (σ := σ) (σ' := σ) (As := [.int st]) (rest := []) ⟨hx, hb, hml, hown, hts⟩ hG hP hS hsz (c_X5_needStation l D cI a H.size σ st hs) (va_cwS 1 hts gX5_way_X5_needStation rfl rfl rfl (by decide +kernel) ⟨Nat.le_of_ble_eq_true rfl, Nat.le_of_ble_eq_true rfl⟩) rfl hl.1 rfl (Nat.le_of_ble_eq_true rfl) ⟨Nat.zero_le _, Nat.zero_le _⟩ dX5_way_1 (fun H locs hP hS => ?_)
  refine lv_iload_n hx hb dX5_way_4 rfl (lv_at hl 2 rfl) ?_
  refine x_callSv (w := wX cI a) (σ := σ) (σ' := σ) (As := [.int ot]) (rest := []) ⟨hx, hb, hml, hown, hts⟩ hG hP hS hsz (c_X5_needStation l D cI a H.size σ ot hs2) (va_cwS 1 hts gX5_way_X5_needStation rfl rfl rfl (by decide +kernel) ⟨Nat.le_of_ble_eq_true rfl, Nat.le_of_ble_eq_true rfl⟩) rfl hl.1 rfl (Nat.le_of_ble_eq_true rfl) ⟨Nat.zero_le _, Nat.zero_le _⟩ dX5_way_5 (fun H locs hP hS => ?_)
  refine lv_ldc2d (v := 4636737291354636288) hx hb hown (hts _ (List.mem_of_getElem? (i := 1) rfl)) dX5_way_8 ?_
  refine lv_aload_n hx hb dX5_way_11 rfl (lv_at hl 0 rfl) ?_
  refine x_get (ci := 5) (C := RX5) (T := TX5) (M := 9) (v := .ref (a 2)) hx hb hts in_X5_way_5 hown hG hP 0 rfl rfl 1 (by decide) (List.mem_of_getElem? (i := 2) rfl) rfl rfl dX5_way_12 ?_
  refine lv_iload_n hx hb dX5_way_15 rfl (lv_at hl 1 rfl) ?_
  refine lv_iload_n hx hb dX5_way_16 rfl (lv_at hl 2 rfl) ?_
  refine x_callVd (w := wX cI a) (σ := σ) (σ' := σ) (As := [.int st, .int ot]) (rest := [.double 4636737291354636288]) (q0 := 2) ⟨hx, hb, hml, hown, hts⟩ hG hP hS hsz (c_X1_wayBetween l D cI a H.size σ st ot hs hs2 hgr) (cwV 2 hts gX5_way_X1_wayBetween rfl rfl rfl (by decide +kernel) ⟨Nat.le_of_ble_eq_true rfl, Nat.le_of_ble_eq_true rfl⟩) rfl rfl rfl rfl hl.1 rfl (Nat.le_of_ble_eq_true rfl) ⟨Nat.zero_le _, Nat.zero_le _⟩ dX5_way_17 (fun H locs hP hS => ?_)
  refine lv_dmul hx hb dX5_way_20 (w100_nan (wX_mag hgr hs hs2)) ?_
  refine lv_d2i hx hb dX5_way_21 ?_
  exact x_iret hx hb hr hlk hsz hP hS rfl (by rw [r_X5_way]) rfl dX5_way_22
set_option maxHeartbeats 4000000 in
set_option maxRecDepth 100000 in
theorem xc_X5_lies_x1 (l : Launch) (D : va_G) (cI : ClassId) (a : Nat → Nat) (sz : Nat) (σ : Sg) (st : Int32) (ea : Int32) (no : Int32) (hi : Int32) (hx0 : ¬ (vp_in st 8)) (hlf : l.stackTraces = false) : vx_Met l yX5_lies wsX5_lies ({ frames := 7, cells := 1, slots := 6, locals := 102 }) (PcE D cI 29 a (wX cI a) sz σ [.ref (a 0), .int st, .int ea, .int no, .int hi]) (QxV 29 a sz) (XE D 29 a (wX cI a) sz σ "java/lang/IndexOutOfBoundsException") 1 6 (AX 29 a sz) := by
  refine x_ofE (cc := cX5_lies) (maxL := 5) (ret := none) (C := RX5) rfl (by decide) rfl (Nat.le_of_ble_eq_true rfl) (fun p e s m below meth c hx hb hr hml hlk hts hown hsz hnt hE H hP hS hG ls hl => ?_)
  have hl : lv_has ls 5 [(0, .ref (a 0)), (1, .int st), (2, .int ea), (3, .int no), (4, .int hi)] := hl
  refine lv_iload_n hx hb dX5_lies_0 rfl (lv_at hl 1 rfl) ?_
  exact x_outS (w := wX cI a) (σ := σ) (As := [.int st]) (rest := []) ⟨hx, hb, hml, hown, hts⟩ hG hP hS hsz hE hnt hlk (xc_X5_needStation_x l D cI a H.size σ st hx0 hlf) (va_cwS 1 hts gX5_lies_X5_needStation rfl rfl rfl (by decide +kernel) ⟨Nat.le_of_ble_eq_true rfl, Nat.le_of_ble_eq_true rfl⟩) rfl hl.1 rfl (Nat.le_of_ble_eq_true rfl) ⟨Nat.le_of_ble_eq_true rfl, Nat.le_of_ble_eq_true rfl⟩ dX5_lies_1 ⟨Nat.le_of_ble_eq_true rfl, Nat.le_of_ble_eq_true rfl⟩
set_option maxHeartbeats 4000000 in
set_option maxRecDepth 100000 in
theorem xc_X5_lies_x7 (l : Launch) (D : va_G) (cI : ClassId) (a : Nat → Nat) (sz : Nat) (σ : Sg) (st : Int32) (ea : Int32) (no : Int32) (hi : Int32) (hs : vp_in st 8) (hx0 : ¬ (¬ ea < 0 ∧ ea ≤ 99)) (hlf : l.stackTraces = false) : vx_Met l yX5_lies wsX5_lies ({ frames := 7, cells := 1, slots := 6, locals := 103 }) (PcE D cI 29 a (wX cI a) sz σ [.ref (a 0), .int st, .int ea, .int no, .int hi]) (QxV 29 a sz) (XE D 29 a (wX cI a) sz σ "java/lang/IllegalArgumentException") 1 6 (AX 29 a sz) := by
  refine x_ofE (cc := cX5_lies) (maxL := 5) (ret := none) (C := RX5) rfl (by decide) rfl (Nat.le_of_ble_eq_true rfl) (fun p e s m below meth c hx hb hr hml hlk hts hown hsz hnt hE H hP hS hG ls hl => ?_)
  have hl : lv_has ls 5 [(0, .ref (a 0)), (1, .int st), (2, .int ea), (3, .int no), (4, .int hi)] := hl
  refine lv_iload_n hx hb dX5_lies_0 rfl (lv_at hl 1 rfl) ?_
  refine x_callSv (w := wX cI a) (σ := σ) (σ' := σ) (As := [.int st]) (rest := []) ⟨hx, hb, hml, hown, hts⟩ hG hP hS hsz (c_X5_needStation l D cI a H.size σ st hs) (va_cwS 1 hts gX5_lies_X5_needStation rfl rfl rfl (by decide +kernel) ⟨Nat.le_of_ble_eq_true rfl, Nat.le_of_ble_eq_true rfl⟩) rfl hl.1 rfl (Nat.le_of_ble_eq_true rfl) ⟨Nat.zero_le _, Nat.zero_le _⟩ dX5_lies_1 (fun H locs hP hS => ?_)
  refine lv_iload_n hx hb dX5_lies_4 rfl (lv_at hl 2 rfl) ?_
  refine lv_bipush (v := 99) hx hb dX5_lies_5 (by decide) ?_
  exact x_outS (w := wX cI a) (σ := σ) (As := [.int ea, .int 99]) (rest := []) ⟨hx, hb, hml, hown, hts⟩ hG hP hS hsz hE hnt hlk (xc_X5_needUpTo_x l D cI a H.size σ ea 99 hx0 hlf) (va_cwS 2 hts gX5_lies_X5_needUpTo rfl rfl rfl (by decide +kernel) ⟨Nat.le_of_ble_eq_true rfl, Nat.le_of_ble_eq_true rfl⟩) rfl hl.1 rfl (Nat.le_of_ble_eq_true rfl) ⟨Nat.le_of_ble_eq_true rfl, Nat.le_of_ble_eq_true rfl⟩ dX5_lies_7 ⟨Nat.le_of_ble_eq_true rfl, Nat.le_of_ble_eq_true rfl⟩
set_option maxHeartbeats 4000000 in
set_option maxRecDepth 100000 in
theorem xc_X5_lies_x13 (l : Launch) (D : va_G) (cI : ClassId) (a : Nat → Nat) (sz : Nat) (σ : Sg) (st : Int32) (ea : Int32) (no : Int32) (hi : Int32) (hs : vp_in st 8) (hu1 : (¬ ea < 0 ∧ ea ≤ 99)) (hx0 : ¬ (¬ no < 0 ∧ no ≤ 99)) (hlf : l.stackTraces = false) : vx_Met l yX5_lies wsX5_lies ({ frames := 7, cells := 1, slots := 6, locals := 103 }) (PcE D cI 29 a (wX cI a) sz σ [.ref (a 0), .int st, .int ea, .int no, .int hi]) (QxV 29 a sz) (XE D 29 a (wX cI a) sz σ "java/lang/IllegalArgumentException") 1 6 (AX 29 a sz) := by
  refine x_ofE (cc := cX5_lies) (maxL := 5) (ret := none) (C := RX5) rfl (by decide) rfl (Nat.le_of_ble_eq_true rfl) (fun p e s m below meth c hx hb hr hml hlk hts hown hsz hnt hE H hP hS hG ls hl => ?_)
  have hl : lv_has ls 5 [(0, .ref (a 0)), (1, .int st), (2, .int ea), (3, .int no), (4, .int hi)] := hl
  refine lv_iload_n hx hb dX5_lies_0 rfl (lv_at hl 1 rfl) ?_
  refine x_callSv (w := wX cI a) (σ := σ) (σ' := σ) (As := [.int st]) (rest := []) ⟨hx, hb, hml, hown, hts⟩ hG hP hS hsz (c_X5_needStation l D cI a H.size σ st hs) (va_cwS 1 hts gX5_lies_X5_needStation rfl rfl rfl (by decide +kernel) ⟨Nat.le_of_ble_eq_true rfl, Nat.le_of_ble_eq_true rfl⟩) rfl hl.1 rfl (Nat.le_of_ble_eq_true rfl) ⟨Nat.zero_le _, Nat.zero_le _⟩ dX5_lies_1 (fun H locs hP hS => ?_)
  refine lv_iload_n hx hb dX5_lies_4 rfl (lv_at hl 2 rfl) ?_
  refine lv_bipush (v := 99) hx hb dX5_lies_5 (by decide) ?_
  refine x_callSv (w := wX cI a) (σ := σ) (σ' := σ) (As := [.int ea, .int 99]) (rest := []) ⟨hx, hb, hml, hown, hts⟩ hG hP hS hsz (c_X5_needUpTo l D cI a H.size σ ea 99 hu1) (va_cwS 2 hts gX5_lies_X5_needUpTo rfl rfl rfl (by decide +kernel) ⟨Nat.le_of_ble_eq_true rfl, Nat.le_of_ble_eq_true rfl⟩) rfl hl.1 rfl (Nat.le_of_ble_eq_true rfl) ⟨Nat.zero_le _, Nat.zero_le _⟩ dX5_lies_7 (fun H locs hP hS => ?_)
  refine lv_iload_n hx hb dX5_lies_10 rfl (lv_at hl 3 rfl) ?_
  refine lv_bipush (v := 99) hx hb dX5_lies_11 (by decide) ?_
  exact x_outS (w := wX cI a) (σ := σ) (As := [.int no, .int 99]) (rest := []) ⟨hx, hb, hml, hown, hts⟩ hG hP hS hsz hE hnt hlk (xc_X5_needUpTo_x l D cI a H.size σ no 99 hx0 hlf) (va_cwS 2 hts gX5_lies_X5_needUpTo rfl rfl rfl (by decide +kernel) ⟨Nat.le_of_ble_eq_true rfl, Nat.le_of_ble_eq_true rfl⟩) rfl hl.1 rfl (Nat.le_of_ble_eq_true rfl) ⟨Nat.le_of_ble_eq_true rfl, Nat.le_of_ble_eq_true rfl⟩ dX5_lies_13 ⟨Nat.le_of_ble_eq_true rfl, Nat.le_of_ble_eq_true rfl⟩
set_option maxHeartbeats 4000000 in
set_option maxRecDepth 100000 in
theorem xc_X5_lies_x20 (l : Launch) (D : va_G) (cI : ClassId) (a : Nat → Nat) (sz : Nat) (σ : Sg) (st : Int32) (ea : Int32) (no : Int32) (hi : Int32) (hs : vp_in st 8) (hu1 : (¬ ea < 0 ∧ ea ≤ 99)) (hu2 : (¬ no < 0 ∧ no ≤ 99)) (hx0 : ¬ (¬ hi < 0 ∧ hi ≤ 99)) (hlf : l.stackTraces = false) : vx_Met l yX5_lies wsX5_lies ({ frames := 7, cells := 1, slots := 6, locals := 103 }) (PcE D cI 29 a (wX cI a) sz σ [.ref (a 0), .int st, .int ea, .int no, .int hi]) (QxV 29 a sz) (XE D 29 a (wX cI a) sz σ "java/lang/IllegalArgumentException") 1 6 (AX 29 a sz) := by
  refine x_ofE (cc := cX5_lies) (maxL := 5) (ret := none) (C := RX5) rfl (by decide) rfl (Nat.le_of_ble_eq_true rfl) (fun p e s m below meth c hx hb hr hml hlk hts hown hsz hnt hE H hP hS hG ls hl => ?_)
  have hl : lv_has ls 5 [(0, .ref (a 0)), (1, .int st), (2, .int ea), (3, .int no), (4, .int hi)] := hl
  refine lv_iload_n hx hb dX5_lies_0 rfl (lv_at hl 1 rfl) ?_
  refine x_callSv (w := wX cI a) (σ := σ) (σ' := σ) (As := [.int st]) (rest := []) ⟨hx, hb, hml, hown, hts⟩ hG hP hS hsz (c_X5_needStation l D cI a H.size σ st hs) (va_cwS 1 hts gX5_lies_X5_needStation rfl rfl rfl (by decide +kernel) ⟨Nat.le_of_ble_eq_true rfl, Nat.le_of_ble_eq_true rfl⟩) rfl hl.1 rfl (Nat.le_of_ble_eq_true rfl) ⟨Nat.zero_le _, Nat.zero_le _⟩ dX5_lies_1 (fun H locs hP hS => ?_)
  refine lv_iload_n hx hb dX5_lies_4 rfl (lv_at hl 2 rfl) ?_
  refine lv_bipush (v := 99) hx hb dX5_lies_5 (by decide) ?_
  refine x_callSv (w := wX cI a) (σ := σ) (σ' := σ) (As := [.int ea, .int 99]) (rest := []) ⟨hx, hb, hml, hown, hts⟩ hG hP hS hsz (c_X5_needUpTo l D cI a H.size σ ea 99 hu1) (va_cwS 2 hts gX5_lies_X5_needUpTo rfl rfl rfl (by decide +kernel) ⟨Nat.le_of_ble_eq_true rfl, Nat.le_of_ble_eq_true rfl⟩) rfl hl.1 rfl (Nat.le_of_ble_eq_true rfl) ⟨Nat.zero_le _, Nat.zero_le _⟩ dX5_lies_7 (fun H locs hP hS => ?_)
  refine lv_iload_n hx hb dX5_lies_10 rfl (lv_at hl 3 rfl) ?_
  refine lv_bipush (v := 99) hx hb dX5_lies_11 (by decide) ?_
  refine x_callSv (w := wX cI a) (σ := σ) (σ' := σ) (As := [.int no, .int 99]) (rest := []) ⟨hx, hb, hml, hown, hts⟩ hG hP hS hsz (c_X5_needUpTo l D cI a H.size σ no 99 hu2) (va_cwS 2 hts gX5_lies_X5_needUpTo rfl rfl rfl (by decide +kernel) ⟨Nat.le_of_ble_eq_true rfl, Nat.le_of_ble_eq_true rfl⟩) rfl hl.1 rfl (Nat.le_of_ble_eq_true rfl) ⟨Nat.zero_le _, Nat.zero_le _⟩ dX5_lies_13 (fun H locs hP hS => ?_)
  refine lv_iload hx hb dX5_lies_16 (lv_at hl 4 rfl) ?_
  refine lv_bipush (v := 99) hx hb dX5_lies_18 (by decide) ?_
  exact x_outS (w := wX cI a) (σ := σ) (As := [.int hi, .int 99]) (rest := []) ⟨hx, hb, hml, hown, hts⟩ hG hP hS hsz hE hnt hlk (xc_X5_needUpTo_x l D cI a H.size σ hi 99 hx0 hlf) (va_cwS 2 hts gX5_lies_X5_needUpTo rfl rfl rfl (by decide +kernel) ⟨Nat.le_of_ble_eq_true rfl, Nat.le_of_ble_eq_true rfl⟩) rfl hl.1 rfl (Nat.le_of_ble_eq_true rfl) ⟨Nat.le_of_ble_eq_true rfl, Nat.le_of_ble_eq_true rfl⟩ dX5_lies_20 ⟨Nat.le_of_ble_eq_true rfl, Nat.le_of_ble_eq_true rfl⟩
set_option maxHeartbeats 4000000 in
set_option maxRecDepth 100000 in
theorem xc_X5_docks_x1 (l : Launch) (D : va_G) (cI : ClassId) (a : Nat → Nat) (sz : Nat) (σ : Sg) (st : Int32) (pl : Int32) (hx0 : ¬ (vp_in st 8)) (hlf : l.stackTraces = false) : vx_Met l yX5_docks wsX5_docks ({ frames := 7, cells := 1, slots := 6, locals := 102 }) (PcE D cI 29 a (wX cI a) sz σ [.ref (a 0), .int st, .int pl]) (QxV 29 a sz) (XE D 29 a (wX cI a) sz σ "java/lang/IndexOutOfBoundsException") 1 6 (AX 29 a sz) := by
  refine x_ofE (cc := cX5_docks) (maxL := 3) (ret := none) (C := RX5) rfl (by decide) rfl (Nat.le_of_ble_eq_true rfl) (fun p e s m below meth c hx hb hr hml hlk hts hown hsz hnt hE H hP hS hG ls hl => ?_)
  have hl : lv_has ls 3 [(0, .ref (a 0)), (1, .int st), (2, .int pl)] := hl
  refine lv_iload_n hx hb dX5_docks_0 rfl (lv_at hl 1 rfl) ?_
  exact x_outS (w := wX cI a) (σ := σ) (As := [.int st]) (rest := []) ⟨hx, hb, hml, hown, hts⟩ hG hP hS hsz hE hnt hlk (xc_X5_needStation_x l D cI a H.size σ st hx0 hlf) (va_cwS 1 hts gX5_docks_X5_needStation rfl rfl rfl (by decide +kernel) ⟨Nat.le_of_ble_eq_true rfl, Nat.le_of_ble_eq_true rfl⟩) rfl hl.1 rfl (Nat.le_of_ble_eq_true rfl) ⟨Nat.le_of_ble_eq_true rfl, Nat.le_of_ble_eq_true rfl⟩ dX5_docks_1 ⟨Nat.le_of_ble_eq_true rfl, Nat.le_of_ble_eq_true rfl⟩
set_option maxHeartbeats 4000000 in
set_option maxRecDepth 100000 in
theorem xc_X5_docks_x7 (l : Launch) (D : va_G) (cI : ClassId) (a : Nat → Nat) (sz : Nat) (σ : Sg) (st : Int32) (pl : Int32) (hs : vp_in st 8) (hx0 : ¬ (¬ pl < 0 ∧ pl ≤ 20)) (hlf : l.stackTraces = false) : vx_Met l yX5_docks wsX5_docks ({ frames := 7, cells := 1, slots := 6, locals := 103 }) (PcE D cI 29 a (wX cI a) sz σ [.ref (a 0), .int st, .int pl]) (QxV 29 a sz) (XE D 29 a (wX cI a) sz σ "java/lang/IllegalArgumentException") 1 6 (AX 29 a sz) := by
  refine x_ofE (cc := cX5_docks) (maxL := 3) (ret := none) (C := RX5) rfl (by decide) rfl (Nat.le_of_ble_eq_true rfl) (fun p e s m below meth c hx hb hr hml hlk hts hown hsz hnt hE H hP hS hG ls hl => ?_)
  have hl : lv_has ls 3 [(0, .ref (a 0)), (1, .int st), (2, .int pl)] := hl
  refine lv_iload_n hx hb dX5_docks_0 rfl (lv_at hl 1 rfl) ?_
  refine x_callSv (w := wX cI a) (σ := σ) (σ' := σ) (As := [.int st]) (rest := []) ⟨hx, hb, hml, hown, hts⟩ hG hP hS hsz (c_X5_needStation l D cI a H.size σ st hs) (va_cwS 1 hts gX5_docks_X5_needStation rfl rfl rfl (by decide +kernel) ⟨Nat.le_of_ble_eq_true rfl, Nat.le_of_ble_eq_true rfl⟩) rfl hl.1 rfl (Nat.le_of_ble_eq_true rfl) ⟨Nat.zero_le _, Nat.zero_le _⟩ dX5_docks_1 (fun H locs hP hS => ?_)
  refine lv_iload_n hx hb dX5_docks_4 rfl (lv_at hl 2 rfl) ?_
  refine lv_bipush (v := 20) hx hb dX5_docks_5 (by decide) ?_
  exact x_outS (w := wX cI a) (σ := σ) (As := [.int pl, .int 20]) (rest := []) ⟨hx, hb, hml, hown, hts⟩ hG hP hS hsz hE hnt hlk (xc_X5_needUpTo_x l D cI a H.size σ pl 20 hx0 hlf) (va_cwS 2 hts gX5_docks_X5_needUpTo rfl rfl rfl (by decide +kernel) ⟨Nat.le_of_ble_eq_true rfl, Nat.le_of_ble_eq_true rfl⟩) rfl hl.1 rfl (Nat.le_of_ble_eq_true rfl) ⟨Nat.le_of_ble_eq_true rfl, Nat.le_of_ble_eq_true rfl⟩ dX5_docks_7 ⟨Nat.le_of_ble_eq_true rfl, Nat.le_of_ble_eq_true rfl⟩
set_option maxHeartbeats 4000000 in
set_option maxRecDepth 100000 in
theorem xc_X5_docks_x11 (l : Launch) (D : va_G) (cI : ClassId) (a : Nat → Nat) (sz : Nat) (σ : Sg) (st : Int32) (pl : Int32) (hs : vp_in st 8) (hu1 : (¬ pl < 0 ∧ pl ≤ 20)) (hx0 : ¬ (r_X4_isFull σ = 0)) (hlf : l.stackTraces = false) : vx_Met l yX5_docks wsX5_docks ({ frames := 7, cells := 1, slots := 6, locals := 102 }) (PcE D cI 29 a (wX cI a) sz σ [.ref (a 0), .int st, .int pl]) (QxV 29 a sz) (XE D 29 a (wX cI a) sz σ "java/lang/IllegalStateException") 1 6 (AX 29 a sz) := by
  refine x_ofE (cc := cX5_docks) (maxL := 3) (ret := none) (C := RX5) rfl (by decide) rfl (Nat.le_of_ble_eq_true rfl) (fun p e s m below meth c hx hb hr hml hlk hts hown hsz hnt hE H hP hS hG ls hl => ?_)
  have hl : lv_has ls 3 [(0, .ref (a 0)), (1, .int st), (2, .int pl)] := hl
  refine lv_iload_n hx hb dX5_docks_0 rfl (lv_at hl 1 rfl) ?_
  refine x_callSv (w := wX cI a) (σ := σ) (σ' := σ) (As := [.int st]) (rest := []) ⟨hx, hb, hml, hown, hts⟩ hG hP hS hsz (c_X5_needStation l D cI a H.size σ st hs) (va_cwS 1 hts gX5_docks_X5_needStation rfl rfl rfl (by decide +kernel) ⟨Nat.le_of_ble_eq_true rfl, Nat.le_of_ble_eq_true rfl⟩) rfl hl.1 rfl (Nat.le_of_ble_eq_true rfl) ⟨Nat.zero_le _, Nat.zero_le _⟩ dX5_docks_1 (fun H locs hP hS => ?_)
  refine lv_iload_n hx hb dX5_docks_4 rfl (lv_at hl 2 rfl) ?_
  refine lv_bipush (v := 20) hx hb dX5_docks_5 (by decide) ?_
  refine x_callSv (w := wX cI a) (σ := σ) (σ' := σ) (As := [.int pl, .int 20]) (rest := []) ⟨hx, hb, hml, hown, hts⟩ hG hP hS hsz (c_X5_needUpTo l D cI a H.size σ pl 20 hu1) (va_cwS 2 hts gX5_docks_X5_needUpTo rfl rfl rfl (by decide +kernel) ⟨Nat.le_of_ble_eq_true rfl, Nat.le_of_ble_eq_true rfl⟩) rfl hl.1 rfl (Nat.le_of_ble_eq_true rfl) ⟨Nat.zero_le _, Nat.zero_le _⟩ dX5_docks_7 (fun H locs hP hS => ?_)
  refine lv_aload_n hx hb dX5_docks_10 rfl (lv_at hl 0 rfl) ?_
  exact x_outV (w := wX cI a) (σ := σ) (As := []) (rest := []) (q0 := 0) ⟨hx, hb, hml, hown, hts⟩ hG hP hS hsz hE hnt hlk (xc_X5_needRoom_x l D cI a H.size σ  hx0 hlf) (cwV 0 hts gX5_docks_X5_needRoom rfl rfl rfl (by decide +kernel) ⟨Nat.le_of_ble_eq_true rfl, Nat.le_of_ble_eq_true rfl⟩) rfl rfl rfl rfl hl.1 rfl (Nat.le_of_ble_eq_true rfl) ⟨Nat.le_of_ble_eq_true rfl, Nat.le_of_ble_eq_true rfl⟩ dX5_docks_11 ⟨Nat.le_of_ble_eq_true rfl, Nat.le_of_ble_eq_true rfl⟩
set_option maxHeartbeats 4000000 in
set_option maxRecDepth 100000 in
theorem xc_X5_put_x1 (l : Launch) (D : va_G) (cI : ClassId) (a : Nat → Nat) (sz : Nat) (σ : Sg) (cy : Int32) (st : Int32) (hx0 : ¬ (vp_in cy 30)) (hlf : l.stackTraces = false) : vx_Met l yX5_put wsX5_put ({ frames := 7, cells := 1, slots := 6, locals := 102 }) (PcE D cI 29 a (wX cI a) sz σ [.ref (a 0), .int cy, .int st]) (QxI 29 a sz) (XE D 29 a (wX cI a) sz σ "java/lang/IndexOutOfBoundsException") 1 6 (AX 29 a sz) := by
  refine x_ofE (cc := cX5_put) (maxL := 3) (ret := some .boolean) (C := RX5) rfl (by decide) rfl (Nat.le_of_ble_eq_true rfl) (fun p e s m below meth c hx hb hr hml hlk hts hown hsz hnt hE H hP hS hG ls hl => ?_)
  have hl : lv_has ls 3 [(0, .ref (a 0)), (1, .int cy), (2, .int st)] := hl
  refine lv_iload_n hx hb dX5_put_0 rfl (lv_at hl 1 rfl) ?_
  exact x_outS (w := wX cI a) (σ := σ) (As := [.int cy]) (rest := []) ⟨hx, hb, hml, hown, hts⟩ hG hP hS hsz hE hnt hlk (xc_X5_needCycle_x l D cI a H.size σ cy hx0 hlf) (va_cwS 1 hts gX5_put_X5_needCycle rfl rfl rfl (by decide +kernel) ⟨Nat.le_of_ble_eq_true rfl, Nat.le_of_ble_eq_true rfl⟩) rfl hl.1 rfl (Nat.le_of_ble_eq_true rfl) ⟨Nat.le_of_ble_eq_true rfl, Nat.le_of_ble_eq_true rfl⟩ dX5_put_1 ⟨Nat.le_of_ble_eq_true rfl, Nat.le_of_ble_eq_true rfl⟩
set_option maxHeartbeats 4000000 in
set_option maxRecDepth 100000 in
theorem xc_X5_put_x5 (l : Launch) (D : va_G) (cI : ClassId) (a : Nat → Nat) (sz : Nat) (σ : Sg) (cy : Int32) (st : Int32) (hc : vp_in cy 30) (hx0 : ¬ (vp_in st 8)) (hlf : l.stackTraces = false) : vx_Met l yX5_put wsX5_put ({ frames := 7, cells := 1, slots := 6, locals := 102 }) (PcE D cI 29 a (wX cI a) sz σ [.ref (a 0), .int cy, .int st]) (QxI 29 a sz) (XE D 29 a (wX cI a) sz σ "java/lang/IndexOutOfBoundsException") 1 6 (AX 29 a sz) := by
  refine x_ofE (cc := cX5_put) (maxL := 3) (ret := some .boolean) (C := RX5) rfl (by decide) rfl (Nat.le_of_ble_eq_true rfl) (fun p e s m below meth c hx hb hr hml hlk hts hown hsz hnt hE H hP hS hG ls hl => ?_)
  have hl : lv_has ls 3 [(0, .ref (a 0)), (1, .int cy), (2, .int st)] := hl
  refine lv_iload_n hx hb dX5_put_0 rfl (lv_at hl 1 rfl) ?_
  refine x_callSv (w := wX cI a) (σ := σ) (σ' := σ) (As := [.int cy]) (rest := []) ⟨hx, hb, hml, hown, hts⟩ hG hP hS hsz (c_X5_needCycle l D cI a H.size σ cy hc) (va_cwS 1 hts gX5_put_X5_needCycle rfl rfl rfl (by decide +kernel) ⟨Nat.le_of_ble_eq_true rfl, Nat.le_of_ble_eq_true rfl⟩) rfl hl.1 rfl (Nat.le_of_ble_eq_true rfl) ⟨Nat.zero_le _, Nat.zero_le _⟩ dX5_put_1 (fun H locs hP hS => ?_)
  refine lv_iload_n hx hb dX5_put_4 rfl (lv_at hl 2 rfl) ?_
  exact x_outS (w := wX cI a) (σ := σ) (As := [.int st]) (rest := []) ⟨hx, hb, hml, hown, hts⟩ hG hP hS hsz hE hnt hlk (xc_X5_needStation_x l D cI a H.size σ st hx0 hlf) (va_cwS 1 hts gX5_put_X5_needStation rfl rfl rfl (by decide +kernel) ⟨Nat.le_of_ble_eq_true rfl, Nat.le_of_ble_eq_true rfl⟩) rfl hl.1 rfl (Nat.le_of_ble_eq_true rfl) ⟨Nat.le_of_ble_eq_true rfl, Nat.le_of_ble_eq_true rfl⟩ dX5_put_5 ⟨Nat.le_of_ble_eq_true rfl, Nat.le_of_ble_eq_true rfl⟩
set_option maxHeartbeats 4000000 in
set_option maxRecDepth 100000 in
theorem xc_X5_put_x9 (l : Launch) (D : va_G) (cI : ClassId) (a : Nat → Nat) (sz : Nat) (σ : Sg) (cy : Int32) (st : Int32) (hc : vp_in cy 30) (hs : vp_in st 8) (hx0 : ¬ (r_X4_isFull σ = 0)) (hlf : l.stackTraces = false) : vx_Met l yX5_put wsX5_put ({ frames := 7, cells := 1, slots := 6, locals := 102 }) (PcE D cI 29 a (wX cI a) sz σ [.ref (a 0), .int cy, .int st]) (QxI 29 a sz) (XE D 29 a (wX cI a) sz σ "java/lang/IllegalStateException") 1 6 (AX 29 a sz) := by
  refine x_ofE (cc := cX5_put) (maxL := 3) (ret := some .boolean) (C := RX5) rfl (by decide) rfl (Nat.le_of_ble_eq_true rfl) (fun p e s m below meth c hx hb hr hml hlk hts hown hsz hnt hE H hP hS hG ls hl => ?_)
  have hl : lv_has ls 3 [(0, .ref (a 0)), (1, .int cy), (2, .int st)] := hl
  refine lv_iload_n hx hb dX5_put_0 rfl (lv_at hl 1 rfl) ?_
  refine x_callSv (w := wX cI a) (σ := σ) (σ' := σ) (As := [.int cy]) (rest := []) ⟨hx, hb, hml, hown, hts⟩ hG hP hS hsz (c_X5_needCycle l D cI a H.size σ cy hc) (va_cwS 1 hts gX5_put_X5_needCycle rfl rfl rfl (by decide +kernel) ⟨Nat.le_of_ble_eq_true rfl, Nat.le_of_ble_eq_true rfl⟩) rfl hl.1 rfl (Nat.le_of_ble_eq_true rfl) ⟨Nat.zero_le _, Nat.zero_le _⟩ dX5_put_1 (fun H locs hP hS => ?_)
  refine lv_iload_n hx hb dX5_put_4 rfl (lv_at hl 2 rfl) ?_
  refine x_callSv (w := wX cI a) (σ := σ) (σ' := σ) (As := [.int st]) (rest := []) ⟨hx, hb, hml, hown, hts⟩ hG hP hS hsz (c_X5_needStation l D cI a H.size σ st hs) (va_cwS 1 hts gX5_put_X5_needStation rfl rfl rfl (by decide +kernel) ⟨Nat.le_of_ble_eq_true rfl, Nat.le_of_ble_eq_true rfl⟩) rfl hl.1 rfl (Nat.le_of_ble_eq_true rfl) ⟨Nat.zero_le _, Nat.zero_le _⟩ dX5_put_5 (fun H locs hP hS => ?_)
  refine lv_aload_n hx hb dX5_put_8 rfl (lv_at hl 0 rfl) ?_
  exact x_outV (w := wX cI a) (σ := σ) (As := []) (rest := []) (q0 := 0) ⟨hx, hb, hml, hown, hts⟩ hG hP hS hsz hE hnt hlk (xc_X5_needRoom_x l D cI a H.size σ  hx0 hlf) (cwV 0 hts gX5_put_X5_needRoom rfl rfl rfl (by decide +kernel) ⟨Nat.le_of_ble_eq_true rfl, Nat.le_of_ble_eq_true rfl⟩) rfl rfl rfl rfl hl.1 rfl (Nat.le_of_ble_eq_true rfl) ⟨Nat.le_of_ble_eq_true rfl, Nat.le_of_ble_eq_true rfl⟩ dX5_put_9 ⟨Nat.le_of_ble_eq_true rfl, Nat.le_of_ble_eq_true rfl⟩
set_option maxHeartbeats 4000000 in
set_option maxRecDepth 100000 in
theorem xc_X5_take_x1 (l : Launch) (D : va_G) (cI : ClassId) (a : Nat → Nat) (sz : Nat) (σ : Sg) (cy : Int32) (hx0 : ¬ (vp_in cy 30)) (hlf : l.stackTraces = false) : vx_Met l yX5_take wsX5_take ({ frames := 7, cells := 1, slots := 6, locals := 102 }) (PcE D cI 29 a (wX cI a) sz σ [.ref (a 0), .int cy]) (QxI 29 a sz) (XE D 29 a (wX cI a) sz σ "java/lang/IndexOutOfBoundsException") 1 6 (AX 29 a sz) := by
  refine x_ofE (cc := cX5_take) (maxL := 2) (ret := some .boolean) (C := RX5) rfl (by decide) rfl (Nat.le_of_ble_eq_true rfl) (fun p e s m below meth c hx hb hr hml hlk hts hown hsz hnt hE H hP hS hG ls hl => ?_)
  have hl : lv_has ls 2 [(0, .ref (a 0)), (1, .int cy)] := hl
  refine lv_iload_n hx hb dX5_take_0 rfl (lv_at hl 1 rfl) ?_
  exact x_outS (w := wX cI a) (σ := σ) (As := [.int cy]) (rest := []) ⟨hx, hb, hml, hown, hts⟩ hG hP hS hsz hE hnt hlk (xc_X5_needCycle_x l D cI a H.size σ cy hx0 hlf) (va_cwS 1 hts gX5_take_X5_needCycle rfl rfl rfl (by decide +kernel) ⟨Nat.le_of_ble_eq_true rfl, Nat.le_of_ble_eq_true rfl⟩) rfl hl.1 rfl (Nat.le_of_ble_eq_true rfl) ⟨Nat.le_of_ble_eq_true rfl, Nat.le_of_ble_eq_true rfl⟩ dX5_take_1 ⟨Nat.le_of_ble_eq_true rfl, Nat.le_of_ble_eq_true rfl⟩
set_option maxHeartbeats 4000000 in
set_option maxRecDepth 100000 in
theorem xc_X5_take_x5 (l : Launch) (D : va_G) (cI : ClassId) (a : Nat → Nat) (sz : Nat) (σ : Sg) (cy : Int32) (hc : vp_in cy 30) (hx0 : ¬ (r_X4_isFull σ = 0)) (hlf : l.stackTraces = false) : vx_Met l yX5_take wsX5_take ({ frames := 7, cells := 1, slots := 6, locals := 102 }) (PcE D cI 29 a (wX cI a) sz σ [.ref (a 0), .int cy]) (QxI 29 a sz) (XE D 29 a (wX cI a) sz σ "java/lang/IllegalStateException") 1 6 (AX 29 a sz) := by
  refine x_ofE (cc := cX5_take) (maxL := 2) (ret := some .boolean) (C := RX5) rfl (by decide) rfl (Nat.le_of_ble_eq_true rfl) (fun p e s m below meth c hx hb hr hml hlk hts hown hsz hnt hE H hP hS hG ls hl => ?_)
  have hl : lv_has ls 2 [(0, .ref (a 0)), (1, .int cy)] := hl
  refine lv_iload_n hx hb dX5_take_0 rfl (lv_at hl 1 rfl) ?_
  refine x_callSv (w := wX cI a) (σ := σ) (σ' := σ) (As := [.int cy]) (rest := []) ⟨hx, hb, hml, hown, hts⟩ hG hP hS hsz (c_X5_needCycle l D cI a H.size σ cy hc) (va_cwS 1 hts gX5_take_X5_needCycle rfl rfl rfl (by decide +kernel) ⟨Nat.le_of_ble_eq_true rfl, Nat.le_of_ble_eq_true rfl⟩) rfl hl.1 rfl (Nat.le_of_ble_eq_true rfl) ⟨Nat.zero_le _, Nat.zero_le _⟩ dX5_take_1 (fun H locs hP hS => ?_)
  refine lv_aload_n hx hb dX5_take_4 rfl (lv_at hl 0 rfl) ?_
  exact x_outV (w := wX cI a) (σ := σ) (As := []) (rest := []) (q0 := 0) ⟨hx, hb, hml, hown, hts⟩ hG hP hS hsz hE hnt hlk (xc_X5_needRoom_x l D cI a H.size σ  hx0 hlf) (cwV 0 hts gX5_take_X5_needRoom rfl rfl rfl (by decide +kernel) ⟨Nat.le_of_ble_eq_true rfl, Nat.le_of_ble_eq_true rfl⟩) rfl rfl rfl rfl hl.1 rfl (Nat.le_of_ble_eq_true rfl) ⟨Nat.le_of_ble_eq_true rfl, Nat.le_of_ble_eq_true rfl⟩ dX5_take_5 ⟨Nat.le_of_ble_eq_true rfl, Nat.le_of_ble_eq_true rfl⟩
set_option maxHeartbeats 4000000 in
set_option maxRecDepth 100000 in
theorem xc_X5_unlocked_x1 (l : Launch) (D : va_G) (cI : ClassId) (a : Nat → Nat) (sz : Nat) (σ : Sg) (cy : Int32) (ri : Int32) (wh : Int32) (hx0 : ¬ (vp_in cy 30)) (hlf : l.stackTraces = false) : vx_Met l yX5_unlocked wsX5_unlocked ({ frames := 7, cells := 1, slots := 6, locals := 102 }) (PcE D cI 29 a (wX cI a) sz σ [.ref (a 0), .int cy, .int ri, .int wh]) (QxI 29 a sz) (XE D 29 a (wX cI a) sz σ "java/lang/IndexOutOfBoundsException") 1 6 (AX 29 a sz) := by
  refine x_ofE (cc := cX5_unlocked) (maxL := 4) (ret := some .boolean) (C := RX5) rfl (by decide) rfl (Nat.le_of_ble_eq_true rfl) (fun p e s m below meth c hx hb hr hml hlk hts hown hsz hnt hE H hP hS hG ls hl => ?_)
  have hl : lv_has ls 4 [(0, .ref (a 0)), (1, .int cy), (2, .int ri), (3, .int wh)] := hl
  refine lv_iload_n hx hb dX5_unlocked_0 rfl (lv_at hl 1 rfl) ?_
  exact x_outS (w := wX cI a) (σ := σ) (As := [.int cy]) (rest := []) ⟨hx, hb, hml, hown, hts⟩ hG hP hS hsz hE hnt hlk (xc_X5_needCycle_x l D cI a H.size σ cy hx0 hlf) (va_cwS 1 hts gX5_unlocked_X5_needCycle rfl rfl rfl (by decide +kernel) ⟨Nat.le_of_ble_eq_true rfl, Nat.le_of_ble_eq_true rfl⟩) rfl hl.1 rfl (Nat.le_of_ble_eq_true rfl) ⟨Nat.le_of_ble_eq_true rfl, Nat.le_of_ble_eq_true rfl⟩ dX5_unlocked_1 ⟨Nat.le_of_ble_eq_true rfl, Nat.le_of_ble_eq_true rfl⟩
set_option maxHeartbeats 4000000 in
set_option maxRecDepth 100000 in
theorem xc_X5_unlocked_x5 (l : Launch) (D : va_G) (cI : ClassId) (a : Nat → Nat) (sz : Nat) (σ : Sg) (cy : Int32) (ri : Int32) (wh : Int32) (hc : vp_in cy 30) (hx0 : ¬ (vp_in ri 10)) (hlf : l.stackTraces = false) : vx_Met l yX5_unlocked wsX5_unlocked ({ frames := 7, cells := 1, slots := 6, locals := 102 }) (PcE D cI 29 a (wX cI a) sz σ [.ref (a 0), .int cy, .int ri, .int wh]) (QxI 29 a sz) (XE D 29 a (wX cI a) sz σ "java/lang/IndexOutOfBoundsException") 1 6 (AX 29 a sz) := by
  refine x_ofE (cc := cX5_unlocked) (maxL := 4) (ret := some .boolean) (C := RX5) rfl (by decide) rfl (Nat.le_of_ble_eq_true rfl) (fun p e s m below meth c hx hb hr hml hlk hts hown hsz hnt hE H hP hS hG ls hl => ?_)
  have hl : lv_has ls 4 [(0, .ref (a 0)), (1, .int cy), (2, .int ri), (3, .int wh)] := hl
  refine lv_iload_n hx hb dX5_unlocked_0 rfl (lv_at hl 1 rfl) ?_
  refine x_callSv (w := wX cI a) (σ := σ) (σ' := σ) (As := [.int cy]) (rest := []) ⟨hx, hb, hml, hown, hts⟩ hG hP hS hsz (c_X5_needCycle l D cI a H.size σ cy hc) (va_cwS 1 hts gX5_unlocked_X5_needCycle rfl rfl rfl (by decide +kernel) ⟨Nat.le_of_ble_eq_true rfl, Nat.le_of_ble_eq_true rfl⟩) rfl hl.1 rfl (Nat.le_of_ble_eq_true rfl) ⟨Nat.zero_le _, Nat.zero_le _⟩ dX5_unlocked_1 (fun H locs hP hS => ?_)
  refine lv_iload_n hx hb dX5_unlocked_4 rfl (lv_at hl 2 rfl) ?_
  exact x_outS (w := wX cI a) (σ := σ) (As := [.int ri]) (rest := []) ⟨hx, hb, hml, hown, hts⟩ hG hP hS hsz hE hnt hlk (xc_X5_needRider_x l D cI a H.size σ ri hx0 hlf) (va_cwS 1 hts gX5_unlocked_X5_needRider rfl rfl rfl (by decide +kernel) ⟨Nat.le_of_ble_eq_true rfl, Nat.le_of_ble_eq_true rfl⟩) rfl hl.1 rfl (Nat.le_of_ble_eq_true rfl) ⟨Nat.le_of_ble_eq_true rfl, Nat.le_of_ble_eq_true rfl⟩ dX5_unlocked_5 ⟨Nat.le_of_ble_eq_true rfl, Nat.le_of_ble_eq_true rfl⟩
set_option maxHeartbeats 4000000 in
set_option maxRecDepth 100000 in
theorem xc_X5_unlocked_x10 (l : Launch) (D : va_G) (cI : ClassId) (a : Nat → Nat) (sz : Nat) (σ : Sg) (cy : Int32) (ri : Int32) (wh : Int32) (hc : vp_in cy 30) (hr1 : vp_in ri 10) (hx0 : ¬ (hW σ wh)) (hlf : l.stackTraces = false) : vx_Met l yX5_unlocked wsX5_unlocked ({ frames := 7, cells := 1, slots := 6, locals := 103 }) (PcE D cI 29 a (wX cI a) sz σ [.ref (a 0), .int cy, .int ri, .int wh]) (QxI 29 a sz) (XE D 29 a (wX cI a) sz σ "java/lang/IllegalArgumentException") 1 6 (AX 29 a sz) := by
  refine x_ofE (cc := cX5_unlocked) (maxL := 4) (ret := some .boolean) (C := RX5) rfl (by decide) rfl (Nat.le_of_ble_eq_true rfl) (fun p e s m below meth c hx hb hr hml hlk hts hown hsz hnt hE H hP hS hG ls hl => ?_)
  have hl : lv_has ls 4 [(0, .ref (a 0)), (1, .int cy), (2, .int ri), (3, .int wh)] := hl
  refine lv_iload_n hx hb dX5_unlocked_0 rfl (lv_at hl 1 rfl) ?_
  refine x_callSv (w := wX cI a) (σ := σ) (σ' := σ) (As := [.int cy]) (rest := []) ⟨hx, hb, hml, hown, hts⟩ hG hP hS hsz (c_X5_needCycle l D cI a H.size σ cy hc) (va_cwS 1 hts gX5_unlocked_X5_needCycle rfl rfl rfl (by decide +kernel) ⟨Nat.le_of_ble_eq_true rfl, Nat.le_of_ble_eq_true rfl⟩) rfl hl.1 rfl (Nat.le_of_ble_eq_true rfl) ⟨Nat.zero_le _, Nat.zero_le _⟩ dX5_unlocked_1 (fun H locs hP hS => ?_)
  refine lv_iload_n hx hb dX5_unlocked_4 rfl (lv_at hl 2 rfl) ?_
  refine x_callSv (w := wX cI a) (σ := σ) (σ' := σ) (As := [.int ri]) (rest := []) ⟨hx, hb, hml, hown, hts⟩ hG hP hS hsz (c_X5_needRider l D cI a H.size σ ri hr1) (va_cwS 1 hts gX5_unlocked_X5_needRider rfl rfl rfl (by decide +kernel) ⟨Nat.le_of_ble_eq_true rfl, Nat.le_of_ble_eq_true rfl⟩) rfl hl.1 rfl (Nat.le_of_ble_eq_true rfl) ⟨Nat.zero_le _, Nat.zero_le _⟩ dX5_unlocked_5 (fun H locs hP hS => ?_)
  refine lv_aload_n hx hb dX5_unlocked_8 rfl (lv_at hl 0 rfl) ?_
  refine lv_iload_n hx hb dX5_unlocked_9 rfl (lv_at hl 3 rfl) ?_
  exact x_outV (w := wX cI a) (σ := σ) (As := [.int wh]) (rest := []) (q0 := 0) ⟨hx, hb, hml, hown, hts⟩ hG hP hS hsz hE hnt hlk (xc_X5_needHearableMinute_x l D cI a H.size σ wh hx0 hlf) (cwV 1 hts gX5_unlocked_X5_needHearableMinute rfl rfl rfl (by decide +kernel) ⟨Nat.le_of_ble_eq_true rfl, Nat.le_of_ble_eq_true rfl⟩) rfl rfl rfl rfl hl.1 rfl (Nat.le_of_ble_eq_true rfl) ⟨Nat.le_of_ble_eq_true rfl, Nat.le_of_ble_eq_true rfl⟩ dX5_unlocked_10 ⟨Nat.le_of_ble_eq_true rfl, Nat.le_of_ble_eq_true rfl⟩
set_option maxHeartbeats 4000000 in
set_option maxRecDepth 100000 in
theorem xc_X5_unlocked_x14 (l : Launch) (D : va_G) (cI : ClassId) (a : Nat → Nat) (sz : Nat) (σ : Sg) (cy : Int32) (ri : Int32) (wh : Int32) (hc : vp_in cy 30) (hr1 : vp_in ri 10) (hv : hW σ wh) (hx0 : ¬ (r_X4_isFull σ = 0)) (hlf : l.stackTraces = false) : vx_Met l yX5_unlocked wsX5_unlocked ({ frames := 7, cells := 1, slots := 6, locals := 102 }) (PcE D cI 29 a (wX cI a) sz σ [.ref (a 0), .int cy, .int ri, .int wh]) (QxI 29 a sz) (XE D 29 a (wX cI a) sz σ "java/lang/IllegalStateException") 1 6 (AX 29 a sz) := by
  refine x_ofE (cc := cX5_unlocked) (maxL := 4) (ret := some .boolean) (C := RX5) rfl (by decide) rfl (Nat.le_of_ble_eq_true rfl) (fun p e s m below meth c hx hb hr hml hlk hts hown hsz hnt hE H hP hS hG ls hl => ?_)
  have hl : lv_has ls 4 [(0, .ref (a 0)), (1, .int cy), (2, .int ri), (3, .int wh)] := hl
  refine lv_iload_n hx hb dX5_unlocked_0 rfl (lv_at hl 1 rfl) ?_
  refine x_callSv (w := wX cI a) (σ := σ) (σ' := σ) (As := [.int cy]) (rest := []) ⟨hx, hb, hml, hown, hts⟩ hG hP hS hsz (c_X5_needCycle l D cI a H.size σ cy hc) (va_cwS 1 hts gX5_unlocked_X5_needCycle rfl rfl rfl (by decide +kernel) ⟨Nat.le_of_ble_eq_true rfl, Nat.le_of_ble_eq_true rfl⟩) rfl hl.1 rfl (Nat.le_of_ble_eq_true rfl) ⟨Nat.zero_le _, Nat.zero_le _⟩ dX5_unlocked_1 (fun H locs hP hS => ?_)
  refine lv_iload_n hx hb dX5_unlocked_4 rfl (lv_at hl 2 rfl) ?_
  refine x_callSv (w := wX cI a) (σ := σ) (σ' := σ) (As := [.int ri]) (rest := []) ⟨hx, hb, hml, hown, hts⟩ hG hP hS hsz (c_X5_needRider l D cI a H.size σ ri hr1) (va_cwS 1 hts gX5_unlocked_X5_needRider rfl rfl rfl (by decide +kernel) ⟨Nat.le_of_ble_eq_true rfl, Nat.le_of_ble_eq_true rfl⟩) rfl hl.1 rfl (Nat.le_of_ble_eq_true rfl) ⟨Nat.zero_le _, Nat.zero_le _⟩ dX5_unlocked_5 (fun H locs hP hS => ?_)
  refine lv_aload_n hx hb dX5_unlocked_8 rfl (lv_at hl 0 rfl) ?_
  refine lv_iload_n hx hb dX5_unlocked_9 rfl (lv_at hl 3 rfl) ?_
  refine x_callVv (w := wX cI a) (σ := σ) (σ' := σ) (As := [.int wh]) (rest := []) (q0 := 0) ⟨hx, hb, hml, hown, hts⟩ hG hP hS hsz (c_X5_needHearableMinute l D cI a H.size σ wh hv) (cwV 1 hts gX5_unlocked_X5_needHearableMinute rfl rfl rfl (by decide +kernel) ⟨Nat.le_of_ble_eq_true rfl, Nat.le_of_ble_eq_true rfl⟩) rfl rfl rfl rfl hl.1 rfl (Nat.le_of_ble_eq_true rfl) ⟨Nat.zero_le _, Nat.zero_le _⟩ dX5_unlocked_10 (fun H locs hP hS => ?_)
  refine lv_aload_n hx hb dX5_unlocked_13 rfl (lv_at hl 0 rfl) ?_
  exact x_outV (w := wX cI a) (σ := σ) (As := []) (rest := []) (q0 := 0) ⟨hx, hb, hml, hown, hts⟩ hG hP hS hsz hE hnt hlk (xc_X5_needRoom_x l D cI a H.size σ  hx0 hlf) (cwV 0 hts gX5_unlocked_X5_needRoom rfl rfl rfl (by decide +kernel) ⟨Nat.le_of_ble_eq_true rfl, Nat.le_of_ble_eq_true rfl⟩) rfl rfl rfl rfl hl.1 rfl (Nat.le_of_ble_eq_true rfl) ⟨Nat.le_of_ble_eq_true rfl, Nat.le_of_ble_eq_true rfl⟩ dX5_unlocked_14 ⟨Nat.le_of_ble_eq_true rfl, Nat.le_of_ble_eq_true rfl⟩
set_option maxHeartbeats 4000000 in
set_option maxRecDepth 100000 in
theorem xc_X5_locked_x1 (l : Launch) (D : va_G) (cI : ClassId) (a : Nat → Nat) (sz : Nat) (σ : Sg) (cy : Int32) (st : Int32) (wh : Int32) (hx0 : ¬ (vp_in cy 30)) (hlf : l.stackTraces = false) : vx_Met l yX5_locked wsX5_locked ({ frames := 7, cells := 1, slots := 6, locals := 102 }) (PcE D cI 29 a (wX cI a) sz σ [.ref (a 0), .int cy, .int st, .int wh]) (QxI 29 a sz) (XE D 29 a (wX cI a) sz σ "java/lang/IndexOutOfBoundsException") 1 6 (AX 29 a sz) := by
  refine x_ofE (cc := cX5_locked) (maxL := 4) (ret := some .boolean) (C := RX5) rfl (by decide) rfl (Nat.le_of_ble_eq_true rfl) (fun p e s m below meth c hx hb hr hml hlk hts hown hsz hnt hE H hP hS hG ls hl => ?_)
  have hl : lv_has ls 4 [(0, .ref (a 0)), (1, .int cy), (2, .int st), (3, .int wh)] := hl
  refine lv_iload_n hx hb dX5_locked_0 rfl (lv_at hl 1 rfl) ?_
  exact x_outS (w := wX cI a) (σ := σ) (As := [.int cy]) (rest := []) ⟨hx, hb, hml, hown, hts⟩ hG hP hS hsz hE hnt hlk (xc_X5_needCycle_x l D cI a H.size σ cy hx0 hlf) (va_cwS 1 hts gX5_locked_X5_needCycle rfl rfl rfl (by decide +kernel) ⟨Nat.le_of_ble_eq_true rfl, Nat.le_of_ble_eq_true rfl⟩) rfl hl.1 rfl (Nat.le_of_ble_eq_true rfl) ⟨Nat.le_of_ble_eq_true rfl, Nat.le_of_ble_eq_true rfl⟩ dX5_locked_1 ⟨Nat.le_of_ble_eq_true rfl, Nat.le_of_ble_eq_true rfl⟩
set_option maxHeartbeats 4000000 in
set_option maxRecDepth 100000 in
theorem xc_X5_locked_x5 (l : Launch) (D : va_G) (cI : ClassId) (a : Nat → Nat) (sz : Nat) (σ : Sg) (cy : Int32) (st : Int32) (wh : Int32) (hc : vp_in cy 30) (hx0 : ¬ (vp_in st 8)) (hlf : l.stackTraces = false) : vx_Met l yX5_locked wsX5_locked ({ frames := 7, cells := 1, slots := 6, locals := 102 }) (PcE D cI 29 a (wX cI a) sz σ [.ref (a 0), .int cy, .int st, .int wh]) (QxI 29 a sz) (XE D 29 a (wX cI a) sz σ "java/lang/IndexOutOfBoundsException") 1 6 (AX 29 a sz) := by
  refine x_ofE (cc := cX5_locked) (maxL := 4) (ret := some .boolean) (C := RX5) rfl (by decide) rfl (Nat.le_of_ble_eq_true rfl) (fun p e s m below meth c hx hb hr hml hlk hts hown hsz hnt hE H hP hS hG ls hl => ?_)
  have hl : lv_has ls 4 [(0, .ref (a 0)), (1, .int cy), (2, .int st), (3, .int wh)] := hl
  refine lv_iload_n hx hb dX5_locked_0 rfl (lv_at hl 1 rfl) ?_
  refine x_callSv (w := wX cI a) (σ := σ) (σ' := σ) (As := [.int cy]) (rest := []) ⟨hx, hb, hml, hown, hts⟩ hG hP hS hsz (c_X5_needCycle l D cI a H.size σ cy hc) (va_cwS 1 hts gX5_locked_X5_needCycle rfl rfl rfl (by decide +kernel) ⟨Nat.le_of_ble_eq_true rfl, Nat.le_of_ble_eq_true rfl⟩) rfl hl.1 rfl (Nat.le_of_ble_eq_true rfl) ⟨Nat.zero_le _, Nat.zero_le _⟩ dX5_locked_1 (fun H locs hP hS => ?_)
  refine lv_iload_n hx hb dX5_locked_4 rfl (lv_at hl 2 rfl) ?_
  exact x_outS (w := wX cI a) (σ := σ) (As := [.int st]) (rest := []) ⟨hx, hb, hml, hown, hts⟩ hG hP hS hsz hE hnt hlk (xc_X5_needStation_x l D cI a H.size σ st hx0 hlf) (va_cwS 1 hts gX5_locked_X5_needStation rfl rfl rfl (by decide +kernel) ⟨Nat.le_of_ble_eq_true rfl, Nat.le_of_ble_eq_true rfl⟩) rfl hl.1 rfl (Nat.le_of_ble_eq_true rfl) ⟨Nat.le_of_ble_eq_true rfl, Nat.le_of_ble_eq_true rfl⟩ dX5_locked_5 ⟨Nat.le_of_ble_eq_true rfl, Nat.le_of_ble_eq_true rfl⟩
set_option maxHeartbeats 4000000 in
set_option maxRecDepth 100000 in
theorem xc_X5_locked_x10 (l : Launch) (D : va_G) (cI : ClassId) (a : Nat → Nat) (sz : Nat) (σ : Sg) (cy : Int32) (st : Int32) (wh : Int32) (hc : vp_in cy 30) (hs : vp_in st 8) (hx0 : ¬ (hW σ wh)) (hlf : l.stackTraces = false) : vx_Met l yX5_locked wsX5_locked ({ frames := 7, cells := 1, slots := 6, locals := 103 }) (PcE D cI 29 a (wX cI a) sz σ [.ref (a 0), .int cy, .int st, .int wh]) (QxI 29 a sz) (XE D 29 a (wX cI a) sz σ "java/lang/IllegalArgumentException") 1 6 (AX 29 a sz) := by
  refine x_ofE (cc := cX5_locked) (maxL := 4) (ret := some .boolean) (C := RX5) rfl (by decide) rfl (Nat.le_of_ble_eq_true rfl) (fun p e s m below meth c hx hb hr hml hlk hts hown hsz hnt hE H hP hS hG ls hl => ?_)
  have hl : lv_has ls 4 [(0, .ref (a 0)), (1, .int cy), (2, .int st), (3, .int wh)] := hl
  refine lv_iload_n hx hb dX5_locked_0 rfl (lv_at hl 1 rfl) ?_
  refine x_callSv (w := wX cI a) (σ := σ) (σ' := σ) (As := [.int cy]) (rest := []) ⟨hx, hb, hml, hown, hts⟩ hG hP hS hsz (c_X5_needCycle l D cI a H.size σ cy hc) (va_cwS 1 hts gX5_locked_X5_needCycle rfl rfl rfl (by decide +kernel) ⟨Nat.le_of_ble_eq_true rfl, Nat.le_of_ble_eq_true rfl⟩) rfl hl.1 rfl (Nat.le_of_ble_eq_true rfl) ⟨Nat.zero_le _, Nat.zero_le _⟩ dX5_locked_1 (fun H locs hP hS => ?_)
  refine lv_iload_n hx hb dX5_locked_4 rfl (lv_at hl 2 rfl) ?_
  refine x_callSv (w := wX cI a) (σ := σ) (σ' := σ) (As := [.int st]) (rest := []) ⟨hx, hb, hml, hown, hts⟩ hG hP hS hsz (c_X5_needStation l D cI a H.size σ st hs) (va_cwS 1 hts gX5_locked_X5_needStation rfl rfl rfl (by decide +kernel) ⟨Nat.le_of_ble_eq_true rfl, Nat.le_of_ble_eq_true rfl⟩) rfl hl.1 rfl (Nat.le_of_ble_eq_true rfl) ⟨Nat.zero_le _, Nat.zero_le _⟩ dX5_locked_5 (fun H locs hP hS => ?_)
  refine lv_aload_n hx hb dX5_locked_8 rfl (lv_at hl 0 rfl) ?_
  refine lv_iload_n hx hb dX5_locked_9 rfl (lv_at hl 3 rfl) ?_
  exact x_outV (w := wX cI a) (σ := σ) (As := [.int wh]) (rest := []) (q0 := 0) ⟨hx, hb, hml, hown, hts⟩ hG hP hS hsz hE hnt hlk (xc_X5_needHearableMinute_x l D cI a H.size σ wh hx0 hlf) (cwV 1 hts gX5_locked_X5_needHearableMinute rfl rfl rfl (by decide +kernel) ⟨Nat.le_of_ble_eq_true rfl, Nat.le_of_ble_eq_true rfl⟩) rfl rfl rfl rfl hl.1 rfl (Nat.le_of_ble_eq_true rfl) ⟨Nat.le_of_ble_eq_true rfl, Nat.le_of_ble_eq_true rfl⟩ dX5_locked_10 ⟨Nat.le_of_ble_eq_true rfl, Nat.le_of_ble_eq_true rfl⟩
set_option maxHeartbeats 4000000 in
set_option maxRecDepth 100000 in
theorem xc_X5_locked_x14 (l : Launch) (D : va_G) (cI : ClassId) (a : Nat → Nat) (sz : Nat) (σ : Sg) (cy : Int32) (st : Int32) (wh : Int32) (hc : vp_in cy 30) (hs : vp_in st 8) (hv : hW σ wh) (hx0 : ¬ (r_X4_isFull σ = 0)) (hlf : l.stackTraces = false) : vx_Met l yX5_locked wsX5_locked ({ frames := 7, cells := 1, slots := 6, locals := 102 }) (PcE D cI 29 a (wX cI a) sz σ [.ref (a 0), .int cy, .int st, .int wh]) (QxI 29 a sz) (XE D 29 a (wX cI a) sz σ "java/lang/IllegalStateException") 1 6 (AX 29 a sz) := by
  refine x_ofE (cc := cX5_locked) (maxL := 4) (ret := some .boolean) (C := RX5) rfl (by decide) rfl (Nat.le_of_ble_eq_true rfl) (fun p e s m below meth c hx hb hr hml hlk hts hown hsz hnt hE H hP hS hG ls hl => ?_)
  have hl : lv_has ls 4 [(0, .ref (a 0)), (1, .int cy), (2, .int st), (3, .int wh)] := hl
  refine lv_iload_n hx hb dX5_locked_0 rfl (lv_at hl 1 rfl) ?_
  refine x_callSv (w := wX cI a) (σ := σ) (σ' := σ) (As := [.int cy]) (rest := []) ⟨hx, hb, hml, hown, hts⟩ hG hP hS hsz (c_X5_needCycle l D cI a H.size σ cy hc) (va_cwS 1 hts gX5_locked_X5_needCycle rfl rfl rfl (by decide +kernel) ⟨Nat.le_of_ble_eq_true rfl, Nat.le_of_ble_eq_true rfl⟩) rfl hl.1 rfl (Nat.le_of_ble_eq_true rfl) ⟨Nat.zero_le _, Nat.zero_le _⟩ dX5_locked_1 (fun H locs hP hS => ?_)
  refine lv_iload_n hx hb dX5_locked_4 rfl (lv_at hl 2 rfl) ?_
  refine x_callSv (w := wX cI a) (σ := σ) (σ' := σ) (As := [.int st]) (rest := []) ⟨hx, hb, hml, hown, hts⟩ hG hP hS hsz (c_X5_needStation l D cI a H.size σ st hs) (va_cwS 1 hts gX5_locked_X5_needStation rfl rfl rfl (by decide +kernel) ⟨Nat.le_of_ble_eq_true rfl, Nat.le_of_ble_eq_true rfl⟩) rfl hl.1 rfl (Nat.le_of_ble_eq_true rfl) ⟨Nat.zero_le _, Nat.zero_le _⟩ dX5_locked_5 (fun H locs hP hS => ?_)
  refine lv_aload_n hx hb dX5_locked_8 rfl (lv_at hl 0 rfl) ?_
  refine lv_iload_n hx hb dX5_locked_9 rfl (lv_at hl 3 rfl) ?_
  refine x_callVv (w := wX cI a) (σ := σ) (σ' := σ) (As := [.int wh]) (rest := []) (q0 := 0) ⟨hx, hb, hml, hown, hts⟩ hG hP hS hsz (c_X5_needHearableMinute l D cI a H.size σ wh hv) (cwV 1 hts gX5_locked_X5_needHearableMinute rfl rfl rfl (by decide +kernel) ⟨Nat.le_of_ble_eq_true rfl, Nat.le_of_ble_eq_true rfl⟩) rfl rfl rfl rfl hl.1 rfl (Nat.le_of_ble_eq_true rfl) ⟨Nat.zero_le _, Nat.zero_le _⟩ dX5_locked_10 (fun H locs hP hS => ?_)
  refine lv_aload_n hx hb dX5_locked_13 rfl (lv_at hl 0 rfl) ?_
  exact x_outV (w := wX cI a) (σ := σ) (As := []) (rest := []) (q0 := 0) ⟨hx, hb, hml, hown, hts⟩ hG hP hS hsz hE hnt hlk (xc_X5_needRoom_x l D cI a H.size σ  hx0 hlf) (cwV 0 hts gX5_locked_X5_needRoom rfl rfl rfl (by decide +kernel) ⟨Nat.le_of_ble_eq_true rfl, Nat.le_of_ble_eq_true rfl⟩) rfl rfl rfl rfl hl.1 rfl (Nat.le_of_ble_eq_true rfl) ⟨Nat.le_of_ble_eq_true rfl, Nat.le_of_ble_eq_true rfl⟩ dX5_locked_14 ⟨Nat.le_of_ble_eq_true rfl, Nat.le_of_ble_eq_true rfl⟩
set_option maxHeartbeats 4000000 in
set_option maxRecDepth 100000 in
theorem xc_X5_faulty_x1 (l : Launch) (D : va_G) (cI : ClassId) (a : Nat → Nat) (sz : Nat) (σ : Sg) (cy : Int32) (ri : Int32) (wh : Int32) (hx0 : ¬ (vp_in cy 30)) (hlf : l.stackTraces = false) : vx_Met l yX5_faulty wsX5_faulty ({ frames := 7, cells := 1, slots := 6, locals := 102 }) (PcE D cI 29 a (wX cI a) sz σ [.ref (a 0), .int cy, .int ri, .int wh]) (QxI 29 a sz) (XE D 29 a (wX cI a) sz σ "java/lang/IndexOutOfBoundsException") 1 6 (AX 29 a sz) := by
  refine x_ofE (cc := cX5_faulty) (maxL := 4) (ret := some .boolean) (C := RX5) rfl (by decide) rfl (Nat.le_of_ble_eq_true rfl) (fun p e s m below meth c hx hb hr hml hlk hts hown hsz hnt hE H hP hS hG ls hl => ?_)
  have hl : lv_has ls 4 [(0, .ref (a 0)), (1, .int cy), (2, .int ri), (3, .int wh)] := hl
  refine lv_iload_n hx hb dX5_faulty_0 rfl (lv_at hl 1 rfl) ?_
  exact x_outS (w := wX cI a) (σ := σ) (As := [.int cy]) (rest := []) ⟨hx, hb, hml, hown, hts⟩ hG hP hS hsz hE hnt hlk (xc_X5_needCycle_x l D cI a H.size σ cy hx0 hlf) (va_cwS 1 hts gX5_faulty_X5_needCycle rfl rfl rfl (by decide +kernel) ⟨Nat.le_of_ble_eq_true rfl, Nat.le_of_ble_eq_true rfl⟩) rfl hl.1 rfl (Nat.le_of_ble_eq_true rfl) ⟨Nat.le_of_ble_eq_true rfl, Nat.le_of_ble_eq_true rfl⟩ dX5_faulty_1 ⟨Nat.le_of_ble_eq_true rfl, Nat.le_of_ble_eq_true rfl⟩
set_option maxHeartbeats 4000000 in
set_option maxRecDepth 100000 in
theorem xc_X5_faulty_x5 (l : Launch) (D : va_G) (cI : ClassId) (a : Nat → Nat) (sz : Nat) (σ : Sg) (cy : Int32) (ri : Int32) (wh : Int32) (hc : vp_in cy 30) (hx0 : ¬ (vp_in ri 10)) (hlf : l.stackTraces = false) : vx_Met l yX5_faulty wsX5_faulty ({ frames := 7, cells := 1, slots := 6, locals := 102 }) (PcE D cI 29 a (wX cI a) sz σ [.ref (a 0), .int cy, .int ri, .int wh]) (QxI 29 a sz) (XE D 29 a (wX cI a) sz σ "java/lang/IndexOutOfBoundsException") 1 6 (AX 29 a sz) := by
  refine x_ofE (cc := cX5_faulty) (maxL := 4) (ret := some .boolean) (C := RX5) rfl (by decide) rfl (Nat.le_of_ble_eq_true rfl) (fun p e s m below meth c hx hb hr hml hlk hts hown hsz hnt hE H hP hS hG ls hl => ?_)
  have hl : lv_has ls 4 [(0, .ref (a 0)), (1, .int cy), (2, .int ri), (3, .int wh)] := hl
  refine lv_iload_n hx hb dX5_faulty_0 rfl (lv_at hl 1 rfl) ?_
  refine x_callSv (w := wX cI a) (σ := σ) (σ' := σ) (As := [.int cy]) (rest := []) ⟨hx, hb, hml, hown, hts⟩ hG hP hS hsz (c_X5_needCycle l D cI a H.size σ cy hc) (va_cwS 1 hts gX5_faulty_X5_needCycle rfl rfl rfl (by decide +kernel) ⟨Nat.le_of_ble_eq_true rfl, Nat.le_of_ble_eq_true rfl⟩) rfl hl.1 rfl (Nat.le_of_ble_eq_true rfl) ⟨Nat.zero_le _, Nat.zero_le _⟩ dX5_faulty_1 (fun H locs hP hS => ?_)
  refine lv_iload_n hx hb dX5_faulty_4 rfl (lv_at hl 2 rfl) ?_
  exact x_outS (w := wX cI a) (σ := σ) (As := [.int ri]) (rest := []) ⟨hx, hb, hml, hown, hts⟩ hG hP hS hsz hE hnt hlk (xc_X5_needRider_x l D cI a H.size σ ri hx0 hlf) (va_cwS 1 hts gX5_faulty_X5_needRider rfl rfl rfl (by decide +kernel) ⟨Nat.le_of_ble_eq_true rfl, Nat.le_of_ble_eq_true rfl⟩) rfl hl.1 rfl (Nat.le_of_ble_eq_true rfl) ⟨Nat.le_of_ble_eq_true rfl, Nat.le_of_ble_eq_true rfl⟩ dX5_faulty_5 ⟨Nat.le_of_ble_eq_true rfl, Nat.le_of_ble_eq_true rfl⟩
set_option maxHeartbeats 4000000 in
set_option maxRecDepth 100000 in
theorem xc_X5_faulty_x10 (l : Launch) (D : va_G) (cI : ClassId) (a : Nat → Nat) (sz : Nat) (σ : Sg) (cy : Int32) (ri : Int32) (wh : Int32) (hc : vp_in cy 30) (hr1 : vp_in ri 10) (hx0 : ¬ (hW σ wh)) (hlf : l.stackTraces = false) : vx_Met l yX5_faulty wsX5_faulty ({ frames := 7, cells := 1, slots := 6, locals := 103 }) (PcE D cI 29 a (wX cI a) sz σ [.ref (a 0), .int cy, .int ri, .int wh]) (QxI 29 a sz) (XE D 29 a (wX cI a) sz σ "java/lang/IllegalArgumentException") 1 6 (AX 29 a sz) := by
  refine x_ofE (cc := cX5_faulty) (maxL := 4) (ret := some .boolean) (C := RX5) rfl (by decide) rfl (Nat.le_of_ble_eq_true rfl) (fun p e s m below meth c hx hb hr hml hlk hts hown hsz hnt hE H hP hS hG ls hl => ?_)
  have hl : lv_has ls 4 [(0, .ref (a 0)), (1, .int cy), (2, .int ri), (3, .int wh)] := hl
  refine lv_iload_n hx hb dX5_faulty_0 rfl (lv_at hl 1 rfl) ?_
  refine x_callSv (w := wX cI a) (σ := σ) (σ' := σ) (As := [.int cy]) (rest := []) ⟨hx, hb, hml, hown, hts⟩ hG hP hS hsz (c_X5_needCycle l D cI a H.size σ cy hc) (va_cwS 1 hts gX5_faulty_X5_needCycle rfl rfl rfl (by decide +kernel) ⟨Nat.le_of_ble_eq_true rfl, Nat.le_of_ble_eq_true rfl⟩) rfl hl.1 rfl (Nat.le_of_ble_eq_true rfl) ⟨Nat.zero_le _, Nat.zero_le _⟩ dX5_faulty_1 (fun H locs hP hS => ?_)
  refine lv_iload_n hx hb dX5_faulty_4 rfl (lv_at hl 2 rfl) ?_
  refine x_callSv (w := wX cI a) (σ := σ) (σ' := σ) (As := [.int ri]) (rest := []) ⟨hx, hb, hml, hown, hts⟩ hG hP hS hsz (c_X5_needRider l D cI a H.size σ ri hr1) (va_cwS 1 hts gX5_faulty_X5_needRider rfl rfl rfl (by decide +kernel) ⟨Nat.le_of_ble_eq_true rfl, Nat.le_of_ble_eq_true rfl⟩) rfl hl.1 rfl (Nat.le_of_ble_eq_true rfl) ⟨Nat.zero_le _, Nat.zero_le _⟩ dX5_faulty_5 (fun H locs hP hS => ?_)
  refine lv_aload_n hx hb dX5_faulty_8 rfl (lv_at hl 0 rfl) ?_
  refine lv_iload_n hx hb dX5_faulty_9 rfl (lv_at hl 3 rfl) ?_
  exact x_outV (w := wX cI a) (σ := σ) (As := [.int wh]) (rest := []) (q0 := 0) ⟨hx, hb, hml, hown, hts⟩ hG hP hS hsz hE hnt hlk (xc_X5_needHearableMinute_x l D cI a H.size σ wh hx0 hlf) (cwV 1 hts gX5_faulty_X5_needHearableMinute rfl rfl rfl (by decide +kernel) ⟨Nat.le_of_ble_eq_true rfl, Nat.le_of_ble_eq_true rfl⟩) rfl rfl rfl rfl hl.1 rfl (Nat.le_of_ble_eq_true rfl) ⟨Nat.le_of_ble_eq_true rfl, Nat.le_of_ble_eq_true rfl⟩ dX5_faulty_10 ⟨Nat.le_of_ble_eq_true rfl, Nat.le_of_ble_eq_true rfl⟩
set_option maxHeartbeats 4000000 in
set_option maxRecDepth 100000 in
theorem xc_X5_faulty_x14 (l : Launch) (D : va_G) (cI : ClassId) (a : Nat → Nat) (sz : Nat) (σ : Sg) (cy : Int32) (ri : Int32) (wh : Int32) (hc : vp_in cy 30) (hr1 : vp_in ri 10) (hv : hW σ wh) (hx0 : ¬ (r_X4_isFull σ = 0)) (hlf : l.stackTraces = false) : vx_Met l yX5_faulty wsX5_faulty ({ frames := 7, cells := 1, slots := 6, locals := 102 }) (PcE D cI 29 a (wX cI a) sz σ [.ref (a 0), .int cy, .int ri, .int wh]) (QxI 29 a sz) (XE D 29 a (wX cI a) sz σ "java/lang/IllegalStateException") 1 6 (AX 29 a sz) := by
  refine x_ofE (cc := cX5_faulty) (maxL := 4) (ret := some .boolean) (C := RX5) rfl (by decide) rfl (Nat.le_of_ble_eq_true rfl) (fun p e s m below meth c hx hb hr hml hlk hts hown hsz hnt hE H hP hS hG ls hl => ?_)
  have hl : lv_has ls 4 [(0, .ref (a 0)), (1, .int cy), (2, .int ri), (3, .int wh)] := hl
  refine lv_iload_n hx hb dX5_faulty_0 rfl (lv_at hl 1 rfl) ?_
  refine x_callSv (w := wX cI a) (σ := σ) (σ' := σ) (As := [.int cy]) (rest := []) ⟨hx, hb, hml, hown, hts⟩ hG hP hS hsz (c_X5_needCycle l D cI a H.size σ cy hc) (va_cwS 1 hts gX5_faulty_X5_needCycle rfl rfl rfl (by decide +kernel) ⟨Nat.le_of_ble_eq_true rfl, Nat.le_of_ble_eq_true rfl⟩) rfl hl.1 rfl (Nat.le_of_ble_eq_true rfl) ⟨Nat.zero_le _, Nat.zero_le _⟩ dX5_faulty_1 (fun H locs hP hS => ?_)
  refine lv_iload_n hx hb dX5_faulty_4 rfl (lv_at hl 2 rfl) ?_
  refine x_callSv (w := wX cI a) (σ := σ) (σ' := σ) (As := [.int ri]) (rest := []) ⟨hx, hb, hml, hown, hts⟩ hG hP hS hsz (c_X5_needRider l D cI a H.size σ ri hr1) (va_cwS 1 hts gX5_faulty_X5_needRider rfl rfl rfl (by decide +kernel) ⟨Nat.le_of_ble_eq_true rfl, Nat.le_of_ble_eq_true rfl⟩) rfl hl.1 rfl (Nat.le_of_ble_eq_true rfl) ⟨Nat.zero_le _, Nat.zero_le _⟩ dX5_faulty_5 (fun H locs hP hS => ?_)
  refine lv_aload_n hx hb dX5_faulty_8 rfl (lv_at hl 0 rfl) ?_
  refine lv_iload_n hx hb dX5_faulty_9 rfl (lv_at hl 3 rfl) ?_
  refine x_callVv (w := wX cI a) (σ := σ) (σ' := σ) (As := [.int wh]) (rest := []) (q0 := 0) ⟨hx, hb, hml, hown, hts⟩ hG hP hS hsz (c_X5_needHearableMinute l D cI a H.size σ wh hv) (cwV 1 hts gX5_faulty_X5_needHearableMinute rfl rfl rfl (by decide +kernel) ⟨Nat.le_of_ble_eq_true rfl, Nat.le_of_ble_eq_true rfl⟩) rfl rfl rfl rfl hl.1 rfl (Nat.le_of_ble_eq_true rfl) ⟨Nat.zero_le _, Nat.zero_le _⟩ dX5_faulty_10 (fun H locs hP hS => ?_)
  refine lv_aload_n hx hb dX5_faulty_13 rfl (lv_at hl 0 rfl) ?_
  exact x_outV (w := wX cI a) (σ := σ) (As := []) (rest := []) (q0 := 0) ⟨hx, hb, hml, hown, hts⟩ hG hP hS hsz hE hnt hlk (xc_X5_needRoom_x l D cI a H.size σ  hx0 hlf) (cwV 0 hts gX5_faulty_X5_needRoom rfl rfl rfl (by decide +kernel) ⟨Nat.le_of_ble_eq_true rfl, Nat.le_of_ble_eq_true rfl⟩) rfl rfl rfl rfl hl.1 rfl (Nat.le_of_ble_eq_true rfl) ⟨Nat.le_of_ble_eq_true rfl, Nat.le_of_ble_eq_true rfl⟩ dX5_faulty_14 ⟨Nat.le_of_ble_eq_true rfl, Nat.le_of_ble_eq_true rfl⟩
set_option maxHeartbeats 4000000 in
set_option maxRecDepth 100000 in
theorem xc_X5_mend_x1 (l : Launch) (D : va_G) (cI : ClassId) (a : Nat → Nat) (sz : Nat) (σ : Sg) (cy : Int32) (hx0 : ¬ (vp_in cy 30)) (hlf : l.stackTraces = false) : vx_Met l yX5_mend wsX5_mend ({ frames := 7, cells := 1, slots := 6, locals := 102 }) (PcE D cI 29 a (wX cI a) sz σ [.ref (a 0), .int cy]) (QxI 29 a sz) (XE D 29 a (wX cI a) sz σ "java/lang/IndexOutOfBoundsException") 1 6 (AX 29 a sz) := by
  refine x_ofE (cc := cX5_mend) (maxL := 2) (ret := some .boolean) (C := RX5) rfl (by decide) rfl (Nat.le_of_ble_eq_true rfl) (fun p e s m below meth c hx hb hr hml hlk hts hown hsz hnt hE H hP hS hG ls hl => ?_)
  have hl : lv_has ls 2 [(0, .ref (a 0)), (1, .int cy)] := hl
  refine lv_iload_n hx hb dX5_mend_0 rfl (lv_at hl 1 rfl) ?_
  exact x_outS (w := wX cI a) (σ := σ) (As := [.int cy]) (rest := []) ⟨hx, hb, hml, hown, hts⟩ hG hP hS hsz hE hnt hlk (xc_X5_needCycle_x l D cI a H.size σ cy hx0 hlf) (va_cwS 1 hts gX5_mend_X5_needCycle rfl rfl rfl (by decide +kernel) ⟨Nat.le_of_ble_eq_true rfl, Nat.le_of_ble_eq_true rfl⟩) rfl hl.1 rfl (Nat.le_of_ble_eq_true rfl) ⟨Nat.le_of_ble_eq_true rfl, Nat.le_of_ble_eq_true rfl⟩ dX5_mend_1 ⟨Nat.le_of_ble_eq_true rfl, Nat.le_of_ble_eq_true rfl⟩
set_option maxHeartbeats 4000000 in
set_option maxRecDepth 100000 in
theorem xc_X5_mend_x5 (l : Launch) (D : va_G) (cI : ClassId) (a : Nat → Nat) (sz : Nat) (σ : Sg) (cy : Int32) (hc : vp_in cy 30) (hx0 : ¬ (r_X4_isFull σ = 0)) (hlf : l.stackTraces = false) : vx_Met l yX5_mend wsX5_mend ({ frames := 7, cells := 1, slots := 6, locals := 102 }) (PcE D cI 29 a (wX cI a) sz σ [.ref (a 0), .int cy]) (QxI 29 a sz) (XE D 29 a (wX cI a) sz σ "java/lang/IllegalStateException") 1 6 (AX 29 a sz) := by
  refine x_ofE (cc := cX5_mend) (maxL := 2) (ret := some .boolean) (C := RX5) rfl (by decide) rfl (Nat.le_of_ble_eq_true rfl) (fun p e s m below meth c hx hb hr hml hlk hts hown hsz hnt hE H hP hS hG ls hl => ?_)
  have hl : lv_has ls 2 [(0, .ref (a 0)), (1, .int cy)] := hl
  refine lv_iload_n hx hb dX5_mend_0 rfl (lv_at hl 1 rfl) ?_
  refine x_callSv (w := wX cI a) (σ := σ) (σ' := σ) (As := [.int cy]) (rest := []) ⟨hx, hb, hml, hown, hts⟩ hG hP hS hsz (c_X5_needCycle l D cI a H.size σ cy hc) (va_cwS 1 hts gX5_mend_X5_needCycle rfl rfl rfl (by decide +kernel) ⟨Nat.le_of_ble_eq_true rfl, Nat.le_of_ble_eq_true rfl⟩) rfl hl.1 rfl (Nat.le_of_ble_eq_true rfl) ⟨Nat.zero_le _, Nat.zero_le _⟩ dX5_mend_1 (fun H locs hP hS => ?_)
  refine lv_aload_n hx hb dX5_mend_4 rfl (lv_at hl 0 rfl) ?_
  exact x_outV (w := wX cI a) (σ := σ) (As := []) (rest := []) (q0 := 0) ⟨hx, hb, hml, hown, hts⟩ hG hP hS hsz hE hnt hlk (xc_X5_needRoom_x l D cI a H.size σ  hx0 hlf) (cwV 0 hts gX5_mend_X5_needRoom rfl rfl rfl (by decide +kernel) ⟨Nat.le_of_ble_eq_true rfl, Nat.le_of_ble_eq_true rfl⟩) rfl rfl rfl rfl hl.1 rfl (Nat.le_of_ble_eq_true rfl) ⟨Nat.le_of_ble_eq_true rfl, Nat.le_of_ble_eq_true rfl⟩ dX5_mend_5 ⟨Nat.le_of_ble_eq_true rfl, Nat.le_of_ble_eq_true rfl⟩
set_option maxHeartbeats 4000000 in
set_option maxRecDepth 100000 in
theorem xc_X5_price_x3 (l : Launch) (D : va_G) (cI : ClassId) (a : Nat → Nat) (sz : Nat) (σ : Sg) (pr : Int32) (hx0 : ¬ (¬ pr < 0 ∧ pr ≤ 99)) (hlf : l.stackTraces = false) : vx_Met l yX5_price wsX5_price ({ frames := 7, cells := 1, slots := 6, locals := 103 }) (PcE D cI 29 a (wX cI a) sz σ [.ref (a 0), .int pr]) (QxV 29 a sz) (XE D 29 a (wX cI a) sz σ "java/lang/IllegalArgumentException") 1 6 (AX 29 a sz) := by
  refine x_ofE (cc := cX5_price) (maxL := 2) (ret := none) (C := RX5) rfl (by decide) rfl (Nat.le_of_ble_eq_true rfl) (fun p e s m below meth c hx hb hr hml hlk hts hown hsz hnt hE H hP hS hG ls hl => ?_)
  have hl : lv_has ls 2 [(0, .ref (a 0)), (1, .int pr)] := hl
  refine lv_iload_n hx hb dX5_price_0 rfl (lv_at hl 1 rfl) ?_
  refine lv_bipush (v := 99) hx hb dX5_price_1 (by decide) ?_
  exact x_outS (w := wX cI a) (σ := σ) (As := [.int pr, .int 99]) (rest := []) ⟨hx, hb, hml, hown, hts⟩ hG hP hS hsz hE hnt hlk (xc_X5_needUpTo_x l D cI a H.size σ pr 99 hx0 hlf) (va_cwS 2 hts gX5_price_X5_needUpTo rfl rfl rfl (by decide +kernel) ⟨Nat.le_of_ble_eq_true rfl, Nat.le_of_ble_eq_true rfl⟩) rfl hl.1 rfl (Nat.le_of_ble_eq_true rfl) ⟨Nat.le_of_ble_eq_true rfl, Nat.le_of_ble_eq_true rfl⟩ dX5_price_3 ⟨Nat.le_of_ble_eq_true rfl, Nat.le_of_ble_eq_true rfl⟩
set_option maxHeartbeats 4000000 in
set_option maxRecDepth 100000 in
theorem xc_X5_price_x7 (l : Launch) (D : va_G) (cI : ClassId) (a : Nat → Nat) (sz : Nat) (σ : Sg) (pr : Int32) (hu1 : (¬ pr < 0 ∧ pr ≤ 99)) (hx0 : ¬ (r_X4_isFull σ = 0)) (hlf : l.stackTraces = false) : vx_Met l yX5_price wsX5_price ({ frames := 7, cells := 1, slots := 6, locals := 102 }) (PcE D cI 29 a (wX cI a) sz σ [.ref (a 0), .int pr]) (QxV 29 a sz) (XE D 29 a (wX cI a) sz σ "java/lang/IllegalStateException") 1 6 (AX 29 a sz) := by
  refine x_ofE (cc := cX5_price) (maxL := 2) (ret := none) (C := RX5) rfl (by decide) rfl (Nat.le_of_ble_eq_true rfl) (fun p e s m below meth c hx hb hr hml hlk hts hown hsz hnt hE H hP hS hG ls hl => ?_)
  have hl : lv_has ls 2 [(0, .ref (a 0)), (1, .int pr)] := hl
  refine lv_iload_n hx hb dX5_price_0 rfl (lv_at hl 1 rfl) ?_
  refine lv_bipush (v := 99) hx hb dX5_price_1 (by decide) ?_
  refine x_callSv (w := wX cI a) (σ := σ) (σ' := σ) (As := [.int pr, .int 99]) (rest := []) ⟨hx, hb, hml, hown, hts⟩ hG hP hS hsz (c_X5_needUpTo l D cI a H.size σ pr 99 hu1) (va_cwS 2 hts gX5_price_X5_needUpTo rfl rfl rfl (by decide +kernel) ⟨Nat.le_of_ble_eq_true rfl, Nat.le_of_ble_eq_true rfl⟩) rfl hl.1 rfl (Nat.le_of_ble_eq_true rfl) ⟨Nat.zero_le _, Nat.zero_le _⟩ dX5_price_3 (fun H locs hP hS => ?_)
  refine lv_aload_n hx hb dX5_price_6 rfl (lv_at hl 0 rfl) ?_
  exact x_outV (w := wX cI a) (σ := σ) (As := []) (rest := []) (q0 := 0) ⟨hx, hb, hml, hown, hts⟩ hG hP hS hsz hE hnt hlk (xc_X5_needRoom_x l D cI a H.size σ  hx0 hlf) (cwV 0 hts gX5_price_X5_needRoom rfl rfl rfl (by decide +kernel) ⟨Nat.le_of_ble_eq_true rfl, Nat.le_of_ble_eq_true rfl⟩) rfl rfl rfl rfl hl.1 rfl (Nat.le_of_ble_eq_true rfl) ⟨Nat.le_of_ble_eq_true rfl, Nat.le_of_ble_eq_true rfl⟩ dX5_price_7 ⟨Nat.le_of_ble_eq_true rfl, Nat.le_of_ble_eq_true rfl⟩
set_option maxHeartbeats 4000000 in
set_option maxRecDepth 100000 in
theorem xc_X5_promise_x1 (l : Launch) (D : va_G) (cI : ClassId) (a : Nat → Nat) (sz : Nat) (σ : Sg) (ri : Int32) (st : Int32) (hx0 : ¬ (vp_in ri 10)) (hlf : l.stackTraces = false) : vx_Met l yX5_promise wsX5_promise ({ frames := 7, cells := 1, slots := 6, locals := 102 }) (PcE D cI 29 a (wX cI a) sz σ [.ref (a 0), .int ri, .int st]) (QxI 29 a sz) (XE D 29 a (wX cI a) sz σ "java/lang/IndexOutOfBoundsException") 1 6 (AX 29 a sz) := by
  refine x_ofE (cc := cX5_promise) (maxL := 3) (ret := some .boolean) (C := RX5) rfl (by decide) rfl (Nat.le_of_ble_eq_true rfl) (fun p e s m below meth c hx hb hr hml hlk hts hown hsz hnt hE H hP hS hG ls hl => ?_)
  have hl : lv_has ls 3 [(0, .ref (a 0)), (1, .int ri), (2, .int st)] := hl
  refine lv_iload_n hx hb dX5_promise_0 rfl (lv_at hl 1 rfl) ?_
  exact x_outS (w := wX cI a) (σ := σ) (As := [.int ri]) (rest := []) ⟨hx, hb, hml, hown, hts⟩ hG hP hS hsz hE hnt hlk (xc_X5_needRider_x l D cI a H.size σ ri hx0 hlf) (va_cwS 1 hts gX5_promise_X5_needRider rfl rfl rfl (by decide +kernel) ⟨Nat.le_of_ble_eq_true rfl, Nat.le_of_ble_eq_true rfl⟩) rfl hl.1 rfl (Nat.le_of_ble_eq_true rfl) ⟨Nat.le_of_ble_eq_true rfl, Nat.le_of_ble_eq_true rfl⟩ dX5_promise_1 ⟨Nat.le_of_ble_eq_true rfl, Nat.le_of_ble_eq_true rfl⟩
set_option maxHeartbeats 4000000 in
set_option maxRecDepth 100000 in
theorem xc_X5_promise_x5 (l : Launch) (D : va_G) (cI : ClassId) (a : Nat → Nat) (sz : Nat) (σ : Sg) (ri : Int32) (st : Int32) (hr1 : vp_in ri 10) (hx0 : ¬ (vp_in st 8)) (hlf : l.stackTraces = false) : vx_Met l yX5_promise wsX5_promise ({ frames := 7, cells := 1, slots := 6, locals := 102 }) (PcE D cI 29 a (wX cI a) sz σ [.ref (a 0), .int ri, .int st]) (QxI 29 a sz) (XE D 29 a (wX cI a) sz σ "java/lang/IndexOutOfBoundsException") 1 6 (AX 29 a sz) := by
  refine x_ofE (cc := cX5_promise) (maxL := 3) (ret := some .boolean) (C := RX5) rfl (by decide) rfl (Nat.le_of_ble_eq_true rfl) (fun p e s m below meth c hx hb hr hml hlk hts hown hsz hnt hE H hP hS hG ls hl => ?_)
  have hl : lv_has ls 3 [(0, .ref (a 0)), (1, .int ri), (2, .int st)] := hl
  refine lv_iload_n hx hb dX5_promise_0 rfl (lv_at hl 1 rfl) ?_
  refine x_callSv (w := wX cI a) (σ := σ) (σ' := σ) (As := [.int ri]) (rest := []) ⟨hx, hb, hml, hown, hts⟩ hG hP hS hsz (c_X5_needRider l D cI a H.size σ ri hr1) (va_cwS 1 hts gX5_promise_X5_needRider rfl rfl rfl (by decide +kernel) ⟨Nat.le_of_ble_eq_true rfl, Nat.le_of_ble_eq_true rfl⟩) rfl hl.1 rfl (Nat.le_of_ble_eq_true rfl) ⟨Nat.zero_le _, Nat.zero_le _⟩ dX5_promise_1 (fun H locs hP hS => ?_)
  refine lv_iload_n hx hb dX5_promise_4 rfl (lv_at hl 2 rfl) ?_
  exact x_outS (w := wX cI a) (σ := σ) (As := [.int st]) (rest := []) ⟨hx, hb, hml, hown, hts⟩ hG hP hS hsz hE hnt hlk (xc_X5_needStation_x l D cI a H.size σ st hx0 hlf) (va_cwS 1 hts gX5_promise_X5_needStation rfl rfl rfl (by decide +kernel) ⟨Nat.le_of_ble_eq_true rfl, Nat.le_of_ble_eq_true rfl⟩) rfl hl.1 rfl (Nat.le_of_ble_eq_true rfl) ⟨Nat.le_of_ble_eq_true rfl, Nat.le_of_ble_eq_true rfl⟩ dX5_promise_5 ⟨Nat.le_of_ble_eq_true rfl, Nat.le_of_ble_eq_true rfl⟩
set_option maxHeartbeats 4000000 in
set_option maxRecDepth 100000 in
theorem xc_X5_promise_x9 (l : Launch) (D : va_G) (cI : ClassId) (a : Nat → Nat) (sz : Nat) (σ : Sg) (ri : Int32) (st : Int32) (hr1 : vp_in ri 10) (hs : vp_in st 8) (hx0 : ¬ (r_X4_isFull σ = 0)) (hlf : l.stackTraces = false) : vx_Met l yX5_promise wsX5_promise ({ frames := 7, cells := 1, slots := 6, locals := 102 }) (PcE D cI 29 a (wX cI a) sz σ [.ref (a 0), .int ri, .int st]) (QxI 29 a sz) (XE D 29 a (wX cI a) sz σ "java/lang/IllegalStateException") 1 6 (AX 29 a sz) := by
  refine x_ofE (cc := cX5_promise) (maxL := 3) (ret := some .boolean) (C := RX5) rfl (by decide) rfl (Nat.le_of_ble_eq_true rfl) (fun p e s m below meth c hx hb hr hml hlk hts hown hsz hnt hE H hP hS hG ls hl => ?_)
  have hl : lv_has ls 3 [(0, .ref (a 0)), (1, .int ri), (2, .int st)] := hl
  refine lv_iload_n hx hb dX5_promise_0 rfl (lv_at hl 1 rfl) ?_
  refine x_callSv (w := wX cI a) (σ := σ) (σ' := σ) (As := [.int ri]) (rest := []) ⟨hx, hb, hml, hown, hts⟩ hG hP hS hsz (c_X5_needRider l D cI a H.size σ ri hr1) (va_cwS 1 hts gX5_promise_X5_needRider rfl rfl rfl (by decide +kernel) ⟨Nat.le_of_ble_eq_true rfl, Nat.le_of_ble_eq_true rfl⟩) rfl hl.1 rfl (Nat.le_of_ble_eq_true rfl) ⟨Nat.zero_le _, Nat.zero_le _⟩ dX5_promise_1 (fun H locs hP hS => ?_)
  refine lv_iload_n hx hb dX5_promise_4 rfl (lv_at hl 2 rfl) ?_
  refine x_callSv (w := wX cI a) (σ := σ) (σ' := σ) (As := [.int st]) (rest := []) ⟨hx, hb, hml, hown, hts⟩ hG hP hS hsz (c_X5_needStation l D cI a H.size σ st hs) (va_cwS 1 hts gX5_promise_X5_needStation rfl rfl rfl (by decide +kernel) ⟨Nat.le_of_ble_eq_true rfl, Nat.le_of_ble_eq_true rfl⟩) rfl hl.1 rfl (Nat.le_of_ble_eq_true rfl) ⟨Nat.zero_le _, Nat.zero_le _⟩ dX5_promise_5 (fun H locs hP hS => ?_)
  refine lv_aload_n hx hb dX5_promise_8 rfl (lv_at hl 0 rfl) ?_
  exact x_outV (w := wX cI a) (σ := σ) (As := []) (rest := []) (q0 := 0) ⟨hx, hb, hml, hown, hts⟩ hG hP hS hsz hE hnt hlk (xc_X5_needRoom_x l D cI a H.size σ  hx0 hlf) (cwV 0 hts gX5_promise_X5_needRoom rfl rfl rfl (by decide +kernel) ⟨Nat.le_of_ble_eq_true rfl, Nat.le_of_ble_eq_true rfl⟩) rfl rfl rfl rfl hl.1 rfl (Nat.le_of_ble_eq_true rfl) ⟨Nat.le_of_ble_eq_true rfl, Nat.le_of_ble_eq_true rfl⟩ dX5_promise_9 ⟨Nat.le_of_ble_eq_true rfl, Nat.le_of_ble_eq_true rfl⟩
set_option maxHeartbeats 4000000 in
set_option maxRecDepth 100000 in
theorem xc_X5_cycle_x1 (l : Launch) (D : va_G) (cI : ClassId) (a : Nat → Nat) (sz : Nat) (σ : Sg) (cy : Int32) (its : Int32) (hx0 : ¬ (vp_in cy 30)) (hlf : l.stackTraces = false) : vx_Met l yX5_cycle wsX5_cycle ({ frames := 7, cells := 1, slots := 6, locals := 102 }) (PcE D cI 29 a (wX cI a) sz σ [.ref (a 0), .int cy, .int its]) (QxI 29 a sz) (XE D 29 a (wX cI a) sz σ "java/lang/IndexOutOfBoundsException") 1 6 (AX 29 a sz) := by
  refine x_ofE (cc := cX5_cycle) (maxL := 3) (ret := some .int) (C := RX5) rfl (by decide) rfl (Nat.le_of_ble_eq_true rfl) (fun p e s m below meth c hx hb hr hml hlk hts hown hsz hnt hE H hP hS hG ls hl => ?_)
  have hl : lv_has ls 3 [(0, .ref (a 0)), (1, .int cy), (2, .int its)] := hl
  refine lv_iload_n hx hb dX5_cycle_0 rfl (lv_at hl 1 rfl) ?_
  exact x_outS (w := wX cI a) (σ := σ) (As := [.int cy]) (rest := []) ⟨hx, hb, hml, hown, hts⟩ hG hP hS hsz hE hnt hlk (xc_X5_needCycle_x l D cI a H.size σ cy hx0 hlf) (va_cwS 1 hts gX5_cycle_X5_needCycle rfl rfl rfl (by decide +kernel) ⟨Nat.le_of_ble_eq_true rfl, Nat.le_of_ble_eq_true rfl⟩) rfl hl.1 rfl (Nat.le_of_ble_eq_true rfl) ⟨Nat.le_of_ble_eq_true rfl, Nat.le_of_ble_eq_true rfl⟩ dX5_cycle_1 ⟨Nat.le_of_ble_eq_true rfl, Nat.le_of_ble_eq_true rfl⟩
set_option maxHeartbeats 4000000 in
set_option maxRecDepth 100000 in
theorem xc_X5_station_x1 (l : Launch) (D : va_G) (cI : ClassId) (a : Nat → Nat) (sz : Nat) (σ : Sg) (st : Int32) (its : Int32) (hx0 : ¬ (vp_in st 8)) (hlf : l.stackTraces = false) : vx_Met l yX5_station wsX5_station ({ frames := 7, cells := 1, slots := 6, locals := 102 }) (PcE D cI 29 a (wX cI a) sz σ [.ref (a 0), .int st, .int its]) (QxI 29 a sz) (XE D 29 a (wX cI a) sz σ "java/lang/IndexOutOfBoundsException") 1 6 (AX 29 a sz) := by
  refine x_ofE (cc := cX5_station) (maxL := 3) (ret := some .int) (C := RX5) rfl (by decide) rfl (Nat.le_of_ble_eq_true rfl) (fun p e s m below meth c hx hb hr hml hlk hts hown hsz hnt hE H hP hS hG ls hl => ?_)
  have hl : lv_has ls 3 [(0, .ref (a 0)), (1, .int st), (2, .int its)] := hl
  refine lv_iload_n hx hb dX5_station_0 rfl (lv_at hl 1 rfl) ?_
  exact x_outS (w := wX cI a) (σ := σ) (As := [.int st]) (rest := []) ⟨hx, hb, hml, hown, hts⟩ hG hP hS hsz hE hnt hlk (xc_X5_needStation_x l D cI a H.size σ st hx0 hlf) (va_cwS 1 hts gX5_station_X5_needStation rfl rfl rfl (by decide +kernel) ⟨Nat.le_of_ble_eq_true rfl, Nat.le_of_ble_eq_true rfl⟩) rfl hl.1 rfl (Nat.le_of_ble_eq_true rfl) ⟨Nat.le_of_ble_eq_true rfl, Nat.le_of_ble_eq_true rfl⟩ dX5_station_1 ⟨Nat.le_of_ble_eq_true rfl, Nat.le_of_ble_eq_true rfl⟩
set_option maxHeartbeats 4000000 in
set_option maxRecDepth 100000 in
theorem xc_X5_rider_x1 (l : Launch) (D : va_G) (cI : ClassId) (a : Nat → Nat) (sz : Nat) (σ : Sg) (ri : Int32) (its : Int32) (hx0 : ¬ (vp_in ri 10)) (hlf : l.stackTraces = false) : vx_Met l yX5_rider wsX5_rider ({ frames := 7, cells := 1, slots := 6, locals := 102 }) (PcE D cI 29 a (wX cI a) sz σ [.ref (a 0), .int ri, .int its]) (QxI 29 a sz) (XE D 29 a (wX cI a) sz σ "java/lang/IndexOutOfBoundsException") 1 6 (AX 29 a sz) := by
  refine x_ofE (cc := cX5_rider) (maxL := 3) (ret := some .int) (C := RX5) rfl (by decide) rfl (Nat.le_of_ble_eq_true rfl) (fun p e s m below meth c hx hb hr hml hlk hts hown hsz hnt hE H hP hS hG ls hl => ?_)
  have hl : lv_has ls 3 [(0, .ref (a 0)), (1, .int ri), (2, .int its)] := hl
  refine lv_iload_n hx hb dX5_rider_0 rfl (lv_at hl 1 rfl) ?_
  exact x_outS (w := wX cI a) (σ := σ) (As := [.int ri]) (rest := []) ⟨hx, hb, hml, hown, hts⟩ hG hP hS hsz hE hnt hlk (xc_X5_needRider_x l D cI a H.size σ ri hx0 hlf) (va_cwS 1 hts gX5_rider_X5_needRider rfl rfl rfl (by decide +kernel) ⟨Nat.le_of_ble_eq_true rfl, Nat.le_of_ble_eq_true rfl⟩) rfl hl.1 rfl (Nat.le_of_ble_eq_true rfl) ⟨Nat.le_of_ble_eq_true rfl, Nat.le_of_ble_eq_true rfl⟩ dX5_rider_1 ⟨Nat.le_of_ble_eq_true rfl, Nat.le_of_ble_eq_true rfl⟩
set_option maxHeartbeats 4000000 in
set_option maxRecDepth 100000 in
theorem xc_X5_nearest_x1 (l : Launch) (D : va_G) (cI : ClassId) (a : Nat → Nat) (sz : Nat) (σ : Sg) (st : Int32) (hx0 : ¬ (vp_in st 8)) (hlf : l.stackTraces = false) : vx_Met l yX5_nearest wsX5_nearest ({ frames := 7, cells := 1, slots := 6, locals := 102 }) (PcE D cI 29 a (wX cI a) sz σ [.ref (a 0), .int st]) (QxI 29 a sz) (XE D 29 a (wX cI a) sz σ "java/lang/IndexOutOfBoundsException") 1 6 (AX 29 a sz) := by
  refine x_ofE (cc := cX5_nearest) (maxL := 8) (ret := some .int) (C := RX5) rfl (by decide) rfl (Nat.le_of_ble_eq_true rfl) (fun p e s m below meth c hx hb hr hml hlk hts hown hsz hnt hE H hP hS hG ls hl => ?_)
  have hl : lv_has ls 8 [(0, .ref (a 0)), (1, .int st)] := hl
  refine lv_iload_n hx hb dX5_nearest_0 rfl (lv_at hl 1 rfl) ?_
  exact x_outS (w := wX cI a) (σ := σ) (As := [.int st]) (rest := []) ⟨hx, hb, hml, hown, hts⟩ hG hP hS hsz hE hnt hlk (xc_X5_needStation_x l D cI a H.size σ st hx0 hlf) (va_cwS 1 hts gX5_nearest_X5_needStation rfl rfl rfl (by decide +kernel) ⟨Nat.le_of_ble_eq_true rfl, Nat.le_of_ble_eq_true rfl⟩) rfl hl.1 rfl (Nat.le_of_ble_eq_true rfl) ⟨Nat.le_of_ble_eq_true rfl, Nat.le_of_ble_eq_true rfl⟩ dX5_nearest_1 ⟨Nat.le_of_ble_eq_true rfl, Nat.le_of_ble_eq_true rfl⟩
set_option maxHeartbeats 4000000 in
set_option maxRecDepth 100000 in
theorem xc_X5_way_x1 (l : Launch) (D : va_G) (cI : ClassId) (a : Nat → Nat) (sz : Nat) (σ : Sg) (st : Int32) (ot : Int32) (hx0 : ¬ (vp_in st 8)) (hlf : l.stackTraces = false) : vx_Met l yX5_way wsX5_way ({ frames := 7, cells := 1, slots := 6, locals := 102 }) (PcE D cI 29 a (wX cI a) sz σ [.ref (a 0), .int st, .int ot]) (QxI 29 a sz) (XE D 29 a (wX cI a) sz σ "java/lang/IndexOutOfBoundsException") 1 6 (AX 29 a sz) := by
  refine x_ofE (cc := cX5_way) (maxL := 3) (ret := some .int) (C := RX5) rfl (by decide) rfl (Nat.le_of_ble_eq_true rfl) (fun p e s m below meth c hx hb hr hml hlk hts hown hsz hnt hE H hP hS hG ls hl => ?_)
  have hl : lv_has ls 3 [(0, .ref (a 0)), (1, .int st), (2, .int ot)] := hl
  refine lv_iload_n hx hb dX5_way_0 rfl (lv_at hl 1 rfl) ?_
  exact x_outS (w := wX cI a) (σ := σ) (As := [.int st]) (rest := []) ⟨hx, hb, hml, hown, hts⟩ hG hP hS hsz hE hnt hlk (xc_X5_needStation_x l D cI a H.size σ st hx0 hlf) (va_cwS 1 hts gX5_way_X5_needStation rfl rfl rfl (by decide +kernel) ⟨Nat.le_of_ble_eq_true rfl, Nat.le_of_ble_eq_true rfl⟩) rfl hl.1 rfl (Nat.le_of_ble_eq_true rfl) ⟨Nat.le_of_ble_eq_true rfl, Nat.le_of_ble_eq_true rfl⟩ dX5_way_1 ⟨Nat.le_of_ble_eq_true rfl, Nat.le_of_ble_eq_true rfl⟩
set_option maxHeartbeats 4000000 in
set_option maxRecDepth 100000 in
theorem xc_X5_way_x5 (l : Launch) (D : va_G) (cI : ClassId) (a : Nat → Nat) (sz : Nat) (σ : Sg) (st : Int32) (ot : Int32) (hs : vp_in st 8) (hx0 : ¬ (vp_in ot 8)) (hlf : l.stackTraces = false) : vx_Met l yX5_way wsX5_way ({ frames := 7, cells := 1, slots := 6, locals := 102 }) (PcE D cI 29 a (wX cI a) sz σ [.ref (a 0), .int st, .int ot]) (QxI 29 a sz) (XE D 29 a (wX cI a) sz σ "java/lang/IndexOutOfBoundsException") 1 6 (AX 29 a sz) := by
  refine x_ofE (cc := cX5_way) (maxL := 3) (ret := some .int) (C := RX5) rfl (by decide) rfl (Nat.le_of_ble_eq_true rfl) (fun p e s m below meth c hx hb hr hml hlk hts hown hsz hnt hE H hP hS hG ls hl => ?_)
  have hl : lv_has ls 3 [(0, .ref (a 0)), (1, .int st), (2, .int ot)] := hl
  refine lv_iload_n hx hb dX5_way_0 rfl (lv_at hl 1 rfl) ?_
  refine x_callSv (w := wX cI a) (σ := σ) (σ' := σ) (As := [.int st]) (rest := []) ⟨hx, hb, hml, hown, hts⟩ hG hP hS hsz (c_X5_needStation l D cI a H.size σ st hs) (va_cwS 1 hts gX5_way_X5_needStation rfl rfl rfl (by decide +kernel) ⟨Nat.le_of_ble_eq_true rfl, Nat.le_of_ble_eq_true rfl⟩) rfl hl.1 rfl (Nat.le_of_ble_eq_true rfl) ⟨Nat.zero_le _, Nat.zero_le _⟩ dX5_way_1 (fun H locs hP hS => ?_)
  refine lv_iload_n hx hb dX5_way_4 rfl (lv_at hl 2 rfl) ?_
  exact x_outS (w := wX cI a) (σ := σ) (As := [.int ot]) (rest := []) ⟨hx, hb, hml, hown, hts⟩ hG hP hS hsz hE hnt hlk (xc_X5_needStation_x l D cI a H.size σ ot hx0 hlf) (va_cwS 1 hts gX5_way_X5_needStation rfl rfl rfl (by decide +kernel) ⟨Nat.le_of_ble_eq_true rfl, Nat.le_of_ble_eq_true rfl⟩) rfl hl.1 rfl (Nat.le_of_ble_eq_true rfl) ⟨Nat.le_of_ble_eq_true rfl, Nat.le_of_ble_eq_true rfl⟩ dX5_way_5 ⟨Nat.le_of_ble_eq_true rfl, Nat.le_of_ble_eq_true rfl⟩
set_option maxHeartbeats 4000000 in
set_option maxRecDepth 100000 in
theorem xc_X5_pass_x12 (l : Launch) (D : va_G) (cI : ClassId) (a : Nat → Nat) (sz : Nat) (σ : Sg) (mi : Int32) (hx0 : ¬ (¬ mi < 1 ∧ mi ≤ 600)) (hlf : l.stackTraces = false) : vx_Met l yX5_pass wsX5_pass ({ frames := 6, cells := 1, slots := 6, locals := 82 }) (PcE D cI 29 a (wX cI a) sz σ [.ref (a 0), .int mi]) (QxI 29 a sz) (XE D 29 a (wX cI a) sz σ "java/lang/IllegalArgumentException") 1 6 (AX 29 a sz) := by
  refine x_ofE (cc := cX5_pass) (maxL := 2) (ret := some .int) (C := RX5) rfl (by decide) rfl (Nat.le_of_ble_eq_true rfl) (fun p e s m below meth c hx hb hr hml hlk hts hown hsz hnt hE H hP hS hG ls hl => ?_)
  have hl : lv_has ls 2 [(0, .ref (a 0)), (1, .int mi)] := hl
  refine lv_iload_n hx hb dX5_pass_0 rfl (lv_at hl 1 rfl) ?_
  refine lv_iconst (v := 1) hx hb dX5_pass_1 (by decide) ?_
  refine lv_icmp_lt (tgt := 12) hx hb dX5_pass_2 (by decide) (fun h_1 => ?_) (fun h_1 => ?_)
  · exact x_thr (w := wX cI a) (σ := σ) (text := "minutes out of range") hx hb hlf hml hlk hown hnt hE hP hS (by decide) (hts _ (List.mem_of_getElem? (i := 1) rfl)) (hts _ (List.mem_of_getElem? (i := 2) rfl)) (fun w hw => hts w (by first | exact List.mem_cons_of_mem _ (List.mem_append_right _ hw) | exact List.mem_cons_of_mem _ (List.mem_append_left _ (List.mem_append_right _ hw)))) xA_B xA_g (by decide) hl.1 dX5_pass_12 dX5_pass_15 dX5_pass_16 dX5_pass_18 dX5_pass_21 ⟨Nat.le_of_ble_eq_true rfl, Nat.le_of_ble_eq_true rfl⟩ ⟨Nat.le_of_ble_eq_true rfl, Nat.le_of_ble_eq_true rfl⟩ ⟨Nat.le_of_ble_eq_true rfl, Nat.le_of_ble_eq_true rfl⟩
  · refine lv_iload_n hx hb dX5_pass_5 rfl (lv_at hl 1 rfl) ?_
    refine lv_sipush (v := 600) hx hb dX5_pass_6 (by decide) ?_
    refine lv_icmp_le (tgt := 22) hx hb dX5_pass_9 (by decide) (fun h_2 => ?_) (fun h_2 => ?_)
    · exact (hx0 ⟨h_1, h_2⟩).elim
    · exact x_thr (w := wX cI a) (σ := σ) (text := "minutes out of range") hx hb hlf hml hlk hown hnt hE hP hS (by decide) (hts _ (List.mem_of_getElem? (i := 1) rfl)) (hts _ (List.mem_of_getElem? (i := 2) rfl)) (fun w hw => hts w (by first | exact List.mem_cons_of_mem _ (List.mem_append_right _ hw) | exact List.mem_cons_of_mem _ (List.mem_append_left _ (List.mem_append_right _ hw)))) xA_B xA_g (by decide) hl.1 dX5_pass_12 dX5_pass_15 dX5_pass_16 dX5_pass_18 dX5_pass_21 ⟨Nat.le_of_ble_eq_true rfl, Nat.le_of_ble_eq_true rfl⟩ ⟨Nat.le_of_ble_eq_true rfl, Nat.le_of_ble_eq_true rfl⟩ ⟨Nat.le_of_ble_eq_true rfl, Nat.le_of_ble_eq_true rfl⟩
set_option maxHeartbeats 4000000 in
set_option maxRecDepth 100000 in
theorem xc_X5_pass_x34 (l : Launch) (D : va_G) (cI : ClassId) (a : Nat → Nat) (sz : Nat) (σ : Sg) (mi : Int32) (hp1 : ¬ mi < 1) (hp2 : mi ≤ 600) (hx0 : ¬ (σ 0 5) + mi ≤ 20000) (hlf : l.stackTraces = false) : vx_Met l yX5_pass wsX5_pass ({ frames := 6, cells := 1, slots := 6, locals := 82 }) (PcE D cI 29 a (wX cI a) sz σ [.ref (a 0), .int mi]) (QxI 29 a sz) (XE D 29 a (wX cI a) sz σ "java/lang/IllegalStateException") 1 6 (AX 29 a sz) := by
  refine x_ofE (cc := cX5_pass) (maxL := 2) (ret := some .int) (C := RX5) rfl (by decide) rfl (Nat.le_of_ble_eq_true rfl) (fun p e s m below meth c hx hb hr hml hlk hts hown hsz hnt hE H hP hS hG ls hl => ?_)
  have hl : lv_has ls 2 [(0, .ref (a 0)), (1, .int mi)] := hl
  refine lv_iload_n hx hb dX5_pass_0 rfl (lv_at hl 1 rfl) ?_
  refine lv_iconst (v := 1) hx hb dX5_pass_1 (by decide) ?_
  refine lv_icmp_lt (tgt := 12) hx hb dX5_pass_2 (by decide) (fun h => absurd h hp1) (fun _ => ?_)
  refine lv_iload_n hx hb dX5_pass_5 rfl (lv_at hl 1 rfl) ?_
  refine lv_sipush (v := 600) hx hb dX5_pass_6 (by decide) ?_
  refine lv_icmp_le (tgt := 22) hx hb dX5_pass_9 (by decide) (fun _ => ?_) (fun h => absurd hp2 h)
  refine lv_aload_n hx hb dX5_pass_22 rfl (lv_at hl 0 rfl) ?_
  refine x_get (ci := 5) (C := RX5) (T := TX5) (M := 9) (v := .int (σ 0 5)) hx hb hts in_X5_pass_5 hown hG hP 0 rfl rfl 5 (by decide) (List.mem_of_getElem? (i := 5) rfl) rfl rfl dX5_pass_23 ?_
  refine lv_iload_n hx hb dX5_pass_26 rfl (lv_at hl 1 rfl) ?_
  refine lv_iadd hx hb dX5_pass_27 ?_
  refine lv_sipush (v := 20000) hx hb dX5_pass_28 (by decide) ?_
  refine lv_icmp_le (tgt := 44) hx hb dX5_pass_31 (by decide) (fun h => absurd h hx0) (fun _ => ?_)
  exact x_thr (w := wX cI a) (σ := σ) (text := "now would be above its last minute") hx hb hlf hml hlk hown hnt hE hP hS (by decide) (hts _ (List.mem_of_getElem? (i := 3) rfl)) (hts _ (List.mem_of_getElem? (i := 4) rfl)) (fun w hw => hts w (by first | exact List.mem_cons_of_mem _ (List.mem_append_right _ hw) | exact List.mem_cons_of_mem _ (List.mem_append_left _ (List.mem_append_right _ hw)))) xT_B xT_g (by decide) hl.1 dX5_pass_34 dX5_pass_37 dX5_pass_38 dX5_pass_40 dX5_pass_43 ⟨Nat.le_of_ble_eq_true rfl, Nat.le_of_ble_eq_true rfl⟩ ⟨Nat.le_of_ble_eq_true rfl, Nat.le_of_ble_eq_true rfl⟩ ⟨Nat.le_of_ble_eq_true rfl, Nat.le_of_ble_eq_true rfl⟩
set_option maxHeartbeats 4000000 in
set_option maxRecDepth 100000 in
theorem xc_X5_cycle_xd (l : Launch) (D : va_G) (cI : ClassId) (a : Nat → Nat) (sz : Nat) (σ : Sg) (cy : Int32) (its : Int32) (hc : vp_in cy 30) (hx0 : ¬ vp_in its 4) (hlf : l.stackTraces = false) : vx_Met l yX5_cycle wsX5_cycle ({ frames := 6, cells := 1, slots := 6, locals := 82 }) (PcE D cI 29 a (wX cI a) sz σ [.ref (a 0), .int cy, .int its]) (QxI 29 a sz) (XE D 29 a (wX cI a) sz σ "java/lang/IllegalArgumentException") 1 6 (AX 29 a sz) := by
  refine x_ofE (cc := cX5_cycle) (maxL := 3) (ret := some .int) (C := RX5) rfl (by decide) rfl (Nat.le_of_ble_eq_true rfl) (fun p e s m below meth c hx hb hr hml hlk hts hown hsz hnt hE H hP hS hG ls hl => ?_)
  have hl : lv_has ls 3 [(0, .ref (a 0)), (1, .int cy), (2, .int its)] := hl
  refine lv_iload_n hx hb dX5_cycle_0 rfl (lv_at hl 1 rfl) ?_
  refine x_callSv (w := wX cI a) (σ := σ) (σ' := σ) (As := [.int cy]) (rest := []) ⟨hx, hb, hml, hown, hts⟩ hG hP hS hsz (c_X5_needCycle l D cI a H.size σ cy hc) (va_cwS 1 hts gX5_cycle_X5_needCycle rfl rfl rfl (by decide +kernel) ⟨Nat.le_of_ble_eq_true rfl, Nat.le_of_ble_eq_true rfl⟩) rfl hl.1 rfl (Nat.le_of_ble_eq_true rfl) ⟨Nat.zero_le _, Nat.zero_le _⟩ dX5_cycle_1 (fun H locs hP hS => ?_)
  refine lv_iload_n hx hb dX5_cycle_4 rfl (lv_at hl 2 rfl) ?_
  have h_1 : ¬ its = 0 := fun q => hx0 (by rw [q]; exact vp_in_nI (n := 0) (by decide) (by decide))
  have h_2 : ¬ its = 1 := fun q => hx0 (by rw [q]; exact vp_in_nI (n := 1) (by decide) (by decide))
  have h_3 : ¬ its = 2 := fun q => hx0 (by rw [q]; exact vp_in_nI (n := 2) (by decide) (by decide))
  have h_4 : ¬ its = 3 := fun q => hx0 (by rw [q]; exact vp_in_nI (n := 3) (by decide) (by decide))
  refine lv_tableOut (tgt := 96) hx hb dX5_cycle_5 (by have e0 := sw_ne (z := 0) h_1 (by decide); have e1 := sw_ne (z := 1) h_2 (by decide); have e2 := sw_ne (z := 2) h_3 (by decide); have e3 := sw_ne (z := 3) h_4 (by decide); omega) (by decide) ?_
  exact x_thr (w := wX cI a) (σ := σ) (text := "no such question of a cycle") hx hb hlf hml hlk hown hnt hE hP hS (by decide) (hts _ (List.mem_of_getElem? (i := 1) rfl)) (hts _ (List.mem_of_getElem? (i := 2) rfl)) (fun w hw => hts w (by first | exact List.mem_cons_of_mem _ (List.mem_append_right _ hw) | exact List.mem_cons_of_mem _ (List.mem_append_left _ (List.mem_append_right _ hw)))) xA_B xA_g (by decide) hl.1 dX5_cycle_96 dX5_cycle_99 dX5_cycle_100 dX5_cycle_102 dX5_cycle_105 ⟨Nat.le_of_ble_eq_true rfl, Nat.le_of_ble_eq_true rfl⟩ ⟨Nat.le_of_ble_eq_true rfl, Nat.le_of_ble_eq_true rfl⟩ ⟨Nat.le_of_ble_eq_true rfl, Nat.le_of_ble_eq_true rfl⟩
set_option maxHeartbeats 4000000 in
set_option maxRecDepth 100000 in
theorem xc_X5_station_xd (l : Launch) (D : va_G) (cI : ClassId) (a : Nat → Nat) (sz : Nat) (σ : Sg) (st : Int32) (its : Int32) (hs : vp_in st 8) (hx0 : ¬ vp_in its 5) (hlf : l.stackTraces = false) : vx_Met l yX5_station wsX5_station ({ frames := 6, cells := 1, slots := 6, locals := 82 }) (PcE D cI 29 a (wX cI a) sz σ [.ref (a 0), .int st, .int its]) (QxI 29 a sz) (XE D 29 a (wX cI a) sz σ "java/lang/IllegalArgumentException") 1 6 (AX 29 a sz) := by
  refine x_ofE (cc := cX5_station) (maxL := 3) (ret := some .int) (C := RX5) rfl (by decide) rfl (Nat.le_of_ble_eq_true rfl) (fun p e s m below meth c hx hb hr hml hlk hts hown hsz hnt hE H hP hS hG ls hl => ?_)
  have hl : lv_has ls 3 [(0, .ref (a 0)), (1, .int st), (2, .int its)] := hl
  refine lv_iload_n hx hb dX5_station_0 rfl (lv_at hl 1 rfl) ?_
  refine x_callSv (w := wX cI a) (σ := σ) (σ' := σ) (As := [.int st]) (rest := []) ⟨hx, hb, hml, hown, hts⟩ hG hP hS hsz (c_X5_needStation l D cI a H.size σ st hs) (va_cwS 1 hts gX5_station_X5_needStation rfl rfl rfl (by decide +kernel) ⟨Nat.le_of_ble_eq_true rfl, Nat.le_of_ble_eq_true rfl⟩) rfl hl.1 rfl (Nat.le_of_ble_eq_true rfl) ⟨Nat.zero_le _, Nat.zero_le _⟩ dX5_station_1 (fun H locs hP hS => ?_)
  refine lv_iload_n hx hb dX5_station_4 rfl (lv_at hl 2 rfl) ?_
  have h_1 : ¬ its = 0 := fun q => hx0 (by rw [q]; exact vp_in_nI (n := 0) (by decide) (by decide))
  have h_2 : ¬ its = 1 := fun q => hx0 (by rw [q]; exact vp_in_nI (n := 1) (by decide) (by decide))
  have h_3 : ¬ its = 2 := fun q => hx0 (by rw [q]; exact vp_in_nI (n := 2) (by decide) (by decide))
  have h_4 : ¬ its = 3 := fun q => hx0 (by rw [q]; exact vp_in_nI (n := 3) (by decide) (by decide))
  have h_5 : ¬ its = 4 := fun q => hx0 (by rw [q]; exact vp_in_nI (n := 4) (by decide) (by decide))
  refine lv_tableOut (tgt := 96) hx hb dX5_station_5 (by have e0 := sw_ne (z := 0) h_1 (by decide); have e1 := sw_ne (z := 1) h_2 (by decide); have e2 := sw_ne (z := 2) h_3 (by decide); have e3 := sw_ne (z := 3) h_4 (by decide); have e4 := sw_ne (z := 4) h_5 (by decide); omega) (by decide) ?_
  exact x_thr (w := wX cI a) (σ := σ) (text := "no such question of a station") hx hb hlf hml hlk hown hnt hE hP hS (by decide) (hts _ (List.mem_of_getElem? (i := 1) rfl)) (hts _ (List.mem_of_getElem? (i := 2) rfl)) (fun w hw => hts w (by first | exact List.mem_cons_of_mem _ (List.mem_append_right _ hw) | exact List.mem_cons_of_mem _ (List.mem_append_left _ (List.mem_append_right _ hw)))) xA_B xA_g (by decide) hl.1 dX5_station_96 dX5_station_99 dX5_station_100 dX5_station_102 dX5_station_105 ⟨Nat.le_of_ble_eq_true rfl, Nat.le_of_ble_eq_true rfl⟩ ⟨Nat.le_of_ble_eq_true rfl, Nat.le_of_ble_eq_true rfl⟩ ⟨Nat.le_of_ble_eq_true rfl, Nat.le_of_ble_eq_true rfl⟩
set_option maxHeartbeats 4000000 in
set_option maxRecDepth 100000 in
theorem xc_X5_rider_xd (l : Launch) (D : va_G) (cI : ClassId) (a : Nat → Nat) (sz : Nat) (σ : Sg) (ri : Int32) (its : Int32) (hr1 : vp_in ri 10) (hx0 : ¬ vp_in its 5) (hlf : l.stackTraces = false) : vx_Met l yX5_rider wsX5_rider ({ frames := 6, cells := 1, slots := 6, locals := 82 }) (PcE D cI 29 a (wX cI a) sz σ [.ref (a 0), .int ri, .int its]) (QxI 29 a sz) (XE D 29 a (wX cI a) sz σ "java/lang/IllegalArgumentException") 1 6 (AX 29 a sz) := by
  refine x_ofE (cc := cX5_rider) (maxL := 3) (ret := some .int) (C := RX5) rfl (by decide) rfl (Nat.le_of_ble_eq_true rfl) (fun p e s m below meth c hx hb hr hml hlk hts hown hsz hnt hE H hP hS hG ls hl => ?_)
  have hl : lv_has ls 3 [(0, .ref (a 0)), (1, .int ri), (2, .int its)] := hl
  refine lv_iload_n hx hb dX5_rider_0 rfl (lv_at hl 1 rfl) ?_
  refine x_callSv (w := wX cI a) (σ := σ) (σ' := σ) (As := [.int ri]) (rest := []) ⟨hx, hb, hml, hown, hts⟩ hG hP hS hsz (c_X5_needRider l D cI a H.size σ ri hr1) (va_cwS 1 hts gX5_rider_X5_needRider rfl rfl rfl (by decide +kernel) ⟨Nat.le_of_ble_eq_true rfl, Nat.le_of_ble_eq_true rfl⟩) rfl hl.1 rfl (Nat.le_of_ble_eq_true rfl) ⟨Nat.zero_le _, Nat.zero_le _⟩ dX5_rider_1 (fun H locs hP hS => ?_)
  refine lv_iload_n hx hb dX5_rider_4 rfl (lv_at hl 2 rfl) ?_
  have h_1 : ¬ its = 0 := fun q => hx0 (by rw [q]; exact vp_in_nI (n := 0) (by decide) (by decide))
  have h_2 : ¬ its = 1 := fun q => hx0 (by rw [q]; exact vp_in_nI (n := 1) (by decide) (by decide))
  have h_3 : ¬ its = 2 := fun q => hx0 (by rw [q]; exact vp_in_nI (n := 2) (by decide) (by decide))
  have h_4 : ¬ its = 3 := fun q => hx0 (by rw [q]; exact vp_in_nI (n := 3) (by decide) (by decide))
  have h_5 : ¬ its = 4 := fun q => hx0 (by rw [q]; exact vp_in_nI (n := 4) (by decide) (by decide))
  refine lv_tableOut (tgt := 105) hx hb dX5_rider_5 (by have e0 := sw_ne (z := 0) h_1 (by decide); have e1 := sw_ne (z := 1) h_2 (by decide); have e2 := sw_ne (z := 2) h_3 (by decide); have e3 := sw_ne (z := 3) h_4 (by decide); have e4 := sw_ne (z := 4) h_5 (by decide); omega) (by decide) ?_
  exact x_thr (w := wX cI a) (σ := σ) (text := "no such question of a rider") hx hb hlf hml hlk hown hnt hE hP hS (by decide) (hts _ (List.mem_of_getElem? (i := 1) rfl)) (hts _ (List.mem_of_getElem? (i := 2) rfl)) (fun w hw => hts w (by first | exact List.mem_cons_of_mem _ (List.mem_append_right _ hw) | exact List.mem_cons_of_mem _ (List.mem_append_left _ (List.mem_append_right _ hw)))) xA_B xA_g (by decide) hl.1 dX5_rider_105 dX5_rider_108 dX5_rider_109 dX5_rider_111 dX5_rider_114 ⟨Nat.le_of_ble_eq_true rfl, Nat.le_of_ble_eq_true rfl⟩ ⟨Nat.le_of_ble_eq_true rfl, Nat.le_of_ble_eq_true rfl⟩ ⟨Nat.le_of_ble_eq_true rfl, Nat.le_of_ble_eq_true rfl⟩
