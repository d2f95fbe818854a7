/-- where the stations lie, in the reference -/
def GRM (σ : Sg) : Prop := ∀ j, j < 8 → ∃ a b d : Nat, a ≤ 99 ∧ b ≤ 99 ∧ d ≤ 99 ∧ σ 1 j = nI a ∧ σ 2 j = nI b ∧ σ 3 j = nI d
theorem sqM_in {σ : Sg} {st ot : Int32} (h : GRM σ) (h1 : vp_in st 8) (h2 : vp_in ot 8) : vp_in ((((σ 1 st.toNatClampNeg) - (σ 1 ot.toNatClampNeg)) * ((σ 1 st.toNatClampNeg) - (σ 1 ot.toNatClampNeg))) + (((σ 2 st.toNatClampNeg) - (σ 2 ot.toNatClampNeg)) * ((σ 2 st.toNatClampNeg) - (σ 2 ot.toNatClampNeg)))) 19603 := by
  obtain ⟨i, hi, rfl⟩ := vp_in_of h1 (by decide)
  obtain ⟨j, hj, rfl⟩ := vp_in_of h2 (by decide)
  rw [nI_clamp (by omega), nI_clamp (by omega)]
  obtain ⟨a, b, d, ha, hb, hd, e1, e2, -⟩ := h i hi
  obtain ⟨a2, b2, d2, ha2, hb2, hd2, e3, e4, -⟩ := h j hj
  rw [e1, e2, e3, e4]
  exact sq2_in ha ha2 hb hb2
theorem rM_mag {σ : Sg} {sq : Int32} (h : vp_in sq 19603) : (r_X6_root σ sq).toNat % 2 ^ 63 < 1089 * 2 ^ 52 := by
  obtain ⟨i, hi, rfl⟩ := vp_in_of h (by decide)
  unfold r_X6_root
  rw [nI_clamp (by omega)]
  exact rV_mag hi
theorem in_X6_wayOf_6 : ∀ wd ∈ u_ws RX6 TX6 29, wd ∈ wsX6_wayOf := by decide +kernel
noncomputable def r_X6_wayOf (σ : Sg) (st : Int32) (ot : Int32) : UInt64 :=
  if σ 3 ot.toNatClampNeg ≤ σ 3 st.toNatClampNeg then
    FP.dadd (r_X6_root σ ((((σ 1 st.toNatClampNeg) - (σ 1 ot.toNatClampNeg)) * ((σ 1 st.toNatClampNeg) - (σ 1 ot.toNatClampNeg))) + (((σ 2 st.toNatClampNeg) - (σ 2 ot.toNatClampNeg)) * ((σ 2 st.toNatClampNeg) - (σ 2 ot.toNatClampNeg))))) (FP.dmul 4611686018427387904 (FP.i2d 0))
  else
    FP.dadd (r_X6_root σ ((((σ 1 st.toNatClampNeg) - (σ 1 ot.toNatClampNeg)) * ((σ 1 st.toNatClampNeg) - (σ 1 ot.toNatClampNeg))) + (((σ 2 st.toNatClampNeg) - (σ 2 ot.toNatClampNeg)) * ((σ 2 st.toNatClampNeg) - (σ 2 ot.toNatClampNeg))))) (FP.dmul 4611686018427387904 (FP.i2d ((σ 3 ot.toNatClampNeg) - (σ 3 st.toNatClampNeg))))
set_option maxHeartbeats 4000000 in
set_option maxRecDepth 100000 in
theorem c_X6_wayOf (l : Launch) (D : va_G) (cI : ClassId) (a : Nat → Nat) (sz : Nat) (σ : Sg) (st : Int32) (ot : Int32) (hs : vp_in st 8) (hs2 : vp_in ot 8) (hgr : GRM σ) : Met l yX6_wayOf wsX6_wayOf ({ frames := 2, cells := 0, slots := 0, locals := 65 }) (PcW D cI 24 a (wM cI a) sz σ [.ref (a 0), .int st, .int ot]) (QdW D 24 a (wM cI a) sz (r_X6_wayOf σ st ot) σ) 0 0 (AX 24 a sz) := by
  refine x_of (cc := cX6_wayOf) (maxL := 6) (ret := some .double) (C := RX6) rfl (by decide) rfl (Nat.le_of_ble_eq_true rfl) (fun p e s m below meth c hx hb hr hml hlk hts hown hsz H hP hS hG ls hl => ?_)
  have hl : lv_has ls 6 [(0, .ref (a 0)), (1, .int st), (2, .int ot)] := hl
  refine lv_aload_n hx hb dX6_wayOf_0 rfl (lv_at hl 0 rfl) ?_
  refine x_get (ci := 6) (C := RX6) (T := TX6) (M := 29) (v := .ref (a 1)) hx hb hts in_X6_wayOf_6 hown hG hP 0 rfl rfl 2 (by decide) (List.mem_of_getElem? (i := 1) rfl) rfl rfl dX6_wayOf_1 ?_
  refine lv_iload_n hx hb dX6_wayOf_4 rfl (lv_at hl 1 rfl) ?_
  refine x_iald (f := σ 1) hx hb hG hP 1 rfl (by assumption) dX6_wayOf_5 ?_
  refine lv_aload_n hx hb dX6_wayOf_6 rfl (lv_at hl 0 rfl) ?_
  refine x_get (ci := 6) (C := RX6) (T := TX6) (M := 29) (v := .ref (a 1)) hx hb hts in_X6_wayOf_6 hown hG hP 0 rfl rfl 2 (by decide) (List.mem_of_getElem? (i := 1) rfl) rfl rfl dX6_wayOf_7 ?_
  refine lv_iload_n hx hb dX6_wayOf_10 rfl (lv_at hl 2 rfl) ?_
  refine x_iald (f := σ 1) hx hb hG hP 1 rfl (by assumption) dX6_wayOf_11 ?_
  refine lv_isub hx hb dX6_wayOf_12 ?_
  refine lv_istore_n (lv' := [(3, .int ((σ 1 st.toNatClampNeg) - (σ 1 ot.toNatClampNeg))), (0, .ref (a 0)), (1, .int st), (2, .int ot)]) hx hb dX6_wayOf_13 rfl hl (by decide) rfl (fun ls hl => ?_)
  refine lv_aload_n hx hb dX6_wayOf_14 rfl (lv_at hl 1 rfl) ?_
  refine x_get (ci := 6) (C := RX6) (T := TX6) (M := 29) (v := .ref (a 2)) hx hb hts in_X6_wayOf_6 hown hG hP 0 rfl rfl 3 (by decide) (List.mem_of_getElem? (i := 2) rfl) rfl rfl dX6_wayOf_15 ?_
  refine lv_iload_n hx hb dX6_wayOf_18 rfl (lv_at hl 2 rfl) ?_
  refine x_iald (f := σ 2) hx hb hG hP 2 rfl (by assumption) dX6_wayOf_19 ?_
  refine lv_aload_n hx hb dX6_wayOf_20 rfl (lv_at hl 1 rfl) ?_
  refine x_get (ci := 6) (C := RX6) (T := TX6) (M := 29) (v := .ref (a 2)) hx hb hts in_X6_wayOf_6 hown hG hP 0 rfl rfl 3 (by decide) (List.mem_of_getElem? (i := 2) rfl) rfl rfl dX6_wayOf_21 ?_
  refine lv_iload_n hx hb dX6_wayOf_24 rfl (lv_at hl 3 rfl) ?_
  refine x_iald (f := σ 2) hx hb hG hP 2 rfl (by assumption) dX6_wayOf_25 ?_
  refine lv_isub hx hb dX6_wayOf_26 ?_
  refine lv_istore (lv' := [(4, .int ((σ 2 st.toNatClampNeg) - (σ 2 ot.toNatClampNeg))), (3, .int ((σ 1 st.toNatClampNeg) - (σ 1 ot.toNatClampNeg))), (0, .ref (a 0)), (1, .int st), (2, .int ot)]) hx hb dX6_wayOf_27 hl (by decide) rfl (fun ls hl => ?_)
  refine lv_aload_n hx hb dX6_wayOf_29 rfl (lv_at hl 2 rfl) ?_
  refine x_get (ci := 6) (C := RX6) (T := TX6) (M := 29) (v := .ref (a 3)) hx hb hts in_X6_wayOf_6 hown hG hP 0 rfl rfl 4 (by decide) (List.mem_of_getElem? (i := 3) rfl) rfl rfl dX6_wayOf_30 ?_
  refine lv_iload_n hx hb dX6_wayOf_33 rfl (lv_at hl 4 rfl) ?_
  refine x_iald (f := σ 3) hx hb hG hP 3 rfl (by assumption) dX6_wayOf_34 ?_
  refine lv_aload_n hx hb dX6_wayOf_35 rfl (lv_at hl 2 rfl) ?_
  refine x_get (ci := 6) (C := RX6) (T := TX6) (M := 29) (v := .ref (a 3)) hx hb hts in_X6_wayOf_6 hown hG hP 0 rfl rfl 4 (by decide) (List.mem_of_getElem? (i := 3) rfl) rfl rfl dX6_wayOf_36 ?_
  refine lv_iload_n hx hb dX6_wayOf_39 rfl (lv_at hl 3 rfl) ?_
  refine x_iald (f := σ 3) hx hb hG hP 3 rfl (by assumption) dX6_wayOf_40 ?_
  refine lv_icmp_le (tgt := 60) hx hb dX6_wayOf_41 (by decide) (fun h_1 => ?_) (fun h_1 => ?_)
  · refine lv_iconst (v := 0) hx hb dX6_wayOf_60 (by decide) ?_
    refine lv_istore (lv' := [(5, .int 0), (4, .int ((σ 2 st.toNatClampNeg) - (σ 2 ot.toNatClampNeg))), (3, .int ((σ 1 st.toNatClampNeg) - (σ 1 ot.toNatClampNeg))), (0, .ref (a 0)), (1, .int st), (2, .int ot)]) hx hb dX6_wayOf_61 hl (by decide) rfl (fun ls hl => ?_)
    refine lv_iload_n hx hb dX6_wayOf_63 rfl (lv_at hl 2 rfl) ?_
    refine lv_iload_n hx hb dX6_wayOf_64 rfl (lv_at hl 2 rfl) ?_
    refine lv_imul hx hb dX6_wayOf_65 ?_
    refine lv_iload hx hb dX6_wayOf_66 (lv_at hl 1 rfl) ?_
    refine lv_iload hx hb dX6_wayOf_68 (lv_at hl 1 rfl) ?_
    refine lv_imul hx hb dX6_wayOf_70 ?_
    refine lv_iadd hx hb dX6_wayOf_71 ?_
    refine x_callSd (w := wM cI a) (σ := σ) (σ' := σ) (As := [.int ((((σ 1 st.toNatClampNeg) - (σ 1 ot.toNatClampNeg)) * ((σ 1 st.toNatClampNeg) - (σ 1 ot.toNatClampNeg))) + (((σ 2 st.toNatClampNeg) - (σ 2 ot.toNatClampNeg)) * ((σ 2 st.toNatClampNeg) - (σ 2 ot.toNatClampNeg))))]) (rest := []) ⟨hx, hb, hml, hown, hts⟩ hG hP hS hsz (c_X6_root l D cI a H.size σ ((((σ 1 st.toNatClampNeg) - (σ 1 ot.toNatClampNeg)) * ((σ 1 st.toNatClampNeg) - (σ 1 ot.toNatClampNeg))) + (((σ 2 st.toNatClampNeg) - (σ 2 ot.toNatClampNeg)) * ((σ 2 st.toNatClampNeg) - (σ 2 ot.toNatClampNeg)))) (sqM_in hgr hs hs2)) (va_cwS 1 hts gX6_wayOf_X6_root rfl rfl rfl (by decide +kernel) ⟨Nat.le_of_ble_eq_true rfl, Nat.le_of_ble_eq_true rfl⟩) rfl hl.1 rfl (Nat.le_of_ble_eq_true rfl) ⟨Nat.zero_le _, Nat.zero_le _⟩ dX6_wayOf_72 (fun H locs hP hS => ?_)
    refine lv_ldc2d (v := 4611686018427387904) hx hb hown (hts _ (List.mem_of_getElem? (i := 4) rfl)) dX6_wayOf_75 ?_
    refine lv_iload hx hb dX6_wayOf_78 (lv_at hl 0 rfl) ?_
    refine lv_i2d hx hb dX6_wayOf_80 ?_
    refine lv_dmul hx hb dX6_wayOf_81 (c2_nan _) ?_
    refine lv_dadd hx hb dX6_wayOf_82 (wy_nan (rM_mag (sqM_in hgr hs hs2))) ?_
    exact x_dret hx hb hr hlk hsz hP hS (by rw [r_X6_wayOf, if_pos h_1]) rfl dX6_wayOf_83
  · refine lv_aload_n hx hb dX6_wayOf_44 rfl (lv_at hl 2 rfl) ?_
    refine x_get (ci := 6) (C := RX6) (T := TX6) (M := 29) (v := .ref (a 3)) hx hb hts in_X6_wayOf_6 hown hG hP 0 rfl rfl 4 (by decide) (List.mem_of_getElem? (i := 3) rfl) rfl rfl dX6_wayOf_45 ?_
    refine lv_iload_n hx hb dX6_wayOf_48 rfl (lv_at hl 4 rfl) ?_
    refine x_iald (f := σ 3) hx hb hG hP 3 rfl (by assumption) dX6_wayOf_49 ?_
    refine lv_aload_n hx hb dX6_wayOf_50 rfl (lv_at hl 2 rfl) ?_
    refine x_get (ci := 6) (C := RX6) (T := TX6) (M := 29) (v := .ref (a 3)) hx hb hts in_X6_wayOf_6 hown hG hP 0 rfl rfl 4 (by decide) (List.mem_of_getElem? (i := 3) rfl) rfl rfl dX6_wayOf_51 ?_
    refine lv_iload_n hx hb dX6_wayOf_54 rfl (lv_at hl 3 rfl) ?_
    refine x_iald (f := σ 3) hx hb hG hP 3 rfl (by assumption) dX6_wayOf_55 ?_
    refine lv_isub hx hb dX6_wayOf_56 ?_
    refine lv_goto (tgt := 61) hx hb dX6_wayOf_57 (by decide) ?_
    refine lv_istore (lv' := [(5, .int ((σ 3 ot.toNatClampNeg) - (σ 3 st.toNatClampNeg))), (4, .int ((σ 2 st.toNatClampNeg) - (σ 2 ot.toNatClampNeg))), (3, .int ((σ 1 st.toNatClampNeg) - (σ 1 ot.toNatClampNeg))), (0, .ref (a 0)), (1, .int st), (2, .int ot)]) hx hb dX6_wayOf_61 hl (by decide) rfl (fun ls hl => ?_)
    refine lv_iload_n hx hb dX6_wayOf_63 rfl (lv_at hl 2 rfl) ?_
    refine lv_iload_n hx hb dX6_wayOf_64 rfl (lv_at hl 2 rfl) ?_
    refine lv_imul hx hb dX6_wayOf_65 ?_
    refine lv_iload hx hb dX6_wayOf_66 (lv_at hl 1 rfl) ?_
    refine lv_iload hx hb dX6_wayOf_68 (lv_at hl 1 rfl) ?_
    refine lv_imul hx hb dX6_wayOf_70 ?_
    refine lv_iadd hx hb dX6_wayOf_71 ?_
    refine x_callSd (w := wM cI a) (σ := σ) (σ' := σ) (As := [.int ((((σ 1 st.toNatClampNeg) - (σ 1 ot.toNatClampNeg)) * ((σ 1 st.toNatClampNeg) - (σ 1 ot.toNatClampNeg))) + (((σ 2 st.toNatClampNeg) - (σ 2 ot.toNatClampNeg)) * ((σ 2 st.toNatClampNeg) - (σ 2 ot.toNatClampNeg))))]) (rest := []) ⟨hx, hb, hml, hown, hts⟩ hG hP hS hsz (c_X6_root l D cI a H.size σ ((((σ 1 st.toNatClampNeg) - (σ 1 ot.toNatClampNeg)) * ((σ 1 st.toNatClampNeg) - (σ 1 ot.toNatClampNeg))) + (((σ 2 st.toNatClampNeg) - (σ 2 ot.toNatClampNeg)) * ((σ 2 st.toNatClampNeg) - (σ 2 ot.toNatClampNeg)))) (sqM_in hgr hs hs2)) (va_cwS 1 hts gX6_wayOf_X6_root rfl rfl rfl (by decide +kernel) ⟨Nat.le_of_ble_eq_true rfl, Nat.le_of_ble_eq_true rfl⟩) rfl hl.1 rfl (Nat.le_of_ble_eq_true rfl) ⟨Nat.zero_le _, Nat.zero_le _⟩ dX6_wayOf_72 (fun H locs hP hS => ?_)
    refine lv_ldc2d (v := 4611686018427387904) hx hb hown (hts _ (List.mem_of_getElem? (i := 4) rfl)) dX6_wayOf_75 ?_
    refine lv_iload hx hb dX6_wayOf_78 (lv_at hl 0 rfl) ?_
    refine lv_i2d hx hb dX6_wayOf_80 ?_
    refine lv_dmul hx hb dX6_wayOf_81 (c2_nan _) ?_
    refine lv_dadd hx hb dX6_wayOf_82 (wy_nan (rM_mag (sqM_in hgr hs hs2))) ?_
    exact x_dret hx hb hr hlk hsz hP hS (by rw [r_X6_wayOf, if_neg h_1]) rfl dX6_wayOf_83
theorem wM_mag {σ : Sg} {st ot : Int32} (h : GRM σ) (h1 : vp_in st 8) (h2 : vp_in ot 8) : (r_X6_wayOf σ st ot).toNat % 2 ^ 63 < 1091 * 2 ^ 52 := by
  unfold r_X6_wayOf
  repeat' split
  all_goals exact wy_mag (rM_mag (sqM_in h h1 h2))
noncomputable def st_X6_nearest_29 (σ : Sg) (st : Int32) (n : Nat) (i : Nat) (x29 : Int32) : Int32 :=
  if nI i = st then
    x29
  else
    if r_X6_free (s_X6_goThrough (s_X6_goesWell σ 0) n) (nI i) ≤ 0 then
      x29
    else
      if x29 = (-1) then
        (nI i)
      else
        if 0 ≤ Op.cmpValue (FP.dcmp (r_X6_wayOf (s_X6_goThrough (s_X6_goesWell σ 0) n) st (nI i)) (r_X6_wayOf (s_X6_goThrough (s_X6_goesWell σ 0) n) st x29)) .g then
          x29
        else
          (nI i)
noncomputable def r_X6_nearest (σ : Sg) (st : Int32) (n : Nat) : Int32 :=
  if r_X6_isStation σ st = 0 then
    0
  else
    (itn (st_X6_nearest_29 σ st n) 8 (-1))
def s_X6_nearest (σ : Sg) (st : Int32) (n : Nat) : Sg :=
  if r_X6_isStation σ st = 0 then
    s_X6_goesWell σ 1
  else
    s_X6_goThrough (s_X6_goesWell σ 0) n
theorem near_in (σ : Sg) (st : Int32) (n : Nat) {i : Nat} {x : Int32} (hi : i ≤ 8) (hx : x = itn (st_X6_nearest_29 σ st n) i (-1)) (h : ¬ x = (-1)) : vp_in x 8 := by
  have key : ∀ i, i ≤ 8 → itn (st_X6_nearest_29 σ st n) i (-1) = -1 ∨ vp_in (itn (st_X6_nearest_29 σ st n) i (-1)) 8 := by
    intro i
    induction i with
    | zero => intro _; exact Or.inl rfl
    | succ i ih =>
      intro hi
      have ih := ih (by omega)
      rw [itn_s]
      generalize itn (st_X6_nearest_29 σ st n) i (-1) = y at ih ⊢
      unfold st_X6_nearest_29
      repeat' split
      all_goals first | exact ih | exact Or.inr (vp_in_nI (by omega) (by decide))
  rcases key i hi with q | q
  · exact absurd (hx.trans q) h
  · rw [hx]; exact q
set_option maxHeartbeats 4000000 in
set_option maxRecDepth 100000 in
theorem c_X6_nearest (l : Launch) (D : va_G) (cI : ClassId) (a : Nat → Nat) (sz : Nat) (σ : Sg) (st : Int32) (n : Nat) (hn : n ≤ 300) (hg : gOK (s_X6_goesWell σ 0) n) (hgr : GRM (s_X6_goThrough (s_X6_goesWell σ 0) n)) : Met l yX6_nearest wsX6_nearest ({ frames := 5, cells := 0, slots := 0, locals := 120 }) (PcW D cI 24 a (wM cI a) sz σ [.ref (a 0), .int st]) (QiW D 24 a (wM cI a) sz (r_X6_nearest σ st n) (s_X6_nearest σ st n)) 0 0 (AX 24 a sz) := by
  refine x_of (cc := cX6_nearest) (maxL := 5) (ret := some .int) (C := RX6) rfl (by decide) rfl (Nat.le_of_ble_eq_true rfl) (fun p e s m below meth c hx hb hr hml hlk hts hown hsz H hP hS hG ls hl => ?_)
  have hl : lv_has ls 5 [(0, .ref (a 0)), (1, .int st)] := hl
  refine lv_aload_n hx hb dX6_nearest_0 rfl (lv_at hl 0 rfl) ?_
  refine lv_iload_n hx hb dX6_nearest_1 rfl (lv_at hl 1 rfl) ?_
  refine x_callSi (w := wM cI a) (σ := σ) (σ' := σ) (As := [.int st]) (rest := [.ref (a 0)]) ⟨hx, hb, hml, hown, hts⟩ hG hP hS hsz (c_X6_isStation l D cI a H.size σ st) (va_cwS 1 hts gX6_nearest_X6_isStation rfl rfl rfl (by decide +kernel) ⟨Nat.le_of_ble_eq_true rfl, Nat.le_of_ble_eq_true rfl⟩) rfl hl.1 rfl (Nat.le_of_ble_eq_true rfl) ⟨Nat.zero_le _, Nat.zero_le _⟩ dX6_nearest_2 (fun H locs hP hS => ?_)
  refine lv_if_eq (tgt := 12) hx hb dX6_nearest_5 (by decide) (fun h_1 => ?_) (fun h_1 => ?_)
  · refine lv_iconst (v := 1) hx hb dX6_nearest_12 (by decide) ?_
    refine x_callVi (w := wM cI a) (σ := σ) (σ' := s_X6_goesWell σ 1) (As := [.int 1]) (rest := []) (q0 := 0) ⟨hx, hb, hml, hown, hts⟩ hG hP hS hsz (c_X6_goesWell l D cI a H.size σ 1) (cwV 1 hts gX6_nearest_X6_goesWell rfl rfl rfl (by decide +kernel) ⟨Nat.le_of_ble_eq_true rfl, Nat.le_of_ble_eq_true rfl⟩) rfl rfl rfl rfl hl.1 rfl (Nat.le_of_ble_eq_true rfl) ⟨Nat.zero_le _, Nat.zero_le _⟩ dX6_nearest_13 (fun H locs hP hS => ?_)
    refine W.eq (g2 := F0 m 16 ls [.int 0]) rfl ?_
    refine lv_if_ne (tgt := 21) hx hb dX6_nearest_16 (by decide) (fun h => absurd (by decide) h) (fun _ => ?_)
    refine lv_iconst (v := 0) hx hb dX6_nearest_19 (by decide) ?_
    exact x_iret hx hb hr hlk hsz hP hS rfl (by rw [r_X6_nearest, if_pos h_1]) (by rw [s_X6_nearest, if_pos h_1]) dX6_nearest_20
  · refine lv_iconst (v := 0) hx hb dX6_nearest_8 (by decide) ?_
    refine lv_goto (tgt := 13) hx hb dX6_nearest_9 (by decide) ?_
    refine x_callVi (w := wM cI a) (σ := σ) (σ' := s_X6_goesWell σ 0) (As := [.int 0]) (rest := []) (q0 := 0) ⟨hx, hb, hml, hown, hts⟩ hG hP hS hsz (c_X6_goesWell l D cI a H.size σ 0) (cwV 1 hts gX6_nearest_X6_goesWell rfl rfl rfl (by decide +kernel) ⟨Nat.le_of_ble_eq_true rfl, Nat.le_of_ble_eq_true rfl⟩) rfl rfl rfl rfl hl.1 rfl (Nat.le_of_ble_eq_true rfl) ⟨Nat.zero_le _, Nat.zero_le _⟩ dX6_nearest_13 (fun H locs hP hS => ?_)
    refine W.eq (g2 := F0 m 16 ls [.int 1]) rfl ?_
    refine lv_if_ne (tgt := 21) hx hb dX6_nearest_16 (by decide) (fun _ => ?_) (fun h => absurd h (by decide))
    refine lv_aload_n hx hb dX6_nearest_21 rfl (lv_at hl 0 rfl) ?_
    refine x_callVv (w := wM cI a) (σ := s_X6_goesWell σ 0) (σ' := s_X6_goThrough (s_X6_goesWell σ 0) n) (As := []) (rest := []) (q0 := 0) ⟨hx, hb, hml, hown, hts⟩ hG hP hS hsz (c_X6_goThrough l D cI a H.size (s_X6_goesWell σ 0)  n hn hg) (cwV 0 hts gX6_nearest_X6_goThrough rfl rfl rfl (by decide +kernel) ⟨Nat.le_of_ble_eq_true rfl, Nat.le_of_ble_eq_true rfl⟩) rfl rfl rfl rfl hl.1 rfl (Nat.le_of_ble_eq_true rfl) ⟨Nat.zero_le _, Nat.zero_le _⟩ dX6_nearest_22 (fun H locs hP hS => ?_)
    have hst : vp_in st 8 := isSt_in h_1
    refine lv_iconst (v := (-1)) hx hb dX6_nearest_25 (by decide) ?_
    refine lv_istore_n (lv' := [(2, .int (-1)), (0, .ref (a 0)), (1, .int st)]) hx hb dX6_nearest_26 rfl hl (by decide) rfl (fun ls hl => ?_)
    refine lv_iconst (v := 0) hx hb dX6_nearest_27 (by decide) ?_
    refine lv_istore_n (lv' := [(3, .int 0), (2, .int (-1)), (0, .ref (a 0)), (1, .int st)]) hx hb dX6_nearest_28 rfl hl (by decide) rfl (fun ls hl => ?_)
    have loop_29 : ∀ (rem i : Nat) (_ : i + rem = 8) (x29 : Int32) (_ : x29 = itn (st_X6_nearest_29 σ st n) i (-1)) (H : Heap) (locs : List Loc) (ls : Array Slot) (_ : va_P D vwCl (wM cI a (s_X6_goThrough (s_X6_goesWell σ 0) n)) H) (_ : va_S (AX 24 a sz) s.heap H locs) (_ : lv_has ls 5 [(3, .int (nI i)), (2, .int x29), (0, .ref (a 0)), (1, .int st)]), W p l e (headSpec wsX6_nearest ({ frames := 5, cells := 0, slots := 0, locals := 120 } : Room)).room s m ([.ref (a 0), .int st] : List Value).toArray below meth c H locs 0 0 (MQ below (QiW D 24 a (wM cI a) sz (r_X6_nearest σ st n) (s_X6_nearest σ st n)) ([.ref (a 0), .int st] : List Value).toArray s 0 0 (AX 24 a sz)) (F0 m 29 ls []) := by
      intro rem
      induction rem with
      | zero =>
        intro i hi x29 ex29 H locs ls hP hS hl
        obtain rfl : 8 = i := by omega
        refine lv_iload_n hx hb dX6_nearest_29 rfl (lv_at hl 0 rfl) ?_
        refine lv_bipush (v := 8) hx hb dX6_nearest_30 (by decide) ?_
        refine lv_icmp_ge (tgt := 93) hx hb dX6_nearest_32 (by decide) (fun _ => ?_) (fun h => absurd (show (8 : Int32) ≤ nI 8 by decide) h)
        refine lv_iload_n hx hb dX6_nearest_93 rfl (lv_at hl 1 rfl) ?_
        exact x_iret hx hb hr hlk hsz hP hS rfl (by rw [r_X6_nearest, ← ex29] <;> (try dsimp only) <;> rw [if_neg h_1]) (by rw [s_X6_nearest, if_neg h_1]) dX6_nearest_94
      | succ rem ih =>
        intro i hi x29 ex29 H locs ls hP hS hl
        refine lv_iload_n hx hb dX6_nearest_29 rfl (lv_at hl 0 rfl) ?_
        refine lv_bipush (v := 8) hx hb dX6_nearest_30 (by decide) ?_
        refine lv_icmp_ge (tgt := 93) hx hb dX6_nearest_32 (by decide) (fun h => absurd h (nI_ge (a := i) (b := 8) (by omega) (by decide))) (fun _ => ?_)
        refine lv_iload_n hx hb dX6_nearest_35 rfl (lv_at hl 0 rfl) ?_
        refine lv_iload_n hx hb dX6_nearest_36 rfl (lv_at hl 3 rfl) ?_
        refine lv_icmp_eq (tgt := 52) hx hb dX6_nearest_37 (by decide) (fun h_2 => ?_) (fun h_2 => ?_)
        · refine lv_iconst (v := 0) hx hb dX6_nearest_52 (by decide) ?_
          refine lv_istore (lv' := [(4, .int 0), (3, .int (nI i)), (2, .int x29), (0, .ref (a 0)), (1, .int st)]) hx hb dX6_nearest_53 hl (by decide) rfl (fun ls hl => ?_)
          refine lv_iload hx hb dX6_nearest_55 (lv_at hl 0 rfl) ?_
          refine lv_if_eq (tgt := 85) hx hb dX6_nearest_57 (by decide) (fun _ => ?_) (fun h => absurd (by decide) h)
          refine lv_iload_n hx hb dX6_nearest_85 rfl (lv_at hl 2 rfl) ?_
          refine lv_istore_n (lv' := [(2, .int x29), (4, .int 0), (3, .int (nI i)), (0, .ref (a 0)), (1, .int st)]) hx hb dX6_nearest_86 rfl hl (by decide) rfl (fun ls hl => ?_)
          refine lv_iinc (v := nI (i + 1)) (lv' := [(3, .int (nI (i + 1))), (2, .int x29), (4, .int 0), (0, .ref (a 0)), (1, .int st)]) hx hb dX6_nearest_87 hl (k := 2) rfl (by rw [nI_succ]; rfl) (by decide) rfl (fun ls hl => ?_)
          refine lv_goto (tgt := 29) hx hb dX6_nearest_90 (by decide) ?_
          exact ih (i + 1) (by omega) x29 (by rw [itn, ← ex29]; rw [st_X6_nearest_29, if_pos h_2]) H locs ls hP hS (lv_sub hl [0, 1, 3, 4] rfl)
        · refine lv_aload_n hx hb dX6_nearest_40 rfl (lv_at hl 2 rfl) ?_
          refine lv_iload_n hx hb dX6_nearest_41 rfl (lv_at hl 0 rfl) ?_
          refine x_callVi (w := wM cI a) (σ := s_X6_goThrough (s_X6_goesWell σ 0) n) (σ' := s_X6_goThrough (s_X6_goesWell σ 0) n) (As := [.int (nI i)]) (rest := []) (q0 := 0) ⟨hx, hb, hml, hown, hts⟩ hG hP hS hsz (c_X6_free l D cI a H.size (s_X6_goThrough (s_X6_goesWell σ 0) n) (nI i) (vp_in_nI (by omega) (by decide))) (cwV 1 hts gX6_nearest_X6_free rfl rfl rfl (by decide +kernel) ⟨Nat.le_of_ble_eq_true rfl, Nat.le_of_ble_eq_true rfl⟩) rfl rfl rfl rfl hl.1 rfl (Nat.le_of_ble_eq_true rfl) ⟨Nat.zero_le _, Nat.zero_le _⟩ dX6_nearest_42 (fun H locs hP hS => ?_)
          refine lv_if_le (tgt := 52) hx hb dX6_nearest_45 (by decide) (fun h_3 => ?_) (fun h_3 => ?_)
          · refine lv_iconst (v := 0) hx hb dX6_nearest_52 (by decide) ?_
            refine lv_istore (lv' := [(4, .int 0), (3, .int (nI i)), (2, .int x29), (0, .ref (a 0)), (1, .int st)]) hx hb dX6_nearest_53 hl (by decide) rfl (fun ls hl => ?_)
            refine lv_iload hx hb dX6_nearest_55 (lv_at hl 0 rfl) ?_
            refine lv_if_eq (tgt := 85) hx hb dX6_nearest_57 (by decide) (fun _ => ?_) (fun h => absurd (by decide) h)
            refine lv_iload_n hx hb dX6_nearest_85 rfl (lv_at hl 2 rfl) ?_
            refine lv_istore_n (lv' := [(2, .int x29), (4, .int 0), (3, .int (nI i)), (0, .ref (a 0)), (1, .int st)]) hx hb dX6_nearest_86 rfl hl (by decide) rfl (fun ls hl => ?_)
            refine lv_iinc (v := nI (i + 1)) (lv' := [(3, .int (nI (i + 1))), (2, .int x29), (4, .int 0), (0, .ref (a 0)), (1, .int st)]) hx hb dX6_nearest_87 hl (k := 2) rfl (by rw [nI_succ]; rfl) (by decide) rfl (fun ls hl => ?_)
            refine lv_goto (tgt := 29) hx hb dX6_nearest_90 (by decide) ?_
            exact ih (i + 1) (by omega) x29 (by rw [itn, ← ex29]; rw [st_X6_nearest_29, if_neg h_2, if_pos h_3]) H locs ls hP hS (lv_sub hl [0, 1, 3, 4] rfl)
          · refine lv_iconst (v := 1) hx hb dX6_nearest_48 (by decide) ?_
            refine lv_goto (tgt := 53) hx hb dX6_nearest_49 (by decide) ?_
            refine lv_istore (lv' := [(4, .int 1), (3, .int (nI i)), (2, .int x29), (0, .ref (a 0)), (1, .int st)]) hx hb dX6_nearest_53 hl (by decide) rfl (fun ls hl => ?_)
            refine lv_iload hx hb dX6_nearest_55 (lv_at hl 0 rfl) ?_
            refine lv_if_eq (tgt := 85) hx hb dX6_nearest_57 (by decide) (fun h => absurd h (by decide)) (fun _ => ?_)
            refine lv_iload_n hx hb dX6_nearest_60 rfl (lv_at hl 2 rfl) ?_
            refine lv_iconst (v := (-1)) hx hb dX6_nearest_61 (by decide) ?_
            refine lv_icmp_eq (tgt := 81) hx hb dX6_nearest_62 (by decide) (fun h_4 => ?_) (fun h_4 => ?_)
            · refine lv_iload_n hx hb dX6_nearest_81 rfl (lv_at hl 1 rfl) ?_
              refine lv_goto (tgt := 86) hx hb dX6_nearest_82 (by decide) ?_
              refine lv_istore_n (lv' := [(2, .int (nI i)), (4, .int 1), (3, .int (nI i)), (0, .ref (a 0)), (1, .int st)]) hx hb dX6_nearest_86 rfl hl (by decide) rfl (fun ls hl => ?_)
              refine lv_iinc (v := nI (i + 1)) (lv' := [(3, .int (nI (i + 1))), (2, .int (nI i)), (4, .int 1), (0, .ref (a 0)), (1, .int st)]) hx hb dX6_nearest_87 hl (k := 2) rfl (by rw [nI_succ]; rfl) (by decide) rfl (fun ls hl => ?_)
              refine lv_goto (tgt := 29) hx hb dX6_nearest_90 (by decide) ?_
              exact ih (i + 1) (by omega) (nI i) (by rw [itn, ← ex29]; rw [st_X6_nearest_29, if_neg h_2, if_neg h_3, if_pos h_4]) H locs ls hP hS (lv_sub hl [0, 1, 3, 4] rfl)
            · refine lv_aload_n hx hb dX6_nearest_65 rfl (lv_at hl 3 rfl) ?_
              refine lv_iload_n hx hb dX6_nearest_66 rfl (lv_at hl 4 rfl) ?_
              refine lv_iload_n hx hb dX6_nearest_67 rfl (lv_at hl 1 rfl) ?_
              refine x_callVd (w := wM cI a) (σ := s_X6_goThrough (s_X6_goesWell σ 0) n) (σ' := s_X6_goThrough (s_X6_goesWell σ 0) n) (As := [.int st, .int (nI i)]) (rest := []) (q0 := 0) ⟨hx, hb, hml, hown, hts⟩ hG hP hS hsz (c_X6_wayOf l D cI a H.size (s_X6_goThrough (s_X6_goesWell σ 0) n) st (nI i) hst (vp_in_nI (by omega) (by decide)) hgr) (cwV 2 hts gX6_nearest_X6_wayOf rfl rfl rfl (by decide +kernel) ⟨Nat.le_of_ble_eq_true rfl, Nat.le_of_ble_eq_true rfl⟩) rfl rfl rfl rfl hl.1 rfl (Nat.le_of_ble_eq_true rfl) ⟨Nat.zero_le _, Nat.zero_le _⟩ dX6_nearest_68 (fun H locs hP hS => ?_)
              refine lv_aload_n hx hb dX6_nearest_71 rfl (lv_at hl 3 rfl) ?_
              refine lv_iload_n hx hb dX6_nearest_72 rfl (lv_at hl 4 rfl) ?_
              refine lv_iload_n hx hb dX6_nearest_73 rfl (lv_at hl 2 rfl) ?_
              refine x_callVd (w := wM cI a) (σ := s_X6_goThrough (s_X6_goesWell σ 0) n) (σ' := s_X6_goThrough (s_X6_goesWell σ 0) n) (As := [.int st, .int x29]) (rest := [.double (r_X6_wayOf (s_X6_goThrough (s_X6_goesWell σ 0) n) st (nI i))]) (q0 := 0) ⟨hx, hb, hml, hown, hts⟩ hG hP hS hsz (c_X6_wayOf l D cI a H.size (s_X6_goThrough (s_X6_goesWell σ 0) n) st x29 hst (near_in σ st n (by omega) ex29 h_4) hgr) (cwV 2 hts gX6_nearest_X6_wayOf rfl rfl rfl (by decide +kernel) ⟨Nat.le_of_ble_eq_true rfl, Nat.le_of_ble_eq_true rfl⟩) rfl rfl rfl rfl hl.1 rfl (Nat.le_of_ble_eq_true rfl) ⟨Nat.zero_le _, Nat.zero_le _⟩ dX6_nearest_74 (fun H locs hP hS => ?_)
              refine lv_dcmp hx hb dX6_nearest_77 ?_
              refine lv_if_ge (tgt := 85) hx hb dX6_nearest_78 (by decide) (fun h_5 => ?_) (fun h_5 => ?_)
              · refine lv_iload_n hx hb dX6_nearest_85 rfl (lv_at hl 2 rfl) ?_
                refine lv_istore_n (lv' := [(2, .int x29), (4, .int 1), (3, .int (nI i)), (0, .ref (a 0)), (1, .int st)]) hx hb dX6_nearest_86 rfl hl (by decide) rfl (fun ls hl => ?_)
                refine lv_iinc (v := nI (i + 1)) (lv' := [(3, .int (nI (i + 1))), (2, .int x29), (4, .int 1), (0, .ref (a 0)), (1, .int st)]) hx hb dX6_nearest_87 hl (k := 2) rfl (by rw [nI_succ]; rfl) (by decide) rfl (fun ls hl => ?_)
                refine lv_goto (tgt := 29) hx hb dX6_nearest_90 (by decide) ?_
                exact ih (i + 1) (by omega) x29 (by rw [itn, ← ex29]; rw [st_X6_nearest_29, if_neg h_2, if_neg h_3, if_neg h_4, if_pos h_5]) H locs ls hP hS (lv_sub hl [0, 1, 3, 4] rfl)
              · refine lv_iload_n hx hb dX6_nearest_81 rfl (lv_at hl 1 rfl) ?_
                refine lv_goto (tgt := 86) hx hb dX6_nearest_82 (by decide) ?_
                refine lv_istore_n (lv' := [(2, .int (nI i)), (4, .int 1), (3, .int (nI i)), (0, .ref (a 0)), (1, .int st)]) hx hb dX6_nearest_86 rfl hl (by decide) rfl (fun ls hl => ?_)
                refine lv_iinc (v := nI (i + 1)) (lv' := [(3, .int (nI (i + 1))), (2, .int (nI i)), (4, .int 1), (0, .ref (a 0)), (1, .int st)]) hx hb dX6_nearest_87 hl (k := 2) rfl (by rw [nI_succ]; rfl) (by decide) rfl (fun ls hl => ?_)
                refine lv_goto (tgt := 29) hx hb dX6_nearest_90 (by decide) ?_
                exact ih (i + 1) (by omega) (nI i) (by rw [itn, ← ex29]; rw [st_X6_nearest_29, if_neg h_2, if_neg h_3, if_neg h_4, if_neg h_5]) H locs ls hP hS (lv_sub hl [0, 1, 3, 4] rfl)
    exact loop_29 (8) 0 (Nat.zero_add _) (-1) (itn0 _ _) _ _ _ hP hS (lv_sub hl [0, 1, 2, 3] rfl)
noncomputable def r_X6_way (σ : Sg) (st : Int32) (ot : Int32) : Int32 :=
  if r_X6_isStation σ st = 0 then
    0
  else
    if r_X6_isStation σ ot = 0 then
      0
    else
      FP.d2i (FP.dmul 4636737291354636288 (r_X6_wayOf (s_X6_goesWell σ 0) st ot))
def s_X6_way (σ : Sg) (st : Int32) (ot : Int32) : Sg :=
  if r_X6_isStation σ st = 0 then
    s_X6_goesWell σ 1
  else
    if r_X6_isStation σ ot = 0 then
      s_X6_goesWell σ 1
    else
      s_X6_goesWell σ 0
set_option maxHeartbeats 4000000 in
set_option maxRecDepth 100000 in
theorem c_X6_way (l : Launch) (D : va_G) (cI : ClassId) (a : Nat → Nat) (sz : Nat) (σ : Sg) (st : Int32) (ot : Int32) (hgr : GRM (s_X6_goesWell σ 0)) : Met l yX6_way wsX6_way ({ frames := 3, cells := 0, slots := 0, locals := 90 }) (PcW D cI 24 a (wM cI a) sz σ [.ref (a 0), .int st, .int ot]) (QiW D 24 a (wM cI a) sz (r_X6_way σ st ot) (s_X6_way σ st ot)) 0 0 (AX 24 a sz) := by
  refine x_of (cc := cX6_way) (maxL := 3) (ret := some .int) (C := RX6) rfl (by decide) rfl (Nat.le_of_ble_eq_true rfl) (fun p e s m below meth c hx hb hr hml hlk hts hown hsz H hP hS hG ls hl => ?_)
  have hl : lv_has ls 3 [(0, .ref (a 0)), (1, .int st), (2, .int ot)] := hl
  refine lv_aload_n hx hb dX6_way_0 rfl (lv_at hl 0 rfl) ?_
  refine lv_iload_n hx hb dX6_way_1 rfl (lv_at hl 1 rfl) ?_
  refine x_callSi (w := wM cI a) (σ := σ) (σ' := σ) (As := [.int st]) (rest := [.ref (a 0)]) ⟨hx, hb, hml, hown, hts⟩ hG hP hS hsz (c_X6_isStation l D cI a H.size σ st) (va_cwS 1 hts gX6_way_X6_isStation rfl rfl rfl (by decide +kernel) ⟨Nat.le_of_ble_eq_true rfl, Nat.le_of_ble_eq_true rfl⟩) rfl hl.1 rfl (Nat.le_of_ble_eq_true rfl) ⟨Nat.zero_le _, Nat.zero_le _⟩ dX6_way_2 (fun H locs hP hS => ?_)
  refine lv_if_eq (tgt := 19) hx hb dX6_way_5 (by decide) (fun h_1 => ?_) (fun h_1 => ?_)
  · refine lv_iconst (v := 1) hx hb dX6_way_19 (by decide) ?_
    refine x_callVi (w := wM cI a) (σ := σ) (σ' := s_X6_goesWell σ 1) (As := [.int 1]) (rest := []) (q0 := 0) ⟨hx, hb, hml, hown, hts⟩ hG hP hS hsz (c_X6_goesWell l D cI a H.size σ 1) (cwV 1 hts gX6_way_X6_goesWell rfl rfl rfl (by decide +kernel) ⟨Nat.le_of_ble_eq_true rfl, Nat.le_of_ble_eq_true rfl⟩) rfl rfl rfl rfl hl.1 rfl (Nat.le_of_ble_eq_true rfl) ⟨Nat.zero_le _, Nat.zero_le _⟩ dX6_way_20 (fun H locs hP hS => ?_)
    refine W.eq (g2 := F0 m 23 ls [.int 0]) rfl ?_
    refine lv_if_eq (tgt := 40) hx hb dX6_way_23 (by decide) (fun _ => ?_) (fun h => absurd (by decide) h)
    refine lv_iconst (v := 0) hx hb dX6_way_40 (by decide) ?_
    exact x_iret hx hb hr hlk hsz hP hS rfl (by rw [r_X6_way, if_pos h_1]) (by rw [s_X6_way, if_pos h_1]) dX6_way_41
  · refine lv_iload_n hx hb dX6_way_8 rfl (lv_at hl 2 rfl) ?_
    refine x_callSi (w := wM cI a) (σ := σ) (σ' := σ) (As := [.int ot]) (rest := [.ref (a 0)]) ⟨hx, hb, hml, hown, hts⟩ hG hP hS hsz (c_X6_isStation l D cI a H.size σ ot) (va_cwS 1 hts gX6_way_X6_isStation rfl rfl rfl (by decide +kernel) ⟨Nat.le_of_ble_eq_true rfl, Nat.le_of_ble_eq_true rfl⟩) rfl hl.1 rfl (Nat.le_of_ble_eq_true rfl) ⟨Nat.zero_le _, Nat.zero_le _⟩ dX6_way_9 (fun H locs hP hS => ?_)
    refine lv_if_eq (tgt := 19) hx hb dX6_way_12 (by decide) (fun h_2 => ?_) (fun h_2 => ?_)
    · refine lv_iconst (v := 1) hx hb dX6_way_19 (by decide) ?_
      refine x_callVi (w := wM cI a) (σ := σ) (σ' := s_X6_goesWell σ 1) (As := [.int 1]) (rest := []) (q0 := 0) ⟨hx, hb, hml, hown, hts⟩ hG hP hS hsz (c_X6_goesWell l D cI a H.size σ 1) (cwV 1 hts gX6_way_X6_goesWell rfl rfl rfl (by decide +kernel) ⟨Nat.le_of_ble_eq_true rfl, Nat.le_of_ble_eq_true rfl⟩) rfl rfl rfl rfl hl.1 rfl (Nat.le_of_ble_eq_true rfl) ⟨Nat.zero_le _, Nat.zero_le _⟩ dX6_way_20 (fun H locs hP hS => ?_)
      refine W.eq (g2 := F0 m 23 ls [.int 0]) rfl ?_
      refine lv_if_eq (tgt := 40) hx hb dX6_way_23 (by decide) (fun _ => ?_) (fun h => absurd (by decide) h)
      refine lv_iconst (v := 0) hx hb dX6_way_40 (by decide) ?_
      exact x_iret hx hb hr hlk hsz hP hS rfl (by rw [r_X6_way, if_neg h_1, if_pos h_2]) (by rw [s_X6_way, if_neg h_1, if_pos h_2]) dX6_way_41
    · refine lv_iconst (v := 0) hx hb dX6_way_15 (by decide) ?_
      refine lv_goto (tgt := 20) hx hb dX6_way_16 (by decide) ?_
      refine x_callVi (w := wM cI a) (σ := σ) (σ' := s_X6_goesWell σ 0) (As := [.int 0]) (rest := []) (q0 := 0) ⟨hx, hb, hml, hown, hts⟩ hG hP hS hsz (c_X6_goesWell l D cI a H.size σ 0) (cwV 1 hts gX6_way_X6_goesWell rfl rfl rfl (by decide +kernel) ⟨Nat.le_of_ble_eq_true rfl, Nat.le_of_ble_eq_true rfl⟩) rfl rfl rfl rfl hl.1 rfl (Nat.le_of_ble_eq_true rfl) ⟨Nat.zero_le _, Nat.zero_le _⟩ dX6_way_20 (fun H locs hP hS => ?_)
      refine W.eq (g2 := F0 m 23 ls [.int 1]) rfl ?_
      refine lv_if_eq (tgt := 40) hx hb dX6_way_23 (by decide) (fun h => absurd h (by decide)) (fun _ => ?_)
      have hst : vp_in st 8 := isSt_in h_1
      have hot : vp_in ot 8 := isSt_in h_2
      refine lv_ldc2d (v := 4636737291354636288) hx hb hown (hts _ (List.mem_of_getElem? (i := 1) rfl)) dX6_way_26 ?_
      refine lv_aload_n hx hb dX6_way_29 rfl (lv_at hl 0 rfl) ?_
      refine lv_iload_n hx hb dX6_way_30 rfl (lv_at hl 1 rfl) ?_
      refine lv_iload_n hx hb dX6_way_31 rfl (lv_at hl 2 rfl) ?_
      refine x_callVd (w := wM cI a) (σ := s_X6_goesWell σ 0) (σ' := s_X6_goesWell σ 0) (As := [.int st, .int ot]) (rest := [.double 4636737291354636288]) (q0 := 0) ⟨hx, hb, hml, hown, hts⟩ hG hP hS hsz (c_X6_wayOf l D cI a H.size (s_X6_goesWell σ 0) st ot hst hot hgr) (cwV 2 hts gX6_way_X6_wayOf rfl rfl rfl (by decide +kernel) ⟨Nat.le_of_ble_eq_true rfl, Nat.le_of_ble_eq_true rfl⟩) rfl rfl rfl rfl hl.1 rfl (Nat.le_of_ble_eq_true rfl) ⟨Nat.zero_le _, Nat.zero_le _⟩ dX6_way_32 (fun H locs hP hS => ?_)
      refine lv_dmul hx hb dX6_way_35 (w100_nan (wM_mag hgr hst hot)) ?_
      refine lv_d2i hx hb dX6_way_36 ?_
      refine lv_goto (tgt := 41) hx hb dX6_way_37 (by decide) ?_
      exact x_iret hx hb hr hlk hsz hP hS rfl (by rw [r_X6_way, if_neg h_1, if_neg h_2]) (by rw [s_X6_way, if_neg h_1, if_neg h_2]) dX6_way_41
