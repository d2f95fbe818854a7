theorem in_X5_dock_0 : ∀ wd ∈ u_ws RX0 TX0 7, wd ∈ wsX5_dock := by decide +kernel
theorem in_X5_dock_3 : ∀ wd ∈ u_ws RX3 TX3 4, wd ∈ wsX5_dock := by decide +kernel
theorem in_X5_dock_5 : ∀ wd ∈ u_ws RX5 TX5 9, wd ∈ wsX5_dock := by decide +kernel
def s_X5_dock (σ : Sg) (cy : Int32) (st : Int32) : Sg :=
  sx (sx (sx σ 16 cy.toNatClampNeg 1) 17 cy.toNatClampNeg st) 14 st.toNatClampNeg ((σ 14 st.toNatClampNeg) + 1)
set_option maxHeartbeats 4000000 in
set_option maxRecDepth 100000 in
theorem c_X5_dock (l : Launch) (D : va_G) (cI : ClassId) (a : Nat → Nat) (sz : Nat) (σ : Sg) (cy : Int32) (st : Int32) (hc : vp_in cy 30) (hs : vp_in st 8) : Met l yX5_dock wsX5_dock ({ frames := 0, cells := 0, slots := 0, locals := 0 }) (PcW D cI 29 a (wX cI a) sz σ [.ref (a 0), .int cy, .int st]) (QvW D 29 a (wX cI a) sz (s_X5_dock σ cy st)) 0 0 (AX 29 a sz) := by
  refine x_of (cc := cX5_dock) (maxL := 3) (ret := none) (C := RX5) rfl (by decide) rfl (Nat.le_of_ble_eq_true rfl) (fun p e s m below meth c hx hb hr hml hlk hts hown hsz H hP hS hG ls hl => ?_)
  have hl : lv_has ls 3 [(0, .ref (a 0)), (1, .int cy), (2, .int st)] := hl
  refine lv_aload_n hx hb dX5_dock_0 rfl (lv_at hl 0 rfl) ?_
  refine x_get (ci := 5) (C := RX5) (T := TX5) (M := 9) (v := .ref (a 4)) hx hb hts in_X5_dock_5 hown hG hP 0 rfl rfl 3 (by decide) (List.mem_of_getElem? (i := 1) rfl) rfl rfl dX5_dock_1 ?_
  refine x_get (ci := 0) (C := RX0) (T := TX0) (M := 7) (v := .ref (a 16)) hx hb hts in_X5_dock_0 hown hG hP 4 rfl rfl 0 (by decide) (List.mem_of_getElem? (i := 2) rfl) rfl rfl dX5_dock_4 ?_
  refine lv_iload_n hx hb dX5_dock_7 rfl (lv_at hl 1 rfl) ?_
  refine lv_iconst (v := 1) hx hb dX5_dock_8 (by decide) ?_
  refine x_iast (w := wX cI a) (σ := σ) hx hb hG hP hS 16 rfl (wX_st16 cI a _ _ _) (by assumption) dX5_dock_9 (fun H locs hP hS => ?_)
  refine lv_aload_n hx hb dX5_dock_10 rfl (lv_at hl 0 rfl) ?_
  refine x_get (ci := 5) (C := RX5) (T := TX5) (M := 9) (v := .ref (a 4)) hx hb hts in_X5_dock_5 hown hG hP 0 rfl rfl 3 (by decide) (List.mem_of_getElem? (i := 1) rfl) rfl rfl dX5_dock_11 ?_
  refine x_get (ci := 0) (C := RX0) (T := TX0) (M := 7) (v := .ref (a 17)) hx hb hts in_X5_dock_0 hown hG hP 4 rfl rfl 1 (by decide) (List.mem_of_getElem? (i := 3) rfl) rfl rfl dX5_dock_14 ?_
  refine lv_iload_n hx hb dX5_dock_17 rfl (lv_at hl 1 rfl) ?_
  refine lv_iload_n hx hb dX5_dock_18 rfl (lv_at hl 2 rfl) ?_
  refine x_iast (w := wX cI a) (σ := sx σ 16 cy.toNatClampNeg 1) hx hb hG hP hS 17 rfl (wX_st17 cI a _ _ _) (by assumption) dX5_dock_19 (fun H locs hP hS => ?_)
  refine lv_aload_n hx hb dX5_dock_20 rfl (lv_at hl 0 rfl) ?_
  refine x_get (ci := 5) (C := RX5) (T := TX5) (M := 9) (v := .ref (a 3)) hx hb hts in_X5_dock_5 hown hG hP 0 rfl rfl 2 (by decide) (List.mem_of_getElem? (i := 4) rfl) rfl rfl dX5_dock_21 ?_
  refine x_get (ci := 3) (C := RX3) (T := TX3) (M := 4) (v := .ref (a 14)) hx hb hts in_X5_dock_3 hown hG hP 3 rfl rfl 1 (by decide) (List.mem_of_getElem? (i := 5) rfl) rfl rfl dX5_dock_24 ?_
  refine lv_iload_n hx hb dX5_dock_27 rfl (lv_at hl 2 rfl) ?_
  refine lv_dup2_11 hx hb dX5_dock_28 rfl rfl ?_
  refine x_iald (f := σ 14) hx hb hG hP 14 rfl (by assumption) dX5_dock_29 ?_
  refine lv_iconst (v := 1) hx hb dX5_dock_30 (by decide) ?_
  refine lv_iadd hx hb dX5_dock_31 ?_
  refine x_iast (w := wX cI a) (σ := sx (sx σ 16 cy.toNatClampNeg 1) 17 cy.toNatClampNeg st) hx hb hG hP hS 14 rfl (wX_st14 cI a _ _ _) (by assumption) dX5_dock_32 (fun H locs hP hS => ?_)
  exact x_vret hx hb hr hlk hsz hP hS (by rw [s_X5_dock]) dX5_dock_33
theorem in_X5_bePut_0 : ∀ wd ∈ u_ws RX0 TX0 7, wd ∈ wsX5_bePut := by decide +kernel
theorem in_X5_bePut_5 : ∀ wd ∈ u_ws RX5 TX5 9, wd ∈ wsX5_bePut := by decide +kernel
def r_X5_bePut (σ : Sg) (cy : Int32) (st : Int32) : Int32 :=
  if σ 16 cy.toNatClampNeg = 0 then
    if r_X3_freePlaces σ st = 0 then
      0
    else
      1
  else
    if σ 16 cy.toNatClampNeg = 3 then
      if r_X3_freePlaces σ st = 0 then
        0
      else
        1
    else
      0
def s_X5_bePut (σ : Sg) (cy : Int32) (st : Int32) : Sg :=
  if σ 16 cy.toNatClampNeg = 0 then
    if r_X3_freePlaces σ st = 0 then
      σ
    else
      s_X5_dock σ cy st
  else
    if σ 16 cy.toNatClampNeg = 3 then
      if r_X3_freePlaces σ st = 0 then
        σ
      else
        s_X5_dock σ cy st
    else
      σ
theorem b_X5_bePut (σ : Sg) (cy : Int32) (st : Int32) : r_X5_bePut σ cy st = 0 ∨ r_X5_bePut σ cy st = 1 := by
  unfold r_X5_bePut
  repeat' split
  all_goals first | with_reducible exact Or.inl rfl | with_reducible exact Or.inr rfl
set_option maxHeartbeats 4000000 in
set_option maxRecDepth 100000 in
theorem c_X5_bePut (l : Launch) (D : va_G) (cI : ClassId) (a : Nat → Nat) (sz : Nat) (σ : Sg) (cy : Int32) (st : Int32) (hc : vp_in cy 30) (hs : vp_in st 8) : Met l yX5_bePut wsX5_bePut ({ frames := 2, cells := 0, slots := 0, locals := 34 }) (PcW D cI 29 a (wX cI a) sz σ [.ref (a 0), .int cy, .int st]) (QiW D 29 a (wX cI a) sz (r_X5_bePut σ cy st) (s_X5_bePut σ cy st)) 0 0 (AX 29 a sz) := by
  refine x_of (cc := cX5_bePut) (maxL := 4) (ret := some .boolean) (C := RX5) rfl (by decide) rfl (Nat.le_of_ble_eq_true rfl) (fun p e s m below meth c hx hb hr hml hlk hts hown hsz H hP hS hG ls hl => ?_)
  have hl : lv_has ls 4 [(0, .ref (a 0)), (1, .int cy), (2, .int st)] := hl
  refine lv_aload_n hx hb dX5_bePut_0 rfl (lv_at hl 0 rfl) ?_
  refine x_get (ci := 5) (C := RX5) (T := TX5) (M := 9) (v := .ref (a 4)) hx hb hts in_X5_bePut_5 hown hG hP 0 rfl rfl 3 (by decide) (List.mem_of_getElem? (i := 1) rfl) rfl rfl dX5_bePut_1 ?_
  refine x_get (ci := 0) (C := RX0) (T := TX0) (M := 7) (v := .ref (a 16)) hx hb hts in_X5_bePut_0 hown hG hP 4 rfl rfl 0 (by decide) (List.mem_of_getElem? (i := 2) rfl) rfl rfl dX5_bePut_4 ?_
  refine lv_iload_n hx hb dX5_bePut_7 rfl (lv_at hl 1 rfl) ?_
  refine x_iald (f := σ 16) hx hb hG hP 16 rfl (by assumption) dX5_bePut_8 ?_
  refine lv_istore_n (lv' := [(3, .int (σ 16 cy.toNatClampNeg)), (0, .ref (a 0)), (1, .int cy), (2, .int st)]) hx hb dX5_bePut_9 rfl hl (by decide) rfl (fun ls hl => ?_)
  refine lv_iload_n hx hb dX5_bePut_10 rfl (lv_at hl 0 rfl) ?_
  refine lv_if_eq (tgt := 19) hx hb dX5_bePut_11 (by decide) (fun h_1 => ?_) (fun h_1 => ?_)
  · refine lv_aload_n hx hb dX5_bePut_19 rfl (lv_at hl 1 rfl) ?_
    refine x_get (ci := 5) (C := RX5) (T := TX5) (M := 9) (v := .ref (a 3)) hx hb hts in_X5_bePut_5 hown hG hP 0 rfl rfl 2 (by decide) (List.mem_of_getElem? (i := 3) rfl) rfl rfl dX5_bePut_20 ?_
    refine lv_iload_n hx hb dX5_bePut_23 rfl (lv_at hl 3 rfl) ?_
    refine x_callVi (w := wX cI a) (σ := σ) (σ' := σ) (As := [.int st]) (rest := []) (q0 := 3) ⟨hx, hb, hml, hown, hts⟩ hG hP hS hsz (c_X3_freePlaces l D cI a H.size σ st (by assumption)) (cwV 1 hts gX5_bePut_X3_freePlaces rfl rfl rfl (by decide +kernel) ⟨Nat.le_of_ble_eq_true rfl, Nat.le_of_ble_eq_true rfl⟩) rfl rfl rfl rfl hl.1 rfl (Nat.le_of_ble_eq_true rfl) ⟨Nat.zero_le _, Nat.zero_le _⟩ dX5_bePut_24 (fun H locs hP hS => ?_)
    refine lv_if_ne (tgt := 32) hx hb dX5_bePut_27 (by decide) (fun h_2 => ?_) (fun h_2 => ?_)
    · refine lv_aload_n hx hb dX5_bePut_32 rfl (lv_at hl 1 rfl) ?_
      refine lv_iload_n hx hb dX5_bePut_33 rfl (lv_at hl 2 rfl) ?_
      refine lv_iload_n hx hb dX5_bePut_34 rfl (lv_at hl 3 rfl) ?_
      refine x_callVv (w := wX cI a) (σ := σ) (σ' := s_X5_dock σ cy st) (As := [.int cy, .int st]) (rest := []) (q0 := 0) ⟨hx, hb, hml, hown, hts⟩ hG hP hS hsz (c_X5_dock l D cI a H.size σ cy st (by assumption) (by assumption)) (cwV 2 hts gX5_bePut_X5_dock rfl rfl rfl (by decide +kernel) ⟨Nat.le_of_ble_eq_true rfl, Nat.le_of_ble_eq_true rfl⟩) rfl rfl rfl rfl hl.1 rfl (Nat.le_of_ble_eq_true rfl) ⟨Nat.zero_le _, Nat.zero_le _⟩ dX5_bePut_35 (fun H locs hP hS => ?_)
      refine lv_iconst (v := 1) hx hb dX5_bePut_38 (by decide) ?_
      exact x_iret hx hb hr hlk hsz hP hS rfl (by rw [r_X5_bePut, if_pos h_1, if_neg h_2]) (by rw [s_X5_bePut, if_pos h_1, if_neg h_2]) dX5_bePut_39
    · refine lv_iconst (v := 0) hx hb dX5_bePut_30 (by decide) ?_
      exact x_iret hx hb hr hlk hsz hP hS rfl (by rw [r_X5_bePut, if_pos h_1, if_pos h_2]) (by rw [s_X5_bePut, if_pos h_1, if_pos h_2]) dX5_bePut_31
  · refine lv_iload_n hx hb dX5_bePut_14 rfl (lv_at hl 0 rfl) ?_
    refine lv_iconst (v := 3) hx hb dX5_bePut_15 (by decide) ?_
    refine lv_icmp_ne (tgt := 30) hx hb dX5_bePut_16 (by decide) (fun h_3 => ?_) (fun h_3 => ?_)
    · refine lv_iconst (v := 0) hx hb dX5_bePut_30 (by decide) ?_
      exact x_iret hx hb hr hlk hsz hP hS rfl (by rw [r_X5_bePut, if_neg h_1, if_neg h_3]) (by rw [s_X5_bePut, if_neg h_1, if_neg h_3]) dX5_bePut_31
    · refine lv_aload_n hx hb dX5_bePut_19 rfl (lv_at hl 1 rfl) ?_
      refine x_get (ci := 5) (C := RX5) (T := TX5) (M := 9) (v := .ref (a 3)) hx hb hts in_X5_bePut_5 hown hG hP 0 rfl rfl 2 (by decide) (List.mem_of_getElem? (i := 3) rfl) rfl rfl dX5_bePut_20 ?_
      refine lv_iload_n hx hb dX5_bePut_23 rfl (lv_at hl 3 rfl) ?_
      refine x_callVi (w := wX cI a) (σ := σ) (σ' := σ) (As := [.int st]) (rest := []) (q0 := 3) ⟨hx, hb, hml, hown, hts⟩ hG hP hS hsz (c_X3_freePlaces l D cI a H.size σ st (by assumption)) (cwV 1 hts gX5_bePut_X3_freePlaces rfl rfl rfl (by decide +kernel) ⟨Nat.le_of_ble_eq_true rfl, Nat.le_of_ble_eq_true rfl⟩) rfl rfl rfl rfl hl.1 rfl (Nat.le_of_ble_eq_true rfl) ⟨Nat.zero_le _, Nat.zero_le _⟩ dX5_bePut_24 (fun H locs hP hS => ?_)
      refine lv_if_ne (tgt := 32) hx hb dX5_bePut_27 (by decide) (fun h_4 => ?_) (fun h_4 => ?_)
      · refine lv_aload_n hx hb dX5_bePut_32 rfl (lv_at hl 1 rfl) ?_
        refine lv_iload_n hx hb dX5_bePut_33 rfl (lv_at hl 2 rfl) ?_
        refine lv_iload_n hx hb dX5_bePut_34 rfl (lv_at hl 3 rfl) ?_
        refine x_callVv (w := wX cI a) (σ := σ) (σ' := s_X5_dock σ cy st) (As := [.int cy, .int st]) (rest := []) (q0 := 0) ⟨hx, hb, hml, hown, hts⟩ hG hP hS hsz (c_X5_dock l D cI a H.size σ cy st (by assumption) (by assumption)) (cwV 2 hts gX5_bePut_X5_dock rfl rfl rfl (by decide +kernel) ⟨Nat.le_of_ble_eq_true rfl, Nat.le_of_ble_eq_true rfl⟩) rfl rfl rfl rfl hl.1 rfl (Nat.le_of_ble_eq_true rfl) ⟨Nat.zero_le _, Nat.zero_le _⟩ dX5_bePut_35 (fun H locs hP hS => ?_)
        refine lv_iconst (v := 1) hx hb dX5_bePut_38 (by decide) ?_
        exact x_iret hx hb hr hlk hsz hP hS rfl (by rw [r_X5_bePut, if_neg h_1, if_pos h_3, if_neg h_4]) (by rw [s_X5_bePut, if_neg h_1, if_pos h_3, if_neg h_4]) dX5_bePut_39
      · refine lv_iconst (v := 0) hx hb dX5_bePut_30 (by decide) ?_
        exact x_iret hx hb hr hlk hsz hP hS rfl (by rw [r_X5_bePut, if_neg h_1, if_pos h_3, if_pos h_4]) (by rw [s_X5_bePut, if_neg h_1, if_pos h_3, if_pos h_4]) dX5_bePut_31
theorem in_X5_beTaken_0 : ∀ wd ∈ u_ws RX0 TX0 7, wd ∈ wsX5_beTaken := by decide +kernel
theorem in_X5_beTaken_3 : ∀ wd ∈ u_ws RX3 TX3 4, wd ∈ wsX5_beTaken := by decide +kernel
theorem in_X5_beTaken_5 : ∀ wd ∈ u_ws RX5 TX5 9, wd ∈ wsX5_beTaken := by decide +kernel
def r_X5_beTaken (σ : Sg) (cy : Int32) : Int32 :=
  if σ 16 cy.toNatClampNeg = 1 then
    1
  else
    0
def s_X5_beTaken (σ : Sg) (cy : Int32) : Sg :=
  if σ 16 cy.toNatClampNeg = 1 then
    sx (sx (sx σ 14 (σ 17 cy.toNatClampNeg).toNatClampNeg ((σ 14 (σ 17 cy.toNatClampNeg).toNatClampNeg) - 1)) 16 cy.toNatClampNeg 3) 17 cy.toNatClampNeg (-1)
  else
    σ
theorem b_X5_beTaken (σ : Sg) (cy : Int32) : r_X5_beTaken σ cy = 0 ∨ r_X5_beTaken σ cy = 1 := by
  unfold r_X5_beTaken
  repeat' split
  all_goals first | with_reducible exact Or.inl rfl | with_reducible exact Or.inr rfl
set_option maxHeartbeats 4000000 in
set_option maxRecDepth 100000 in
theorem c_X5_beTaken (l : Launch) (D : va_G) (cI : ClassId) (a : Nat → Nat) (sz : Nat) (σ : Sg) (cy : Int32) (hc : vp_in cy 30) (hD : σ 16 cy.toNatClampNeg = 1 → vp_in (σ 17 cy.toNatClampNeg) 8) : Met l yX5_beTaken wsX5_beTaken ({ frames := 0, cells := 0, slots := 0, locals := 0 }) (PcW D cI 29 a (wX cI a) sz σ [.ref (a 0), .int cy]) (QiW D 29 a (wX cI a) sz (r_X5_beTaken σ cy) (s_X5_beTaken σ cy)) 0 0 (AX 29 a sz) := by
  refine x_of (cc := cX5_beTaken) (maxL := 2) (ret := some .boolean) (C := RX5) rfl (by decide) rfl (Nat.le_of_ble_eq_true rfl) (fun p e s m below meth c hx hb hr hml hlk hts hown hsz H hP hS hG ls hl => ?_)
  have hl : lv_has ls 2 [(0, .ref (a 0)), (1, .int cy)] := hl
  refine lv_aload_n hx hb dX5_beTaken_0 rfl (lv_at hl 0 rfl) ?_
  refine x_get (ci := 5) (C := RX5) (T := TX5) (M := 9) (v := .ref (a 4)) hx hb hts in_X5_beTaken_5 hown hG hP 0 rfl rfl 3 (by decide) (List.mem_of_getElem? (i := 1) rfl) rfl rfl dX5_beTaken_1 ?_
  refine x_get (ci := 0) (C := RX0) (T := TX0) (M := 7) (v := .ref (a 16)) hx hb hts in_X5_beTaken_0 hown hG hP 4 rfl rfl 0 (by decide) (List.mem_of_getElem? (i := 2) rfl) rfl rfl dX5_beTaken_4 ?_
  refine lv_iload_n hx hb dX5_beTaken_7 rfl (lv_at hl 1 rfl) ?_
  refine x_iald (f := σ 16) hx hb hG hP 16 rfl (by assumption) dX5_beTaken_8 ?_
  refine lv_iconst (v := 1) hx hb dX5_beTaken_9 (by decide) ?_
  refine lv_icmp_eq (tgt := 15) hx hb dX5_beTaken_10 (by decide) (fun h_1 => ?_) (fun h_1 => ?_)
  · refine lv_aload_n hx hb dX5_beTaken_15 rfl (lv_at hl 0 rfl) ?_
    refine x_get (ci := 5) (C := RX5) (T := TX5) (M := 9) (v := .ref (a 3)) hx hb hts in_X5_beTaken_5 hown hG hP 0 rfl rfl 2 (by decide) (List.mem_of_getElem? (i := 3) rfl) rfl rfl dX5_beTaken_16 ?_
    refine x_get (ci := 3) (C := RX3) (T := TX3) (M := 4) (v := .ref (a 14)) hx hb hts in_X5_beTaken_3 hown hG hP 3 rfl rfl 1 (by decide) (List.mem_of_getElem? (i := 4) rfl) rfl rfl dX5_beTaken_19 ?_
    refine lv_aload_n hx hb dX5_beTaken_22 rfl (lv_at hl 0 rfl) ?_
    refine x_get (ci := 5) (C := RX5) (T := TX5) (M := 9) (v := .ref (a 4)) hx hb hts in_X5_beTaken_5 hown hG hP 0 rfl rfl 3 (by decide) (List.mem_of_getElem? (i := 1) rfl) rfl rfl dX5_beTaken_23 ?_
    refine x_get (ci := 0) (C := RX0) (T := TX0) (M := 7) (v := .ref (a 17)) hx hb hts in_X5_beTaken_0 hown hG hP 4 rfl rfl 1 (by decide) (List.mem_of_getElem? (i := 5) rfl) rfl rfl dX5_beTaken_26 ?_
    refine lv_iload_n hx hb dX5_beTaken_29 rfl (lv_at hl 1 rfl) ?_
    refine x_iald (f := σ 17) hx hb hG hP 17 rfl (by assumption) dX5_beTaken_30 ?_
    refine lv_dup2_11 hx hb dX5_beTaken_31 rfl rfl ?_
    refine x_iald (f := σ 14) hx hb hG hP 14 rfl (hD h_1) dX5_beTaken_32 ?_
    refine lv_iconst (v := 1) hx hb dX5_beTaken_33 (by decide) ?_
    refine lv_isub hx hb dX5_beTaken_34 ?_
    refine x_iast (w := wX cI a) (σ := σ) hx hb hG hP hS 14 rfl (wX_st14 cI a _ _ _) (hD h_1) dX5_beTaken_35 (fun H locs hP hS => ?_)
    refine lv_aload_n hx hb dX5_beTaken_36 rfl (lv_at hl 0 rfl) ?_
    refine x_get (ci := 5) (C := RX5) (T := TX5) (M := 9) (v := .ref (a 4)) hx hb hts in_X5_beTaken_5 hown hG hP 0 rfl rfl 3 (by decide) (List.mem_of_getElem? (i := 1) rfl) rfl rfl dX5_beTaken_37 ?_
    refine x_get (ci := 0) (C := RX0) (T := TX0) (M := 7) (v := .ref (a 16)) hx hb hts in_X5_beTaken_0 hown hG hP 4 rfl rfl 0 (by decide) (List.mem_of_getElem? (i := 2) rfl) rfl rfl dX5_beTaken_40 ?_
    refine lv_iload_n hx hb dX5_beTaken_43 rfl (lv_at hl 1 rfl) ?_
    refine lv_iconst (v := 3) hx hb dX5_beTaken_44 (by decide) ?_
    refine x_iast (w := wX cI a) (σ := sx σ 14 (σ 17 cy.toNatClampNeg).toNatClampNeg ((σ 14 (σ 17 cy.toNatClampNeg).toNatClampNeg) - 1)) hx hb hG hP hS 16 rfl (wX_st16 cI a _ _ _) (by assumption) dX5_beTaken_45 (fun H locs hP hS => ?_)
    refine lv_aload_n hx hb dX5_beTaken_46 rfl (lv_at hl 0 rfl) ?_
    refine x_get (ci := 5) (C := RX5) (T := TX5) (M := 9) (v := .ref (a 4)) hx hb hts in_X5_beTaken_5 hown hG hP 0 rfl rfl 3 (by decide) (List.mem_of_getElem? (i := 1) rfl) rfl rfl dX5_beTaken_47 ?_
    refine x_get (ci := 0) (C := RX0) (T := TX0) (M := 7) (v := .ref (a 17)) hx hb hts in_X5_beTaken_0 hown hG hP 4 rfl rfl 1 (by decide) (List.mem_of_getElem? (i := 5) rfl) rfl rfl dX5_beTaken_50 ?_
    refine lv_iload_n hx hb dX5_beTaken_53 rfl (lv_at hl 1 rfl) ?_
    refine lv_iconst (v := (-1)) hx hb dX5_beTaken_54 (by decide) ?_
    refine x_iast (w := wX cI a) (σ := sx (sx σ 14 (σ 17 cy.toNatClampNeg).toNatClampNeg ((σ 14 (σ 17 cy.toNatClampNeg).toNatClampNeg) - 1)) 16 cy.toNatClampNeg 3) hx hb hG hP hS 17 rfl (wX_st17 cI a _ _ _) (by assumption) dX5_beTaken_55 (fun H locs hP hS => ?_)
    refine lv_iconst (v := 1) hx hb dX5_beTaken_56 (by decide) ?_
    exact x_iret hx hb hr hlk hsz hP hS rfl (by rw [r_X5_beTaken, if_pos h_1]) (by rw [s_X5_beTaken, if_pos h_1]) dX5_beTaken_57
  · refine lv_iconst (v := 0) hx hb dX5_beTaken_13 (by decide) ?_
    exact x_iret hx hb hr hlk hsz hP hS rfl (by rw [r_X5_beTaken, if_neg h_1]) (by rw [s_X5_beTaken, if_neg h_1]) dX5_beTaken_14
theorem in_X5_beginRide_0 : ∀ wd ∈ u_ws RX0 TX0 7, wd ∈ wsX5_beginRide := by decide +kernel
theorem in_X5_beginRide_2 : ∀ wd ∈ u_ws RX2 TX2 6, wd ∈ wsX5_beginRide := by decide +kernel
theorem in_X5_beginRide_5 : ∀ wd ∈ u_ws RX5 TX5 9, wd ∈ wsX5_beginRide := by decide +kernel
def s_X5_beginRide (σ : Sg) (cy : Int32) (ri : Int32) (mi : Int32) : Sg :=
  sx (sx (sx (sx (sx (sx σ 16 cy.toNatClampNeg 2) 17 cy.toNatClampNeg ri) 20 cy.toNatClampNeg mi) 21 cy.toNatClampNeg (σ 0 8)) 22 cy.toNatClampNeg 0) 23 ri.toNatClampNeg ((σ 23 ri.toNatClampNeg) + 1)
set_option maxHeartbeats 4000000 in
set_option maxRecDepth 100000 in
theorem c_X5_beginRide (l : Launch) (D : va_G) (cI : ClassId) (a : Nat → Nat) (sz : Nat) (σ : Sg) (cy : Int32) (ri : Int32) (mi : Int32) (hc : vp_in cy 30) (hr1 : vp_in ri 10) : Met l yX5_beginRide wsX5_beginRide ({ frames := 0, cells := 0, slots := 0, locals := 0 }) (PcW D cI 29 a (wX cI a) sz σ [.ref (a 0), .int cy, .int ri, .int mi]) (QvW D 29 a (wX cI a) sz (s_X5_beginRide σ cy ri mi)) 0 0 (AX 29 a sz) := by
  refine x_of (cc := cX5_beginRide) (maxL := 4) (ret := none) (C := RX5) rfl (by decide) rfl (Nat.le_of_ble_eq_true rfl) (fun p e s m below meth c hx hb hr hml hlk hts hown hsz H hP hS hG ls hl => ?_)
  have hl : lv_has ls 4 [(0, .ref (a 0)), (1, .int cy), (2, .int ri), (3, .int mi)] := hl
  refine lv_aload_n hx hb dX5_beginRide_0 rfl (lv_at hl 0 rfl) ?_
  refine x_get (ci := 5) (C := RX5) (T := TX5) (M := 9) (v := .ref (a 4)) hx hb hts in_X5_beginRide_5 hown hG hP 0 rfl rfl 3 (by decide) (List.mem_of_getElem? (i := 1) rfl) rfl rfl dX5_beginRide_1 ?_
  refine x_get (ci := 0) (C := RX0) (T := TX0) (M := 7) (v := .ref (a 16)) hx hb hts in_X5_beginRide_0 hown hG hP 4 rfl rfl 0 (by decide) (List.mem_of_getElem? (i := 2) rfl) rfl rfl dX5_beginRide_4 ?_
  refine lv_iload_n hx hb dX5_beginRide_7 rfl (lv_at hl 1 rfl) ?_
  refine lv_iconst (v := 2) hx hb dX5_beginRide_8 (by decide) ?_
  refine x_iast (w := wX cI a) (σ := σ) hx hb hG hP hS 16 rfl (wX_st16 cI a _ _ _) (by assumption) dX5_beginRide_9 (fun H locs hP hS => ?_)
  refine lv_aload_n hx hb dX5_beginRide_10 rfl (lv_at hl 0 rfl) ?_
  refine x_get (ci := 5) (C := RX5) (T := TX5) (M := 9) (v := .ref (a 4)) hx hb hts in_X5_beginRide_5 hown hG hP 0 rfl rfl 3 (by decide) (List.mem_of_getElem? (i := 1) rfl) rfl rfl dX5_beginRide_11 ?_
  refine x_get (ci := 0) (C := RX0) (T := TX0) (M := 7) (v := .ref (a 17)) hx hb hts in_X5_beginRide_0 hown hG hP 4 rfl rfl 1 (by decide) (List.mem_of_getElem? (i := 3) rfl) rfl rfl dX5_beginRide_14 ?_
  refine lv_iload_n hx hb dX5_beginRide_17 rfl (lv_at hl 1 rfl) ?_
  refine lv_iload_n hx hb dX5_beginRide_18 rfl (lv_at hl 2 rfl) ?_
  refine x_iast (w := wX cI a) (σ := sx σ 16 cy.toNatClampNeg 2) hx hb hG hP hS 17 rfl (wX_st17 cI a _ _ _) (by assumption) dX5_beginRide_19 (fun H locs hP hS => ?_)
  refine lv_aload_n hx hb dX5_beginRide_20 rfl (lv_at hl 0 rfl) ?_
  refine x_get (ci := 5) (C := RX5) (T := TX5) (M := 9) (v := .ref (a 4)) hx hb hts in_X5_beginRide_5 hown hG hP 0 rfl rfl 3 (by decide) (List.mem_of_getElem? (i := 1) rfl) rfl rfl dX5_beginRide_21 ?_
  refine x_get (ci := 0) (C := RX0) (T := TX0) (M := 7) (v := .ref (a 20)) hx hb hts in_X5_beginRide_0 hown hG hP 4 rfl rfl 4 (by decide) (List.mem_of_getElem? (i := 4) rfl) rfl rfl dX5_beginRide_24 ?_
  refine lv_iload_n hx hb dX5_beginRide_27 rfl (lv_at hl 1 rfl) ?_
  refine lv_iload_n hx hb dX5_beginRide_28 rfl (lv_at hl 3 rfl) ?_
  refine x_iast (w := wX cI a) (σ := sx (sx σ 16 cy.toNatClampNeg 2) 17 cy.toNatClampNeg ri) hx hb hG hP hS 20 rfl (wX_st20 cI a _ _ _) (by assumption) dX5_beginRide_29 (fun H locs hP hS => ?_)
  refine lv_aload_n hx hb dX5_beginRide_30 rfl (lv_at hl 0 rfl) ?_
  refine x_get (ci := 5) (C := RX5) (T := TX5) (M := 9) (v := .ref (a 4)) hx hb hts in_X5_beginRide_5 hown hG hP 0 rfl rfl 3 (by decide) (List.mem_of_getElem? (i := 1) rfl) rfl rfl dX5_beginRide_31 ?_
  refine x_get (ci := 0) (C := RX0) (T := TX0) (M := 7) (v := .ref (a 21)) hx hb hts in_X5_beginRide_0 hown hG hP 4 rfl rfl 5 (by decide) (List.mem_of_getElem? (i := 5) rfl) rfl rfl dX5_beginRide_34 ?_
  refine lv_iload_n hx hb dX5_beginRide_37 rfl (lv_at hl 1 rfl) ?_
  refine lv_aload_n hx hb dX5_beginRide_38 rfl (lv_at hl 0 rfl) ?_
  refine x_get (ci := 5) (C := RX5) (T := TX5) (M := 9) (v := .int (σ 0 8)) hx hb hts in_X5_beginRide_5 hown hG hP 0 rfl rfl 8 (by decide) (List.mem_of_getElem? (i := 6) rfl) rfl rfl dX5_beginRide_39 ?_
  refine x_iast (w := wX cI a) (σ := sx (sx (sx σ 16 cy.toNatClampNeg 2) 17 cy.toNatClampNeg ri) 20 cy.toNatClampNeg mi) hx hb hG hP hS 21 rfl (wX_st21 cI a _ _ _) (by assumption) dX5_beginRide_42 (fun H locs hP hS => ?_)
  refine lv_aload_n hx hb dX5_beginRide_43 rfl (lv_at hl 0 rfl) ?_
  refine x_get (ci := 5) (C := RX5) (T := TX5) (M := 9) (v := .ref (a 4)) hx hb hts in_X5_beginRide_5 hown hG hP 0 rfl rfl 3 (by decide) (List.mem_of_getElem? (i := 1) rfl) rfl rfl dX5_beginRide_44 ?_
  refine x_get (ci := 0) (C := RX0) (T := TX0) (M := 7) (v := .ref (a 22)) hx hb hts in_X5_beginRide_0 hown hG hP 4 rfl rfl 6 (by decide) (List.mem_of_getElem? (i := 7) rfl) rfl rfl dX5_beginRide_47 ?_
  refine lv_iload_n hx hb dX5_beginRide_50 rfl (lv_at hl 1 rfl) ?_
  refine lv_iconst (v := 0) hx hb dX5_beginRide_51 (by decide) ?_
  refine x_iast (w := wX cI a) (σ := sx (sx (sx (sx σ 16 cy.toNatClampNeg 2) 17 cy.toNatClampNeg ri) 20 cy.toNatClampNeg mi) 21 cy.toNatClampNeg (σ 0 8)) hx hb hG hP hS 22 rfl (wX_st22 cI a _ _ _) (by assumption) dX5_beginRide_52 (fun H locs hP hS => ?_)
  refine lv_aload_n hx hb dX5_beginRide_53 rfl (lv_at hl 0 rfl) ?_
  refine x_get (ci := 5) (C := RX5) (T := TX5) (M := 9) (v := .ref (a 5)) hx hb hts in_X5_beginRide_5 hown hG hP 0 rfl rfl 4 (by decide) (List.mem_of_getElem? (i := 8) rfl) rfl rfl dX5_beginRide_54 ?_
  refine x_get (ci := 2) (C := RX2) (T := TX2) (M := 6) (v := .ref (a 23)) hx hb hts in_X5_beginRide_2 hown hG hP 5 rfl rfl 0 (by decide) (List.mem_of_getElem? (i := 9) rfl) rfl rfl dX5_beginRide_57 ?_
  refine lv_iload_n hx hb dX5_beginRide_60 rfl (lv_at hl 2 rfl) ?_
  refine lv_dup2_11 hx hb dX5_beginRide_61 rfl rfl ?_
  refine x_iald (f := σ 23) hx hb hG hP 23 rfl (by assumption) dX5_beginRide_62 ?_
  refine lv_iconst (v := 1) hx hb dX5_beginRide_63 (by decide) ?_
  refine lv_iadd hx hb dX5_beginRide_64 ?_
  refine x_iast (w := wX cI a) (σ := sx (sx (sx (sx (sx σ 16 cy.toNatClampNeg 2) 17 cy.toNatClampNeg ri) 20 cy.toNatClampNeg mi) 21 cy.toNatClampNeg (σ 0 8)) 22 cy.toNatClampNeg 0) hx hb hG hP hS 23 rfl (wX_st23 cI a _ _ _) (by assumption) dX5_beginRide_65 (fun H locs hP hS => ?_)
  exact x_vret hx hb hr hlk hsz hP hS (by rw [s_X5_beginRide]) dX5_beginRide_66
theorem in_X5_endRide_0 : ∀ wd ∈ u_ws RX0 TX0 7, wd ∈ wsX5_endRide := by decide +kernel
theorem in_X5_endRide_2 : ∀ wd ∈ u_ws RX2 TX2 6, wd ∈ wsX5_endRide := by decide +kernel
theorem in_X5_endRide_5 : ∀ wd ∈ u_ws RX5 TX5 9, wd ∈ wsX5_endRide := by decide +kernel
def s_X5_endRide (σ : Sg) (cy : Int32) (mi : Int32) : Sg :=
  sx (sx (sx σ 19 cy.toNatClampNeg ((σ 19 cy.toNatClampNeg) + (r_X0_minutesGoingOn σ cy mi))) 24 (σ 17 cy.toNatClampNeg).toNatClampNeg ((σ 24 (σ 17 cy.toNatClampNeg).toNatClampNeg) + (r_X0_minutesGoingOn σ cy mi))) 25 (σ 17 cy.toNatClampNeg).toNatClampNeg ((σ 25 (σ 17 cy.toNatClampNeg).toNatClampNeg) + (r_X0_rideCost (sx (sx σ 19 cy.toNatClampNeg ((σ 19 cy.toNatClampNeg) + (r_X0_minutesGoingOn σ cy mi))) 24 (σ 17 cy.toNatClampNeg).toNatClampNeg ((σ 24 (σ 17 cy.toNatClampNeg).toNatClampNeg) + (r_X0_minutesGoingOn σ cy mi))) cy (r_X0_minutesGoingOn σ cy mi)))
set_option maxHeartbeats 4000000 in
set_option maxRecDepth 100000 in
theorem c_X5_endRide (l : Launch) (D : va_G) (cI : ClassId) (a : Nat → Nat) (sz : Nat) (σ : Sg) (cy : Int32) (mi : Int32) (hc : vp_in cy 30) (hh : vp_in (σ 17 cy.toNatClampNeg) 10) : Met l yX5_endRide wsX5_endRide ({ frames := 2, cells := 0, slots := 0, locals := 36 }) (PcW D cI 29 a (wX cI a) sz σ [.ref (a 0), .int cy, .int mi]) (QvW D 29 a (wX cI a) sz (s_X5_endRide σ cy mi)) 0 0 (AX 29 a sz) := by
  refine x_of (cc := cX5_endRide) (maxL := 5) (ret := none) (C := RX5) rfl (by decide) rfl (Nat.le_of_ble_eq_true rfl) (fun p e s m below meth c hx hb hr hml hlk hts hown hsz H hP hS hG ls hl => ?_)
  have hl : lv_has ls 5 [(0, .ref (a 0)), (1, .int cy), (2, .int mi)] := hl
  refine lv_aload_n hx hb dX5_endRide_0 rfl (lv_at hl 0 rfl) ?_
  refine x_get (ci := 5) (C := RX5) (T := TX5) (M := 9) (v := .ref (a 4)) hx hb hts in_X5_endRide_5 hown hG hP 0 rfl rfl 3 (by decide) (List.mem_of_getElem? (i := 1) rfl) rfl rfl dX5_endRide_1 ?_
  refine x_get (ci := 0) (C := RX0) (T := TX0) (M := 7) (v := .ref (a 17)) hx hb hts in_X5_endRide_0 hown hG hP 4 rfl rfl 1 (by decide) (List.mem_of_getElem? (i := 2) rfl) rfl rfl dX5_endRide_4 ?_
  refine lv_iload_n hx hb dX5_endRide_7 rfl (lv_at hl 1 rfl) ?_
  refine x_iald (f := σ 17) hx hb hG hP 17 rfl (by assumption) dX5_endRide_8 ?_
  refine lv_istore_n (lv' := [(3, .int (σ 17 cy.toNatClampNeg)), (0, .ref (a 0)), (1, .int cy), (2, .int mi)]) hx hb dX5_endRide_9 rfl hl (by decide) rfl (fun ls hl => ?_)
  refine lv_aload_n hx hb dX5_endRide_10 rfl (lv_at hl 1 rfl) ?_
  refine x_get (ci := 5) (C := RX5) (T := TX5) (M := 9) (v := .ref (a 4)) hx hb hts in_X5_endRide_5 hown hG hP 0 rfl rfl 3 (by decide) (List.mem_of_getElem? (i := 1) rfl) rfl rfl dX5_endRide_11 ?_
  refine lv_iload_n hx hb dX5_endRide_14 rfl (lv_at hl 2 rfl) ?_
  refine lv_iload_n hx hb dX5_endRide_15 rfl (lv_at hl 3 rfl) ?_
  refine x_callVi (w := wX cI a) (σ := σ) (σ' := σ) (As := [.int cy, .int mi]) (rest := []) (q0 := 4) ⟨hx, hb, hml, hown, hts⟩ hG hP hS hsz (c_X0_minutesGoingOn l D cI a H.size σ cy mi (by assumption)) (cwV 2 hts gX5_endRide_X0_minutesGoingOn rfl rfl rfl (by decide +kernel) ⟨Nat.le_of_ble_eq_true rfl, Nat.le_of_ble_eq_true rfl⟩) rfl rfl rfl rfl hl.1 rfl (Nat.le_of_ble_eq_true rfl) ⟨Nat.zero_le _, Nat.zero_le _⟩ dX5_endRide_16 (fun H locs hP hS => ?_)
  refine lv_istore (lv' := [(4, .int (r_X0_minutesGoingOn σ cy mi)), (3, .int (σ 17 cy.toNatClampNeg)), (0, .ref (a 0)), (1, .int cy), (2, .int mi)]) hx hb dX5_endRide_19 hl (by decide) rfl (fun ls hl => ?_)
  refine lv_aload_n hx hb dX5_endRide_21 rfl (lv_at hl 2 rfl) ?_
  refine x_get (ci := 5) (C := RX5) (T := TX5) (M := 9) (v := .ref (a 4)) hx hb hts in_X5_endRide_5 hown hG hP 0 rfl rfl 3 (by decide) (List.mem_of_getElem? (i := 1) rfl) rfl rfl dX5_endRide_22 ?_
  refine x_get (ci := 0) (C := RX0) (T := TX0) (M := 7) (v := .ref (a 19)) hx hb hts in_X5_endRide_0 hown hG hP 4 rfl rfl 3 (by decide) (List.mem_of_getElem? (i := 3) rfl) rfl rfl dX5_endRide_25 ?_
  refine lv_iload_n hx hb dX5_endRide_28 rfl (lv_at hl 3 rfl) ?_
  refine lv_dup2_11 hx hb dX5_endRide_29 rfl rfl ?_
  refine x_iald (f := σ 19) hx hb hG hP 19 rfl (by assumption) dX5_endRide_30 ?_
  refine lv_iload hx hb dX5_endRide_31 (lv_at hl 0 rfl) ?_
  refine lv_iadd hx hb dX5_endRide_33 ?_
  refine x_iast (w := wX cI a) (σ := σ) hx hb hG hP hS 19 rfl (wX_st19 cI a _ _ _) (by assumption) dX5_endRide_34 (fun H locs hP hS => ?_)
  refine lv_aload_n hx hb dX5_endRide_35 rfl (lv_at hl 2 rfl) ?_
  refine x_get (ci := 5) (C := RX5) (T := TX5) (M := 9) (v := .ref (a 5)) hx hb hts in_X5_endRide_5 hown hG hP 0 rfl rfl 4 (by decide) (List.mem_of_getElem? (i := 4) rfl) rfl rfl dX5_endRide_36 ?_
  refine x_get (ci := 2) (C := RX2) (T := TX2) (M := 6) (v := .ref (a 24)) hx hb hts in_X5_endRide_2 hown hG hP 5 rfl rfl 1 (by decide) (List.mem_of_getElem? (i := 5) rfl) rfl rfl dX5_endRide_39 ?_
  refine lv_iload_n hx hb dX5_endRide_42 rfl (lv_at hl 1 rfl) ?_
  refine lv_dup2_11 hx hb dX5_endRide_43 rfl rfl ?_
  refine x_iald (f := σ 24) hx hb hG hP 24 rfl (by assumption) dX5_endRide_44 ?_
  refine lv_iload hx hb dX5_endRide_45 (lv_at hl 0 rfl) ?_
  refine lv_iadd hx hb dX5_endRide_47 ?_
  refine x_iast (w := wX cI a) (σ := sx σ 19 cy.toNatClampNeg ((σ 19 cy.toNatClampNeg) + (r_X0_minutesGoingOn σ cy mi))) hx hb hG hP hS 24 rfl (wX_st24 cI a _ _ _) (by assumption) dX5_endRide_48 (fun H locs hP hS => ?_)
  refine lv_aload_n hx hb dX5_endRide_49 rfl (lv_at hl 2 rfl) ?_
  refine x_get (ci := 5) (C := RX5) (T := TX5) (M := 9) (v := .ref (a 5)) hx hb hts in_X5_endRide_5 hown hG hP 0 rfl rfl 4 (by decide) (List.mem_of_getElem? (i := 4) rfl) rfl rfl dX5_endRide_50 ?_
  refine x_get (ci := 2) (C := RX2) (T := TX2) (M := 6) (v := .ref (a 25)) hx hb hts in_X5_endRide_2 hown hG hP 5 rfl rfl 2 (by decide) (List.mem_of_getElem? (i := 6) rfl) rfl rfl dX5_endRide_53 ?_
  refine lv_iload_n hx hb dX5_endRide_56 rfl (lv_at hl 1 rfl) ?_
  refine lv_dup2_11 hx hb dX5_endRide_57 rfl rfl ?_
  refine x_iald (f := σ 25) hx hb hG hP 25 rfl (by assumption) dX5_endRide_58 ?_
  refine lv_aload_n hx hb dX5_endRide_59 rfl (lv_at hl 2 rfl) ?_
  refine x_get (ci := 5) (C := RX5) (T := TX5) (M := 9) (v := .ref (a 4)) hx hb hts in_X5_endRide_5 hown hG hP 0 rfl rfl 3 (by decide) (List.mem_of_getElem? (i := 1) rfl) rfl rfl dX5_endRide_60 ?_
  refine lv_iload_n hx hb dX5_endRide_63 rfl (lv_at hl 3 rfl) ?_
  refine lv_iload hx hb dX5_endRide_64 (lv_at hl 0 rfl) ?_
  refine x_callVi (w := wX cI a) (σ := sx (sx σ 19 cy.toNatClampNeg ((σ 19 cy.toNatClampNeg) + (r_X0_minutesGoingOn σ cy mi))) 24 (σ 17 cy.toNatClampNeg).toNatClampNeg ((σ 24 (σ 17 cy.toNatClampNeg).toNatClampNeg) + (r_X0_minutesGoingOn σ cy mi))) (σ' := sx (sx σ 19 cy.toNatClampNeg ((σ 19 cy.toNatClampNeg) + (r_X0_minutesGoingOn σ cy mi))) 24 (σ 17 cy.toNatClampNeg).toNatClampNeg ((σ 24 (σ 17 cy.toNatClampNeg).toNatClampNeg) + (r_X0_minutesGoingOn σ cy mi))) (As := [.int cy, .int (r_X0_minutesGoingOn σ cy mi)]) (rest := [.int (σ 25 (σ 17 cy.toNatClampNeg).toNatClampNeg), .int (σ 17 cy.toNatClampNeg), .ref (a 25)]) (q0 := 4) ⟨hx, hb, hml, hown, hts⟩ hG hP hS hsz (c_X0_rideCost l D cI a H.size (sx (sx σ 19 cy.toNatClampNeg ((σ 19 cy.toNatClampNeg) + (r_X0_minutesGoingOn σ cy mi))) 24 (σ 17 cy.toNatClampNeg).toNatClampNeg ((σ 24 (σ 17 cy.toNatClampNeg).toNatClampNeg) + (r_X0_minutesGoingOn σ cy mi))) cy (r_X0_minutesGoingOn σ cy mi) (by assumption)) (cwV 2 hts gX5_endRide_X0_rideCost rfl rfl rfl (by decide +kernel) ⟨Nat.le_of_ble_eq_true rfl, Nat.le_of_ble_eq_true rfl⟩) rfl rfl rfl rfl hl.1 rfl (Nat.le_of_ble_eq_true rfl) ⟨Nat.zero_le _, Nat.zero_le _⟩ dX5_endRide_66 (fun H locs hP hS => ?_)
  refine lv_iadd hx hb dX5_endRide_69 ?_
  refine x_iast (w := wX cI a) (σ := sx (sx σ 19 cy.toNatClampNeg ((σ 19 cy.toNatClampNeg) + (r_X0_minutesGoingOn σ cy mi))) 24 (σ 17 cy.toNatClampNeg).toNatClampNeg ((σ 24 (σ 17 cy.toNatClampNeg).toNatClampNeg) + (r_X0_minutesGoingOn σ cy mi))) hx hb hG hP hS 25 rfl (wX_st25 cI a _ _ _) (by assumption) dX5_endRide_70 (fun H locs hP hS => ?_)
  exact x_vret hx hb hr hlk hsz hP hS (by rw [s_X5_endRide]) dX5_endRide_71
theorem in_X5_beUnlocked_0 : ∀ wd ∈ u_ws RX0 TX0 7, wd ∈ wsX5_beUnlocked := by decide +kernel
theorem in_X5_beUnlocked_3 : ∀ wd ∈ u_ws RX3 TX3 4, wd ∈ wsX5_beUnlocked := by decide +kernel
theorem in_X5_beUnlocked_5 : ∀ wd ∈ u_ws RX5 TX5 9, wd ∈ wsX5_beUnlocked := by decide +kernel
def r_X5_beUnlocked (σ : Sg) (cy : Int32) (ri : Int32) (mi : Int32) : Int32 :=
  if σ 16 cy.toNatClampNeg = 1 then
    if r_X0_isBlocked σ cy = 0 then
      1
    else
      if σ 16 cy.toNatClampNeg = 2 then
        if σ 17 cy.toNatClampNeg = ri then
          0
        else
          1
      else
        0
  else
    if σ 16 cy.toNatClampNeg = 2 then
      if σ 17 cy.toNatClampNeg = ri then
        0
      else
        1
    else
      0
def s_X5_beUnlocked (σ : Sg) (cy : Int32) (ri : Int32) (mi : Int32) : Sg :=
  if σ 16 cy.toNatClampNeg = 1 then
    if r_X0_isBlocked σ cy = 0 then
      s_X5_beginRide (sx σ 14 (σ 17 cy.toNatClampNeg).toNatClampNeg ((σ 14 (σ 17 cy.toNatClampNeg).toNatClampNeg) - 1)) cy ri mi
    else
      if σ 16 cy.toNatClampNeg = 2 then
        if σ 17 cy.toNatClampNeg = ri then
          σ
        else
          s_X5_beginRide (s_X5_endRide σ cy mi) cy ri mi
      else
        σ
  else
    if σ 16 cy.toNatClampNeg = 2 then
      if σ 17 cy.toNatClampNeg = ri then
        σ
      else
        s_X5_beginRide (s_X5_endRide σ cy mi) cy ri mi
    else
      σ
theorem b_X5_beUnlocked (σ : Sg) (cy : Int32) (ri : Int32) (mi : Int32) : r_X5_beUnlocked σ cy ri mi = 0 ∨ r_X5_beUnlocked σ cy ri mi = 1 := by
  unfold r_X5_beUnlocked
  repeat' split
  all_goals first | with_reducible exact Or.inl rfl | with_reducible exact Or.inr rfl
set_option maxHeartbeats 4000000 in
set_option maxRecDepth 100000 in
theorem c_X5_beUnlocked (l : Launch) (D : va_G) (cI : ClassId) (a : Nat → Nat) (sz : Nat) (σ : Sg) (cy : Int32) (ri : Int32) (mi : Int32) (hc : vp_in cy 30) (hr1 : vp_in ri 10) (hD : σ 16 cy.toNatClampNeg = 1 → vp_in (σ 17 cy.toNatClampNeg) 8) (hR : σ 16 cy.toNatClampNeg = 2 → vp_in (σ 17 cy.toNatClampNeg) 10) : Met l yX5_beUnlocked wsX5_beUnlocked ({ frames := 3, cells := 0, slots := 0, locals := 60 }) (PcW D cI 29 a (wX cI a) sz σ [.ref (a 0), .int cy, .int ri, .int mi]) (QiW D 29 a (wX cI a) sz (r_X5_beUnlocked σ cy ri mi) (s_X5_beUnlocked σ cy ri mi)) 0 0 (AX 29 a sz) := by
  refine x_of (cc := cX5_beUnlocked) (maxL := 6) (ret := some .boolean) (C := RX5) rfl (by decide) rfl (Nat.le_of_ble_eq_true rfl) (fun p e s m below meth c hx hb hr hml hlk hts hown hsz H hP hS hG ls hl => ?_)
  have hl : lv_has ls 6 [(0, .ref (a 0)), (1, .int cy), (2, .int ri), (3, .int mi)] := hl
  refine lv_aload_n hx hb dX5_beUnlocked_0 rfl (lv_at hl 0 rfl) ?_
  refine x_get (ci := 5) (C := RX5) (T := TX5) (M := 9) (v := .ref (a 4)) hx hb hts in_X5_beUnlocked_5 hown hG hP 0 rfl rfl 3 (by decide) (List.mem_of_getElem? (i := 1) rfl) rfl rfl dX5_beUnlocked_1 ?_
  refine x_get (ci := 0) (C := RX0) (T := TX0) (M := 7) (v := .ref (a 16)) hx hb hts in_X5_beUnlocked_0 hown hG hP 4 rfl rfl 0 (by decide) (List.mem_of_getElem? (i := 2) rfl) rfl rfl dX5_beUnlocked_4 ?_
  refine lv_iload_n hx hb dX5_beUnlocked_7 rfl (lv_at hl 1 rfl) ?_
  refine x_iald (f := σ 16) hx hb hG hP 16 rfl (by assumption) dX5_beUnlocked_8 ?_
  refine lv_istore (lv' := [(4, .int (σ 16 cy.toNatClampNeg)), (0, .ref (a 0)), (1, .int cy), (2, .int ri), (3, .int mi)]) hx hb dX5_beUnlocked_9 hl (by decide) rfl (fun ls hl => ?_)
  refine lv_aload_n hx hb dX5_beUnlocked_11 rfl (lv_at hl 1 rfl) ?_
  refine x_get (ci := 5) (C := RX5) (T := TX5) (M := 9) (v := .ref (a 4)) hx hb hts in_X5_beUnlocked_5 hown hG hP 0 rfl rfl 3 (by decide) (List.mem_of_getElem? (i := 1) rfl) rfl rfl dX5_beUnlocked_12 ?_
  refine x_get (ci := 0) (C := RX0) (T := TX0) (M := 7) (v := .ref (a 17)) hx hb hts in_X5_beUnlocked_0 hown hG hP 4 rfl rfl 1 (by decide) (List.mem_of_getElem? (i := 3) rfl) rfl rfl dX5_beUnlocked_15 ?_
  refine lv_iload_n hx hb dX5_beUnlocked_18 rfl (lv_at hl 2 rfl) ?_
  refine x_iald (f := σ 17) hx hb hG hP 17 rfl (by assumption) dX5_beUnlocked_19 ?_
  refine lv_istore (lv' := [(5, .int (σ 17 cy.toNatClampNeg)), (4, .int (σ 16 cy.toNatClampNeg)), (0, .ref (a 0)), (1, .int cy), (2, .int ri), (3, .int mi)]) hx hb dX5_beUnlocked_20 hl (by decide) rfl (fun ls hl => ?_)
  refine lv_iload hx hb dX5_beUnlocked_22 (lv_at hl 1 rfl) ?_
  refine lv_iconst (v := 1) hx hb dX5_beUnlocked_24 (by decide) ?_
  refine lv_icmp_ne (tgt := 62) hx hb dX5_beUnlocked_25 (by decide) (fun h_1 => ?_) (fun h_1 => ?_)
  · refine lv_iload hx hb dX5_beUnlocked_62 (lv_at hl 1 rfl) ?_
    refine lv_iconst (v := 2) hx hb dX5_beUnlocked_64 (by decide) ?_
    refine lv_icmp_ne (tgt := 89) hx hb dX5_beUnlocked_65 (by decide) (fun h_2 => ?_) (fun h_2 => ?_)
    · refine lv_iconst (v := 0) hx hb dX5_beUnlocked_89 (by decide) ?_
      exact x_iret hx hb hr hlk hsz hP hS rfl (by rw [r_X5_beUnlocked, if_neg h_1, if_neg h_2]) (by rw [s_X5_beUnlocked, if_neg h_1, if_neg h_2]) dX5_beUnlocked_90
    · refine lv_iload hx hb dX5_beUnlocked_68 (lv_at hl 0 rfl) ?_
      refine lv_iload_n hx hb dX5_beUnlocked_70 rfl (lv_at hl 4 rfl) ?_
      refine lv_icmp_eq (tgt := 89) hx hb dX5_beUnlocked_71 (by decide) (fun h_3 => ?_) (fun h_3 => ?_)
      · refine lv_iconst (v := 0) hx hb dX5_beUnlocked_89 (by decide) ?_
        exact x_iret hx hb hr hlk hsz hP hS rfl (by rw [r_X5_beUnlocked, if_neg h_1, if_pos h_2, if_pos h_3]) (by rw [s_X5_beUnlocked, if_neg h_1, if_pos h_2, if_pos h_3]) dX5_beUnlocked_90
      · refine lv_aload_n hx hb dX5_beUnlocked_74 rfl (lv_at hl 2 rfl) ?_
        refine lv_iload_n hx hb dX5_beUnlocked_75 rfl (lv_at hl 3 rfl) ?_
        refine lv_iload_n hx hb dX5_beUnlocked_76 rfl (lv_at hl 5 rfl) ?_
        refine x_callVv (w := wX cI a) (σ := σ) (σ' := s_X5_endRide σ cy mi) (As := [.int cy, .int mi]) (rest := []) (q0 := 0) ⟨hx, hb, hml, hown, hts⟩ hG hP hS hsz (c_X5_endRide l D cI a H.size σ cy mi (by assumption) (hR h_2)) (cwV 2 hts gX5_beUnlocked_X5_endRide rfl rfl rfl (by decide +kernel) ⟨Nat.le_of_ble_eq_true rfl, Nat.le_of_ble_eq_true rfl⟩) rfl rfl rfl rfl hl.1 rfl (Nat.le_of_ble_eq_true rfl) ⟨Nat.zero_le _, Nat.zero_le _⟩ dX5_beUnlocked_77 (fun H locs hP hS => ?_)
        refine lv_aload_n hx hb dX5_beUnlocked_80 rfl (lv_at hl 2 rfl) ?_
        refine lv_iload_n hx hb dX5_beUnlocked_81 rfl (lv_at hl 3 rfl) ?_
        refine lv_iload_n hx hb dX5_beUnlocked_82 rfl (lv_at hl 4 rfl) ?_
        refine lv_iload_n hx hb dX5_beUnlocked_83 rfl (lv_at hl 5 rfl) ?_
        refine x_callVv (w := wX cI a) (σ := s_X5_endRide σ cy mi) (σ' := s_X5_beginRide (s_X5_endRide σ cy mi) cy ri mi) (As := [.int cy, .int ri, .int mi]) (rest := []) (q0 := 0) ⟨hx, hb, hml, hown, hts⟩ hG hP hS hsz (c_X5_beginRide l D cI a H.size (s_X5_endRide σ cy mi) cy ri mi (by assumption) (by assumption)) (cwV 3 hts gX5_beUnlocked_X5_beginRide rfl rfl rfl (by decide +kernel) ⟨Nat.le_of_ble_eq_true rfl, Nat.le_of_ble_eq_true rfl⟩) rfl rfl rfl rfl hl.1 rfl (Nat.le_of_ble_eq_true rfl) ⟨Nat.zero_le _, Nat.zero_le _⟩ dX5_beUnlocked_84 (fun H locs hP hS => ?_)
        refine lv_iconst (v := 1) hx hb dX5_beUnlocked_87 (by decide) ?_
        exact x_iret hx hb hr hlk hsz hP hS rfl (by rw [r_X5_beUnlocked, if_neg h_1, if_pos h_2, if_neg h_3]) (by rw [s_X5_beUnlocked, if_neg h_1, if_pos h_2, if_neg h_3]) dX5_beUnlocked_88
  · refine lv_aload_n hx hb dX5_beUnlocked_28 rfl (lv_at hl 2 rfl) ?_
    refine x_get (ci := 5) (C := RX5) (T := TX5) (M := 9) (v := .ref (a 4)) hx hb hts in_X5_beUnlocked_5 hown hG hP 0 rfl rfl 3 (by decide) (List.mem_of_getElem? (i := 1) rfl) rfl rfl dX5_beUnlocked_29 ?_
    refine lv_iload_n hx hb dX5_beUnlocked_32 rfl (lv_at hl 3 rfl) ?_
    refine x_callVi (w := wX cI a) (σ := σ) (σ' := σ) (As := [.int cy]) (rest := []) (q0 := 4) ⟨hx, hb, hml, hown, hts⟩ hG hP hS hsz (c_X0_isBlocked l D cI a H.size σ cy (by assumption)) (cwV 1 hts gX5_beUnlocked_X0_isBlocked rfl rfl rfl (by decide +kernel) ⟨Nat.le_of_ble_eq_true rfl, Nat.le_of_ble_eq_true rfl⟩) rfl rfl rfl rfl hl.1 rfl (Nat.le_of_ble_eq_true rfl) ⟨Nat.zero_le _, Nat.zero_le _⟩ dX5_beUnlocked_33 (fun H locs hP hS => ?_)
    refine lv_if_ne (tgt := 62) hx hb dX5_beUnlocked_36 (by decide) (fun h_4 => ?_) (fun h_4 => ?_)
    · refine lv_iload hx hb dX5_beUnlocked_62 (lv_at hl 1 rfl) ?_
      refine lv_iconst (v := 2) hx hb dX5_beUnlocked_64 (by decide) ?_
      refine lv_icmp_ne (tgt := 89) hx hb dX5_beUnlocked_65 (by decide) (fun h_5 => ?_) (fun h_5 => ?_)
      · refine lv_iconst (v := 0) hx hb dX5_beUnlocked_89 (by decide) ?_
        exact x_iret hx hb hr hlk hsz hP hS rfl (by rw [r_X5_beUnlocked, if_pos h_1, if_neg h_4, if_neg h_5]) (by rw [s_X5_beUnlocked, if_pos h_1, if_neg h_4, if_neg h_5]) dX5_beUnlocked_90
      · refine lv_iload hx hb dX5_beUnlocked_68 (lv_at hl 0 rfl) ?_
        refine lv_iload_n hx hb dX5_beUnlocked_70 rfl (lv_at hl 4 rfl) ?_
        refine lv_icmp_eq (tgt := 89) hx hb dX5_beUnlocked_71 (by decide) (fun h_6 => ?_) (fun h_6 => ?_)
        · refine lv_iconst (v := 0) hx hb dX5_beUnlocked_89 (by decide) ?_
          exact x_iret hx hb hr hlk hsz hP hS rfl (by rw [r_X5_beUnlocked, if_pos h_1, if_neg h_4, if_pos h_5, if_pos h_6]) (by rw [s_X5_beUnlocked, if_pos h_1, if_neg h_4, if_pos h_5, if_pos h_6]) dX5_beUnlocked_90
        · refine lv_aload_n hx hb dX5_beUnlocked_74 rfl (lv_at hl 2 rfl) ?_
          refine lv_iload_n hx hb dX5_beUnlocked_75 rfl (lv_at hl 3 rfl) ?_
          refine lv_iload_n hx hb dX5_beUnlocked_76 rfl (lv_at hl 5 rfl) ?_
          refine x_callVv (w := wX cI a) (σ := σ) (σ' := s_X5_endRide σ cy mi) (As := [.int cy, .int mi]) (rest := []) (q0 := 0) ⟨hx, hb, hml, hown, hts⟩ hG hP hS hsz (c_X5_endRide l D cI a H.size σ cy mi (by assumption) (hR h_5)) (cwV 2 hts gX5_beUnlocked_X5_endRide rfl rfl rfl (by decide +kernel) ⟨Nat.le_of_ble_eq_true rfl, Nat.le_of_ble_eq_true rfl⟩) rfl rfl rfl rfl hl.1 rfl (Nat.le_of_ble_eq_true rfl) ⟨Nat.zero_le _, Nat.zero_le _⟩ dX5_beUnlocked_77 (fun H locs hP hS => ?_)
          refine lv_aload_n hx hb dX5_beUnlocked_80 rfl (lv_at hl 2 rfl) ?_
          refine lv_iload_n hx hb dX5_beUnlocked_81 rfl (lv_at hl 3 rfl) ?_
          refine lv_iload_n hx hb dX5_beUnlocked_82 rfl (lv_at hl 4 rfl) ?_
          refine lv_iload_n hx hb dX5_beUnlocked_83 rfl (lv_at hl 5 rfl) ?_
          refine x_callVv (w := wX cI a) (σ := s_X5_endRide σ cy mi) (σ' := s_X5_beginRide (s_X5_endRide σ cy mi) cy ri mi) (As := [.int cy, .int ri, .int mi]) (rest := []) (q0 := 0) ⟨hx, hb, hml, hown, hts⟩ hG hP hS hsz (c_X5_beginRide l D cI a H.size (s_X5_endRide σ cy mi) cy ri mi (by assumption) (by assumption)) (cwV 3 hts gX5_beUnlocked_X5_beginRide rfl rfl rfl (by decide +kernel) ⟨Nat.le_of_ble_eq_true rfl, Nat.le_of_ble_eq_true rfl⟩) rfl rfl rfl rfl hl.1 rfl (Nat.le_of_ble_eq_true rfl) ⟨Nat.zero_le _, Nat.zero_le _⟩ dX5_beUnlocked_84 (fun H locs hP hS => ?_)
          refine lv_iconst (v := 1) hx hb dX5_beUnlocked_87 (by decide) ?_
          exact x_iret hx hb hr hlk hsz hP hS rfl (by rw [r_X5_beUnlocked, if_pos h_1, if_neg h_4, if_pos h_5, if_neg h_6]) (by rw [s_X5_beUnlocked, if_pos h_1, if_neg h_4, if_pos h_5, if_neg h_6]) dX5_beUnlocked_88
    · refine lv_aload_n hx hb dX5_beUnlocked_39 rfl (lv_at hl 2 rfl) ?_
      refine x_get (ci := 5) (C := RX5) (T := TX5) (M := 9) (v := .ref (a 3)) hx hb hts in_X5_beUnlocked_5 hown hG hP 0 rfl rfl 2 (by decide) (List.mem_of_getElem? (i := 4) rfl) rfl rfl dX5_beUnlocked_40 ?_
      refine x_get (ci := 3) (C := RX3) (T := TX3) (M := 4) (v := .ref (a 14)) hx hb hts in_X5_beUnlocked_3 hown hG hP 3 rfl rfl 1 (by decide) (List.mem_of_getElem? (i := 5) rfl) rfl rfl dX5_beUnlocked_43 ?_
      refine lv_iload hx hb dX5_beUnlocked_46 (lv_at hl 0 rfl) ?_
      refine lv_dup2_11 hx hb dX5_beUnlocked_48 rfl rfl ?_
      refine x_iald (f := σ 14) hx hb hG hP 14 rfl (hD h_1) dX5_beUnlocked_49 ?_
      refine lv_iconst (v := 1) hx hb dX5_beUnlocked_50 (by decide) ?_
      refine lv_isub hx hb dX5_beUnlocked_51 ?_
      refine x_iast (w := wX cI a) (σ := σ) hx hb hG hP hS 14 rfl (wX_st14 cI a _ _ _) (hD h_1) dX5_beUnlocked_52 (fun H locs hP hS => ?_)
      refine lv_aload_n hx hb dX5_beUnlocked_53 rfl (lv_at hl 2 rfl) ?_
      refine lv_iload_n hx hb dX5_beUnlocked_54 rfl (lv_at hl 3 rfl) ?_
      refine lv_iload_n hx hb dX5_beUnlocked_55 rfl (lv_at hl 4 rfl) ?_
      refine lv_iload_n hx hb dX5_beUnlocked_56 rfl (lv_at hl 5 rfl) ?_
      refine x_callVv (w := wX cI a) (σ := sx σ 14 (σ 17 cy.toNatClampNeg).toNatClampNeg ((σ 14 (σ 17 cy.toNatClampNeg).toNatClampNeg) - 1)) (σ' := s_X5_beginRide (sx σ 14 (σ 17 cy.toNatClampNeg).toNatClampNeg ((σ 14 (σ 17 cy.toNatClampNeg).toNatClampNeg) - 1)) cy ri mi) (As := [.int cy, .int ri, .int mi]) (rest := []) (q0 := 0) ⟨hx, hb, hml, hown, hts⟩ hG hP hS hsz (c_X5_beginRide l D cI a H.size (sx σ 14 (σ 17 cy.toNatClampNeg).toNatClampNeg ((σ 14 (σ 17 cy.toNatClampNeg).toNatClampNeg) - 1)) cy ri mi (by assumption) (by assumption)) (cwV 3 hts gX5_beUnlocked_X5_beginRide rfl rfl rfl (by decide +kernel) ⟨Nat.le_of_ble_eq_true rfl, Nat.le_of_ble_eq_true rfl⟩) rfl rfl rfl rfl hl.1 rfl (Nat.le_of_ble_eq_true rfl) ⟨Nat.zero_le _, Nat.zero_le _⟩ dX5_beUnlocked_57 (fun H locs hP hS => ?_)
      refine lv_iconst (v := 1) hx hb dX5_beUnlocked_60 (by decide) ?_
      exact x_iret hx hb hr hlk hsz hP hS rfl (by rw [r_X5_beUnlocked, if_pos h_1, if_pos h_4]) (by rw [s_X5_beUnlocked, if_pos h_1, if_pos h_4]) dX5_beUnlocked_61
theorem in_X5_beLocked_0 : ∀ wd ∈ u_ws RX0 TX0 7, wd ∈ wsX5_beLocked := by decide +kernel
theorem in_X5_beLocked_2 : ∀ wd ∈ u_ws RX2 TX2 6, wd ∈ wsX5_beLocked := by decide +kernel
theorem in_X5_beLocked_5 : ∀ wd ∈ u_ws RX5 TX5 9, wd ∈ wsX5_beLocked := by decide +kernel
def r_X5_beLocked (σ : Sg) (cy : Int32) (st : Int32) (mi : Int32) : Int32 :=
  if σ 16 cy.toNatClampNeg = 2 then
    if r_X3_freePlaces σ st ≤ r_X2_promisesAt σ st (σ 17 cy.toNatClampNeg) mi then
      if r_X2_promisedStation σ (σ 17 cy.toNatClampNeg) mi = st then
        0
      else
        0
    else
      if r_X2_promisedStation σ (σ 17 cy.toNatClampNeg) mi = st then
        1
      else
        1
  else
    0
def s_X5_beLocked (σ : Sg) (cy : Int32) (st : Int32) (mi : Int32) : Sg :=
  if σ 16 cy.toNatClampNeg = 2 then
    if r_X3_freePlaces σ st ≤ r_X2_promisesAt σ st (σ 17 cy.toNatClampNeg) mi then
      if r_X2_promisedStation σ (σ 17 cy.toNatClampNeg) mi = st then
        sx (sx (sx σ 27 (σ 17 cy.toNatClampNeg).toNatClampNeg (-1)) 22 cy.toNatClampNeg ((σ 22 cy.toNatClampNeg) + 10)) 26 (σ 17 cy.toNatClampNeg).toNatClampNeg ((σ 26 (σ 17 cy.toNatClampNeg).toNatClampNeg) + 100)
      else
        sx σ 22 cy.toNatClampNeg ((σ 22 cy.toNatClampNeg) + 10)
    else
      if r_X2_promisedStation σ (σ 17 cy.toNatClampNeg) mi = st then
        s_X5_dock (s_X5_endRide (sx σ 27 (σ 17 cy.toNatClampNeg).toNatClampNeg (-1)) cy mi) cy st
      else
        s_X5_dock (s_X5_endRide σ cy mi) cy st
  else
    σ
theorem b_X5_beLocked (σ : Sg) (cy : Int32) (st : Int32) (mi : Int32) : r_X5_beLocked σ cy st mi = 0 ∨ r_X5_beLocked σ cy st mi = 1 := by
  unfold r_X5_beLocked
  repeat' split
  all_goals first | with_reducible exact Or.inl rfl | with_reducible exact Or.inr rfl
set_option maxHeartbeats 4000000 in
set_option maxRecDepth 100000 in
theorem c_X5_beLocked (l : Launch) (D : va_G) (cI : ClassId) (a : Nat → Nat) (sz : Nat) (σ : Sg) (cy : Int32) (st : Int32) (mi : Int32) (hc : vp_in cy 30) (hs : vp_in st 8) (hR : σ 16 cy.toNatClampNeg = 2 → vp_in (σ 17 cy.toNatClampNeg) 10) : Met l yX5_beLocked wsX5_beLocked ({ frames := 3, cells := 0, slots := 0, locals := 60 }) (PcW D cI 29 a (wX cI a) sz σ [.ref (a 0), .int cy, .int st, .int mi]) (QiW D 29 a (wX cI a) sz (r_X5_beLocked σ cy st mi) (s_X5_beLocked σ cy st mi)) 0 0 (AX 29 a sz) := by
  refine x_of (cc := cX5_beLocked) (maxL := 7) (ret := some .boolean) (C := RX5) rfl (by decide) rfl (Nat.le_of_ble_eq_true rfl) (fun p e s m below meth c hx hb hr hml hlk hts hown hsz H hP hS hG ls hl => ?_)
  have hl : lv_has ls 7 [(0, .ref (a 0)), (1, .int cy), (2, .int st), (3, .int mi)] := hl
  refine lv_aload_n hx hb dX5_beLocked_0 rfl (lv_at hl 0 rfl) ?_
  refine x_get (ci := 5) (C := RX5) (T := TX5) (M := 9) (v := .ref (a 4)) hx hb hts in_X5_beLocked_5 hown hG hP 0 rfl rfl 3 (by decide) (List.mem_of_getElem? (i := 1) rfl) rfl rfl dX5_beLocked_1 ?_
  refine x_get (ci := 0) (C := RX0) (T := TX0) (M := 7) (v := .ref (a 16)) hx hb hts in_X5_beLocked_0 hown hG hP 4 rfl rfl 0 (by decide) (List.mem_of_getElem? (i := 2) rfl) rfl rfl dX5_beLocked_4 ?_
  refine lv_iload_n hx hb dX5_beLocked_7 rfl (lv_at hl 1 rfl) ?_
  refine x_iald (f := σ 16) hx hb hG hP 16 rfl (by assumption) dX5_beLocked_8 ?_
  refine lv_iconst (v := 2) hx hb dX5_beLocked_9 (by decide) ?_
  refine lv_icmp_eq (tgt := 15) hx hb dX5_beLocked_10 (by decide) (fun h_1 => ?_) (fun h_1 => ?_)
  · refine lv_aload_n hx hb dX5_beLocked_15 rfl (lv_at hl 0 rfl) ?_
    refine x_get (ci := 5) (C := RX5) (T := TX5) (M := 9) (v := .ref (a 4)) hx hb hts in_X5_beLocked_5 hown hG hP 0 rfl rfl 3 (by decide) (List.mem_of_getElem? (i := 1) rfl) rfl rfl dX5_beLocked_16 ?_
    refine x_get (ci := 0) (C := RX0) (T := TX0) (M := 7) (v := .ref (a 17)) hx hb hts in_X5_beLocked_0 hown hG hP 4 rfl rfl 1 (by decide) (List.mem_of_getElem? (i := 3) rfl) rfl rfl dX5_beLocked_19 ?_
    refine lv_iload_n hx hb dX5_beLocked_22 rfl (lv_at hl 1 rfl) ?_
    refine x_iald (f := σ 17) hx hb hG hP 17 rfl (by assumption) dX5_beLocked_23 ?_
    refine lv_istore (lv' := [(4, .int (σ 17 cy.toNatClampNeg)), (0, .ref (a 0)), (1, .int cy), (2, .int st), (3, .int mi)]) hx hb dX5_beLocked_24 hl (by decide) rfl (fun ls hl => ?_)
    refine lv_aload_n hx hb dX5_beLocked_26 rfl (lv_at hl 1 rfl) ?_
    refine x_get (ci := 5) (C := RX5) (T := TX5) (M := 9) (v := .ref (a 3)) hx hb hts in_X5_beLocked_5 hown hG hP 0 rfl rfl 2 (by decide) (List.mem_of_getElem? (i := 4) rfl) rfl rfl dX5_beLocked_27 ?_
    refine lv_iload_n hx hb dX5_beLocked_30 rfl (lv_at hl 3 rfl) ?_
    refine x_callVi (w := wX cI a) (σ := σ) (σ' := σ) (As := [.int st]) (rest := []) (q0 := 3) ⟨hx, hb, hml, hown, hts⟩ hG hP hS hsz (c_X3_freePlaces l D cI a H.size σ st (by assumption)) (cwV 1 hts gX5_beLocked_X3_freePlaces rfl rfl rfl (by decide +kernel) ⟨Nat.le_of_ble_eq_true rfl, Nat.le_of_ble_eq_true rfl⟩) rfl rfl rfl rfl hl.1 rfl (Nat.le_of_ble_eq_true rfl) ⟨Nat.zero_le _, Nat.zero_le _⟩ dX5_beLocked_31 (fun H locs hP hS => ?_)
    refine lv_aload_n hx hb dX5_beLocked_34 rfl (lv_at hl 1 rfl) ?_
    refine x_get (ci := 5) (C := RX5) (T := TX5) (M := 9) (v := .ref (a 5)) hx hb hts in_X5_beLocked_5 hown hG hP 0 rfl rfl 4 (by decide) (List.mem_of_getElem? (i := 5) rfl) rfl rfl dX5_beLocked_35 ?_
    refine lv_iload_n hx hb dX5_beLocked_38 rfl (lv_at hl 3 rfl) ?_
    refine lv_iload hx hb dX5_beLocked_39 (lv_at hl 0 rfl) ?_
    refine lv_iload_n hx hb dX5_beLocked_41 rfl (lv_at hl 4 rfl) ?_
    refine x_callVi (w := wX cI a) (σ := σ) (σ' := σ) (As := [.int st, .int (σ 17 cy.toNatClampNeg), .int mi]) (rest := [.int (r_X3_freePlaces σ st)]) (q0 := 5) ⟨hx, hb, hml, hown, hts⟩ hG hP hS hsz (c_X2_promisesAt l D cI a H.size σ st (σ 17 cy.toNatClampNeg) mi) (cwV 3 hts gX5_beLocked_X2_promisesAt rfl rfl rfl (by decide +kernel) ⟨Nat.le_of_ble_eq_true rfl, Nat.le_of_ble_eq_true rfl⟩) rfl rfl rfl rfl hl.1 rfl (Nat.le_of_ble_eq_true rfl) ⟨Nat.zero_le _, Nat.zero_le _⟩ dX5_beLocked_42 (fun H locs hP hS => ?_)
    refine lv_icmp_le (tgt := 52) hx hb dX5_beLocked_45 (by decide) (fun h_2 => ?_) (fun h_2 => ?_)
    · refine lv_iconst (v := 0) hx hb dX5_beLocked_52 (by decide) ?_
      refine lv_istore (lv' := [(5, .int 0), (4, .int (σ 17 cy.toNatClampNeg)), (0, .ref (a 0)), (1, .int cy), (2, .int st), (3, .int mi)]) hx hb dX5_beLocked_53 hl (by decide) rfl (fun ls hl => ?_)
      refine lv_aload_n hx hb dX5_beLocked_55 rfl (lv_at hl 2 rfl) ?_
      refine x_get (ci := 5) (C := RX5) (T := TX5) (M := 9) (v := .ref (a 5)) hx hb hts in_X5_beLocked_5 hown hG hP 0 rfl rfl 4 (by decide) (List.mem_of_getElem? (i := 5) rfl) rfl rfl dX5_beLocked_56 ?_
      refine lv_iload hx hb dX5_beLocked_59 (lv_at hl 1 rfl) ?_
      refine lv_iload_n hx hb dX5_beLocked_61 rfl (lv_at hl 5 rfl) ?_
      refine x_callVi (w := wX cI a) (σ := σ) (σ' := σ) (As := [.int (σ 17 cy.toNatClampNeg), .int mi]) (rest := []) (q0 := 5) ⟨hx, hb, hml, hown, hts⟩ hG hP hS hsz (c_X2_promisedStation l D cI a H.size σ (σ 17 cy.toNatClampNeg) mi (hR h_1)) (cwV 2 hts gX5_beLocked_X2_promisedStation rfl rfl rfl (by decide +kernel) ⟨Nat.le_of_ble_eq_true rfl, Nat.le_of_ble_eq_true rfl⟩) rfl rfl rfl rfl hl.1 rfl (Nat.le_of_ble_eq_true rfl) ⟨Nat.zero_le _, Nat.zero_le _⟩ dX5_beLocked_62 (fun H locs hP hS => ?_)
      refine lv_iload_n hx hb dX5_beLocked_65 rfl (lv_at hl 4 rfl) ?_
      refine lv_icmp_ne (tgt := 73) hx hb dX5_beLocked_66 (by decide) (fun h_3 => ?_) (fun h_3 => ?_)
      · refine lv_iconst (v := 0) hx hb dX5_beLocked_73 (by decide) ?_
        refine lv_istore (lv' := [(6, .int 0), (5, .int 0), (4, .int (σ 17 cy.toNatClampNeg)), (0, .ref (a 0)), (1, .int cy), (2, .int st), (3, .int mi)]) hx hb dX5_beLocked_74 hl (by decide) rfl (fun ls hl => ?_)
        refine lv_iload hx hb dX5_beLocked_76 (lv_at hl 0 rfl) ?_
        refine lv_if_eq (tgt := 92) hx hb dX5_beLocked_78 (by decide) (fun _ => ?_) (fun h => absurd (by decide) h)
        refine lv_iload hx hb dX5_beLocked_92 (lv_at hl 1 rfl) ?_
        refine lv_if_eq (tgt := 111) hx hb dX5_beLocked_94 (by decide) (fun _ => ?_) (fun h => absurd (by decide) h)
        refine lv_aload_n hx hb dX5_beLocked_111 rfl (lv_at hl 3 rfl) ?_
        refine x_get (ci := 5) (C := RX5) (T := TX5) (M := 9) (v := .ref (a 4)) hx hb hts in_X5_beLocked_5 hown hG hP 0 rfl rfl 3 (by decide) (List.mem_of_getElem? (i := 1) rfl) rfl rfl dX5_beLocked_112 ?_
        refine x_get (ci := 0) (C := RX0) (T := TX0) (M := 7) (v := .ref (a 22)) hx hb hts in_X5_beLocked_0 hown hG hP 4 rfl rfl 6 (by decide) (List.mem_of_getElem? (i := 7) rfl) rfl rfl dX5_beLocked_115 ?_
        refine lv_iload_n hx hb dX5_beLocked_118 rfl (lv_at hl 4 rfl) ?_
        refine lv_dup2_11 hx hb dX5_beLocked_119 rfl rfl ?_
        refine x_iald (f := σ 22) hx hb hG hP 22 rfl (by assumption) dX5_beLocked_120 ?_
        refine lv_bipush (v := 10) hx hb dX5_beLocked_121 (by decide) ?_
        refine lv_iadd hx hb dX5_beLocked_123 ?_
        refine x_iast (w := wX cI a) (σ := σ) hx hb hG hP hS 22 rfl (wX_st22 cI a _ _ _) (by assumption) dX5_beLocked_124 (fun H locs hP hS => ?_)
        refine lv_iload hx hb dX5_beLocked_125 (lv_at hl 0 rfl) ?_
        refine lv_if_eq (tgt := 145) hx hb dX5_beLocked_127 (by decide) (fun _ => ?_) (fun h => absurd (by decide) h)
        refine lv_iconst (v := 0) hx hb dX5_beLocked_145 (by decide) ?_
        exact x_iret hx hb hr hlk hsz hP hS rfl (by rw [r_X5_beLocked, if_pos h_1, if_pos h_2, if_neg h_3]) (by rw [s_X5_beLocked, if_pos h_1, if_pos h_2, if_neg h_3]) dX5_beLocked_146
      · refine lv_iconst (v := 1) hx hb dX5_beLocked_69 (by decide) ?_
        refine lv_goto (tgt := 74) hx hb dX5_beLocked_70 (by decide) ?_
        refine lv_istore (lv' := [(6, .int 1), (5, .int 0), (4, .int (σ 17 cy.toNatClampNeg)), (0, .ref (a 0)), (1, .int cy), (2, .int st), (3, .int mi)]) hx hb dX5_beLocked_74 hl (by decide) rfl (fun ls hl => ?_)
        refine lv_iload hx hb dX5_beLocked_76 (lv_at hl 0 rfl) ?_
        refine lv_if_eq (tgt := 92) hx hb dX5_beLocked_78 (by decide) (fun h => absurd h (by decide)) (fun _ => ?_)
        refine lv_aload_n hx hb dX5_beLocked_81 rfl (lv_at hl 3 rfl) ?_
        refine x_get (ci := 5) (C := RX5) (T := TX5) (M := 9) (v := .ref (a 5)) hx hb hts in_X5_beLocked_5 hown hG hP 0 rfl rfl 4 (by decide) (List.mem_of_getElem? (i := 5) rfl) rfl rfl dX5_beLocked_82 ?_
        refine x_get (ci := 2) (C := RX2) (T := TX2) (M := 6) (v := .ref (a 27)) hx hb hts in_X5_beLocked_2 hown hG hP 5 rfl rfl 4 (by decide) (List.mem_of_getElem? (i := 6) rfl) rfl rfl dX5_beLocked_85 ?_
        refine lv_iload hx hb dX5_beLocked_88 (lv_at hl 2 rfl) ?_
        refine lv_iconst (v := (-1)) hx hb dX5_beLocked_90 (by decide) ?_
        refine x_iast (w := wX cI a) (σ := σ) hx hb hG hP hS 27 rfl (wX_st27 cI a _ _ _) (hR h_1) dX5_beLocked_91 (fun H locs hP hS => ?_)
        refine lv_iload hx hb dX5_beLocked_92 (lv_at hl 1 rfl) ?_
        refine lv_if_eq (tgt := 111) hx hb dX5_beLocked_94 (by decide) (fun _ => ?_) (fun h => absurd (by decide) h)
        refine lv_aload_n hx hb dX5_beLocked_111 rfl (lv_at hl 3 rfl) ?_
        refine x_get (ci := 5) (C := RX5) (T := TX5) (M := 9) (v := .ref (a 4)) hx hb hts in_X5_beLocked_5 hown hG hP 0 rfl rfl 3 (by decide) (List.mem_of_getElem? (i := 1) rfl) rfl rfl dX5_beLocked_112 ?_
        refine x_get (ci := 0) (C := RX0) (T := TX0) (M := 7) (v := .ref (a 22)) hx hb hts in_X5_beLocked_0 hown hG hP 4 rfl rfl 6 (by decide) (List.mem_of_getElem? (i := 7) rfl) rfl rfl dX5_beLocked_115 ?_
        refine lv_iload_n hx hb dX5_beLocked_118 rfl (lv_at hl 4 rfl) ?_
        refine lv_dup2_11 hx hb dX5_beLocked_119 rfl rfl ?_
        refine x_iald (f := σ 22) hx hb hG hP 22 rfl (by assumption) dX5_beLocked_120 ?_
        refine lv_bipush (v := 10) hx hb dX5_beLocked_121 (by decide) ?_
        refine lv_iadd hx hb dX5_beLocked_123 ?_
        refine x_iast (w := wX cI a) (σ := sx σ 27 (σ 17 cy.toNatClampNeg).toNatClampNeg (-1)) hx hb hG hP hS 22 rfl (wX_st22 cI a _ _ _) (by assumption) dX5_beLocked_124 (fun H locs hP hS => ?_)
        refine lv_iload hx hb dX5_beLocked_125 (lv_at hl 0 rfl) ?_
        refine lv_if_eq (tgt := 145) hx hb dX5_beLocked_127 (by decide) (fun h => absurd h (by decide)) (fun _ => ?_)
        refine lv_aload_n hx hb dX5_beLocked_130 rfl (lv_at hl 3 rfl) ?_
        refine x_get (ci := 5) (C := RX5) (T := TX5) (M := 9) (v := .ref (a 5)) hx hb hts in_X5_beLocked_5 hown hG hP 0 rfl rfl 4 (by decide) (List.mem_of_getElem? (i := 5) rfl) rfl rfl dX5_beLocked_131 ?_
        refine x_get (ci := 2) (C := RX2) (T := TX2) (M := 6) (v := .ref (a 26)) hx hb hts in_X5_beLocked_2 hown hG hP 5 rfl rfl 3 (by decide) (List.mem_of_getElem? (i := 8) rfl) rfl rfl dX5_beLocked_134 ?_
        refine lv_iload hx hb dX5_beLocked_137 (lv_at hl 2 rfl) ?_
        refine lv_dup2_11 hx hb dX5_beLocked_139 rfl rfl ?_
        refine x_iald (f := σ 26) hx hb hG hP 26 rfl (hR h_1) dX5_beLocked_140 ?_
        refine lv_bipush (v := 100) hx hb dX5_beLocked_141 (by decide) ?_
        refine lv_iadd hx hb dX5_beLocked_143 ?_
        refine x_iast (w := wX cI a) (σ := sx (sx σ 27 (σ 17 cy.toNatClampNeg).toNatClampNeg (-1)) 22 cy.toNatClampNeg ((σ 22 cy.toNatClampNeg) + 10)) hx hb hG hP hS 26 rfl (wX_st26 cI a _ _ _) (hR h_1) dX5_beLocked_144 (fun H locs hP hS => ?_)
        refine lv_iconst (v := 0) hx hb dX5_beLocked_145 (by decide) ?_
        exact x_iret hx hb hr hlk hsz hP hS rfl (by rw [r_X5_beLocked, if_pos h_1, if_pos h_2, if_pos h_3]) (by rw [s_X5_beLocked, if_pos h_1, if_pos h_2, if_pos h_3]) dX5_beLocked_146
    · refine lv_iconst (v := 1) hx hb dX5_beLocked_48 (by decide) ?_
      refine lv_goto (tgt := 53) hx hb dX5_beLocked_49 (by decide) ?_
      refine lv_istore (lv' := [(5, .int 1), (4, .int (σ 17 cy.toNatClampNeg)), (0, .ref (a 0)), (1, .int cy), (2, .int st), (3, .int mi)]) hx hb dX5_beLocked_53 hl (by decide) rfl (fun ls hl => ?_)
      refine lv_aload_n hx hb dX5_beLocked_55 rfl (lv_at hl 2 rfl) ?_
      refine x_get (ci := 5) (C := RX5) (T := TX5) (M := 9) (v := .ref (a 5)) hx hb hts in_X5_beLocked_5 hown hG hP 0 rfl rfl 4 (by decide) (List.mem_of_getElem? (i := 5) rfl) rfl rfl dX5_beLocked_56 ?_
      refine lv_iload hx hb dX5_beLocked_59 (lv_at hl 1 rfl) ?_
      refine lv_iload_n hx hb dX5_beLocked_61 rfl (lv_at hl 5 rfl) ?_
      refine x_callVi (w := wX cI a) (σ := σ) (σ' := σ) (As := [.int (σ 17 cy.toNatClampNeg), .int mi]) (rest := []) (q0 := 5) ⟨hx, hb, hml, hown, hts⟩ hG hP hS hsz (c_X2_promisedStation l D cI a H.size σ (σ 17 cy.toNatClampNeg) mi (hR h_1)) (cwV 2 hts gX5_beLocked_X2_promisedStation rfl rfl rfl (by decide +kernel) ⟨Nat.le_of_ble_eq_true rfl, Nat.le_of_ble_eq_true rfl⟩) rfl rfl rfl rfl hl.1 rfl (Nat.le_of_ble_eq_true rfl) ⟨Nat.zero_le _, Nat.zero_le _⟩ dX5_beLocked_62 (fun H locs hP hS => ?_)
      refine lv_iload_n hx hb dX5_beLocked_65 rfl (lv_at hl 4 rfl) ?_
      refine lv_icmp_ne (tgt := 73) hx hb dX5_beLocked_66 (by decide) (fun h_4 => ?_) (fun h_4 => ?_)
      · refine lv_iconst (v := 0) hx hb dX5_beLocked_73 (by decide) ?_
        refine lv_istore (lv' := [(6, .int 0), (5, .int 1), (4, .int (σ 17 cy.toNatClampNeg)), (0, .ref (a 0)), (1, .int cy), (2, .int st), (3, .int mi)]) hx hb dX5_beLocked_74 hl (by decide) rfl (fun ls hl => ?_)
        refine lv_iload hx hb dX5_beLocked_76 (lv_at hl 0 rfl) ?_
        refine lv_if_eq (tgt := 92) hx hb dX5_beLocked_78 (by decide) (fun _ => ?_) (fun h => absurd (by decide) h)
        refine lv_iload hx hb dX5_beLocked_92 (lv_at hl 1 rfl) ?_
        refine lv_if_eq (tgt := 111) hx hb dX5_beLocked_94 (by decide) (fun h => absurd h (by decide)) (fun _ => ?_)
        refine lv_aload_n hx hb dX5_beLocked_97 rfl (lv_at hl 3 rfl) ?_
        refine lv_iload_n hx hb dX5_beLocked_98 rfl (lv_at hl 4 rfl) ?_
        refine lv_iload_n hx hb dX5_beLocked_99 rfl (lv_at hl 6 rfl) ?_
        refine x_callVv (w := wX cI a) (σ := σ) (σ' := s_X5_endRide σ cy mi) (As := [.int cy, .int mi]) (rest := []) (q0 := 0) ⟨hx, hb, hml, hown, hts⟩ hG hP hS hsz (c_X5_endRide l D cI a H.size σ cy mi (by assumption) (hR h_1)) (cwV 2 hts gX5_beLocked_X5_endRide rfl rfl rfl (by decide +kernel) ⟨Nat.le_of_ble_eq_true rfl, Nat.le_of_ble_eq_true rfl⟩) rfl rfl rfl rfl hl.1 rfl (Nat.le_of_ble_eq_true rfl) ⟨Nat.zero_le _, Nat.zero_le _⟩ dX5_beLocked_100 (fun H locs hP hS => ?_)
        refine lv_aload_n hx hb dX5_beLocked_103 rfl (lv_at hl 3 rfl) ?_
        refine lv_iload_n hx hb dX5_beLocked_104 rfl (lv_at hl 4 rfl) ?_
        refine lv_iload_n hx hb dX5_beLocked_105 rfl (lv_at hl 5 rfl) ?_
        refine x_callVv (w := wX cI a) (σ := s_X5_endRide σ cy mi) (σ' := s_X5_dock (s_X5_endRide σ cy mi) cy st) (As := [.int cy, .int st]) (rest := []) (q0 := 0) ⟨hx, hb, hml, hown, hts⟩ hG hP hS hsz (c_X5_dock l D cI a H.size (s_X5_endRide σ cy mi) cy st (by assumption) (by assumption)) (cwV 2 hts gX5_beLocked_X5_dock rfl rfl rfl (by decide +kernel) ⟨Nat.le_of_ble_eq_true rfl, Nat.le_of_ble_eq_true rfl⟩) rfl rfl rfl rfl hl.1 rfl (Nat.le_of_ble_eq_true rfl) ⟨Nat.zero_le _, Nat.zero_le _⟩ dX5_beLocked_106 (fun H locs hP hS => ?_)
        refine lv_iconst (v := 1) hx hb dX5_beLocked_109 (by decide) ?_
        exact x_iret hx hb hr hlk hsz hP hS rfl (by rw [r_X5_beLocked, if_pos h_1, if_neg h_2, if_neg h_4]) (by rw [s_X5_beLocked, if_pos h_1, if_neg h_2, if_neg h_4]) dX5_beLocked_110
      · refine lv_iconst (v := 1) hx hb dX5_beLocked_69 (by decide) ?_
        refine lv_goto (tgt := 74) hx hb dX5_beLocked_70 (by decide) ?_
        refine lv_istore (lv' := [(6, .int 1), (5, .int 1), (4, .int (σ 17 cy.toNatClampNeg)), (0, .ref (a 0)), (1, .int cy), (2, .int st), (3, .int mi)]) hx hb dX5_beLocked_74 hl (by decide) rfl (fun ls hl => ?_)
        refine lv_iload hx hb dX5_beLocked_76 (lv_at hl 0 rfl) ?_
        refine lv_if_eq (tgt := 92) hx hb dX5_beLocked_78 (by decide) (fun h => absurd h (by decide)) (fun _ => ?_)
        refine lv_aload_n hx hb dX5_beLocked_81 rfl (lv_at hl 3 rfl) ?_
        refine x_get (ci := 5) (C := RX5) (T := TX5) (M := 9) (v := .ref (a 5)) hx hb hts in_X5_beLocked_5 hown hG hP 0 rfl rfl 4 (by decide) (List.mem_of_getElem? (i := 5) rfl) rfl rfl dX5_beLocked_82 ?_
        refine x_get (ci := 2) (C := RX2) (T := TX2) (M := 6) (v := .ref (a 27)) hx hb hts in_X5_beLocked_2 hown hG hP 5 rfl rfl 4 (by decide) (List.mem_of_getElem? (i := 6) rfl) rfl rfl dX5_beLocked_85 ?_
        refine lv_iload hx hb dX5_beLocked_88 (lv_at hl 2 rfl) ?_
        refine lv_iconst (v := (-1)) hx hb dX5_beLocked_90 (by decide) ?_
        refine x_iast (w := wX cI a) (σ := σ) hx hb hG hP hS 27 rfl (wX_st27 cI a _ _ _) (hR h_1) dX5_beLocked_91 (fun H locs hP hS => ?_)
        refine lv_iload hx hb dX5_beLocked_92 (lv_at hl 1 rfl) ?_
        refine lv_if_eq (tgt := 111) hx hb dX5_beLocked_94 (by decide) (fun h => absurd h (by decide)) (fun _ => ?_)
        refine lv_aload_n hx hb dX5_beLocked_97 rfl (lv_at hl 3 rfl) ?_
        refine lv_iload_n hx hb dX5_beLocked_98 rfl (lv_at hl 4 rfl) ?_
        refine lv_iload_n hx hb dX5_beLocked_99 rfl (lv_at hl 6 rfl) ?_
        refine x_callVv (w := wX cI a) (σ := sx σ 27 (σ 17 cy.toNatClampNeg).toNatClampNeg (-1)) (σ' := s_X5_endRide (sx σ 27 (σ 17 cy.toNatClampNeg).toNatClampNeg (-1)) cy mi) (As := [.int cy, .int mi]) (rest := []) (q0 := 0) ⟨hx, hb, hml, hown, hts⟩ hG hP hS hsz (c_X5_endRide l D cI a H.size (sx σ 27 (σ 17 cy.toNatClampNeg).toNatClampNeg (-1)) cy mi (by assumption) (hR h_1)) (cwV 2 hts gX5_beLocked_X5_endRide rfl rfl rfl (by decide +kernel) ⟨Nat.le_of_ble_eq_true rfl, Nat.le_of_ble_eq_true rfl⟩) rfl rfl rfl rfl hl.1 rfl (Nat.le_of_ble_eq_true rfl) ⟨Nat.zero_le _, Nat.zero_le _⟩ dX5_beLocked_100 (fun H locs hP hS => ?_)
        refine lv_aload_n hx hb dX5_beLocked_103 rfl (lv_at hl 3 rfl) ?_
        refine lv_iload_n hx hb dX5_beLocked_104 rfl (lv_at hl 4 rfl) ?_
        refine lv_iload_n hx hb dX5_beLocked_105 rfl (lv_at hl 5 rfl) ?_
        refine x_callVv (w := wX cI a) (σ := s_X5_endRide (sx σ 27 (σ 17 cy.toNatClampNeg).toNatClampNeg (-1)) cy mi) (σ' := s_X5_dock (s_X5_endRide (sx σ 27 (σ 17 cy.toNatClampNeg).toNatClampNeg (-1)) cy mi) cy st) (As := [.int cy, .int st]) (rest := []) (q0 := 0) ⟨hx, hb, hml, hown, hts⟩ hG hP hS hsz (c_X5_dock l D cI a H.size (s_X5_endRide (sx σ 27 (σ 17 cy.toNatClampNeg).toNatClampNeg (-1)) cy mi) cy st (by assumption) (by assumption)) (cwV 2 hts gX5_beLocked_X5_dock rfl rfl rfl (by decide +kernel) ⟨Nat.le_of_ble_eq_true rfl, Nat.le_of_ble_eq_true rfl⟩) rfl rfl rfl rfl hl.1 rfl (Nat.le_of_ble_eq_true rfl) ⟨Nat.zero_le _, Nat.zero_le _⟩ dX5_beLocked_106 (fun H locs hP hS => ?_)
        refine lv_iconst (v := 1) hx hb dX5_beLocked_109 (by decide) ?_
        exact x_iret hx hb hr hlk hsz hP hS rfl (by rw [r_X5_beLocked, if_pos h_1, if_neg h_2, if_pos h_4]) (by rw [s_X5_beLocked, if_pos h_1, if_neg h_2, if_pos h_4]) dX5_beLocked_110
  · refine lv_iconst (v := 0) hx hb dX5_beLocked_13 (by decide) ?_
    exact x_iret hx hb hr hlk hsz hP hS rfl (by rw [r_X5_beLocked, if_neg h_1]) (by rw [s_X5_beLocked, if_neg h_1]) dX5_beLocked_14
theorem in_X5_beMended_0 : ∀ wd ∈ u_ws RX0 TX0 7, wd ∈ wsX5_beMended := by decide +kernel
theorem in_X5_beMended_5 : ∀ wd ∈ u_ws RX5 TX5 9, wd ∈ wsX5_beMended := by decide +kernel
def r_X5_beMended (σ : Sg) (cy : Int32) : Int32 :=
  if σ 16 cy.toNatClampNeg = 2 then
    0
  else
    1
def s_X5_beMended (σ : Sg) (cy : Int32) : Sg :=
  if σ 16 cy.toNatClampNeg = 2 then
    σ
  else
    sx σ 18 cy.toNatClampNeg 0
theorem b_X5_beMended (σ : Sg) (cy : Int32) : r_X5_beMended σ cy = 0 ∨ r_X5_beMended σ cy = 1 := by
  unfold r_X5_beMended
  repeat' split
  all_goals first | with_reducible exact Or.inl rfl | with_reducible exact Or.inr rfl
set_option maxHeartbeats 4000000 in
set_option maxRecDepth 100000 in
theorem c_X5_beMended (l : Launch) (D : va_G) (cI : ClassId) (a : Nat → Nat) (sz : Nat) (σ : Sg) (cy : Int32) (hc : vp_in cy 30) : Met l yX5_beMended wsX5_beMended ({ frames := 0, cells := 0, slots := 0, locals := 0 }) (PcW D cI 29 a (wX cI a) sz σ [.ref (a 0), .int cy]) (QiW D 29 a (wX cI a) sz (r_X5_beMended σ cy) (s_X5_beMended σ cy)) 0 0 (AX 29 a sz) := by
  refine x_of (cc := cX5_beMended) (maxL := 2) (ret := some .boolean) (C := RX5) rfl (by decide) rfl (Nat.le_of_ble_eq_true rfl) (fun p e s m below meth c hx hb hr hml hlk hts hown hsz H hP hS hG ls hl => ?_)
  have hl : lv_has ls 2 [(0, .ref (a 0)), (1, .int cy)] := hl
  refine lv_aload_n hx hb dX5_beMended_0 rfl (lv_at hl 0 rfl) ?_
  refine x_get (ci := 5) (C := RX5) (T := TX5) (M := 9) (v := .ref (a 4)) hx hb hts in_X5_beMended_5 hown hG hP 0 rfl rfl 3 (by decide) (List.mem_of_getElem? (i := 1) rfl) rfl rfl dX5_beMended_1 ?_
  refine x_get (ci := 0) (C := RX0) (T := TX0) (M := 7) (v := .ref (a 16)) hx hb hts in_X5_beMended_0 hown hG hP 4 rfl rfl 0 (by decide) (List.mem_of_getElem? (i := 2) rfl) rfl rfl dX5_beMended_4 ?_
  refine lv_iload_n hx hb dX5_beMended_7 rfl (lv_at hl 1 rfl) ?_
  refine x_iald (f := σ 16) hx hb hG hP 16 rfl (by assumption) dX5_beMended_8 ?_
  refine lv_iconst (v := 2) hx hb dX5_beMended_9 (by decide) ?_
  refine lv_icmp_ne (tgt := 15) hx hb dX5_beMended_10 (by decide) (fun h_1 => ?_) (fun h_1 => ?_)
  · refine lv_aload_n hx hb dX5_beMended_15 rfl (lv_at hl 0 rfl) ?_
    refine x_get (ci := 5) (C := RX5) (T := TX5) (M := 9) (v := .ref (a 4)) hx hb hts in_X5_beMended_5 hown hG hP 0 rfl rfl 3 (by decide) (List.mem_of_getElem? (i := 1) rfl) rfl rfl dX5_beMended_16 ?_
    refine x_get (ci := 0) (C := RX0) (T := TX0) (M := 7) (v := .ref (a 18)) hx hb hts in_X5_beMended_0 hown hG hP 4 rfl rfl 2 (by decide) (List.mem_of_getElem? (i := 3) rfl) rfl rfl dX5_beMended_19 ?_
    refine lv_iload_n hx hb dX5_beMended_22 rfl (lv_at hl 1 rfl) ?_
    refine lv_iconst (v := 0) hx hb dX5_beMended_23 (by decide) ?_
    refine x_iast (w := wX cI a) (σ := σ) hx hb hG hP hS 18 rfl (wX_st18 cI a _ _ _) (by assumption) dX5_beMended_24 (fun H locs hP hS => ?_)
    refine lv_iconst (v := 1) hx hb dX5_beMended_25 (by decide) ?_
    exact x_iret hx hb hr hlk hsz hP hS rfl (by rw [r_X5_beMended, if_neg h_1]) (by rw [s_X5_beMended, if_neg h_1]) dX5_beMended_26
  · refine lv_iconst (v := 0) hx hb dX5_beMended_13 (by decide) ?_
    exact x_iret hx hb hr hlk hsz hP hS rfl (by rw [r_X5_beMended, if_pos h_1]) (by rw [s_X5_beMended, if_pos h_1]) dX5_beMended_14
theorem in_X5_bePromised_2 : ∀ wd ∈ u_ws RX2 TX2 6, wd ∈ wsX5_bePromised := by decide +kernel
theorem in_X5_bePromised_5 : ∀ wd ∈ u_ws RX5 TX5 9, wd ∈ wsX5_bePromised := by decide +kernel
def r_X5_bePromised (σ : Sg) (ri : Int32) (st : Int32) (mi : Int32) : Int32 :=
  if r_X2_promisesAt σ st (-1) mi < r_X3_freePlaces σ st then
    1
  else
    0
def s_X5_bePromised (σ : Sg) (ri : Int32) (st : Int32) (mi : Int32) : Sg :=
  if r_X2_promisesAt σ st (-1) mi < r_X3_freePlaces σ st then
    sx (sx σ 27 ri.toNatClampNeg st) 28 ri.toNatClampNeg mi
  else
    σ
theorem b_X5_bePromised (σ : Sg) (ri : Int32) (st : Int32) (mi : Int32) : r_X5_bePromised σ ri st mi = 0 ∨ r_X5_bePromised σ ri st mi = 1 := by
  unfold r_X5_bePromised
  repeat' split
  all_goals first | with_reducible exact Or.inl rfl | with_reducible exact Or.inr rfl
set_option maxHeartbeats 4000000 in
set_option maxRecDepth 100000 in
theorem c_X5_bePromised (l : Launch) (D : va_G) (cI : ClassId) (a : Nat → Nat) (sz : Nat) (σ : Sg) (ri : Int32) (st : Int32) (mi : Int32) (hr1 : vp_in ri 10) (hs : vp_in st 8) : Met l yX5_bePromised wsX5_bePromised ({ frames := 2, cells := 0, slots := 0, locals := 47 }) (PcW D cI 29 a (wX cI a) sz σ [.ref (a 0), .int ri, .int st, .int mi]) (QiW D 29 a (wX cI a) sz (r_X5_bePromised σ ri st mi) (s_X5_bePromised σ ri st mi)) 0 0 (AX 29 a sz) := by
  refine x_of (cc := cX5_bePromised) (maxL := 4) (ret := some .boolean) (C := RX5) rfl (by decide) rfl (Nat.le_of_ble_eq_true rfl) (fun p e s m below meth c hx hb hr hml hlk hts hown hsz H hP hS hG ls hl => ?_)
  have hl : lv_has ls 4 [(0, .ref (a 0)), (1, .int ri), (2, .int st), (3, .int mi)] := hl
  refine lv_aload_n hx hb dX5_bePromised_0 rfl (lv_at hl 0 rfl) ?_
  refine x_get (ci := 5) (C := RX5) (T := TX5) (M := 9) (v := .ref (a 3)) hx hb hts in_X5_bePromised_5 hown hG hP 0 rfl rfl 2 (by decide) (List.mem_of_getElem? (i := 1) rfl) rfl rfl dX5_bePromised_1 ?_
  refine lv_iload_n hx hb dX5_bePromised_4 rfl (lv_at hl 2 rfl) ?_
  refine x_callVi (w := wX cI a) (σ := σ) (σ' := σ) (As := [.int st]) (rest := []) (q0 := 3) ⟨hx, hb, hml, hown, hts⟩ hG hP hS hsz (c_X3_freePlaces l D cI a H.size σ st (by assumption)) (cwV 1 hts gX5_bePromised_X3_freePlaces rfl rfl rfl (by decide +kernel) ⟨Nat.le_of_ble_eq_true rfl, Nat.le_of_ble_eq_true rfl⟩) rfl rfl rfl rfl hl.1 rfl (Nat.le_of_ble_eq_true rfl) ⟨Nat.zero_le _, Nat.zero_le _⟩ dX5_bePromised_5 (fun H locs hP hS => ?_)
  refine lv_aload_n hx hb dX5_bePromised_8 rfl (lv_at hl 0 rfl) ?_
  refine x_get (ci := 5) (C := RX5) (T := TX5) (M := 9) (v := .ref (a 5)) hx hb hts in_X5_bePromised_5 hown hG hP 0 rfl rfl 4 (by decide) (List.mem_of_getElem? (i := 2) rfl) rfl rfl dX5_bePromised_9 ?_
  refine lv_iload_n hx hb dX5_bePromised_12 rfl (lv_at hl 2 rfl) ?_
  refine lv_iconst (v := (-1)) hx hb dX5_bePromised_13 (by decide) ?_
  refine lv_iload_n hx hb dX5_bePromised_14 rfl (lv_at hl 3 rfl) ?_
  refine x_callVi (w := wX cI a) (σ := σ) (σ' := σ) (As := [.int st, .int (-1), .int mi]) (rest := [.int (r_X3_freePlaces σ st)]) (q0 := 5) ⟨hx, hb, hml, hown, hts⟩ hG hP hS hsz (c_X2_promisesAt l D cI a H.size σ st (-1) mi) (cwV 3 hts gX5_bePromised_X2_promisesAt rfl rfl rfl (by decide +kernel) ⟨Nat.le_of_ble_eq_true rfl, Nat.le_of_ble_eq_true rfl⟩) rfl rfl rfl rfl hl.1 rfl (Nat.le_of_ble_eq_true rfl) ⟨Nat.zero_le _, Nat.zero_le _⟩ dX5_bePromised_15 (fun H locs hP hS => ?_)
  refine lv_icmp_gt (tgt := 23) hx hb dX5_bePromised_18 (by decide) (fun h_1 => ?_) (fun h_1 => ?_)
  · refine lv_aload_n hx hb dX5_bePromised_23 rfl (lv_at hl 0 rfl) ?_
    refine x_get (ci := 5) (C := RX5) (T := TX5) (M := 9) (v := .ref (a 5)) hx hb hts in_X5_bePromised_5 hown hG hP 0 rfl rfl 4 (by decide) (List.mem_of_getElem? (i := 2) rfl) rfl rfl dX5_bePromised_24 ?_
    refine x_get (ci := 2) (C := RX2) (T := TX2) (M := 6) (v := .ref (a 27)) hx hb hts in_X5_bePromised_2 hown hG hP 5 rfl rfl 4 (by decide) (List.mem_of_getElem? (i := 3) rfl) rfl rfl dX5_bePromised_27 ?_
    refine lv_iload_n hx hb dX5_bePromised_30 rfl (lv_at hl 1 rfl) ?_
    refine lv_iload_n hx hb dX5_bePromised_31 rfl (lv_at hl 2 rfl) ?_
    refine x_iast (w := wX cI a) (σ := σ) hx hb hG hP hS 27 rfl (wX_st27 cI a _ _ _) (by assumption) dX5_bePromised_32 (fun H locs hP hS => ?_)
    refine lv_aload_n hx hb dX5_bePromised_33 rfl (lv_at hl 0 rfl) ?_
    refine x_get (ci := 5) (C := RX5) (T := TX5) (M := 9) (v := .ref (a 5)) hx hb hts in_X5_bePromised_5 hown hG hP 0 rfl rfl 4 (by decide) (List.mem_of_getElem? (i := 2) rfl) rfl rfl dX5_bePromised_34 ?_
    refine x_get (ci := 2) (C := RX2) (T := TX2) (M := 6) (v := .ref (a 28)) hx hb hts in_X5_bePromised_2 hown hG hP 5 rfl rfl 5 (by decide) (List.mem_of_getElem? (i := 4) rfl) rfl rfl dX5_bePromised_37 ?_
    refine lv_iload_n hx hb dX5_bePromised_40 rfl (lv_at hl 1 rfl) ?_
    refine lv_iload_n hx hb dX5_bePromised_41 rfl (lv_at hl 3 rfl) ?_
    refine x_iast (w := wX cI a) (σ := sx σ 27 ri.toNatClampNeg st) hx hb hG hP hS 28 rfl (wX_st28 cI a _ _ _) (by assumption) dX5_bePromised_42 (fun H locs hP hS => ?_)
    refine lv_iconst (v := 1) hx hb dX5_bePromised_43 (by decide) ?_
    exact x_iret hx hb hr hlk hsz hP hS rfl (by rw [r_X5_bePromised, if_pos h_1]) (by rw [s_X5_bePromised, if_pos h_1]) dX5_bePromised_44
  · refine lv_iconst (v := 0) hx hb dX5_bePromised_21 (by decide) ?_
    exact x_iret hx hb hr hlk hsz hP hS rfl (by rw [r_X5_bePromised, if_neg h_1]) (by rw [s_X5_bePromised, if_neg h_1]) dX5_bePromised_22
theorem in_X5_beginAnew_5 : ∀ wd ∈ u_ws RX5 TX5 9, wd ∈ wsX5_beginAnew := by decide +kernel
def s_X5_beginAnew (σ : Sg) : Sg :=
  s_X2_clear (s_X0_clear (s_X3_clear (sx (sx (sx σ 0 6 0) 0 7 0) 0 8 1)))
set_option maxHeartbeats 4000000 in
set_option maxRecDepth 100000 in
theorem c_X5_beginAnew (l : Launch) (D : va_G) (cI : ClassId) (a : Nat → Nat) (sz : Nat) (σ : Sg) : Met l yX5_beginAnew wsX5_beginAnew ({ frames := 2, cells := 0, slots := 0, locals := 43 }) (PcW D cI 29 a (wX cI a) sz σ [.ref (a 0)]) (QvW D 29 a (wX cI a) sz (s_X5_beginAnew σ)) 0 0 (AX 29 a sz) := by
  refine x_of (cc := cX5_beginAnew) (maxL := 1) (ret := none) (C := RX5) rfl (by decide) rfl (Nat.le_of_ble_eq_true rfl) (fun p e s m below meth c hx hb hr hml hlk hts hown hsz H hP hS hG ls hl => ?_)
  have hl : lv_has ls 1 [(0, .ref (a 0))] := hl
  refine lv_aload_n hx hb dX5_beginAnew_0 rfl (lv_at hl 0 rfl) ?_
  refine lv_iconst (v := 0) hx hb dX5_beginAnew_1 (by decide) ?_
  refine x_put (w := wX cI a) (σ := σ) (ci := 5) (C := RX5) (T := TX5) (M := 9) hx hb hts in_X5_beginAnew_5 tyX5 tyX5_ok nmX5 hown hG hP hS 0 rfl rfl 6 (by decide) (List.mem_of_getElem? (i := 1) rfl) rfl rfl rfl (Nat.le_of_ble_eq_true rfl) (wX_pt0_6 cI a _ _) dX5_beginAnew_2 (fun H locs hP hS => ?_)
  refine lv_aload_n hx hb dX5_beginAnew_5 rfl (lv_at hl 0 rfl) ?_
  refine lv_iconst (v := 0) hx hb dX5_beginAnew_6 (by decide) ?_
  refine x_put (w := wX cI a) (σ := sx σ 0 6 0) (ci := 5) (C := RX5) (T := TX5) (M := 9) hx hb hts in_X5_beginAnew_5 tyX5 tyX5_ok nmX5 hown hG hP hS 0 rfl rfl 7 (by decide) (List.mem_of_getElem? (i := 2) rfl) rfl rfl rfl (Nat.le_of_ble_eq_true rfl) (wX_pt0_7 cI a _ _) dX5_beginAnew_7 (fun H locs hP hS => ?_)
  refine lv_aload_n hx hb dX5_beginAnew_10 rfl (lv_at hl 0 rfl) ?_
  refine lv_iconst (v := 1) hx hb dX5_beginAnew_11 (by decide) ?_
  refine x_put (w := wX cI a) (σ := sx (sx σ 0 6 0) 0 7 0) (ci := 5) (C := RX5) (T := TX5) (M := 9) hx hb hts in_X5_beginAnew_5 tyX5 tyX5_ok nmX5 hown hG hP hS 0 rfl rfl 8 (by decide) (List.mem_of_getElem? (i := 3) rfl) rfl rfl rfl (Nat.le_of_ble_eq_true rfl) (wX_pt0_8 cI a _ _) dX5_beginAnew_12 (fun H locs hP hS => ?_)
  refine lv_aload_n hx hb dX5_beginAnew_15 rfl (lv_at hl 0 rfl) ?_
  refine x_get (ci := 5) (C := RX5) (T := TX5) (M := 9) (v := .ref (a 3)) hx hb hts in_X5_beginAnew_5 hown hG hP 0 rfl rfl 2 (by decide) (List.mem_of_getElem? (i := 4) rfl) rfl rfl dX5_beginAnew_16 ?_
  refine x_callVv (w := wX cI a) (σ := sx (sx (sx σ 0 6 0) 0 7 0) 0 8 1) (σ' := s_X3_clear (sx (sx (sx σ 0 6 0) 0 7 0) 0 8 1)) (As := []) (rest := []) (q0 := 3) ⟨hx, hb, hml, hown, hts⟩ hG hP hS hsz (c_X3_clear l D cI a H.size (sx (sx (sx σ 0 6 0) 0 7 0) 0 8 1) ) (cwV 0 hts gX5_beginAnew_X3_clear rfl rfl rfl (by decide +kernel) ⟨Nat.le_of_ble_eq_true rfl, Nat.le_of_ble_eq_true rfl⟩) rfl rfl rfl rfl hl.1 rfl (Nat.le_of_ble_eq_true rfl) ⟨Nat.zero_le _, Nat.zero_le _⟩ dX5_beginAnew_19 (fun H locs hP hS => ?_)
  refine lv_aload_n hx hb dX5_beginAnew_22 rfl (lv_at hl 0 rfl) ?_
  refine x_get (ci := 5) (C := RX5) (T := TX5) (M := 9) (v := .ref (a 4)) hx hb hts in_X5_beginAnew_5 hown hG hP 0 rfl rfl 3 (by decide) (List.mem_of_getElem? (i := 5) rfl) rfl rfl dX5_beginAnew_23 ?_
  refine x_callVv (w := wX cI a) (σ := s_X3_clear (sx (sx (sx σ 0 6 0) 0 7 0) 0 8 1)) (σ' := s_X0_clear (s_X3_clear (sx (sx (sx σ 0 6 0) 0 7 0) 0 8 1))) (As := []) (rest := []) (q0 := 4) ⟨hx, hb, hml, hown, hts⟩ hG hP hS hsz (c_X0_clear l D cI a H.size (s_X3_clear (sx (sx (sx σ 0 6 0) 0 7 0) 0 8 1)) ) (cwV 0 hts gX5_beginAnew_X0_clear rfl rfl rfl (by decide +kernel) ⟨Nat.le_of_ble_eq_true rfl, Nat.le_of_ble_eq_true rfl⟩) rfl rfl rfl rfl hl.1 rfl (Nat.le_of_ble_eq_true rfl) ⟨Nat.zero_le _, Nat.zero_le _⟩ dX5_beginAnew_26 (fun H locs hP hS => ?_)
  refine lv_aload_n hx hb dX5_beginAnew_29 rfl (lv_at hl 0 rfl) ?_
  refine x_get (ci := 5) (C := RX5) (T := TX5) (M := 9) (v := .ref (a 5)) hx hb hts in_X5_beginAnew_5 hown hG hP 0 rfl rfl 4 (by decide) (List.mem_of_getElem? (i := 6) rfl) rfl rfl dX5_beginAnew_30 ?_
  refine x_callVv (w := wX cI a) (σ := s_X0_clear (s_X3_clear (sx (sx (sx σ 0 6 0) 0 7 0) 0 8 1))) (σ' := s_X2_clear (s_X0_clear (s_X3_clear (sx (sx (sx σ 0 6 0) 0 7 0) 0 8 1)))) (As := []) (rest := []) (q0 := 5) ⟨hx, hb, hml, hown, hts⟩ hG hP hS hsz (c_X2_clear l D cI a H.size (s_X0_clear (s_X3_clear (sx (sx (sx σ 0 6 0) 0 7 0) 0 8 1))) ) (cwV 0 hts gX5_beginAnew_X2_clear rfl rfl rfl (by decide +kernel) ⟨Nat.le_of_ble_eq_true rfl, Nat.le_of_ble_eq_true rfl⟩) rfl rfl rfl rfl hl.1 rfl (Nat.le_of_ble_eq_true rfl) ⟨Nat.zero_le _, Nat.zero_le _⟩ dX5_beginAnew_33 (fun H locs hP hS => ?_)
  exact x_vret hx hb hr hlk hsz hP hS (by rw [s_X5_beginAnew]) dX5_beginAnew_36
