theorem in_X6_thrown_6 : ∀ wd ∈ u_ws RX6 TX6 29, wd ∈ wsX6_thrown := by decide +kernel
def r_X6_thrown (σ : Sg) : Int32 :=
  σ 0 0
set_option maxHeartbeats 4000000 in
set_option maxRecDepth 100000 in
theorem c_X6_thrown (l : Launch) (D : va_G) (cI : ClassId) (a : Nat → Nat) (sz : Nat) (σ : Sg) : Met l yX6_thrown wsX6_thrown ({ frames := 0, cells := 0, slots := 0, locals := 0 }) (PcW D cI 24 a (wM cI a) sz σ [.ref (a 0)]) (QiW D 24 a (wM cI a) sz (r_X6_thrown σ) σ) 0 0 (AX 24 a sz) := by
  refine x_of (cc := cX6_thrown) (maxL := 1) (ret := some .int) (C := RX6) rfl (by decide) rfl (Nat.le_of_ble_eq_true rfl) (fun p e s m below meth c hx hb hr hml hlk hts hown hsz H hP hS hG ls hl => ?_)
  have hl : lv_has ls 1 [(0, .ref (a 0))] := hl
  refine lv_aload_n hx hb dX6_thrown_0 rfl (lv_at hl 0 rfl) ?_
  refine x_get (ci := 6) (C := RX6) (T := TX6) (M := 29) (v := .int (σ 0 0)) hx hb hts in_X6_thrown_6 hown hG hP 0 rfl rfl 0 (by decide) (List.mem_of_getElem? (i := 1) rfl) rfl rfl dX6_thrown_1 ?_
  exact x_iret hx hb hr hlk hsz hP hS rfl (by rw [r_X6_thrown]) rfl dX6_thrown_4
theorem in_X6_goesWell_6 : ∀ wd ∈ u_ws RX6 TX6 29, wd ∈ wsX6_goesWell := by decide +kernel
def r_X6_goesWell (σ : Sg) (pl : Int32) : Int32 :=
  if pl = 0 then
    1
  else
    0
def s_X6_goesWell (σ : Sg) (pl : Int32) : Sg :=
  if pl = 0 then
    sx σ 0 0 pl
  else
    sx σ 0 0 pl
theorem b_X6_goesWell (σ : Sg) (pl : Int32) : r_X6_goesWell σ pl = 0 ∨ r_X6_goesWell σ pl = 1 := by
  unfold r_X6_goesWell
  repeat' split
  all_goals first | with_reducible exact Or.inl rfl | with_reducible exact Or.inr rfl
set_option maxHeartbeats 4000000 in
set_option maxRecDepth 100000 in
theorem c_X6_goesWell (l : Launch) (D : va_G) (cI : ClassId) (a : Nat → Nat) (sz : Nat) (σ : Sg) (pl : Int32) : Met l yX6_goesWell wsX6_goesWell ({ frames := 0, cells := 0, slots := 0, locals := 0 }) (PcW D cI 24 a (wM cI a) sz σ [.ref (a 0), .int pl]) (QiW D 24 a (wM cI a) sz (r_X6_goesWell σ pl) (s_X6_goesWell σ pl)) 0 0 (AX 24 a sz) := by
  refine x_of (cc := cX6_goesWell) (maxL := 2) (ret := some .boolean) (C := RX6) rfl (by decide) rfl (Nat.le_of_ble_eq_true rfl) (fun p e s m below meth c hx hb hr hml hlk hts hown hsz H hP hS hG ls hl => ?_)
  have hl : lv_has ls 2 [(0, .ref (a 0)), (1, .int pl)] := hl
  refine lv_aload_n hx hb dX6_goesWell_0 rfl (lv_at hl 0 rfl) ?_
  refine lv_iload_n hx hb dX6_goesWell_1 rfl (lv_at hl 1 rfl) ?_
  refine x_put (w := wM cI a) (σ := σ) (ci := 6) (C := RX6) (T := TX6) (M := 29) hx hb hts in_X6_goesWell_6 tyX6 tyX6_ok nmX6 hown hG hP hS 0 rfl rfl 0 (by decide) (List.mem_of_getElem? (i := 1) rfl) rfl rfl rfl (Nat.le_of_ble_eq_true rfl) (wM_pt0_0 cI a _ _) dX6_goesWell_2 (fun H locs hP hS => ?_)
  refine lv_iload_n hx hb dX6_goesWell_5 rfl (lv_at hl 1 rfl) ?_
  refine lv_if_ne (tgt := 13) hx hb dX6_goesWell_6 (by decide) (fun h_1 => ?_) (fun h_1 => ?_)
  · refine lv_iconst (v := 0) hx hb dX6_goesWell_13 (by decide) ?_
    exact x_iret hx hb hr hlk hsz hP hS rfl (by rw [r_X6_goesWell, if_neg h_1]) (by rw [s_X6_goesWell, if_neg h_1]) dX6_goesWell_14
  · refine lv_iconst (v := 1) hx hb dX6_goesWell_9 (by decide) ?_
    refine lv_goto (tgt := 14) hx hb dX6_goesWell_10 (by decide) ?_
    exact x_iret hx hb hr hlk hsz hP hS rfl (by rw [r_X6_goesWell, if_pos h_1]) (by rw [s_X6_goesWell, if_pos h_1]) dX6_goesWell_14
def r_X6_in (σ : Sg) (v : Int32) (lo : Int32) (hi : Int32) : Int32 :=
  if v < lo then
    0
  else
    if hi < v then
      0
    else
      1
theorem b_X6_in (σ : Sg) (v : Int32) (lo : Int32) (hi : Int32) : r_X6_in σ v lo hi = 0 ∨ r_X6_in σ v lo hi = 1 := by
  unfold r_X6_in
  repeat' split
  all_goals first | with_reducible exact Or.inl rfl | with_reducible exact Or.inr rfl
set_option maxHeartbeats 4000000 in
set_option maxRecDepth 100000 in
theorem c_X6_in (l : Launch) (D : va_G) (cI : ClassId) (a : Nat → Nat) (sz : Nat) (σ : Sg) (v : Int32) (lo : Int32) (hi : Int32) : Met l yX6_in wsX6_in ({ frames := 0, cells := 0, slots := 0, locals := 0 }) (PcW D cI 24 a (wM cI a) sz σ [.int v, .int lo, .int hi]) (QiW D 24 a (wM cI a) sz (r_X6_in σ v lo hi) σ) 0 0 (AX 24 a sz) := by
  refine x_of (cc := cX6_in) (maxL := 3) (ret := some .boolean) (C := RX6) rfl (by decide) rfl (Nat.le_of_ble_eq_true rfl) (fun p e s m below meth c hx hb hr hml hlk hts hown hsz H hP hS hG ls hl => ?_)
  have hl : lv_has ls 3 [(0, .int v), (1, .int lo), (2, .int hi)] := hl
  refine lv_iload_n hx hb dX6_in_0 rfl (lv_at hl 0 rfl) ?_
  refine lv_iload_n hx hb dX6_in_1 rfl (lv_at hl 1 rfl) ?_
  refine lv_icmp_lt (tgt := 14) hx hb dX6_in_2 (by decide) (fun h_1 => ?_) (fun h_1 => ?_)
  · refine lv_iconst (v := 0) hx hb dX6_in_14 (by decide) ?_
    exact x_iret hx hb hr hlk hsz hP hS rfl (by rw [r_X6_in, if_pos h_1]) rfl dX6_in_15
  · refine lv_iload_n hx hb dX6_in_5 rfl (lv_at hl 0 rfl) ?_
    refine lv_iload_n hx hb dX6_in_6 rfl (lv_at hl 2 rfl) ?_
    refine lv_icmp_gt (tgt := 14) hx hb dX6_in_7 (by decide) (fun h_2 => ?_) (fun h_2 => ?_)
    · refine lv_iconst (v := 0) hx hb dX6_in_14 (by decide) ?_
      exact x_iret hx hb hr hlk hsz hP hS rfl (by rw [r_X6_in, if_neg h_1, if_pos h_2]) rfl dX6_in_15
    · refine lv_iconst (v := 1) hx hb dX6_in_10 (by decide) ?_
      refine lv_goto (tgt := 15) hx hb dX6_in_11 (by decide) ?_
      exact x_iret hx hb hr hlk hsz hP hS rfl (by rw [r_X6_in, if_neg h_1, if_neg h_2]) rfl dX6_in_15
def r_X6_isStation (σ : Sg) (st : Int32) : Int32 :=
  r_X6_in σ st 0 7
theorem b_X6_isStation (σ : Sg) (st : Int32) : r_X6_isStation σ st = 0 ∨ r_X6_isStation σ st = 1 := by
  unfold r_X6_isStation
  repeat' split
  all_goals first | with_reducible exact Or.inl rfl | with_reducible exact Or.inr rfl | with_reducible exact b_X6_in _ _ _ _
set_option maxHeartbeats 4000000 in
set_option maxRecDepth 100000 in
theorem c_X6_isStation (l : Launch) (D : va_G) (cI : ClassId) (a : Nat → Nat) (sz : Nat) (σ : Sg) (st : Int32) : Met l yX6_isStation wsX6_isStation ({ frames := 1, cells := 0, slots := 0, locals := 22 }) (PcW D cI 24 a (wM cI a) sz σ [.int st]) (QiW D 24 a (wM cI a) sz (r_X6_isStation σ st) σ) 0 0 (AX 24 a sz) := by
  refine x_of (cc := cX6_isStation) (maxL := 1) (ret := some .boolean) (C := RX6) rfl (by decide) rfl (Nat.le_of_ble_eq_true rfl) (fun p e s m below meth c hx hb hr hml hlk hts hown hsz H hP hS hG ls hl => ?_)
  have hl : lv_has ls 1 [(0, .int st)] := hl
  refine lv_iload_n hx hb dX6_isStation_0 rfl (lv_at hl 0 rfl) ?_
  refine lv_iconst (v := 0) hx hb dX6_isStation_1 (by decide) ?_
  refine lv_bipush (v := 7) hx hb dX6_isStation_2 (by decide) ?_
  refine x_callSi (w := wM cI a) (σ := σ) (σ' := σ) (As := [.int st, .int 0, .int 7]) (rest := []) ⟨hx, hb, hml, hown, hts⟩ hG hP hS hsz (c_X6_in l D cI a H.size σ st 0 7) (va_cwS 3 hts gX6_isStation_X6_in rfl rfl rfl (by decide +kernel) ⟨Nat.le_of_ble_eq_true rfl, Nat.le_of_ble_eq_true rfl⟩) rfl hl.1 rfl (Nat.le_of_ble_eq_true rfl) ⟨Nat.zero_le _, Nat.zero_le _⟩ dX6_isStation_4 (fun H locs hP hS => ?_)
  exact x_iret hx hb hr hlk hsz hP hS (nb01 (b_X6_in _ _ _ _)) (by rw [r_X6_isStation]) rfl dX6_isStation_7
def r_X6_isCycle (σ : Sg) (cy : Int32) : Int32 :=
  r_X6_in σ cy 0 29
theorem b_X6_isCycle (σ : Sg) (cy : Int32) : r_X6_isCycle σ cy = 0 ∨ r_X6_isCycle σ cy = 1 := by
  unfold r_X6_isCycle
  repeat' split
  all_goals first | with_reducible exact Or.inl rfl | with_reducible exact Or.inr rfl | with_reducible exact b_X6_in _ _ _ _
set_option maxHeartbeats 4000000 in
set_option maxRecDepth 100000 in
theorem c_X6_isCycle (l : Launch) (D : va_G) (cI : ClassId) (a : Nat → Nat) (sz : Nat) (σ : Sg) (cy : Int32) : Met l yX6_isCycle wsX6_isCycle ({ frames := 1, cells := 0, slots := 0, locals := 22 }) (PcW D cI 24 a (wM cI a) sz σ [.int cy]) (QiW D 24 a (wM cI a) sz (r_X6_isCycle σ cy) σ) 0 0 (AX 24 a sz) := by
  refine x_of (cc := cX6_isCycle) (maxL := 1) (ret := some .boolean) (C := RX6) rfl (by decide) rfl (Nat.le_of_ble_eq_true rfl) (fun p e s m below meth c hx hb hr hml hlk hts hown hsz H hP hS hG ls hl => ?_)
  have hl : lv_has ls 1 [(0, .int cy)] := hl
  refine lv_iload_n hx hb dX6_isCycle_0 rfl (lv_at hl 0 rfl) ?_
  refine lv_iconst (v := 0) hx hb dX6_isCycle_1 (by decide) ?_
  refine lv_bipush (v := 29) hx hb dX6_isCycle_2 (by decide) ?_
  refine x_callSi (w := wM cI a) (σ := σ) (σ' := σ) (As := [.int cy, .int 0, .int 29]) (rest := []) ⟨hx, hb, hml, hown, hts⟩ hG hP hS hsz (c_X6_in l D cI a H.size σ cy 0 29) (va_cwS 3 hts gX6_isCycle_X6_in rfl rfl rfl (by decide +kernel) ⟨Nat.le_of_ble_eq_true rfl, Nat.le_of_ble_eq_true rfl⟩) rfl hl.1 rfl (Nat.le_of_ble_eq_true rfl) ⟨Nat.zero_le _, Nat.zero_le _⟩ dX6_isCycle_4 (fun H locs hP hS => ?_)
  exact x_iret hx hb hr hlk hsz hP hS (nb01 (b_X6_in _ _ _ _)) (by rw [r_X6_isCycle]) rfl dX6_isCycle_7
def r_X6_isRider (σ : Sg) (ri : Int32) : Int32 :=
  r_X6_in σ ri 0 9
theorem b_X6_isRider (σ : Sg) (ri : Int32) : r_X6_isRider σ ri = 0 ∨ r_X6_isRider σ ri = 1 := by
  unfold r_X6_isRider
  repeat' split
  all_goals first | with_reducible exact Or.inl rfl | with_reducible exact Or.inr rfl | with_reducible exact b_X6_in _ _ _ _
set_option maxHeartbeats 4000000 in
set_option maxRecDepth 100000 in
theorem c_X6_isRider (l : Launch) (D : va_G) (cI : ClassId) (a : Nat → Nat) (sz : Nat) (σ : Sg) (ri : Int32) : Met l yX6_isRider wsX6_isRider ({ frames := 1, cells := 0, slots := 0, locals := 22 }) (PcW D cI 24 a (wM cI a) sz σ [.int ri]) (QiW D 24 a (wM cI a) sz (r_X6_isRider σ ri) σ) 0 0 (AX 24 a sz) := by
  refine x_of (cc := cX6_isRider) (maxL := 1) (ret := some .boolean) (C := RX6) rfl (by decide) rfl (Nat.le_of_ble_eq_true rfl) (fun p e s m below meth c hx hb hr hml hlk hts hown hsz H hP hS hG ls hl => ?_)
  have hl : lv_has ls 1 [(0, .int ri)] := hl
  refine lv_iload_n hx hb dX6_isRider_0 rfl (lv_at hl 0 rfl) ?_
  refine lv_iconst (v := 0) hx hb dX6_isRider_1 (by decide) ?_
  refine lv_bipush (v := 9) hx hb dX6_isRider_2 (by decide) ?_
  refine x_callSi (w := wM cI a) (σ := σ) (σ' := σ) (As := [.int ri, .int 0, .int 9]) (rest := []) ⟨hx, hb, hml, hown, hts⟩ hG hP hS hsz (c_X6_in l D cI a H.size σ ri 0 9) (va_cwS 3 hts gX6_isRider_X6_in rfl rfl rfl (by decide +kernel) ⟨Nat.le_of_ble_eq_true rfl, Nat.le_of_ble_eq_true rfl⟩) rfl hl.1 rfl (Nat.le_of_ble_eq_true rfl) ⟨Nat.zero_le _, Nat.zero_le _⟩ dX6_isRider_4 (fun H locs hP hS => ?_)
  exact x_iret hx hb hr hlk hsz hP hS (nb01 (b_X6_in _ _ _ _)) (by rw [r_X6_isRider]) rfl dX6_isRider_7
theorem in_X6_free_6 : ∀ wd ∈ u_ws RX6 TX6 29, wd ∈ wsX6_free := by decide +kernel
def r_X6_free (σ : Sg) (st : Int32) : Int32 :=
  if σ 8 st.toNatClampNeg ≤ σ 9 st.toNatClampNeg then
    0
  else
    (σ 8 st.toNatClampNeg) - (σ 9 st.toNatClampNeg)
set_option maxHeartbeats 4000000 in
set_option maxRecDepth 100000 in
theorem c_X6_free (l : Launch) (D : va_G) (cI : ClassId) (a : Nat → Nat) (sz : Nat) (σ : Sg) (st : Int32) (hs : vp_in st 8) : Met l yX6_free wsX6_free ({ frames := 0, cells := 0, slots := 0, locals := 0 }) (PcW D cI 24 a (wM cI a) sz σ [.ref (a 0), .int st]) (QiW D 24 a (wM cI a) sz (r_X6_free σ st) σ) 0 0 (AX 24 a sz) := by
  refine x_of (cc := cX6_free) (maxL := 2) (ret := some .int) (C := RX6) rfl (by decide) rfl (Nat.le_of_ble_eq_true rfl) (fun p e s m below meth c hx hb hr hml hlk hts hown hsz H hP hS hG ls hl => ?_)
  have hl : lv_has ls 2 [(0, .ref (a 0)), (1, .int st)] := hl
  refine lv_aload_n hx hb dX6_free_0 rfl (lv_at hl 0 rfl) ?_
  refine x_get (ci := 6) (C := RX6) (T := TX6) (M := 29) (v := .ref (a 8)) hx hb hts in_X6_free_6 hown hG hP 0 rfl rfl 10 (by decide) (List.mem_of_getElem? (i := 1) rfl) rfl rfl dX6_free_1 ?_
  refine lv_iload_n hx hb dX6_free_4 rfl (lv_at hl 1 rfl) ?_
  refine x_iald (f := σ 8) hx hb hG hP 8 rfl (by assumption) dX6_free_5 ?_
  refine lv_aload_n hx hb dX6_free_6 rfl (lv_at hl 0 rfl) ?_
  refine x_get (ci := 6) (C := RX6) (T := TX6) (M := 29) (v := .ref (a 9)) hx hb hts in_X6_free_6 hown hG hP 0 rfl rfl 11 (by decide) (List.mem_of_getElem? (i := 2) rfl) rfl rfl dX6_free_7 ?_
  refine lv_iload_n hx hb dX6_free_10 rfl (lv_at hl 1 rfl) ?_
  refine x_iald (f := σ 9) hx hb hG hP 9 rfl (by assumption) dX6_free_11 ?_
  refine lv_icmp_le (tgt := 31) hx hb dX6_free_12 (by decide) (fun h_1 => ?_) (fun h_1 => ?_)
  · refine lv_iconst (v := 0) hx hb dX6_free_31 (by decide) ?_
    exact x_iret hx hb hr hlk hsz hP hS rfl (by rw [r_X6_free, if_pos h_1]) rfl dX6_free_32
  · refine lv_aload_n hx hb dX6_free_15 rfl (lv_at hl 0 rfl) ?_
    refine x_get (ci := 6) (C := RX6) (T := TX6) (M := 29) (v := .ref (a 8)) hx hb hts in_X6_free_6 hown hG hP 0 rfl rfl 10 (by decide) (List.mem_of_getElem? (i := 1) rfl) rfl rfl dX6_free_16 ?_
    refine lv_iload_n hx hb dX6_free_19 rfl (lv_at hl 1 rfl) ?_
    refine x_iald (f := σ 8) hx hb hG hP 8 rfl (by assumption) dX6_free_20 ?_
    refine lv_aload_n hx hb dX6_free_21 rfl (lv_at hl 0 rfl) ?_
    refine x_get (ci := 6) (C := RX6) (T := TX6) (M := 29) (v := .ref (a 9)) hx hb hts in_X6_free_6 hown hG hP 0 rfl rfl 11 (by decide) (List.mem_of_getElem? (i := 2) rfl) rfl rfl dX6_free_22 ?_
    refine lv_iload_n hx hb dX6_free_25 rfl (lv_at hl 1 rfl) ?_
    refine x_iald (f := σ 9) hx hb hG hP 9 rfl (by assumption) dX6_free_26 ?_
    refine lv_isub hx hb dX6_free_27 ?_
    refine lv_goto (tgt := 32) hx hb dX6_free_28 (by decide) ?_
    exact x_iret hx hb hr hlk hsz hP hS rfl (by rw [r_X6_free, if_neg h_1]) rfl dX6_free_32
theorem in_X6_isPromised_6 : ∀ wd ∈ u_ws RX6 TX6 29, wd ∈ wsX6_isPromised := by decide +kernel
def r_X6_isPromised (σ : Sg) (ri : Int32) (st : Int32) (mi : Int32) : Int32 :=
  if σ 22 ri.toNatClampNeg = st then
    if 15 ≤ mi - (σ 23 ri.toNatClampNeg) then
      0
    else
      1
  else
    0
theorem b_X6_isPromised (σ : Sg) (ri : Int32) (st : Int32) (mi : Int32) : r_X6_isPromised σ ri st mi = 0 ∨ r_X6_isPromised σ ri st mi = 1 := by
  unfold r_X6_isPromised
  repeat' split
  all_goals first | with_reducible exact Or.inl rfl | with_reducible exact Or.inr rfl
set_option maxHeartbeats 4000000 in
set_option maxRecDepth 100000 in
theorem c_X6_isPromised (l : Launch) (D : va_G) (cI : ClassId) (a : Nat → Nat) (sz : Nat) (σ : Sg) (ri : Int32) (st : Int32) (mi : Int32) (hr1 : vp_in ri 10) : Met l yX6_isPromised wsX6_isPromised ({ frames := 0, cells := 0, slots := 0, locals := 0 }) (PcW D cI 24 a (wM cI a) sz σ [.ref (a 0), .int ri, .int st, .int mi]) (QiW D 24 a (wM cI a) sz (r_X6_isPromised σ ri st mi) σ) 0 0 (AX 24 a sz) := by
  refine x_of (cc := cX6_isPromised) (maxL := 4) (ret := some .boolean) (C := RX6) rfl (by decide) rfl (Nat.le_of_ble_eq_true rfl) (fun p e s m below meth c hx hb hr hml hlk hts hown hsz H hP hS hG ls hl => ?_)
  have hl : lv_has ls 4 [(0, .ref (a 0)), (1, .int ri), (2, .int st), (3, .int mi)] := hl
  refine lv_aload_n hx hb dX6_isPromised_0 rfl (lv_at hl 0 rfl) ?_
  refine x_get (ci := 6) (C := RX6) (T := TX6) (M := 29) (v := .ref (a 22)) hx hb hts in_X6_isPromised_6 hown hG hP 0 rfl rfl 24 (by decide) (List.mem_of_getElem? (i := 1) rfl) rfl rfl dX6_isPromised_1 ?_
  refine lv_iload_n hx hb dX6_isPromised_4 rfl (lv_at hl 1 rfl) ?_
  refine x_iald (f := σ 22) hx hb hG hP 22 rfl (by assumption) dX6_isPromised_5 ?_
  refine lv_iload_n hx hb dX6_isPromised_6 rfl (lv_at hl 2 rfl) ?_
  refine lv_icmp_ne (tgt := 27) hx hb dX6_isPromised_7 (by decide) (fun h_1 => ?_) (fun h_1 => ?_)
  · refine lv_iconst (v := 0) hx hb dX6_isPromised_27 (by decide) ?_
    exact x_iret hx hb hr hlk hsz hP hS rfl (by rw [r_X6_isPromised, if_neg h_1]) rfl dX6_isPromised_28
  · refine lv_iload_n hx hb dX6_isPromised_10 rfl (lv_at hl 3 rfl) ?_
    refine lv_aload_n hx hb dX6_isPromised_11 rfl (lv_at hl 0 rfl) ?_
    refine x_get (ci := 6) (C := RX6) (T := TX6) (M := 29) (v := .ref (a 23)) hx hb hts in_X6_isPromised_6 hown hG hP 0 rfl rfl 25 (by decide) (List.mem_of_getElem? (i := 2) rfl) rfl rfl dX6_isPromised_12 ?_
    refine lv_iload_n hx hb dX6_isPromised_15 rfl (lv_at hl 1 rfl) ?_
    refine x_iald (f := σ 23) hx hb hG hP 23 rfl (by assumption) dX6_isPromised_16 ?_
    refine lv_isub hx hb dX6_isPromised_17 ?_
    refine lv_bipush (v := 15) hx hb dX6_isPromised_18 (by decide) ?_
    refine lv_icmp_ge (tgt := 27) hx hb dX6_isPromised_20 (by decide) (fun h_2 => ?_) (fun h_2 => ?_)
    · refine lv_iconst (v := 0) hx hb dX6_isPromised_27 (by decide) ?_
      exact x_iret hx hb hr hlk hsz hP hS rfl (by rw [r_X6_isPromised, if_pos h_1, if_pos h_2]) rfl dX6_isPromised_28
    · refine lv_iconst (v := 1) hx hb dX6_isPromised_23 (by decide) ?_
      refine lv_goto (tgt := 28) hx hb dX6_isPromised_24 (by decide) ?_
      exact x_iret hx hb hr hlk hsz hP hS rfl (by rw [r_X6_isPromised, if_pos h_1, if_neg h_2]) rfl dX6_isPromised_28
def st_X6_promises_6 (σ : Sg) (st bu mi : Int32) (i : Nat) (x6 : Int32) : Int32 :=
  if nI i = bu then
    (x6 + 0)
  else
    if r_X6_isPromised σ (nI i) st mi = 0 then
      (x6 + 0)
    else
      (x6 + 1)
def r_X6_promises (σ : Sg) (st : Int32) (bu : Int32) (mi : Int32) : Int32 :=
  (itn (st_X6_promises_6 σ st bu mi) 10 0)
set_option maxHeartbeats 4000000 in
set_option maxRecDepth 100000 in
theorem c_X6_promises (l : Launch) (D : va_G) (cI : ClassId) (a : Nat → Nat) (sz : Nat) (σ : Sg) (st : Int32) (bu : Int32) (mi : Int32) : Met l yX6_promises wsX6_promises ({ frames := 1, cells := 0, slots := 0, locals := 23 }) (PcW D cI 24 a (wM cI a) sz σ [.ref (a 0), .int st, .int bu, .int mi]) (QiW D 24 a (wM cI a) sz (r_X6_promises σ st bu mi) σ) 0 0 (AX 24 a sz) := by
  refine x_of (cc := cX6_promises) (maxL := 6) (ret := some .int) (C := RX6) rfl (by decide) rfl (Nat.le_of_ble_eq_true rfl) (fun p e s m below meth c hx hb hr hml hlk hts hown hsz H hP hS hG ls hl => ?_)
  have hl : lv_has ls 6 [(0, .ref (a 0)), (1, .int st), (2, .int bu), (3, .int mi)] := hl
  refine lv_iconst (v := 0) hx hb dX6_promises_0 (by decide) ?_
  refine lv_istore (lv' := [(4, .int 0), (0, .ref (a 0)), (1, .int st), (2, .int bu), (3, .int mi)]) hx hb dX6_promises_1 hl (by decide) rfl (fun ls hl => ?_)
  refine lv_iconst (v := 0) hx hb dX6_promises_3 (by decide) ?_
  refine lv_istore (lv' := [(5, .int 0), (4, .int 0), (0, .ref (a 0)), (1, .int st), (2, .int bu), (3, .int mi)]) hx hb dX6_promises_4 hl (by decide) rfl (fun ls hl => ?_)
  have loop_6 : ∀ (rem i : Nat) (_ : i + rem = 10) (x6 : Int32) (_ : x6 = itn (st_X6_promises_6 σ st bu mi) i 0) (H : Heap) (locs : List Loc) (ls : Array Slot) (_ : va_P D vwCl (wM cI a σ) H) (_ : va_S (AX 24 a sz) s.heap H locs) (_ : lv_has ls 6 [(5, .int (nI i)), (4, .int x6), (0, .ref (a 0)), (1, .int st), (2, .int bu), (3, .int mi)]), W p l e (headSpec wsX6_promises ({ frames := 1, cells := 0, slots := 0, locals := 23 } : Room)).room s m ([.ref (a 0), .int st, .int bu, .int mi] : List Value).toArray below meth c H locs 0 0 (MQ below (QiW D 24 a (wM cI a) sz (r_X6_promises σ st bu mi) σ) ([.ref (a 0), .int st, .int bu, .int mi] : List Value).toArray s 0 0 (AX 24 a sz)) (F0 m 6 ls []) := by
    intro rem
    induction rem with
    | zero =>
      intro i hi x6 ex6 H locs ls hP hS hl
      obtain rfl : 10 = i := by omega
      refine lv_iload hx hb dX6_promises_6 (lv_at hl 0 rfl) ?_
      refine lv_bipush (v := 10) hx hb dX6_promises_8 (by decide) ?_
      refine lv_icmp_ge (tgt := 46) hx hb dX6_promises_10 (by decide) (fun _ => ?_) (fun h => absurd (show (10 : Int32) ≤ nI 10 by decide) h)
      refine lv_iload hx hb dX6_promises_46 (lv_at hl 1 rfl) ?_
      exact x_iret hx hb hr hlk hsz hP hS rfl (by rw [r_X6_promises, ← ex6]) rfl dX6_promises_48
    | succ rem ih =>
      intro i hi x6 ex6 H locs ls hP hS hl
      refine lv_iload hx hb dX6_promises_6 (lv_at hl 0 rfl) ?_
      refine lv_bipush (v := 10) hx hb dX6_promises_8 (by decide) ?_
      refine lv_icmp_ge (tgt := 46) hx hb dX6_promises_10 (by decide) (fun h => absurd h (nI_ge (a := i) (b := 10) (by omega) (by decide))) (fun _ => ?_)
      refine lv_iload hx hb dX6_promises_13 (lv_at hl 1 rfl) ?_
      refine lv_iload hx hb dX6_promises_15 (lv_at hl 0 rfl) ?_
      refine lv_iload_n hx hb dX6_promises_17 rfl (lv_at hl 4 rfl) ?_
      refine lv_icmp_eq (tgt := 36) hx hb dX6_promises_18 (by decide) (fun h_1 => ?_) (fun h_1 => ?_)
      · refine lv_iconst (v := 0) hx hb dX6_promises_36 (by decide) ?_
        refine lv_iadd hx hb dX6_promises_37 ?_
        refine lv_istore (lv' := [(4, .int (x6 + 0)), (5, .int (nI i)), (0, .ref (a 0)), (1, .int st), (2, .int bu), (3, .int mi)]) hx hb dX6_promises_38 hl (by decide) rfl (fun ls hl => ?_)
        refine lv_iinc (v := nI (i + 1)) (lv' := [(5, .int (nI (i + 1))), (4, .int (x6 + 0)), (0, .ref (a 0)), (1, .int st), (2, .int bu), (3, .int mi)]) hx hb dX6_promises_40 hl (k := 1) rfl (by rw [nI_succ]; rfl) (by decide) rfl (fun ls hl => ?_)
        refine lv_goto (tgt := 6) hx hb dX6_promises_43 (by decide) ?_
        exact ih (i + 1) (by omega) (x6 + 0) (by rw [itn, ← ex6]; rw [st_X6_promises_6, if_pos h_1]) H locs ls hP hS (lv_sub hl [0, 1, 2, 3, 4, 5] rfl)
      · refine lv_aload_n hx hb dX6_promises_21 rfl (lv_at hl 2 rfl) ?_
        refine lv_iload hx hb dX6_promises_22 (lv_at hl 0 rfl) ?_
        refine lv_iload_n hx hb dX6_promises_24 rfl (lv_at hl 3 rfl) ?_
        refine lv_iload_n hx hb dX6_promises_25 rfl (lv_at hl 5 rfl) ?_
        refine x_callVi (w := wM cI a) (σ := σ) (σ' := σ) (As := [.int (nI i), .int st, .int mi]) (rest := [.int x6]) (q0 := 0) ⟨hx, hb, hml, hown, hts⟩ hG hP hS hsz (c_X6_isPromised l D cI a H.size σ (nI i) st mi (vp_in_nI (by omega) (by decide))) (cwV 3 hts gX6_promises_X6_isPromised rfl rfl rfl (by decide +kernel) ⟨Nat.le_of_ble_eq_true rfl, Nat.le_of_ble_eq_true rfl⟩) rfl rfl rfl rfl hl.1 rfl (Nat.le_of_ble_eq_true rfl) ⟨Nat.zero_le _, Nat.zero_le _⟩ dX6_promises_26 (fun H locs hP hS => ?_)
        refine lv_if_eq (tgt := 36) hx hb dX6_promises_29 (by decide) (fun h_2 => ?_) (fun h_2 => ?_)
        · refine lv_iconst (v := 0) hx hb dX6_promises_36 (by decide) ?_
          refine lv_iadd hx hb dX6_promises_37 ?_
          refine lv_istore (lv' := [(4, .int (x6 + 0)), (5, .int (nI i)), (0, .ref (a 0)), (1, .int st), (2, .int bu), (3, .int mi)]) hx hb dX6_promises_38 hl (by decide) rfl (fun ls hl => ?_)
          refine lv_iinc (v := nI (i + 1)) (lv' := [(5, .int (nI (i + 1))), (4, .int (x6 + 0)), (0, .ref (a 0)), (1, .int st), (2, .int bu), (3, .int mi)]) hx hb dX6_promises_40 hl (k := 1) rfl (by rw [nI_succ]; rfl) (by decide) rfl (fun ls hl => ?_)
          refine lv_goto (tgt := 6) hx hb dX6_promises_43 (by decide) ?_
          exact ih (i + 1) (by omega) (x6 + 0) (by rw [itn, ← ex6]; rw [st_X6_promises_6, if_neg h_1, if_pos h_2]) H locs ls hP hS (lv_sub hl [0, 1, 2, 3, 4, 5] rfl)
        · refine lv_iconst (v := 1) hx hb dX6_promises_32 (by decide) ?_
          refine lv_goto (tgt := 37) hx hb dX6_promises_33 (by decide) ?_
          refine lv_iadd hx hb dX6_promises_37 ?_
          refine lv_istore (lv' := [(4, .int (x6 + 1)), (5, .int (nI i)), (0, .ref (a 0)), (1, .int st), (2, .int bu), (3, .int mi)]) hx hb dX6_promises_38 hl (by decide) rfl (fun ls hl => ?_)
          refine lv_iinc (v := nI (i + 1)) (lv' := [(5, .int (nI (i + 1))), (4, .int (x6 + 1)), (0, .ref (a 0)), (1, .int st), (2, .int bu), (3, .int mi)]) hx hb dX6_promises_40 hl (k := 1) rfl (by rw [nI_succ]; rfl) (by decide) rfl (fun ls hl => ?_)
          refine lv_goto (tgt := 6) hx hb dX6_promises_43 (by decide) ?_
          exact ih (i + 1) (by omega) (x6 + 1) (by rw [itn, ← ex6]; rw [st_X6_promises_6, if_neg h_1, if_neg h_2]) H locs ls hP hS (lv_sub hl [0, 1, 2, 3, 4, 5] rfl)
  exact loop_6 (10) 0 (Nat.zero_add _) 0 (itn0 _ _) _ _ _ hP hS (lv_sub hl [0, 1, 2, 3, 4, 5] rfl)
theorem in_X6_isBlocked_6 : ∀ wd ∈ u_ws RX6 TX6 29, wd ∈ wsX6_isBlocked := by decide +kernel
def st_X6_isBlocked_4 (σ : Sg) (cy : Int32) (i : Nat) (x4 : Int32) : Int32 :=
  (x4 + (((σ 13 cy.toNatClampNeg) >>> ((nI i) &&& 31)) &&& 1))
def r_X6_isBlocked (σ : Sg) (cy : Int32) : Int32 :=
  if (itn (st_X6_isBlocked_4 σ cy) 10 0) ≤ 1 then
    0
  else
    1
theorem b_X6_isBlocked (σ : Sg) (cy : Int32) : r_X6_isBlocked σ cy = 0 ∨ r_X6_isBlocked σ cy = 1 := by
  unfold r_X6_isBlocked
  repeat' split
  all_goals first | with_reducible exact Or.inl rfl | with_reducible exact Or.inr rfl
set_option maxHeartbeats 4000000 in
set_option maxRecDepth 100000 in
theorem c_X6_isBlocked (l : Launch) (D : va_G) (cI : ClassId) (a : Nat → Nat) (sz : Nat) (σ : Sg) (cy : Int32) (hc : vp_in cy 30) : Met l yX6_isBlocked wsX6_isBlocked ({ frames := 0, cells := 0, slots := 0, locals := 0 }) (PcW D cI 24 a (wM cI a) sz σ [.ref (a 0), .int cy]) (QiW D 24 a (wM cI a) sz (r_X6_isBlocked σ cy) σ) 0 0 (AX 24 a sz) := by
  refine x_of (cc := cX6_isBlocked) (maxL := 4) (ret := some .boolean) (C := RX6) rfl (by decide) rfl (Nat.le_of_ble_eq_true rfl) (fun p e s m below meth c hx hb hr hml hlk hts hown hsz H hP hS hG ls hl => ?_)
  have hl : lv_has ls 4 [(0, .ref (a 0)), (1, .int cy)] := hl
  refine lv_iconst (v := 0) hx hb dX6_isBlocked_0 (by decide) ?_
  refine lv_istore_n (lv' := [(2, .int 0), (0, .ref (a 0)), (1, .int cy)]) hx hb dX6_isBlocked_1 rfl hl (by decide) rfl (fun ls hl => ?_)
  refine lv_iconst (v := 0) hx hb dX6_isBlocked_2 (by decide) ?_
  refine lv_istore_n (lv' := [(3, .int 0), (2, .int 0), (0, .ref (a 0)), (1, .int cy)]) hx hb dX6_isBlocked_3 rfl hl (by decide) rfl (fun ls hl => ?_)
  have loop_4 : ∀ (rem i : Nat) (_ : i + rem = 10) (x4 : Int32) (_ : x4 = itn (st_X6_isBlocked_4 σ cy) i 0) (H : Heap) (locs : List Loc) (ls : Array Slot) (_ : va_P D vwCl (wM cI a σ) H) (_ : va_S (AX 24 a sz) s.heap H locs) (_ : lv_has ls 4 [(3, .int (nI i)), (2, .int x4), (0, .ref (a 0)), (1, .int cy)]), W p l e (headSpec wsX6_isBlocked ({ frames := 0, cells := 0, slots := 0, locals := 0 } : Room)).room s m ([.ref (a 0), .int cy] : List Value).toArray below meth c H locs 0 0 (MQ below (QiW D 24 a (wM cI a) sz (r_X6_isBlocked σ cy) σ) ([.ref (a 0), .int cy] : List Value).toArray s 0 0 (AX 24 a sz)) (F0 m 4 ls []) := by
    intro rem
    induction rem with
    | zero =>
      intro i hi x4 ex4 H locs ls hP hS hl
      obtain rfl : 10 = i := by omega
      refine lv_iload_n hx hb dX6_isBlocked_4 rfl (lv_at hl 0 rfl) ?_
      refine lv_bipush (v := 10) hx hb dX6_isBlocked_5 (by decide) ?_
      refine lv_icmp_ge (tgt := 29) hx hb dX6_isBlocked_7 (by decide) (fun _ => ?_) (fun h => absurd (show (10 : Int32) ≤ nI 10 by decide) h)
      refine lv_iload_n hx hb dX6_isBlocked_29 rfl (lv_at hl 1 rfl) ?_
      refine lv_iconst (v := 1) hx hb dX6_isBlocked_30 (by decide) ?_
      refine lv_icmp_le (tgt := 38) hx hb dX6_isBlocked_31 (by decide) (fun h_1 => ?_) (fun h_1 => ?_)
      · refine lv_iconst (v := 0) hx hb dX6_isBlocked_38 (by decide) ?_
        exact x_iret hx hb hr hlk hsz hP hS rfl (by rw [r_X6_isBlocked, ← ex4] <;> (try dsimp only) <;> rw [if_pos h_1]) rfl dX6_isBlocked_39
      · refine lv_iconst (v := 1) hx hb dX6_isBlocked_34 (by decide) ?_
        refine lv_goto (tgt := 39) hx hb dX6_isBlocked_35 (by decide) ?_
        exact x_iret hx hb hr hlk hsz hP hS rfl (by rw [r_X6_isBlocked, ← ex4] <;> (try dsimp only) <;> rw [if_neg h_1]) rfl dX6_isBlocked_39
    | succ rem ih =>
      intro i hi x4 ex4 H locs ls hP hS hl
      refine lv_iload_n hx hb dX6_isBlocked_4 rfl (lv_at hl 0 rfl) ?_
      refine lv_bipush (v := 10) hx hb dX6_isBlocked_5 (by decide) ?_
      refine lv_icmp_ge (tgt := 29) hx hb dX6_isBlocked_7 (by decide) (fun h => absurd h (nI_ge (a := i) (b := 10) (by omega) (by decide))) (fun _ => ?_)
      refine lv_iload_n hx hb dX6_isBlocked_10 rfl (lv_at hl 1 rfl) ?_
      refine lv_aload_n hx hb dX6_isBlocked_11 rfl (lv_at hl 2 rfl) ?_
      refine x_get (ci := 6) (C := RX6) (T := TX6) (M := 29) (v := .ref (a 13)) hx hb hts in_X6_isBlocked_6 hown hG hP 0 rfl rfl 15 (by decide) (List.mem_of_getElem? (i := 1) rfl) rfl rfl dX6_isBlocked_12 ?_
      refine lv_iload_n hx hb dX6_isBlocked_15 rfl (lv_at hl 3 rfl) ?_
      refine x_iald (f := σ 13) hx hb hG hP 13 rfl (by assumption) dX6_isBlocked_16 ?_
      refine lv_iload_n hx hb dX6_isBlocked_17 rfl (lv_at hl 0 rfl) ?_
      refine lv_ishr hx hb dX6_isBlocked_18 ?_
      refine lv_iconst (v := 1) hx hb dX6_isBlocked_19 (by decide) ?_
      refine lv_iand hx hb dX6_isBlocked_20 ?_
      refine lv_iadd hx hb dX6_isBlocked_21 ?_
      refine lv_istore_n (lv' := [(2, .int (x4 + (((σ 13 cy.toNatClampNeg) >>> ((nI i) &&& 31)) &&& 1))), (3, .int (nI i)), (0, .ref (a 0)), (1, .int cy)]) hx hb dX6_isBlocked_22 rfl hl (by decide) rfl (fun ls hl => ?_)
      refine lv_iinc (v := nI (i + 1)) (lv' := [(3, .int (nI (i + 1))), (2, .int (x4 + (((σ 13 cy.toNatClampNeg) >>> ((nI i) &&& 31)) &&& 1))), (0, .ref (a 0)), (1, .int cy)]) hx hb dX6_isBlocked_23 hl (k := 1) rfl (by rw [nI_succ]; rfl) (by decide) rfl (fun ls hl => ?_)
      refine lv_goto (tgt := 4) hx hb dX6_isBlocked_26 (by decide) ?_
      exact ih (i + 1) (by omega) (x4 + (((σ 13 cy.toNatClampNeg) >>> ((nI i) &&& 31)) &&& 1)) (by rw [itn, ← ex4]; rw [st_X6_isBlocked_4]) H locs ls hP hS (lv_sub hl [0, 1, 2, 3] rfl)
  exact loop_4 (10) 0 (Nat.zero_add _) 0 (itn0 _ _) _ _ _ hP hS (lv_sub hl [0, 1, 2, 3] rfl)
theorem in_X6_ride_6 : ∀ wd ∈ u_ws RX6 TX6 29, wd ∈ wsX6_ride := by decide +kernel
def s_X6_ride (σ : Sg) (cy : Int32) (mi : Int32) : Sg :=
  if ((mi - (σ 14 cy.toNatClampNeg)) - 30) - (σ 16 cy.toNatClampNeg) ≤ 0 then
    sx (sx (sx σ 17 cy.toNatClampNeg ((σ 17 cy.toNatClampNeg) + (mi - (σ 14 cy.toNatClampNeg)))) 19 (σ 12 cy.toNatClampNeg).toNatClampNeg ((σ 19 (σ 12 cy.toNatClampNeg).toNatClampNeg) + (mi - (σ 14 cy.toNatClampNeg)))) 21 (σ 12 cy.toNatClampNeg).toNatClampNeg ((σ 21 (σ 12 cy.toNatClampNeg).toNatClampNeg) + 0)
  else
    sx (sx (sx σ 17 cy.toNatClampNeg ((σ 17 cy.toNatClampNeg) + (mi - (σ 14 cy.toNatClampNeg)))) 19 (σ 12 cy.toNatClampNeg).toNatClampNeg ((σ 19 (σ 12 cy.toNatClampNeg).toNatClampNeg) + (mi - (σ 14 cy.toNatClampNeg)))) 21 (σ 12 cy.toNatClampNeg).toNatClampNeg ((σ 21 (σ 12 cy.toNatClampNeg).toNatClampNeg) + ((((mi - (σ 14 cy.toNatClampNeg)) - 30) - (σ 16 cy.toNatClampNeg)) * (σ 15 cy.toNatClampNeg)))
set_option maxHeartbeats 4000000 in
set_option maxRecDepth 100000 in
theorem c_X6_ride (l : Launch) (D : va_G) (cI : ClassId) (a : Nat → Nat) (sz : Nat) (σ : Sg) (cy : Int32) (mi : Int32) (hc : vp_in cy 30) (hh : vp_in (σ 12 cy.toNatClampNeg) 10) : Met l yX6_ride wsX6_ride ({ frames := 0, cells := 0, slots := 0, locals := 0 }) (PcW D cI 24 a (wM cI a) sz σ [.ref (a 0), .int cy, .int mi]) (QvW D 24 a (wM cI a) sz (s_X6_ride σ cy mi)) 0 0 (AX 24 a sz) := by
  refine x_of (cc := cX6_ride) (maxL := 6) (ret := none) (C := RX6) rfl (by decide) rfl (Nat.le_of_ble_eq_true rfl) (fun p e s m below meth c hx hb hr hml hlk hts hown hsz H hP hS hG ls hl => ?_)
  have hl : lv_has ls 6 [(0, .ref (a 0)), (1, .int cy), (2, .int mi)] := hl
  refine lv_aload_n hx hb dX6_ride_0 rfl (lv_at hl 0 rfl) ?_
  refine x_get (ci := 6) (C := RX6) (T := TX6) (M := 29) (v := .ref (a 12)) hx hb hts in_X6_ride_6 hown hG hP 0 rfl rfl 14 (by decide) (List.mem_of_getElem? (i := 1) rfl) rfl rfl dX6_ride_1 ?_
  refine lv_iload_n hx hb dX6_ride_4 rfl (lv_at hl 1 rfl) ?_
  refine x_iald (f := σ 12) hx hb hG hP 12 rfl (by assumption) dX6_ride_5 ?_
  refine lv_istore_n (lv' := [(3, .int (σ 12 cy.toNatClampNeg)), (0, .ref (a 0)), (1, .int cy), (2, .int mi)]) hx hb dX6_ride_6 rfl hl (by decide) rfl (fun ls hl => ?_)
  refine lv_iload_n hx hb dX6_ride_7 rfl (lv_at hl 3 rfl) ?_
  refine lv_aload_n hx hb dX6_ride_8 rfl (lv_at hl 1 rfl) ?_
  refine x_get (ci := 6) (C := RX6) (T := TX6) (M := 29) (v := .ref (a 14)) hx hb hts in_X6_ride_6 hown hG hP 0 rfl rfl 16 (by decide) (List.mem_of_getElem? (i := 2) rfl) rfl rfl dX6_ride_9 ?_
  refine lv_iload_n hx hb dX6_ride_12 rfl (lv_at hl 2 rfl) ?_
  refine x_iald (f := σ 14) hx hb hG hP 14 rfl (by assumption) dX6_ride_13 ?_
  refine lv_isub hx hb dX6_ride_14 ?_
  refine lv_istore (lv' := [(4, .int (mi - (σ 14 cy.toNatClampNeg))), (3, .int (σ 12 cy.toNatClampNeg)), (0, .ref (a 0)), (1, .int cy), (2, .int mi)]) hx hb dX6_ride_15 hl (by decide) rfl (fun ls hl => ?_)
  refine lv_iload hx hb dX6_ride_17 (lv_at hl 0 rfl) ?_
  refine lv_bipush (v := 30) hx hb dX6_ride_19 (by decide) ?_
  refine lv_isub hx hb dX6_ride_21 ?_
  refine lv_aload_n hx hb dX6_ride_22 rfl (lv_at hl 2 rfl) ?_
  refine x_get (ci := 6) (C := RX6) (T := TX6) (M := 29) (v := .ref (a 16)) hx hb hts in_X6_ride_6 hown hG hP 0 rfl rfl 18 (by decide) (List.mem_of_getElem? (i := 3) rfl) rfl rfl dX6_ride_23 ?_
  refine lv_iload_n hx hb dX6_ride_26 rfl (lv_at hl 3 rfl) ?_
  refine x_iald (f := σ 16) hx hb hG hP 16 rfl (by assumption) dX6_ride_27 ?_
  refine lv_isub hx hb dX6_ride_28 ?_
  refine lv_istore (lv' := [(5, .int (((mi - (σ 14 cy.toNatClampNeg)) - 30) - (σ 16 cy.toNatClampNeg))), (4, .int (mi - (σ 14 cy.toNatClampNeg))), (3, .int (σ 12 cy.toNatClampNeg)), (0, .ref (a 0)), (1, .int cy), (2, .int mi)]) hx hb dX6_ride_29 hl (by decide) rfl (fun ls hl => ?_)
  refine lv_aload_n hx hb dX6_ride_31 rfl (lv_at hl 3 rfl) ?_
  refine x_get (ci := 6) (C := RX6) (T := TX6) (M := 29) (v := .ref (a 17)) hx hb hts in_X6_ride_6 hown hG hP 0 rfl rfl 19 (by decide) (List.mem_of_getElem? (i := 4) rfl) rfl rfl dX6_ride_32 ?_
  refine lv_iload_n hx hb dX6_ride_35 rfl (lv_at hl 4 rfl) ?_
  refine lv_dup2_11 hx hb dX6_ride_36 rfl rfl ?_
  refine x_iald (f := σ 17) hx hb hG hP 17 rfl (by assumption) dX6_ride_37 ?_
  refine lv_iload hx hb dX6_ride_38 (lv_at hl 1 rfl) ?_
  refine lv_iadd hx hb dX6_ride_40 ?_
  refine x_iast (w := wM cI a) (σ := σ) hx hb hG hP hS 17 rfl (wM_st17 cI a _ _ _) (by assumption) dX6_ride_41 (fun H locs hP hS => ?_)
  refine lv_aload_n hx hb dX6_ride_42 rfl (lv_at hl 3 rfl) ?_
  refine x_get (ci := 6) (C := RX6) (T := TX6) (M := 29) (v := .ref (a 19)) hx hb hts in_X6_ride_6 hown hG hP 0 rfl rfl 21 (by decide) (List.mem_of_getElem? (i := 5) rfl) rfl rfl dX6_ride_43 ?_
  refine lv_iload_n hx hb dX6_ride_46 rfl (lv_at hl 2 rfl) ?_
  refine lv_dup2_11 hx hb dX6_ride_47 rfl rfl ?_
  refine x_iald (f := σ 19) hx hb hG hP 19 rfl (by assumption) dX6_ride_48 ?_
  refine lv_iload hx hb dX6_ride_49 (lv_at hl 1 rfl) ?_
  refine lv_iadd hx hb dX6_ride_51 ?_
  refine x_iast (w := wM cI a) (σ := sx σ 17 cy.toNatClampNeg ((σ 17 cy.toNatClampNeg) + (mi - (σ 14 cy.toNatClampNeg)))) hx hb hG hP hS 19 rfl (wM_st19 cI a _ _ _) (by assumption) dX6_ride_52 (fun H locs hP hS => ?_)
  refine lv_aload_n hx hb dX6_ride_53 rfl (lv_at hl 3 rfl) ?_
  refine x_get (ci := 6) (C := RX6) (T := TX6) (M := 29) (v := .ref (a 21)) hx hb hts in_X6_ride_6 hown hG hP 0 rfl rfl 23 (by decide) (List.mem_of_getElem? (i := 6) rfl) rfl rfl dX6_ride_54 ?_
  refine lv_iload_n hx hb dX6_ride_57 rfl (lv_at hl 2 rfl) ?_
  refine lv_dup2_11 hx hb dX6_ride_58 rfl rfl ?_
  refine x_iald (f := σ 21) hx hb hG hP 21 rfl (by assumption) dX6_ride_59 ?_
  refine lv_iload hx hb dX6_ride_60 (lv_at hl 0 rfl) ?_
  refine lv_if_le (tgt := 77) hx hb dX6_ride_62 (by decide) (fun h_1 => ?_) (fun h_1 => ?_)
  · refine lv_iconst (v := 0) hx hb dX6_ride_77 (by decide) ?_
    refine lv_iadd hx hb dX6_ride_78 ?_
    refine x_iast (w := wM cI a) (σ := sx (sx σ 17 cy.toNatClampNeg ((σ 17 cy.toNatClampNeg) + (mi - (σ 14 cy.toNatClampNeg)))) 19 (σ 12 cy.toNatClampNeg).toNatClampNeg ((σ 19 (σ 12 cy.toNatClampNeg).toNatClampNeg) + (mi - (σ 14 cy.toNatClampNeg)))) hx hb hG hP hS 21 rfl (wM_st21 cI a _ _ _) (by assumption) dX6_ride_79 (fun H locs hP hS => ?_)
    exact x_vret hx hb hr hlk hsz hP hS (by rw [s_X6_ride, if_pos h_1]) dX6_ride_80
  · refine lv_iload hx hb dX6_ride_65 (lv_at hl 0 rfl) ?_
    refine lv_aload_n hx hb dX6_ride_67 rfl (lv_at hl 3 rfl) ?_
    refine x_get (ci := 6) (C := RX6) (T := TX6) (M := 29) (v := .ref (a 15)) hx hb hts in_X6_ride_6 hown hG hP 0 rfl rfl 17 (by decide) (List.mem_of_getElem? (i := 7) rfl) rfl rfl dX6_ride_68 ?_
    refine lv_iload_n hx hb dX6_ride_71 rfl (lv_at hl 4 rfl) ?_
    refine x_iald (f := σ 15) hx hb hG hP 15 rfl (by assumption) dX6_ride_72 ?_
    refine lv_imul hx hb dX6_ride_73 ?_
    refine lv_goto (tgt := 78) hx hb dX6_ride_74 (by decide) ?_
    refine lv_iadd hx hb dX6_ride_78 ?_
    refine x_iast (w := wM cI a) (σ := sx (sx σ 17 cy.toNatClampNeg ((σ 17 cy.toNatClampNeg) + (mi - (σ 14 cy.toNatClampNeg)))) 19 (σ 12 cy.toNatClampNeg).toNatClampNeg ((σ 19 (σ 12 cy.toNatClampNeg).toNatClampNeg) + (mi - (σ 14 cy.toNatClampNeg)))) hx hb hG hP hS 21 rfl (wM_st21 cI a _ _ _) (by assumption) dX6_ride_79 (fun H locs hP hS => ?_)
    exact x_vret hx hb hr hlk hsz hP hS (by rw [s_X6_ride, if_neg h_1]) dX6_ride_80
theorem in_X6_dock_6 : ∀ wd ∈ u_ws RX6 TX6 29, wd ∈ wsX6_dock := by decide +kernel
def s_X6_dock (σ : Sg) (cy : Int32) (st : Int32) : Sg :=
  sx (sx (sx σ 11 cy.toNatClampNeg 1) 12 cy.toNatClampNeg st) 9 st.toNatClampNeg ((σ 9 st.toNatClampNeg) + 1)
set_option maxHeartbeats 4000000 in
set_option maxRecDepth 100000 in
theorem c_X6_dock (l : Launch) (D : va_G) (cI : ClassId) (a : Nat → Nat) (sz : Nat) (σ : Sg) (cy : Int32) (st : Int32) (hc : vp_in cy 30) (hs : vp_in st 8) : Met l yX6_dock wsX6_dock ({ frames := 0, cells := 0, slots := 0, locals := 0 }) (PcW D cI 24 a (wM cI a) sz σ [.ref (a 0), .int cy, .int st]) (QvW D 24 a (wM cI a) sz (s_X6_dock σ cy st)) 0 0 (AX 24 a sz) := by
  refine x_of (cc := cX6_dock) (maxL := 3) (ret := none) (C := RX6) rfl (by decide) rfl (Nat.le_of_ble_eq_true rfl) (fun p e s m below meth c hx hb hr hml hlk hts hown hsz H hP hS hG ls hl => ?_)
  have hl : lv_has ls 3 [(0, .ref (a 0)), (1, .int cy), (2, .int st)] := hl
  refine lv_aload_n hx hb dX6_dock_0 rfl (lv_at hl 0 rfl) ?_
  refine x_get (ci := 6) (C := RX6) (T := TX6) (M := 29) (v := .ref (a 11)) hx hb hts in_X6_dock_6 hown hG hP 0 rfl rfl 13 (by decide) (List.mem_of_getElem? (i := 1) rfl) rfl rfl dX6_dock_1 ?_
  refine lv_iload_n hx hb dX6_dock_4 rfl (lv_at hl 1 rfl) ?_
  refine lv_iconst (v := 1) hx hb dX6_dock_5 (by decide) ?_
  refine x_iast (w := wM cI a) (σ := σ) hx hb hG hP hS 11 rfl (wM_st11 cI a _ _ _) (by assumption) dX6_dock_6 (fun H locs hP hS => ?_)
  refine lv_aload_n hx hb dX6_dock_7 rfl (lv_at hl 0 rfl) ?_
  refine x_get (ci := 6) (C := RX6) (T := TX6) (M := 29) (v := .ref (a 12)) hx hb hts in_X6_dock_6 hown hG hP 0 rfl rfl 14 (by decide) (List.mem_of_getElem? (i := 2) rfl) rfl rfl dX6_dock_8 ?_
  refine lv_iload_n hx hb dX6_dock_11 rfl (lv_at hl 1 rfl) ?_
  refine lv_iload_n hx hb dX6_dock_12 rfl (lv_at hl 2 rfl) ?_
  refine x_iast (w := wM cI a) (σ := sx σ 11 cy.toNatClampNeg 1) hx hb hG hP hS 12 rfl (wM_st12 cI a _ _ _) (by assumption) dX6_dock_13 (fun H locs hP hS => ?_)
  refine lv_aload_n hx hb dX6_dock_14 rfl (lv_at hl 0 rfl) ?_
  refine x_get (ci := 6) (C := RX6) (T := TX6) (M := 29) (v := .ref (a 9)) hx hb hts in_X6_dock_6 hown hG hP 0 rfl rfl 11 (by decide) (List.mem_of_getElem? (i := 3) rfl) rfl rfl dX6_dock_15 ?_
  refine lv_iload_n hx hb dX6_dock_18 rfl (lv_at hl 2 rfl) ?_
  refine lv_dup2_11 hx hb dX6_dock_19 rfl rfl ?_
  refine x_iald (f := σ 9) hx hb hG hP 9 rfl (by assumption) dX6_dock_20 ?_
  refine lv_iconst (v := 1) hx hb dX6_dock_21 (by decide) ?_
  refine lv_iadd hx hb dX6_dock_22 ?_
  refine x_iast (w := wM cI a) (σ := sx (sx σ 11 cy.toNatClampNeg 1) 12 cy.toNatClampNeg st) hx hb hG hP hS 9 rfl (wM_st9 cI a _ _ _) (by assumption) dX6_dock_23 (fun H locs hP hS => ?_)
  exact x_vret hx hb hr hlk hsz hP hS (by rw [s_X6_dock]) dX6_dock_24
theorem in_X6_unlock_6 : ∀ wd ∈ u_ws RX6 TX6 29, wd ∈ wsX6_unlock := by decide +kernel
def r_X6_unlock (σ : Sg) (cy : Int32) (ri : Int32) (mi : Int32) : Int32 :=
  if σ 11 cy.toNatClampNeg = 2 then
    if σ 12 cy.toNatClampNeg = ri then
      if σ 11 cy.toNatClampNeg = 1 then
        if r_X6_isBlocked σ cy = 0 then
          1
        else
          0
      else
        0
    else
      1
  else
    if σ 11 cy.toNatClampNeg = 1 then
      if r_X6_isBlocked σ cy = 0 then
        1
      else
        0
    else
      0
def s_X6_unlock (σ : Sg) (cy : Int32) (ri : Int32) (mi : Int32) : Sg :=
  if σ 11 cy.toNatClampNeg = 2 then
    if σ 12 cy.toNatClampNeg = ri then
      if σ 11 cy.toNatClampNeg = 1 then
        if r_X6_isBlocked σ cy = 0 then
          sx (sx (sx (sx (sx (sx (sx σ 9 (σ 12 cy.toNatClampNeg).toNatClampNeg ((σ 9 (σ 12 cy.toNatClampNeg).toNatClampNeg) - 1)) 11 cy.toNatClampNeg 2) 12 cy.toNatClampNeg ri) 14 cy.toNatClampNeg mi) 15 cy.toNatClampNeg (σ 0 26)) 16 cy.toNatClampNeg 0) 18 ri.toNatClampNeg ((σ 18 ri.toNatClampNeg) + 1)
        else
          σ
      else
        σ
    else
      sx (sx (sx (sx (sx (sx (s_X6_ride σ cy mi) 11 cy.toNatClampNeg 2) 12 cy.toNatClampNeg ri) 14 cy.toNatClampNeg mi) 15 cy.toNatClampNeg ((sx (sx (sx (s_X6_ride σ cy mi) 11 cy.toNatClampNeg 2) 12 cy.toNatClampNeg ri) 14 cy.toNatClampNeg mi) 0 26)) 16 cy.toNatClampNeg 0) 18 ri.toNatClampNeg (((sx (sx (sx (sx (sx (s_X6_ride σ cy mi) 11 cy.toNatClampNeg 2) 12 cy.toNatClampNeg ri) 14 cy.toNatClampNeg mi) 15 cy.toNatClampNeg ((sx (sx (sx (s_X6_ride σ cy mi) 11 cy.toNatClampNeg 2) 12 cy.toNatClampNeg ri) 14 cy.toNatClampNeg mi) 0 26)) 16 cy.toNatClampNeg 0) 18 ri.toNatClampNeg) + 1)
  else
    if σ 11 cy.toNatClampNeg = 1 then
      if r_X6_isBlocked σ cy = 0 then
        sx (sx (sx (sx (sx (sx (sx σ 9 (σ 12 cy.toNatClampNeg).toNatClampNeg ((σ 9 (σ 12 cy.toNatClampNeg).toNatClampNeg) - 1)) 11 cy.toNatClampNeg 2) 12 cy.toNatClampNeg ri) 14 cy.toNatClampNeg mi) 15 cy.toNatClampNeg (σ 0 26)) 16 cy.toNatClampNeg 0) 18 ri.toNatClampNeg ((σ 18 ri.toNatClampNeg) + 1)
      else
        σ
    else
      σ
theorem b_X6_unlock (σ : Sg) (cy : Int32) (ri : Int32) (mi : Int32) : r_X6_unlock σ cy ri mi = 0 ∨ r_X6_unlock σ cy ri mi = 1 := by
  unfold r_X6_unlock
  repeat' split
  all_goals first | with_reducible exact Or.inl rfl | with_reducible exact Or.inr rfl
set_option maxHeartbeats 4000000 in
set_option maxRecDepth 100000 in
theorem c_X6_unlock (l : Launch) (D : va_G) (cI : ClassId) (a : Nat → Nat) (sz : Nat) (σ : Sg) (cy : Int32) (ri : Int32) (mi : Int32) (hc : vp_in cy 30) (hr1 : vp_in ri 10) (hD : σ 11 cy.toNatClampNeg = 1 → vp_in (σ 12 cy.toNatClampNeg) 8) (hR : σ 11 cy.toNatClampNeg = 2 → vp_in (σ 12 cy.toNatClampNeg) 10) : Met l yX6_unlock wsX6_unlock ({ frames := 1, cells := 0, slots := 0, locals := 25 }) (PcW D cI 24 a (wM cI a) sz σ [.ref (a 0), .int cy, .int ri, .int mi]) (QiW D 24 a (wM cI a) sz (r_X6_unlock σ cy ri mi) (s_X6_unlock σ cy ri mi)) 0 0 (AX 24 a sz) := by
  refine x_of (cc := cX6_unlock) (maxL := 5) (ret := some .boolean) (C := RX6) rfl (by decide) rfl (Nat.le_of_ble_eq_true rfl) (fun p e s m below meth c hx hb hr hml hlk hts hown hsz H hP hS hG ls hl => ?_)
  have hl : lv_has ls 5 [(0, .ref (a 0)), (1, .int cy), (2, .int ri), (3, .int mi)] := hl
  refine lv_aload_n hx hb dX6_unlock_0 rfl (lv_at hl 0 rfl) ?_
  refine x_get (ci := 6) (C := RX6) (T := TX6) (M := 29) (v := .ref (a 11)) hx hb hts in_X6_unlock_6 hown hG hP 0 rfl rfl 13 (by decide) (List.mem_of_getElem? (i := 1) rfl) rfl rfl dX6_unlock_1 ?_
  refine lv_iload_n hx hb dX6_unlock_4 rfl (lv_at hl 1 rfl) ?_
  refine x_iald (f := σ 11) hx hb hG hP 11 rfl (by assumption) dX6_unlock_5 ?_
  refine lv_iconst (v := 2) hx hb dX6_unlock_6 (by decide) ?_
  refine lv_icmp_ne (tgt := 24) hx hb dX6_unlock_7 (by decide) (fun h_1 => ?_) (fun h_1 => ?_)
  · refine lv_iconst (v := 0) hx hb dX6_unlock_24 (by decide) ?_
    refine lv_istore (lv' := [(4, .int 0), (0, .ref (a 0)), (1, .int cy), (2, .int ri), (3, .int mi)]) hx hb dX6_unlock_25 hl (by decide) rfl (fun ls hl => ?_)
    refine lv_iload hx hb dX6_unlock_27 (lv_at hl 0 rfl) ?_
    refine lv_if_ne (tgt := 52) hx hb dX6_unlock_29 (by decide) (fun h => absurd (by decide) h) (fun _ => ?_)
    refine lv_aload_n hx hb dX6_unlock_32 rfl (lv_at hl 1 rfl) ?_
    refine x_get (ci := 6) (C := RX6) (T := TX6) (M := 29) (v := .ref (a 11)) hx hb hts in_X6_unlock_6 hown hG hP 0 rfl rfl 13 (by decide) (List.mem_of_getElem? (i := 1) rfl) rfl rfl dX6_unlock_33 ?_
    refine lv_iload_n hx hb dX6_unlock_36 rfl (lv_at hl 2 rfl) ?_
    refine x_iald (f := σ 11) hx hb hG hP 11 rfl (by assumption) dX6_unlock_37 ?_
    refine lv_iconst (v := 1) hx hb dX6_unlock_38 (by decide) ?_
    refine lv_icmp_ne (tgt := 50) hx hb dX6_unlock_39 (by decide) (fun h_2 => ?_) (fun h_2 => ?_)
    · refine lv_iconst (v := 0) hx hb dX6_unlock_50 (by decide) ?_
      exact x_iret hx hb hr hlk hsz hP hS rfl (by rw [r_X6_unlock, if_neg h_1, if_neg h_2]) (by rw [s_X6_unlock, if_neg h_1, if_neg h_2]) dX6_unlock_51
    · refine lv_aload_n hx hb dX6_unlock_42 rfl (lv_at hl 1 rfl) ?_
      refine lv_iload_n hx hb dX6_unlock_43 rfl (lv_at hl 2 rfl) ?_
      refine x_callVi (w := wM cI a) (σ := σ) (σ' := σ) (As := [.int cy]) (rest := []) (q0 := 0) ⟨hx, hb, hml, hown, hts⟩ hG hP hS hsz (c_X6_isBlocked l D cI a H.size σ cy (by assumption)) (cwV 1 hts gX6_unlock_X6_isBlocked rfl rfl rfl (by decide +kernel) ⟨Nat.le_of_ble_eq_true rfl, Nat.le_of_ble_eq_true rfl⟩) rfl rfl rfl rfl hl.1 rfl (Nat.le_of_ble_eq_true rfl) ⟨Nat.zero_le _, Nat.zero_le _⟩ dX6_unlock_44 (fun H locs hP hS => ?_)
      refine lv_if_eq (tgt := 52) hx hb dX6_unlock_47 (by decide) (fun h_3 => ?_) (fun h_3 => ?_)
      · refine lv_iload hx hb dX6_unlock_52 (lv_at hl 0 rfl) ?_
        refine lv_if_eq (tgt := 66) hx hb dX6_unlock_54 (by decide) (fun _ => ?_) (fun h => absurd (by decide) h)
        refine lv_aload_n hx hb dX6_unlock_66 rfl (lv_at hl 1 rfl) ?_
        refine x_get (ci := 6) (C := RX6) (T := TX6) (M := 29) (v := .ref (a 9)) hx hb hts in_X6_unlock_6 hown hG hP 0 rfl rfl 11 (by decide) (List.mem_of_getElem? (i := 3) rfl) rfl rfl dX6_unlock_67 ?_
        refine lv_aload_n hx hb dX6_unlock_70 rfl (lv_at hl 1 rfl) ?_
        refine x_get (ci := 6) (C := RX6) (T := TX6) (M := 29) (v := .ref (a 12)) hx hb hts in_X6_unlock_6 hown hG hP 0 rfl rfl 14 (by decide) (List.mem_of_getElem? (i := 2) rfl) rfl rfl dX6_unlock_71 ?_
        refine lv_iload_n hx hb dX6_unlock_74 rfl (lv_at hl 2 rfl) ?_
        refine x_iald (f := σ 12) hx hb hG hP 12 rfl (by assumption) dX6_unlock_75 ?_
        refine lv_dup2_11 hx hb dX6_unlock_76 rfl rfl ?_
        refine x_iald (f := σ 9) hx hb hG hP 9 rfl (hD h_2) dX6_unlock_77 ?_
        refine lv_iconst (v := 1) hx hb dX6_unlock_78 (by decide) ?_
        refine lv_isub hx hb dX6_unlock_79 ?_
        refine x_iast (w := wM cI a) (σ := σ) hx hb hG hP hS 9 rfl (wM_st9 cI a _ _ _) (hD h_2) dX6_unlock_80 (fun H locs hP hS => ?_)
        refine lv_aload_n hx hb dX6_unlock_81 rfl (lv_at hl 1 rfl) ?_
        refine x_get (ci := 6) (C := RX6) (T := TX6) (M := 29) (v := .ref (a 11)) hx hb hts in_X6_unlock_6 hown hG hP 0 rfl rfl 13 (by decide) (List.mem_of_getElem? (i := 1) rfl) rfl rfl dX6_unlock_82 ?_
        refine lv_iload_n hx hb dX6_unlock_85 rfl (lv_at hl 2 rfl) ?_
        refine lv_iconst (v := 2) hx hb dX6_unlock_86 (by decide) ?_
        refine x_iast (w := wM cI a) (σ := sx σ 9 (σ 12 cy.toNatClampNeg).toNatClampNeg ((σ 9 (σ 12 cy.toNatClampNeg).toNatClampNeg) - 1)) hx hb hG hP hS 11 rfl (wM_st11 cI a _ _ _) (by assumption) dX6_unlock_87 (fun H locs hP hS => ?_)
        refine lv_aload_n hx hb dX6_unlock_88 rfl (lv_at hl 1 rfl) ?_
        refine x_get (ci := 6) (C := RX6) (T := TX6) (M := 29) (v := .ref (a 12)) hx hb hts in_X6_unlock_6 hown hG hP 0 rfl rfl 14 (by decide) (List.mem_of_getElem? (i := 2) rfl) rfl rfl dX6_unlock_89 ?_
        refine lv_iload_n hx hb dX6_unlock_92 rfl (lv_at hl 2 rfl) ?_
        refine lv_iload_n hx hb dX6_unlock_93 rfl (lv_at hl 3 rfl) ?_
        refine x_iast (w := wM cI a) (σ := sx (sx σ 9 (σ 12 cy.toNatClampNeg).toNatClampNeg ((σ 9 (σ 12 cy.toNatClampNeg).toNatClampNeg) - 1)) 11 cy.toNatClampNeg 2) hx hb hG hP hS 12 rfl (wM_st12 cI a _ _ _) (by assumption) dX6_unlock_94 (fun H locs hP hS => ?_)
        refine lv_aload_n hx hb dX6_unlock_95 rfl (lv_at hl 1 rfl) ?_
        refine x_get (ci := 6) (C := RX6) (T := TX6) (M := 29) (v := .ref (a 14)) hx hb hts in_X6_unlock_6 hown hG hP 0 rfl rfl 16 (by decide) (List.mem_of_getElem? (i := 4) rfl) rfl rfl dX6_unlock_96 ?_
        refine lv_iload_n hx hb dX6_unlock_99 rfl (lv_at hl 2 rfl) ?_
        refine lv_iload_n hx hb dX6_unlock_100 rfl (lv_at hl 4 rfl) ?_
        refine x_iast (w := wM cI a) (σ := sx (sx (sx σ 9 (σ 12 cy.toNatClampNeg).toNatClampNeg ((σ 9 (σ 12 cy.toNatClampNeg).toNatClampNeg) - 1)) 11 cy.toNatClampNeg 2) 12 cy.toNatClampNeg ri) hx hb hG hP hS 14 rfl (wM_st14 cI a _ _ _) (by assumption) dX6_unlock_101 (fun H locs hP hS => ?_)
        refine lv_aload_n hx hb dX6_unlock_102 rfl (lv_at hl 1 rfl) ?_
        refine x_get (ci := 6) (C := RX6) (T := TX6) (M := 29) (v := .ref (a 15)) hx hb hts in_X6_unlock_6 hown hG hP 0 rfl rfl 17 (by decide) (List.mem_of_getElem? (i := 5) rfl) rfl rfl dX6_unlock_103 ?_
        refine lv_iload_n hx hb dX6_unlock_106 rfl (lv_at hl 2 rfl) ?_
        refine lv_aload_n hx hb dX6_unlock_107 rfl (lv_at hl 1 rfl) ?_
        refine x_get (ci := 6) (C := RX6) (T := TX6) (M := 29) (v := .int (σ 0 26)) hx hb hts in_X6_unlock_6 hown hG hP 0 rfl rfl 26 (by decide) (List.mem_of_getElem? (i := 6) rfl) rfl rfl dX6_unlock_108 ?_
        refine x_iast (w := wM cI a) (σ := sx (sx (sx (sx σ 9 (σ 12 cy.toNatClampNeg).toNatClampNeg ((σ 9 (σ 12 cy.toNatClampNeg).toNatClampNeg) - 1)) 11 cy.toNatClampNeg 2) 12 cy.toNatClampNeg ri) 14 cy.toNatClampNeg mi) hx hb hG hP hS 15 rfl (wM_st15 cI a _ _ _) (by assumption) dX6_unlock_111 (fun H locs hP hS => ?_)
        refine lv_aload_n hx hb dX6_unlock_112 rfl (lv_at hl 1 rfl) ?_
        refine x_get (ci := 6) (C := RX6) (T := TX6) (M := 29) (v := .ref (a 16)) hx hb hts in_X6_unlock_6 hown hG hP 0 rfl rfl 18 (by decide) (List.mem_of_getElem? (i := 7) rfl) rfl rfl dX6_unlock_113 ?_
        refine lv_iload_n hx hb dX6_unlock_116 rfl (lv_at hl 2 rfl) ?_
        refine lv_iconst (v := 0) hx hb dX6_unlock_117 (by decide) ?_
        refine x_iast (w := wM cI a) (σ := sx (sx (sx (sx (sx σ 9 (σ 12 cy.toNatClampNeg).toNatClampNeg ((σ 9 (σ 12 cy.toNatClampNeg).toNatClampNeg) - 1)) 11 cy.toNatClampNeg 2) 12 cy.toNatClampNeg ri) 14 cy.toNatClampNeg mi) 15 cy.toNatClampNeg (σ 0 26)) hx hb hG hP hS 16 rfl (wM_st16 cI a _ _ _) (by assumption) dX6_unlock_118 (fun H locs hP hS => ?_)
        refine lv_aload_n hx hb dX6_unlock_119 rfl (lv_at hl 1 rfl) ?_
        refine x_get (ci := 6) (C := RX6) (T := TX6) (M := 29) (v := .ref (a 18)) hx hb hts in_X6_unlock_6 hown hG hP 0 rfl rfl 20 (by decide) (List.mem_of_getElem? (i := 8) rfl) rfl rfl dX6_unlock_120 ?_
        refine lv_iload_n hx hb dX6_unlock_123 rfl (lv_at hl 3 rfl) ?_
        refine lv_dup2_11 hx hb dX6_unlock_124 rfl rfl ?_
        refine x_iald (f := σ 18) hx hb hG hP 18 rfl (by assumption) dX6_unlock_125 ?_
        refine lv_iconst (v := 1) hx hb dX6_unlock_126 (by decide) ?_
        refine lv_iadd hx hb dX6_unlock_127 ?_
        refine x_iast (w := wM cI a) (σ := sx (sx (sx (sx (sx (sx σ 9 (σ 12 cy.toNatClampNeg).toNatClampNeg ((σ 9 (σ 12 cy.toNatClampNeg).toNatClampNeg) - 1)) 11 cy.toNatClampNeg 2) 12 cy.toNatClampNeg ri) 14 cy.toNatClampNeg mi) 15 cy.toNatClampNeg (σ 0 26)) 16 cy.toNatClampNeg 0) hx hb hG hP hS 18 rfl (wM_st18 cI a _ _ _) (by assumption) dX6_unlock_128 (fun H locs hP hS => ?_)
        refine lv_iconst (v := 1) hx hb dX6_unlock_129 (by decide) ?_
        exact x_iret hx hb hr hlk hsz hP hS rfl (by rw [r_X6_unlock, if_neg h_1, if_pos h_2, if_pos h_3]) (by rw [s_X6_unlock, if_neg h_1, if_pos h_2, if_pos h_3]) dX6_unlock_130
      · refine lv_iconst (v := 0) hx hb dX6_unlock_50 (by decide) ?_
        exact x_iret hx hb hr hlk hsz hP hS rfl (by rw [r_X6_unlock, if_neg h_1, if_pos h_2, if_neg h_3]) (by rw [s_X6_unlock, if_neg h_1, if_pos h_2, if_neg h_3]) dX6_unlock_51
  · refine lv_aload_n hx hb dX6_unlock_10 rfl (lv_at hl 0 rfl) ?_
    refine x_get (ci := 6) (C := RX6) (T := TX6) (M := 29) (v := .ref (a 12)) hx hb hts in_X6_unlock_6 hown hG hP 0 rfl rfl 14 (by decide) (List.mem_of_getElem? (i := 2) rfl) rfl rfl dX6_unlock_11 ?_
    refine lv_iload_n hx hb dX6_unlock_14 rfl (lv_at hl 1 rfl) ?_
    refine x_iald (f := σ 12) hx hb hG hP 12 rfl (by assumption) dX6_unlock_15 ?_
    refine lv_iload_n hx hb dX6_unlock_16 rfl (lv_at hl 2 rfl) ?_
    refine lv_icmp_eq (tgt := 24) hx hb dX6_unlock_17 (by decide) (fun h_4 => ?_) (fun h_4 => ?_)
    · refine lv_iconst (v := 0) hx hb dX6_unlock_24 (by decide) ?_
      refine lv_istore (lv' := [(4, .int 0), (0, .ref (a 0)), (1, .int cy), (2, .int ri), (3, .int mi)]) hx hb dX6_unlock_25 hl (by decide) rfl (fun ls hl => ?_)
      refine lv_iload hx hb dX6_unlock_27 (lv_at hl 0 rfl) ?_
      refine lv_if_ne (tgt := 52) hx hb dX6_unlock_29 (by decide) (fun h => absurd (by decide) h) (fun _ => ?_)
      refine lv_aload_n hx hb dX6_unlock_32 rfl (lv_at hl 1 rfl) ?_
      refine x_get (ci := 6) (C := RX6) (T := TX6) (M := 29) (v := .ref (a 11)) hx hb hts in_X6_unlock_6 hown hG hP 0 rfl rfl 13 (by decide) (List.mem_of_getElem? (i := 1) rfl) rfl rfl dX6_unlock_33 ?_
      refine lv_iload_n hx hb dX6_unlock_36 rfl (lv_at hl 2 rfl) ?_
      refine x_iald (f := σ 11) hx hb hG hP 11 rfl (by assumption) dX6_unlock_37 ?_
      refine lv_iconst (v := 1) hx hb dX6_unlock_38 (by decide) ?_
      refine lv_icmp_ne (tgt := 50) hx hb dX6_unlock_39 (by decide) (fun h_5 => ?_) (fun h_5 => ?_)
      · refine lv_iconst (v := 0) hx hb dX6_unlock_50 (by decide) ?_
        exact x_iret hx hb hr hlk hsz hP hS rfl (by rw [r_X6_unlock, if_pos h_1, if_pos h_4, if_neg h_5]) (by rw [s_X6_unlock, if_pos h_1, if_pos h_4, if_neg h_5]) dX6_unlock_51
      · refine lv_aload_n hx hb dX6_unlock_42 rfl (lv_at hl 1 rfl) ?_
        refine lv_iload_n hx hb dX6_unlock_43 rfl (lv_at hl 2 rfl) ?_
        refine x_callVi (w := wM cI a) (σ := σ) (σ' := σ) (As := [.int cy]) (rest := []) (q0 := 0) ⟨hx, hb, hml, hown, hts⟩ hG hP hS hsz (c_X6_isBlocked l D cI a H.size σ cy (by assumption)) (cwV 1 hts gX6_unlock_X6_isBlocked rfl rfl rfl (by decide +kernel) ⟨Nat.le_of_ble_eq_true rfl, Nat.le_of_ble_eq_true rfl⟩) rfl rfl rfl rfl hl.1 rfl (Nat.le_of_ble_eq_true rfl) ⟨Nat.zero_le _, Nat.zero_le _⟩ dX6_unlock_44 (fun H locs hP hS => ?_)
        refine lv_if_eq (tgt := 52) hx hb dX6_unlock_47 (by decide) (fun h_6 => ?_) (fun h_6 => ?_)
        · refine lv_iload hx hb dX6_unlock_52 (lv_at hl 0 rfl) ?_
          refine lv_if_eq (tgt := 66) hx hb dX6_unlock_54 (by decide) (fun _ => ?_) (fun h => absurd (by decide) h)
          refine lv_aload_n hx hb dX6_unlock_66 rfl (lv_at hl 1 rfl) ?_
          refine x_get (ci := 6) (C := RX6) (T := TX6) (M := 29) (v := .ref (a 9)) hx hb hts in_X6_unlock_6 hown hG hP 0 rfl rfl 11 (by decide) (List.mem_of_getElem? (i := 3) rfl) rfl rfl dX6_unlock_67 ?_
          refine lv_aload_n hx hb dX6_unlock_70 rfl (lv_at hl 1 rfl) ?_
          refine x_get (ci := 6) (C := RX6) (T := TX6) (M := 29) (v := .ref (a 12)) hx hb hts in_X6_unlock_6 hown hG hP 0 rfl rfl 14 (by decide) (List.mem_of_getElem? (i := 2) rfl) rfl rfl dX6_unlock_71 ?_
          refine lv_iload_n hx hb dX6_unlock_74 rfl (lv_at hl 2 rfl) ?_
          refine x_iald (f := σ 12) hx hb hG hP 12 rfl (by assumption) dX6_unlock_75 ?_
          refine lv_dup2_11 hx hb dX6_unlock_76 rfl rfl ?_
          refine x_iald (f := σ 9) hx hb hG hP 9 rfl (hD h_5) dX6_unlock_77 ?_
          refine lv_iconst (v := 1) hx hb dX6_unlock_78 (by decide) ?_
          refine lv_isub hx hb dX6_unlock_79 ?_
          refine x_iast (w := wM cI a) (σ := σ) hx hb hG hP hS 9 rfl (wM_st9 cI a _ _ _) (hD h_5) dX6_unlock_80 (fun H locs hP hS => ?_)
          refine lv_aload_n hx hb dX6_unlock_81 rfl (lv_at hl 1 rfl) ?_
          refine x_get (ci := 6) (C := RX6) (T := TX6) (M := 29) (v := .ref (a 11)) hx hb hts in_X6_unlock_6 hown hG hP 0 rfl rfl 13 (by decide) (List.mem_of_getElem? (i := 1) rfl) rfl rfl dX6_unlock_82 ?_
          refine lv_iload_n hx hb dX6_unlock_85 rfl (lv_at hl 2 rfl) ?_
          refine lv_iconst (v := 2) hx hb dX6_unlock_86 (by decide) ?_
          refine x_iast (w := wM cI a) (σ := sx σ 9 (σ 12 cy.toNatClampNeg).toNatClampNeg ((σ 9 (σ 12 cy.toNatClampNeg).toNatClampNeg) - 1)) hx hb hG hP hS 11 rfl (wM_st11 cI a _ _ _) (by assumption) dX6_unlock_87 (fun H locs hP hS => ?_)
          refine lv_aload_n hx hb dX6_unlock_88 rfl (lv_at hl 1 rfl) ?_
          refine x_get (ci := 6) (C := RX6) (T := TX6) (M := 29) (v := .ref (a 12)) hx hb hts in_X6_unlock_6 hown hG hP 0 rfl rfl 14 (by decide) (List.mem_of_getElem? (i := 2) rfl) rfl rfl dX6_unlock_89 ?_
          refine lv_iload_n hx hb dX6_unlock_92 rfl (lv_at hl 2 rfl) ?_
          refine lv_iload_n hx hb dX6_unlock_93 rfl (lv_at hl 3 rfl) ?_
          refine x_iast (w := wM cI a) (σ := sx (sx σ 9 (σ 12 cy.toNatClampNeg).toNatClampNeg ((σ 9 (σ 12 cy.toNatClampNeg).toNatClampNeg) - 1)) 11 cy.toNatClampNeg 2) hx hb hG hP hS 12 rfl (wM_st12 cI a _ _ _) (by assumption) dX6_unlock_94 (fun H locs hP hS => ?_)
          refine lv_aload_n hx hb dX6_unlock_95 rfl (lv_at hl 1 rfl) ?_
          refine x_get (ci := 6) (C := RX6) (T := TX6) (M := 29) (v := .ref (a 14)) hx hb hts in_X6_unlock_6 hown hG hP 0 rfl rfl 16 (by decide) (List.mem_of_getElem? (i := 4) rfl) rfl rfl dX6_unlock_96 ?_
          refine lv_iload_n hx hb dX6_unlock_99 rfl (lv_at hl 2 rfl) ?_
          refine lv_iload_n hx hb dX6_unlock_100 rfl (lv_at hl 4 rfl) ?_
          refine x_iast (w := wM cI a) (σ := sx (sx (sx σ 9 (σ 12 cy.toNatClampNeg).toNatClampNeg ((σ 9 (σ 12 cy.toNatClampNeg).toNatClampNeg) - 1)) 11 cy.toNatClampNeg 2) 12 cy.toNatClampNeg ri) hx hb hG hP hS 14 rfl (wM_st14 cI a _ _ _) (by assumption) dX6_unlock_101 (fun H locs hP hS => ?_)
          refine lv_aload_n hx hb dX6_unlock_102 rfl (lv_at hl 1 rfl) ?_
          refine x_get (ci := 6) (C := RX6) (T := TX6) (M := 29) (v := .ref (a 15)) hx hb hts in_X6_unlock_6 hown hG hP 0 rfl rfl 17 (by decide) (List.mem_of_getElem? (i := 5) rfl) rfl rfl dX6_unlock_103 ?_
          refine lv_iload_n hx hb dX6_unlock_106 rfl (lv_at hl 2 rfl) ?_
          refine lv_aload_n hx hb dX6_unlock_107 rfl (lv_at hl 1 rfl) ?_
          refine x_get (ci := 6) (C := RX6) (T := TX6) (M := 29) (v := .int (σ 0 26)) hx hb hts in_X6_unlock_6 hown hG hP 0 rfl rfl 26 (by decide) (List.mem_of_getElem? (i := 6) rfl) rfl rfl dX6_unlock_108 ?_
          refine x_iast (w := wM cI a) (σ := sx (sx (sx (sx σ 9 (σ 12 cy.toNatClampNeg).toNatClampNeg ((σ 9 (σ 12 cy.toNatClampNeg).toNatClampNeg) - 1)) 11 cy.toNatClampNeg 2) 12 cy.toNatClampNeg ri) 14 cy.toNatClampNeg mi) hx hb hG hP hS 15 rfl (wM_st15 cI a _ _ _) (by assumption) dX6_unlock_111 (fun H locs hP hS => ?_)
          refine lv_aload_n hx hb dX6_unlock_112 rfl (lv_at hl 1 rfl) ?_
          refine x_get (ci := 6) (C := RX6) (T := TX6) (M := 29) (v := .ref (a 16)) hx hb hts in_X6_unlock_6 hown hG hP 0 rfl rfl 18 (by decide) (List.mem_of_getElem? (i := 7) rfl) rfl rfl dX6_unlock_113 ?_
          refine lv_iload_n hx hb dX6_unlock_116 rfl (lv_at hl 2 rfl) ?_
          refine lv_iconst (v := 0) hx hb dX6_unlock_117 (by decide) ?_
          refine x_iast (w := wM cI a) (σ := sx (sx (sx (sx (sx σ 9 (σ 12 cy.toNatClampNeg).toNatClampNeg ((σ 9 (σ 12 cy.toNatClampNeg).toNatClampNeg) - 1)) 11 cy.toNatClampNeg 2) 12 cy.toNatClampNeg ri) 14 cy.toNatClampNeg mi) 15 cy.toNatClampNeg (σ 0 26)) hx hb hG hP hS 16 rfl (wM_st16 cI a _ _ _) (by assumption) dX6_unlock_118 (fun H locs hP hS => ?_)
          refine lv_aload_n hx hb dX6_unlock_119 rfl (lv_at hl 1 rfl) ?_
          refine x_get (ci := 6) (C := RX6) (T := TX6) (M := 29) (v := .ref (a 18)) hx hb hts in_X6_unlock_6 hown hG hP 0 rfl rfl 20 (by decide) (List.mem_of_getElem? (i := 8) rfl) rfl rfl dX6_unlock_120 ?_
          refine lv_iload_n hx hb dX6_unlock_123 rfl (lv_at hl 3 rfl) ?_
          refine lv_dup2_11 hx hb dX6_unlock_124 rfl rfl ?_
          refine x_iald (f := σ 18) hx hb hG hP 18 rfl (by assumption) dX6_unlock_125 ?_
          refine lv_iconst (v := 1) hx hb dX6_unlock_126 (by decide) ?_
          refine lv_iadd hx hb dX6_unlock_127 ?_
          refine x_iast (w := wM cI a) (σ := sx (sx (sx (sx (sx (sx σ 9 (σ 12 cy.toNatClampNeg).toNatClampNeg ((σ 9 (σ 12 cy.toNatClampNeg).toNatClampNeg) - 1)) 11 cy.toNatClampNeg 2) 12 cy.toNatClampNeg ri) 14 cy.toNatClampNeg mi) 15 cy.toNatClampNeg (σ 0 26)) 16 cy.toNatClampNeg 0) hx hb hG hP hS 18 rfl (wM_st18 cI a _ _ _) (by assumption) dX6_unlock_128 (fun H locs hP hS => ?_)
          refine lv_iconst (v := 1) hx hb dX6_unlock_129 (by decide) ?_
          exact x_iret hx hb hr hlk hsz hP hS rfl (by rw [r_X6_unlock, if_pos h_1, if_pos h_4, if_pos h_5, if_pos h_6]) (by rw [s_X6_unlock, if_pos h_1, if_pos h_4, if_pos h_5, if_pos h_6]) dX6_unlock_130
        · refine lv_iconst (v := 0) hx hb dX6_unlock_50 (by decide) ?_
          exact x_iret hx hb hr hlk hsz hP hS rfl (by rw [r_X6_unlock, if_pos h_1, if_pos h_4, if_pos h_5, if_neg h_6]) (by rw [s_X6_unlock, if_pos h_1, if_pos h_4, if_pos h_5, if_neg h_6]) dX6_unlock_51
    · refine lv_iconst (v := 1) hx hb dX6_unlock_20 (by decide) ?_
      refine lv_goto (tgt := 25) hx hb dX6_unlock_21 (by decide) ?_
      refine lv_istore (lv' := [(4, .int 1), (0, .ref (a 0)), (1, .int cy), (2, .int ri), (3, .int mi)]) hx hb dX6_unlock_25 hl (by decide) rfl (fun ls hl => ?_)
      refine lv_iload hx hb dX6_unlock_27 (lv_at hl 0 rfl) ?_
      refine lv_if_ne (tgt := 52) hx hb dX6_unlock_29 (by decide) (fun _ => ?_) (fun h => absurd h (by decide))
      refine lv_iload hx hb dX6_unlock_52 (lv_at hl 0 rfl) ?_
      refine lv_if_eq (tgt := 66) hx hb dX6_unlock_54 (by decide) (fun h => absurd h (by decide)) (fun _ => ?_)
      refine lv_aload_n hx hb dX6_unlock_57 rfl (lv_at hl 1 rfl) ?_
      refine lv_iload_n hx hb dX6_unlock_58 rfl (lv_at hl 2 rfl) ?_
      refine lv_iload_n hx hb dX6_unlock_59 rfl (lv_at hl 4 rfl) ?_
      refine x_callVv (w := wM cI a) (σ := σ) (σ' := s_X6_ride σ cy mi) (As := [.int cy, .int mi]) (rest := []) (q0 := 0) ⟨hx, hb, hml, hown, hts⟩ hG hP hS hsz (c_X6_ride l D cI a H.size σ cy mi (by assumption) (hR h_1)) (cwV 2 hts gX6_unlock_X6_ride rfl rfl rfl (by decide +kernel) ⟨Nat.le_of_ble_eq_true rfl, Nat.le_of_ble_eq_true rfl⟩) rfl rfl rfl rfl hl.1 rfl (Nat.le_of_ble_eq_true rfl) ⟨Nat.zero_le _, Nat.zero_le _⟩ dX6_unlock_60 (fun H locs hP hS => ?_)
      refine lv_goto (tgt := 81) hx hb dX6_unlock_63 (by decide) ?_
      refine lv_aload_n hx hb dX6_unlock_81 rfl (lv_at hl 1 rfl) ?_
      refine x_get (ci := 6) (C := RX6) (T := TX6) (M := 29) (v := .ref (a 11)) hx hb hts in_X6_unlock_6 hown hG hP 0 rfl rfl 13 (by decide) (List.mem_of_getElem? (i := 1) rfl) rfl rfl dX6_unlock_82 ?_
      refine lv_iload_n hx hb dX6_unlock_85 rfl (lv_at hl 2 rfl) ?_
      refine lv_iconst (v := 2) hx hb dX6_unlock_86 (by decide) ?_
      refine x_iast (w := wM cI a) (σ := s_X6_ride σ cy mi) hx hb hG hP hS 11 rfl (wM_st11 cI a _ _ _) (by assumption) dX6_unlock_87 (fun H locs hP hS => ?_)
      refine lv_aload_n hx hb dX6_unlock_88 rfl (lv_at hl 1 rfl) ?_
      refine x_get (ci := 6) (C := RX6) (T := TX6) (M := 29) (v := .ref (a 12)) hx hb hts in_X6_unlock_6 hown hG hP 0 rfl rfl 14 (by decide) (List.mem_of_getElem? (i := 2) rfl) rfl rfl dX6_unlock_89 ?_
      refine lv_iload_n hx hb dX6_unlock_92 rfl (lv_at hl 2 rfl) ?_
      refine lv_iload_n hx hb dX6_unlock_93 rfl (lv_at hl 3 rfl) ?_
      refine x_iast (w := wM cI a) (σ := sx (s_X6_ride σ cy mi) 11 cy.toNatClampNeg 2) hx hb hG hP hS 12 rfl (wM_st12 cI a _ _ _) (by assumption) dX6_unlock_94 (fun H locs hP hS => ?_)
      refine lv_aload_n hx hb dX6_unlock_95 rfl (lv_at hl 1 rfl) ?_
      refine x_get (ci := 6) (C := RX6) (T := TX6) (M := 29) (v := .ref (a 14)) hx hb hts in_X6_unlock_6 hown hG hP 0 rfl rfl 16 (by decide) (List.mem_of_getElem? (i := 4) rfl) rfl rfl dX6_unlock_96 ?_
      refine lv_iload_n hx hb dX6_unlock_99 rfl (lv_at hl 2 rfl) ?_
      refine lv_iload_n hx hb dX6_unlock_100 rfl (lv_at hl 4 rfl) ?_
      refine x_iast (w := wM cI a) (σ := sx (sx (s_X6_ride σ cy mi) 11 cy.toNatClampNeg 2) 12 cy.toNatClampNeg ri) hx hb hG hP hS 14 rfl (wM_st14 cI a _ _ _) (by assumption) dX6_unlock_101 (fun H locs hP hS => ?_)
      refine lv_aload_n hx hb dX6_unlock_102 rfl (lv_at hl 1 rfl) ?_
      refine x_get (ci := 6) (C := RX6) (T := TX6) (M := 29) (v := .ref (a 15)) hx hb hts in_X6_unlock_6 hown hG hP 0 rfl rfl 17 (by decide) (List.mem_of_getElem? (i := 5) rfl) rfl rfl dX6_unlock_103 ?_
      refine lv_iload_n hx hb dX6_unlock_106 rfl (lv_at hl 2 rfl) ?_
      refine lv_aload_n hx hb dX6_unlock_107 rfl (lv_at hl 1 rfl) ?_
      refine x_get (ci := 6) (C := RX6) (T := TX6) (M := 29) (v := .int ((sx (sx (sx (s_X6_ride σ cy mi) 11 cy.toNatClampNeg 2) 12 cy.toNatClampNeg ri) 14 cy.toNatClampNeg mi) 0 26)) hx hb hts in_X6_unlock_6 hown hG hP 0 rfl rfl 26 (by decide) (List.mem_of_getElem? (i := 6) rfl) rfl rfl dX6_unlock_108 ?_
      refine x_iast (w := wM cI a) (σ := sx (sx (sx (s_X6_ride σ cy mi) 11 cy.toNatClampNeg 2) 12 cy.toNatClampNeg ri) 14 cy.toNatClampNeg mi) hx hb hG hP hS 15 rfl (wM_st15 cI a _ _ _) (by assumption) dX6_unlock_111 (fun H locs hP hS => ?_)
      refine lv_aload_n hx hb dX6_unlock_112 rfl (lv_at hl 1 rfl) ?_
      refine x_get (ci := 6) (C := RX6) (T := TX6) (M := 29) (v := .ref (a 16)) hx hb hts in_X6_unlock_6 hown hG hP 0 rfl rfl 18 (by decide) (List.mem_of_getElem? (i := 7) rfl) rfl rfl dX6_unlock_113 ?_
      refine lv_iload_n hx hb dX6_unlock_116 rfl (lv_at hl 2 rfl) ?_
      refine lv_iconst (v := 0) hx hb dX6_unlock_117 (by decide) ?_
      refine x_iast (w := wM cI a) (σ := sx (sx (sx (sx (s_X6_ride σ cy mi) 11 cy.toNatClampNeg 2) 12 cy.toNatClampNeg ri) 14 cy.toNatClampNeg mi) 15 cy.toNatClampNeg ((sx (sx (sx (s_X6_ride σ cy mi) 11 cy.toNatClampNeg 2) 12 cy.toNatClampNeg ri) 14 cy.toNatClampNeg mi) 0 26)) hx hb hG hP hS 16 rfl (wM_st16 cI a _ _ _) (by assumption) dX6_unlock_118 (fun H locs hP hS => ?_)
      refine lv_aload_n hx hb dX6_unlock_119 rfl (lv_at hl 1 rfl) ?_
      refine x_get (ci := 6) (C := RX6) (T := TX6) (M := 29) (v := .ref (a 18)) hx hb hts in_X6_unlock_6 hown hG hP 0 rfl rfl 20 (by decide) (List.mem_of_getElem? (i := 8) rfl) rfl rfl dX6_unlock_120 ?_
      refine lv_iload_n hx hb dX6_unlock_123 rfl (lv_at hl 3 rfl) ?_
      refine lv_dup2_11 hx hb dX6_unlock_124 rfl rfl ?_
      refine x_iald (f := (sx (sx (sx (sx (sx (s_X6_ride σ cy mi) 11 cy.toNatClampNeg 2) 12 cy.toNatClampNeg ri) 14 cy.toNatClampNeg mi) 15 cy.toNatClampNeg ((sx (sx (sx (s_X6_ride σ cy mi) 11 cy.toNatClampNeg 2) 12 cy.toNatClampNeg ri) 14 cy.toNatClampNeg mi) 0 26)) 16 cy.toNatClampNeg 0) 18) hx hb hG hP 18 rfl (by assumption) dX6_unlock_125 ?_
      refine lv_iconst (v := 1) hx hb dX6_unlock_126 (by decide) ?_
      refine lv_iadd hx hb dX6_unlock_127 ?_
      refine x_iast (w := wM cI a) (σ := sx (sx (sx (sx (sx (s_X6_ride σ cy mi) 11 cy.toNatClampNeg 2) 12 cy.toNatClampNeg ri) 14 cy.toNatClampNeg mi) 15 cy.toNatClampNeg ((sx (sx (sx (s_X6_ride σ cy mi) 11 cy.toNatClampNeg 2) 12 cy.toNatClampNeg ri) 14 cy.toNatClampNeg mi) 0 26)) 16 cy.toNatClampNeg 0) hx hb hG hP hS 18 rfl (wM_st18 cI a _ _ _) (by assumption) dX6_unlock_128 (fun H locs hP hS => ?_)
      refine lv_iconst (v := 1) hx hb dX6_unlock_129 (by decide) ?_
      exact x_iret hx hb hr hlk hsz hP hS rfl (by rw [r_X6_unlock, if_pos h_1, if_neg h_4]) (by rw [s_X6_unlock, if_pos h_1, if_neg h_4]) dX6_unlock_130
theorem in_X6_lock_6 : ∀ wd ∈ u_ws RX6 TX6 29, wd ∈ wsX6_lock := by decide +kernel
def r_X6_lock (σ : Sg) (cy : Int32) (st : Int32) (mi : Int32) : Int32 :=
  if σ 11 cy.toNatClampNeg = 2 then
    if r_X6_free σ st ≤ r_X6_promises σ st (σ 12 cy.toNatClampNeg) mi then
      if r_X6_isPromised σ (σ 12 cy.toNatClampNeg) st mi = 0 then
        0
      else
        0
    else
      if r_X6_isPromised σ (σ 12 cy.toNatClampNeg) st mi = 0 then
        1
      else
        1
  else
    0
def s_X6_lock (σ : Sg) (cy : Int32) (st : Int32) (mi : Int32) : Sg :=
  if σ 11 cy.toNatClampNeg = 2 then
    if r_X6_free σ st ≤ r_X6_promises σ st (σ 12 cy.toNatClampNeg) mi then
      if r_X6_isPromised σ (σ 12 cy.toNatClampNeg) st mi = 0 then
        sx (sx (sx σ 22 (σ 12 cy.toNatClampNeg).toNatClampNeg (σ 22 (σ 12 cy.toNatClampNeg).toNatClampNeg)) 16 cy.toNatClampNeg ((σ 16 cy.toNatClampNeg) + 10)) 20 (σ 12 cy.toNatClampNeg).toNatClampNeg ((σ 20 (σ 12 cy.toNatClampNeg).toNatClampNeg) + 0)
      else
        sx (sx (sx σ 22 (σ 12 cy.toNatClampNeg).toNatClampNeg (-1)) 16 cy.toNatClampNeg ((σ 16 cy.toNatClampNeg) + 10)) 20 (σ 12 cy.toNatClampNeg).toNatClampNeg ((σ 20 (σ 12 cy.toNatClampNeg).toNatClampNeg) + 100)
    else
      if r_X6_isPromised σ (σ 12 cy.toNatClampNeg) st mi = 0 then
        s_X6_dock (s_X6_ride (sx σ 22 (σ 12 cy.toNatClampNeg).toNatClampNeg (σ 22 (σ 12 cy.toNatClampNeg).toNatClampNeg)) cy mi) cy st
      else
        s_X6_dock (s_X6_ride (sx σ 22 (σ 12 cy.toNatClampNeg).toNatClampNeg (-1)) cy mi) cy st
  else
    σ
theorem b_X6_lock (σ : Sg) (cy : Int32) (st : Int32) (mi : Int32) : r_X6_lock σ cy st mi = 0 ∨ r_X6_lock σ cy st mi = 1 := by
  unfold r_X6_lock
  repeat' split
  all_goals first | with_reducible exact Or.inl rfl | with_reducible exact Or.inr rfl
set_option maxHeartbeats 4000000 in
set_option maxRecDepth 100000 in
theorem c_X6_lock (l : Launch) (D : va_G) (cI : ClassId) (a : Nat → Nat) (sz : Nat) (σ : Sg) (cy : Int32) (st : Int32) (mi : Int32) (hc : vp_in cy 30) (hs : vp_in st 8) (hR : σ 11 cy.toNatClampNeg = 2 → vp_in (σ 12 cy.toNatClampNeg) 10) : Met l yX6_lock wsX6_lock ({ frames := 2, cells := 0, slots := 0, locals := 48 }) (PcW D cI 24 a (wM cI a) sz σ [.ref (a 0), .int cy, .int st, .int mi]) (QiW D 24 a (wM cI a) sz (r_X6_lock σ cy st mi) (s_X6_lock σ cy st mi)) 0 0 (AX 24 a sz) := by
  refine x_of (cc := cX6_lock) (maxL := 7) (ret := some .boolean) (C := RX6) rfl (by decide) rfl (Nat.le_of_ble_eq_true rfl) (fun p e s m below meth c hx hb hr hml hlk hts hown hsz H hP hS hG ls hl => ?_)
  have hl : lv_has ls 7 [(0, .ref (a 0)), (1, .int cy), (2, .int st), (3, .int mi)] := hl
  refine lv_aload_n hx hb dX6_lock_0 rfl (lv_at hl 0 rfl) ?_
  refine x_get (ci := 6) (C := RX6) (T := TX6) (M := 29) (v := .ref (a 11)) hx hb hts in_X6_lock_6 hown hG hP 0 rfl rfl 13 (by decide) (List.mem_of_getElem? (i := 1) rfl) rfl rfl dX6_lock_1 ?_
  refine lv_iload_n hx hb dX6_lock_4 rfl (lv_at hl 1 rfl) ?_
  refine x_iald (f := σ 11) hx hb hG hP 11 rfl (by assumption) dX6_lock_5 ?_
  refine lv_iconst (v := 2) hx hb dX6_lock_6 (by decide) ?_
  refine lv_icmp_eq (tgt := 12) hx hb dX6_lock_7 (by decide) (fun h_1 => ?_) (fun h_1 => ?_)
  · refine lv_aload_n hx hb dX6_lock_12 rfl (lv_at hl 0 rfl) ?_
    refine x_get (ci := 6) (C := RX6) (T := TX6) (M := 29) (v := .ref (a 12)) hx hb hts in_X6_lock_6 hown hG hP 0 rfl rfl 14 (by decide) (List.mem_of_getElem? (i := 2) rfl) rfl rfl dX6_lock_13 ?_
    refine lv_iload_n hx hb dX6_lock_16 rfl (lv_at hl 1 rfl) ?_
    refine x_iald (f := σ 12) hx hb hG hP 12 rfl (by assumption) dX6_lock_17 ?_
    refine lv_istore (lv' := [(4, .int (σ 12 cy.toNatClampNeg)), (0, .ref (a 0)), (1, .int cy), (2, .int st), (3, .int mi)]) hx hb dX6_lock_18 hl (by decide) rfl (fun ls hl => ?_)
    refine lv_aload_n hx hb dX6_lock_20 rfl (lv_at hl 1 rfl) ?_
    refine lv_iload_n hx hb dX6_lock_21 rfl (lv_at hl 3 rfl) ?_
    refine x_callVi (w := wM cI a) (σ := σ) (σ' := σ) (As := [.int st]) (rest := []) (q0 := 0) ⟨hx, hb, hml, hown, hts⟩ hG hP hS hsz (c_X6_free l D cI a H.size σ st (by assumption)) (cwV 1 hts gX6_lock_X6_free rfl rfl rfl (by decide +kernel) ⟨Nat.le_of_ble_eq_true rfl, Nat.le_of_ble_eq_true rfl⟩) rfl rfl rfl rfl hl.1 rfl (Nat.le_of_ble_eq_true rfl) ⟨Nat.zero_le _, Nat.zero_le _⟩ dX6_lock_22 (fun H locs hP hS => ?_)
    refine lv_aload_n hx hb dX6_lock_25 rfl (lv_at hl 1 rfl) ?_
    refine lv_iload_n hx hb dX6_lock_26 rfl (lv_at hl 3 rfl) ?_
    refine lv_iload hx hb dX6_lock_27 (lv_at hl 0 rfl) ?_
    refine lv_iload_n hx hb dX6_lock_29 rfl (lv_at hl 4 rfl) ?_
    refine x_callVi (w := wM cI a) (σ := σ) (σ' := σ) (As := [.int st, .int (σ 12 cy.toNatClampNeg), .int mi]) (rest := [.int (r_X6_free σ st)]) (q0 := 0) ⟨hx, hb, hml, hown, hts⟩ hG hP hS hsz (c_X6_promises l D cI a H.size σ st (σ 12 cy.toNatClampNeg) mi) (cwV 3 hts gX6_lock_X6_promises rfl rfl rfl (by decide +kernel) ⟨Nat.le_of_ble_eq_true rfl, Nat.le_of_ble_eq_true rfl⟩) rfl rfl rfl rfl hl.1 rfl (Nat.le_of_ble_eq_true rfl) ⟨Nat.zero_le _, Nat.zero_le _⟩ dX6_lock_30 (fun H locs hP hS => ?_)
    refine lv_icmp_le (tgt := 40) hx hb dX6_lock_33 (by decide) (fun h_2 => ?_) (fun h_2 => ?_)
    · refine lv_iconst (v := 0) hx hb dX6_lock_40 (by decide) ?_
      refine lv_istore (lv' := [(5, .int 0), (4, .int (σ 12 cy.toNatClampNeg)), (0, .ref (a 0)), (1, .int cy), (2, .int st), (3, .int mi)]) hx hb dX6_lock_41 hl (by decide) rfl (fun ls hl => ?_)
      refine lv_aload_n hx hb dX6_lock_43 rfl (lv_at hl 2 rfl) ?_
      refine lv_iload hx hb dX6_lock_44 (lv_at hl 1 rfl) ?_
      refine lv_iload_n hx hb dX6_lock_46 rfl (lv_at hl 4 rfl) ?_
      refine lv_iload_n hx hb dX6_lock_47 rfl (lv_at hl 5 rfl) ?_
      refine x_callVi (w := wM cI a) (σ := σ) (σ' := σ) (As := [.int (σ 12 cy.toNatClampNeg), .int st, .int mi]) (rest := []) (q0 := 0) ⟨hx, hb, hml, hown, hts⟩ hG hP hS hsz (c_X6_isPromised l D cI a H.size σ (σ 12 cy.toNatClampNeg) st mi (hR h_1)) (cwV 3 hts gX6_lock_X6_isPromised rfl rfl rfl (by decide +kernel) ⟨Nat.le_of_ble_eq_true rfl, Nat.le_of_ble_eq_true rfl⟩) rfl rfl rfl rfl hl.1 rfl (Nat.le_of_ble_eq_true rfl) ⟨Nat.zero_le _, Nat.zero_le _⟩ dX6_lock_48 (fun H locs hP hS => ?_)
      refine lv_istore (lv' := [(6, .int (r_X6_isPromised σ (σ 12 cy.toNatClampNeg) st mi)), (5, .int 0), (4, .int (σ 12 cy.toNatClampNeg)), (0, .ref (a 0)), (1, .int cy), (2, .int st), (3, .int mi)]) hx hb dX6_lock_51 hl (by decide) rfl (fun ls hl => ?_)
      refine lv_aload_n hx hb dX6_lock_53 rfl (lv_at hl 3 rfl) ?_
      refine x_get (ci := 6) (C := RX6) (T := TX6) (M := 29) (v := .ref (a 22)) hx hb hts in_X6_lock_6 hown hG hP 0 rfl rfl 24 (by decide) (List.mem_of_getElem? (i := 3) rfl) rfl rfl dX6_lock_54 ?_
      refine lv_iload hx hb dX6_lock_57 (lv_at hl 2 rfl) ?_
      refine lv_iload hx hb dX6_lock_59 (lv_at hl 0 rfl) ?_
      refine lv_if_eq (tgt := 68) hx hb dX6_lock_61 (by decide) (fun h_3 => ?_) (fun h_3 => ?_)
      · refine lv_aload_n hx hb dX6_lock_68 rfl (lv_at hl 3 rfl) ?_
        refine x_get (ci := 6) (C := RX6) (T := TX6) (M := 29) (v := .ref (a 22)) hx hb hts in_X6_lock_6 hown hG hP 0 rfl rfl 24 (by decide) (List.mem_of_getElem? (i := 3) rfl) rfl rfl dX6_lock_69 ?_
        refine lv_iload hx hb dX6_lock_72 (lv_at hl 2 rfl) ?_
        refine x_iald (f := σ 22) hx hb hG hP 22 rfl (hR h_1) dX6_lock_74 ?_
        refine x_iast (w := wM cI a) (σ := σ) hx hb hG hP hS 22 rfl (wM_st22 cI a _ _ _) (hR h_1) dX6_lock_75 (fun H locs hP hS => ?_)
        refine lv_iload hx hb dX6_lock_76 (lv_at hl 1 rfl) ?_
        refine lv_if_eq (tgt := 96) hx hb dX6_lock_78 (by decide) (fun _ => ?_) (fun h => absurd (by decide) h)
        refine lv_aload_n hx hb dX6_lock_96 rfl (lv_at hl 3 rfl) ?_
        refine x_get (ci := 6) (C := RX6) (T := TX6) (M := 29) (v := .ref (a 16)) hx hb hts in_X6_lock_6 hown hG hP 0 rfl rfl 18 (by decide) (List.mem_of_getElem? (i := 4) rfl) rfl rfl dX6_lock_97 ?_
        refine lv_iload_n hx hb dX6_lock_100 rfl (lv_at hl 4 rfl) ?_
        refine lv_dup2_11 hx hb dX6_lock_101 rfl rfl ?_
        refine x_iald (f := σ 16) hx hb hG hP 16 rfl (by assumption) dX6_lock_102 ?_
        refine lv_bipush (v := 10) hx hb dX6_lock_103 (by decide) ?_
        refine lv_iadd hx hb dX6_lock_105 ?_
        refine x_iast (w := wM cI a) (σ := sx σ 22 (σ 12 cy.toNatClampNeg).toNatClampNeg (σ 22 (σ 12 cy.toNatClampNeg).toNatClampNeg)) hx hb hG hP hS 16 rfl (wM_st16 cI a _ _ _) (by assumption) dX6_lock_106 (fun H locs hP hS => ?_)
        refine lv_aload_n hx hb dX6_lock_107 rfl (lv_at hl 3 rfl) ?_
        refine x_get (ci := 6) (C := RX6) (T := TX6) (M := 29) (v := .ref (a 20)) hx hb hts in_X6_lock_6 hown hG hP 0 rfl rfl 22 (by decide) (List.mem_of_getElem? (i := 5) rfl) rfl rfl dX6_lock_108 ?_
        refine lv_iload hx hb dX6_lock_111 (lv_at hl 2 rfl) ?_
        refine lv_dup2_11 hx hb dX6_lock_113 rfl rfl ?_
        refine x_iald (f := σ 20) hx hb hG hP 20 rfl (hR h_1) dX6_lock_114 ?_
        refine lv_iload hx hb dX6_lock_115 (lv_at hl 0 rfl) ?_
        refine lv_if_eq (tgt := 125) hx hb dX6_lock_117 (by decide) (fun _ => ?_) (fun h => absurd h_3 h)
        refine lv_iconst (v := 0) hx hb dX6_lock_125 (by decide) ?_
        refine lv_iadd hx hb dX6_lock_126 ?_
        refine x_iast (w := wM cI a) (σ := sx (sx σ 22 (σ 12 cy.toNatClampNeg).toNatClampNeg (σ 22 (σ 12 cy.toNatClampNeg).toNatClampNeg)) 16 cy.toNatClampNeg ((σ 16 cy.toNatClampNeg) + 10)) hx hb hG hP hS 20 rfl (wM_st20 cI a _ _ _) (hR h_1) dX6_lock_127 (fun H locs hP hS => ?_)
        refine lv_iload hx hb dX6_lock_128 (lv_at hl 1 rfl) ?_
        exact x_iret hx hb hr hlk hsz hP hS rfl (by rw [r_X6_lock, if_pos h_1, if_pos h_2, if_pos h_3]) (by rw [s_X6_lock, if_pos h_1, if_pos h_2, if_pos h_3]) dX6_lock_130
      · refine lv_iconst (v := (-1)) hx hb dX6_lock_64 (by decide) ?_
        refine lv_goto (tgt := 75) hx hb dX6_lock_65 (by decide) ?_
        refine x_iast (w := wM cI a) (σ := σ) hx hb hG hP hS 22 rfl (wM_st22 cI a _ _ _) (hR h_1) dX6_lock_75 (fun H locs hP hS => ?_)
        refine lv_iload hx hb dX6_lock_76 (lv_at hl 1 rfl) ?_
        refine lv_if_eq (tgt := 96) hx hb dX6_lock_78 (by decide) (fun _ => ?_) (fun h => absurd (by decide) h)
        refine lv_aload_n hx hb dX6_lock_96 rfl (lv_at hl 3 rfl) ?_
        refine x_get (ci := 6) (C := RX6) (T := TX6) (M := 29) (v := .ref (a 16)) hx hb hts in_X6_lock_6 hown hG hP 0 rfl rfl 18 (by decide) (List.mem_of_getElem? (i := 4) rfl) rfl rfl dX6_lock_97 ?_
        refine lv_iload_n hx hb dX6_lock_100 rfl (lv_at hl 4 rfl) ?_
        refine lv_dup2_11 hx hb dX6_lock_101 rfl rfl ?_
        refine x_iald (f := σ 16) hx hb hG hP 16 rfl (by assumption) dX6_lock_102 ?_
        refine lv_bipush (v := 10) hx hb dX6_lock_103 (by decide) ?_
        refine lv_iadd hx hb dX6_lock_105 ?_
        refine x_iast (w := wM cI a) (σ := sx σ 22 (σ 12 cy.toNatClampNeg).toNatClampNeg (-1)) hx hb hG hP hS 16 rfl (wM_st16 cI a _ _ _) (by assumption) dX6_lock_106 (fun H locs hP hS => ?_)
        refine lv_aload_n hx hb dX6_lock_107 rfl (lv_at hl 3 rfl) ?_
        refine x_get (ci := 6) (C := RX6) (T := TX6) (M := 29) (v := .ref (a 20)) hx hb hts in_X6_lock_6 hown hG hP 0 rfl rfl 22 (by decide) (List.mem_of_getElem? (i := 5) rfl) rfl rfl dX6_lock_108 ?_
        refine lv_iload hx hb dX6_lock_111 (lv_at hl 2 rfl) ?_
        refine lv_dup2_11 hx hb dX6_lock_113 rfl rfl ?_
        refine x_iald (f := σ 20) hx hb hG hP 20 rfl (hR h_1) dX6_lock_114 ?_
        refine lv_iload hx hb dX6_lock_115 (lv_at hl 0 rfl) ?_
        refine lv_if_eq (tgt := 125) hx hb dX6_lock_117 (by decide) (fun h => absurd h h_3) (fun _ => ?_)
        refine lv_bipush (v := 100) hx hb dX6_lock_120 (by decide) ?_
        refine lv_goto (tgt := 126) hx hb dX6_lock_122 (by decide) ?_
        refine lv_iadd hx hb dX6_lock_126 ?_
        refine x_iast (w := wM cI a) (σ := sx (sx σ 22 (σ 12 cy.toNatClampNeg).toNatClampNeg (-1)) 16 cy.toNatClampNeg ((σ 16 cy.toNatClampNeg) + 10)) hx hb hG hP hS 20 rfl (wM_st20 cI a _ _ _) (hR h_1) dX6_lock_127 (fun H locs hP hS => ?_)
        refine lv_iload hx hb dX6_lock_128 (lv_at hl 1 rfl) ?_
        exact x_iret hx hb hr hlk hsz hP hS rfl (by rw [r_X6_lock, if_pos h_1, if_pos h_2, if_neg h_3]) (by rw [s_X6_lock, if_pos h_1, if_pos h_2, if_neg h_3]) dX6_lock_130
    · refine lv_iconst (v := 1) hx hb dX6_lock_36 (by decide) ?_
      refine lv_goto (tgt := 41) hx hb dX6_lock_37 (by decide) ?_
      refine lv_istore (lv' := [(5, .int 1), (4, .int (σ 12 cy.toNatClampNeg)), (0, .ref (a 0)), (1, .int cy), (2, .int st), (3, .int mi)]) hx hb dX6_lock_41 hl (by decide) rfl (fun ls hl => ?_)
      refine lv_aload_n hx hb dX6_lock_43 rfl (lv_at hl 2 rfl) ?_
      refine lv_iload hx hb dX6_lock_44 (lv_at hl 1 rfl) ?_
      refine lv_iload_n hx hb dX6_lock_46 rfl (lv_at hl 4 rfl) ?_
      refine lv_iload_n hx hb dX6_lock_47 rfl (lv_at hl 5 rfl) ?_
      refine x_callVi (w := wM cI a) (σ := σ) (σ' := σ) (As := [.int (σ 12 cy.toNatClampNeg), .int st, .int mi]) (rest := []) (q0 := 0) ⟨hx, hb, hml, hown, hts⟩ hG hP hS hsz (c_X6_isPromised l D cI a H.size σ (σ 12 cy.toNatClampNeg) st mi (hR h_1)) (cwV 3 hts gX6_lock_X6_isPromised rfl rfl rfl (by decide +kernel) ⟨Nat.le_of_ble_eq_true rfl, Nat.le_of_ble_eq_true rfl⟩) rfl rfl rfl rfl hl.1 rfl (Nat.le_of_ble_eq_true rfl) ⟨Nat.zero_le _, Nat.zero_le _⟩ dX6_lock_48 (fun H locs hP hS => ?_)
      refine lv_istore (lv' := [(6, .int (r_X6_isPromised σ (σ 12 cy.toNatClampNeg) st mi)), (5, .int 1), (4, .int (σ 12 cy.toNatClampNeg)), (0, .ref (a 0)), (1, .int cy), (2, .int st), (3, .int mi)]) hx hb dX6_lock_51 hl (by decide) rfl (fun ls hl => ?_)
      refine lv_aload_n hx hb dX6_lock_53 rfl (lv_at hl 3 rfl) ?_
      refine x_get (ci := 6) (C := RX6) (T := TX6) (M := 29) (v := .ref (a 22)) hx hb hts in_X6_lock_6 hown hG hP 0 rfl rfl 24 (by decide) (List.mem_of_getElem? (i := 3) rfl) rfl rfl dX6_lock_54 ?_
      refine lv_iload hx hb dX6_lock_57 (lv_at hl 2 rfl) ?_
      refine lv_iload hx hb dX6_lock_59 (lv_at hl 0 rfl) ?_
      refine lv_if_eq (tgt := 68) hx hb dX6_lock_61 (by decide) (fun h_4 => ?_) (fun h_4 => ?_)
      · refine lv_aload_n hx hb dX6_lock_68 rfl (lv_at hl 3 rfl) ?_
        refine x_get (ci := 6) (C := RX6) (T := TX6) (M := 29) (v := .ref (a 22)) hx hb hts in_X6_lock_6 hown hG hP 0 rfl rfl 24 (by decide) (List.mem_of_getElem? (i := 3) rfl) rfl rfl dX6_lock_69 ?_
        refine lv_iload hx hb dX6_lock_72 (lv_at hl 2 rfl) ?_
        refine x_iald (f := σ 22) hx hb hG hP 22 rfl (hR h_1) dX6_lock_74 ?_
        refine x_iast (w := wM cI a) (σ := σ) hx hb hG hP hS 22 rfl (wM_st22 cI a _ _ _) (hR h_1) dX6_lock_75 (fun H locs hP hS => ?_)
        refine lv_iload hx hb dX6_lock_76 (lv_at hl 1 rfl) ?_
        refine lv_if_eq (tgt := 96) hx hb dX6_lock_78 (by decide) (fun h => absurd h (by decide)) (fun _ => ?_)
        refine lv_aload_n hx hb dX6_lock_81 rfl (lv_at hl 3 rfl) ?_
        refine lv_iload_n hx hb dX6_lock_82 rfl (lv_at hl 4 rfl) ?_
        refine lv_iload_n hx hb dX6_lock_83 rfl (lv_at hl 6 rfl) ?_
        refine x_callVv (w := wM cI a) (σ := sx σ 22 (σ 12 cy.toNatClampNeg).toNatClampNeg (σ 22 (σ 12 cy.toNatClampNeg).toNatClampNeg)) (σ' := s_X6_ride (sx σ 22 (σ 12 cy.toNatClampNeg).toNatClampNeg (σ 22 (σ 12 cy.toNatClampNeg).toNatClampNeg)) cy mi) (As := [.int cy, .int mi]) (rest := []) (q0 := 0) ⟨hx, hb, hml, hown, hts⟩ hG hP hS hsz (c_X6_ride l D cI a H.size (sx σ 22 (σ 12 cy.toNatClampNeg).toNatClampNeg (σ 22 (σ 12 cy.toNatClampNeg).toNatClampNeg)) cy mi (by assumption) (hR h_1)) (cwV 2 hts gX6_lock_X6_ride rfl rfl rfl (by decide +kernel) ⟨Nat.le_of_ble_eq_true rfl, Nat.le_of_ble_eq_true rfl⟩) rfl rfl rfl rfl hl.1 rfl (Nat.le_of_ble_eq_true rfl) ⟨Nat.zero_le _, Nat.zero_le _⟩ dX6_lock_84 (fun H locs hP hS => ?_)
        refine lv_aload_n hx hb dX6_lock_87 rfl (lv_at hl 3 rfl) ?_
        refine lv_iload_n hx hb dX6_lock_88 rfl (lv_at hl 4 rfl) ?_
        refine lv_iload_n hx hb dX6_lock_89 rfl (lv_at hl 5 rfl) ?_
        refine x_callVv (w := wM cI a) (σ := s_X6_ride (sx σ 22 (σ 12 cy.toNatClampNeg).toNatClampNeg (σ 22 (σ 12 cy.toNatClampNeg).toNatClampNeg)) cy mi) (σ' := s_X6_dock (s_X6_ride (sx σ 22 (σ 12 cy.toNatClampNeg).toNatClampNeg (σ 22 (σ 12 cy.toNatClampNeg).toNatClampNeg)) cy mi) cy st) (As := [.int cy, .int st]) (rest := []) (q0 := 0) ⟨hx, hb, hml, hown, hts⟩ hG hP hS hsz (c_X6_dock l D cI a H.size (s_X6_ride (sx σ 22 (σ 12 cy.toNatClampNeg).toNatClampNeg (σ 22 (σ 12 cy.toNatClampNeg).toNatClampNeg)) cy mi) cy st (by assumption) (by assumption)) (cwV 2 hts gX6_lock_X6_dock rfl rfl rfl (by decide +kernel) ⟨Nat.le_of_ble_eq_true rfl, Nat.le_of_ble_eq_true rfl⟩) rfl rfl rfl rfl hl.1 rfl (Nat.le_of_ble_eq_true rfl) ⟨Nat.zero_le _, Nat.zero_le _⟩ dX6_lock_90 (fun H locs hP hS => ?_)
        refine lv_goto (tgt := 128) hx hb dX6_lock_93 (by decide) ?_
        refine lv_iload hx hb dX6_lock_128 (lv_at hl 1 rfl) ?_
        exact x_iret hx hb hr hlk hsz hP hS rfl (by rw [r_X6_lock, if_pos h_1, if_neg h_2, if_pos h_4]) (by rw [s_X6_lock, if_pos h_1, if_neg h_2, if_pos h_4]) dX6_lock_130
      · refine lv_iconst (v := (-1)) hx hb dX6_lock_64 (by decide) ?_
        refine lv_goto (tgt := 75) hx hb dX6_lock_65 (by decide) ?_
        refine x_iast (w := wM cI a) (σ := σ) hx hb hG hP hS 22 rfl (wM_st22 cI a _ _ _) (hR h_1) dX6_lock_75 (fun H locs hP hS => ?_)
        refine lv_iload hx hb dX6_lock_76 (lv_at hl 1 rfl) ?_
        refine lv_if_eq (tgt := 96) hx hb dX6_lock_78 (by decide) (fun h => absurd h (by decide)) (fun _ => ?_)
        refine lv_aload_n hx hb dX6_lock_81 rfl (lv_at hl 3 rfl) ?_
        refine lv_iload_n hx hb dX6_lock_82 rfl (lv_at hl 4 rfl) ?_
        refine lv_iload_n hx hb dX6_lock_83 rfl (lv_at hl 6 rfl) ?_
        refine x_callVv (w := wM cI a) (σ := sx σ 22 (σ 12 cy.toNatClampNeg).toNatClampNeg (-1)) (σ' := s_X6_ride (sx σ 22 (σ 12 cy.toNatClampNeg).toNatClampNeg (-1)) cy mi) (As := [.int cy, .int mi]) (rest := []) (q0 := 0) ⟨hx, hb, hml, hown, hts⟩ hG hP hS hsz (c_X6_ride l D cI a H.size (sx σ 22 (σ 12 cy.toNatClampNeg).toNatClampNeg (-1)) cy mi (by assumption) (hR h_1)) (cwV 2 hts gX6_lock_X6_ride rfl rfl rfl (by decide +kernel) ⟨Nat.le_of_ble_eq_true rfl, Nat.le_of_ble_eq_true rfl⟩) rfl rfl rfl rfl hl.1 rfl (Nat.le_of_ble_eq_true rfl) ⟨Nat.zero_le _, Nat.zero_le _⟩ dX6_lock_84 (fun H locs hP hS => ?_)
        refine lv_aload_n hx hb dX6_lock_87 rfl (lv_at hl 3 rfl) ?_
        refine lv_iload_n hx hb dX6_lock_88 rfl (lv_at hl 4 rfl) ?_
        refine lv_iload_n hx hb dX6_lock_89 rfl (lv_at hl 5 rfl) ?_
        refine x_callVv (w := wM cI a) (σ := s_X6_ride (sx σ 22 (σ 12 cy.toNatClampNeg).toNatClampNeg (-1)) cy mi) (σ' := s_X6_dock (s_X6_ride (sx σ 22 (σ 12 cy.toNatClampNeg).toNatClampNeg (-1)) cy mi) cy st) (As := [.int cy, .int st]) (rest := []) (q0 := 0) ⟨hx, hb, hml, hown, hts⟩ hG hP hS hsz (c_X6_dock l D cI a H.size (s_X6_ride (sx σ 22 (σ 12 cy.toNatClampNeg).toNatClampNeg (-1)) cy mi) cy st (by assumption) (by assumption)) (cwV 2 hts gX6_lock_X6_dock rfl rfl rfl (by decide +kernel) ⟨Nat.le_of_ble_eq_true rfl, Nat.le_of_ble_eq_true rfl⟩) rfl rfl rfl rfl hl.1 rfl (Nat.le_of_ble_eq_true rfl) ⟨Nat.zero_le _, Nat.zero_le _⟩ dX6_lock_90 (fun H locs hP hS => ?_)
        refine lv_goto (tgt := 128) hx hb dX6_lock_93 (by decide) ?_
        refine lv_iload hx hb dX6_lock_128 (lv_at hl 1 rfl) ?_
        exact x_iret hx hb hr hlk hsz hP hS rfl (by rw [r_X6_lock, if_pos h_1, if_neg h_2, if_neg h_4]) (by rw [s_X6_lock, if_pos h_1, if_neg h_2, if_neg h_4]) dX6_lock_130
  · refine lv_iconst (v := 0) hx hb dX6_lock_10 (by decide) ?_
    exact x_iret hx hb hr hlk hsz hP hS rfl (by rw [r_X6_lock, if_neg h_1]) (by rw [s_X6_lock, if_neg h_1]) dX6_lock_11
theorem in_X6_putCycle_6 : ∀ wd ∈ u_ws RX6 TX6 29, wd ∈ wsX6_putCycle := by decide +kernel
def r_X6_putCycle (σ : Sg) (cy : Int32) (st : Int32) : Int32 :=
  if σ 11 cy.toNatClampNeg = 0 then
    if r_X6_free σ st ≤ 0 then
      0
    else
      1
  else
    if σ 11 cy.toNatClampNeg = 3 then
      if r_X6_free σ st ≤ 0 then
        0
      else
        1
    else
      0
def s_X6_putCycle (σ : Sg) (cy : Int32) (st : Int32) : Sg :=
  if σ 11 cy.toNatClampNeg = 0 then
    if r_X6_free σ st ≤ 0 then
      σ
    else
      s_X6_dock σ cy st
  else
    if σ 11 cy.toNatClampNeg = 3 then
      if r_X6_free σ st ≤ 0 then
        σ
      else
        s_X6_dock σ cy st
    else
      σ
theorem b_X6_putCycle (σ : Sg) (cy : Int32) (st : Int32) : r_X6_putCycle σ cy st = 0 ∨ r_X6_putCycle σ cy st = 1 := by
  unfold r_X6_putCycle
  repeat' split
  all_goals first | with_reducible exact Or.inl rfl | with_reducible exact Or.inr rfl
set_option maxHeartbeats 4000000 in
set_option maxRecDepth 100000 in
theorem c_X6_putCycle (l : Launch) (D : va_G) (cI : ClassId) (a : Nat → Nat) (sz : Nat) (σ : Sg) (cy : Int32) (st : Int32) (hc : vp_in cy 30) (hs : vp_in st 8) : Met l yX6_putCycle wsX6_putCycle ({ frames := 1, cells := 0, slots := 0, locals := 22 }) (PcW D cI 24 a (wM cI a) sz σ [.ref (a 0), .int cy, .int st]) (QiW D 24 a (wM cI a) sz (r_X6_putCycle σ cy st) (s_X6_putCycle σ cy st)) 0 0 (AX 24 a sz) := by
  refine x_of (cc := cX6_putCycle) (maxL := 4) (ret := some .boolean) (C := RX6) rfl (by decide) rfl (Nat.le_of_ble_eq_true rfl) (fun p e s m below meth c hx hb hr hml hlk hts hown hsz H hP hS hG ls hl => ?_)
  have hl : lv_has ls 4 [(0, .ref (a 0)), (1, .int cy), (2, .int st)] := hl
  refine lv_aload_n hx hb dX6_putCycle_0 rfl (lv_at hl 0 rfl) ?_
  refine x_get (ci := 6) (C := RX6) (T := TX6) (M := 29) (v := .ref (a 11)) hx hb hts in_X6_putCycle_6 hown hG hP 0 rfl rfl 13 (by decide) (List.mem_of_getElem? (i := 1) rfl) rfl rfl dX6_putCycle_1 ?_
  refine lv_iload_n hx hb dX6_putCycle_4 rfl (lv_at hl 1 rfl) ?_
  refine x_iald (f := σ 11) hx hb hG hP 11 rfl (by assumption) dX6_putCycle_5 ?_
  refine lv_if_eq (tgt := 19) hx hb dX6_putCycle_6 (by decide) (fun h_1 => ?_) (fun h_1 => ?_)
  · refine lv_aload_n hx hb dX6_putCycle_19 rfl (lv_at hl 0 rfl) ?_
    refine lv_iload_n hx hb dX6_putCycle_20 rfl (lv_at hl 2 rfl) ?_
    refine x_callVi (w := wM cI a) (σ := σ) (σ' := σ) (As := [.int st]) (rest := []) (q0 := 0) ⟨hx, hb, hml, hown, hts⟩ hG hP hS hsz (c_X6_free l D cI a H.size σ st (by assumption)) (cwV 1 hts gX6_putCycle_X6_free rfl rfl rfl (by decide +kernel) ⟨Nat.le_of_ble_eq_true rfl, Nat.le_of_ble_eq_true rfl⟩) rfl rfl rfl rfl hl.1 rfl (Nat.le_of_ble_eq_true rfl) ⟨Nat.zero_le _, Nat.zero_le _⟩ dX6_putCycle_21 (fun H locs hP hS => ?_)
    refine lv_if_le (tgt := 31) hx hb dX6_putCycle_24 (by decide) (fun h_2 => ?_) (fun h_2 => ?_)
    · refine lv_iconst (v := 0) hx hb dX6_putCycle_31 (by decide) ?_
      refine lv_istore_n (lv' := [(3, .int 0), (0, .ref (a 0)), (1, .int cy), (2, .int st)]) hx hb dX6_putCycle_32 rfl hl (by decide) rfl (fun ls hl => ?_)
      refine lv_iload_n hx hb dX6_putCycle_33 rfl (lv_at hl 0 rfl) ?_
      refine lv_if_eq (tgt := 43) hx hb dX6_putCycle_34 (by decide) (fun _ => ?_) (fun h => absurd (by decide) h)
      refine lv_iload_n hx hb dX6_putCycle_43 rfl (lv_at hl 0 rfl) ?_
      exact x_iret hx hb hr hlk hsz hP hS rfl (by rw [r_X6_putCycle, if_pos h_1, if_pos h_2]) (by rw [s_X6_putCycle, if_pos h_1, if_pos h_2]) dX6_putCycle_44
    · refine lv_iconst (v := 1) hx hb dX6_putCycle_27 (by decide) ?_
      refine lv_goto (tgt := 32) hx hb dX6_putCycle_28 (by decide) ?_
      refine lv_istore_n (lv' := [(3, .int 1), (0, .ref (a 0)), (1, .int cy), (2, .int st)]) hx hb dX6_putCycle_32 rfl hl (by decide) rfl (fun ls hl => ?_)
      refine lv_iload_n hx hb dX6_putCycle_33 rfl (lv_at hl 0 rfl) ?_
      refine lv_if_eq (tgt := 43) hx hb dX6_putCycle_34 (by decide) (fun h => absurd h (by decide)) (fun _ => ?_)
      refine lv_aload_n hx hb dX6_putCycle_37 rfl (lv_at hl 1 rfl) ?_
      refine lv_iload_n hx hb dX6_putCycle_38 rfl (lv_at hl 2 rfl) ?_
      refine lv_iload_n hx hb dX6_putCycle_39 rfl (lv_at hl 3 rfl) ?_
      refine x_callVv (w := wM cI a) (σ := σ) (σ' := s_X6_dock σ cy st) (As := [.int cy, .int st]) (rest := []) (q0 := 0) ⟨hx, hb, hml, hown, hts⟩ hG hP hS hsz (c_X6_dock l D cI a H.size σ cy st (by assumption) (by assumption)) (cwV 2 hts gX6_putCycle_X6_dock rfl rfl rfl (by decide +kernel) ⟨Nat.le_of_ble_eq_true rfl, Nat.le_of_ble_eq_true rfl⟩) rfl rfl rfl rfl hl.1 rfl (Nat.le_of_ble_eq_true rfl) ⟨Nat.zero_le _, Nat.zero_le _⟩ dX6_putCycle_40 (fun H locs hP hS => ?_)
      refine lv_iload_n hx hb dX6_putCycle_43 rfl (lv_at hl 0 rfl) ?_
      exact x_iret hx hb hr hlk hsz hP hS rfl (by rw [r_X6_putCycle, if_pos h_1, if_neg h_2]) (by rw [s_X6_putCycle, if_pos h_1, if_neg h_2]) dX6_putCycle_44
  · refine lv_aload_n hx hb dX6_putCycle_9 rfl (lv_at hl 0 rfl) ?_
    refine x_get (ci := 6) (C := RX6) (T := TX6) (M := 29) (v := .ref (a 11)) hx hb hts in_X6_putCycle_6 hown hG hP 0 rfl rfl 13 (by decide) (List.mem_of_getElem? (i := 1) rfl) rfl rfl dX6_putCycle_10 ?_
    refine lv_iload_n hx hb dX6_putCycle_13 rfl (lv_at hl 1 rfl) ?_
    refine x_iald (f := σ 11) hx hb hG hP 11 rfl (by assumption) dX6_putCycle_14 ?_
    refine lv_iconst (v := 3) hx hb dX6_putCycle_15 (by decide) ?_
    refine lv_icmp_ne (tgt := 31) hx hb dX6_putCycle_16 (by decide) (fun h_3 => ?_) (fun h_3 => ?_)
    · refine lv_iconst (v := 0) hx hb dX6_putCycle_31 (by decide) ?_
      refine lv_istore_n (lv' := [(3, .int 0), (0, .ref (a 0)), (1, .int cy), (2, .int st)]) hx hb dX6_putCycle_32 rfl hl (by decide) rfl (fun ls hl => ?_)
      refine lv_iload_n hx hb dX6_putCycle_33 rfl (lv_at hl 0 rfl) ?_
      refine lv_if_eq (tgt := 43) hx hb dX6_putCycle_34 (by decide) (fun _ => ?_) (fun h => absurd (by decide) h)
      refine lv_iload_n hx hb dX6_putCycle_43 rfl (lv_at hl 0 rfl) ?_
      exact x_iret hx hb hr hlk hsz hP hS rfl (by rw [r_X6_putCycle, if_neg h_1, if_neg h_3]) (by rw [s_X6_putCycle, if_neg h_1, if_neg h_3]) dX6_putCycle_44
    · refine lv_aload_n hx hb dX6_putCycle_19 rfl (lv_at hl 0 rfl) ?_
      refine lv_iload_n hx hb dX6_putCycle_20 rfl (lv_at hl 2 rfl) ?_
      refine x_callVi (w := wM cI a) (σ := σ) (σ' := σ) (As := [.int st]) (rest := []) (q0 := 0) ⟨hx, hb, hml, hown, hts⟩ hG hP hS hsz (c_X6_free l D cI a H.size σ st (by assumption)) (cwV 1 hts gX6_putCycle_X6_free rfl rfl rfl (by decide +kernel) ⟨Nat.le_of_ble_eq_true rfl, Nat.le_of_ble_eq_true rfl⟩) rfl rfl rfl rfl hl.1 rfl (Nat.le_of_ble_eq_true rfl) ⟨Nat.zero_le _, Nat.zero_le _⟩ dX6_putCycle_21 (fun H locs hP hS => ?_)
      refine lv_if_le (tgt := 31) hx hb dX6_putCycle_24 (by decide) (fun h_4 => ?_) (fun h_4 => ?_)
      · refine lv_iconst (v := 0) hx hb dX6_putCycle_31 (by decide) ?_
        refine lv_istore_n (lv' := [(3, .int 0), (0, .ref (a 0)), (1, .int cy), (2, .int st)]) hx hb dX6_putCycle_32 rfl hl (by decide) rfl (fun ls hl => ?_)
        refine lv_iload_n hx hb dX6_putCycle_33 rfl (lv_at hl 0 rfl) ?_
        refine lv_if_eq (tgt := 43) hx hb dX6_putCycle_34 (by decide) (fun _ => ?_) (fun h => absurd (by decide) h)
        refine lv_iload_n hx hb dX6_putCycle_43 rfl (lv_at hl 0 rfl) ?_
        exact x_iret hx hb hr hlk hsz hP hS rfl (by rw [r_X6_putCycle, if_neg h_1, if_pos h_3, if_pos h_4]) (by rw [s_X6_putCycle, if_neg h_1, if_pos h_3, if_pos h_4]) dX6_putCycle_44
      · refine lv_iconst (v := 1) hx hb dX6_putCycle_27 (by decide) ?_
        refine lv_goto (tgt := 32) hx hb dX6_putCycle_28 (by decide) ?_
        refine lv_istore_n (lv' := [(3, .int 1), (0, .ref (a 0)), (1, .int cy), (2, .int st)]) hx hb dX6_putCycle_32 rfl hl (by decide) rfl (fun ls hl => ?_)
        refine lv_iload_n hx hb dX6_putCycle_33 rfl (lv_at hl 0 rfl) ?_
        refine lv_if_eq (tgt := 43) hx hb dX6_putCycle_34 (by decide) (fun h => absurd h (by decide)) (fun _ => ?_)
        refine lv_aload_n hx hb dX6_putCycle_37 rfl (lv_at hl 1 rfl) ?_
        refine lv_iload_n hx hb dX6_putCycle_38 rfl (lv_at hl 2 rfl) ?_
        refine lv_iload_n hx hb dX6_putCycle_39 rfl (lv_at hl 3 rfl) ?_
        refine x_callVv (w := wM cI a) (σ := σ) (σ' := s_X6_dock σ cy st) (As := [.int cy, .int st]) (rest := []) (q0 := 0) ⟨hx, hb, hml, hown, hts⟩ hG hP hS hsz (c_X6_dock l D cI a H.size σ cy st (by assumption) (by assumption)) (cwV 2 hts gX6_putCycle_X6_dock rfl rfl rfl (by decide +kernel) ⟨Nat.le_of_ble_eq_true rfl, Nat.le_of_ble_eq_true rfl⟩) rfl rfl rfl rfl hl.1 rfl (Nat.le_of_ble_eq_true rfl) ⟨Nat.zero_le _, Nat.zero_le _⟩ dX6_putCycle_40 (fun H locs hP hS => ?_)
        refine lv_iload_n hx hb dX6_putCycle_43 rfl (lv_at hl 0 rfl) ?_
        exact x_iret hx hb hr hlk hsz hP hS rfl (by rw [r_X6_putCycle, if_neg h_1, if_pos h_3, if_neg h_4]) (by rw [s_X6_putCycle, if_neg h_1, if_pos h_3, if_neg h_4]) dX6_putCycle_44
theorem in_X6_takeCycle_6 : ∀ wd ∈ u_ws RX6 TX6 29, wd ∈ wsX6_takeCycle := by decide +kernel
def r_X6_takeCycle (σ : Sg) (cy : Int32) : Int32 :=
  if σ 11 cy.toNatClampNeg = 1 then
    1
  else
    0
def s_X6_takeCycle (σ : Sg) (cy : Int32) : Sg :=
  if σ 11 cy.toNatClampNeg = 1 then
    sx (sx (sx σ 9 (σ 12 cy.toNatClampNeg).toNatClampNeg ((σ 9 (σ 12 cy.toNatClampNeg).toNatClampNeg) - 1)) 11 cy.toNatClampNeg 3) 12 cy.toNatClampNeg (-1)
  else
    σ
theorem b_X6_takeCycle (σ : Sg) (cy : Int32) : r_X6_takeCycle σ cy = 0 ∨ r_X6_takeCycle σ cy = 1 := by
  unfold r_X6_takeCycle
  repeat' split
  all_goals first | with_reducible exact Or.inl rfl | with_reducible exact Or.inr rfl
set_option maxHeartbeats 4000000 in
set_option maxRecDepth 100000 in
theorem c_X6_takeCycle (l : Launch) (D : va_G) (cI : ClassId) (a : Nat → Nat) (sz : Nat) (σ : Sg) (cy : Int32) (hc : vp_in cy 30) (hD : σ 11 cy.toNatClampNeg = 1 → vp_in (σ 12 cy.toNatClampNeg) 8) : Met l yX6_takeCycle wsX6_takeCycle ({ frames := 0, cells := 0, slots := 0, locals := 0 }) (PcW D cI 24 a (wM cI a) sz σ [.ref (a 0), .int cy]) (QiW D 24 a (wM cI a) sz (r_X6_takeCycle σ cy) (s_X6_takeCycle σ cy)) 0 0 (AX 24 a sz) := by
  refine x_of (cc := cX6_takeCycle) (maxL := 3) (ret := some .boolean) (C := RX6) rfl (by decide) rfl (Nat.le_of_ble_eq_true rfl) (fun p e s m below meth c hx hb hr hml hlk hts hown hsz H hP hS hG ls hl => ?_)
  have hl : lv_has ls 3 [(0, .ref (a 0)), (1, .int cy)] := hl
  refine lv_aload_n hx hb dX6_takeCycle_0 rfl (lv_at hl 0 rfl) ?_
  refine x_get (ci := 6) (C := RX6) (T := TX6) (M := 29) (v := .ref (a 11)) hx hb hts in_X6_takeCycle_6 hown hG hP 0 rfl rfl 13 (by decide) (List.mem_of_getElem? (i := 1) rfl) rfl rfl dX6_takeCycle_1 ?_
  refine lv_iload_n hx hb dX6_takeCycle_4 rfl (lv_at hl 1 rfl) ?_
  refine x_iald (f := σ 11) hx hb hG hP 11 rfl (by assumption) dX6_takeCycle_5 ?_
  refine lv_iconst (v := 1) hx hb dX6_takeCycle_6 (by decide) ?_
  refine lv_icmp_ne (tgt := 14) hx hb dX6_takeCycle_7 (by decide) (fun h_1 => ?_) (fun h_1 => ?_)
  · refine lv_iconst (v := 0) hx hb dX6_takeCycle_14 (by decide) ?_
    refine lv_istore_n (lv' := [(2, .int 0), (0, .ref (a 0)), (1, .int cy)]) hx hb dX6_takeCycle_15 rfl hl (by decide) rfl (fun ls hl => ?_)
    refine lv_iload_n hx hb dX6_takeCycle_16 rfl (lv_at hl 0 rfl) ?_
    refine lv_if_eq (tgt := 49) hx hb dX6_takeCycle_17 (by decide) (fun _ => ?_) (fun h => absurd (by decide) h)
    refine lv_iload_n hx hb dX6_takeCycle_49 rfl (lv_at hl 0 rfl) ?_
    exact x_iret hx hb hr hlk hsz hP hS rfl (by rw [r_X6_takeCycle, if_neg h_1]) (by rw [s_X6_takeCycle, if_neg h_1]) dX6_takeCycle_50
  · refine lv_iconst (v := 1) hx hb dX6_takeCycle_10 (by decide) ?_
    refine lv_goto (tgt := 15) hx hb dX6_takeCycle_11 (by decide) ?_
    refine lv_istore_n (lv' := [(2, .int 1), (0, .ref (a 0)), (1, .int cy)]) hx hb dX6_takeCycle_15 rfl hl (by decide) rfl (fun ls hl => ?_)
    refine lv_iload_n hx hb dX6_takeCycle_16 rfl (lv_at hl 0 rfl) ?_
    refine lv_if_eq (tgt := 49) hx hb dX6_takeCycle_17 (by decide) (fun h => absurd h (by decide)) (fun _ => ?_)
    refine lv_aload_n hx hb dX6_takeCycle_20 rfl (lv_at hl 1 rfl) ?_
    refine x_get (ci := 6) (C := RX6) (T := TX6) (M := 29) (v := .ref (a 9)) hx hb hts in_X6_takeCycle_6 hown hG hP 0 rfl rfl 11 (by decide) (List.mem_of_getElem? (i := 2) rfl) rfl rfl dX6_takeCycle_21 ?_
    refine lv_aload_n hx hb dX6_takeCycle_24 rfl (lv_at hl 1 rfl) ?_
    refine x_get (ci := 6) (C := RX6) (T := TX6) (M := 29) (v := .ref (a 12)) hx hb hts in_X6_takeCycle_6 hown hG hP 0 rfl rfl 14 (by decide) (List.mem_of_getElem? (i := 3) rfl) rfl rfl dX6_takeCycle_25 ?_
    refine lv_iload_n hx hb dX6_takeCycle_28 rfl (lv_at hl 2 rfl) ?_
    refine x_iald (f := σ 12) hx hb hG hP 12 rfl (by assumption) dX6_takeCycle_29 ?_
    refine lv_dup2_11 hx hb dX6_takeCycle_30 rfl rfl ?_
    refine x_iald (f := σ 9) hx hb hG hP 9 rfl (hD h_1) dX6_takeCycle_31 ?_
    refine lv_iconst (v := 1) hx hb dX6_takeCycle_32 (by decide) ?_
    refine lv_isub hx hb dX6_takeCycle_33 ?_
    refine x_iast (w := wM cI a) (σ := σ) hx hb hG hP hS 9 rfl (wM_st9 cI a _ _ _) (hD h_1) dX6_takeCycle_34 (fun H locs hP hS => ?_)
    refine lv_aload_n hx hb dX6_takeCycle_35 rfl (lv_at hl 1 rfl) ?_
    refine x_get (ci := 6) (C := RX6) (T := TX6) (M := 29) (v := .ref (a 11)) hx hb hts in_X6_takeCycle_6 hown hG hP 0 rfl rfl 13 (by decide) (List.mem_of_getElem? (i := 1) rfl) rfl rfl dX6_takeCycle_36 ?_
    refine lv_iload_n hx hb dX6_takeCycle_39 rfl (lv_at hl 2 rfl) ?_
    refine lv_iconst (v := 3) hx hb dX6_takeCycle_40 (by decide) ?_
    refine x_iast (w := wM cI a) (σ := sx σ 9 (σ 12 cy.toNatClampNeg).toNatClampNeg ((σ 9 (σ 12 cy.toNatClampNeg).toNatClampNeg) - 1)) hx hb hG hP hS 11 rfl (wM_st11 cI a _ _ _) (by assumption) dX6_takeCycle_41 (fun H locs hP hS => ?_)
    refine lv_aload_n hx hb dX6_takeCycle_42 rfl (lv_at hl 1 rfl) ?_
    refine x_get (ci := 6) (C := RX6) (T := TX6) (M := 29) (v := .ref (a 12)) hx hb hts in_X6_takeCycle_6 hown hG hP 0 rfl rfl 14 (by decide) (List.mem_of_getElem? (i := 3) rfl) rfl rfl dX6_takeCycle_43 ?_
    refine lv_iload_n hx hb dX6_takeCycle_46 rfl (lv_at hl 2 rfl) ?_
    refine lv_iconst (v := (-1)) hx hb dX6_takeCycle_47 (by decide) ?_
    refine x_iast (w := wM cI a) (σ := sx (sx σ 9 (σ 12 cy.toNatClampNeg).toNatClampNeg ((σ 9 (σ 12 cy.toNatClampNeg).toNatClampNeg) - 1)) 11 cy.toNatClampNeg 3) hx hb hG hP hS 12 rfl (wM_st12 cI a _ _ _) (by assumption) dX6_takeCycle_48 (fun H locs hP hS => ?_)
    refine lv_iload_n hx hb dX6_takeCycle_49 rfl (lv_at hl 0 rfl) ?_
    exact x_iret hx hb hr hlk hsz hP hS rfl (by rw [r_X6_takeCycle, if_pos h_1]) (by rw [s_X6_takeCycle, if_pos h_1]) dX6_takeCycle_50
theorem in_X6_promisePlace_6 : ∀ wd ∈ u_ws RX6 TX6 29, wd ∈ wsX6_promisePlace := by decide +kernel
def r_X6_promisePlace (σ : Sg) (ri : Int32) (st : Int32) (mi : Int32) : Int32 :=
  if r_X6_free σ st ≤ r_X6_promises σ st (-1) mi then
    0
  else
    1
def s_X6_promisePlace (σ : Sg) (ri : Int32) (st : Int32) (mi : Int32) : Sg :=
  if r_X6_free σ st ≤ r_X6_promises σ st (-1) mi then
    σ
  else
    sx (sx σ 22 ri.toNatClampNeg st) 23 ri.toNatClampNeg mi
theorem b_X6_promisePlace (σ : Sg) (ri : Int32) (st : Int32) (mi : Int32) : r_X6_promisePlace σ ri st mi = 0 ∨ r_X6_promisePlace σ ri st mi = 1 := by
  unfold r_X6_promisePlace
  repeat' split
  all_goals first | with_reducible exact Or.inl rfl | with_reducible exact Or.inr rfl
set_option maxHeartbeats 4000000 in
set_option maxRecDepth 100000 in
theorem c_X6_promisePlace (l : Launch) (D : va_G) (cI : ClassId) (a : Nat → Nat) (sz : Nat) (σ : Sg) (ri : Int32) (st : Int32) (mi : Int32) (hr1 : vp_in ri 10) (hs : vp_in st 8) : Met l yX6_promisePlace wsX6_promisePlace ({ frames := 2, cells := 0, slots := 0, locals := 48 }) (PcW D cI 24 a (wM cI a) sz σ [.ref (a 0), .int ri, .int st, .int mi]) (QiW D 24 a (wM cI a) sz (r_X6_promisePlace σ ri st mi) (s_X6_promisePlace σ ri st mi)) 0 0 (AX 24 a sz) := by
  refine x_of (cc := cX6_promisePlace) (maxL := 5) (ret := some .boolean) (C := RX6) rfl (by decide) rfl (Nat.le_of_ble_eq_true rfl) (fun p e s m below meth c hx hb hr hml hlk hts hown hsz H hP hS hG ls hl => ?_)
  have hl : lv_has ls 5 [(0, .ref (a 0)), (1, .int ri), (2, .int st), (3, .int mi)] := hl
  refine lv_aload_n hx hb dX6_promisePlace_0 rfl (lv_at hl 0 rfl) ?_
  refine lv_iload_n hx hb dX6_promisePlace_1 rfl (lv_at hl 2 rfl) ?_
  refine x_callVi (w := wM cI a) (σ := σ) (σ' := σ) (As := [.int st]) (rest := []) (q0 := 0) ⟨hx, hb, hml, hown, hts⟩ hG hP hS hsz (c_X6_free l D cI a H.size σ st (by assumption)) (cwV 1 hts gX6_promisePlace_X6_free rfl rfl rfl (by decide +kernel) ⟨Nat.le_of_ble_eq_true rfl, Nat.le_of_ble_eq_true rfl⟩) rfl rfl rfl rfl hl.1 rfl (Nat.le_of_ble_eq_true rfl) ⟨Nat.zero_le _, Nat.zero_le _⟩ dX6_promisePlace_2 (fun H locs hP hS => ?_)
  refine lv_aload_n hx hb dX6_promisePlace_5 rfl (lv_at hl 0 rfl) ?_
  refine lv_iload_n hx hb dX6_promisePlace_6 rfl (lv_at hl 2 rfl) ?_
  refine lv_iconst (v := (-1)) hx hb dX6_promisePlace_7 (by decide) ?_
  refine lv_iload_n hx hb dX6_promisePlace_8 rfl (lv_at hl 3 rfl) ?_
  refine x_callVi (w := wM cI a) (σ := σ) (σ' := σ) (As := [.int st, .int (-1), .int mi]) (rest := [.int (r_X6_free σ st)]) (q0 := 0) ⟨hx, hb, hml, hown, hts⟩ hG hP hS hsz (c_X6_promises l D cI a H.size σ st (-1) mi) (cwV 3 hts gX6_promisePlace_X6_promises rfl rfl rfl (by decide +kernel) ⟨Nat.le_of_ble_eq_true rfl, Nat.le_of_ble_eq_true rfl⟩) rfl rfl rfl rfl hl.1 rfl (Nat.le_of_ble_eq_true rfl) ⟨Nat.zero_le _, Nat.zero_le _⟩ dX6_promisePlace_9 (fun H locs hP hS => ?_)
  refine lv_icmp_le (tgt := 19) hx hb dX6_promisePlace_12 (by decide) (fun h_1 => ?_) (fun h_1 => ?_)
  · refine lv_iconst (v := 0) hx hb dX6_promisePlace_19 (by decide) ?_
    refine lv_istore (lv' := [(4, .int 0), (0, .ref (a 0)), (1, .int ri), (2, .int st), (3, .int mi)]) hx hb dX6_promisePlace_20 hl (by decide) rfl (fun ls hl => ?_)
    refine lv_iload hx hb dX6_promisePlace_22 (lv_at hl 0 rfl) ?_
    refine lv_if_eq (tgt := 41) hx hb dX6_promisePlace_24 (by decide) (fun _ => ?_) (fun h => absurd (by decide) h)
    refine lv_iload hx hb dX6_promisePlace_41 (lv_at hl 0 rfl) ?_
    exact x_iret hx hb hr hlk hsz hP hS rfl (by rw [r_X6_promisePlace, if_pos h_1]) (by rw [s_X6_promisePlace, if_pos h_1]) dX6_promisePlace_43
  · refine lv_iconst (v := 1) hx hb dX6_promisePlace_15 (by decide) ?_
    refine lv_goto (tgt := 20) hx hb dX6_promisePlace_16 (by decide) ?_
    refine lv_istore (lv' := [(4, .int 1), (0, .ref (a 0)), (1, .int ri), (2, .int st), (3, .int mi)]) hx hb dX6_promisePlace_20 hl (by decide) rfl (fun ls hl => ?_)
    refine lv_iload hx hb dX6_promisePlace_22 (lv_at hl 0 rfl) ?_
    refine lv_if_eq (tgt := 41) hx hb dX6_promisePlace_24 (by decide) (fun h => absurd h (by decide)) (fun _ => ?_)
    refine lv_aload_n hx hb dX6_promisePlace_27 rfl (lv_at hl 1 rfl) ?_
    refine x_get (ci := 6) (C := RX6) (T := TX6) (M := 29) (v := .ref (a 22)) hx hb hts in_X6_promisePlace_6 hown hG hP 0 rfl rfl 24 (by decide) (List.mem_of_getElem? (i := 1) rfl) rfl rfl dX6_promisePlace_28 ?_
    refine lv_iload_n hx hb dX6_promisePlace_31 rfl (lv_at hl 2 rfl) ?_
    refine lv_iload_n hx hb dX6_promisePlace_32 rfl (lv_at hl 3 rfl) ?_
    refine x_iast (w := wM cI a) (σ := σ) hx hb hG hP hS 22 rfl (wM_st22 cI a _ _ _) (by assumption) dX6_promisePlace_33 (fun H locs hP hS => ?_)
    refine lv_aload_n hx hb dX6_promisePlace_34 rfl (lv_at hl 1 rfl) ?_
    refine x_get (ci := 6) (C := RX6) (T := TX6) (M := 29) (v := .ref (a 23)) hx hb hts in_X6_promisePlace_6 hown hG hP 0 rfl rfl 25 (by decide) (List.mem_of_getElem? (i := 2) rfl) rfl rfl dX6_promisePlace_35 ?_
    refine lv_iload_n hx hb dX6_promisePlace_38 rfl (lv_at hl 2 rfl) ?_
    refine lv_iload_n hx hb dX6_promisePlace_39 rfl (lv_at hl 4 rfl) ?_
    refine x_iast (w := wM cI a) (σ := sx σ 22 ri.toNatClampNeg st) hx hb hG hP hS 23 rfl (wM_st23 cI a _ _ _) (by assumption) dX6_promisePlace_40 (fun H locs hP hS => ?_)
    refine lv_iload hx hb dX6_promisePlace_41 (lv_at hl 0 rfl) ?_
    exact x_iret hx hb hr hlk hsz hP hS rfl (by rw [r_X6_promisePlace, if_neg h_1]) (by rw [s_X6_promisePlace, if_neg h_1]) dX6_promisePlace_43
theorem in_X6_stand_6 : ∀ wd ∈ u_ws RX6 TX6 29, wd ∈ wsX6_stand := by decide +kernel
def st_X6_stand_2 (fr to : Int32) (i : Nat) (x2 : Sg) : Sg :=
  if x2 9 (nI i).toNatClampNeg = 0 then
    (sx x2 10 (nI i).toNatClampNeg ((x2 10 (nI i).toNatClampNeg) + (to - fr)))
  else
    (sx x2 10 (nI i).toNatClampNeg ((x2 10 (nI i).toNatClampNeg) + 0))
def s_X6_stand (σ : Sg) (fr : Int32) (to : Int32) : Sg :=
  (itn (st_X6_stand_2 fr to) 8 σ)
set_option maxHeartbeats 4000000 in
set_option maxRecDepth 100000 in
theorem c_X6_stand (l : Launch) (D : va_G) (cI : ClassId) (a : Nat → Nat) (sz : Nat) (σ : Sg) (fr : Int32) (to : Int32) : Met l yX6_stand wsX6_stand ({ frames := 0, cells := 0, slots := 0, locals := 0 }) (PcW D cI 24 a (wM cI a) sz σ [.ref (a 0), .int fr, .int to]) (QvW D 24 a (wM cI a) sz (s_X6_stand σ fr to)) 0 0 (AX 24 a sz) := by
  refine x_of (cc := cX6_stand) (maxL := 4) (ret := none) (C := RX6) rfl (by decide) rfl (Nat.le_of_ble_eq_true rfl) (fun p e s m below meth c hx hb hr hml hlk hts hown hsz H hP hS hG ls hl => ?_)
  have hl : lv_has ls 4 [(0, .ref (a 0)), (1, .int fr), (2, .int to)] := hl
  refine lv_iconst (v := 0) hx hb dX6_stand_0 (by decide) ?_
  refine lv_istore_n (lv' := [(3, .int 0), (0, .ref (a 0)), (1, .int fr), (2, .int to)]) hx hb dX6_stand_1 rfl hl (by decide) rfl (fun ls hl => ?_)
  have loop_2 : ∀ (rem i : Nat) (_ : i + rem = 8) (x2 : Sg) (_ : x2 = itn (st_X6_stand_2 fr to) i σ) (H : Heap) (locs : List Loc) (ls : Array Slot) (_ : va_P D vwCl (wM cI a x2) H) (_ : va_S (AX 24 a sz) s.heap H locs) (_ : lv_has ls 4 [(3, .int (nI i)), (0, .ref (a 0)), (1, .int fr), (2, .int to)]), W p l e (headSpec wsX6_stand ({ frames := 0, cells := 0, slots := 0, locals := 0 } : Room)).room s m ([.ref (a 0), .int fr, .int to] : List Value).toArray below meth c H locs 0 0 (MQ below (QvW D 24 a (wM cI a) sz (s_X6_stand σ fr to)) ([.ref (a 0), .int fr, .int to] : List Value).toArray s 0 0 (AX 24 a sz)) (F0 m 2 ls []) := by
    intro rem
    induction rem with
    | zero =>
      intro i hi x2 ex2 H locs ls hP hS hl
      obtain rfl : 8 = i := by omega
      refine lv_iload_n hx hb dX6_stand_2 rfl (lv_at hl 0 rfl) ?_
      refine lv_bipush (v := 8) hx hb dX6_stand_3 (by decide) ?_
      refine lv_icmp_ge (tgt := 39) hx hb dX6_stand_5 (by decide) (fun _ => ?_) (fun h => absurd (show (8 : Int32) ≤ nI 8 by decide) h)
      exact x_vret hx hb hr hlk hsz hP hS (by rw [s_X6_stand, ← ex2]) dX6_stand_39
    | succ rem ih =>
      intro i hi x2 ex2 H locs ls hP hS hl
      refine lv_iload_n hx hb dX6_stand_2 rfl (lv_at hl 0 rfl) ?_
      refine lv_bipush (v := 8) hx hb dX6_stand_3 (by decide) ?_
      refine lv_icmp_ge (tgt := 39) hx hb dX6_stand_5 (by decide) (fun h => absurd h (nI_ge (a := i) (b := 8) (by omega) (by decide))) (fun _ => ?_)
      refine lv_aload_n hx hb dX6_stand_8 rfl (lv_at hl 1 rfl) ?_
      refine x_get (ci := 6) (C := RX6) (T := TX6) (M := 29) (v := .ref (a 10)) hx hb hts in_X6_stand_6 hown hG hP 0 rfl rfl 12 (by decide) (List.mem_of_getElem? (i := 1) rfl) rfl rfl dX6_stand_9 ?_
      refine lv_iload_n hx hb dX6_stand_12 rfl (lv_at hl 0 rfl) ?_
      refine lv_dup2_11 hx hb dX6_stand_13 rfl rfl ?_
      refine x_iald (f := x2 10) hx hb hG hP 10 rfl (vp_in_nI (by omega) (by decide)) dX6_stand_14 ?_
      refine lv_aload_n hx hb dX6_stand_15 rfl (lv_at hl 1 rfl) ?_
      refine x_get (ci := 6) (C := RX6) (T := TX6) (M := 29) (v := .ref (a 9)) hx hb hts in_X6_stand_6 hown hG hP 0 rfl rfl 11 (by decide) (List.mem_of_getElem? (i := 2) rfl) rfl rfl dX6_stand_16 ?_
      refine lv_iload_n hx hb dX6_stand_19 rfl (lv_at hl 0 rfl) ?_
      refine x_iald (f := x2 9) hx hb hG hP 9 rfl (vp_in_nI (by omega) (by decide)) dX6_stand_20 ?_
      refine lv_if_ne (tgt := 30) hx hb dX6_stand_21 (by decide) (fun h_1 => ?_) (fun h_1 => ?_)
      · refine lv_iconst (v := 0) hx hb dX6_stand_30 (by decide) ?_
        refine lv_iadd hx hb dX6_stand_31 ?_
        refine x_iast (w := wM cI a) (σ := x2) hx hb hG hP hS 10 rfl (wM_st10 cI a _ _ _) (vp_in_nI (by omega) (by decide)) dX6_stand_32 (fun H locs hP hS => ?_)
        refine lv_iinc (v := nI (i + 1)) (lv' := [(3, .int (nI (i + 1))), (0, .ref (a 0)), (1, .int fr), (2, .int to)]) hx hb dX6_stand_33 hl (k := 0) rfl (by rw [nI_succ]; rfl) (by decide) rfl (fun ls hl => ?_)
        refine lv_goto (tgt := 2) hx hb dX6_stand_36 (by decide) ?_
        exact ih (i + 1) (by omega) (sx x2 10 (nI i).toNatClampNeg ((x2 10 (nI i).toNatClampNeg) + 0)) (by rw [itn, ← ex2]; rw [st_X6_stand_2, if_neg h_1]) H locs ls hP hS (lv_sub hl [0, 1, 2, 3] rfl)
      · refine lv_iload_n hx hb dX6_stand_24 rfl (lv_at hl 3 rfl) ?_
        refine lv_iload_n hx hb dX6_stand_25 rfl (lv_at hl 2 rfl) ?_
        refine lv_isub hx hb dX6_stand_26 ?_
        refine lv_goto (tgt := 31) hx hb dX6_stand_27 (by decide) ?_
        refine lv_iadd hx hb dX6_stand_31 ?_
        refine x_iast (w := wM cI a) (σ := x2) hx hb hG hP hS 10 rfl (wM_st10 cI a _ _ _) (vp_in_nI (by omega) (by decide)) dX6_stand_32 (fun H locs hP hS => ?_)
        refine lv_iinc (v := nI (i + 1)) (lv' := [(3, .int (nI (i + 1))), (0, .ref (a 0)), (1, .int fr), (2, .int to)]) hx hb dX6_stand_33 hl (k := 0) rfl (by rw [nI_succ]; rfl) (by decide) rfl (fun ls hl => ?_)
        refine lv_goto (tgt := 2) hx hb dX6_stand_36 (by decide) ?_
        exact ih (i + 1) (by omega) (sx x2 10 (nI i).toNatClampNeg ((x2 10 (nI i).toNatClampNeg) + (to - fr))) (by rw [itn, ← ex2]; rw [st_X6_stand_2, if_pos h_1]) H locs ls hP hS (lv_sub hl [0, 1, 2, 3] rfl)
  exact loop_2 (8) 0 (Nat.zero_add _) σ (itn0 _ _) _ _ _ hP hS (lv_sub hl [0, 1, 2, 3] rfl)
theorem in_X6_begin_6 : ∀ wd ∈ u_ws RX6 TX6 29, wd ∈ wsX6_begin := by decide +kernel
def st_X6_begin_79  (i : Nat) (x79 : Sg) : Sg :=
  (sx (sx (sx (sx (sx x79 18 (nI i).toNatClampNeg 0) 19 (nI i).toNatClampNeg 0) 20 (nI i).toNatClampNeg 0) 21 (nI i).toNatClampNeg 0) 22 (nI i).toNatClampNeg (-1))
def st_X6_begin_37  (i : Nat) (x37 : Sg) : Sg :=
  (sx (sx (sx (sx x37 11 (nI i).toNatClampNeg 0) 12 (nI i).toNatClampNeg (-1)) 13 (nI i).toNatClampNeg 0) 17 (nI i).toNatClampNeg 0)
def st_X6_begin_2  (i : Nat) (x2 : Sg) : Sg :=
  (sx (sx (sx x2 8 (nI i).toNatClampNeg 0) 9 (nI i).toNatClampNeg 0) 10 (nI i).toNatClampNeg 0)
def s_X6_begin (σ : Sg) : Sg :=
  sx (sx (itn (st_X6_begin_79) 10 (itn (st_X6_begin_37) 30 (itn (st_X6_begin_2) 8 σ))) 0 26 1) 0 27 0
set_option maxHeartbeats 4000000 in
set_option maxRecDepth 100000 in
theorem c_X6_begin (l : Launch) (D : va_G) (cI : ClassId) (a : Nat → Nat) (sz : Nat) (σ : Sg) : Met l yX6_begin wsX6_begin ({ frames := 0, cells := 0, slots := 0, locals := 0 }) (PcW D cI 24 a (wM cI a) sz σ [.ref (a 0)]) (QvW D 24 a (wM cI a) sz (s_X6_begin σ)) 0 0 (AX 24 a sz) := by
  refine x_of (cc := cX6_begin) (maxL := 2) (ret := none) (C := RX6) rfl (by decide) rfl (Nat.le_of_ble_eq_true rfl) (fun p e s m below meth c hx hb hr hml hlk hts hown hsz H hP hS hG ls hl => ?_)
  have hl : lv_has ls 2 [(0, .ref (a 0))] := hl
  refine lv_iconst (v := 0) hx hb dX6_begin_0 (by decide) ?_
  refine lv_istore_n (lv' := [(1, .int 0), (0, .ref (a 0))]) hx hb dX6_begin_1 rfl hl (by decide) rfl (fun ls hl => ?_)
  have loop_2 : ∀ (rem i : Nat) (_ : i + rem = 8) (x2 : Sg) (_ : x2 = itn (st_X6_begin_2) i σ) (H : Heap) (locs : List Loc) (ls : Array Slot) (_ : va_P D vwCl (wM cI a x2) H) (_ : va_S (AX 24 a sz) s.heap H locs) (_ : lv_has ls 2 [(1, .int (nI i)), (0, .ref (a 0))]), W p l e (headSpec wsX6_begin ({ frames := 0, cells := 0, slots := 0, locals := 0 } : Room)).room s m ([.ref (a 0)] : List Value).toArray below meth c H locs 0 0 (MQ below (QvW D 24 a (wM cI a) sz (s_X6_begin σ)) ([.ref (a 0)] : List Value).toArray s 0 0 (AX 24 a sz)) (F0 m 2 ls []) := by
    intro rem
    induction rem with
    | zero =>
      intro i hi x2 ex2 H locs ls hP hS hl
      obtain rfl : 8 = i := by omega
      refine lv_iload_n hx hb dX6_begin_2 rfl (lv_at hl 0 rfl) ?_
      refine lv_bipush (v := 8) hx hb dX6_begin_3 (by decide) ?_
      refine lv_icmp_ge (tgt := 35) hx hb dX6_begin_5 (by decide) (fun _ => ?_) (fun h => absurd (show (8 : Int32) ≤ nI 8 by decide) h)
      refine lv_iconst (v := 0) hx hb dX6_begin_35 (by decide) ?_
      refine lv_istore_n (lv' := [(1, .int 0), (0, .ref (a 0))]) hx hb dX6_begin_36 rfl hl (by decide) rfl (fun ls hl => ?_)
      have loop_37 : ∀ (rem i : Nat) (_ : i + rem = 30) (x37 : Sg) (_ : x37 = itn (st_X6_begin_37) i x2) (H : Heap) (locs : List Loc) (ls : Array Slot) (_ : va_P D vwCl (wM cI a x37) H) (_ : va_S (AX 24 a sz) s.heap H locs) (_ : lv_has ls 2 [(1, .int (nI i)), (0, .ref (a 0))]), W p l e (headSpec wsX6_begin ({ frames := 0, cells := 0, slots := 0, locals := 0 } : Room)).room s m ([.ref (a 0)] : List Value).toArray below meth c H locs 0 0 (MQ below (QvW D 24 a (wM cI a) sz (s_X6_begin σ)) ([.ref (a 0)] : List Value).toArray s 0 0 (AX 24 a sz)) (F0 m 37 ls []) := by
        intro rem
        induction rem with
        | zero =>
          intro i hi x37 ex37 H locs ls hP hS hl
          obtain rfl : 30 = i := by omega
          refine lv_iload_n hx hb dX6_begin_37 rfl (lv_at hl 0 rfl) ?_
          refine lv_bipush (v := 30) hx hb dX6_begin_38 (by decide) ?_
          refine lv_icmp_ge (tgt := 77) hx hb dX6_begin_40 (by decide) (fun _ => ?_) (fun h => absurd (show (30 : Int32) ≤ nI 30 by decide) h)
          refine lv_iconst (v := 0) hx hb dX6_begin_77 (by decide) ?_
          refine lv_istore_n (lv' := [(1, .int 0), (0, .ref (a 0))]) hx hb dX6_begin_78 rfl hl (by decide) rfl (fun ls hl => ?_)
          have loop_79 : ∀ (rem i : Nat) (_ : i + rem = 10) (x79 : Sg) (_ : x79 = itn (st_X6_begin_79) i x37) (H : Heap) (locs : List Loc) (ls : Array Slot) (_ : va_P D vwCl (wM cI a x79) H) (_ : va_S (AX 24 a sz) s.heap H locs) (_ : lv_has ls 2 [(1, .int (nI i)), (0, .ref (a 0))]), W p l e (headSpec wsX6_begin ({ frames := 0, cells := 0, slots := 0, locals := 0 } : Room)).room s m ([.ref (a 0)] : List Value).toArray below meth c H locs 0 0 (MQ below (QvW D 24 a (wM cI a) sz (s_X6_begin σ)) ([.ref (a 0)] : List Value).toArray s 0 0 (AX 24 a sz)) (F0 m 79 ls []) := by
            intro rem
            induction rem with
            | zero =>
              intro i hi x79 ex79 H locs ls hP hS hl
              obtain rfl : 10 = i := by omega
              refine lv_iload_n hx hb dX6_begin_79 rfl (lv_at hl 0 rfl) ?_
              refine lv_bipush (v := 10) hx hb dX6_begin_80 (by decide) ?_
              refine lv_icmp_ge (tgt := 126) hx hb dX6_begin_82 (by decide) (fun _ => ?_) (fun h => absurd (show (10 : Int32) ≤ nI 10 by decide) h)
              refine lv_aload_n hx hb dX6_begin_126 rfl (lv_at hl 1 rfl) ?_
              refine lv_iconst (v := 1) hx hb dX6_begin_127 (by decide) ?_
              refine x_put (w := wM cI a) (σ := x79) (ci := 6) (C := RX6) (T := TX6) (M := 29) hx hb hts in_X6_begin_6 tyX6 tyX6_ok nmX6 hown hG hP hS 0 rfl rfl 26 (by decide) (List.mem_of_getElem? (i := 13) rfl) rfl rfl rfl (Nat.le_of_ble_eq_true rfl) (wM_pt0_26 cI a _ _) dX6_begin_128 (fun H locs hP hS => ?_)
              refine lv_aload_n hx hb dX6_begin_131 rfl (lv_at hl 1 rfl) ?_
              refine lv_iconst (v := 0) hx hb dX6_begin_132 (by decide) ?_
              refine x_put (w := wM cI a) (σ := sx x79 0 26 1) (ci := 6) (C := RX6) (T := TX6) (M := 29) hx hb hts in_X6_begin_6 tyX6 tyX6_ok nmX6 hown hG hP hS 0 rfl rfl 27 (by decide) (List.mem_of_getElem? (i := 14) rfl) rfl rfl rfl (Nat.le_of_ble_eq_true rfl) (wM_pt0_27 cI a _ _) dX6_begin_133 (fun H locs hP hS => ?_)
              exact x_vret hx hb hr hlk hsz hP hS (by rw [s_X6_begin, ← ex2, ← ex37, ← ex79]) dX6_begin_136
            | succ rem ih =>
              intro i hi x79 ex79 H locs ls hP hS hl
              refine lv_iload_n hx hb dX6_begin_79 rfl (lv_at hl 0 rfl) ?_
              refine lv_bipush (v := 10) hx hb dX6_begin_80 (by decide) ?_
              refine lv_icmp_ge (tgt := 126) hx hb dX6_begin_82 (by decide) (fun h => absurd h (nI_ge (a := i) (b := 10) (by omega) (by decide))) (fun _ => ?_)
              refine lv_aload_n hx hb dX6_begin_85 rfl (lv_at hl 1 rfl) ?_
              refine x_get (ci := 6) (C := RX6) (T := TX6) (M := 29) (v := .ref (a 18)) hx hb hts in_X6_begin_6 hown hG hP 0 rfl rfl 20 (by decide) (List.mem_of_getElem? (i := 8) rfl) rfl rfl dX6_begin_86 ?_
              refine lv_iload_n hx hb dX6_begin_89 rfl (lv_at hl 0 rfl) ?_
              refine lv_iconst (v := 0) hx hb dX6_begin_90 (by decide) ?_
              refine x_iast (w := wM cI a) (σ := x79) hx hb hG hP hS 18 rfl (wM_st18 cI a _ _ _) (vp_in_nI (by omega) (by decide)) dX6_begin_91 (fun H locs hP hS => ?_)
              refine lv_aload_n hx hb dX6_begin_92 rfl (lv_at hl 1 rfl) ?_
              refine x_get (ci := 6) (C := RX6) (T := TX6) (M := 29) (v := .ref (a 19)) hx hb hts in_X6_begin_6 hown hG hP 0 rfl rfl 21 (by decide) (List.mem_of_getElem? (i := 9) rfl) rfl rfl dX6_begin_93 ?_
              refine lv_iload_n hx hb dX6_begin_96 rfl (lv_at hl 0 rfl) ?_
              refine lv_iconst (v := 0) hx hb dX6_begin_97 (by decide) ?_
              refine x_iast (w := wM cI a) (σ := sx x79 18 (nI i).toNatClampNeg 0) hx hb hG hP hS 19 rfl (wM_st19 cI a _ _ _) (vp_in_nI (by omega) (by decide)) dX6_begin_98 (fun H locs hP hS => ?_)
              refine lv_aload_n hx hb dX6_begin_99 rfl (lv_at hl 1 rfl) ?_
              refine x_get (ci := 6) (C := RX6) (T := TX6) (M := 29) (v := .ref (a 20)) hx hb hts in_X6_begin_6 hown hG hP 0 rfl rfl 22 (by decide) (List.mem_of_getElem? (i := 10) rfl) rfl rfl dX6_begin_100 ?_
              refine lv_iload_n hx hb dX6_begin_103 rfl (lv_at hl 0 rfl) ?_
              refine lv_iconst (v := 0) hx hb dX6_begin_104 (by decide) ?_
              refine x_iast (w := wM cI a) (σ := sx (sx x79 18 (nI i).toNatClampNeg 0) 19 (nI i).toNatClampNeg 0) hx hb hG hP hS 20 rfl (wM_st20 cI a _ _ _) (vp_in_nI (by omega) (by decide)) dX6_begin_105 (fun H locs hP hS => ?_)
              refine lv_aload_n hx hb dX6_begin_106 rfl (lv_at hl 1 rfl) ?_
              refine x_get (ci := 6) (C := RX6) (T := TX6) (M := 29) (v := .ref (a 21)) hx hb hts in_X6_begin_6 hown hG hP 0 rfl rfl 23 (by decide) (List.mem_of_getElem? (i := 11) rfl) rfl rfl dX6_begin_107 ?_
              refine lv_iload_n hx hb dX6_begin_110 rfl (lv_at hl 0 rfl) ?_
              refine lv_iconst (v := 0) hx hb dX6_begin_111 (by decide) ?_
              refine x_iast (w := wM cI a) (σ := sx (sx (sx x79 18 (nI i).toNatClampNeg 0) 19 (nI i).toNatClampNeg 0) 20 (nI i).toNatClampNeg 0) hx hb hG hP hS 21 rfl (wM_st21 cI a _ _ _) (vp_in_nI (by omega) (by decide)) dX6_begin_112 (fun H locs hP hS => ?_)
              refine lv_aload_n hx hb dX6_begin_113 rfl (lv_at hl 1 rfl) ?_
              refine x_get (ci := 6) (C := RX6) (T := TX6) (M := 29) (v := .ref (a 22)) hx hb hts in_X6_begin_6 hown hG hP 0 rfl rfl 24 (by decide) (List.mem_of_getElem? (i := 12) rfl) rfl rfl dX6_begin_114 ?_
              refine lv_iload_n hx hb dX6_begin_117 rfl (lv_at hl 0 rfl) ?_
              refine lv_iconst (v := (-1)) hx hb dX6_begin_118 (by decide) ?_
              refine x_iast (w := wM cI a) (σ := sx (sx (sx (sx x79 18 (nI i).toNatClampNeg 0) 19 (nI i).toNatClampNeg 0) 20 (nI i).toNatClampNeg 0) 21 (nI i).toNatClampNeg 0) hx hb hG hP hS 22 rfl (wM_st22 cI a _ _ _) (vp_in_nI (by omega) (by decide)) dX6_begin_119 (fun H locs hP hS => ?_)
              refine lv_iinc (v := nI (i + 1)) (lv' := [(1, .int (nI (i + 1))), (0, .ref (a 0))]) hx hb dX6_begin_120 hl (k := 0) rfl (by rw [nI_succ]; rfl) (by decide) rfl (fun ls hl => ?_)
              refine lv_goto (tgt := 79) hx hb dX6_begin_123 (by decide) ?_
              exact ih (i + 1) (by omega) (sx (sx (sx (sx (sx x79 18 (nI i).toNatClampNeg 0) 19 (nI i).toNatClampNeg 0) 20 (nI i).toNatClampNeg 0) 21 (nI i).toNatClampNeg 0) 22 (nI i).toNatClampNeg (-1)) (by rw [itn, ← ex79]; rw [st_X6_begin_79]) H locs ls hP hS (lv_sub hl [0, 1] rfl)
          exact loop_79 (10) 0 (Nat.zero_add _) x37 (itn0 _ _) _ _ _ hP hS (lv_sub hl [0, 1] rfl)
        | succ rem ih =>
          intro i hi x37 ex37 H locs ls hP hS hl
          refine lv_iload_n hx hb dX6_begin_37 rfl (lv_at hl 0 rfl) ?_
          refine lv_bipush (v := 30) hx hb dX6_begin_38 (by decide) ?_
          refine lv_icmp_ge (tgt := 77) hx hb dX6_begin_40 (by decide) (fun h => absurd h (nI_ge (a := i) (b := 30) (by omega) (by decide))) (fun _ => ?_)
          refine lv_aload_n hx hb dX6_begin_43 rfl (lv_at hl 1 rfl) ?_
          refine x_get (ci := 6) (C := RX6) (T := TX6) (M := 29) (v := .ref (a 11)) hx hb hts in_X6_begin_6 hown hG hP 0 rfl rfl 13 (by decide) (List.mem_of_getElem? (i := 4) rfl) rfl rfl dX6_begin_44 ?_
          refine lv_iload_n hx hb dX6_begin_47 rfl (lv_at hl 0 rfl) ?_
          refine lv_iconst (v := 0) hx hb dX6_begin_48 (by decide) ?_
          refine x_iast (w := wM cI a) (σ := x37) hx hb hG hP hS 11 rfl (wM_st11 cI a _ _ _) (vp_in_nI (by omega) (by decide)) dX6_begin_49 (fun H locs hP hS => ?_)
          refine lv_aload_n hx hb dX6_begin_50 rfl (lv_at hl 1 rfl) ?_
          refine x_get (ci := 6) (C := RX6) (T := TX6) (M := 29) (v := .ref (a 12)) hx hb hts in_X6_begin_6 hown hG hP 0 rfl rfl 14 (by decide) (List.mem_of_getElem? (i := 5) rfl) rfl rfl dX6_begin_51 ?_
          refine lv_iload_n hx hb dX6_begin_54 rfl (lv_at hl 0 rfl) ?_
          refine lv_iconst (v := (-1)) hx hb dX6_begin_55 (by decide) ?_
          refine x_iast (w := wM cI a) (σ := sx x37 11 (nI i).toNatClampNeg 0) hx hb hG hP hS 12 rfl (wM_st12 cI a _ _ _) (vp_in_nI (by omega) (by decide)) dX6_begin_56 (fun H locs hP hS => ?_)
          refine lv_aload_n hx hb dX6_begin_57 rfl (lv_at hl 1 rfl) ?_
          refine x_get (ci := 6) (C := RX6) (T := TX6) (M := 29) (v := .ref (a 13)) hx hb hts in_X6_begin_6 hown hG hP 0 rfl rfl 15 (by decide) (List.mem_of_getElem? (i := 6) rfl) rfl rfl dX6_begin_58 ?_
          refine lv_iload_n hx hb dX6_begin_61 rfl (lv_at hl 0 rfl) ?_
          refine lv_iconst (v := 0) hx hb dX6_begin_62 (by decide) ?_
          refine x_iast (w := wM cI a) (σ := sx (sx x37 11 (nI i).toNatClampNeg 0) 12 (nI i).toNatClampNeg (-1)) hx hb hG hP hS 13 rfl (wM_st13 cI a _ _ _) (vp_in_nI (by omega) (by decide)) dX6_begin_63 (fun H locs hP hS => ?_)
          refine lv_aload_n hx hb dX6_begin_64 rfl (lv_at hl 1 rfl) ?_
          refine x_get (ci := 6) (C := RX6) (T := TX6) (M := 29) (v := .ref (a 17)) hx hb hts in_X6_begin_6 hown hG hP 0 rfl rfl 19 (by decide) (List.mem_of_getElem? (i := 7) rfl) rfl rfl dX6_begin_65 ?_
          refine lv_iload_n hx hb dX6_begin_68 rfl (lv_at hl 0 rfl) ?_
          refine lv_iconst (v := 0) hx hb dX6_begin_69 (by decide) ?_
          refine x_iast (w := wM cI a) (σ := sx (sx (sx x37 11 (nI i).toNatClampNeg 0) 12 (nI i).toNatClampNeg (-1)) 13 (nI i).toNatClampNeg 0) hx hb hG hP hS 17 rfl (wM_st17 cI a _ _ _) (vp_in_nI (by omega) (by decide)) dX6_begin_70 (fun H locs hP hS => ?_)
          refine lv_iinc (v := nI (i + 1)) (lv' := [(1, .int (nI (i + 1))), (0, .ref (a 0))]) hx hb dX6_begin_71 hl (k := 0) rfl (by rw [nI_succ]; rfl) (by decide) rfl (fun ls hl => ?_)
          refine lv_goto (tgt := 37) hx hb dX6_begin_74 (by decide) ?_
          exact ih (i + 1) (by omega) (sx (sx (sx (sx x37 11 (nI i).toNatClampNeg 0) 12 (nI i).toNatClampNeg (-1)) 13 (nI i).toNatClampNeg 0) 17 (nI i).toNatClampNeg 0) (by rw [itn, ← ex37]; rw [st_X6_begin_37]) H locs ls hP hS (lv_sub hl [0, 1] rfl)
      exact loop_37 (30) 0 (Nat.zero_add _) x2 (itn0 _ _) _ _ _ hP hS (lv_sub hl [0, 1] rfl)
    | succ rem ih =>
      intro i hi x2 ex2 H locs ls hP hS hl
      refine lv_iload_n hx hb dX6_begin_2 rfl (lv_at hl 0 rfl) ?_
      refine lv_bipush (v := 8) hx hb dX6_begin_3 (by decide) ?_
      refine lv_icmp_ge (tgt := 35) hx hb dX6_begin_5 (by decide) (fun h => absurd h (nI_ge (a := i) (b := 8) (by omega) (by decide))) (fun _ => ?_)
      refine lv_aload_n hx hb dX6_begin_8 rfl (lv_at hl 1 rfl) ?_
      refine x_get (ci := 6) (C := RX6) (T := TX6) (M := 29) (v := .ref (a 8)) hx hb hts in_X6_begin_6 hown hG hP 0 rfl rfl 10 (by decide) (List.mem_of_getElem? (i := 1) rfl) rfl rfl dX6_begin_9 ?_
      refine lv_iload_n hx hb dX6_begin_12 rfl (lv_at hl 0 rfl) ?_
      refine lv_iconst (v := 0) hx hb dX6_begin_13 (by decide) ?_
      refine x_iast (w := wM cI a) (σ := x2) hx hb hG hP hS 8 rfl (wM_st8 cI a _ _ _) (vp_in_nI (by omega) (by decide)) dX6_begin_14 (fun H locs hP hS => ?_)
      refine lv_aload_n hx hb dX6_begin_15 rfl (lv_at hl 1 rfl) ?_
      refine x_get (ci := 6) (C := RX6) (T := TX6) (M := 29) (v := .ref (a 9)) hx hb hts in_X6_begin_6 hown hG hP 0 rfl rfl 11 (by decide) (List.mem_of_getElem? (i := 2) rfl) rfl rfl dX6_begin_16 ?_
      refine lv_iload_n hx hb dX6_begin_19 rfl (lv_at hl 0 rfl) ?_
      refine lv_iconst (v := 0) hx hb dX6_begin_20 (by decide) ?_
      refine x_iast (w := wM cI a) (σ := sx x2 8 (nI i).toNatClampNeg 0) hx hb hG hP hS 9 rfl (wM_st9 cI a _ _ _) (vp_in_nI (by omega) (by decide)) dX6_begin_21 (fun H locs hP hS => ?_)
      refine lv_aload_n hx hb dX6_begin_22 rfl (lv_at hl 1 rfl) ?_
      refine x_get (ci := 6) (C := RX6) (T := TX6) (M := 29) (v := .ref (a 10)) hx hb hts in_X6_begin_6 hown hG hP 0 rfl rfl 12 (by decide) (List.mem_of_getElem? (i := 3) rfl) rfl rfl dX6_begin_23 ?_
      refine lv_iload_n hx hb dX6_begin_26 rfl (lv_at hl 0 rfl) ?_
      refine lv_iconst (v := 0) hx hb dX6_begin_27 (by decide) ?_
      refine x_iast (w := wM cI a) (σ := sx (sx x2 8 (nI i).toNatClampNeg 0) 9 (nI i).toNatClampNeg 0) hx hb hG hP hS 10 rfl (wM_st10 cI a _ _ _) (vp_in_nI (by omega) (by decide)) dX6_begin_28 (fun H locs hP hS => ?_)
      refine lv_iinc (v := nI (i + 1)) (lv' := [(1, .int (nI (i + 1))), (0, .ref (a 0))]) hx hb dX6_begin_29 hl (k := 0) rfl (by rw [nI_succ]; rfl) (by decide) rfl (fun ls hl => ?_)
      refine lv_goto (tgt := 2) hx hb dX6_begin_32 (by decide) ?_
      exact ih (i + 1) (by omega) (sx (sx (sx x2 8 (nI i).toNatClampNeg 0) 9 (nI i).toNatClampNeg 0) 10 (nI i).toNatClampNeg 0) (by rw [itn, ← ex2]; rw [st_X6_begin_2]) H locs ls hP hS (lv_sub hl [0, 1] rfl)
  exact loop_2 (8) 0 (Nat.zero_add _) σ (itn0 _ _) _ _ _ hP hS (lv_sub hl [0, 1] rfl)
