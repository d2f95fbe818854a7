theorem in_nlt {x : Int32} {n : Nat} (h : vp_in x n) : ¬ x < 0 := fun q => h (Or.inl q)
theorem in_lt {x M : Int32} {n : Nat} (h : vp_in x n) (hM : M.toInt = n) : x < M := Int32.lt_iff_toInt_lt.mpr (by rw [hM]; exact (vp_in_iff.mp h).2)
theorem in_mk {x M : Int32} {n : Nat} (h : ¬ x < 0) (h2 : x < M) (hM : M.toInt = n) : vp_in x n := by
  refine vp_in_iff.mpr ⟨?_, ?_⟩
  · have q : (0 : Int32) ≤ x := by rcases Int32.le_total 0 x with q | q
                                   · exact q
                                   · exact Int32.not_lt.mp h
    have q2 := Int32.le_iff_toInt_le.mp q
    rw [zI] at q2
    exact q2
  · rw [← hM]; exact Int32.lt_iff_toInt_lt.mp h2
def hW (σ : Sg) (wh : Int32) : Prop := (¬ wh < (if (0 : Int32) < (σ 0 5) - 60 then (σ 0 5) - 60 else 0)) ∧ wh ≤ σ 0 5
theorem isFull0 {σ : Sg} {n : Nat} (hc : σ 1 4 = nI n) (hn : n < 300) : r_X4_isFull σ = 0 := by
  unfold r_X4_isFull
  rw [hc, if_pos (show nI n < (300 : Int32) from nI_lt (b := 300) hn (by decide))]
theorem sw4 {x : Int32} (h : vp_in x 4) (h0 : ¬ x = 0) (h1 : ¬ x = 1) (h2 : ¬ x = 2) (h3 : ¬ x = 3) : False := by
  obtain ⟨j, hj, rfl⟩ := vp_in_of h (by decide)
  have : j = 0 ∨ j = 1 ∨ j = 2 ∨ j = 3 := by omega
  rcases this with rfl | rfl | rfl | rfl
  · exact h0 rfl
  · exact h1 rfl
  · exact h2 rfl
  · exact h3 rfl
theorem sw5 {x : Int32} (h : vp_in x 5) (h0 : ¬ x = 0) (h1 : ¬ x = 1) (h2 : ¬ x = 2) (h3 : ¬ x = 3) (h4 : ¬ x = 4) : False := by
  obtain ⟨j, hj, rfl⟩ := vp_in_of h (by decide)
  have : j = 0 ∨ j = 1 ∨ j = 2 ∨ j = 3 ∨ j = 4 := by omega
  rcases this with rfl | rfl | rfl | rfl | rfl
  · exact h0 rfl
  · exact h1 rfl
  · exact h2 rfl
  · exact h3 rfl
  · exact h4 rfl
/-- where the stations lie -/
def GRX (σ : Sg) : Prop := ∀ j, j < 8 → ∃ a b d : Nat, a ≤ 99 ∧ b ≤ 99 ∧ d ≤ 99 ∧ σ 10 j = nI a ∧ σ 11 j = nI b ∧ σ 12 j = nI d
theorem df_int {a b : Nat} (ha : a ≤ 99) (hb : b ≤ 99) : (nI a - nI b).toInt = (a : Int) - b := by
  have e1 : (nI a).toInt = (a : Int) := nI_toInt (by omega)
  have e2 : (nI b).toInt = (b : Int) := nI_toInt (by omega)
  rw [fb_subI (by omega) (by omega), e1, e2]
theorem fb_mulI {x y : Int32} (h1 : -2147483648 ≤ x.toInt * y.toInt) (h2 : x.toInt * y.toInt < 2147483648) : (x * y).toInt = x.toInt * y.toInt := by
  rw [Int32.toInt_mul, fb_bmod h1 h2]
theorem sqd_int {a b : Nat} (ha : a ≤ 99) (hb : b ≤ 99) : ((nI a - nI b) * (nI a - nI b)).toInt = ((a : Int) - b) * ((a : Int) - b) ∧ 0 ≤ ((a : Int) - b) * ((a : Int) - b) ∧ ((a : Int) - b) * ((a : Int) - b) ≤ 9801 := by
  have h0 : 0 ≤ ((a : Int) - b) * ((a : Int) - b) := by
    rcases Int.le_total 0 ((a : Int) - b) with q | q
    · exact Int.mul_nonneg q q
    · exact Int.mul_nonneg_of_nonpos_of_nonpos q q
  have h1 : ((a : Int) - b) * ((a : Int) - b) ≤ 9801 := by
    rcases Int.le_total 0 ((a : Int) - b) with q | q
    · have := Int.mul_le_mul (show (a : Int) - b ≤ 99 by omega) (show (a : Int) - b ≤ 99 by omega) q (by decide)
      omega
    · have := Int.mul_le_mul (show (b : Int) - a ≤ 99 by omega) (show (b : Int) - a ≤ 99 by omega) (by omega) (by decide)
      have e : ((b : Int) - a) * ((b : Int) - a) = ((a : Int) - b) * ((a : Int) - b) := by grind
      omega
  have e := df_int ha hb
  refine ⟨?_, h0, h1⟩
  rw [fb_mulI (by rw [e]; omega) (by rw [e]; omega), e]
theorem sq2_in {a b a2 b2 : Nat} (h1 : a ≤ 99) (h2 : b ≤ 99) (h3 : a2 ≤ 99) (h4 : b2 ≤ 99) : vp_in (((nI a - nI b) * (nI a - nI b)) + ((nI a2 - nI b2) * (nI a2 - nI b2))) 19603 := by
  obtain ⟨e1, p1, q1⟩ := sqd_int h1 h2
  obtain ⟨e2, p2, q2⟩ := sqd_int h3 h4
  refine vp_in_iff.mpr ?_
  rw [fb_addI (by rw [e1, e2]; omega) (by rw [e1, e2]; omega), e1, e2]
  exact ⟨by omega, by omega⟩
theorem sq_in {σ : Sg} {st ot : Int32} (h : GRX σ) (h1 : vp_in st 8) (h2 : vp_in ot 8) : vp_in ((((σ 10 ot.toNatClampNeg) - (σ 10 st.toNatClampNeg)) * ((σ 10 ot.toNatClampNeg) - (σ 10 st.toNatClampNeg))) + (((σ 11 ot.toNatClampNeg) - (σ 11 st.toNatClampNeg)) * ((σ 11 ot.toNatClampNeg) - (σ 11 st.toNatClampNeg)))) 19603 := by
  obtain ⟨i, hi, rfl⟩ := vp_in_of h1 (by decide)
  obtain ⟨j, hj, rfl⟩ := vp_in_of h2 (by decide)
  rw [nI_clamp (by omega), nI_clamp (by omega)]
  obtain ⟨a, b, d, ha, hb, hd, e1, e2, -⟩ := h i hi
  obtain ⟨a2, b2, d2, ha2, hb2, hd2, e3, e4, -⟩ := h j hj
  rw [e1, e2, e3, e4]
  exact sq2_in ha2 ha hb2 hb
theorem c2_mag (x : Int32) : (FP.dmul 4611686018427387904 (FP.i2d x)).toNat % 2 ^ 63 < 1089 * 2 ^ 52 :=
  Nat.lt_of_lt_of_le (Jvm.FP.Core.dmul_mag (Ka := 1025) (Kb := 1056) (by decide) (Jvm.FP.Core.i2d_mag x) (by decide) (by decide)) (by decide)
theorem c2_nan (x : Int32) : vf_n64 (FP.dmul 4611686018427387904 (FP.i2d x)) := n64_of (Nat.lt_trans (c2_mag x) (by decide))
theorem rX_mag {σ : Sg} {sq : Int32} (h : vp_in sq 19603) : (r_X1_nearestRoot σ sq).toNat % 2 ^ 63 < 1089 * 2 ^ 52 := by
  obtain ⟨i, hi, rfl⟩ := vp_in_of h (by decide)
  unfold r_X1_nearestRoot
  rw [nI_clamp (by omega)]
  exact rV_mag hi
theorem wy_nan {v : UInt64} {x : Int32} (h : v.toNat % 2 ^ 63 < 1089 * 2 ^ 52) : vf_n64 (FP.dadd v (FP.dmul 4611686018427387904 (FP.i2d x))) := n64_add h (c2_mag x) (by decide)
theorem wy_mag {v : UInt64} {x : Int32} (h : v.toNat % 2 ^ 63 < 1089 * 2 ^ 52) : (FP.dadd v (FP.dmul 4611686018427387904 (FP.i2d x))).toNat % 2 ^ 63 < 1091 * 2 ^ 52 := Jvm.FP.Core.dadd_mag h (c2_mag x) (by decide)
theorem w100_nan {v : UInt64} (h : v.toNat % 2 ^ 63 < 1091 * 2 ^ 52) : vf_n64 (FP.dmul 4636737291354636288 v) :=
  n64_of (Nat.lt_of_lt_of_le (Jvm.FP.Core.dmul_mag (Ka := 1030) (Kb := 1091) (by decide) h (by decide) (by decide)) (by decide))
set_option maxHeartbeats 4000000 in
set_option maxRecDepth 100000 in
theorem c_X5_needStation (l : Launch) (D : va_G) (cI : ClassId) (a : Nat → Nat) (sz : Nat) (σ : Sg) (st : Int32) (hs : vp_in st 8) : Met l yX5_needStation wsX5_needStation ({ frames := 0, cells := 0, slots := 0, locals := 0 }) (PcW D cI 29 a (wX cI a) sz σ [.int st]) (QvW D 29 a (wX cI a) sz σ) 0 0 (AX 29 a sz) := by
  refine x_of (cc := cX5_needStation) (maxL := 1) (ret := none) (C := RX5) rfl (by decide) rfl (Nat.le_of_ble_eq_true rfl) (fun p e s m below meth c hx hb hr hml hlk hts hown hsz H hP hS hG ls hl => ?_)
  have hl : lv_has ls 1 [(0, .int st)] := hl
  refine lv_iload_n hx hb dX5_needStation_0 rfl (lv_at hl 0 rfl) ?_
  refine lv_if_lt (tgt := 10) hx hb dX5_needStation_1 (by decide) (fun h => absurd h (in_nlt hs)) (fun _ => ?_)
  refine lv_iload_n hx hb dX5_needStation_4 rfl (lv_at hl 0 rfl) ?_
  refine lv_bipush (v := 8) hx hb dX5_needStation_5 (by decide) ?_
  refine lv_icmp_lt (tgt := 20) hx hb dX5_needStation_7 (by decide) (fun _ => ?_) (fun h => absurd (in_lt hs (by decide)) h)
  exact x_vret hx hb hr hlk hsz hP hS rfl dX5_needStation_20
set_option maxHeartbeats 4000000 in
set_option maxRecDepth 100000 in
theorem c_X5_needCycle (l : Launch) (D : va_G) (cI : ClassId) (a : Nat → Nat) (sz : Nat) (σ : Sg) (cy : Int32) (hc : vp_in cy 30) : Met l yX5_needCycle wsX5_needCycle ({ frames := 0, cells := 0, slots := 0, locals := 0 }) (PcW D cI 29 a (wX cI a) sz σ [.int cy]) (QvW D 29 a (wX cI a) sz σ) 0 0 (AX 29 a sz) := by
  refine x_of (cc := cX5_needCycle) (maxL := 1) (ret := none) (C := RX5) rfl (by decide) rfl (Nat.le_of_ble_eq_true rfl) (fun p e s m below meth c hx hb hr hml hlk hts hown hsz H hP hS hG ls hl => ?_)
  have hl : lv_has ls 1 [(0, .int cy)] := hl
  refine lv_iload_n hx hb dX5_needCycle_0 rfl (lv_at hl 0 rfl) ?_
  refine lv_if_lt (tgt := 10) hx hb dX5_needCycle_1 (by decide) (fun h => absurd h (in_nlt hc)) (fun _ => ?_)
  refine lv_iload_n hx hb dX5_needCycle_4 rfl (lv_at hl 0 rfl) ?_
  refine lv_bipush (v := 30) hx hb dX5_needCycle_5 (by decide) ?_
  refine lv_icmp_lt (tgt := 20) hx hb dX5_needCycle_7 (by decide) (fun _ => ?_) (fun h => absurd (in_lt hc (by decide)) h)
  exact x_vret hx hb hr hlk hsz hP hS rfl dX5_needCycle_20
set_option maxHeartbeats 4000000 in
set_option maxRecDepth 100000 in
theorem c_X5_needRider (l : Launch) (D : va_G) (cI : ClassId) (a : Nat → Nat) (sz : Nat) (σ : Sg) (ri : Int32) (hr1 : vp_in ri 10) : Met l yX5_needRider wsX5_needRider ({ frames := 0, cells := 0, slots := 0, locals := 0 }) (PcW D cI 29 a (wX cI a) sz σ [.int ri]) (QvW D 29 a (wX cI a) sz σ) 0 0 (AX 29 a sz) := by
  refine x_of (cc := cX5_needRider) (maxL := 1) (ret := none) (C := RX5) rfl (by decide) rfl (Nat.le_of_ble_eq_true rfl) (fun p e s m below meth c hx hb hr hml hlk hts hown hsz H hP hS hG ls hl => ?_)
  have hl : lv_has ls 1 [(0, .int ri)] := hl
  refine lv_iload_n hx hb dX5_needRider_0 rfl (lv_at hl 0 rfl) ?_
  refine lv_if_lt (tgt := 10) hx hb dX5_needRider_1 (by decide) (fun h => absurd h (in_nlt hr1)) (fun _ => ?_)
  refine lv_iload_n hx hb dX5_needRider_4 rfl (lv_at hl 0 rfl) ?_
  refine lv_bipush (v := 10) hx hb dX5_needRider_5 (by decide) ?_
  refine lv_icmp_lt (tgt := 20) hx hb dX5_needRider_7 (by decide) (fun _ => ?_) (fun h => absurd (in_lt hr1 (by decide)) h)
  exact x_vret hx hb hr hlk hsz hP hS rfl dX5_needRider_20
set_option maxHeartbeats 4000000 in
set_option maxRecDepth 100000 in
theorem c_X5_needUpTo (l : Launch) (D : va_G) (cI : ClassId) (a : Nat → Nat) (sz : Nat) (σ : Sg) (v : Int32) (mo : Int32) (hv : ¬ v < 0 ∧ v ≤ mo) : Met l yX5_needUpTo wsX5_needUpTo ({ frames := 0, cells := 0, slots := 0, locals := 0 }) (PcW D cI 29 a (wX cI a) sz σ [.int v, .int mo]) (QvW D 29 a (wX cI a) sz σ) 0 0 (AX 29 a sz) := by
  refine x_of (cc := cX5_needUpTo) (maxL := 2) (ret := none) (C := RX5) rfl (by decide) rfl (Nat.le_of_ble_eq_true rfl) (fun p e s m below meth c hx hb hr hml hlk hts hown hsz H hP hS hG ls hl => ?_)
  have hl : lv_has ls 2 [(0, .int v), (1, .int mo)] := hl
  refine lv_iload_n hx hb dX5_needUpTo_0 rfl (lv_at hl 0 rfl) ?_
  refine lv_if_lt (tgt := 9) hx hb dX5_needUpTo_1 (by decide) (fun h => absurd h hv.1) (fun _ => ?_)
  refine lv_iload_n hx hb dX5_needUpTo_4 rfl (lv_at hl 0 rfl) ?_
  refine lv_iload_n hx hb dX5_needUpTo_5 rfl (lv_at hl 1 rfl) ?_
  refine lv_icmp_le (tgt := 19) hx hb dX5_needUpTo_6 (by decide) (fun _ => ?_) (fun h => absurd hv.2 h)
  exact x_vret hx hb hr hlk hsz hP hS rfl dX5_needUpTo_19
theorem in_X5_needHearableMinute_5 : ∀ wd ∈ u_ws RX5 TX5 9, wd ∈ wsX5_needHearableMinute := by decide +kernel
set_option maxHeartbeats 4000000 in
set_option maxRecDepth 100000 in
theorem c_X5_needHearableMinute (l : Launch) (D : va_G) (cI : ClassId) (a : Nat → Nat) (sz : Nat) (σ : Sg) (wh : Int32) (hv : hW σ wh) : Met l yX5_needHearableMinute wsX5_needHearableMinute ({ frames := 1, cells := 0, slots := 0, locals := 14 }) (PcW D cI 29 a (wX cI a) sz σ [.ref (a 0), .int wh]) (QvW D 29 a (wX cI a) sz σ) 0 0 (AX 29 a sz) := by
  refine x_of (cc := cX5_needHearableMinute) (maxL := 2) (ret := none) (C := RX5) rfl (by decide) rfl (Nat.le_of_ble_eq_true rfl) (fun p e s m below meth c hx hb hr hml hlk hts hown hsz H hP hS hG ls hl => ?_)
  have hl : lv_has ls 2 [(0, .ref (a 0)), (1, .int wh)] := hl
  refine lv_iload_n hx hb dX5_needHearableMinute_0 rfl (lv_at hl 1 rfl) ?_
  refine lv_iconst (v := 0) hx hb dX5_needHearableMinute_1 (by decide) ?_
  refine lv_aload_n hx hb dX5_needHearableMinute_2 rfl (lv_at hl 0 rfl) ?_
  refine x_get (ci := 5) (C := RX5) (T := TX5) (M := 9) (v := .int (σ 0 5)) hx hb hts in_X5_needHearableMinute_5 hown hG hP 0 rfl rfl 5 (by decide) (List.mem_of_getElem? (i := 3) rfl) rfl rfl dX5_needHearableMinute_3 ?_
  refine lv_bipush (v := 60) hx hb dX5_needHearableMinute_6 (by decide) ?_
  refine lv_isub hx hb dX5_needHearableMinute_8 ?_
  refine va_mmax hx hb (by rw [hml]; exact hl.1.symm) hown (hts _ (List.mem_of_getElem? (i := 4) rfl)) (hts _ (List.mem_of_getElem? (i := 5) rfl)) (hts _ (List.mem_of_getElem? (i := 6) rfl)) (hts _ (List.mem_of_getElem? (i := 7) rfl)) (Nat.le_of_ble_eq_true rfl) (Nat.le_of_ble_eq_true rfl) (Nat.zero_le _) (Nat.zero_le _) dX5_needHearableMinute_9 ?_
  refine lv_icmp_lt (tgt := 23) hx hb dX5_needHearableMinute_12 (by decide) (fun h => absurd h hv.1) (fun _ => ?_)
  refine lv_iload_n hx hb dX5_needHearableMinute_15 rfl (lv_at hl 1 rfl) ?_
  refine lv_aload_n hx hb dX5_needHearableMinute_16 rfl (lv_at hl 0 rfl) ?_
  refine x_get (ci := 5) (C := RX5) (T := TX5) (M := 9) (v := .int (σ 0 5)) hx hb hts in_X5_needHearableMinute_5 hown hG hP 0 rfl rfl 5 (by decide) (List.mem_of_getElem? (i := 3) rfl) rfl rfl dX5_needHearableMinute_17 ?_
  refine lv_icmp_le (tgt := 33) hx hb dX5_needHearableMinute_20 (by decide) (fun _ => ?_) (fun h => absurd hv.2 h)
  exact x_vret hx hb hr hlk hsz hP hS rfl dX5_needHearableMinute_33
theorem in_X5_needRoom_5 : ∀ wd ∈ u_ws RX5 TX5 9, wd ∈ wsX5_needRoom := by decide +kernel
set_option maxHeartbeats 4000000 in
set_option maxRecDepth 100000 in
theorem c_X5_needRoom (l : Launch) (D : va_G) (cI : ClassId) (a : Nat → Nat) (sz : Nat) (σ : Sg) (hv : r_X4_isFull σ = 0) : Met l yX5_needRoom wsX5_needRoom ({ frames := 1, cells := 0, slots := 0, locals := 20 }) (PcW D cI 29 a (wX cI a) sz σ [.ref (a 0)]) (QvW D 29 a (wX cI a) sz σ) 0 0 (AX 29 a sz) := by
  refine x_of (cc := cX5_needRoom) (maxL := 1) (ret := none) (C := RX5) rfl (by decide) rfl (Nat.le_of_ble_eq_true rfl) (fun p e s m below meth c hx hb hr hml hlk hts hown hsz H hP hS hG ls hl => ?_)
  have hl : lv_has ls 1 [(0, .ref (a 0))] := hl
  refine lv_aload_n hx hb dX5_needRoom_0 rfl (lv_at hl 0 rfl) ?_
  refine x_get (ci := 5) (C := RX5) (T := TX5) (M := 9) (v := .ref (a 1)) hx hb hts in_X5_needRoom_5 hown hG hP 0 rfl rfl 0 (by decide) (List.mem_of_getElem? (i := 3) rfl) rfl rfl dX5_needRoom_1 ?_
  refine x_callVi (w := wX cI a) (σ := σ) (σ' := σ) (As := []) (rest := []) (q0 := 1) ⟨hx, hb, hml, hown, hts⟩ hG hP hS hsz (c_X4_isFull l D cI a H.size σ ) (cwV 0 hts gX5_needRoom_X4_isFull rfl rfl rfl (by decide +kernel) ⟨Nat.le_of_ble_eq_true rfl, Nat.le_of_ble_eq_true rfl⟩) rfl rfl rfl rfl hl.1 rfl (Nat.le_of_ble_eq_true rfl) ⟨Nat.zero_le _, Nat.zero_le _⟩ dX5_needRoom_4 (fun H locs hP hS => ?_)
  refine lv_if_eq (tgt := 20) hx hb dX5_needRoom_7 (by decide) (fun _ => ?_) (fun h => absurd hv h)
  exact x_vret hx hb hr hlk hsz hP hS rfl dX5_needRoom_20
set_option maxHeartbeats 4000000 in
set_option maxRecDepth 100000 in
theorem xc_X5_needStation_x (l : Launch) (D : va_G) (cI : ClassId) (a : Nat → Nat) (sz : Nat) (σ : Sg) (st : Int32) (hx0 : ¬ vp_in st 8) (hlf : l.stackTraces = false) : vx_Met l yX5_needStation wsX5_needStation ({ frames := 6, cells := 1, slots := 6, locals := 82 }) (PcE D cI 29 a (wX cI a) sz σ [.int st]) (QxV 29 a sz) (XE D 29 a (wX cI a) sz σ "java/lang/IndexOutOfBoundsException") 1 6 (AX 29 a sz) := by
  refine x_ofE (cc := cX5_needStation) (maxL := 1) (ret := none) (C := RX5) rfl (by decide) rfl (Nat.le_of_ble_eq_true rfl) (fun p e s m below meth c hx hb hr hml hlk hts hown hsz hnt hE H hP hS hG ls hl => ?_)
  have hl : lv_has ls 1 [(0, .int st)] := hl
  refine lv_iload_n hx hb dX5_needStation_0 rfl (lv_at hl 0 rfl) ?_
  refine lv_if_lt (tgt := 10) hx hb dX5_needStation_1 (by decide) (fun h_1 => ?_) (fun h_1 => ?_)
  · exact x_thr (w := wX cI a) (σ := σ) (text := "no such station") hx hb hlf hml hlk hown hnt hE hP hS (by decide) (hts _ (List.mem_of_getElem? (i := 1) rfl)) (hts _ (List.mem_of_getElem? (i := 2) rfl)) (fun w hw => hts w (by first | exact List.mem_cons_of_mem _ (List.mem_append_right _ hw) | exact List.mem_cons_of_mem _ (List.mem_append_left _ (List.mem_append_right _ hw)))) xI_B xI_g (by decide) hl.1 dX5_needStation_10 dX5_needStation_13 dX5_needStation_14 dX5_needStation_16 dX5_needStation_19 ⟨Nat.le_of_ble_eq_true rfl, Nat.le_of_ble_eq_true rfl⟩ ⟨Nat.le_of_ble_eq_true rfl, Nat.le_of_ble_eq_true rfl⟩ ⟨Nat.le_of_ble_eq_true rfl, Nat.le_of_ble_eq_true rfl⟩
  · refine lv_iload_n hx hb dX5_needStation_4 rfl (lv_at hl 0 rfl) ?_
    refine lv_bipush (v := 8) hx hb dX5_needStation_5 (by decide) ?_
    refine lv_icmp_lt (tgt := 20) hx hb dX5_needStation_7 (by decide) (fun h_2 => ?_) (fun h_2 => ?_)
    · exact (hx0 (in_mk h_1 h_2 (by decide))).elim
    · exact x_thr (w := wX cI a) (σ := σ) (text := "no such station") hx hb hlf hml hlk hown hnt hE hP hS (by decide) (hts _ (List.mem_of_getElem? (i := 1) rfl)) (hts _ (List.mem_of_getElem? (i := 2) rfl)) (fun w hw => hts w (by first | exact List.mem_cons_of_mem _ (List.mem_append_right _ hw) | exact List.mem_cons_of_mem _ (List.mem_append_left _ (List.mem_append_right _ hw)))) xI_B xI_g (by decide) hl.1 dX5_needStation_10 dX5_needStation_13 dX5_needStation_14 dX5_needStation_16 dX5_needStation_19 ⟨Nat.le_of_ble_eq_true rfl, Nat.le_of_ble_eq_true rfl⟩ ⟨Nat.le_of_ble_eq_true rfl, Nat.le_of_ble_eq_true rfl⟩ ⟨Nat.le_of_ble_eq_true rfl, Nat.le_of_ble_eq_true rfl⟩
set_option maxHeartbeats 4000000 in
set_option maxRecDepth 100000 in
theorem xc_X5_needCycle_x (l : Launch) (D : va_G) (cI : ClassId) (a : Nat → Nat) (sz : Nat) (σ : Sg) (cy : Int32) (hx0 : ¬ vp_in cy 30) (hlf : l.stackTraces = false) : vx_Met l yX5_needCycle wsX5_needCycle ({ frames := 6, cells := 1, slots := 6, locals := 82 }) (PcE D cI 29 a (wX cI a) sz σ [.int cy]) (QxV 29 a sz) (XE D 29 a (wX cI a) sz σ "java/lang/IndexOutOfBoundsException") 1 6 (AX 29 a sz) := by
  refine x_ofE (cc := cX5_needCycle) (maxL := 1) (ret := none) (C := RX5) rfl (by decide) rfl (Nat.le_of_ble_eq_true rfl) (fun p e s m below meth c hx hb hr hml hlk hts hown hsz hnt hE H hP hS hG ls hl => ?_)
  have hl : lv_has ls 1 [(0, .int cy)] := hl
  refine lv_iload_n hx hb dX5_needCycle_0 rfl (lv_at hl 0 rfl) ?_
  refine lv_if_lt (tgt := 10) hx hb dX5_needCycle_1 (by decide) (fun h_1 => ?_) (fun h_1 => ?_)
  · exact x_thr (w := wX cI a) (σ := σ) (text := "no such cycle") hx hb hlf hml hlk hown hnt hE hP hS (by decide) (hts _ (List.mem_of_getElem? (i := 1) rfl)) (hts _ (List.mem_of_getElem? (i := 2) rfl)) (fun w hw => hts w (by first | exact List.mem_cons_of_mem _ (List.mem_append_right _ hw) | exact List.mem_cons_of_mem _ (List.mem_append_left _ (List.mem_append_right _ hw)))) xI_B xI_g (by decide) hl.1 dX5_needCycle_10 dX5_needCycle_13 dX5_needCycle_14 dX5_needCycle_16 dX5_needCycle_19 ⟨Nat.le_of_ble_eq_true rfl, Nat.le_of_ble_eq_true rfl⟩ ⟨Nat.le_of_ble_eq_true rfl, Nat.le_of_ble_eq_true rfl⟩ ⟨Nat.le_of_ble_eq_true rfl, Nat.le_of_ble_eq_true rfl⟩
  · refine lv_iload_n hx hb dX5_needCycle_4 rfl (lv_at hl 0 rfl) ?_
    refine lv_bipush (v := 30) hx hb dX5_needCycle_5 (by decide) ?_
    refine lv_icmp_lt (tgt := 20) hx hb dX5_needCycle_7 (by decide) (fun h_2 => ?_) (fun h_2 => ?_)
    · exact (hx0 (in_mk h_1 h_2 (by decide))).elim
    · exact x_thr (w := wX cI a) (σ := σ) (text := "no such cycle") hx hb hlf hml hlk hown hnt hE hP hS (by decide) (hts _ (List.mem_of_getElem? (i := 1) rfl)) (hts _ (List.mem_of_getElem? (i := 2) rfl)) (fun w hw => hts w (by first | exact List.mem_cons_of_mem _ (List.mem_append_right _ hw) | exact List.mem_cons_of_mem _ (List.mem_append_left _ (List.mem_append_right _ hw)))) xI_B xI_g (by decide) hl.1 dX5_needCycle_10 dX5_needCycle_13 dX5_needCycle_14 dX5_needCycle_16 dX5_needCycle_19 ⟨Nat.le_of_ble_eq_true rfl, Nat.le_of_ble_eq_true rfl⟩ ⟨Nat.le_of_ble_eq_true rfl, Nat.le_of_ble_eq_true rfl⟩ ⟨Nat.le_of_ble_eq_true rfl, Nat.le_of_ble_eq_true rfl⟩
set_option maxHeartbeats 4000000 in
set_option maxRecDepth 100000 in
theorem xc_X5_needRider_x (l : Launch) (D : va_G) (cI : ClassId) (a : Nat → Nat) (sz : Nat) (σ : Sg) (ri : Int32) (hx0 : ¬ vp_in ri 10) (hlf : l.stackTraces = false) : vx_Met l yX5_needRider wsX5_needRider ({ frames := 6, cells := 1, slots := 6, locals := 82 }) (PcE D cI 29 a (wX cI a) sz σ [.int ri]) (QxV 29 a sz) (XE D 29 a (wX cI a) sz σ "java/lang/IndexOutOfBoundsException") 1 6 (AX 29 a sz) := by
  refine x_ofE (cc := cX5_needRider) (maxL := 1) (ret := none) (C := RX5) rfl (by decide) rfl (Nat.le_of_ble_eq_true rfl) (fun p e s m below meth c hx hb hr hml hlk hts hown hsz hnt hE H hP hS hG ls hl => ?_)
  have hl : lv_has ls 1 [(0, .int ri)] := hl
  refine lv_iload_n hx hb dX5_needRider_0 rfl (lv_at hl 0 rfl) ?_
  refine lv_if_lt (tgt := 10) hx hb dX5_needRider_1 (by decide) (fun h_1 => ?_) (fun h_1 => ?_)
  · exact x_thr (w := wX cI a) (σ := σ) (text := "no such rider") hx hb hlf hml hlk hown hnt hE hP hS (by decide) (hts _ (List.mem_of_getElem? (i := 1) rfl)) (hts _ (List.mem_of_getElem? (i := 2) rfl)) (fun w hw => hts w (by first | exact List.mem_cons_of_mem _ (List.mem_append_right _ hw) | exact List.mem_cons_of_mem _ (List.mem_append_left _ (List.mem_append_right _ hw)))) xI_B xI_g (by decide) hl.1 dX5_needRider_10 dX5_needRider_13 dX5_needRider_14 dX5_needRider_16 dX5_needRider_19 ⟨Nat.le_of_ble_eq_true rfl, Nat.le_of_ble_eq_true rfl⟩ ⟨Nat.le_of_ble_eq_true rfl, Nat.le_of_ble_eq_true rfl⟩ ⟨Nat.le_of_ble_eq_true rfl, Nat.le_of_ble_eq_true rfl⟩
  · refine lv_iload_n hx hb dX5_needRider_4 rfl (lv_at hl 0 rfl) ?_
    refine lv_bipush (v := 10) hx hb dX5_needRider_5 (by decide) ?_
    refine lv_icmp_lt (tgt := 20) hx hb dX5_needRider_7 (by decide) (fun h_2 => ?_) (fun h_2 => ?_)
    · exact (hx0 (in_mk h_1 h_2 (by decide))).elim
    · exact x_thr (w := wX cI a) (σ := σ) (text := "no such rider") hx hb hlf hml hlk hown hnt hE hP hS (by decide) (hts _ (List.mem_of_getElem? (i := 1) rfl)) (hts _ (List.mem_of_getElem? (i := 2) rfl)) (fun w hw => hts w (by first | exact List.mem_cons_of_mem _ (List.mem_append_right _ hw) | exact List.mem_cons_of_mem _ (List.mem_append_left _ (List.mem_append_right _ hw)))) xI_B xI_g (by decide) hl.1 dX5_needRider_10 dX5_needRider_13 dX5_needRider_14 dX5_needRider_16 dX5_needRider_19 ⟨Nat.le_of_ble_eq_true rfl, Nat.le_of_ble_eq_true rfl⟩ ⟨Nat.le_of_ble_eq_true rfl, Nat.le_of_ble_eq_true rfl⟩ ⟨Nat.le_of_ble_eq_true rfl, Nat.le_of_ble_eq_true rfl⟩
set_option maxHeartbeats 4000000 in
set_option maxRecDepth 100000 in
theorem xc_X5_needUpTo_x (l : Launch) (D : va_G) (cI : ClassId) (a : Nat → Nat) (sz : Nat) (σ : Sg) (v : Int32) (mo : Int32) (hx0 : ¬ (¬ v < 0 ∧ v ≤ mo)) (hlf : l.stackTraces = false) : vx_Met l yX5_needUpTo wsX5_needUpTo ({ frames := 6, cells := 1, slots := 6, locals := 82 }) (PcE D cI 29 a (wX cI a) sz σ [.int v, .int mo]) (QxV 29 a sz) (XE D 29 a (wX cI a) sz σ "java/lang/IllegalArgumentException") 1 6 (AX 29 a sz) := by
  refine x_ofE (cc := cX5_needUpTo) (maxL := 2) (ret := none) (C := RX5) rfl (by decide) rfl (Nat.le_of_ble_eq_true rfl) (fun p e s m below meth c hx hb hr hml hlk hts hown hsz hnt hE H hP hS hG ls hl => ?_)
  have hl : lv_has ls 2 [(0, .int v), (1, .int mo)] := hl
  refine lv_iload_n hx hb dX5_needUpTo_0 rfl (lv_at hl 0 rfl) ?_
  refine lv_if_lt (tgt := 9) hx hb dX5_needUpTo_1 (by decide) (fun h_1 => ?_) (fun h_1 => ?_)
  · exact x_thr (w := wX cI a) (σ := σ) (text := "a value out of range") hx hb hlf hml hlk hown hnt hE hP hS (by decide) (hts _ (List.mem_of_getElem? (i := 1) rfl)) (hts _ (List.mem_of_getElem? (i := 2) rfl)) (fun w hw => hts w (by first | exact List.mem_cons_of_mem _ (List.mem_append_right _ hw) | exact List.mem_cons_of_mem _ (List.mem_append_left _ (List.mem_append_right _ hw)))) xA_B xA_g (by decide) hl.1 dX5_needUpTo_9 dX5_needUpTo_12 dX5_needUpTo_13 dX5_needUpTo_15 dX5_needUpTo_18 ⟨Nat.le_of_ble_eq_true rfl, Nat.le_of_ble_eq_true rfl⟩ ⟨Nat.le_of_ble_eq_true rfl, Nat.le_of_ble_eq_true rfl⟩ ⟨Nat.le_of_ble_eq_true rfl, Nat.le_of_ble_eq_true rfl⟩
  · refine lv_iload_n hx hb dX5_needUpTo_4 rfl (lv_at hl 0 rfl) ?_
    refine lv_iload_n hx hb dX5_needUpTo_5 rfl (lv_at hl 1 rfl) ?_
    refine lv_icmp_le (tgt := 19) hx hb dX5_needUpTo_6 (by decide) (fun h_2 => ?_) (fun h_2 => ?_)
    · exact (hx0 ⟨h_1, h_2⟩).elim
    · exact x_thr (w := wX cI a) (σ := σ) (text := "a value out of range") hx hb hlf hml hlk hown hnt hE hP hS (by decide) (hts _ (List.mem_of_getElem? (i := 1) rfl)) (hts _ (List.mem_of_getElem? (i := 2) rfl)) (fun w hw => hts w (by first | exact List.mem_cons_of_mem _ (List.mem_append_right _ hw) | exact List.mem_cons_of_mem _ (List.mem_append_left _ (List.mem_append_right _ hw)))) xA_B xA_g (by decide) hl.1 dX5_needUpTo_9 dX5_needUpTo_12 dX5_needUpTo_13 dX5_needUpTo_15 dX5_needUpTo_18 ⟨Nat.le_of_ble_eq_true rfl, Nat.le_of_ble_eq_true rfl⟩ ⟨Nat.le_of_ble_eq_true rfl, Nat.le_of_ble_eq_true rfl⟩ ⟨Nat.le_of_ble_eq_true rfl, Nat.le_of_ble_eq_true rfl⟩
set_option maxHeartbeats 4000000 in
set_option maxRecDepth 100000 in
theorem xc_X5_needHearableMinute_x (l : Launch) (D : va_G) (cI : ClassId) (a : Nat → Nat) (sz : Nat) (σ : Sg) (wh : Int32) (hx0 : ¬ hW σ wh) (hlf : l.stackTraces = false) : vx_Met l yX5_needHearableMinute wsX5_needHearableMinute ({ frames := 6, cells := 1, slots := 6, locals := 82 }) (PcE D cI 29 a (wX cI a) sz σ [.ref (a 0), .int wh]) (QxV 29 a sz) (XE D 29 a (wX cI a) sz σ "java/lang/IllegalArgumentException") 1 6 (AX 29 a sz) := by
  refine x_ofE (cc := cX5_needHearableMinute) (maxL := 2) (ret := none) (C := RX5) rfl (by decide) rfl (Nat.le_of_ble_eq_true rfl) (fun p e s m below meth c hx hb hr hml hlk hts hown hsz hnt hE H hP hS hG ls hl => ?_)
  have hl : lv_has ls 2 [(0, .ref (a 0)), (1, .int wh)] := hl
  refine lv_iload_n hx hb dX5_needHearableMinute_0 rfl (lv_at hl 1 rfl) ?_
  refine lv_iconst (v := 0) hx hb dX5_needHearableMinute_1 (by decide) ?_
  refine lv_aload_n hx hb dX5_needHearableMinute_2 rfl (lv_at hl 0 rfl) ?_
  refine x_get (ci := 5) (C := RX5) (T := TX5) (M := 9) (v := .int (σ 0 5)) hx hb hts in_X5_needHearableMinute_5 hown hG hP 0 rfl rfl 5 (by decide) (List.mem_of_getElem? (i := 3) rfl) rfl rfl dX5_needHearableMinute_3 ?_
  refine lv_bipush (v := 60) hx hb dX5_needHearableMinute_6 (by decide) ?_
  refine lv_isub hx hb dX5_needHearableMinute_8 ?_
  refine va_mmax hx hb (by rw [hml]; exact hl.1.symm) hown (hts _ (List.mem_of_getElem? (i := 4) rfl)) (hts _ (List.mem_of_getElem? (i := 5) rfl)) (hts _ (List.mem_of_getElem? (i := 6) rfl)) (hts _ (List.mem_of_getElem? (i := 7) rfl)) (Nat.le_of_ble_eq_true rfl) (Nat.le_of_ble_eq_true rfl) (Nat.zero_le _) (Nat.zero_le _) dX5_needHearableMinute_9 ?_
  refine lv_icmp_lt (tgt := 23) hx hb dX5_needHearableMinute_12 (by decide) (fun h_1 => ?_) (fun h_1 => ?_)
  · exact x_thr (w := wX cI a) (σ := σ) (text := "minute out of range") hx hb hlf hml hlk hown hnt hE hP hS (by decide) (hts _ (List.mem_of_getElem? (i := 1) rfl)) (hts _ (List.mem_of_getElem? (i := 2) rfl)) (fun w hw => hts w (by first | exact List.mem_cons_of_mem _ (List.mem_append_right _ hw) | exact List.mem_cons_of_mem _ (List.mem_append_left _ (List.mem_append_right _ hw)))) xA_B xA_g (by decide) hl.1 dX5_needHearableMinute_23 dX5_needHearableMinute_26 dX5_needHearableMinute_27 dX5_needHearableMinute_29 dX5_needHearableMinute_32 ⟨Nat.le_of_ble_eq_true rfl, Nat.le_of_ble_eq_true rfl⟩ ⟨Nat.le_of_ble_eq_true rfl, Nat.le_of_ble_eq_true rfl⟩ ⟨Nat.le_of_ble_eq_true rfl, Nat.le_of_ble_eq_true rfl⟩
  · refine lv_iload_n hx hb dX5_needHearableMinute_15 rfl (lv_at hl 1 rfl) ?_
    refine lv_aload_n hx hb dX5_needHearableMinute_16 rfl (lv_at hl 0 rfl) ?_
    refine x_get (ci := 5) (C := RX5) (T := TX5) (M := 9) (v := .int (σ 0 5)) hx hb hts in_X5_needHearableMinute_5 hown hG hP 0 rfl rfl 5 (by decide) (List.mem_of_getElem? (i := 3) rfl) rfl rfl dX5_needHearableMinute_17 ?_
    refine lv_icmp_le (tgt := 33) hx hb dX5_needHearableMinute_20 (by decide) (fun h_2 => ?_) (fun h_2 => ?_)
    · exact (hx0 ⟨h_1, h_2⟩).elim
    · exact x_thr (w := wX cI a) (σ := σ) (text := "minute out of range") hx hb hlf hml hlk hown hnt hE hP hS (by decide) (hts _ (List.mem_of_getElem? (i := 1) rfl)) (hts _ (List.mem_of_getElem? (i := 2) rfl)) (fun w hw => hts w (by first | exact List.mem_cons_of_mem _ (List.mem_append_right _ hw) | exact List.mem_cons_of_mem _ (List.mem_append_left _ (List.mem_append_right _ hw)))) xA_B xA_g (by decide) hl.1 dX5_needHearableMinute_23 dX5_needHearableMinute_26 dX5_needHearableMinute_27 dX5_needHearableMinute_29 dX5_needHearableMinute_32 ⟨Nat.le_of_ble_eq_true rfl, Nat.le_of_ble_eq_true rfl⟩ ⟨Nat.le_of_ble_eq_true rfl, Nat.le_of_ble_eq_true rfl⟩ ⟨Nat.le_of_ble_eq_true rfl, Nat.le_of_ble_eq_true rfl⟩
set_option maxHeartbeats 4000000 in
set_option maxRecDepth 100000 in
theorem xc_X5_needRoom_x (l : Launch) (D : va_G) (cI : ClassId) (a : Nat → Nat) (sz : Nat) (σ : Sg) (hx0 : ¬ r_X4_isFull σ = 0) (hlf : l.stackTraces = false) : vx_Met l yX5_needRoom wsX5_needRoom ({ frames := 6, cells := 1, slots := 6, locals := 82 }) (PcE D cI 29 a (wX cI a) sz σ [.ref (a 0)]) (QxV 29 a sz) (XE D 29 a (wX cI a) sz σ "java/lang/IllegalStateException") 1 6 (AX 29 a sz) := by
  refine x_ofE (cc := cX5_needRoom) (maxL := 1) (ret := none) (C := RX5) rfl (by decide) rfl (Nat.le_of_ble_eq_true rfl) (fun p e s m below meth c hx hb hr hml hlk hts hown hsz hnt hE H hP hS hG ls hl => ?_)
  have hl : lv_has ls 1 [(0, .ref (a 0))] := hl
  refine lv_aload_n hx hb dX5_needRoom_0 rfl (lv_at hl 0 rfl) ?_
  refine x_get (ci := 5) (C := RX5) (T := TX5) (M := 9) (v := .ref (a 1)) hx hb hts in_X5_needRoom_5 hown hG hP 0 rfl rfl 0 (by decide) (List.mem_of_getElem? (i := 3) rfl) rfl rfl dX5_needRoom_1 ?_
  refine x_callVi (w := wX cI a) (σ := σ) (σ' := σ) (As := []) (rest := []) (q0 := 1) ⟨hx, hb, hml, hown, hts⟩ hG hP hS hsz (c_X4_isFull l D cI a H.size σ ) (cwV 0 hts gX5_needRoom_X4_isFull rfl rfl rfl (by decide +kernel) ⟨Nat.le_of_ble_eq_true rfl, Nat.le_of_ble_eq_true rfl⟩) rfl rfl rfl rfl hl.1 rfl (Nat.le_of_ble_eq_true rfl) ⟨Nat.zero_le _, Nat.zero_le _⟩ dX5_needRoom_4 (fun H locs hP hS => ?_)
  refine lv_if_eq (tgt := 20) hx hb dX5_needRoom_7 (by decide) (fun h => absurd h hx0) (fun _ => ?_)
  exact x_thr (w := wX cI a) (σ := σ) (text := "as much as can be was heard") hx hb hlf hml hlk hown hnt hE hP hS (by decide) (hts _ (List.mem_of_getElem? (i := 1) rfl)) (hts _ (List.mem_of_getElem? (i := 2) rfl)) (fun w hw => hts w (by first | exact List.mem_cons_of_mem _ (List.mem_append_right _ hw) | exact List.mem_cons_of_mem _ (List.mem_append_left _ (List.mem_append_right _ hw)))) xT_B xT_g (by decide) hl.1 dX5_needRoom_10 dX5_needRoom_13 dX5_needRoom_14 dX5_needRoom_16 dX5_needRoom_19 ⟨Nat.le_of_ble_eq_true rfl, Nat.le_of_ble_eq_true rfl⟩ ⟨Nat.le_of_ble_eq_true rfl, Nat.le_of_ble_eq_true rfl⟩ ⟨Nat.le_of_ble_eq_true rfl, Nat.le_of_ble_eq_true rfl⟩
