theorem in_X4_isFull_4 : ∀ wd ∈ u_ws RX4 TX4 5, wd ∈ wsX4_isFull := by decide +kernel
def r_X4_isFull (σ : Sg) : Int32 :=
  if σ 1 4 < 300 then
    0
  else
    1
theorem b_X4_isFull (σ : Sg) : r_X4_isFull σ = 0 ∨ r_X4_isFull σ = 1 := by
  unfold r_X4_isFull
  repeat' split
  all_goals first | with_reducible exact Or.inl rfl | with_reducible exact Or.inr rfl
set_option maxHeartbeats 4000000 in
set_option maxRecDepth 100000 in
theorem c_X4_isFull (l : Launch) (D : va_G) (cI : ClassId) (a : Nat → Nat) (sz : Nat) (σ : Sg) : Met l yX4_isFull wsX4_isFull ({ frames := 0, cells := 0, slots := 0, locals := 0 }) (PcW D cI 29 a (wX cI a) sz σ [.ref (a 1)]) (QiW D 29 a (wX cI a) sz (r_X4_isFull σ) σ) 0 0 (AX 29 a sz) := by
  refine x_of (cc := cX4_isFull) (maxL := 1) (ret := some .boolean) (C := RX4) rfl (by decide) rfl (Nat.le_of_ble_eq_true rfl) (fun p e s m below meth c hx hb hr hml hlk hts hown hsz H hP hS hG ls hl => ?_)
  have hl : lv_has ls 1 [(0, .ref (a 1))] := hl
  refine lv_aload_n hx hb dX4_isFull_0 rfl (lv_at hl 0 rfl) ?_
  refine x_get (ci := 4) (C := RX4) (T := TX4) (M := 5) (v := .int (σ 1 4)) hx hb hts in_X4_isFull_4 hown hG hP 1 rfl rfl 4 (by decide) (List.mem_of_getElem? (i := 1) rfl) rfl rfl dX4_isFull_1 ?_
  refine lv_sipush (v := 300) hx hb dX4_isFull_4 (by decide) ?_
  refine lv_icmp_lt (tgt := 14) hx hb dX4_isFull_7 (by decide) (fun h_1 => ?_) (fun h_1 => ?_)
  · refine lv_iconst (v := 0) hx hb dX4_isFull_14 (by decide) ?_
    exact x_iret hx hb hr hlk hsz hP hS rfl (by rw [r_X4_isFull, if_pos h_1]) rfl dX4_isFull_15
  · refine lv_iconst (v := 1) hx hb dX4_isFull_10 (by decide) ?_
    refine lv_goto (tgt := 15) hx hb dX4_isFull_11 (by decide) ?_
    exact x_iret hx hb hr hlk hsz hP hS rfl (by rw [r_X4_isFull, if_neg h_1]) rfl dX4_isFull_15
theorem in_X4_insert_4 : ∀ wd ∈ u_ws RX4 TX4 5, wd ∈ wsX4_insert := by decide +kernel
def dw_X4_insert (σ : Sg) (mi : Int32) : Nat → Nat
  | 0 => 0
  | k + 1 =>
    if σ 9 ((nI (k + 1)) - 1).toNatClampNeg ≤ mi then
      k + 1
    else
      dw_X4_insert σ mi k
def r_X4_insert (σ : Sg) (ki : Int32) (f1 : Int32) (f2 : Int32) (mi : Int32) (n : Nat) : Int32 :=
  if r_X4_isFull σ = 0 then
    nI (dw_X4_insert σ mi n)
  else
    σ 1 4
def s_X4_insert (σ : Sg) (ki : Int32) (f1 : Int32) (f2 : Int32) (mi : Int32) (n : Nat) : Sg :=
  if r_X4_isFull σ = 0 then
    sx (sx (sx (sx (sx (sf (sf (sf (sf σ 6 (va_cpy (σ 6) (σ 6) (dw_X4_insert σ mi n) ((dw_X4_insert σ mi n) + 1) (n - (dw_X4_insert σ mi n)))) 7 (va_cpy (σ 7) (σ 7) (dw_X4_insert σ mi n) ((dw_X4_insert σ mi n) + 1) (n - (dw_X4_insert σ mi n)))) 8 (va_cpy (σ 8) (σ 8) (dw_X4_insert σ mi n) ((dw_X4_insert σ mi n) + 1) (n - (dw_X4_insert σ mi n)))) 9 (va_cpy (σ 9) (σ 9) (dw_X4_insert σ mi n) ((dw_X4_insert σ mi n) + 1) (n - (dw_X4_insert σ mi n)))) 6 (nI (dw_X4_insert σ mi n)).toNatClampNeg ki) 7 (nI (dw_X4_insert σ mi n)).toNatClampNeg f1) 8 (nI (dw_X4_insert σ mi n)).toNatClampNeg f2) 9 (nI (dw_X4_insert σ mi n)).toNatClampNeg mi) 1 4 ((σ 1 4) + 1)
  else
    σ
set_option maxHeartbeats 4000000 in
set_option maxRecDepth 100000 in
theorem c_X4_insert (l : Launch) (D : va_G) (cI : ClassId) (a : Nat → Nat) (sz : Nat) (σ : Sg) (ki : Int32) (f1 : Int32) (f2 : Int32) (mi : Int32) (n : Nat) (hn : n < 300) (hcn : σ 1 4 = nI n) : Met l yX4_insert wsX4_insert ({ frames := 1, cells := 0, slots := 0, locals := 60 }) (PcW D cI 29 a (wX cI a) sz σ [.ref (a 1), .int ki, .int f1, .int f2, .int mi]) (QiW D 29 a (wX cI a) sz (r_X4_insert σ ki f1 f2 mi n) (s_X4_insert σ ki f1 f2 mi n)) 0 0 (AX 29 a sz) := by
  refine x_of (cc := cX4_insert) (maxL := 7) (ret := some .int) (C := RX4) rfl (by decide) rfl (Nat.le_of_ble_eq_true rfl) (fun p e s m below meth c hx hb hr hml hlk hts hown hsz H hP hS hG ls hl => ?_)
  have hl : lv_has ls 7 [(0, .ref (a 1)), (1, .int ki), (2, .int f1), (3, .int f2), (4, .int mi)] := hl
  refine lv_aload_n hx hb dX4_insert_0 rfl (lv_at hl 0 rfl) ?_
  refine x_callVi (w := wX cI a) (σ := σ) (σ' := σ) (As := []) (rest := []) (q0 := 1) ⟨hx, hb, hml, hown, hts⟩ hG hP hS hsz (c_X4_isFull l D cI a H.size σ ) (cwV 0 hts gX4_insert_X4_isFull rfl rfl rfl (by decide +kernel) ⟨Nat.le_of_ble_eq_true rfl, Nat.le_of_ble_eq_true rfl⟩) rfl rfl rfl rfl hl.1 rfl (Nat.le_of_ble_eq_true rfl) ⟨Nat.zero_le _, Nat.zero_le _⟩ dX4_insert_1 (fun H locs hP hS => ?_)
  refine lv_if_eq (tgt := 12) hx hb dX4_insert_4 (by decide) (fun h_1 => ?_) (fun h_1 => ?_)
  · refine lv_aload_n hx hb dX4_insert_12 rfl (lv_at hl 0 rfl) ?_
    refine x_get (ci := 4) (C := RX4) (T := TX4) (M := 5) (v := .int (σ 1 4)) hx hb hts in_X4_insert_4 hown hG hP 1 rfl rfl 4 (by decide) (List.mem_of_getElem? (i := 1) rfl) rfl rfl dX4_insert_13 ?_
    refine lv_istore (lv' := [(5, .int (σ 1 4)), (0, .ref (a 1)), (1, .int ki), (2, .int f1), (3, .int f2), (4, .int mi)]) hx hb dX4_insert_16 hl (by decide) rfl (fun ls hl => ?_)
    have tail_43 : ∀ (q : Nat) (_ : q ≤ n) (_ : q = dw_X4_insert σ mi n) (H : Heap) (locs : List Loc) (ls : Array Slot) (_ : va_P D vwCl (wX cI a σ) H) (_ : va_S (AX 29 a sz) s.heap H locs) (_ : lv_has ls 7 [(5, .int (nI q)), (0, .ref (a 1)), (1, .int ki), (2, .int f1), (3, .int f2), (4, .int mi)]), W p l e (headSpec wsX4_insert ({ frames := 1, cells := 0, slots := 0, locals := 60 } : Room)).room s m ([.ref (a 1), .int ki, .int f1, .int f2, .int mi] : List Value).toArray below meth c H locs 0 0 (MQ below (QiW D 29 a (wX cI a) sz (r_X4_insert σ ki f1 f2 mi n) (s_X4_insert σ ki f1 f2 mi n)) ([.ref (a 1), .int ki, .int f1, .int f2, .int mi] : List Value).toArray s 0 0 (AX 29 a sz)) (F0 m 43 ls []) := by
      intro q hq ex H locs ls hP hS hl
      refine lv_aload_n hx hb dX4_insert_43 rfl (lv_at hl 1 rfl) ?_
      refine x_get (ci := 4) (C := RX4) (T := TX4) (M := 5) (v := .int (σ 1 4)) hx hb hts in_X4_insert_4 hown hG hP 1 rfl rfl 4 (by decide) (List.mem_of_getElem? (i := 1) rfl) rfl rfl dX4_insert_44 ?_
      refine lv_iload hx hb dX4_insert_47 (lv_at hl 0 rfl) ?_
      refine lv_isub hx hb dX4_insert_49 ?_
      refine lv_istore (lv' := [(6, .int ((σ 1 4) - (nI q))), (5, .int (nI q)), (0, .ref (a 1)), (1, .int ki), (2, .int f1), (3, .int f2), (4, .int mi)]) hx hb dX4_insert_50 hl (by decide) rfl (fun ls hl => ?_)
      refine lv_aload_n hx hb dX4_insert_52 rfl (lv_at hl 2 rfl) ?_
      refine x_get (ci := 4) (C := RX4) (T := TX4) (M := 5) (v := .ref (a 6)) hx hb hts in_X4_insert_4 hown hG hP 1 rfl rfl 0 (by decide) (List.mem_of_getElem? (i := 3) rfl) rfl rfl dX4_insert_53 ?_
      refine lv_iload hx hb dX4_insert_56 (lv_at hl 1 rfl) ?_
      refine lv_aload_n hx hb dX4_insert_58 rfl (lv_at hl 2 rfl) ?_
      refine x_get (ci := 4) (C := RX4) (T := TX4) (M := 5) (v := .ref (a 6)) hx hb hts in_X4_insert_4 hown hG hP 1 rfl rfl 0 (by decide) (List.mem_of_getElem? (i := 3) rfl) rfl rfl dX4_insert_59 ?_
      refine lv_iload hx hb dX4_insert_62 (lv_at hl 1 rfl) ?_
      refine lv_iconst (v := 1) hx hb dX4_insert_64 (by decide) ?_
      refine lv_iadd hx hb dX4_insert_65 ?_
      refine lv_iload hx hb dX4_insert_66 (lv_at hl 0 rfl) ?_
      refine x_copy (w := wX cI a) (σ := σ) (f := (σ 6)) (p1 := q) (nn := n) hx hb (by rw [hml]; exact hl.1.symm) hown (hts _ (List.mem_of_getElem? (i := 4) rfl)) (hts _ (List.mem_of_getElem? (i := 5) rfl)) (hts _ (List.mem_of_getElem? (i := 6) rfl)) (hts _ (List.mem_of_getElem? (i := 7) rfl)) hG hP hS 6 rfl rfl (wX_sf6 cI a _ _) rfl (nI_1 q) (by rw [hcn]; exact pk_sub hq) hq (by omega) (by decide) (Nat.le_of_ble_eq_true rfl) (Nat.le_of_ble_eq_true rfl) dX4_insert_68 (fun H locs hP hS => ?_)
      refine lv_aload_n hx hb dX4_insert_71 rfl (lv_at hl 2 rfl) ?_
      refine x_get (ci := 4) (C := RX4) (T := TX4) (M := 5) (v := .ref (a 7)) hx hb hts in_X4_insert_4 hown hG hP 1 rfl rfl 1 (by decide) (List.mem_of_getElem? (i := 8) rfl) rfl rfl dX4_insert_72 ?_
      refine lv_iload hx hb dX4_insert_75 (lv_at hl 1 rfl) ?_
      refine lv_aload_n hx hb dX4_insert_77 rfl (lv_at hl 2 rfl) ?_
      refine x_get (ci := 4) (C := RX4) (T := TX4) (M := 5) (v := .ref (a 7)) hx hb hts in_X4_insert_4 hown hG hP 1 rfl rfl 1 (by decide) (List.mem_of_getElem? (i := 8) rfl) rfl rfl dX4_insert_78 ?_
      refine lv_iload hx hb dX4_insert_81 (lv_at hl 1 rfl) ?_
      refine lv_iconst (v := 1) hx hb dX4_insert_83 (by decide) ?_
      refine lv_iadd hx hb dX4_insert_84 ?_
      refine lv_iload hx hb dX4_insert_85 (lv_at hl 0 rfl) ?_
      refine x_copy (w := wX cI a) (σ := sf σ 6 (va_cpy (σ 6) (σ 6) q (q + 1) (n - q))) (f := (σ 7)) (p1 := q) (nn := n) hx hb (by rw [hml]; exact hl.1.symm) hown (hts _ (List.mem_of_getElem? (i := 4) rfl)) (hts _ (List.mem_of_getElem? (i := 5) rfl)) (hts _ (List.mem_of_getElem? (i := 6) rfl)) (hts _ (List.mem_of_getElem? (i := 7) rfl)) hG hP hS 7 rfl rfl (wX_sf7 cI a _ _) rfl (nI_1 q) (by rw [hcn]; exact pk_sub hq) hq (by omega) (by decide) (Nat.le_of_ble_eq_true rfl) (Nat.le_of_ble_eq_true rfl) dX4_insert_87 (fun H locs hP hS => ?_)
      refine lv_aload_n hx hb dX4_insert_90 rfl (lv_at hl 2 rfl) ?_
      refine x_get (ci := 4) (C := RX4) (T := TX4) (M := 5) (v := .ref (a 8)) hx hb hts in_X4_insert_4 hown hG hP 1 rfl rfl 2 (by decide) (List.mem_of_getElem? (i := 9) rfl) rfl rfl dX4_insert_91 ?_
      refine lv_iload hx hb dX4_insert_94 (lv_at hl 1 rfl) ?_
      refine lv_aload_n hx hb dX4_insert_96 rfl (lv_at hl 2 rfl) ?_
      refine x_get (ci := 4) (C := RX4) (T := TX4) (M := 5) (v := .ref (a 8)) hx hb hts in_X4_insert_4 hown hG hP 1 rfl rfl 2 (by decide) (List.mem_of_getElem? (i := 9) rfl) rfl rfl dX4_insert_97 ?_
      refine lv_iload hx hb dX4_insert_100 (lv_at hl 1 rfl) ?_
      refine lv_iconst (v := 1) hx hb dX4_insert_102 (by decide) ?_
      refine lv_iadd hx hb dX4_insert_103 ?_
      refine lv_iload hx hb dX4_insert_104 (lv_at hl 0 rfl) ?_
      refine x_copy (w := wX cI a) (σ := sf (sf σ 6 (va_cpy (σ 6) (σ 6) q (q + 1) (n - q))) 7 (va_cpy (σ 7) (σ 7) q (q + 1) (n - q))) (f := (σ 8)) (p1 := q) (nn := n) hx hb (by rw [hml]; exact hl.1.symm) hown (hts _ (List.mem_of_getElem? (i := 4) rfl)) (hts _ (List.mem_of_getElem? (i := 5) rfl)) (hts _ (List.mem_of_getElem? (i := 6) rfl)) (hts _ (List.mem_of_getElem? (i := 7) rfl)) hG hP hS 8 rfl rfl (wX_sf8 cI a _ _) rfl (nI_1 q) (by rw [hcn]; exact pk_sub hq) hq (by omega) (by decide) (Nat.le_of_ble_eq_true rfl) (Nat.le_of_ble_eq_true rfl) dX4_insert_106 (fun H locs hP hS => ?_)
      refine lv_aload_n hx hb dX4_insert_109 rfl (lv_at hl 2 rfl) ?_
      refine x_get (ci := 4) (C := RX4) (T := TX4) (M := 5) (v := .ref (a 9)) hx hb hts in_X4_insert_4 hown hG hP 1 rfl rfl 3 (by decide) (List.mem_of_getElem? (i := 2) rfl) rfl rfl dX4_insert_110 ?_
      refine lv_iload hx hb dX4_insert_113 (lv_at hl 1 rfl) ?_
      refine lv_aload_n hx hb dX4_insert_115 rfl (lv_at hl 2 rfl) ?_
      refine x_get (ci := 4) (C := RX4) (T := TX4) (M := 5) (v := .ref (a 9)) hx hb hts in_X4_insert_4 hown hG hP 1 rfl rfl 3 (by decide) (List.mem_of_getElem? (i := 2) rfl) rfl rfl dX4_insert_116 ?_
      refine lv_iload hx hb dX4_insert_119 (lv_at hl 1 rfl) ?_
      refine lv_iconst (v := 1) hx hb dX4_insert_121 (by decide) ?_
      refine lv_iadd hx hb dX4_insert_122 ?_
      refine lv_iload hx hb dX4_insert_123 (lv_at hl 0 rfl) ?_
      refine x_copy (w := wX cI a) (σ := sf (sf (sf σ 6 (va_cpy (σ 6) (σ 6) q (q + 1) (n - q))) 7 (va_cpy (σ 7) (σ 7) q (q + 1) (n - q))) 8 (va_cpy (σ 8) (σ 8) q (q + 1) (n - q))) (f := (σ 9)) (p1 := q) (nn := n) hx hb (by rw [hml]; exact hl.1.symm) hown (hts _ (List.mem_of_getElem? (i := 4) rfl)) (hts _ (List.mem_of_getElem? (i := 5) rfl)) (hts _ (List.mem_of_getElem? (i := 6) rfl)) (hts _ (List.mem_of_getElem? (i := 7) rfl)) hG hP hS 9 rfl rfl (wX_sf9 cI a _ _) rfl (nI_1 q) (by rw [hcn]; exact pk_sub hq) hq (by omega) (by decide) (Nat.le_of_ble_eq_true rfl) (Nat.le_of_ble_eq_true rfl) dX4_insert_125 (fun H locs hP hS => ?_)
      refine lv_aload_n hx hb dX4_insert_128 rfl (lv_at hl 2 rfl) ?_
      refine x_get (ci := 4) (C := RX4) (T := TX4) (M := 5) (v := .ref (a 6)) hx hb hts in_X4_insert_4 hown hG hP 1 rfl rfl 0 (by decide) (List.mem_of_getElem? (i := 3) rfl) rfl rfl dX4_insert_129 ?_
      refine lv_iload hx hb dX4_insert_132 (lv_at hl 1 rfl) ?_
      refine lv_iload_n hx hb dX4_insert_134 rfl (lv_at hl 3 rfl) ?_
      refine x_iast (w := wX cI a) (σ := sf (sf (sf (sf σ 6 (va_cpy (σ 6) (σ 6) q (q + 1) (n - q))) 7 (va_cpy (σ 7) (σ 7) q (q + 1) (n - q))) 8 (va_cpy (σ 8) (σ 8) q (q + 1) (n - q))) 9 (va_cpy (σ 9) (σ 9) q (q + 1) (n - q))) hx hb hG hP hS 6 rfl (wX_st6 cI a _ _ _) (vp_in_nI (by omega) (by decide)) dX4_insert_135 (fun H locs hP hS => ?_)
      refine lv_aload_n hx hb dX4_insert_136 rfl (lv_at hl 2 rfl) ?_
      refine x_get (ci := 4) (C := RX4) (T := TX4) (M := 5) (v := .ref (a 7)) hx hb hts in_X4_insert_4 hown hG hP 1 rfl rfl 1 (by decide) (List.mem_of_getElem? (i := 8) rfl) rfl rfl dX4_insert_137 ?_
      refine lv_iload hx hb dX4_insert_140 (lv_at hl 1 rfl) ?_
      refine lv_iload_n hx hb dX4_insert_142 rfl (lv_at hl 4 rfl) ?_
      refine x_iast (w := wX cI a) (σ := sx (sf (sf (sf (sf σ 6 (va_cpy (σ 6) (σ 6) q (q + 1) (n - q))) 7 (va_cpy (σ 7) (σ 7) q (q + 1) (n - q))) 8 (va_cpy (σ 8) (σ 8) q (q + 1) (n - q))) 9 (va_cpy (σ 9) (σ 9) q (q + 1) (n - q))) 6 (nI q).toNatClampNeg ki) hx hb hG hP hS 7 rfl (wX_st7 cI a _ _ _) (vp_in_nI (by omega) (by decide)) dX4_insert_143 (fun H locs hP hS => ?_)
      refine lv_aload_n hx hb dX4_insert_144 rfl (lv_at hl 2 rfl) ?_
      refine x_get (ci := 4) (C := RX4) (T := TX4) (M := 5) (v := .ref (a 8)) hx hb hts in_X4_insert_4 hown hG hP 1 rfl rfl 2 (by decide) (List.mem_of_getElem? (i := 9) rfl) rfl rfl dX4_insert_145 ?_
      refine lv_iload hx hb dX4_insert_148 (lv_at hl 1 rfl) ?_
      refine lv_iload_n hx hb dX4_insert_150 rfl (lv_at hl 5 rfl) ?_
      refine x_iast (w := wX cI a) (σ := sx (sx (sf (sf (sf (sf σ 6 (va_cpy (σ 6) (σ 6) q (q + 1) (n - q))) 7 (va_cpy (σ 7) (σ 7) q (q + 1) (n - q))) 8 (va_cpy (σ 8) (σ 8) q (q + 1) (n - q))) 9 (va_cpy (σ 9) (σ 9) q (q + 1) (n - q))) 6 (nI q).toNatClampNeg ki) 7 (nI q).toNatClampNeg f1) hx hb hG hP hS 8 rfl (wX_st8 cI a _ _ _) (vp_in_nI (by omega) (by decide)) dX4_insert_151 (fun H locs hP hS => ?_)
      refine lv_aload_n hx hb dX4_insert_152 rfl (lv_at hl 2 rfl) ?_
      refine x_get (ci := 4) (C := RX4) (T := TX4) (M := 5) (v := .ref (a 9)) hx hb hts in_X4_insert_4 hown hG hP 1 rfl rfl 3 (by decide) (List.mem_of_getElem? (i := 2) rfl) rfl rfl dX4_insert_153 ?_
      refine lv_iload hx hb dX4_insert_156 (lv_at hl 1 rfl) ?_
      refine lv_iload hx hb dX4_insert_158 (lv_at hl 6 rfl) ?_
      refine x_iast (w := wX cI a) (σ := sx (sx (sx (sf (sf (sf (sf σ 6 (va_cpy (σ 6) (σ 6) q (q + 1) (n - q))) 7 (va_cpy (σ 7) (σ 7) q (q + 1) (n - q))) 8 (va_cpy (σ 8) (σ 8) q (q + 1) (n - q))) 9 (va_cpy (σ 9) (σ 9) q (q + 1) (n - q))) 6 (nI q).toNatClampNeg ki) 7 (nI q).toNatClampNeg f1) 8 (nI q).toNatClampNeg f2) hx hb hG hP hS 9 rfl (wX_st9 cI a _ _ _) (vp_in_nI (by omega) (by decide)) dX4_insert_160 (fun H locs hP hS => ?_)
      refine lv_aload_n hx hb dX4_insert_161 rfl (lv_at hl 2 rfl) ?_
      refine lv_dup hx hb dX4_insert_162 rfl ?_
      refine x_get (ci := 4) (C := RX4) (T := TX4) (M := 5) (v := .int (σ 1 4)) hx hb hts in_X4_insert_4 hown hG hP 1 rfl rfl 4 (by decide) (List.mem_of_getElem? (i := 1) rfl) rfl rfl dX4_insert_163 ?_
      refine lv_iconst (v := 1) hx hb dX4_insert_166 (by decide) ?_
      refine lv_iadd hx hb dX4_insert_167 ?_
      refine x_put (w := wX cI a) (σ := sx (sx (sx (sx (sf (sf (sf (sf σ 6 (va_cpy (σ 6) (σ 6) q (q + 1) (n - q))) 7 (va_cpy (σ 7) (σ 7) q (q + 1) (n - q))) 8 (va_cpy (σ 8) (σ 8) q (q + 1) (n - q))) 9 (va_cpy (σ 9) (σ 9) q (q + 1) (n - q))) 6 (nI q).toNatClampNeg ki) 7 (nI q).toNatClampNeg f1) 8 (nI q).toNatClampNeg f2) 9 (nI q).toNatClampNeg mi) (ci := 4) (C := RX4) (T := TX4) (M := 5) hx hb hts in_X4_insert_4 tyX4 tyX4_ok nmX4 hown hG hP hS 1 rfl rfl 4 (by decide) (List.mem_of_getElem? (i := 1) rfl) rfl rfl rfl (Nat.le_of_ble_eq_true rfl) (wX_pt1_4 cI a _ _) dX4_insert_168 (fun H locs hP hS => ?_)
      refine lv_iload hx hb dX4_insert_171 (lv_at hl 1 rfl) ?_
      exact x_iret hx hb hr hlk hsz hP hS rfl (by rw [r_X4_insert, if_pos h_1, ← ex]) (by rw [s_X4_insert, if_pos h_1, ← ex]) dX4_insert_173
    have loop_18 : ∀ (k : Nat) (_ : k ≤ n) (_ : dw_X4_insert σ mi k = dw_X4_insert σ mi n) (H : Heap) (locs : List Loc) (ls : Array Slot) (_ : va_P D vwCl (wX cI a σ) H) (_ : va_S (AX 29 a sz) s.heap H locs) (_ : lv_has ls 7 [(5, .int (nI k)), (0, .ref (a 1)), (1, .int ki), (2, .int f1), (3, .int f2), (4, .int mi)]), W p l e (headSpec wsX4_insert ({ frames := 1, cells := 0, slots := 0, locals := 60 } : Room)).room s m ([.ref (a 1), .int ki, .int f1, .int f2, .int mi] : List Value).toArray below meth c H locs 0 0 (MQ below (QiW D 29 a (wX cI a) sz (r_X4_insert σ ki f1 f2 mi n) (s_X4_insert σ ki f1 f2 mi n)) ([.ref (a 1), .int ki, .int f1, .int f2, .int mi] : List Value).toArray s 0 0 (AX 29 a sz)) (F0 m 18 ls []) := by
      intro k
      induction k with
      | zero =>
        intro hk ex H locs ls hP hS hl
        refine lv_iload hx hb dX4_insert_18 (lv_at hl 0 rfl) ?_
        refine lv_if_le (tgt := 43) hx hb dX4_insert_20 (by decide) (fun _ => ?_) (fun h => absurd (show nI 0 ≤ 0 by decide) h)
        exact tail_43 0 (by omega) (by rw [← ex]; rfl) H locs ls hP hS (lv_sub hl [0, 1, 2, 3, 4, 5] rfl)
      | succ k ih =>
        intro hk ex H locs ls hP hS hl
        refine lv_iload hx hb dX4_insert_18 (lv_at hl 0 rfl) ?_
        refine lv_if_le (tgt := 43) hx hb dX4_insert_20 (by decide) (fun h => absurd h (nI_nle (Nat.succ_pos _) (by omega))) (fun _ => ?_)
        refine lv_aload_n hx hb dX4_insert_23 rfl (lv_at hl 1 rfl) ?_
        refine x_get (ci := 4) (C := RX4) (T := TX4) (M := 5) (v := .ref (a 9)) hx hb hts in_X4_insert_4 hown hG hP 1 rfl rfl 3 (by decide) (List.mem_of_getElem? (i := 2) rfl) rfl rfl dX4_insert_24 ?_
        refine lv_iload hx hb dX4_insert_27 (lv_at hl 0 rfl) ?_
        refine lv_iconst (v := 1) hx hb dX4_insert_29 (by decide) ?_
        refine lv_isub hx hb dX4_insert_30 ?_
        refine x_iald (f := σ 9) hx hb hG hP 9 rfl (by rw [nI_pred]; exact vp_in_nI (by omega) (by decide)) dX4_insert_31 ?_
        refine lv_iload hx hb dX4_insert_32 (lv_at hl 5 rfl) ?_
        refine lv_icmp_le (tgt := 43) hx hb dX4_insert_34 (by decide) (fun h_2 => ?_) (fun h_2 => ?_)
        · exact tail_43 (k + 1) (by omega) (by rw [← ex, dw_X4_insert, if_pos h_2]) H locs ls hP hS (lv_sub hl [0, 1, 2, 3, 4, 5] rfl)
        · refine lv_iinc (v := nI k) (lv' := [(5, .int (nI k)), (0, .ref (a 1)), (1, .int ki), (2, .int f1), (3, .int f2), (4, .int mi)]) hx hb dX4_insert_37 hl (k := 0) rfl (pk_m1 k) (by decide) rfl (fun ls hl => ?_)
          refine lv_goto (tgt := 18) hx hb dX4_insert_40 (by decide) ?_
          exact ih (by omega) (by rw [← ex, dw_X4_insert, if_neg h_2]) H locs ls hP hS (lv_sub hl [0, 1, 2, 3, 4, 5] rfl)
    exact loop_18 (n) (Nat.le_refl _) rfl _ _ _ hP hS (by rw [hcn] at hl; exact lv_sub hl [0, 1, 2, 3, 4, 5] rfl)
  · refine lv_aload_n hx hb dX4_insert_7 rfl (lv_at hl 0 rfl) ?_
    refine x_get (ci := 4) (C := RX4) (T := TX4) (M := 5) (v := .int (σ 1 4)) hx hb hts in_X4_insert_4 hown hG hP 1 rfl rfl 4 (by decide) (List.mem_of_getElem? (i := 1) rfl) rfl rfl dX4_insert_8 ?_
    exact x_iret hx hb hr hlk hsz hP hS rfl (by rw [r_X4_insert, if_neg h_1]) (by rw [s_X4_insert, if_neg h_1]) dX4_insert_11
theorem in_X0_isRiddenBy_0 : ∀ wd ∈ u_ws RX0 TX0 7, wd ∈ wsX0_isRiddenBy := by decide +kernel
def r_X0_isRiddenBy (σ : Sg) (cy : Int32) (ri : Int32) : Int32 :=
  if σ 16 cy.toNatClampNeg = 2 then
    if σ 17 cy.toNatClampNeg = ri then
      1
    else
      0
  else
    0
theorem b_X0_isRiddenBy (σ : Sg) (cy : Int32) (ri : Int32) : r_X0_isRiddenBy σ cy ri = 0 ∨ r_X0_isRiddenBy σ cy ri = 1 := by
  unfold r_X0_isRiddenBy
  repeat' split
  all_goals first | with_reducible exact Or.inl rfl | with_reducible exact Or.inr rfl
set_option maxHeartbeats 4000000 in
set_option maxRecDepth 100000 in
theorem c_X0_isRiddenBy (l : Launch) (D : va_G) (cI : ClassId) (a : Nat → Nat) (sz : Nat) (σ : Sg) (cy : Int32) (ri : Int32) (hc : vp_in cy 30) : Met l yX0_isRiddenBy wsX0_isRiddenBy ({ frames := 0, cells := 0, slots := 0, locals := 0 }) (PcW D cI 29 a (wX cI a) sz σ [.ref (a 4), .int cy, .int ri]) (QiW D 29 a (wX cI a) sz (r_X0_isRiddenBy σ cy ri) σ) 0 0 (AX 29 a sz) := by
  refine x_of (cc := cX0_isRiddenBy) (maxL := 3) (ret := some .boolean) (C := RX0) rfl (by decide) rfl (Nat.le_of_ble_eq_true rfl) (fun p e s m below meth c hx hb hr hml hlk hts hown hsz H hP hS hG ls hl => ?_)
  have hl : lv_has ls 3 [(0, .ref (a 4)), (1, .int cy), (2, .int ri)] := hl
  refine lv_aload_n hx hb dX0_isRiddenBy_0 rfl (lv_at hl 0 rfl) ?_
  refine x_get (ci := 0) (C := RX0) (T := TX0) (M := 7) (v := .ref (a 16)) hx hb hts in_X0_isRiddenBy_0 hown hG hP 4 rfl rfl 0 (by decide) (List.mem_of_getElem? (i := 1) rfl) rfl rfl dX0_isRiddenBy_1 ?_
  refine lv_iload_n hx hb dX0_isRiddenBy_4 rfl (lv_at hl 1 rfl) ?_
  refine x_iald (f := σ 16) hx hb hG hP 16 rfl (by assumption) dX0_isRiddenBy_5 ?_
  refine lv_iconst (v := 2) hx hb dX0_isRiddenBy_6 (by decide) ?_
  refine lv_icmp_ne (tgt := 24) hx hb dX0_isRiddenBy_7 (by decide) (fun h_1 => ?_) (fun h_1 => ?_)
  · refine lv_iconst (v := 0) hx hb dX0_isRiddenBy_24 (by decide) ?_
    exact x_iret hx hb hr hlk hsz hP hS rfl (by rw [r_X0_isRiddenBy, if_neg h_1]) rfl dX0_isRiddenBy_25
  · refine lv_aload_n hx hb dX0_isRiddenBy_10 rfl (lv_at hl 0 rfl) ?_
    refine x_get (ci := 0) (C := RX0) (T := TX0) (M := 7) (v := .ref (a 17)) hx hb hts in_X0_isRiddenBy_0 hown hG hP 4 rfl rfl 1 (by decide) (List.mem_of_getElem? (i := 2) rfl) rfl rfl dX0_isRiddenBy_11 ?_
    refine lv_iload_n hx hb dX0_isRiddenBy_14 rfl (lv_at hl 1 rfl) ?_
    refine x_iald (f := σ 17) hx hb hG hP 17 rfl (by assumption) dX0_isRiddenBy_15 ?_
    refine lv_iload_n hx hb dX0_isRiddenBy_16 rfl (lv_at hl 2 rfl) ?_
    refine lv_icmp_ne (tgt := 24) hx hb dX0_isRiddenBy_17 (by decide) (fun h_2 => ?_) (fun h_2 => ?_)
    · refine lv_iconst (v := 0) hx hb dX0_isRiddenBy_24 (by decide) ?_
      exact x_iret hx hb hr hlk hsz hP hS rfl (by rw [r_X0_isRiddenBy, if_pos h_1, if_neg h_2]) rfl dX0_isRiddenBy_25
    · refine lv_iconst (v := 1) hx hb dX0_isRiddenBy_20 (by decide) ?_
      refine lv_goto (tgt := 25) hx hb dX0_isRiddenBy_21 (by decide) ?_
      exact x_iret hx hb hr hlk hsz hP hS rfl (by rw [r_X0_isRiddenBy, if_pos h_1, if_pos h_2]) rfl dX0_isRiddenBy_25
def r_J6_bitCount_0f7a4 (σ : Sg) (v : Int32) : Int32 :=
  (((((((v - (((v.toUInt32 >>> (Int32.toUInt32 1 &&& Int32.toUInt32 31)).toInt32) &&& 1431655765)) &&& 858993459) + ((((v - (((v.toUInt32 >>> (Int32.toUInt32 1 &&& Int32.toUInt32 31)).toInt32) &&& 1431655765)).toUInt32 >>> (Int32.toUInt32 2 &&& Int32.toUInt32 31)).toInt32) &&& 858993459)) + (((((v - (((v.toUInt32 >>> (Int32.toUInt32 1 &&& Int32.toUInt32 31)).toInt32) &&& 1431655765)) &&& 858993459) + ((((v - (((v.toUInt32 >>> (Int32.toUInt32 1 &&& Int32.toUInt32 31)).toInt32) &&& 1431655765)).toUInt32 >>> (Int32.toUInt32 2 &&& Int32.toUInt32 31)).toInt32) &&& 858993459)).toUInt32 >>> (Int32.toUInt32 4 &&& Int32.toUInt32 31)).toInt32)) &&& 252645135) + (((((((v - (((v.toUInt32 >>> (Int32.toUInt32 1 &&& Int32.toUInt32 31)).toInt32) &&& 1431655765)) &&& 858993459) + ((((v - (((v.toUInt32 >>> (Int32.toUInt32 1 &&& Int32.toUInt32 31)).toInt32) &&& 1431655765)).toUInt32 >>> (Int32.toUInt32 2 &&& Int32.toUInt32 31)).toInt32) &&& 858993459)) + (((((v - (((v.toUInt32 >>> (Int32.toUInt32 1 &&& Int32.toUInt32 31)).toInt32) &&& 1431655765)) &&& 858993459) + ((((v - (((v.toUInt32 >>> (Int32.toUInt32 1 &&& Int32.toUInt32 31)).toInt32) &&& 1431655765)).toUInt32 >>> (Int32.toUInt32 2 &&& Int32.toUInt32 31)).toInt32) &&& 858993459)).toUInt32 >>> (Int32.toUInt32 4 &&& Int32.toUInt32 31)).toInt32)) &&& 252645135).toUInt32 >>> (Int32.toUInt32 8 &&& Int32.toUInt32 31)).toInt32)) + ((((((((v - (((v.toUInt32 >>> (Int32.toUInt32 1 &&& Int32.toUInt32 31)).toInt32) &&& 1431655765)) &&& 858993459) + ((((v - (((v.toUInt32 >>> (Int32.toUInt32 1 &&& Int32.toUInt32 31)).toInt32) &&& 1431655765)).toUInt32 >>> (Int32.toUInt32 2 &&& Int32.toUInt32 31)).toInt32) &&& 858993459)) + (((((v - (((v.toUInt32 >>> (Int32.toUInt32 1 &&& Int32.toUInt32 31)).toInt32) &&& 1431655765)) &&& 858993459) + ((((v - (((v.toUInt32 >>> (Int32.toUInt32 1 &&& Int32.toUInt32 31)).toInt32) &&& 1431655765)).toUInt32 >>> (Int32.toUInt32 2 &&& Int32.toUInt32 31)).toInt32) &&& 858993459)).toUInt32 >>> (Int32.toUInt32 4 &&& Int32.toUInt32 31)).toInt32)) &&& 252645135) + (((((((v - (((v.toUInt32 >>> (Int32.toUInt32 1 &&& Int32.toUInt32 31)).toInt32) &&& 1431655765)) &&& 858993459) + ((((v - (((v.toUInt32 >>> (Int32.toUInt32 1 &&& Int32.toUInt32 31)).toInt32) &&& 1431655765)).toUInt32 >>> (Int32.toUInt32 2 &&& Int32.toUInt32 31)).toInt32) &&& 858993459)) + (((((v - (((v.toUInt32 >>> (Int32.toUInt32 1 &&& Int32.toUInt32 31)).toInt32) &&& 1431655765)) &&& 858993459) + ((((v - (((v.toUInt32 >>> (Int32.toUInt32 1 &&& Int32.toUInt32 31)).toInt32) &&& 1431655765)).toUInt32 >>> (Int32.toUInt32 2 &&& Int32.toUInt32 31)).toInt32) &&& 858993459)).toUInt32 >>> (Int32.toUInt32 4 &&& Int32.toUInt32 31)).toInt32)) &&& 252645135).toUInt32 >>> (Int32.toUInt32 8 &&& Int32.toUInt32 31)).toInt32)).toUInt32 >>> (Int32.toUInt32 16 &&& Int32.toUInt32 31)).toInt32)) &&& 63
set_option maxHeartbeats 4000000 in
set_option maxRecDepth 100000 in
theorem c_J6_bitCount_0f7a4 (l : Launch) (D : va_G) (cI : ClassId) (a : Nat → Nat) (sz : Nat) (σ : Sg) (v : Int32) : Met l yJ6_bitCount_0f7a4 wsJ6_bitCount_0f7a4 ({ frames := 0, cells := 0, slots := 0, locals := 0 }) (PcW D cI 29 a (wX cI a) sz σ [.int v]) (QiW D 29 a (wX cI a) sz (r_J6_bitCount_0f7a4 σ v) σ) 0 0 (AX 29 a sz) := by
  refine x_of (cc := cJ6_bitCount_0f7a4) (maxL := 1) (ret := some .int) (C := RJ6) rfl (by decide) rfl (Nat.le_of_ble_eq_true rfl) (fun p e s m below meth c hx hb hr hml hlk hts hown hsz H hP hS hG ls hl => ?_)
  have hl : lv_has ls 1 [(0, .int v)] := hl
  refine lv_iload_n hx hb dJ6_bitCount_0f7a4_0 rfl (lv_at hl 0 rfl) ?_
  refine lv_iload_n hx hb dJ6_bitCount_0f7a4_1 rfl (lv_at hl 0 rfl) ?_
  refine lv_iconst (v := 1) hx hb dJ6_bitCount_0f7a4_2 (by decide) ?_
  refine lv_iushr hx hb dJ6_bitCount_0f7a4_3 rfl ?_
  refine lv_ldcw (v := 1431655765) hx hb hown (hts _ (List.mem_of_getElem? (i := 1) rfl)) dJ6_bitCount_0f7a4_4 ?_
  refine lv_iand hx hb dJ6_bitCount_0f7a4_7 ?_
  refine lv_isub hx hb dJ6_bitCount_0f7a4_8 ?_
  refine lv_istore_n (lv' := [(0, .int (v - (((v.toUInt32 >>> (Int32.toUInt32 1 &&& Int32.toUInt32 31)).toInt32) &&& 1431655765)))]) hx hb dJ6_bitCount_0f7a4_9 rfl hl (by decide) rfl (fun ls hl => ?_)
  refine lv_iload_n hx hb dJ6_bitCount_0f7a4_10 rfl (lv_at hl 0 rfl) ?_
  refine lv_ldcw (v := 858993459) hx hb hown (hts _ (List.mem_of_getElem? (i := 2) rfl)) dJ6_bitCount_0f7a4_11 ?_
  refine lv_iand hx hb dJ6_bitCount_0f7a4_14 ?_
  refine lv_iload_n hx hb dJ6_bitCount_0f7a4_15 rfl (lv_at hl 0 rfl) ?_
  refine lv_iconst (v := 2) hx hb dJ6_bitCount_0f7a4_16 (by decide) ?_
  refine lv_iushr hx hb dJ6_bitCount_0f7a4_17 rfl ?_
  refine lv_ldcw (v := 858993459) hx hb hown (hts _ (List.mem_of_getElem? (i := 2) rfl)) dJ6_bitCount_0f7a4_18 ?_
  refine lv_iand hx hb dJ6_bitCount_0f7a4_21 ?_
  refine lv_iadd hx hb dJ6_bitCount_0f7a4_22 ?_
  refine lv_istore_n (lv' := [(0, .int (((v - (((v.toUInt32 >>> (Int32.toUInt32 1 &&& Int32.toUInt32 31)).toInt32) &&& 1431655765)) &&& 858993459) + ((((v - (((v.toUInt32 >>> (Int32.toUInt32 1 &&& Int32.toUInt32 31)).toInt32) &&& 1431655765)).toUInt32 >>> (Int32.toUInt32 2 &&& Int32.toUInt32 31)).toInt32) &&& 858993459)))]) hx hb dJ6_bitCount_0f7a4_23 rfl hl (by decide) rfl (fun ls hl => ?_)
  refine lv_iload_n hx hb dJ6_bitCount_0f7a4_24 rfl (lv_at hl 0 rfl) ?_
  refine lv_iload_n hx hb dJ6_bitCount_0f7a4_25 rfl (lv_at hl 0 rfl) ?_
  refine lv_iconst (v := 4) hx hb dJ6_bitCount_0f7a4_26 (by decide) ?_
  refine lv_iushr hx hb dJ6_bitCount_0f7a4_27 rfl ?_
  refine lv_iadd hx hb dJ6_bitCount_0f7a4_28 ?_
  refine lv_ldcw (v := 252645135) hx hb hown (hts _ (List.mem_of_getElem? (i := 3) rfl)) dJ6_bitCount_0f7a4_29 ?_
  refine lv_iand hx hb dJ6_bitCount_0f7a4_32 ?_
  refine lv_istore_n (lv' := [(0, .int (((((v - (((v.toUInt32 >>> (Int32.toUInt32 1 &&& Int32.toUInt32 31)).toInt32) &&& 1431655765)) &&& 858993459) + ((((v - (((v.toUInt32 >>> (Int32.toUInt32 1 &&& Int32.toUInt32 31)).toInt32) &&& 1431655765)).toUInt32 >>> (Int32.toUInt32 2 &&& Int32.toUInt32 31)).toInt32) &&& 858993459)) + (((((v - (((v.toUInt32 >>> (Int32.toUInt32 1 &&& Int32.toUInt32 31)).toInt32) &&& 1431655765)) &&& 858993459) + ((((v - (((v.toUInt32 >>> (Int32.toUInt32 1 &&& Int32.toUInt32 31)).toInt32) &&& 1431655765)).toUInt32 >>> (Int32.toUInt32 2 &&& Int32.toUInt32 31)).toInt32) &&& 858993459)).toUInt32 >>> (Int32.toUInt32 4 &&& Int32.toUInt32 31)).toInt32)) &&& 252645135))]) hx hb dJ6_bitCount_0f7a4_33 rfl hl (by decide) rfl (fun ls hl => ?_)
  refine lv_iload_n hx hb dJ6_bitCount_0f7a4_34 rfl (lv_at hl 0 rfl) ?_
  refine lv_iload_n hx hb dJ6_bitCount_0f7a4_35 rfl (lv_at hl 0 rfl) ?_
  refine lv_bipush (v := 8) hx hb dJ6_bitCount_0f7a4_36 (by decide) ?_
  refine lv_iushr hx hb dJ6_bitCount_0f7a4_38 rfl ?_
  refine lv_iadd hx hb dJ6_bitCount_0f7a4_39 ?_
  refine lv_istore_n (lv' := [(0, .int ((((((v - (((v.toUInt32 >>> (Int32.toUInt32 1 &&& Int32.toUInt32 31)).toInt32) &&& 1431655765)) &&& 858993459) + ((((v - (((v.toUInt32 >>> (Int32.toUInt32 1 &&& Int32.toUInt32 31)).toInt32) &&& 1431655765)).toUInt32 >>> (Int32.toUInt32 2 &&& Int32.toUInt32 31)).toInt32) &&& 858993459)) + (((((v - (((v.toUInt32 >>> (Int32.toUInt32 1 &&& Int32.toUInt32 31)).toInt32) &&& 1431655765)) &&& 858993459) + ((((v - (((v.toUInt32 >>> (Int32.toUInt32 1 &&& Int32.toUInt32 31)).toInt32) &&& 1431655765)).toUInt32 >>> (Int32.toUInt32 2 &&& Int32.toUInt32 31)).toInt32) &&& 858993459)).toUInt32 >>> (Int32.toUInt32 4 &&& Int32.toUInt32 31)).toInt32)) &&& 252645135) + (((((((v - (((v.toUInt32 >>> (Int32.toUInt32 1 &&& Int32.toUInt32 31)).toInt32) &&& 1431655765)) &&& 858993459) + ((((v - (((v.toUInt32 >>> (Int32.toUInt32 1 &&& Int32.toUInt32 31)).toInt32) &&& 1431655765)).toUInt32 >>> (Int32.toUInt32 2 &&& Int32.toUInt32 31)).toInt32) &&& 858993459)) + (((((v - (((v.toUInt32 >>> (Int32.toUInt32 1 &&& Int32.toUInt32 31)).toInt32) &&& 1431655765)) &&& 858993459) + ((((v - (((v.toUInt32 >>> (Int32.toUInt32 1 &&& Int32.toUInt32 31)).toInt32) &&& 1431655765)).toUInt32 >>> (Int32.toUInt32 2 &&& Int32.toUInt32 31)).toInt32) &&& 858993459)).toUInt32 >>> (Int32.toUInt32 4 &&& Int32.toUInt32 31)).toInt32)) &&& 252645135).toUInt32 >>> (Int32.toUInt32 8 &&& Int32.toUInt32 31)).toInt32)))]) hx hb dJ6_bitCount_0f7a4_40 rfl hl (by decide) rfl (fun ls hl => ?_)
  refine lv_iload_n hx hb dJ6_bitCount_0f7a4_41 rfl (lv_at hl 0 rfl) ?_
  refine lv_iload_n hx hb dJ6_bitCount_0f7a4_42 rfl (lv_at hl 0 rfl) ?_
  refine lv_bipush (v := 16) hx hb dJ6_bitCount_0f7a4_43 (by decide) ?_
  refine lv_iushr hx hb dJ6_bitCount_0f7a4_45 rfl ?_
  refine lv_iadd hx hb dJ6_bitCount_0f7a4_46 ?_
  refine lv_istore_n (lv' := [(0, .int (((((((v - (((v.toUInt32 >>> (Int32.toUInt32 1 &&& Int32.toUInt32 31)).toInt32) &&& 1431655765)) &&& 858993459) + ((((v - (((v.toUInt32 >>> (Int32.toUInt32 1 &&& Int32.toUInt32 31)).toInt32) &&& 1431655765)).toUInt32 >>> (Int32.toUInt32 2 &&& Int32.toUInt32 31)).toInt32) &&& 858993459)) + (((((v - (((v.toUInt32 >>> (Int32.toUInt32 1 &&& Int32.toUInt32 31)).toInt32) &&& 1431655765)) &&& 858993459) + ((((v - (((v.toUInt32 >>> (Int32.toUInt32 1 &&& Int32.toUInt32 31)).toInt32) &&& 1431655765)).toUInt32 >>> (Int32.toUInt32 2 &&& Int32.toUInt32 31)).toInt32) &&& 858993459)).toUInt32 >>> (Int32.toUInt32 4 &&& Int32.toUInt32 31)).toInt32)) &&& 252645135) + (((((((v - (((v.toUInt32 >>> (Int32.toUInt32 1 &&& Int32.toUInt32 31)).toInt32) &&& 1431655765)) &&& 858993459) + ((((v - (((v.toUInt32 >>> (Int32.toUInt32 1 &&& Int32.toUInt32 31)).toInt32) &&& 1431655765)).toUInt32 >>> (Int32.toUInt32 2 &&& Int32.toUInt32 31)).toInt32) &&& 858993459)) + (((((v - (((v.toUInt32 >>> (Int32.toUInt32 1 &&& Int32.toUInt32 31)).toInt32) &&& 1431655765)) &&& 858993459) + ((((v - (((v.toUInt32 >>> (Int32.toUInt32 1 &&& Int32.toUInt32 31)).toInt32) &&& 1431655765)).toUInt32 >>> (Int32.toUInt32 2 &&& Int32.toUInt32 31)).toInt32) &&& 858993459)).toUInt32 >>> (Int32.toUInt32 4 &&& Int32.toUInt32 31)).toInt32)) &&& 252645135).toUInt32 >>> (Int32.toUInt32 8 &&& Int32.toUInt32 31)).toInt32)) + ((((((((v - (((v.toUInt32 >>> (Int32.toUInt32 1 &&& Int32.toUInt32 31)).toInt32) &&& 1431655765)) &&& 858993459) + ((((v - (((v.toUInt32 >>> (Int32.toUInt32 1 &&& Int32.toUInt32 31)).toInt32) &&& 1431655765)).toUInt32 >>> (Int32.toUInt32 2 &&& Int32.toUInt32 31)).toInt32) &&& 858993459)) + (((((v - (((v.toUInt32 >>> (Int32.toUInt32 1 &&& Int32.toUInt32 31)).toInt32) &&& 1431655765)) &&& 858993459) + ((((v - (((v.toUInt32 >>> (Int32.toUInt32 1 &&& Int32.toUInt32 31)).toInt32) &&& 1431655765)).toUInt32 >>> (Int32.toUInt32 2 &&& Int32.toUInt32 31)).toInt32) &&& 858993459)).toUInt32 >>> (Int32.toUInt32 4 &&& Int32.toUInt32 31)).toInt32)) &&& 252645135) + (((((((v - (((v.toUInt32 >>> (Int32.toUInt32 1 &&& Int32.toUInt32 31)).toInt32) &&& 1431655765)) &&& 858993459) + ((((v - (((v.toUInt32 >>> (Int32.toUInt32 1 &&& Int32.toUInt32 31)).toInt32) &&& 1431655765)).toUInt32 >>> (Int32.toUInt32 2 &&& Int32.toUInt32 31)).toInt32) &&& 858993459)) + (((((v - (((v.toUInt32 >>> (Int32.toUInt32 1 &&& Int32.toUInt32 31)).toInt32) &&& 1431655765)) &&& 858993459) + ((((v - (((v.toUInt32 >>> (Int32.toUInt32 1 &&& Int32.toUInt32 31)).toInt32) &&& 1431655765)).toUInt32 >>> (Int32.toUInt32 2 &&& Int32.toUInt32 31)).toInt32) &&& 858993459)).toUInt32 >>> (Int32.toUInt32 4 &&& Int32.toUInt32 31)).toInt32)) &&& 252645135).toUInt32 >>> (Int32.toUInt32 8 &&& Int32.toUInt32 31)).toInt32)).toUInt32 >>> (Int32.toUInt32 16 &&& Int32.toUInt32 31)).toInt32)))]) hx hb dJ6_bitCount_0f7a4_47 rfl hl (by decide) rfl (fun ls hl => ?_)
  refine lv_iload_n hx hb dJ6_bitCount_0f7a4_48 rfl (lv_at hl 0 rfl) ?_
  refine lv_bipush (v := 63) hx hb dJ6_bitCount_0f7a4_49 (by decide) ?_
  refine lv_iand hx hb dJ6_bitCount_0f7a4_51 ?_
  exact x_iret hx hb hr hlk hsz hP hS rfl (by rw [r_J6_bitCount_0f7a4]) rfl dJ6_bitCount_0f7a4_52
theorem in_X0_isBlocked_0 : ∀ wd ∈ u_ws RX0 TX0 7, wd ∈ wsX0_isBlocked := by decide +kernel
def r_X0_isBlocked (σ : Sg) (cy : Int32) : Int32 :=
  if r_J6_bitCount_0f7a4 σ (σ 18 cy.toNatClampNeg) < 2 then
    0
  else
    1
theorem b_X0_isBlocked (σ : Sg) (cy : Int32) : r_X0_isBlocked σ cy = 0 ∨ r_X0_isBlocked σ cy = 1 := by
  unfold r_X0_isBlocked
  repeat' split
  all_goals first | with_reducible exact Or.inl rfl | with_reducible exact Or.inr rfl
set_option maxHeartbeats 4000000 in
set_option maxRecDepth 100000 in
theorem c_X0_isBlocked (l : Launch) (D : va_G) (cI : ClassId) (a : Nat → Nat) (sz : Nat) (σ : Sg) (cy : Int32) (hc : vp_in cy 30) : Met l yX0_isBlocked wsX0_isBlocked ({ frames := 1, cells := 0, slots := 0, locals := 20 }) (PcW D cI 29 a (wX cI a) sz σ [.ref (a 4), .int cy]) (QiW D 29 a (wX cI a) sz (r_X0_isBlocked σ cy) σ) 0 0 (AX 29 a sz) := by
  refine x_of (cc := cX0_isBlocked) (maxL := 2) (ret := some .boolean) (C := RX0) rfl (by decide) rfl (Nat.le_of_ble_eq_true rfl) (fun p e s m below meth c hx hb hr hml hlk hts hown hsz H hP hS hG ls hl => ?_)
  have hl : lv_has ls 2 [(0, .ref (a 4)), (1, .int cy)] := hl
  refine lv_aload_n hx hb dX0_isBlocked_0 rfl (lv_at hl 0 rfl) ?_
  refine x_get (ci := 0) (C := RX0) (T := TX0) (M := 7) (v := .ref (a 18)) hx hb hts in_X0_isBlocked_0 hown hG hP 4 rfl rfl 2 (by decide) (List.mem_of_getElem? (i := 1) rfl) rfl rfl dX0_isBlocked_1 ?_
  refine lv_iload_n hx hb dX0_isBlocked_4 rfl (lv_at hl 1 rfl) ?_
  refine x_iald (f := σ 18) hx hb hG hP 18 rfl (by assumption) dX0_isBlocked_5 ?_
  refine x_callSi (w := wX cI a) (σ := σ) (σ' := σ) (As := [.int (σ 18 cy.toNatClampNeg)]) (rest := []) ⟨hx, hb, hml, hown, hts⟩ hG hP hS hsz (c_J6_bitCount_0f7a4 l D cI a H.size σ (σ 18 cy.toNatClampNeg)) (va_cwS 1 hts gX0_isBlocked_J6_bitCount_0f7a4 rfl rfl rfl (by decide +kernel) ⟨Nat.le_of_ble_eq_true rfl, Nat.le_of_ble_eq_true rfl⟩) rfl hl.1 rfl (Nat.le_of_ble_eq_true rfl) ⟨Nat.zero_le _, Nat.zero_le _⟩ dX0_isBlocked_6 (fun H locs hP hS => ?_)
  refine lv_iconst (v := 2) hx hb dX0_isBlocked_9 (by decide) ?_
  refine lv_icmp_lt (tgt := 17) hx hb dX0_isBlocked_10 (by decide) (fun h_1 => ?_) (fun h_1 => ?_)
  · refine lv_iconst (v := 0) hx hb dX0_isBlocked_17 (by decide) ?_
    exact x_iret hx hb hr hlk hsz hP hS rfl (by rw [r_X0_isBlocked, if_pos h_1]) rfl dX0_isBlocked_18
  · refine lv_iconst (v := 1) hx hb dX0_isBlocked_13 (by decide) ?_
    refine lv_goto (tgt := 18) hx hb dX0_isBlocked_14 (by decide) ?_
    exact x_iret hx hb hr hlk hsz hP hS rfl (by rw [r_X0_isBlocked, if_neg h_1]) rfl dX0_isBlocked_18
theorem in_X0_addFault_0 : ∀ wd ∈ u_ws RX0 TX0 7, wd ∈ wsX0_addFault := by decide +kernel
def s_X0_addFault (σ : Sg) (cy : Int32) (ri : Int32) : Sg :=
  sx σ 18 cy.toNatClampNeg ((σ 18 cy.toNatClampNeg) ||| (1 <<< (ri &&& 31)))
set_option maxHeartbeats 4000000 in
set_option maxRecDepth 100000 in
theorem c_X0_addFault (l : Launch) (D : va_G) (cI : ClassId) (a : Nat → Nat) (sz : Nat) (σ : Sg) (cy : Int32) (ri : Int32) (hc : vp_in cy 30) : Met l yX0_addFault wsX0_addFault ({ frames := 0, cells := 0, slots := 0, locals := 0 }) (PcW D cI 29 a (wX cI a) sz σ [.ref (a 4), .int cy, .int ri]) (QvW D 29 a (wX cI a) sz (s_X0_addFault σ cy ri)) 0 0 (AX 29 a sz) := by
  refine x_of (cc := cX0_addFault) (maxL := 3) (ret := none) (C := RX0) rfl (by decide) rfl (Nat.le_of_ble_eq_true rfl) (fun p e s m below meth c hx hb hr hml hlk hts hown hsz H hP hS hG ls hl => ?_)
  have hl : lv_has ls 3 [(0, .ref (a 4)), (1, .int cy), (2, .int ri)] := hl
  refine lv_aload_n hx hb dX0_addFault_0 rfl (lv_at hl 0 rfl) ?_
  refine x_get (ci := 0) (C := RX0) (T := TX0) (M := 7) (v := .ref (a 18)) hx hb hts in_X0_addFault_0 hown hG hP 4 rfl rfl 2 (by decide) (List.mem_of_getElem? (i := 1) rfl) rfl rfl dX0_addFault_1 ?_
  refine lv_iload_n hx hb dX0_addFault_4 rfl (lv_at hl 1 rfl) ?_
  refine lv_aload_n hx hb dX0_addFault_5 rfl (lv_at hl 0 rfl) ?_
  refine x_get (ci := 0) (C := RX0) (T := TX0) (M := 7) (v := .ref (a 18)) hx hb hts in_X0_addFault_0 hown hG hP 4 rfl rfl 2 (by decide) (List.mem_of_getElem? (i := 1) rfl) rfl rfl dX0_addFault_6 ?_
  refine lv_iload_n hx hb dX0_addFault_9 rfl (lv_at hl 1 rfl) ?_
  refine x_iald (f := σ 18) hx hb hG hP 18 rfl (by assumption) dX0_addFault_10 ?_
  refine lv_iconst (v := 1) hx hb dX0_addFault_11 (by decide) ?_
  refine lv_iload_n hx hb dX0_addFault_12 rfl (lv_at hl 2 rfl) ?_
  refine lv_ishl hx hb dX0_addFault_13 ?_
  refine lv_ior hx hb dX0_addFault_14 ?_
  refine x_iast (w := wX cI a) (σ := σ) hx hb hG hP hS 18 rfl (wX_st18 cI a _ _ _) (by assumption) dX0_addFault_15 (fun H locs hP hS => ?_)
  exact x_vret hx hb hr hlk hsz hP hS (by rw [s_X0_addFault]) dX0_addFault_16
theorem in_X0_minutesGoingOn_0 : ∀ wd ∈ u_ws RX0 TX0 7, wd ∈ wsX0_minutesGoingOn := by decide +kernel
def r_X0_minutesGoingOn (σ : Sg) (cy : Int32) (mi : Int32) : Int32 :=
  if σ 16 cy.toNatClampNeg = 2 then
    mi - (σ 20 cy.toNatClampNeg)
  else
    0
set_option maxHeartbeats 4000000 in
set_option maxRecDepth 100000 in
theorem c_X0_minutesGoingOn (l : Launch) (D : va_G) (cI : ClassId) (a : Nat → Nat) (sz : Nat) (σ : Sg) (cy : Int32) (mi : Int32) (hc : vp_in cy 30) : Met l yX0_minutesGoingOn wsX0_minutesGoingOn ({ frames := 0, cells := 0, slots := 0, locals := 0 }) (PcW D cI 29 a (wX cI a) sz σ [.ref (a 4), .int cy, .int mi]) (QiW D 29 a (wX cI a) sz (r_X0_minutesGoingOn σ cy mi) σ) 0 0 (AX 29 a sz) := by
  refine x_of (cc := cX0_minutesGoingOn) (maxL := 3) (ret := some .int) (C := RX0) rfl (by decide) rfl (Nat.le_of_ble_eq_true rfl) (fun p e s m below meth c hx hb hr hml hlk hts hown hsz H hP hS hG ls hl => ?_)
  have hl : lv_has ls 3 [(0, .ref (a 4)), (1, .int cy), (2, .int mi)] := hl
  refine lv_aload_n hx hb dX0_minutesGoingOn_0 rfl (lv_at hl 0 rfl) ?_
  refine x_get (ci := 0) (C := RX0) (T := TX0) (M := 7) (v := .ref (a 16)) hx hb hts in_X0_minutesGoingOn_0 hown hG hP 4 rfl rfl 0 (by decide) (List.mem_of_getElem? (i := 1) rfl) rfl rfl dX0_minutesGoingOn_1 ?_
  refine lv_iload_n hx hb dX0_minutesGoingOn_4 rfl (lv_at hl 1 rfl) ?_
  refine x_iald (f := σ 16) hx hb hG hP 16 rfl (by assumption) dX0_minutesGoingOn_5 ?_
  refine lv_iconst (v := 2) hx hb dX0_minutesGoingOn_6 (by decide) ?_
  refine lv_icmp_ne (tgt := 21) hx hb dX0_minutesGoingOn_7 (by decide) (fun h_1 => ?_) (fun h_1 => ?_)
  · refine lv_iconst (v := 0) hx hb dX0_minutesGoingOn_21 (by decide) ?_
    exact x_iret hx hb hr hlk hsz hP hS rfl (by rw [r_X0_minutesGoingOn, if_neg h_1]) rfl dX0_minutesGoingOn_22
  · refine lv_iload_n hx hb dX0_minutesGoingOn_10 rfl (lv_at hl 2 rfl) ?_
    refine lv_aload_n hx hb dX0_minutesGoingOn_11 rfl (lv_at hl 0 rfl) ?_
    refine x_get (ci := 0) (C := RX0) (T := TX0) (M := 7) (v := .ref (a 20)) hx hb hts in_X0_minutesGoingOn_0 hown hG hP 4 rfl rfl 4 (by decide) (List.mem_of_getElem? (i := 2) rfl) rfl rfl dX0_minutesGoingOn_12 ?_
    refine lv_iload_n hx hb dX0_minutesGoingOn_15 rfl (lv_at hl 1 rfl) ?_
    refine x_iald (f := σ 20) hx hb hG hP 20 rfl (by assumption) dX0_minutesGoingOn_16 ?_
    refine lv_isub hx hb dX0_minutesGoingOn_17 ?_
    refine lv_goto (tgt := 22) hx hb dX0_minutesGoingOn_18 (by decide) ?_
    exact x_iret hx hb hr hlk hsz hP hS rfl (by rw [r_X0_minutesGoingOn, if_pos h_1]) rfl dX0_minutesGoingOn_22
theorem in_X0_rideCost_0 : ∀ wd ∈ u_ws RX0 TX0 7, wd ∈ wsX0_rideCost := by decide +kernel
def r_X0_rideCost (σ : Sg) (cy : Int32) (mi : Int32) : Int32 :=
  (σ 21 cy.toNatClampNeg) * (if (0 : Int32) < (mi - 30) - (σ 22 cy.toNatClampNeg) then (mi - 30) - (σ 22 cy.toNatClampNeg) else 0)
set_option maxHeartbeats 4000000 in
set_option maxRecDepth 100000 in
theorem c_X0_rideCost (l : Launch) (D : va_G) (cI : ClassId) (a : Nat → Nat) (sz : Nat) (σ : Sg) (cy : Int32) (mi : Int32) (hc : vp_in cy 30) : Met l yX0_rideCost wsX0_rideCost ({ frames := 1, cells := 0, slots := 0, locals := 14 }) (PcW D cI 29 a (wX cI a) sz σ [.ref (a 4), .int cy, .int mi]) (QiW D 29 a (wX cI a) sz (r_X0_rideCost σ cy mi) σ) 0 0 (AX 29 a sz) := by
  refine x_of (cc := cX0_rideCost) (maxL := 3) (ret := some .int) (C := RX0) rfl (by decide) rfl (Nat.le_of_ble_eq_true rfl) (fun p e s m below meth c hx hb hr hml hlk hts hown hsz H hP hS hG ls hl => ?_)
  have hl : lv_has ls 3 [(0, .ref (a 4)), (1, .int cy), (2, .int mi)] := hl
  refine lv_aload_n hx hb dX0_rideCost_0 rfl (lv_at hl 0 rfl) ?_
  refine x_get (ci := 0) (C := RX0) (T := TX0) (M := 7) (v := .ref (a 21)) hx hb hts in_X0_rideCost_0 hown hG hP 4 rfl rfl 5 (by decide) (List.mem_of_getElem? (i := 1) rfl) rfl rfl dX0_rideCost_1 ?_
  refine lv_iload_n hx hb dX0_rideCost_4 rfl (lv_at hl 1 rfl) ?_
  refine x_iald (f := σ 21) hx hb hG hP 21 rfl (by assumption) dX0_rideCost_5 ?_
  refine lv_iconst (v := 0) hx hb dX0_rideCost_6 (by decide) ?_
  refine lv_iload_n hx hb dX0_rideCost_7 rfl (lv_at hl 2 rfl) ?_
  refine lv_bipush (v := 30) hx hb dX0_rideCost_8 (by decide) ?_
  refine lv_isub hx hb dX0_rideCost_10 ?_
  refine lv_aload_n hx hb dX0_rideCost_11 rfl (lv_at hl 0 rfl) ?_
  refine x_get (ci := 0) (C := RX0) (T := TX0) (M := 7) (v := .ref (a 22)) hx hb hts in_X0_rideCost_0 hown hG hP 4 rfl rfl 6 (by decide) (List.mem_of_getElem? (i := 2) rfl) rfl rfl dX0_rideCost_12 ?_
  refine lv_iload_n hx hb dX0_rideCost_15 rfl (lv_at hl 1 rfl) ?_
  refine x_iald (f := σ 22) hx hb hG hP 22 rfl (by assumption) dX0_rideCost_16 ?_
  refine lv_isub hx hb dX0_rideCost_17 ?_
  refine va_mmax hx hb (by rw [hml]; exact hl.1.symm) hown (hts _ (List.mem_of_getElem? (i := 3) rfl)) (hts _ (List.mem_of_getElem? (i := 4) rfl)) (hts _ (List.mem_of_getElem? (i := 5) rfl)) (hts _ (List.mem_of_getElem? (i := 6) rfl)) (Nat.le_of_ble_eq_true rfl) (Nat.le_of_ble_eq_true rfl) (Nat.zero_le _) (Nat.zero_le _) dX0_rideCost_18 ?_
  refine lv_imul hx hb dX0_rideCost_21 ?_
  exact x_iret hx hb hr hlk hsz hP hS rfl (by rw [r_X0_rideCost]) rfl dX0_rideCost_22
theorem in_X2_promisedStation_2 : ∀ wd ∈ u_ws RX2 TX2 6, wd ∈ wsX2_promisedStation := by decide +kernel
def r_X2_promisedStation (σ : Sg) (ri : Int32) (mi : Int32) : Int32 :=
  if 15 ≤ mi - (σ 28 ri.toNatClampNeg) then
    (-1)
  else
    σ 27 ri.toNatClampNeg
set_option maxHeartbeats 4000000 in
set_option maxRecDepth 100000 in
theorem c_X2_promisedStation (l : Launch) (D : va_G) (cI : ClassId) (a : Nat → Nat) (sz : Nat) (σ : Sg) (ri : Int32) (mi : Int32) (hr1 : vp_in ri 10) : Met l yX2_promisedStation wsX2_promisedStation ({ frames := 0, cells := 0, slots := 0, locals := 0 }) (PcW D cI 29 a (wX cI a) sz σ [.ref (a 5), .int ri, .int mi]) (QiW D 29 a (wX cI a) sz (r_X2_promisedStation σ ri mi) σ) 0 0 (AX 29 a sz) := by
  refine x_of (cc := cX2_promisedStation) (maxL := 3) (ret := some .int) (C := RX2) rfl (by decide) rfl (Nat.le_of_ble_eq_true rfl) (fun p e s m below meth c hx hb hr hml hlk hts hown hsz H hP hS hG ls hl => ?_)
  have hl : lv_has ls 3 [(0, .ref (a 5)), (1, .int ri), (2, .int mi)] := hl
  refine lv_iload_n hx hb dX2_promisedStation_0 rfl (lv_at hl 2 rfl) ?_
  refine lv_aload_n hx hb dX2_promisedStation_1 rfl (lv_at hl 0 rfl) ?_
  refine x_get (ci := 2) (C := RX2) (T := TX2) (M := 6) (v := .ref (a 28)) hx hb hts in_X2_promisedStation_2 hown hG hP 5 rfl rfl 5 (by decide) (List.mem_of_getElem? (i := 1) rfl) rfl rfl dX2_promisedStation_2 ?_
  refine lv_iload_n hx hb dX2_promisedStation_5 rfl (lv_at hl 1 rfl) ?_
  refine x_iald (f := σ 28) hx hb hG hP 28 rfl (by assumption) dX2_promisedStation_6 ?_
  refine lv_isub hx hb dX2_promisedStation_7 ?_
  refine lv_bipush (v := 15) hx hb dX2_promisedStation_8 (by decide) ?_
  refine lv_icmp_ge (tgt := 22) hx hb dX2_promisedStation_10 (by decide) (fun h_1 => ?_) (fun h_1 => ?_)
  · refine lv_iconst (v := (-1)) hx hb dX2_promisedStation_22 (by decide) ?_
    exact x_iret hx hb hr hlk hsz hP hS rfl (by rw [r_X2_promisedStation, if_pos h_1]) rfl dX2_promisedStation_23
  · refine lv_aload_n hx hb dX2_promisedStation_13 rfl (lv_at hl 0 rfl) ?_
    refine x_get (ci := 2) (C := RX2) (T := TX2) (M := 6) (v := .ref (a 27)) hx hb hts in_X2_promisedStation_2 hown hG hP 5 rfl rfl 4 (by decide) (List.mem_of_getElem? (i := 2) rfl) rfl rfl dX2_promisedStation_14 ?_
    refine lv_iload_n hx hb dX2_promisedStation_17 rfl (lv_at hl 1 rfl) ?_
    refine x_iald (f := σ 27) hx hb hG hP 27 rfl (by assumption) dX2_promisedStation_18 ?_
    refine lv_goto (tgt := 23) hx hb dX2_promisedStation_19 (by decide) ?_
    exact x_iret hx hb hr hlk hsz hP hS rfl (by rw [r_X2_promisedStation, if_neg h_1]) rfl dX2_promisedStation_23
def st_X2_promisesAt_6 (σ : Sg) (st lo mi : Int32) (i : Nat) (x6 : Int32) : Int32 :=
  if nI i = lo then
    x6
  else
    if r_X2_promisedStation σ (nI i) mi = st then
      (x6 + 1)
    else
      x6
def r_X2_promisesAt (σ : Sg) (st : Int32) (lo : Int32) (mi : Int32) : Int32 :=
  (itn (st_X2_promisesAt_6 σ st lo mi) 10 0)
set_option maxHeartbeats 4000000 in
set_option maxRecDepth 100000 in
theorem c_X2_promisesAt (l : Launch) (D : va_G) (cI : ClassId) (a : Nat → Nat) (sz : Nat) (σ : Sg) (st : Int32) (lo : Int32) (mi : Int32) : Met l yX2_promisesAt wsX2_promisesAt ({ frames := 1, cells := 0, slots := 0, locals := 22 }) (PcW D cI 29 a (wX cI a) sz σ [.ref (a 5), .int st, .int lo, .int mi]) (QiW D 29 a (wX cI a) sz (r_X2_promisesAt σ st lo mi) σ) 0 0 (AX 29 a sz) := by
  refine x_of (cc := cX2_promisesAt) (maxL := 6) (ret := some .int) (C := RX2) rfl (by decide) rfl (Nat.le_of_ble_eq_true rfl) (fun p e s m below meth c hx hb hr hml hlk hts hown hsz H hP hS hG ls hl => ?_)
  have hl : lv_has ls 6 [(0, .ref (a 5)), (1, .int st), (2, .int lo), (3, .int mi)] := hl
  refine lv_iconst (v := 0) hx hb dX2_promisesAt_0 (by decide) ?_
  refine lv_istore (lv' := [(4, .int 0), (0, .ref (a 5)), (1, .int st), (2, .int lo), (3, .int mi)]) hx hb dX2_promisesAt_1 hl (by decide) rfl (fun ls hl => ?_)
  refine lv_iconst (v := 0) hx hb dX2_promisesAt_3 (by decide) ?_
  refine lv_istore (lv' := [(5, .int 0), (4, .int 0), (0, .ref (a 5)), (1, .int st), (2, .int lo), (3, .int mi)]) hx hb dX2_promisesAt_4 hl (by decide) rfl (fun ls hl => ?_)
  have loop_6 : ∀ (rem i : Nat) (_ : i + rem = 10) (x6 : Int32) (_ : x6 = itn (st_X2_promisesAt_6 σ st lo mi) i 0) (H : Heap) (locs : List Loc) (ls : Array Slot) (_ : va_P D vwCl (wX cI a σ) H) (_ : va_S (AX 29 a sz) s.heap H locs) (_ : lv_has ls 6 [(5, .int (nI i)), (4, .int x6), (0, .ref (a 5)), (1, .int st), (2, .int lo), (3, .int mi)]), W p l e (headSpec wsX2_promisesAt ({ frames := 1, cells := 0, slots := 0, locals := 22 } : Room)).room s m ([.ref (a 5), .int st, .int lo, .int mi] : List Value).toArray below meth c H locs 0 0 (MQ below (QiW D 29 a (wX cI a) sz (r_X2_promisesAt σ st lo mi) σ) ([.ref (a 5), .int st, .int lo, .int mi] : List Value).toArray s 0 0 (AX 29 a sz)) (F0 m 6 ls []) := by
    intro rem
    induction rem with
    | zero =>
      intro i hi x6 ex6 H locs ls hP hS hl
      obtain rfl : 10 = i := by omega
      refine lv_iload hx hb dX2_promisesAt_6 (lv_at hl 0 rfl) ?_
      refine lv_bipush (v := 10) hx hb dX2_promisesAt_8 (by decide) ?_
      refine lv_icmp_ge (tgt := 39) hx hb dX2_promisesAt_10 (by decide) (fun _ => ?_) (fun h => absurd (show (10 : Int32) ≤ nI 10 by decide) h)
      refine lv_iload hx hb dX2_promisesAt_39 (lv_at hl 1 rfl) ?_
      exact x_iret hx hb hr hlk hsz hP hS rfl (by rw [r_X2_promisesAt, ← ex6]) rfl dX2_promisesAt_41
    | succ rem ih =>
      intro i hi x6 ex6 H locs ls hP hS hl
      refine lv_iload hx hb dX2_promisesAt_6 (lv_at hl 0 rfl) ?_
      refine lv_bipush (v := 10) hx hb dX2_promisesAt_8 (by decide) ?_
      refine lv_icmp_ge (tgt := 39) hx hb dX2_promisesAt_10 (by decide) (fun h => absurd h (nI_ge (a := i) (b := 10) (by omega) (by decide))) (fun _ => ?_)
      refine lv_iload hx hb dX2_promisesAt_13 (lv_at hl 0 rfl) ?_
      refine lv_iload_n hx hb dX2_promisesAt_15 rfl (lv_at hl 4 rfl) ?_
      refine lv_icmp_eq (tgt := 33) hx hb dX2_promisesAt_16 (by decide) (fun h_1 => ?_) (fun h_1 => ?_)
      · refine lv_iinc (v := nI (i + 1)) (lv' := [(5, .int (nI (i + 1))), (4, .int x6), (0, .ref (a 5)), (1, .int st), (2, .int lo), (3, .int mi)]) hx hb dX2_promisesAt_33 hl (k := 0) rfl (by rw [nI_succ]; rfl) (by decide) rfl (fun ls hl => ?_)
        refine lv_goto (tgt := 6) hx hb dX2_promisesAt_36 (by decide) ?_
        exact ih (i + 1) (by omega) x6 (by rw [itn, ← ex6]; rw [st_X2_promisesAt_6, if_pos h_1]) H locs ls hP hS (lv_sub hl [0, 1, 2, 3, 4, 5] rfl)
      · refine lv_aload_n hx hb dX2_promisesAt_19 rfl (lv_at hl 2 rfl) ?_
        refine lv_iload hx hb dX2_promisesAt_20 (lv_at hl 0 rfl) ?_
        refine lv_iload_n hx hb dX2_promisesAt_22 rfl (lv_at hl 5 rfl) ?_
        refine x_callVi (w := wX cI a) (σ := σ) (σ' := σ) (As := [.int (nI i), .int mi]) (rest := []) (q0 := 5) ⟨hx, hb, hml, hown, hts⟩ hG hP hS hsz (c_X2_promisedStation l D cI a H.size σ (nI i) mi (vp_in_nI (by omega) (by decide))) (cwV 2 hts gX2_promisesAt_X2_promisedStation rfl rfl rfl (by decide +kernel) ⟨Nat.le_of_ble_eq_true rfl, Nat.le_of_ble_eq_true rfl⟩) rfl rfl rfl rfl hl.1 rfl (Nat.le_of_ble_eq_true rfl) ⟨Nat.zero_le _, Nat.zero_le _⟩ dX2_promisesAt_23 (fun H locs hP hS => ?_)
        refine lv_iload_n hx hb dX2_promisesAt_26 rfl (lv_at hl 3 rfl) ?_
        refine lv_icmp_ne (tgt := 33) hx hb dX2_promisesAt_27 (by decide) (fun h_2 => ?_) (fun h_2 => ?_)
        · refine lv_iinc (v := nI (i + 1)) (lv' := [(5, .int (nI (i + 1))), (4, .int x6), (0, .ref (a 5)), (1, .int st), (2, .int lo), (3, .int mi)]) hx hb dX2_promisesAt_33 hl (k := 0) rfl (by rw [nI_succ]; rfl) (by decide) rfl (fun ls hl => ?_)
          refine lv_goto (tgt := 6) hx hb dX2_promisesAt_36 (by decide) ?_
          exact ih (i + 1) (by omega) x6 (by rw [itn, ← ex6]; rw [st_X2_promisesAt_6, if_neg h_1, if_neg h_2]) H locs ls hP hS (lv_sub hl [0, 1, 2, 3, 4, 5] rfl)
        · refine lv_iinc (v := x6 + 1) (lv' := [(4, .int (x6 + 1)), (5, .int (nI i)), (0, .ref (a 5)), (1, .int st), (2, .int lo), (3, .int mi)]) hx hb dX2_promisesAt_30 hl (k := 1) rfl rfl (by decide) rfl (fun ls hl => ?_)
          refine lv_iinc (v := nI (i + 1)) (lv' := [(5, .int (nI (i + 1))), (4, .int (x6 + 1)), (0, .ref (a 5)), (1, .int st), (2, .int lo), (3, .int mi)]) hx hb dX2_promisesAt_33 hl (k := 1) rfl (by rw [nI_succ]; rfl) (by decide) rfl (fun ls hl => ?_)
          refine lv_goto (tgt := 6) hx hb dX2_promisesAt_36 (by decide) ?_
          exact ih (i + 1) (by omega) (x6 + 1) (by rw [itn, ← ex6]; rw [st_X2_promisesAt_6, if_neg h_1, if_pos h_2]) H locs ls hP hS (lv_sub hl [0, 1, 2, 3, 4, 5] rfl)
  exact loop_6 (10) 0 (Nat.zero_add _) 0 (itn0 _ _) _ _ _ hP hS (lv_sub hl [0, 1, 2, 3, 4, 5] rfl)
theorem in_X3_freePlaces_3 : ∀ wd ∈ u_ws RX3 TX3 4, wd ∈ wsX3_freePlaces := by decide +kernel
def r_X3_freePlaces (σ : Sg) (st : Int32) : Int32 :=
  if (0 : Int32) < (σ 13 st.toNatClampNeg) - (σ 14 st.toNatClampNeg) then (σ 13 st.toNatClampNeg) - (σ 14 st.toNatClampNeg) else 0
set_option maxHeartbeats 4000000 in
set_option maxRecDepth 100000 in
theorem c_X3_freePlaces (l : Launch) (D : va_G) (cI : ClassId) (a : Nat → Nat) (sz : Nat) (σ : Sg) (st : Int32) (hs : vp_in st 8) : Met l yX3_freePlaces wsX3_freePlaces ({ frames := 1, cells := 0, slots := 0, locals := 13 }) (PcW D cI 29 a (wX cI a) sz σ [.ref (a 3), .int st]) (QiW D 29 a (wX cI a) sz (r_X3_freePlaces σ st) σ) 0 0 (AX 29 a sz) := by
  refine x_of (cc := cX3_freePlaces) (maxL := 2) (ret := some .int) (C := RX3) rfl (by decide) rfl (Nat.le_of_ble_eq_true rfl) (fun p e s m below meth c hx hb hr hml hlk hts hown hsz H hP hS hG ls hl => ?_)
  have hl : lv_has ls 2 [(0, .ref (a 3)), (1, .int st)] := hl
  refine lv_iconst (v := 0) hx hb dX3_freePlaces_0 (by decide) ?_
  refine lv_aload_n hx hb dX3_freePlaces_1 rfl (lv_at hl 0 rfl) ?_
  refine x_get (ci := 3) (C := RX3) (T := TX3) (M := 4) (v := .ref (a 13)) hx hb hts in_X3_freePlaces_3 hown hG hP 3 rfl rfl 0 (by decide) (List.mem_of_getElem? (i := 1) rfl) rfl rfl dX3_freePlaces_2 ?_
  refine lv_iload_n hx hb dX3_freePlaces_5 rfl (lv_at hl 1 rfl) ?_
  refine x_iald (f := σ 13) hx hb hG hP 13 rfl (by assumption) dX3_freePlaces_6 ?_
  refine lv_aload_n hx hb dX3_freePlaces_7 rfl (lv_at hl 0 rfl) ?_
  refine x_get (ci := 3) (C := RX3) (T := TX3) (M := 4) (v := .ref (a 14)) hx hb hts in_X3_freePlaces_3 hown hG hP 3 rfl rfl 1 (by decide) (List.mem_of_getElem? (i := 2) rfl) rfl rfl dX3_freePlaces_8 ?_
  refine lv_iload_n hx hb dX3_freePlaces_11 rfl (lv_at hl 1 rfl) ?_
  refine x_iald (f := σ 14) hx hb hG hP 14 rfl (by assumption) dX3_freePlaces_12 ?_
  refine lv_isub hx hb dX3_freePlaces_13 ?_
  refine va_mmax hx hb (by rw [hml]; exact hl.1.symm) hown (hts _ (List.mem_of_getElem? (i := 3) rfl)) (hts _ (List.mem_of_getElem? (i := 4) rfl)) (hts _ (List.mem_of_getElem? (i := 5) rfl)) (hts _ (List.mem_of_getElem? (i := 6) rfl)) (Nat.le_of_ble_eq_true rfl) (Nat.le_of_ble_eq_true rfl) (Nat.zero_le _) (Nat.zero_le _) dX3_freePlaces_14 ?_
  exact x_iret hx hb hr hlk hsz hP hS rfl (by rw [r_X3_freePlaces]) rfl dX3_freePlaces_17
theorem in_X3_emptyMinutes_3 : ∀ wd ∈ u_ws RX3 TX3 4, wd ∈ wsX3_emptyMinutes := by decide +kernel
def r_X3_emptyMinutes (σ : Sg) (st : Int32) (mi : Int32) : Int32 :=
  if σ 14 st.toNatClampNeg = 0 then
    ((σ 15 st.toNatClampNeg) + mi) - (σ 3 3)
  else
    σ 15 st.toNatClampNeg
set_option maxHeartbeats 4000000 in
set_option maxRecDepth 100000 in
theorem c_X3_emptyMinutes (l : Launch) (D : va_G) (cI : ClassId) (a : Nat → Nat) (sz : Nat) (σ : Sg) (st : Int32) (mi : Int32) (hs : vp_in st 8) : Met l yX3_emptyMinutes wsX3_emptyMinutes ({ frames := 0, cells := 0, slots := 0, locals := 0 }) (PcW D cI 29 a (wX cI a) sz σ [.ref (a 3), .int st, .int mi]) (QiW D 29 a (wX cI a) sz (r_X3_emptyMinutes σ st mi) σ) 0 0 (AX 29 a sz) := by
  refine x_of (cc := cX3_emptyMinutes) (maxL := 3) (ret := some .int) (C := RX3) rfl (by decide) rfl (Nat.le_of_ble_eq_true rfl) (fun p e s m below meth c hx hb hr hml hlk hts hown hsz H hP hS hG ls hl => ?_)
  have hl : lv_has ls 3 [(0, .ref (a 3)), (1, .int st), (2, .int mi)] := hl
  refine lv_aload_n hx hb dX3_emptyMinutes_0 rfl (lv_at hl 0 rfl) ?_
  refine x_get (ci := 3) (C := RX3) (T := TX3) (M := 4) (v := .ref (a 14)) hx hb hts in_X3_emptyMinutes_3 hown hG hP 3 rfl rfl 1 (by decide) (List.mem_of_getElem? (i := 1) rfl) rfl rfl dX3_emptyMinutes_1 ?_
  refine lv_iload_n hx hb dX3_emptyMinutes_4 rfl (lv_at hl 1 rfl) ?_
  refine x_iald (f := σ 14) hx hb hG hP 14 rfl (by assumption) dX3_emptyMinutes_5 ?_
  refine lv_if_ne (tgt := 25) hx hb dX3_emptyMinutes_6 (by decide) (fun h_1 => ?_) (fun h_1 => ?_)
  · refine lv_aload_n hx hb dX3_emptyMinutes_25 rfl (lv_at hl 0 rfl) ?_
    refine x_get (ci := 3) (C := RX3) (T := TX3) (M := 4) (v := .ref (a 15)) hx hb hts in_X3_emptyMinutes_3 hown hG hP 3 rfl rfl 2 (by decide) (List.mem_of_getElem? (i := 2) rfl) rfl rfl dX3_emptyMinutes_26 ?_
    refine lv_iload_n hx hb dX3_emptyMinutes_29 rfl (lv_at hl 1 rfl) ?_
    refine x_iald (f := σ 15) hx hb hG hP 15 rfl (by assumption) dX3_emptyMinutes_30 ?_
    exact x_iret hx hb hr hlk hsz hP hS rfl (by rw [r_X3_emptyMinutes, if_neg h_1]) rfl dX3_emptyMinutes_31
  · refine lv_aload_n hx hb dX3_emptyMinutes_9 rfl (lv_at hl 0 rfl) ?_
    refine x_get (ci := 3) (C := RX3) (T := TX3) (M := 4) (v := .ref (a 15)) hx hb hts in_X3_emptyMinutes_3 hown hG hP 3 rfl rfl 2 (by decide) (List.mem_of_getElem? (i := 2) rfl) rfl rfl dX3_emptyMinutes_10 ?_
    refine lv_iload_n hx hb dX3_emptyMinutes_13 rfl (lv_at hl 1 rfl) ?_
    refine x_iald (f := σ 15) hx hb hG hP 15 rfl (by assumption) dX3_emptyMinutes_14 ?_
    refine lv_iload_n hx hb dX3_emptyMinutes_15 rfl (lv_at hl 2 rfl) ?_
    refine lv_iadd hx hb dX3_emptyMinutes_16 ?_
    refine lv_aload_n hx hb dX3_emptyMinutes_17 rfl (lv_at hl 0 rfl) ?_
    refine x_get (ci := 3) (C := RX3) (T := TX3) (M := 4) (v := .int (σ 3 3)) hx hb hts in_X3_emptyMinutes_3 hown hG hP 3 rfl rfl 3 (by decide) (List.mem_of_getElem? (i := 3) rfl) rfl rfl dX3_emptyMinutes_18 ?_
    refine lv_isub hx hb dX3_emptyMinutes_21 ?_
    refine lv_goto (tgt := 31) hx hb dX3_emptyMinutes_22 (by decide) ?_
    exact x_iret hx hb hr hlk hsz hP hS rfl (by rw [r_X3_emptyMinutes, if_pos h_1]) rfl dX3_emptyMinutes_31
theorem in_X3_countEmptyUntil_3 : ∀ wd ∈ u_ws RX3 TX3 4, wd ∈ wsX3_countEmptyUntil := by decide +kernel
def st_X3_countEmptyUntil_2 (mi : Int32) (i : Nat) (x2 : Sg) : Sg :=
  (sx x2 15 (nI i).toNatClampNeg (r_X3_emptyMinutes x2 (nI i) mi))
def s_X3_countEmptyUntil (σ : Sg) (mi : Int32) : Sg :=
  sx (itn (st_X3_countEmptyUntil_2 mi) 8 σ) 3 3 mi
set_option maxHeartbeats 4000000 in
set_option maxRecDepth 100000 in
theorem c_X3_countEmptyUntil (l : Launch) (D : va_G) (cI : ClassId) (a : Nat → Nat) (sz : Nat) (σ : Sg) (mi : Int32) : Met l yX3_countEmptyUntil wsX3_countEmptyUntil ({ frames := 1, cells := 0, slots := 0, locals := 22 }) (PcW D cI 29 a (wX cI a) sz σ [.ref (a 3), .int mi]) (QvW D 29 a (wX cI a) sz (s_X3_countEmptyUntil σ mi)) 0 0 (AX 29 a sz) := by
  refine x_of (cc := cX3_countEmptyUntil) (maxL := 3) (ret := none) (C := RX3) rfl (by decide) rfl (Nat.le_of_ble_eq_true rfl) (fun p e s m below meth c hx hb hr hml hlk hts hown hsz H hP hS hG ls hl => ?_)
  have hl : lv_has ls 3 [(0, .ref (a 3)), (1, .int mi)] := hl
  refine lv_iconst (v := 0) hx hb dX3_countEmptyUntil_0 (by decide) ?_
  refine lv_istore_n (lv' := [(2, .int 0), (0, .ref (a 3)), (1, .int mi)]) hx hb dX3_countEmptyUntil_1 rfl hl (by decide) rfl (fun ls hl => ?_)
  have loop_2 : ∀ (rem i : Nat) (_ : i + rem = 8) (x2 : Sg) (_ : x2 = itn (st_X3_countEmptyUntil_2 mi) i σ) (H : Heap) (locs : List Loc) (ls : Array Slot) (_ : va_P D vwCl (wX cI a x2) H) (_ : va_S (AX 29 a sz) s.heap H locs) (_ : lv_has ls 3 [(2, .int (nI i)), (0, .ref (a 3)), (1, .int mi)]), W p l e (headSpec wsX3_countEmptyUntil ({ frames := 1, cells := 0, slots := 0, locals := 22 } : Room)).room s m ([.ref (a 3), .int mi] : List Value).toArray below meth c H locs 0 0 (MQ below (QvW D 29 a (wX cI a) sz (s_X3_countEmptyUntil σ mi)) ([.ref (a 3), .int mi] : List Value).toArray s 0 0 (AX 29 a sz)) (F0 m 2 ls []) := by
    intro rem
    induction rem with
    | zero =>
      intro i hi x2 ex2 H locs ls hP hS hl
      obtain rfl : 8 = i := by omega
      refine lv_iload_n hx hb dX3_countEmptyUntil_2 rfl (lv_at hl 0 rfl) ?_
      refine lv_bipush (v := 8) hx hb dX3_countEmptyUntil_3 (by decide) ?_
      refine lv_icmp_ge (tgt := 26) hx hb dX3_countEmptyUntil_5 (by decide) (fun _ => ?_) (fun h => absurd (show (8 : Int32) ≤ nI 8 by decide) h)
      refine lv_aload_n hx hb dX3_countEmptyUntil_26 rfl (lv_at hl 1 rfl) ?_
      refine lv_iload_n hx hb dX3_countEmptyUntil_27 rfl (lv_at hl 2 rfl) ?_
      refine x_put (w := wX cI a) (σ := x2) (ci := 3) (C := RX3) (T := TX3) (M := 4) hx hb hts in_X3_countEmptyUntil_3 tyX3 tyX3_ok nmX3 hown hG hP hS 3 rfl rfl 3 (by decide) (List.mem_of_getElem? (i := 2) rfl) rfl rfl rfl (Nat.le_of_ble_eq_true rfl) (wX_pt3_3 cI a _ _) dX3_countEmptyUntil_28 (fun H locs hP hS => ?_)
      exact x_vret hx hb hr hlk hsz hP hS (by rw [s_X3_countEmptyUntil, ← ex2]) dX3_countEmptyUntil_31
    | succ rem ih =>
      intro i hi x2 ex2 H locs ls hP hS hl
      refine lv_iload_n hx hb dX3_countEmptyUntil_2 rfl (lv_at hl 0 rfl) ?_
      refine lv_bipush (v := 8) hx hb dX3_countEmptyUntil_3 (by decide) ?_
      refine lv_icmp_ge (tgt := 26) hx hb dX3_countEmptyUntil_5 (by decide) (fun h => absurd h (nI_ge (a := i) (b := 8) (by omega) (by decide))) (fun _ => ?_)
      refine lv_aload_n hx hb dX3_countEmptyUntil_8 rfl (lv_at hl 1 rfl) ?_
      refine x_get (ci := 3) (C := RX3) (T := TX3) (M := 4) (v := .ref (a 15)) hx hb hts in_X3_countEmptyUntil_3 hown hG hP 3 rfl rfl 2 (by decide) (List.mem_of_getElem? (i := 1) rfl) rfl rfl dX3_countEmptyUntil_9 ?_
      refine lv_iload_n hx hb dX3_countEmptyUntil_12 rfl (lv_at hl 0 rfl) ?_
      refine lv_aload_n hx hb dX3_countEmptyUntil_13 rfl (lv_at hl 1 rfl) ?_
      refine lv_iload_n hx hb dX3_countEmptyUntil_14 rfl (lv_at hl 0 rfl) ?_
      refine lv_iload_n hx hb dX3_countEmptyUntil_15 rfl (lv_at hl 2 rfl) ?_
      refine x_callVi (w := wX cI a) (σ := x2) (σ' := x2) (As := [.int (nI i), .int mi]) (rest := [.int (nI i), .ref (a 15)]) (q0 := 3) ⟨hx, hb, hml, hown, hts⟩ hG hP hS hsz (c_X3_emptyMinutes l D cI a H.size x2 (nI i) mi (vp_in_nI (by omega) (by decide))) (cwV 2 hts gX3_countEmptyUntil_X3_emptyMinutes rfl rfl rfl (by decide +kernel) ⟨Nat.le_of_ble_eq_true rfl, Nat.le_of_ble_eq_true rfl⟩) rfl rfl rfl rfl hl.1 rfl (Nat.le_of_ble_eq_true rfl) ⟨Nat.zero_le _, Nat.zero_le _⟩ dX3_countEmptyUntil_16 (fun H locs hP hS => ?_)
      refine x_iast (w := wX cI a) (σ := x2) hx hb hG hP hS 15 rfl (wX_st15 cI a _ _ _) (vp_in_nI (by omega) (by decide)) dX3_countEmptyUntil_19 (fun H locs hP hS => ?_)
      refine lv_iinc (v := nI (i + 1)) (lv' := [(2, .int (nI (i + 1))), (0, .ref (a 3)), (1, .int mi)]) hx hb dX3_countEmptyUntil_20 hl (k := 0) rfl (by rw [nI_succ]; rfl) (by decide) rfl (fun ls hl => ?_)
      refine lv_goto (tgt := 2) hx hb dX3_countEmptyUntil_23 (by decide) ?_
      exact ih (i + 1) (by omega) (sx x2 15 (nI i).toNatClampNeg (r_X3_emptyMinutes x2 (nI i) mi)) (by rw [itn, ← ex2]; rw [st_X3_countEmptyUntil_2]) H locs ls hP hS (lv_sub hl [0, 1, 2] rfl)
  exact loop_2 (8) 0 (Nat.zero_add _) σ (itn0 _ _) _ _ _ hP hS (lv_sub hl [0, 1, 2] rfl)
