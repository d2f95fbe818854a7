/-- where a cycle that is DOCKED or RIDDEN is, in the reference -/
def hM (σ : Sg) : Prop := (∀ cy : Int32, vp_in cy 30 → σ 11 cy.toNatClampNeg = 1 → vp_in (σ 12 cy.toNatClampNeg) 8) ∧ (∀ cy : Int32, vp_in cy 30 → σ 11 cy.toNatClampNeg = 2 → vp_in (σ 12 cy.toNatClampNeg) 10)
theorem lt300 {v : Int32} {n : Nat} (h : v = nI n) (hn : n ≤ 300) (hne : ¬ v = 300) : n < 300 := by
  rcases Nat.lt_or_ge n 300 with q | q
  · exact q
  · exact absurd (by rw [h, show n = 300 by omega]; rfl) hne
theorem r_in_of {σ : Sg} {v lo hi : Int32} (h : ¬ r_X6_in σ v lo hi = 0) : lo ≤ v ∧ v ≤ hi := by
  unfold r_X6_in at h
  by_cases h1 : lo ≤ v
  · by_cases h2 : v ≤ hi
    · exact ⟨h1, h2⟩
    · simp [h1, h2] at h
  · simp [h1] at h
theorem in_of_le {v hi : Int32} {n : Nat} (h0 : (0 : Int32) ≤ v) (h1 : v ≤ hi) (hh : hi.toInt = n) (hn : n < 2147483647) : vp_in v (n + 1) := by
  have e0 : (0 : Int32).toInt ≤ v.toInt := Int32.le_iff_toInt_le.mp h0
  have e1 : v.toInt ≤ hi.toInt := Int32.le_iff_toInt_le.mp h1
  have e2 : (0 : Int32).toInt = 0 := by decide
  exact vp_in_iff.mpr ⟨by omega, by omega⟩
theorem isCy_in {σ : Sg} {v : Int32} (h : ¬ r_X6_isCycle σ v = 0) : vp_in v 30 := by
  unfold r_X6_isCycle at h
  exact in_of_le (r_in_of h).1 (r_in_of h).2 (n := 29) (by decide) (by decide)
theorem isSt_in {σ : Sg} {v : Int32} (h : ¬ r_X6_isStation σ v = 0) : vp_in v 8 := by
  unfold r_X6_isStation at h
  exact in_of_le (r_in_of h).1 (r_in_of h).2 (n := 7) (by decide) (by decide)
theorem isRi_in {σ : Sg} {v : Int32} (h : ¬ r_X6_isRider σ v = 0) : vp_in v 10 := by
  unfold r_X6_isRider at h
  exact in_of_le (r_in_of h).1 (r_in_of h).2 (n := 9) (by decide) (by decide)
theorem in_X6_keep_6 : ∀ wd ∈ u_ws RX6 TX6 29, wd ∈ wsX6_keep := by decide +kernel
def dw_X6_keep (mi : Int32) : Nat → Sg → Nat × Sg
  | 0, x => (0, x)
  | k + 1, x =>
    if x 7 ((nI (k + 1)) - 1).toNatClampNeg ≤ mi then
      (k + 1, x)
    else
      dw_X6_keep mi k (sx (sx (sx (sx x 4 (nI (k + 1)).toNatClampNeg (x 4 ((nI (k + 1)) - 1).toNatClampNeg)) 5 (nI (k + 1)).toNatClampNeg (x 5 ((nI (k + 1)) - 1).toNatClampNeg)) 6 (nI (k + 1)).toNatClampNeg (x 6 ((nI (k + 1)) - 1).toNatClampNeg)) 7 (nI (k + 1)).toNatClampNeg (x 7 ((nI (k + 1)) - 1).toNatClampNeg))
def r_X6_keep (σ : Sg) (its : Int32) (f1 : Int32) (f2 : Int32) (mi : Int32) (n : Nat) : Int32 :=
  nI (dw_X6_keep mi n σ).1
def s_X6_keep (σ : Sg) (its : Int32) (f1 : Int32) (f2 : Int32) (mi : Int32) (n : Nat) : Sg :=
  sx (sx (sx (sx (sx (dw_X6_keep mi n σ).2 4 (nI (dw_X6_keep mi n σ).1).toNatClampNeg its) 5 (nI (dw_X6_keep mi n σ).1).toNatClampNeg f1) 6 (nI (dw_X6_keep mi n σ).1).toNatClampNeg f2) 7 (nI (dw_X6_keep mi n σ).1).toNatClampNeg mi) 0 5 (((dw_X6_keep mi n σ).2 0 5) + 1)
set_option maxHeartbeats 4000000 in
set_option maxRecDepth 100000 in
theorem c_X6_keep (l : Launch) (D : va_G) (cI : ClassId) (a : Nat → Nat) (sz : Nat) (σ : Sg) (its : Int32) (f1 : Int32) (f2 : Int32) (mi : Int32) (n : Nat) (hn : n < 300) (hcn : σ 0 5 = nI n) : Met l yX6_keep wsX6_keep ({ frames := 0, cells := 0, slots := 0, locals := 0 }) (PcW D cI 24 a (wM cI a) sz σ [.ref (a 0), .int its, .int f1, .int f2, .int mi]) (QiW D 24 a (wM cI a) sz (r_X6_keep σ its f1 f2 mi n) (s_X6_keep σ its f1 f2 mi n)) 0 0 (AX 24 a sz) := by
  refine x_of (cc := cX6_keep) (maxL := 6) (ret := some .int) (C := RX6) rfl (by decide) rfl (Nat.le_of_ble_eq_true rfl) (fun p e s m below meth c hx hb hr hml hlk hts hown hsz H hP hS hG ls hl => ?_)
  have hl : lv_has ls 6 [(0, .ref (a 0)), (1, .int its), (2, .int f1), (3, .int f2), (4, .int mi)] := hl
  refine lv_aload_n hx hb dX6_keep_0 rfl (lv_at hl 0 rfl) ?_
  refine x_get (ci := 6) (C := RX6) (T := TX6) (M := 29) (v := .int (σ 0 5)) hx hb hts in_X6_keep_6 hown hG hP 0 rfl rfl 5 (by decide) (List.mem_of_getElem? (i := 1) rfl) rfl rfl dX6_keep_1 ?_
  refine lv_istore (lv' := [(5, .int (σ 0 5)), (0, .ref (a 0)), (1, .int its), (2, .int f1), (3, .int f2), (4, .int mi)]) hx hb dX6_keep_4 hl (by decide) rfl (fun ls hl => ?_)
  have tail_95 : ∀ (q : Nat) (x : Sg) (_ : q ≤ n) (_ : (q, x) = dw_X6_keep mi n σ) (H : Heap) (locs : List Loc) (ls : Array Slot) (_ : va_P D vwCl (wM cI a x) H) (_ : va_S (AX 24 a sz) s.heap H locs) (_ : lv_has ls 6 [(5, .int (nI q)), (0, .ref (a 0)), (1, .int its), (2, .int f1), (3, .int f2), (4, .int mi)]), W p l e (headSpec wsX6_keep ({ frames := 0, cells := 0, slots := 0, locals := 0 } : Room)).room s m ([.ref (a 0), .int its, .int f1, .int f2, .int mi] : List Value).toArray below meth c H locs 0 0 (MQ below (QiW D 24 a (wM cI a) sz (r_X6_keep σ its f1 f2 mi n) (s_X6_keep σ its f1 f2 mi n)) ([.ref (a 0), .int its, .int f1, .int f2, .int mi] : List Value).toArray s 0 0 (AX 24 a sz)) (F0 m 95 ls []) := by
    intro q x hq ex H locs ls hP hS hl
    refine lv_aload_n hx hb dX6_keep_95 rfl (lv_at hl 1 rfl) ?_
    refine x_get (ci := 6) (C := RX6) (T := TX6) (M := 29) (v := .ref (a 4)) hx hb hts in_X6_keep_6 hown hG hP 0 rfl rfl 6 (by decide) (List.mem_of_getElem? (i := 3) rfl) rfl rfl dX6_keep_96 ?_
    refine lv_iload hx hb dX6_keep_99 (lv_at hl 0 rfl) ?_
    refine lv_iload_n hx hb dX6_keep_101 rfl (lv_at hl 2 rfl) ?_
    refine x_iast (w := wM cI a) (σ := x) hx hb hG hP hS 4 rfl (wM_st4 cI a _ _ _) (vp_in_nI (by omega) (by decide)) dX6_keep_102 (fun H locs hP hS => ?_)
    refine lv_aload_n hx hb dX6_keep_103 rfl (lv_at hl 1 rfl) ?_
    refine x_get (ci := 6) (C := RX6) (T := TX6) (M := 29) (v := .ref (a 5)) hx hb hts in_X6_keep_6 hown hG hP 0 rfl rfl 7 (by decide) (List.mem_of_getElem? (i := 4) rfl) rfl rfl dX6_keep_104 ?_
    refine lv_iload hx hb dX6_keep_107 (lv_at hl 0 rfl) ?_
    refine lv_iload_n hx hb dX6_keep_109 rfl (lv_at hl 3 rfl) ?_
    refine x_iast (w := wM cI a) (σ := sx x 4 (nI q).toNatClampNeg its) hx hb hG hP hS 5 rfl (wM_st5 cI a _ _ _) (vp_in_nI (by omega) (by decide)) dX6_keep_110 (fun H locs hP hS => ?_)
    refine lv_aload_n hx hb dX6_keep_111 rfl (lv_at hl 1 rfl) ?_
    refine x_get (ci := 6) (C := RX6) (T := TX6) (M := 29) (v := .ref (a 6)) hx hb hts in_X6_keep_6 hown hG hP 0 rfl rfl 8 (by decide) (List.mem_of_getElem? (i := 5) rfl) rfl rfl dX6_keep_112 ?_
    refine lv_iload hx hb dX6_keep_115 (lv_at hl 0 rfl) ?_
    refine lv_iload_n hx hb dX6_keep_117 rfl (lv_at hl 4 rfl) ?_
    refine x_iast (w := wM cI a) (σ := sx (sx x 4 (nI q).toNatClampNeg its) 5 (nI q).toNatClampNeg f1) hx hb hG hP hS 6 rfl (wM_st6 cI a _ _ _) (vp_in_nI (by omega) (by decide)) dX6_keep_118 (fun H locs hP hS => ?_)
    refine lv_aload_n hx hb dX6_keep_119 rfl (lv_at hl 1 rfl) ?_
    refine x_get (ci := 6) (C := RX6) (T := TX6) (M := 29) (v := .ref (a 7)) hx hb hts in_X6_keep_6 hown hG hP 0 rfl rfl 9 (by decide) (List.mem_of_getElem? (i := 2) rfl) rfl rfl dX6_keep_120 ?_
    refine lv_iload hx hb dX6_keep_123 (lv_at hl 0 rfl) ?_
    refine lv_iload hx hb dX6_keep_125 (lv_at hl 5 rfl) ?_
    refine x_iast (w := wM cI a) (σ := sx (sx (sx x 4 (nI q).toNatClampNeg its) 5 (nI q).toNatClampNeg f1) 6 (nI q).toNatClampNeg f2) hx hb hG hP hS 7 rfl (wM_st7 cI a _ _ _) (vp_in_nI (by omega) (by decide)) dX6_keep_127 (fun H locs hP hS => ?_)
    refine lv_aload_n hx hb dX6_keep_128 rfl (lv_at hl 1 rfl) ?_
    refine lv_dup hx hb dX6_keep_129 rfl ?_
    refine x_get (ci := 6) (C := RX6) (T := TX6) (M := 29) (v := .int (x 0 5)) hx hb hts in_X6_keep_6 hown hG hP 0 rfl rfl 5 (by decide) (List.mem_of_getElem? (i := 1) rfl) rfl rfl dX6_keep_130 ?_
    refine lv_iconst (v := 1) hx hb dX6_keep_133 (by decide) ?_
    refine lv_iadd hx hb dX6_keep_134 ?_
    refine x_put (w := wM cI a) (σ := sx (sx (sx (sx x 4 (nI q).toNatClampNeg its) 5 (nI q).toNatClampNeg f1) 6 (nI q).toNatClampNeg f2) 7 (nI q).toNatClampNeg mi) (ci := 6) (C := RX6) (T := TX6) (M := 29) hx hb hts in_X6_keep_6 tyX6 tyX6_ok nmX6 hown hG hP hS 0 rfl rfl 5 (by decide) (List.mem_of_getElem? (i := 1) rfl) rfl rfl rfl (Nat.le_of_ble_eq_true rfl) (wM_pt0_5 cI a _ _) dX6_keep_135 (fun H locs hP hS => ?_)
    refine lv_iload hx hb dX6_keep_138 (lv_at hl 0 rfl) ?_
    exact x_iret hx hb hr hlk hsz hP hS rfl (by rw [r_X6_keep, ← ex]) (by rw [s_X6_keep, ← ex]) dX6_keep_140
  have loop_6 : ∀ (k : Nat) (x : Sg) (_ : k ≤ n) (_ : dw_X6_keep mi k x = dw_X6_keep mi n σ) (H : Heap) (locs : List Loc) (ls : Array Slot) (_ : va_P D vwCl (wM cI a x) H) (_ : va_S (AX 24 a sz) s.heap H locs) (_ : lv_has ls 6 [(5, .int (nI k)), (0, .ref (a 0)), (1, .int its), (2, .int f1), (3, .int f2), (4, .int mi)]), W p l e (headSpec wsX6_keep ({ frames := 0, cells := 0, slots := 0, locals := 0 } : Room)).room s m ([.ref (a 0), .int its, .int f1, .int f2, .int mi] : List Value).toArray below meth c H locs 0 0 (MQ below (QiW D 24 a (wM cI a) sz (r_X6_keep σ its f1 f2 mi n) (s_X6_keep σ its f1 f2 mi n)) ([.ref (a 0), .int its, .int f1, .int f2, .int mi] : List Value).toArray s 0 0 (AX 24 a sz)) (F0 m 6 ls []) := by
    intro k
    induction k with
    | zero =>
      intro x hk ex H locs ls hP hS hl
      refine lv_iload hx hb dX6_keep_6 (lv_at hl 0 rfl) ?_
      refine lv_if_le (tgt := 95) hx hb dX6_keep_8 (by decide) (fun _ => ?_) (fun h => absurd (show nI 0 ≤ 0 by decide) h)
      exact tail_95 0 x (by omega) (by rw [← ex]; rfl) H locs ls hP hS (lv_sub hl [0, 1, 2, 3, 4, 5] rfl)
    | succ k ih =>
      intro x hk ex H locs ls hP hS hl
      refine lv_iload hx hb dX6_keep_6 (lv_at hl 0 rfl) ?_
      refine lv_if_le (tgt := 95) hx hb dX6_keep_8 (by decide) (fun h => absurd h (nI_nle (Nat.succ_pos _) (by omega))) (fun _ => ?_)
      refine lv_aload_n hx hb dX6_keep_11 rfl (lv_at hl 1 rfl) ?_
      refine x_get (ci := 6) (C := RX6) (T := TX6) (M := 29) (v := .ref (a 7)) hx hb hts in_X6_keep_6 hown hG hP 0 rfl rfl 9 (by decide) (List.mem_of_getElem? (i := 2) rfl) rfl rfl dX6_keep_12 ?_
      refine lv_iload hx hb dX6_keep_15 (lv_at hl 0 rfl) ?_
      refine lv_iconst (v := 1) hx hb dX6_keep_17 (by decide) ?_
      refine lv_isub hx hb dX6_keep_18 ?_
      refine x_iald (f := x 7) hx hb hG hP 7 rfl (by rw [nI_pred]; exact vp_in_nI (by omega) (by decide)) dX6_keep_19 ?_
      refine lv_iload hx hb dX6_keep_20 (lv_at hl 5 rfl) ?_
      refine lv_icmp_le (tgt := 95) hx hb dX6_keep_22 (by decide) (fun h_1 => ?_) (fun h_1 => ?_)
      · exact tail_95 (k + 1) x (by omega) (by rw [← ex, dw_X6_keep, if_pos h_1]) H locs ls hP hS (lv_sub hl [0, 1, 2, 3, 4, 5] rfl)
      · refine lv_aload_n hx hb dX6_keep_25 rfl (lv_at hl 1 rfl) ?_
        refine x_get (ci := 6) (C := RX6) (T := TX6) (M := 29) (v := .ref (a 4)) hx hb hts in_X6_keep_6 hown hG hP 0 rfl rfl 6 (by decide) (List.mem_of_getElem? (i := 3) rfl) rfl rfl dX6_keep_26 ?_
        refine lv_iload hx hb dX6_keep_29 (lv_at hl 0 rfl) ?_
        refine lv_aload_n hx hb dX6_keep_31 rfl (lv_at hl 1 rfl) ?_
        refine x_get (ci := 6) (C := RX6) (T := TX6) (M := 29) (v := .ref (a 4)) hx hb hts in_X6_keep_6 hown hG hP 0 rfl rfl 6 (by decide) (List.mem_of_getElem? (i := 3) rfl) rfl rfl dX6_keep_32 ?_
        refine lv_iload hx hb dX6_keep_35 (lv_at hl 0 rfl) ?_
        refine lv_iconst (v := 1) hx hb dX6_keep_37 (by decide) ?_
        refine lv_isub hx hb dX6_keep_38 ?_
        refine x_iald (f := x 4) hx hb hG hP 4 rfl (by rw [nI_pred]; exact vp_in_nI (by omega) (by decide)) dX6_keep_39 ?_
        refine x_iast (w := wM cI a) (σ := x) hx hb hG hP hS 4 rfl (wM_st4 cI a _ _ _) (vp_in_nI (by omega) (by decide)) dX6_keep_40 (fun H locs hP hS => ?_)
        refine lv_aload_n hx hb dX6_keep_41 rfl (lv_at hl 1 rfl) ?_
        refine x_get (ci := 6) (C := RX6) (T := TX6) (M := 29) (v := .ref (a 5)) hx hb hts in_X6_keep_6 hown hG hP 0 rfl rfl 7 (by decide) (List.mem_of_getElem? (i := 4) rfl) rfl rfl dX6_keep_42 ?_
        refine lv_iload hx hb dX6_keep_45 (lv_at hl 0 rfl) ?_
        refine lv_aload_n hx hb dX6_keep_47 rfl (lv_at hl 1 rfl) ?_
        refine x_get (ci := 6) (C := RX6) (T := TX6) (M := 29) (v := .ref (a 5)) hx hb hts in_X6_keep_6 hown hG hP 0 rfl rfl 7 (by decide) (List.mem_of_getElem? (i := 4) rfl) rfl rfl dX6_keep_48 ?_
        refine lv_iload hx hb dX6_keep_51 (lv_at hl 0 rfl) ?_
        refine lv_iconst (v := 1) hx hb dX6_keep_53 (by decide) ?_
        refine lv_isub hx hb dX6_keep_54 ?_
        refine x_iald (f := x 5) hx hb hG hP 5 rfl (by rw [nI_pred]; exact vp_in_nI (by omega) (by decide)) dX6_keep_55 ?_
        refine x_iast (w := wM cI a) (σ := sx x 4 (nI (k + 1)).toNatClampNeg (x 4 ((nI (k + 1)) - 1).toNatClampNeg)) hx hb hG hP hS 5 rfl (wM_st5 cI a _ _ _) (vp_in_nI (by omega) (by decide)) dX6_keep_56 (fun H locs hP hS => ?_)
        refine lv_aload_n hx hb dX6_keep_57 rfl (lv_at hl 1 rfl) ?_
        refine x_get (ci := 6) (C := RX6) (T := TX6) (M := 29) (v := .ref (a 6)) hx hb hts in_X6_keep_6 hown hG hP 0 rfl rfl 8 (by decide) (List.mem_of_getElem? (i := 5) rfl) rfl rfl dX6_keep_58 ?_
        refine lv_iload hx hb dX6_keep_61 (lv_at hl 0 rfl) ?_
        refine lv_aload_n hx hb dX6_keep_63 rfl (lv_at hl 1 rfl) ?_
        refine x_get (ci := 6) (C := RX6) (T := TX6) (M := 29) (v := .ref (a 6)) hx hb hts in_X6_keep_6 hown hG hP 0 rfl rfl 8 (by decide) (List.mem_of_getElem? (i := 5) rfl) rfl rfl dX6_keep_64 ?_
        refine lv_iload hx hb dX6_keep_67 (lv_at hl 0 rfl) ?_
        refine lv_iconst (v := 1) hx hb dX6_keep_69 (by decide) ?_
        refine lv_isub hx hb dX6_keep_70 ?_
        refine x_iald (f := x 6) hx hb hG hP 6 rfl (by rw [nI_pred]; exact vp_in_nI (by omega) (by decide)) dX6_keep_71 ?_
        refine x_iast (w := wM cI a) (σ := sx (sx x 4 (nI (k + 1)).toNatClampNeg (x 4 ((nI (k + 1)) - 1).toNatClampNeg)) 5 (nI (k + 1)).toNatClampNeg (x 5 ((nI (k + 1)) - 1).toNatClampNeg)) hx hb hG hP hS 6 rfl (wM_st6 cI a _ _ _) (vp_in_nI (by omega) (by decide)) dX6_keep_72 (fun H locs hP hS => ?_)
        refine lv_aload_n hx hb dX6_keep_73 rfl (lv_at hl 1 rfl) ?_
        refine x_get (ci := 6) (C := RX6) (T := TX6) (M := 29) (v := .ref (a 7)) hx hb hts in_X6_keep_6 hown hG hP 0 rfl rfl 9 (by decide) (List.mem_of_getElem? (i := 2) rfl) rfl rfl dX6_keep_74 ?_
        refine lv_iload hx hb dX6_keep_77 (lv_at hl 0 rfl) ?_
        refine lv_aload_n hx hb dX6_keep_79 rfl (lv_at hl 1 rfl) ?_
        refine x_get (ci := 6) (C := RX6) (T := TX6) (M := 29) (v := .ref (a 7)) hx hb hts in_X6_keep_6 hown hG hP 0 rfl rfl 9 (by decide) (List.mem_of_getElem? (i := 2) rfl) rfl rfl dX6_keep_80 ?_
        refine lv_iload hx hb dX6_keep_83 (lv_at hl 0 rfl) ?_
        refine lv_iconst (v := 1) hx hb dX6_keep_85 (by decide) ?_
        refine lv_isub hx hb dX6_keep_86 ?_
        refine x_iald (f := x 7) hx hb hG hP 7 rfl (by rw [nI_pred]; exact vp_in_nI (by omega) (by decide)) dX6_keep_87 ?_
        refine x_iast (w := wM cI a) (σ := sx (sx (sx x 4 (nI (k + 1)).toNatClampNeg (x 4 ((nI (k + 1)) - 1).toNatClampNeg)) 5 (nI (k + 1)).toNatClampNeg (x 5 ((nI (k + 1)) - 1).toNatClampNeg)) 6 (nI (k + 1)).toNatClampNeg (x 6 ((nI (k + 1)) - 1).toNatClampNeg)) hx hb hG hP hS 7 rfl (wM_st7 cI a _ _ _) (vp_in_nI (by omega) (by decide)) dX6_keep_88 (fun H locs hP hS => ?_)
        refine lv_iinc (v := nI k) (lv' := [(5, .int (nI k)), (0, .ref (a 0)), (1, .int its), (2, .int f1), (3, .int f2), (4, .int mi)]) hx hb dX6_keep_89 hl (k := 0) rfl (pk_m1 k) (by decide) rfl (fun ls hl => ?_)
        refine lv_goto (tgt := 6) hx hb dX6_keep_92 (by decide) ?_
        exact ih (sx (sx (sx (sx x 4 (nI (k + 1)).toNatClampNeg (x 4 ((nI (k + 1)) - 1).toNatClampNeg)) 5 (nI (k + 1)).toNatClampNeg (x 5 ((nI (k + 1)) - 1).toNatClampNeg)) 6 (nI (k + 1)).toNatClampNeg (x 6 ((nI (k + 1)) - 1).toNatClampNeg)) 7 (nI (k + 1)).toNatClampNeg (x 7 ((nI (k + 1)) - 1).toNatClampNeg)) (by omega) (by rw [← ex, dw_X6_keep, if_neg h_1]) H locs ls hP hS (lv_sub hl [0, 1, 2, 3, 4, 5] rfl)
  exact loop_6 (n) σ (Nat.le_refl _) rfl _ _ _ hP hS (by rw [hcn] at hl; exact lv_sub hl [0, 1, 2, 3, 4, 5] rfl)
theorem in_X6_wasHeard_6 : ∀ wd ∈ u_ws RX6 TX6 29, wd ∈ wsX6_wasHeard := by decide +kernel
def st_X6_wasHeard_6 (σ : Sg) (its f1 f2 mi : Int32) (i : Nat) (x6 : Int32) : Int32 :=
  if x6 = 0 then
    if σ 4 (nI i).toNatClampNeg = its then
      if σ 5 (nI i).toNatClampNeg = f1 then
        if σ 6 (nI i).toNatClampNeg = f2 then
          if σ 7 (nI i).toNatClampNeg = mi then
            1
          else
            0
        else
          0
      else
        0
    else
      0
  else
    1
def r_X6_wasHeard (σ : Sg) (its : Int32) (f1 : Int32) (f2 : Int32) (mi : Int32) (n : Nat) : Int32 :=
  (itn (st_X6_wasHeard_6 σ its f1 f2 mi) n 0)
theorem bk_X6_wasHeard (σ : Sg) (its f1 f2 mi : Int32) : ∀ i : Nat, itn (st_X6_wasHeard_6 σ its f1 f2 mi) i 0 = 0 ∨ itn (st_X6_wasHeard_6 σ its f1 f2 mi) i 0 = 1 := by
  intro i
  induction i with
  | zero => exact Or.inl rfl
  | succ i ih =>
    show st_X6_wasHeard_6 σ its f1 f2 mi i (itn (st_X6_wasHeard_6 σ its f1 f2 mi) i 0) = 0 ∨ st_X6_wasHeard_6 σ its f1 f2 mi i (itn (st_X6_wasHeard_6 σ its f1 f2 mi) i 0) = 1
    unfold st_X6_wasHeard_6
    repeat' split
    all_goals first | exact Or.inl rfl | exact Or.inr rfl
theorem b_X6_wasHeard (σ : Sg) (its : Int32) (f1 : Int32) (f2 : Int32) (mi : Int32) (n : Nat) : r_X6_wasHeard σ its f1 f2 mi n = 0 ∨ r_X6_wasHeard σ its f1 f2 mi n = 1 := by
  unfold r_X6_wasHeard
  repeat' split
  all_goals first | with_reducible exact Or.inl rfl | with_reducible exact Or.inr rfl | exact bk_X6_wasHeard σ its f1 f2 mi _
set_option maxHeartbeats 4000000 in
set_option maxRecDepth 100000 in
theorem c_X6_wasHeard (l : Launch) (D : va_G) (cI : ClassId) (a : Nat → Nat) (sz : Nat) (σ : Sg) (its : Int32) (f1 : Int32) (f2 : Int32) (mi : Int32) (n : Nat) (hn : n ≤ 300) (hcn : σ 0 5 = nI n) : Met l yX6_wasHeard wsX6_wasHeard ({ frames := 0, cells := 0, slots := 0, locals := 0 }) (PcW D cI 24 a (wM cI a) sz σ [.ref (a 0), .int its, .int f1, .int f2, .int mi]) (QiW D 24 a (wM cI a) sz (r_X6_wasHeard σ its f1 f2 mi n) σ) 0 0 (AX 24 a sz) := by
  refine x_of (cc := cX6_wasHeard) (maxL := 7) (ret := some .boolean) (C := RX6) rfl (by decide) rfl (Nat.le_of_ble_eq_true rfl) (fun p e s m below meth c hx hb hr hml hlk hts hown hsz H hP hS hG ls hl => ?_)
  have hl : lv_has ls 7 [(0, .ref (a 0)), (1, .int its), (2, .int f1), (3, .int f2), (4, .int mi)] := hl
  refine lv_iconst (v := 0) hx hb dX6_wasHeard_0 (by decide) ?_
  refine lv_istore (lv' := [(5, .int 0), (0, .ref (a 0)), (1, .int its), (2, .int f1), (3, .int f2), (4, .int mi)]) hx hb dX6_wasHeard_1 hl (by decide) rfl (fun ls hl => ?_)
  refine lv_iconst (v := 0) hx hb dX6_wasHeard_3 (by decide) ?_
  refine lv_istore (lv' := [(6, .int 0), (5, .int 0), (0, .ref (a 0)), (1, .int its), (2, .int f1), (3, .int f2), (4, .int mi)]) hx hb dX6_wasHeard_4 hl (by decide) rfl (fun ls hl => ?_)
  have loop_6 : ∀ (rem i : Nat) (_ : i + rem = n) (x6 : Int32) (_ : x6 = itn (st_X6_wasHeard_6 σ its f1 f2 mi) i 0) (H : Heap) (locs : List Loc) (ls : Array Slot) (_ : va_P D vwCl (wM cI a σ) H) (_ : va_S (AX 24 a sz) s.heap H locs) (_ : lv_has ls 7 [(6, .int (nI i)), (5, .int x6), (0, .ref (a 0)), (1, .int its), (2, .int f1), (3, .int f2), (4, .int mi)]), W p l e (headSpec wsX6_wasHeard ({ frames := 0, cells := 0, slots := 0, locals := 0 } : Room)).room s m ([.ref (a 0), .int its, .int f1, .int f2, .int mi] : List Value).toArray below meth c H locs 0 0 (MQ below (QiW D 24 a (wM cI a) sz (r_X6_wasHeard σ its f1 f2 mi n) σ) ([.ref (a 0), .int its, .int f1, .int f2, .int mi] : List Value).toArray s 0 0 (AX 24 a sz)) (F0 m 6 ls []) := by
    intro rem
    induction rem with
    | zero =>
      intro i hi x6 ex6 H locs ls hP hS hl
      obtain rfl : n = i := by omega
      refine lv_iload hx hb dX6_wasHeard_6 (lv_at hl 0 rfl) ?_
      refine lv_aload_n hx hb dX6_wasHeard_8 rfl (lv_at hl 2 rfl) ?_
      refine x_get (ci := 6) (C := RX6) (T := TX6) (M := 29) (v := .int (σ 0 5)) hx hb hts in_X6_wasHeard_6 hown hG hP 0 rfl rfl 5 (by decide) (List.mem_of_getElem? (i := 1) rfl) rfl rfl dX6_wasHeard_9 ?_
      refine lv_icmp_ge (tgt := 78) hx hb dX6_wasHeard_12 (by decide) (fun _ => ?_) (fun h => absurd (show σ 0 5 ≤ nI n by rw [hcn]; exact nI_le (Nat.le_refl _) (by omega)) h)
      refine lv_iload hx hb dX6_wasHeard_78 (lv_at hl 1 rfl) ?_
      exact x_iret hx hb hr hlk hsz hP hS (nb01 (by rw [ex6]; exact bk_X6_wasHeard σ its f1 f2 mi _)) (by rw [r_X6_wasHeard, ← ex6]) rfl dX6_wasHeard_80
    | succ rem ih =>
      intro i hi x6 ex6 H locs ls hP hS hl
      refine lv_iload hx hb dX6_wasHeard_6 (lv_at hl 0 rfl) ?_
      refine lv_aload_n hx hb dX6_wasHeard_8 rfl (lv_at hl 2 rfl) ?_
      refine x_get (ci := 6) (C := RX6) (T := TX6) (M := 29) (v := .int (σ 0 5)) hx hb hts in_X6_wasHeard_6 hown hG hP 0 rfl rfl 5 (by decide) (List.mem_of_getElem? (i := 1) rfl) rfl rfl dX6_wasHeard_9 ?_
      refine lv_icmp_ge (tgt := 78) hx hb dX6_wasHeard_12 (by decide) (fun h => absurd h (show ¬ σ 0 5 ≤ nI i by rw [hcn]; exact nI_ge (by omega) (by omega))) (fun _ => ?_)
      refine lv_iload hx hb dX6_wasHeard_15 (lv_at hl 1 rfl) ?_
      refine lv_if_ne (tgt := 65) hx hb dX6_wasHeard_17 (by decide) (fun h_1 => ?_) (fun h_1 => ?_)
      · refine lv_iconst (v := 1) hx hb dX6_wasHeard_65 (by decide) ?_
        refine lv_goto (tgt := 70) hx hb dX6_wasHeard_66 (by decide) ?_
        refine lv_istore (lv' := [(5, .int 1), (6, .int (nI i)), (0, .ref (a 0)), (1, .int its), (2, .int f1), (3, .int f2), (4, .int mi)]) hx hb dX6_wasHeard_70 hl (by decide) rfl (fun ls hl => ?_)
        refine lv_iinc (v := nI (i + 1)) (lv' := [(6, .int (nI (i + 1))), (5, .int 1), (0, .ref (a 0)), (1, .int its), (2, .int f1), (3, .int f2), (4, .int mi)]) hx hb dX6_wasHeard_72 hl (k := 1) rfl (by rw [nI_succ]; rfl) (by decide) rfl (fun ls hl => ?_)
        refine lv_goto (tgt := 6) hx hb dX6_wasHeard_75 (by decide) ?_
        exact ih (i + 1) (by omega) 1 (by rw [itn, ← ex6]; rw [st_X6_wasHeard_6, if_neg h_1]) H locs ls hP hS (lv_sub hl [0, 1, 2, 3, 4, 5, 6] rfl)
      · refine lv_aload_n hx hb dX6_wasHeard_20 rfl (lv_at hl 2 rfl) ?_
        refine x_get (ci := 6) (C := RX6) (T := TX6) (M := 29) (v := .ref (a 4)) hx hb hts in_X6_wasHeard_6 hown hG hP 0 rfl rfl 6 (by decide) (List.mem_of_getElem? (i := 2) rfl) rfl rfl dX6_wasHeard_21 ?_
        refine lv_iload hx hb dX6_wasHeard_24 (lv_at hl 0 rfl) ?_
        refine x_iald (f := σ 4) hx hb hG hP 4 rfl (vp_in_nI (by omega) (by decide)) dX6_wasHeard_26 ?_
        refine lv_iload_n hx hb dX6_wasHeard_27 rfl (lv_at hl 3 rfl) ?_
        refine lv_icmp_ne (tgt := 69) hx hb dX6_wasHeard_28 (by decide) (fun h_2 => ?_) (fun h_2 => ?_)
        · refine lv_iconst (v := 0) hx hb dX6_wasHeard_69 (by decide) ?_
          refine lv_istore (lv' := [(5, .int 0), (6, .int (nI i)), (0, .ref (a 0)), (1, .int its), (2, .int f1), (3, .int f2), (4, .int mi)]) hx hb dX6_wasHeard_70 hl (by decide) rfl (fun ls hl => ?_)
          refine lv_iinc (v := nI (i + 1)) (lv' := [(6, .int (nI (i + 1))), (5, .int 0), (0, .ref (a 0)), (1, .int its), (2, .int f1), (3, .int f2), (4, .int mi)]) hx hb dX6_wasHeard_72 hl (k := 1) rfl (by rw [nI_succ]; rfl) (by decide) rfl (fun ls hl => ?_)
          refine lv_goto (tgt := 6) hx hb dX6_wasHeard_75 (by decide) ?_
          exact ih (i + 1) (by omega) 0 (by rw [itn, ← ex6]; rw [st_X6_wasHeard_6, if_pos h_1, if_neg h_2]) H locs ls hP hS (lv_sub hl [0, 1, 2, 3, 4, 5, 6] rfl)
        · refine lv_aload_n hx hb dX6_wasHeard_31 rfl (lv_at hl 2 rfl) ?_
          refine x_get (ci := 6) (C := RX6) (T := TX6) (M := 29) (v := .ref (a 5)) hx hb hts in_X6_wasHeard_6 hown hG hP 0 rfl rfl 7 (by decide) (List.mem_of_getElem? (i := 3) rfl) rfl rfl dX6_wasHeard_32 ?_
          refine lv_iload hx hb dX6_wasHeard_35 (lv_at hl 0 rfl) ?_
          refine x_iald (f := σ 5) hx hb hG hP 5 rfl (vp_in_nI (by omega) (by decide)) dX6_wasHeard_37 ?_
          refine lv_iload_n hx hb dX6_wasHeard_38 rfl (lv_at hl 4 rfl) ?_
          refine lv_icmp_ne (tgt := 69) hx hb dX6_wasHeard_39 (by decide) (fun h_3 => ?_) (fun h_3 => ?_)
          · refine lv_iconst (v := 0) hx hb dX6_wasHeard_69 (by decide) ?_
            refine lv_istore (lv' := [(5, .int 0), (6, .int (nI i)), (0, .ref (a 0)), (1, .int its), (2, .int f1), (3, .int f2), (4, .int mi)]) hx hb dX6_wasHeard_70 hl (by decide) rfl (fun ls hl => ?_)
            refine lv_iinc (v := nI (i + 1)) (lv' := [(6, .int (nI (i + 1))), (5, .int 0), (0, .ref (a 0)), (1, .int its), (2, .int f1), (3, .int f2), (4, .int mi)]) hx hb dX6_wasHeard_72 hl (k := 1) rfl (by rw [nI_succ]; rfl) (by decide) rfl (fun ls hl => ?_)
            refine lv_goto (tgt := 6) hx hb dX6_wasHeard_75 (by decide) ?_
            exact ih (i + 1) (by omega) 0 (by rw [itn, ← ex6]; rw [st_X6_wasHeard_6, if_pos h_1, if_pos h_2, if_neg h_3]) H locs ls hP hS (lv_sub hl [0, 1, 2, 3, 4, 5, 6] rfl)
          · refine lv_aload_n hx hb dX6_wasHeard_42 rfl (lv_at hl 2 rfl) ?_
            refine x_get (ci := 6) (C := RX6) (T := TX6) (M := 29) (v := .ref (a 6)) hx hb hts in_X6_wasHeard_6 hown hG hP 0 rfl rfl 8 (by decide) (List.mem_of_getElem? (i := 4) rfl) rfl rfl dX6_wasHeard_43 ?_
            refine lv_iload hx hb dX6_wasHeard_46 (lv_at hl 0 rfl) ?_
            refine x_iald (f := σ 6) hx hb hG hP 6 rfl (vp_in_nI (by omega) (by decide)) dX6_wasHeard_48 ?_
            refine lv_iload_n hx hb dX6_wasHeard_49 rfl (lv_at hl 5 rfl) ?_
            refine lv_icmp_ne (tgt := 69) hx hb dX6_wasHeard_50 (by decide) (fun h_4 => ?_) (fun h_4 => ?_)
            · refine lv_iconst (v := 0) hx hb dX6_wasHeard_69 (by decide) ?_
              refine lv_istore (lv' := [(5, .int 0), (6, .int (nI i)), (0, .ref (a 0)), (1, .int its), (2, .int f1), (3, .int f2), (4, .int mi)]) hx hb dX6_wasHeard_70 hl (by decide) rfl (fun ls hl => ?_)
              refine lv_iinc (v := nI (i + 1)) (lv' := [(6, .int (nI (i + 1))), (5, .int 0), (0, .ref (a 0)), (1, .int its), (2, .int f1), (3, .int f2), (4, .int mi)]) hx hb dX6_wasHeard_72 hl (k := 1) rfl (by rw [nI_succ]; rfl) (by decide) rfl (fun ls hl => ?_)
              refine lv_goto (tgt := 6) hx hb dX6_wasHeard_75 (by decide) ?_
              exact ih (i + 1) (by omega) 0 (by rw [itn, ← ex6]; rw [st_X6_wasHeard_6, if_pos h_1, if_pos h_2, if_pos h_3, if_neg h_4]) H locs ls hP hS (lv_sub hl [0, 1, 2, 3, 4, 5, 6] rfl)
            · refine lv_aload_n hx hb dX6_wasHeard_53 rfl (lv_at hl 2 rfl) ?_
              refine x_get (ci := 6) (C := RX6) (T := TX6) (M := 29) (v := .ref (a 7)) hx hb hts in_X6_wasHeard_6 hown hG hP 0 rfl rfl 9 (by decide) (List.mem_of_getElem? (i := 5) rfl) rfl rfl dX6_wasHeard_54 ?_
              refine lv_iload hx hb dX6_wasHeard_57 (lv_at hl 0 rfl) ?_
              refine x_iald (f := σ 7) hx hb hG hP 7 rfl (vp_in_nI (by omega) (by decide)) dX6_wasHeard_59 ?_
              refine lv_iload hx hb dX6_wasHeard_60 (lv_at hl 6 rfl) ?_
              refine lv_icmp_ne (tgt := 69) hx hb dX6_wasHeard_62 (by decide) (fun h_5 => ?_) (fun h_5 => ?_)
              · refine lv_iconst (v := 0) hx hb dX6_wasHeard_69 (by decide) ?_
                refine lv_istore (lv' := [(5, .int 0), (6, .int (nI i)), (0, .ref (a 0)), (1, .int its), (2, .int f1), (3, .int f2), (4, .int mi)]) hx hb dX6_wasHeard_70 hl (by decide) rfl (fun ls hl => ?_)
                refine lv_iinc (v := nI (i + 1)) (lv' := [(6, .int (nI (i + 1))), (5, .int 0), (0, .ref (a 0)), (1, .int its), (2, .int f1), (3, .int f2), (4, .int mi)]) hx hb dX6_wasHeard_72 hl (k := 1) rfl (by rw [nI_succ]; rfl) (by decide) rfl (fun ls hl => ?_)
                refine lv_goto (tgt := 6) hx hb dX6_wasHeard_75 (by decide) ?_
                exact ih (i + 1) (by omega) 0 (by rw [itn, ← ex6]; rw [st_X6_wasHeard_6, if_pos h_1, if_pos h_2, if_pos h_3, if_pos h_4, if_neg h_5]) H locs ls hP hS (lv_sub hl [0, 1, 2, 3, 4, 5, 6] rfl)
              · refine lv_iconst (v := 1) hx hb dX6_wasHeard_65 (by decide) ?_
                refine lv_goto (tgt := 70) hx hb dX6_wasHeard_66 (by decide) ?_
                refine lv_istore (lv' := [(5, .int 1), (6, .int (nI i)), (0, .ref (a 0)), (1, .int its), (2, .int f1), (3, .int f2), (4, .int mi)]) hx hb dX6_wasHeard_70 hl (by decide) rfl (fun ls hl => ?_)
                refine lv_iinc (v := nI (i + 1)) (lv' := [(6, .int (nI (i + 1))), (5, .int 1), (0, .ref (a 0)), (1, .int its), (2, .int f1), (3, .int f2), (4, .int mi)]) hx hb dX6_wasHeard_72 hl (k := 1) rfl (by rw [nI_succ]; rfl) (by decide) rfl (fun ls hl => ?_)
                refine lv_goto (tgt := 6) hx hb dX6_wasHeard_75 (by decide) ?_
                exact ih (i + 1) (by omega) 1 (by rw [itn, ← ex6]; rw [st_X6_wasHeard_6, if_pos h_1, if_pos h_2, if_pos h_3, if_pos h_4, if_pos h_5]) H locs ls hP hS (lv_sub hl [0, 1, 2, 3, 4, 5, 6] rfl)
  exact loop_6 (n) 0 (Nat.zero_add _) 0 (itn0 _ _) _ _ _ hP hS (lv_sub hl [0, 1, 2, 3, 4, 5, 6] rfl)
def r_X6_hear (σ : Sg) (its : Int32) (f1 : Int32) (f2 : Int32) (mi : Int32) (n : Nat) : Int32 :=
  if r_X6_wasHeard σ its f1 f2 mi n = 0 then
    1
  else
    0
def s_X6_hear (σ : Sg) (its : Int32) (f1 : Int32) (f2 : Int32) (mi : Int32) (n : Nat) : Sg :=
  if r_X6_wasHeard σ its f1 f2 mi n = 0 then
    s_X6_keep σ its f1 f2 mi n
  else
    σ
theorem b_X6_hear (σ : Sg) (its : Int32) (f1 : Int32) (f2 : Int32) (mi : Int32) (n : Nat) : r_X6_hear σ its f1 f2 mi n = 0 ∨ r_X6_hear σ its f1 f2 mi n = 1 := by
  unfold r_X6_hear
  repeat' split
  all_goals first | with_reducible exact Or.inl rfl | with_reducible exact Or.inr rfl
set_option maxHeartbeats 4000000 in
set_option maxRecDepth 100000 in
theorem c_X6_hear (l : Launch) (D : va_G) (cI : ClassId) (a : Nat → Nat) (sz : Nat) (σ : Sg) (its : Int32) (f1 : Int32) (f2 : Int32) (mi : Int32) (n : Nat) (hn : n < 300) (hcn : σ 0 5 = nI n) : Met l yX6_hear wsX6_hear ({ frames := 1, cells := 0, slots := 0, locals := 26 }) (PcW D cI 24 a (wM cI a) sz σ [.ref (a 0), .int its, .int f1, .int f2, .int mi]) (QiW D 24 a (wM cI a) sz (r_X6_hear σ its f1 f2 mi n) (s_X6_hear σ its f1 f2 mi n)) 0 0 (AX 24 a sz) := by
  refine x_of (cc := cX6_hear) (maxL := 5) (ret := some .boolean) (C := RX6) rfl (by decide) rfl (Nat.le_of_ble_eq_true rfl) (fun p e s m below meth c hx hb hr hml hlk hts hown hsz H hP hS hG ls hl => ?_)
  have hl : lv_has ls 5 [(0, .ref (a 0)), (1, .int its), (2, .int f1), (3, .int f2), (4, .int mi)] := hl
  refine lv_aload_n hx hb dX6_hear_0 rfl (lv_at hl 0 rfl) ?_
  refine lv_iload_n hx hb dX6_hear_1 rfl (lv_at hl 1 rfl) ?_
  refine lv_iload_n hx hb dX6_hear_2 rfl (lv_at hl 2 rfl) ?_
  refine lv_iload_n hx hb dX6_hear_3 rfl (lv_at hl 3 rfl) ?_
  refine lv_iload hx hb dX6_hear_4 (lv_at hl 4 rfl) ?_
  refine x_callVi (w := wM cI a) (σ := σ) (σ' := σ) (As := [.int its, .int f1, .int f2, .int mi]) (rest := []) (q0 := 0) ⟨hx, hb, hml, hown, hts⟩ hG hP hS hsz (c_X6_wasHeard l D cI a H.size σ its f1 f2 mi n (by omega) hcn) (cwV 4 hts gX6_hear_X6_wasHeard rfl rfl rfl (by decide +kernel) ⟨Nat.le_of_ble_eq_true rfl, Nat.le_of_ble_eq_true rfl⟩) rfl rfl rfl rfl hl.1 rfl (Nat.le_of_ble_eq_true rfl) ⟨Nat.zero_le _, Nat.zero_le _⟩ dX6_hear_6 (fun H locs hP hS => ?_)
  refine lv_if_eq (tgt := 14) hx hb dX6_hear_9 (by decide) (fun h_1 => ?_) (fun h_1 => ?_)
  · refine lv_aload_n hx hb dX6_hear_14 rfl (lv_at hl 0 rfl) ?_
    refine lv_iload_n hx hb dX6_hear_15 rfl (lv_at hl 1 rfl) ?_
    refine lv_iload_n hx hb dX6_hear_16 rfl (lv_at hl 2 rfl) ?_
    refine lv_iload_n hx hb dX6_hear_17 rfl (lv_at hl 3 rfl) ?_
    refine lv_iload hx hb dX6_hear_18 (lv_at hl 4 rfl) ?_
    refine x_callVi (w := wM cI a) (σ := σ) (σ' := s_X6_keep σ its f1 f2 mi n) (As := [.int its, .int f1, .int f2, .int mi]) (rest := []) (q0 := 0) ⟨hx, hb, hml, hown, hts⟩ hG hP hS hsz (c_X6_keep l D cI a H.size σ its f1 f2 mi n hn hcn) (cwV 4 hts gX6_hear_X6_keep rfl rfl rfl (by decide +kernel) ⟨Nat.le_of_ble_eq_true rfl, Nat.le_of_ble_eq_true rfl⟩) rfl rfl rfl rfl hl.1 rfl (Nat.le_of_ble_eq_true rfl) ⟨Nat.zero_le _, Nat.zero_le _⟩ dX6_hear_20 (fun H locs hP hS => ?_)
    refine lv_pop hx hb dX6_hear_23 rfl ?_
    refine lv_iconst (v := 1) hx hb dX6_hear_24 (by decide) ?_
    exact x_iret hx hb hr hlk hsz hP hS rfl (by rw [r_X6_hear, if_pos h_1]) (by rw [s_X6_hear, if_pos h_1]) dX6_hear_25
  · refine lv_iconst (v := 0) hx hb dX6_hear_12 (by decide) ?_
    exact x_iret hx hb hr hlk hsz hP hS rfl (by rw [r_X6_hear, if_neg h_1]) (by rw [s_X6_hear, if_neg h_1]) dX6_hear_13
theorem in_X6_does_6 : ∀ wd ∈ u_ws RX6 TX6 29, wd ∈ wsX6_does := by decide +kernel
def r_X6_does (σ : Sg) (ix : Int32) : Int32 :=
  if σ 4 ix.toNatClampNeg = 0 then
    1
  else
    if σ 4 ix.toNatClampNeg = 1 then
      r_X6_putCycle σ (σ 5 ix.toNatClampNeg) (σ 6 ix.toNatClampNeg)
    else
      if σ 4 ix.toNatClampNeg = 2 then
        r_X6_takeCycle σ (σ 5 ix.toNatClampNeg)
      else
        if σ 4 ix.toNatClampNeg = 3 then
          r_X6_unlock σ (σ 5 ix.toNatClampNeg) (σ 6 ix.toNatClampNeg) (σ 7 ix.toNatClampNeg)
        else
          if σ 4 ix.toNatClampNeg = 4 then
            r_X6_lock σ (σ 5 ix.toNatClampNeg) (σ 6 ix.toNatClampNeg) (σ 7 ix.toNatClampNeg)
          else
            if σ 4 ix.toNatClampNeg = 5 then
              1
            else
              if σ 4 ix.toNatClampNeg = 6 then
                if σ 11 (σ 5 ix.toNatClampNeg).toNatClampNeg = 2 then
                  0
                else
                  1
              else
                if σ 4 ix.toNatClampNeg = 7 then
                  1
                else
                  r_X6_promisePlace σ (σ 5 ix.toNatClampNeg) (σ 6 ix.toNatClampNeg) (σ 7 ix.toNatClampNeg)
def s_X6_does (σ : Sg) (ix : Int32) : Sg :=
  if σ 4 ix.toNatClampNeg = 0 then
    sx σ 8 (σ 5 ix.toNatClampNeg).toNatClampNeg (σ 6 ix.toNatClampNeg)
  else
    if σ 4 ix.toNatClampNeg = 1 then
      s_X6_putCycle σ (σ 5 ix.toNatClampNeg) (σ 6 ix.toNatClampNeg)
    else
      if σ 4 ix.toNatClampNeg = 2 then
        s_X6_takeCycle σ (σ 5 ix.toNatClampNeg)
      else
        if σ 4 ix.toNatClampNeg = 3 then
          s_X6_unlock σ (σ 5 ix.toNatClampNeg) (σ 6 ix.toNatClampNeg) (σ 7 ix.toNatClampNeg)
        else
          if σ 4 ix.toNatClampNeg = 4 then
            s_X6_lock σ (σ 5 ix.toNatClampNeg) (σ 6 ix.toNatClampNeg) (σ 7 ix.toNatClampNeg)
          else
            if σ 4 ix.toNatClampNeg = 5 then
              sx σ 13 (σ 5 ix.toNatClampNeg).toNatClampNeg ((σ 13 (σ 5 ix.toNatClampNeg).toNatClampNeg) ||| (1 <<< ((σ 6 ix.toNatClampNeg) &&& 31)))
            else
              if σ 4 ix.toNatClampNeg = 6 then
                if σ 11 (σ 5 ix.toNatClampNeg).toNatClampNeg = 2 then
                  sx σ 13 (σ 5 ix.toNatClampNeg).toNatClampNeg (σ 13 (σ 5 ix.toNatClampNeg).toNatClampNeg)
                else
                  sx σ 13 (σ 5 ix.toNatClampNeg).toNatClampNeg 0
              else
                if σ 4 ix.toNatClampNeg = 7 then
                  sx σ 0 26 (σ 5 ix.toNatClampNeg)
                else
                  s_X6_promisePlace σ (σ 5 ix.toNatClampNeg) (σ 6 ix.toNatClampNeg) (σ 7 ix.toNatClampNeg)
theorem b_X6_does (σ : Sg) (ix : Int32) : r_X6_does σ ix = 0 ∨ r_X6_does σ ix = 1 := by
  unfold r_X6_does
  repeat' split
  all_goals first | with_reducible exact Or.inl rfl | with_reducible exact Or.inr rfl | with_reducible exact b_X6_putCycle _ _ _ | with_reducible exact b_X6_takeCycle _ _ | with_reducible exact b_X6_unlock _ _ _ _ | with_reducible exact b_X6_lock _ _ _ _ | with_reducible exact b_X6_promisePlace _ _ _ _
set_option maxHeartbeats 4000000 in
set_option maxRecDepth 100000 in
theorem c_X6_does (l : Launch) (D : va_G) (cI : ClassId) (a : Nat → Nat) (sz : Nat) (σ : Sg) (ix : Int32) (hix : vp_in ix 300) (ht : hT (σ 4 ix.toNatClampNeg) (σ 5 ix.toNatClampNeg) (σ 6 ix.toNatClampNeg)) (hw : hM σ) : Met l yX6_does wsX6_does ({ frames := 3, cells := 0, slots := 0, locals := 74 }) (PcW D cI 24 a (wM cI a) sz σ [.ref (a 0), .int ix]) (QiW D 24 a (wM cI a) sz (r_X6_does σ ix) (s_X6_does σ ix)) 0 0 (AX 24 a sz) := by
  refine x_of (cc := cX6_does) (maxL := 4) (ret := some .boolean) (C := RX6) rfl (by decide) rfl (Nat.le_of_ble_eq_true rfl) (fun p e s m below meth c hx hb hr hml hlk hts hown hsz H hP hS hG ls hl => ?_)
  have hl : lv_has ls 4 [(0, .ref (a 0)), (1, .int ix)] := hl
  refine lv_aload_n hx hb dX6_does_0 rfl (lv_at hl 0 rfl) ?_
  refine x_get (ci := 6) (C := RX6) (T := TX6) (M := 29) (v := .ref (a 5)) hx hb hts in_X6_does_6 hown hG hP 0 rfl rfl 7 (by decide) (List.mem_of_getElem? (i := 1) rfl) rfl rfl dX6_does_1 ?_
  refine lv_iload_n hx hb dX6_does_4 rfl (lv_at hl 1 rfl) ?_
  refine x_iald (f := σ 5) hx hb hG hP 5 rfl (by assumption) dX6_does_5 ?_
  refine lv_istore_n (lv' := [(2, .int (σ 5 ix.toNatClampNeg)), (0, .ref (a 0)), (1, .int ix)]) hx hb dX6_does_6 rfl hl (by decide) rfl (fun ls hl => ?_)
  refine lv_aload_n hx hb dX6_does_7 rfl (lv_at hl 1 rfl) ?_
  refine x_get (ci := 6) (C := RX6) (T := TX6) (M := 29) (v := .ref (a 6)) hx hb hts in_X6_does_6 hown hG hP 0 rfl rfl 8 (by decide) (List.mem_of_getElem? (i := 2) rfl) rfl rfl dX6_does_8 ?_
  refine lv_iload_n hx hb dX6_does_11 rfl (lv_at hl 2 rfl) ?_
  refine x_iald (f := σ 6) hx hb hG hP 6 rfl (by assumption) dX6_does_12 ?_
  refine lv_istore_n (lv' := [(3, .int (σ 6 ix.toNatClampNeg)), (2, .int (σ 5 ix.toNatClampNeg)), (0, .ref (a 0)), (1, .int ix)]) hx hb dX6_does_13 rfl hl (by decide) rfl (fun ls hl => ?_)
  refine lv_aload_n hx hb dX6_does_14 rfl (lv_at hl 2 rfl) ?_
  refine x_get (ci := 6) (C := RX6) (T := TX6) (M := 29) (v := .ref (a 4)) hx hb hts in_X6_does_6 hown hG hP 0 rfl rfl 6 (by decide) (List.mem_of_getElem? (i := 3) rfl) rfl rfl dX6_does_15 ?_
  refine lv_iload_n hx hb dX6_does_18 rfl (lv_at hl 3 rfl) ?_
  refine x_iald (f := σ 4) hx hb hG hP 4 rfl (by assumption) dX6_does_19 ?_
  by_cases h_1 : σ 4 ix.toNatClampNeg = 0
  · refine x_swin (off := 48) (tgt := 68) hx hb h_1 dX6_does_20 (by decide) (by decide) (by decide) (by decide) ?_
    refine lv_aload_n hx hb dX6_does_68 rfl (lv_at hl 2 rfl) ?_
    refine x_get (ci := 6) (C := RX6) (T := TX6) (M := 29) (v := .ref (a 8)) hx hb hts in_X6_does_6 hown hG hP 0 rfl rfl 10 (by decide) (List.mem_of_getElem? (i := 4) rfl) rfl rfl dX6_does_69 ?_
    refine lv_iload_n hx hb dX6_does_72 rfl (lv_at hl 1 rfl) ?_
    refine lv_iload_n hx hb dX6_does_73 rfl (lv_at hl 0 rfl) ?_
    refine x_iast (w := wM cI a) (σ := σ) hx hb hG hP hS 8 rfl (wM_st8 cI a _ _ _) (ht.1 h_1) dX6_does_74 (fun H locs hP hS => ?_)
    refine lv_iconst (v := 1) hx hb dX6_does_75 (by decide) ?_
    exact x_iret hx hb hr hlk hsz hP hS rfl (by rw [r_X6_does, if_pos h_1]) (by rw [s_X6_does, if_pos h_1]) dX6_does_76
  by_cases h_2 : σ 4 ix.toNatClampNeg = 1
  · refine x_swin (off := 57) (tgt := 77) hx hb h_2 dX6_does_20 (by decide) (by decide) (by decide) (by decide) ?_
    refine lv_aload_n hx hb dX6_does_77 rfl (lv_at hl 2 rfl) ?_
    refine lv_iload_n hx hb dX6_does_78 rfl (lv_at hl 1 rfl) ?_
    refine lv_iload_n hx hb dX6_does_79 rfl (lv_at hl 0 rfl) ?_
    refine x_callVi (w := wM cI a) (σ := σ) (σ' := s_X6_putCycle σ (σ 5 ix.toNatClampNeg) (σ 6 ix.toNatClampNeg)) (As := [.int (σ 5 ix.toNatClampNeg), .int (σ 6 ix.toNatClampNeg)]) (rest := []) (q0 := 0) ⟨hx, hb, hml, hown, hts⟩ hG hP hS hsz (c_X6_putCycle l D cI a H.size σ (σ 5 ix.toNatClampNeg) (σ 6 ix.toNatClampNeg) (ht.2.1 h_2).1 (ht.2.1 h_2).2) (cwV 2 hts gX6_does_X6_putCycle rfl rfl rfl (by decide +kernel) ⟨Nat.le_of_ble_eq_true rfl, Nat.le_of_ble_eq_true rfl⟩) rfl rfl rfl rfl hl.1 rfl (Nat.le_of_ble_eq_true rfl) ⟨Nat.zero_le _, Nat.zero_le _⟩ dX6_does_80 (fun H locs hP hS => ?_)
    exact x_iret hx hb hr hlk hsz hP hS (nb01 (b_X6_putCycle _ _ _)) (by rw [r_X6_does, if_pos h_2, if_neg h_1]) (by rw [s_X6_does, if_pos h_2, if_neg h_1]) dX6_does_83
  by_cases h_3 : σ 4 ix.toNatClampNeg = 2
  · refine x_swin (off := 64) (tgt := 84) hx hb h_3 dX6_does_20 (by decide) (by decide) (by decide) (by decide) ?_
    refine lv_aload_n hx hb dX6_does_84 rfl (lv_at hl 2 rfl) ?_
    refine lv_iload_n hx hb dX6_does_85 rfl (lv_at hl 1 rfl) ?_
    refine x_callVi (w := wM cI a) (σ := σ) (σ' := s_X6_takeCycle σ (σ 5 ix.toNatClampNeg)) (As := [.int (σ 5 ix.toNatClampNeg)]) (rest := []) (q0 := 0) ⟨hx, hb, hml, hown, hts⟩ hG hP hS hsz (c_X6_takeCycle l D cI a H.size σ (σ 5 ix.toNatClampNeg) (ht.2.2.1 h_3) (hw.1 _ (ht.2.2.1 h_3))) (cwV 1 hts gX6_does_X6_takeCycle rfl rfl rfl (by decide +kernel) ⟨Nat.le_of_ble_eq_true rfl, Nat.le_of_ble_eq_true rfl⟩) rfl rfl rfl rfl hl.1 rfl (Nat.le_of_ble_eq_true rfl) ⟨Nat.zero_le _, Nat.zero_le _⟩ dX6_does_86 (fun H locs hP hS => ?_)
    exact x_iret hx hb hr hlk hsz hP hS (nb01 (b_X6_takeCycle _ _)) (by rw [r_X6_does, if_pos h_3, if_neg h_1, if_neg h_2]) (by rw [s_X6_does, if_pos h_3, if_neg h_1, if_neg h_2]) dX6_does_89
  by_cases h_4 : σ 4 ix.toNatClampNeg = 3
  · refine x_swin (off := 70) (tgt := 90) hx hb h_4 dX6_does_20 (by decide) (by decide) (by decide) (by decide) ?_
    refine lv_aload_n hx hb dX6_does_90 rfl (lv_at hl 2 rfl) ?_
    refine lv_iload_n hx hb dX6_does_91 rfl (lv_at hl 1 rfl) ?_
    refine lv_iload_n hx hb dX6_does_92 rfl (lv_at hl 0 rfl) ?_
    refine lv_aload_n hx hb dX6_does_93 rfl (lv_at hl 2 rfl) ?_
    refine x_get (ci := 6) (C := RX6) (T := TX6) (M := 29) (v := .ref (a 7)) hx hb hts in_X6_does_6 hown hG hP 0 rfl rfl 9 (by decide) (List.mem_of_getElem? (i := 5) rfl) rfl rfl dX6_does_94 ?_
    refine lv_iload_n hx hb dX6_does_97 rfl (lv_at hl 3 rfl) ?_
    refine x_iald (f := σ 7) hx hb hG hP 7 rfl (by assumption) dX6_does_98 ?_
    refine x_callVi (w := wM cI a) (σ := σ) (σ' := s_X6_unlock σ (σ 5 ix.toNatClampNeg) (σ 6 ix.toNatClampNeg) (σ 7 ix.toNatClampNeg)) (As := [.int (σ 5 ix.toNatClampNeg), .int (σ 6 ix.toNatClampNeg), .int (σ 7 ix.toNatClampNeg)]) (rest := []) (q0 := 0) ⟨hx, hb, hml, hown, hts⟩ hG hP hS hsz (c_X6_unlock l D cI a H.size σ (σ 5 ix.toNatClampNeg) (σ 6 ix.toNatClampNeg) (σ 7 ix.toNatClampNeg) (ht.2.2.2.1 h_4).1 (ht.2.2.2.1 h_4).2 (hw.1 _ (ht.2.2.2.1 h_4).1) (hw.2 _ (ht.2.2.2.1 h_4).1)) (cwV 3 hts gX6_does_X6_unlock rfl rfl rfl (by decide +kernel) ⟨Nat.le_of_ble_eq_true rfl, Nat.le_of_ble_eq_true rfl⟩) rfl rfl rfl rfl hl.1 rfl (Nat.le_of_ble_eq_true rfl) ⟨Nat.zero_le _, Nat.zero_le _⟩ dX6_does_99 (fun H locs hP hS => ?_)
    exact x_iret hx hb hr hlk hsz hP hS (nb01 (b_X6_unlock _ _ _ _)) (by rw [r_X6_does, if_pos h_4, if_neg h_1, if_neg h_2, if_neg h_3]) (by rw [s_X6_does, if_pos h_4, if_neg h_1, if_neg h_2, if_neg h_3]) dX6_does_102
  by_cases h_5 : σ 4 ix.toNatClampNeg = 4
  · refine x_swin (off := 83) (tgt := 103) hx hb h_5 dX6_does_20 (by decide) (by decide) (by decide) (by decide) ?_
    refine lv_aload_n hx hb dX6_does_103 rfl (lv_at hl 2 rfl) ?_
    refine lv_iload_n hx hb dX6_does_104 rfl (lv_at hl 1 rfl) ?_
    refine lv_iload_n hx hb dX6_does_105 rfl (lv_at hl 0 rfl) ?_
    refine lv_aload_n hx hb dX6_does_106 rfl (lv_at hl 2 rfl) ?_
    refine x_get (ci := 6) (C := RX6) (T := TX6) (M := 29) (v := .ref (a 7)) hx hb hts in_X6_does_6 hown hG hP 0 rfl rfl 9 (by decide) (List.mem_of_getElem? (i := 5) rfl) rfl rfl dX6_does_107 ?_
    refine lv_iload_n hx hb dX6_does_110 rfl (lv_at hl 3 rfl) ?_
    refine x_iald (f := σ 7) hx hb hG hP 7 rfl (by assumption) dX6_does_111 ?_
    refine x_callVi (w := wM cI a) (σ := σ) (σ' := s_X6_lock σ (σ 5 ix.toNatClampNeg) (σ 6 ix.toNatClampNeg) (σ 7 ix.toNatClampNeg)) (As := [.int (σ 5 ix.toNatClampNeg), .int (σ 6 ix.toNatClampNeg), .int (σ 7 ix.toNatClampNeg)]) (rest := []) (q0 := 0) ⟨hx, hb, hml, hown, hts⟩ hG hP hS hsz (c_X6_lock l D cI a H.size σ (σ 5 ix.toNatClampNeg) (σ 6 ix.toNatClampNeg) (σ 7 ix.toNatClampNeg) (ht.2.2.2.2.1 h_5).1 (ht.2.2.2.2.1 h_5).2 (hw.2 _ (ht.2.2.2.2.1 h_5).1)) (cwV 3 hts gX6_does_X6_lock rfl rfl rfl (by decide +kernel) ⟨Nat.le_of_ble_eq_true rfl, Nat.le_of_ble_eq_true rfl⟩) rfl rfl rfl rfl hl.1 rfl (Nat.le_of_ble_eq_true rfl) ⟨Nat.zero_le _, Nat.zero_le _⟩ dX6_does_112 (fun H locs hP hS => ?_)
    exact x_iret hx hb hr hlk hsz hP hS (nb01 (b_X6_lock _ _ _ _)) (by rw [r_X6_does, if_pos h_5, if_neg h_1, if_neg h_2, if_neg h_3, if_neg h_4]) (by rw [s_X6_does, if_pos h_5, if_neg h_1, if_neg h_2, if_neg h_3, if_neg h_4]) dX6_does_115
  by_cases h_6 : σ 4 ix.toNatClampNeg = 5
  · refine x_swin (off := 96) (tgt := 116) hx hb h_6 dX6_does_20 (by decide) (by decide) (by decide) (by decide) ?_
    refine lv_aload_n hx hb dX6_does_116 rfl (lv_at hl 2 rfl) ?_
    refine x_get (ci := 6) (C := RX6) (T := TX6) (M := 29) (v := .ref (a 13)) hx hb hts in_X6_does_6 hown hG hP 0 rfl rfl 15 (by decide) (List.mem_of_getElem? (i := 6) rfl) rfl rfl dX6_does_117 ?_
    refine lv_iload_n hx hb dX6_does_120 rfl (lv_at hl 1 rfl) ?_
    refine lv_dup2_11 hx hb dX6_does_121 rfl rfl ?_
    refine x_iald (f := σ 13) hx hb hG hP 13 rfl (ht.2.2.2.2.2.1 h_6).1 dX6_does_122 ?_
    refine lv_iconst (v := 1) hx hb dX6_does_123 (by decide) ?_
    refine lv_iload_n hx hb dX6_does_124 rfl (lv_at hl 0 rfl) ?_
    refine lv_ishl hx hb dX6_does_125 ?_
    refine lv_ior hx hb dX6_does_126 ?_
    refine x_iast (w := wM cI a) (σ := σ) hx hb hG hP hS 13 rfl (wM_st13 cI a _ _ _) (ht.2.2.2.2.2.1 h_6).1 dX6_does_127 (fun H locs hP hS => ?_)
    refine lv_iconst (v := 1) hx hb dX6_does_128 (by decide) ?_
    exact x_iret hx hb hr hlk hsz hP hS rfl (by rw [r_X6_does, if_pos h_6, if_neg h_1, if_neg h_2, if_neg h_3, if_neg h_4, if_neg h_5]) (by rw [s_X6_does, if_pos h_6, if_neg h_1, if_neg h_2, if_neg h_3, if_neg h_4, if_neg h_5]) dX6_does_129
  by_cases h_7 : σ 4 ix.toNatClampNeg = 6
  · refine x_swin (off := 110) (tgt := 130) hx hb h_7 dX6_does_20 (by decide) (by decide) (by decide) (by decide) ?_
    refine lv_aload_n hx hb dX6_does_130 rfl (lv_at hl 2 rfl) ?_
    refine x_get (ci := 6) (C := RX6) (T := TX6) (M := 29) (v := .ref (a 13)) hx hb hts in_X6_does_6 hown hG hP 0 rfl rfl 15 (by decide) (List.mem_of_getElem? (i := 6) rfl) rfl rfl dX6_does_131 ?_
    refine lv_iload_n hx hb dX6_does_134 rfl (lv_at hl 1 rfl) ?_
    refine lv_aload_n hx hb dX6_does_135 rfl (lv_at hl 2 rfl) ?_
    refine x_get (ci := 6) (C := RX6) (T := TX6) (M := 29) (v := .ref (a 11)) hx hb hts in_X6_does_6 hown hG hP 0 rfl rfl 13 (by decide) (List.mem_of_getElem? (i := 7) rfl) rfl rfl dX6_does_136 ?_
    refine lv_iload_n hx hb dX6_does_139 rfl (lv_at hl 1 rfl) ?_
    refine x_iald (f := σ 11) hx hb hG hP 11 rfl (ht.2.2.2.2.2.2.1 h_7) dX6_does_140 ?_
    refine lv_iconst (v := 2) hx hb dX6_does_141 (by decide) ?_
    refine lv_icmp_ne (tgt := 154) hx hb dX6_does_142 (by decide) (fun h_8 => ?_) (fun h_8 => ?_)
    · refine lv_iconst (v := 0) hx hb dX6_does_154 (by decide) ?_
      refine x_iast (w := wM cI a) (σ := σ) hx hb hG hP hS 13 rfl (wM_st13 cI a _ _ _) (ht.2.2.2.2.2.2.1 h_7) dX6_does_155 (fun H locs hP hS => ?_)
      refine lv_aload_n hx hb dX6_does_156 rfl (lv_at hl 2 rfl) ?_
      refine x_get (ci := 6) (C := RX6) (T := TX6) (M := 29) (v := .ref (a 11)) hx hb hts in_X6_does_6 hown hG hP 0 rfl rfl 13 (by decide) (List.mem_of_getElem? (i := 7) rfl) rfl rfl dX6_does_157 ?_
      refine lv_iload_n hx hb dX6_does_160 rfl (lv_at hl 1 rfl) ?_
      refine x_iald (f := σ 11) hx hb hG hP 11 rfl (ht.2.2.2.2.2.2.1 h_7) dX6_does_161 ?_
      refine lv_iconst (v := 2) hx hb dX6_does_162 (by decide) ?_
      refine lv_icmp_eq (tgt := 170) hx hb dX6_does_163 (by decide) (fun h => absurd h h_8) (fun _ => ?_)
      refine lv_iconst (v := 1) hx hb dX6_does_166 (by decide) ?_
      refine lv_goto (tgt := 171) hx hb dX6_does_167 (by decide) ?_
      exact x_iret hx hb hr hlk hsz hP hS rfl (by rw [r_X6_does, if_pos h_7, if_neg h_1, if_neg h_2, if_neg h_3, if_neg h_4, if_neg h_5, if_neg h_6, if_neg h_8]) (by rw [s_X6_does, if_pos h_7, if_neg h_1, if_neg h_2, if_neg h_3, if_neg h_4, if_neg h_5, if_neg h_6, if_neg h_8]) dX6_does_171
    · refine lv_aload_n hx hb dX6_does_145 rfl (lv_at hl 2 rfl) ?_
      refine x_get (ci := 6) (C := RX6) (T := TX6) (M := 29) (v := .ref (a 13)) hx hb hts in_X6_does_6 hown hG hP 0 rfl rfl 15 (by decide) (List.mem_of_getElem? (i := 6) rfl) rfl rfl dX6_does_146 ?_
      refine lv_iload_n hx hb dX6_does_149 rfl (lv_at hl 1 rfl) ?_
      refine x_iald (f := σ 13) hx hb hG hP 13 rfl (ht.2.2.2.2.2.2.1 h_7) dX6_does_150 ?_
      refine lv_goto (tgt := 155) hx hb dX6_does_151 (by decide) ?_
      refine x_iast (w := wM cI a) (σ := σ) hx hb hG hP hS 13 rfl (wM_st13 cI a _ _ _) (ht.2.2.2.2.2.2.1 h_7) dX6_does_155 (fun H locs hP hS => ?_)
      refine lv_aload_n hx hb dX6_does_156 rfl (lv_at hl 2 rfl) ?_
      refine x_get (ci := 6) (C := RX6) (T := TX6) (M := 29) (v := .ref (a 11)) hx hb hts in_X6_does_6 hown hG hP 0 rfl rfl 13 (by decide) (List.mem_of_getElem? (i := 7) rfl) rfl rfl dX6_does_157 ?_
      refine lv_iload_n hx hb dX6_does_160 rfl (lv_at hl 1 rfl) ?_
      refine x_iald (f := σ 11) hx hb hG hP 11 rfl (ht.2.2.2.2.2.2.1 h_7) dX6_does_161 ?_
      refine lv_iconst (v := 2) hx hb dX6_does_162 (by decide) ?_
      refine lv_icmp_eq (tgt := 170) hx hb dX6_does_163 (by decide) (fun _ => ?_) (fun h => absurd h_8 h)
      refine lv_iconst (v := 0) hx hb dX6_does_170 (by decide) ?_
      exact x_iret hx hb hr hlk hsz hP hS rfl (by rw [r_X6_does, if_pos h_7, if_neg h_1, if_neg h_2, if_neg h_3, if_neg h_4, if_neg h_5, if_neg h_6, if_pos h_8]) (by rw [s_X6_does, if_pos h_7, if_neg h_1, if_neg h_2, if_neg h_3, if_neg h_4, if_neg h_5, if_neg h_6, if_pos h_8]) dX6_does_171
  by_cases h_9 : σ 4 ix.toNatClampNeg = 7
  · refine x_swin (off := 152) (tgt := 172) hx hb h_9 dX6_does_20 (by decide) (by decide) (by decide) (by decide) ?_
    refine lv_aload_n hx hb dX6_does_172 rfl (lv_at hl 2 rfl) ?_
    refine lv_iload_n hx hb dX6_does_173 rfl (lv_at hl 1 rfl) ?_
    refine x_put (w := wM cI a) (σ := σ) (ci := 6) (C := RX6) (T := TX6) (M := 29) hx hb hts in_X6_does_6 tyX6 tyX6_ok nmX6 hown hG hP hS 0 rfl rfl 26 (by decide) (List.mem_of_getElem? (i := 8) rfl) rfl rfl rfl (Nat.le_of_ble_eq_true rfl) (wM_pt0_26 cI a _ _) dX6_does_174 (fun H locs hP hS => ?_)
    refine lv_iconst (v := 1) hx hb dX6_does_177 (by decide) ?_
    exact x_iret hx hb hr hlk hsz hP hS rfl (by rw [r_X6_does, if_pos h_9, if_neg h_1, if_neg h_2, if_neg h_3, if_neg h_4, if_neg h_5, if_neg h_6, if_neg h_7]) (by rw [s_X6_does, if_pos h_9, if_neg h_1, if_neg h_2, if_neg h_3, if_neg h_4, if_neg h_5, if_neg h_6, if_neg h_7]) dX6_does_178
  refine lv_tableOut (tgt := 179) hx hb dX6_does_20 (by have e0 := sw_ne (z := 0) h_1 (by decide); have e1 := sw_ne (z := 1) h_2 (by decide); have e2 := sw_ne (z := 2) h_3 (by decide); have e3 := sw_ne (z := 3) h_4 (by decide); have e4 := sw_ne (z := 4) h_5 (by decide); have e5 := sw_ne (z := 5) h_6 (by decide); have e6 := sw_ne (z := 6) h_7 (by decide); have e7 := sw_ne (z := 7) h_9 (by decide); omega) (by decide) ?_
  refine lv_aload_n hx hb dX6_does_179 rfl (lv_at hl 2 rfl) ?_
  refine lv_iload_n hx hb dX6_does_180 rfl (lv_at hl 1 rfl) ?_
  refine lv_iload_n hx hb dX6_does_181 rfl (lv_at hl 0 rfl) ?_
  refine lv_aload_n hx hb dX6_does_182 rfl (lv_at hl 2 rfl) ?_
  refine x_get (ci := 6) (C := RX6) (T := TX6) (M := 29) (v := .ref (a 7)) hx hb hts in_X6_does_6 hown hG hP 0 rfl rfl 9 (by decide) (List.mem_of_getElem? (i := 5) rfl) rfl rfl dX6_does_183 ?_
  refine lv_iload_n hx hb dX6_does_186 rfl (lv_at hl 3 rfl) ?_
  refine x_iald (f := σ 7) hx hb hG hP 7 rfl (by assumption) dX6_does_187 ?_
  refine x_callVi (w := wM cI a) (σ := σ) (σ' := s_X6_promisePlace σ (σ 5 ix.toNatClampNeg) (σ 6 ix.toNatClampNeg) (σ 7 ix.toNatClampNeg)) (As := [.int (σ 5 ix.toNatClampNeg), .int (σ 6 ix.toNatClampNeg), .int (σ 7 ix.toNatClampNeg)]) (rest := []) (q0 := 0) ⟨hx, hb, hml, hown, hts⟩ hG hP hS hsz (c_X6_promisePlace l D cI a H.size σ (σ 5 ix.toNatClampNeg) (σ 6 ix.toNatClampNeg) (σ 7 ix.toNatClampNeg) (ht.2.2.2.2.2.2.2 h_1 h_2 h_3 h_4 h_5 h_6 h_7 h_9).1 (ht.2.2.2.2.2.2.2 h_1 h_2 h_3 h_4 h_5 h_6 h_7 h_9).2) (cwV 3 hts gX6_does_X6_promisePlace rfl rfl rfl (by decide +kernel) ⟨Nat.le_of_ble_eq_true rfl, Nat.le_of_ble_eq_true rfl⟩) rfl rfl rfl rfl hl.1 rfl (Nat.le_of_ble_eq_true rfl) ⟨Nat.zero_le _, Nat.zero_le _⟩ dX6_does_188 (fun H locs hP hS => ?_)
  exact x_iret hx hb hr hlk hsz hP hS (nb01 (b_X6_promisePlace _ _ _ _)) (by rw [r_X6_does, if_neg h_1, if_neg h_2, if_neg h_3, if_neg h_4, if_neg h_5, if_neg h_6, if_neg h_7, if_neg h_9]) (by rw [s_X6_does, if_neg h_1, if_neg h_2, if_neg h_3, if_neg h_4, if_neg h_5, if_neg h_6, if_neg h_7, if_neg h_9]) dX6_does_191
theorem in_X6_goThrough_6 : ∀ wd ∈ u_ws RX6 TX6 29, wd ∈ wsX6_goThrough := by decide +kernel
def st_X6_goThrough_91  (i : Nat) (x91 : Sg) : Sg :=
  if x91 11 (nI i).toNatClampNeg = 2 then
    (s_X6_ride x91 (nI i) (x91 0 1))
  else
    x91
def st_X6_goThrough_13 (σ : Sg) (i : Nat) : Sg × Int32 → Sg × Int32
  | (x13, x13_1) =>
    if r_X6_does (s_X6_stand x13 x13_1 (x13 7 (nI i).toNatClampNeg)) (nI i) = 0 then
      if nI i = (s_X6_begin σ) 0 28 then
        (sx (sx (s_X6_does (s_X6_stand x13 x13_1 (x13 7 (nI i).toNatClampNeg)) (nI i)) 0 27 (((s_X6_does (s_X6_stand x13 x13_1 (x13 7 (nI i).toNatClampNeg)) (nI i)) 0 27) + 1)) 0 28 (-1), (s_X6_stand x13 x13_1 (x13 7 (nI i).toNatClampNeg)) 7 (nI i).toNatClampNeg)
      else
        (sx (sx (s_X6_does (s_X6_stand x13 x13_1 (x13 7 (nI i).toNatClampNeg)) (nI i)) 0 27 (((s_X6_does (s_X6_stand x13 x13_1 (x13 7 (nI i).toNatClampNeg)) (nI i)) 0 27) + 1)) 0 28 ((sx (s_X6_does (s_X6_stand x13 x13_1 (x13 7 (nI i).toNatClampNeg)) (nI i)) 0 27 (((s_X6_does (s_X6_stand x13 x13_1 (x13 7 (nI i).toNatClampNeg)) (nI i)) 0 27) + 1)) 0 28), (s_X6_stand x13 x13_1 (x13 7 (nI i).toNatClampNeg)) 7 (nI i).toNatClampNeg)
    else
      (s_X6_does (s_X6_stand x13 x13_1 (x13 7 (nI i).toNatClampNeg)) (nI i), (s_X6_stand x13 x13_1 (x13 7 (nI i).toNatClampNeg)) 7 (nI i).toNatClampNeg)
def s_X6_goThrough (σ : Sg) (n : Nat) : Sg :=
  (itn (st_X6_goThrough_91) 30 (s_X6_stand (itn (st_X6_goThrough_13 σ) n (s_X6_begin σ, 0)).1 (itn (st_X6_goThrough_13 σ) n (s_X6_begin σ, 0)).2 ((itn (st_X6_goThrough_13 σ) n (s_X6_begin σ, 0)).1 0 1)))
/-- what going through the thing at a place needs -/
def okM (σ : Sg) (ix : Int32) : Prop := hT (σ 4 ix.toNatClampNeg) (σ 5 ix.toNatClampNeg) (σ 6 ix.toNatClampNeg) ∧ hM σ
/-- what going through needs -/
def gOK (σ : Sg) (n : Nat) : Prop := (∀ i, i ≤ n → (itn (st_X6_goThrough_13 σ) i (s_X6_begin σ, 0)).1 0 5 = nI n) ∧ (∀ i, i < n → okM (s_X6_stand (itn (st_X6_goThrough_13 σ) i (s_X6_begin σ, 0)).1 (itn (st_X6_goThrough_13 σ) i (s_X6_begin σ, 0)).2 ((itn (st_X6_goThrough_13 σ) i (s_X6_begin σ, 0)).1 7 (nI i).toNatClampNeg)) (nI i)) ∧ (∀ i, i < 30 → (itn st_X6_goThrough_91 i (s_X6_stand (itn (st_X6_goThrough_13 σ) n (s_X6_begin σ, 0)).1 (itn (st_X6_goThrough_13 σ) n (s_X6_begin σ, 0)).2 ((itn (st_X6_goThrough_13 σ) n (s_X6_begin σ, 0)).1 0 1))) 11 (nI i).toNatClampNeg = 2 → vp_in ((itn st_X6_goThrough_91 i (s_X6_stand (itn (st_X6_goThrough_13 σ) n (s_X6_begin σ, 0)).1 (itn (st_X6_goThrough_13 σ) n (s_X6_begin σ, 0)).2 ((itn (st_X6_goThrough_13 σ) n (s_X6_begin σ, 0)).1 0 1))) 12 (nI i).toNatClampNeg) 10)
set_option maxHeartbeats 4000000 in
set_option maxRecDepth 100000 in
theorem c_X6_goThrough (l : Launch) (D : va_G) (cI : ClassId) (a : Nat → Nat) (sz : Nat) (σ : Sg) (n : Nat) (hn : n ≤ 300) (hg : gOK σ n) : Met l yX6_goThrough wsX6_goThrough ({ frames := 4, cells := 0, slots := 0, locals := 97 }) (PcW D cI 24 a (wM cI a) sz σ [.ref (a 0)]) (QvW D 24 a (wM cI a) sz (s_X6_goThrough σ n)) 0 0 (AX 24 a sz) := by
  refine x_of (cc := cX6_goThrough) (maxL := 4) (ret := none) (C := RX6) rfl (by decide) rfl (Nat.le_of_ble_eq_true rfl) (fun p e s m below meth c hx hb hr hml hlk hts hown hsz H hP hS hG ls hl => ?_)
  have hl : lv_has ls 4 [(0, .ref (a 0))] := hl
  refine lv_aload_n hx hb dX6_goThrough_0 rfl (lv_at hl 0 rfl) ?_
  refine x_callVv (w := wM cI a) (σ := σ) (σ' := s_X6_begin σ) (As := []) (rest := []) (q0 := 0) ⟨hx, hb, hml, hown, hts⟩ hG hP hS hsz (c_X6_begin l D cI a H.size σ ) (cwV 0 hts gX6_goThrough_X6_begin rfl rfl rfl (by decide +kernel) ⟨Nat.le_of_ble_eq_true rfl, Nat.le_of_ble_eq_true rfl⟩) rfl rfl rfl rfl hl.1 rfl (Nat.le_of_ble_eq_true rfl) ⟨Nat.zero_le _, Nat.zero_le _⟩ dX6_goThrough_1 (fun H locs hP hS => ?_)
  refine lv_iconst (v := 0) hx hb dX6_goThrough_4 (by decide) ?_
  refine lv_istore_n (lv' := [(1, .int 0), (0, .ref (a 0))]) hx hb dX6_goThrough_5 rfl hl (by decide) rfl (fun ls hl => ?_)
  refine lv_aload_n hx hb dX6_goThrough_6 rfl (lv_at hl 1 rfl) ?_
  refine x_get (ci := 6) (C := RX6) (T := TX6) (M := 29) (v := .int ((s_X6_begin σ) 0 28)) hx hb hts in_X6_goThrough_6 hown hG hP 0 rfl rfl 28 (by decide) (List.mem_of_getElem? (i := 1) rfl) rfl rfl dX6_goThrough_7 ?_
  refine lv_istore_n (lv' := [(2, .int ((s_X6_begin σ) 0 28)), (1, .int 0), (0, .ref (a 0))]) hx hb dX6_goThrough_10 rfl hl (by decide) rfl (fun ls hl => ?_)
  refine lv_iconst (v := 0) hx hb dX6_goThrough_11 (by decide) ?_
  refine lv_istore_n (lv' := [(3, .int 0), (2, .int ((s_X6_begin σ) 0 28)), (1, .int 0), (0, .ref (a 0))]) hx hb dX6_goThrough_12 rfl hl (by decide) rfl (fun ls hl => ?_)
  have loop_13 : ∀ (rem i : Nat) (_ : i + rem = n) (x13 : Sg) (x13_1 : Int32) (_ : (x13, x13_1) = itn (st_X6_goThrough_13 σ) i (s_X6_begin σ, 0)) (H : Heap) (locs : List Loc) (ls : Array Slot) (_ : va_P D vwCl (wM cI a x13) H) (_ : va_S (AX 24 a sz) s.heap H locs) (_ : lv_has ls 4 [(3, .int (nI i)), (1, .int x13_1), (2, .int ((s_X6_begin σ) 0 28)), (0, .ref (a 0))]), W p l e (headSpec wsX6_goThrough ({ frames := 4, cells := 0, slots := 0, locals := 97 } : Room)).room s m ([.ref (a 0)] : List Value).toArray below meth c H locs 0 0 (MQ below (QvW D 24 a (wM cI a) sz (s_X6_goThrough σ n)) ([.ref (a 0)] : List Value).toArray s 0 0 (AX 24 a sz)) (F0 m 13 ls []) := by
    intro rem
    induction rem with
    | zero =>
      intro i hi x13 x13_1 ex13 H locs ls hP hS hl
      obtain rfl : n = i := by omega
      refine lv_iload_n hx hb dX6_goThrough_13 rfl (lv_at hl 0 rfl) ?_
      refine lv_aload_n hx hb dX6_goThrough_14 rfl (lv_at hl 3 rfl) ?_
      refine x_get (ci := 6) (C := RX6) (T := TX6) (M := 29) (v := .int (x13 0 5)) hx hb hts in_X6_goThrough_6 hown hG hP 0 rfl rfl 5 (by decide) (List.mem_of_getElem? (i := 2) rfl) rfl rfl dX6_goThrough_15 ?_
      refine lv_icmp_ge (tgt := 80) hx hb dX6_goThrough_18 (by decide) (fun _ => ?_) (fun h => absurd (show x13 0 5 ≤ nI n by have e1 := congrArg Prod.fst ex13; have e2 := congrArg Prod.snd ex13; dsimp only at e1 e2; rw [e1, hg.1 n (Nat.le_refl _)]; exact nI_le (Nat.le_refl _) (by omega)) h)
      refine lv_aload_n hx hb dX6_goThrough_80 rfl (lv_at hl 3 rfl) ?_
      refine lv_iload_n hx hb dX6_goThrough_81 rfl (lv_at hl 1 rfl) ?_
      refine lv_aload_n hx hb dX6_goThrough_82 rfl (lv_at hl 3 rfl) ?_
      refine x_get (ci := 6) (C := RX6) (T := TX6) (M := 29) (v := .int (x13 0 1)) hx hb hts in_X6_goThrough_6 hown hG hP 0 rfl rfl 1 (by decide) (List.mem_of_getElem? (i := 5) rfl) rfl rfl dX6_goThrough_83 ?_
      refine x_callVv (w := wM cI a) (σ := x13) (σ' := s_X6_stand x13 x13_1 (x13 0 1)) (As := [.int x13_1, .int (x13 0 1)]) (rest := []) (q0 := 0) ⟨hx, hb, hml, hown, hts⟩ hG hP hS hsz (c_X6_stand l D cI a H.size x13 x13_1 (x13 0 1)) (cwV 2 hts gX6_goThrough_X6_stand rfl rfl rfl (by decide +kernel) ⟨Nat.le_of_ble_eq_true rfl, Nat.le_of_ble_eq_true rfl⟩) rfl rfl rfl rfl hl.1 rfl (Nat.le_of_ble_eq_true rfl) ⟨Nat.zero_le _, Nat.zero_le _⟩ dX6_goThrough_86 (fun H locs hP hS => ?_)
      refine lv_iconst (v := 0) hx hb dX6_goThrough_89 (by decide) ?_
      refine lv_istore_n (lv' := [(3, .int 0), (1, .int x13_1), (2, .int ((s_X6_begin σ) 0 28)), (0, .ref (a 0))]) hx hb dX6_goThrough_90 rfl hl (by decide) rfl (fun ls hl => ?_)
      have loop_91 : ∀ (rem i : Nat) (_ : i + rem = 30) (x91 : Sg) (_ : x91 = itn (st_X6_goThrough_91) i (s_X6_stand x13 x13_1 (x13 0 1))) (H : Heap) (locs : List Loc) (ls : Array Slot) (_ : va_P D vwCl (wM cI a x91) H) (_ : va_S (AX 24 a sz) s.heap H locs) (_ : lv_has ls 4 [(3, .int (nI i)), (1, .int x13_1), (2, .int ((s_X6_begin σ) 0 28)), (0, .ref (a 0))]), W p l e (headSpec wsX6_goThrough ({ frames := 4, cells := 0, slots := 0, locals := 97 } : Room)).room s m ([.ref (a 0)] : List Value).toArray below meth c H locs 0 0 (MQ below (QvW D 24 a (wM cI a) sz (s_X6_goThrough σ n)) ([.ref (a 0)] : List Value).toArray s 0 0 (AX 24 a sz)) (F0 m 91 ls []) := by
        intro rem
        induction rem with
        | zero =>
          intro i hi x91 ex91 H locs ls hP hS hl
          obtain rfl : 30 = i := by omega
          refine lv_iload_n hx hb dX6_goThrough_91 rfl (lv_at hl 0 rfl) ?_
          refine lv_bipush (v := 30) hx hb dX6_goThrough_92 (by decide) ?_
          refine lv_icmp_ge (tgt := 122) hx hb dX6_goThrough_94 (by decide) (fun _ => ?_) (fun h => absurd (show (30 : Int32) ≤ nI 30 by decide) h)
          exact x_vret hx hb hr hlk hsz hP hS (by rw [s_X6_goThrough, ← ex13, ← ex91]) dX6_goThrough_122
        | succ rem ih =>
          intro i hi x91 ex91 H locs ls hP hS hl
          refine lv_iload_n hx hb dX6_goThrough_91 rfl (lv_at hl 0 rfl) ?_
          refine lv_bipush (v := 30) hx hb dX6_goThrough_92 (by decide) ?_
          refine lv_icmp_ge (tgt := 122) hx hb dX6_goThrough_94 (by decide) (fun h => absurd h (nI_ge (a := i) (b := 30) (by omega) (by decide))) (fun _ => ?_)
          refine lv_aload_n hx hb dX6_goThrough_97 rfl (lv_at hl 3 rfl) ?_
          refine x_get (ci := 6) (C := RX6) (T := TX6) (M := 29) (v := .ref (a 11)) hx hb hts in_X6_goThrough_6 hown hG hP 0 rfl rfl 13 (by decide) (List.mem_of_getElem? (i := 6) rfl) rfl rfl dX6_goThrough_98 ?_
          refine lv_iload_n hx hb dX6_goThrough_101 rfl (lv_at hl 0 rfl) ?_
          refine x_iald (f := x91 11) hx hb hG hP 11 rfl (vp_in_nI (by omega) (by decide)) dX6_goThrough_102 ?_
          refine lv_iconst (v := 2) hx hb dX6_goThrough_103 (by decide) ?_
          refine lv_icmp_ne (tgt := 116) hx hb dX6_goThrough_104 (by decide) (fun h_1 => ?_) (fun h_1 => ?_)
          · refine lv_iinc (v := nI (i + 1)) (lv' := [(3, .int (nI (i + 1))), (1, .int x13_1), (2, .int ((s_X6_begin σ) 0 28)), (0, .ref (a 0))]) hx hb dX6_goThrough_116 hl (k := 0) rfl (by rw [nI_succ]; rfl) (by decide) rfl (fun ls hl => ?_)
            refine lv_goto (tgt := 91) hx hb dX6_goThrough_119 (by decide) ?_
            exact ih (i + 1) (by omega) x91 (by rw [itn, ← ex91]; rw [st_X6_goThrough_91, if_neg h_1]) H locs ls hP hS (lv_sub hl [0, 1, 2, 3] rfl)
          · refine lv_aload_n hx hb dX6_goThrough_107 rfl (lv_at hl 3 rfl) ?_
            refine lv_iload_n hx hb dX6_goThrough_108 rfl (lv_at hl 0 rfl) ?_
            refine lv_aload_n hx hb dX6_goThrough_109 rfl (lv_at hl 3 rfl) ?_
            refine x_get (ci := 6) (C := RX6) (T := TX6) (M := 29) (v := .int (x91 0 1)) hx hb hts in_X6_goThrough_6 hown hG hP 0 rfl rfl 1 (by decide) (List.mem_of_getElem? (i := 5) rfl) rfl rfl dX6_goThrough_110 ?_
            refine x_callVv (w := wM cI a) (σ := x91) (σ' := s_X6_ride x91 (nI i) (x91 0 1)) (As := [.int (nI i), .int (x91 0 1)]) (rest := []) (q0 := 0) ⟨hx, hb, hml, hown, hts⟩ hG hP hS hsz (c_X6_ride l D cI a H.size x91 (nI i) (x91 0 1) (vp_in_nI (by omega) (by decide)) (by have e1 := congrArg Prod.fst ex13; have e2 := congrArg Prod.snd ex13; dsimp only at e1 e2; rw [ex91, e1, e2]; exact hg.2.2 i (by omega) (by rw [← e1, ← e2, ← ex91]; exact h_1))) (cwV 2 hts gX6_goThrough_X6_ride rfl rfl rfl (by decide +kernel) ⟨Nat.le_of_ble_eq_true rfl, Nat.le_of_ble_eq_true rfl⟩) rfl rfl rfl rfl hl.1 rfl (Nat.le_of_ble_eq_true rfl) ⟨Nat.zero_le _, Nat.zero_le _⟩ dX6_goThrough_113 (fun H locs hP hS => ?_)
            refine lv_iinc (v := nI (i + 1)) (lv' := [(3, .int (nI (i + 1))), (1, .int x13_1), (2, .int ((s_X6_begin σ) 0 28)), (0, .ref (a 0))]) hx hb dX6_goThrough_116 hl (k := 0) rfl (by rw [nI_succ]; rfl) (by decide) rfl (fun ls hl => ?_)
            refine lv_goto (tgt := 91) hx hb dX6_goThrough_119 (by decide) ?_
            exact ih (i + 1) (by omega) (s_X6_ride x91 (nI i) (x91 0 1)) (by rw [itn, ← ex91]; rw [st_X6_goThrough_91, if_pos h_1]) H locs ls hP hS (lv_sub hl [0, 1, 2, 3] rfl)
      exact loop_91 (30) 0 (Nat.zero_add _) (s_X6_stand x13 x13_1 (x13 0 1)) (itn0 _ _) _ _ _ hP hS (lv_sub hl [0, 1, 2, 3] rfl)
    | succ rem ih =>
      intro i hi x13 x13_1 ex13 H locs ls hP hS hl
      refine lv_iload_n hx hb dX6_goThrough_13 rfl (lv_at hl 0 rfl) ?_
      refine lv_aload_n hx hb dX6_goThrough_14 rfl (lv_at hl 3 rfl) ?_
      refine x_get (ci := 6) (C := RX6) (T := TX6) (M := 29) (v := .int (x13 0 5)) hx hb hts in_X6_goThrough_6 hown hG hP 0 rfl rfl 5 (by decide) (List.mem_of_getElem? (i := 2) rfl) rfl rfl dX6_goThrough_15 ?_
      refine lv_icmp_ge (tgt := 80) hx hb dX6_goThrough_18 (by decide) (fun h => absurd h (show ¬ x13 0 5 ≤ nI i by have e1 := congrArg Prod.fst ex13; have e2 := congrArg Prod.snd ex13; dsimp only at e1 e2; rw [e1, hg.1 i (by omega)]; exact nI_ge (by omega) (by omega))) (fun _ => ?_)
      refine lv_aload_n hx hb dX6_goThrough_21 rfl (lv_at hl 3 rfl) ?_
      refine lv_iload_n hx hb dX6_goThrough_22 rfl (lv_at hl 1 rfl) ?_
      refine lv_aload_n hx hb dX6_goThrough_23 rfl (lv_at hl 3 rfl) ?_
      refine x_get (ci := 6) (C := RX6) (T := TX6) (M := 29) (v := .ref (a 7)) hx hb hts in_X6_goThrough_6 hown hG hP 0 rfl rfl 9 (by decide) (List.mem_of_getElem? (i := 3) rfl) rfl rfl dX6_goThrough_24 ?_
      refine lv_iload_n hx hb dX6_goThrough_27 rfl (lv_at hl 0 rfl) ?_
      refine x_iald (f := x13 7) hx hb hG hP 7 rfl (vp_in_nI (by omega) (by decide)) dX6_goThrough_28 ?_
      refine x_callVv (w := wM cI a) (σ := x13) (σ' := s_X6_stand x13 x13_1 (x13 7 (nI i).toNatClampNeg)) (As := [.int x13_1, .int (x13 7 (nI i).toNatClampNeg)]) (rest := []) (q0 := 0) ⟨hx, hb, hml, hown, hts⟩ hG hP hS hsz (c_X6_stand l D cI a H.size x13 x13_1 (x13 7 (nI i).toNatClampNeg)) (cwV 2 hts gX6_goThrough_X6_stand rfl rfl rfl (by decide +kernel) ⟨Nat.le_of_ble_eq_true rfl, Nat.le_of_ble_eq_true rfl⟩) rfl rfl rfl rfl hl.1 rfl (Nat.le_of_ble_eq_true rfl) ⟨Nat.zero_le _, Nat.zero_le _⟩ dX6_goThrough_29 (fun H locs hP hS => ?_)
      refine lv_aload_n hx hb dX6_goThrough_32 rfl (lv_at hl 3 rfl) ?_
      refine x_get (ci := 6) (C := RX6) (T := TX6) (M := 29) (v := .ref (a 7)) hx hb hts in_X6_goThrough_6 hown hG hP 0 rfl rfl 9 (by decide) (List.mem_of_getElem? (i := 3) rfl) rfl rfl dX6_goThrough_33 ?_
      refine lv_iload_n hx hb dX6_goThrough_36 rfl (lv_at hl 0 rfl) ?_
      refine x_iald (f := (s_X6_stand x13 x13_1 (x13 7 (nI i).toNatClampNeg)) 7) hx hb hG hP 7 rfl (vp_in_nI (by omega) (by decide)) dX6_goThrough_37 ?_
      refine lv_istore_n (lv' := [(1, .int ((s_X6_stand x13 x13_1 (x13 7 (nI i).toNatClampNeg)) 7 (nI i).toNatClampNeg)), (3, .int (nI i)), (2, .int ((s_X6_begin σ) 0 28)), (0, .ref (a 0))]) hx hb dX6_goThrough_38 rfl hl (by decide) rfl (fun ls hl => ?_)
      refine lv_aload_n hx hb dX6_goThrough_39 rfl (lv_at hl 3 rfl) ?_
      refine lv_iload_n hx hb dX6_goThrough_40 rfl (lv_at hl 1 rfl) ?_
      refine x_callVi (w := wM cI a) (σ := s_X6_stand x13 x13_1 (x13 7 (nI i).toNatClampNeg)) (σ' := s_X6_does (s_X6_stand x13 x13_1 (x13 7 (nI i).toNatClampNeg)) (nI i)) (As := [.int (nI i)]) (rest := []) (q0 := 0) ⟨hx, hb, hml, hown, hts⟩ hG hP hS hsz (c_X6_does l D cI a H.size (s_X6_stand x13 x13_1 (x13 7 (nI i).toNatClampNeg)) (nI i) (vp_in_nI (by omega) (by decide)) (by have e1 := congrArg Prod.fst ex13; have e2 := congrArg Prod.snd ex13; dsimp only at e1 e2; rw [e1, e2]; exact (hg.2.1 i (by omega)).1) (by have e1 := congrArg Prod.fst ex13; have e2 := congrArg Prod.snd ex13; dsimp only at e1 e2; rw [e1, e2]; exact (hg.2.1 i (by omega)).2)) (cwV 1 hts gX6_goThrough_X6_does rfl rfl rfl (by decide +kernel) ⟨Nat.le_of_ble_eq_true rfl, Nat.le_of_ble_eq_true rfl⟩) rfl rfl rfl rfl hl.1 rfl (Nat.le_of_ble_eq_true rfl) ⟨Nat.zero_le _, Nat.zero_le _⟩ dX6_goThrough_41 (fun H locs hP hS => ?_)
      refine lv_if_ne (tgt := 74) hx hb dX6_goThrough_44 (by decide) (fun h_2 => ?_) (fun h_2 => ?_)
      · refine lv_iinc (v := nI (i + 1)) (lv' := [(3, .int (nI (i + 1))), (1, .int ((s_X6_stand x13 x13_1 (x13 7 (nI i).toNatClampNeg)) 7 (nI i).toNatClampNeg)), (2, .int ((s_X6_begin σ) 0 28)), (0, .ref (a 0))]) hx hb dX6_goThrough_74 hl (k := 1) rfl (by rw [nI_succ]; rfl) (by decide) rfl (fun ls hl => ?_)
        refine lv_goto (tgt := 13) hx hb dX6_goThrough_77 (by decide) ?_
        exact ih (i + 1) (by omega) (s_X6_does (s_X6_stand x13 x13_1 (x13 7 (nI i).toNatClampNeg)) (nI i)) ((s_X6_stand x13 x13_1 (x13 7 (nI i).toNatClampNeg)) 7 (nI i).toNatClampNeg) (by rw [itn, ← ex13]; rw [st_X6_goThrough_13, if_neg h_2]) H locs ls hP hS (lv_sub hl [0, 1, 2, 3] rfl)
      · refine lv_aload_n hx hb dX6_goThrough_47 rfl (lv_at hl 3 rfl) ?_
        refine lv_dup hx hb dX6_goThrough_48 rfl ?_
        refine x_get (ci := 6) (C := RX6) (T := TX6) (M := 29) (v := .int ((s_X6_does (s_X6_stand x13 x13_1 (x13 7 (nI i).toNatClampNeg)) (nI i)) 0 27)) hx hb hts in_X6_goThrough_6 hown hG hP 0 rfl rfl 27 (by decide) (List.mem_of_getElem? (i := 4) rfl) rfl rfl dX6_goThrough_49 ?_
        refine lv_iconst (v := 1) hx hb dX6_goThrough_52 (by decide) ?_
        refine lv_iadd hx hb dX6_goThrough_53 ?_
        refine x_put (w := wM cI a) (σ := s_X6_does (s_X6_stand x13 x13_1 (x13 7 (nI i).toNatClampNeg)) (nI i)) (ci := 6) (C := RX6) (T := TX6) (M := 29) hx hb hts in_X6_goThrough_6 tyX6 tyX6_ok nmX6 hown hG hP hS 0 rfl rfl 27 (by decide) (List.mem_of_getElem? (i := 4) rfl) rfl rfl rfl (Nat.le_of_ble_eq_true rfl) (wM_pt0_27 cI a _ _) dX6_goThrough_54 (fun H locs hP hS => ?_)
        refine lv_aload_n hx hb dX6_goThrough_57 rfl (lv_at hl 3 rfl) ?_
        refine lv_iload_n hx hb dX6_goThrough_58 rfl (lv_at hl 1 rfl) ?_
        refine lv_iload_n hx hb dX6_goThrough_59 rfl (lv_at hl 2 rfl) ?_
        refine lv_icmp_ne (tgt := 67) hx hb dX6_goThrough_60 (by decide) (fun h_3 => ?_) (fun h_3 => ?_)
        · refine lv_aload_n hx hb dX6_goThrough_67 rfl (lv_at hl 3 rfl) ?_
          refine x_get (ci := 6) (C := RX6) (T := TX6) (M := 29) (v := .int ((sx (s_X6_does (s_X6_stand x13 x13_1 (x13 7 (nI i).toNatClampNeg)) (nI i)) 0 27 (((s_X6_does (s_X6_stand x13 x13_1 (x13 7 (nI i).toNatClampNeg)) (nI i)) 0 27) + 1)) 0 28)) hx hb hts in_X6_goThrough_6 hown hG hP 0 rfl rfl 28 (by decide) (List.mem_of_getElem? (i := 1) rfl) rfl rfl dX6_goThrough_68 ?_
          refine x_put (w := wM cI a) (σ := sx (s_X6_does (s_X6_stand x13 x13_1 (x13 7 (nI i).toNatClampNeg)) (nI i)) 0 27 (((s_X6_does (s_X6_stand x13 x13_1 (x13 7 (nI i).toNatClampNeg)) (nI i)) 0 27) + 1)) (ci := 6) (C := RX6) (T := TX6) (M := 29) hx hb hts in_X6_goThrough_6 tyX6 tyX6_ok nmX6 hown hG hP hS 0 rfl rfl 28 (by decide) (List.mem_of_getElem? (i := 1) rfl) rfl rfl rfl (Nat.le_of_ble_eq_true rfl) (wM_pt0_28 cI a _ _) dX6_goThrough_71 (fun H locs hP hS => ?_)
          refine lv_iinc (v := nI (i + 1)) (lv' := [(3, .int (nI (i + 1))), (1, .int ((s_X6_stand x13 x13_1 (x13 7 (nI i).toNatClampNeg)) 7 (nI i).toNatClampNeg)), (2, .int ((s_X6_begin σ) 0 28)), (0, .ref (a 0))]) hx hb dX6_goThrough_74 hl (k := 1) rfl (by rw [nI_succ]; rfl) (by decide) rfl (fun ls hl => ?_)
          refine lv_goto (tgt := 13) hx hb dX6_goThrough_77 (by decide) ?_
          exact ih (i + 1) (by omega) (sx (sx (s_X6_does (s_X6_stand x13 x13_1 (x13 7 (nI i).toNatClampNeg)) (nI i)) 0 27 (((s_X6_does (s_X6_stand x13 x13_1 (x13 7 (nI i).toNatClampNeg)) (nI i)) 0 27) + 1)) 0 28 ((sx (s_X6_does (s_X6_stand x13 x13_1 (x13 7 (nI i).toNatClampNeg)) (nI i)) 0 27 (((s_X6_does (s_X6_stand x13 x13_1 (x13 7 (nI i).toNatClampNeg)) (nI i)) 0 27) + 1)) 0 28)) ((s_X6_stand x13 x13_1 (x13 7 (nI i).toNatClampNeg)) 7 (nI i).toNatClampNeg) (by rw [itn, ← ex13]; rw [st_X6_goThrough_13, if_pos h_2, if_neg h_3]) H locs ls hP hS (lv_sub hl [0, 1, 2, 3] rfl)
        · refine lv_iconst (v := (-1)) hx hb dX6_goThrough_63 (by decide) ?_
          refine lv_goto (tgt := 71) hx hb dX6_goThrough_64 (by decide) ?_
          refine x_put (w := wM cI a) (σ := sx (s_X6_does (s_X6_stand x13 x13_1 (x13 7 (nI i).toNatClampNeg)) (nI i)) 0 27 (((s_X6_does (s_X6_stand x13 x13_1 (x13 7 (nI i).toNatClampNeg)) (nI i)) 0 27) + 1)) (ci := 6) (C := RX6) (T := TX6) (M := 29) hx hb hts in_X6_goThrough_6 tyX6 tyX6_ok nmX6 hown hG hP hS 0 rfl rfl 28 (by decide) (List.mem_of_getElem? (i := 1) rfl) rfl rfl rfl (Nat.le_of_ble_eq_true rfl) (wM_pt0_28 cI a _ _) dX6_goThrough_71 (fun H locs hP hS => ?_)
          refine lv_iinc (v := nI (i + 1)) (lv' := [(3, .int (nI (i + 1))), (1, .int ((s_X6_stand x13 x13_1 (x13 7 (nI i).toNatClampNeg)) 7 (nI i).toNatClampNeg)), (2, .int ((s_X6_begin σ) 0 28)), (0, .ref (a 0))]) hx hb dX6_goThrough_74 hl (k := 1) rfl (by rw [nI_succ]; rfl) (by decide) rfl (fun ls hl => ?_)
          refine lv_goto (tgt := 13) hx hb dX6_goThrough_77 (by decide) ?_
          exact ih (i + 1) (by omega) (sx (sx (s_X6_does (s_X6_stand x13 x13_1 (x13 7 (nI i).toNatClampNeg)) (nI i)) 0 27 (((s_X6_does (s_X6_stand x13 x13_1 (x13 7 (nI i).toNatClampNeg)) (nI i)) 0 27) + 1)) 0 28 (-1)) ((s_X6_stand x13 x13_1 (x13 7 (nI i).toNatClampNeg)) 7 (nI i).toNatClampNeg) (by rw [itn, ← ex13]; rw [st_X6_goThrough_13, if_pos h_2, if_pos h_3]) H locs ls hP hS (lv_sub hl [0, 1, 2, 3] rfl)
  exact loop_13 (n) 0 (Nat.zero_add _) (s_X6_begin σ) 0 (itn0 _ _) _ _ _ hP hS (lv_sub hl [0, 2, 1, 3] rfl)
theorem in_X6_tell_6 : ∀ wd ∈ u_ws RX6 TX6 29, wd ∈ wsX6_tell := by decide +kernel
def r_X6_tell (σ : Sg) (its : Int32) (f1 : Int32) (f2 : Int32) (n : Nat) : Int32 :=
  if (s_X6_goThrough (sx (s_X6_keep σ its f1 f2 (σ 0 1) n) 0 28 (r_X6_keep σ its f1 f2 (σ 0 1) n)) (n + 1)) 0 28 = (sx (s_X6_keep σ its f1 f2 (σ 0 1) n) 0 28 (r_X6_keep σ its f1 f2 (σ 0 1) n)) 0 28 then
    1
  else
    0
def s_X6_tell (σ : Sg) (its : Int32) (f1 : Int32) (f2 : Int32) (n : Nat) : Sg :=
  if (s_X6_goThrough (sx (s_X6_keep σ its f1 f2 (σ 0 1) n) 0 28 (r_X6_keep σ its f1 f2 (σ 0 1) n)) (n + 1)) 0 28 = (sx (s_X6_keep σ its f1 f2 (σ 0 1) n) 0 28 (r_X6_keep σ its f1 f2 (σ 0 1) n)) 0 28 then
    s_X6_goThrough (sx (s_X6_keep σ its f1 f2 (σ 0 1) n) 0 28 (r_X6_keep σ its f1 f2 (σ 0 1) n)) (n + 1)
  else
    s_X6_goThrough (sx (s_X6_keep σ its f1 f2 (σ 0 1) n) 0 28 (r_X6_keep σ its f1 f2 (σ 0 1) n)) (n + 1)
theorem b_X6_tell (σ : Sg) (its : Int32) (f1 : Int32) (f2 : Int32) (n : Nat) : r_X6_tell σ its f1 f2 n = 0 ∨ r_X6_tell σ its f1 f2 n = 1 := by
  unfold r_X6_tell
  repeat' split
  all_goals first | with_reducible exact Or.inl rfl | with_reducible exact Or.inr rfl
set_option maxHeartbeats 4000000 in
set_option maxRecDepth 100000 in
theorem c_X6_tell (l : Launch) (D : va_G) (cI : ClassId) (a : Nat → Nat) (sz : Nat) (σ : Sg) (its : Int32) (f1 : Int32) (f2 : Int32) (n : Nat) (hn : n < 300) (hcn : σ 0 5 = nI n) (hg : gOK (sx (s_X6_keep σ its f1 f2 (σ 0 1) n) 0 28 (r_X6_keep σ its f1 f2 (σ 0 1) n)) (n + 1)) : Met l yX6_tell wsX6_tell ({ frames := 5, cells := 0, slots := 0, locals := 120 }) (PcW D cI 24 a (wM cI a) sz σ [.ref (a 0), .int its, .int f1, .int f2]) (QiW D 24 a (wM cI a) sz (r_X6_tell σ its f1 f2 n) (s_X6_tell σ its f1 f2 n)) 0 0 (AX 24 a sz) := by
  refine x_of (cc := cX6_tell) (maxL := 5) (ret := some .boolean) (C := RX6) rfl (by decide) rfl (Nat.le_of_ble_eq_true rfl) (fun p e s m below meth c hx hb hr hml hlk hts hown hsz H hP hS hG ls hl => ?_)
  have hl : lv_has ls 5 [(0, .ref (a 0)), (1, .int its), (2, .int f1), (3, .int f2)] := hl
  refine lv_aload_n hx hb dX6_tell_0 rfl (lv_at hl 0 rfl) ?_
  refine lv_aload_n hx hb dX6_tell_1 rfl (lv_at hl 0 rfl) ?_
  refine lv_iload_n hx hb dX6_tell_2 rfl (lv_at hl 1 rfl) ?_
  refine lv_iload_n hx hb dX6_tell_3 rfl (lv_at hl 2 rfl) ?_
  refine lv_iload_n hx hb dX6_tell_4 rfl (lv_at hl 3 rfl) ?_
  refine lv_aload_n hx hb dX6_tell_5 rfl (lv_at hl 0 rfl) ?_
  refine x_get (ci := 6) (C := RX6) (T := TX6) (M := 29) (v := .int (σ 0 1)) hx hb hts in_X6_tell_6 hown hG hP 0 rfl rfl 1 (by decide) (List.mem_of_getElem? (i := 1) rfl) rfl rfl dX6_tell_6 ?_
  refine x_callVi (w := wM cI a) (σ := σ) (σ' := s_X6_keep σ its f1 f2 (σ 0 1) n) (As := [.int its, .int f1, .int f2, .int (σ 0 1)]) (rest := [.ref (a 0)]) (q0 := 0) ⟨hx, hb, hml, hown, hts⟩ hG hP hS hsz (c_X6_keep l D cI a H.size σ its f1 f2 (σ 0 1) n hn hcn) (cwV 4 hts gX6_tell_X6_keep rfl rfl rfl (by decide +kernel) ⟨Nat.le_of_ble_eq_true rfl, Nat.le_of_ble_eq_true rfl⟩) rfl rfl rfl rfl hl.1 rfl (Nat.le_of_ble_eq_true rfl) ⟨Nat.zero_le _, Nat.zero_le _⟩ dX6_tell_9 (fun H locs hP hS => ?_)
  refine x_put (w := wM cI a) (σ := s_X6_keep σ its f1 f2 (σ 0 1) n) (ci := 6) (C := RX6) (T := TX6) (M := 29) hx hb hts in_X6_tell_6 tyX6 tyX6_ok nmX6 hown hG hP hS 0 rfl rfl 28 (by decide) (List.mem_of_getElem? (i := 2) rfl) rfl rfl rfl (Nat.le_of_ble_eq_true rfl) (wM_pt0_28 cI a _ _) dX6_tell_12 (fun H locs hP hS => ?_)
  refine lv_aload_n hx hb dX6_tell_15 rfl (lv_at hl 0 rfl) ?_
  refine x_get (ci := 6) (C := RX6) (T := TX6) (M := 29) (v := .int ((sx (s_X6_keep σ its f1 f2 (σ 0 1) n) 0 28 (r_X6_keep σ its f1 f2 (σ 0 1) n)) 0 28)) hx hb hts in_X6_tell_6 hown hG hP 0 rfl rfl 28 (by decide) (List.mem_of_getElem? (i := 2) rfl) rfl rfl dX6_tell_16 ?_
  refine lv_istore (lv' := [(4, .int ((sx (s_X6_keep σ its f1 f2 (σ 0 1) n) 0 28 (r_X6_keep σ its f1 f2 (σ 0 1) n)) 0 28)), (0, .ref (a 0)), (1, .int its), (2, .int f1), (3, .int f2)]) hx hb dX6_tell_19 hl (by decide) rfl (fun ls hl => ?_)
  refine lv_aload_n hx hb dX6_tell_21 rfl (lv_at hl 1 rfl) ?_
  refine x_callVv (w := wM cI a) (σ := sx (s_X6_keep σ its f1 f2 (σ 0 1) n) 0 28 (r_X6_keep σ its f1 f2 (σ 0 1) n)) (σ' := s_X6_goThrough (sx (s_X6_keep σ its f1 f2 (σ 0 1) n) 0 28 (r_X6_keep σ its f1 f2 (σ 0 1) n)) (n + 1)) (As := []) (rest := []) (q0 := 0) ⟨hx, hb, hml, hown, hts⟩ hG hP hS hsz (c_X6_goThrough l D cI a H.size (sx (s_X6_keep σ its f1 f2 (σ 0 1) n) 0 28 (r_X6_keep σ its f1 f2 (σ 0 1) n))  (n + 1) (by omega) hg) (cwV 0 hts gX6_tell_X6_goThrough rfl rfl rfl (by decide +kernel) ⟨Nat.le_of_ble_eq_true rfl, Nat.le_of_ble_eq_true rfl⟩) rfl rfl rfl rfl hl.1 rfl (Nat.le_of_ble_eq_true rfl) ⟨Nat.zero_le _, Nat.zero_le _⟩ dX6_tell_22 (fun H locs hP hS => ?_)
  refine lv_aload_n hx hb dX6_tell_25 rfl (lv_at hl 1 rfl) ?_
  refine x_get (ci := 6) (C := RX6) (T := TX6) (M := 29) (v := .int ((s_X6_goThrough (sx (s_X6_keep σ its f1 f2 (σ 0 1) n) 0 28 (r_X6_keep σ its f1 f2 (σ 0 1) n)) (n + 1)) 0 28)) hx hb hts in_X6_tell_6 hown hG hP 0 rfl rfl 28 (by decide) (List.mem_of_getElem? (i := 2) rfl) rfl rfl dX6_tell_26 ?_
  refine lv_iload hx hb dX6_tell_29 (lv_at hl 0 rfl) ?_
  refine lv_icmp_ne (tgt := 38) hx hb dX6_tell_31 (by decide) (fun h_1 => ?_) (fun h_1 => ?_)
  · refine lv_iconst (v := 0) hx hb dX6_tell_38 (by decide) ?_
    exact x_iret hx hb hr hlk hsz hP hS rfl (by rw [r_X6_tell, if_neg h_1]) (by rw [s_X6_tell, if_neg h_1]) dX6_tell_39
  · refine lv_iconst (v := 1) hx hb dX6_tell_34 (by decide) ?_
    refine lv_goto (tgt := 39) hx hb dX6_tell_35 (by decide) ?_
    exact x_iret hx hb hr hlk hsz hP hS rfl (by rw [r_X6_tell, if_pos h_1]) (by rw [s_X6_tell, if_pos h_1]) dX6_tell_39
