/-- a world whose array holds the same in its places is the same world -/
theorem w_same {D : va_G} {cI : ClassId} {a : Nat → Nat} {w : Sg → va_W} {H : Heap} {k n : Nat} {τ : Sg} {f g : Nat → Int32} (hget : ∀ τ : Sg, (w τ)[k]? = some (a k, .inl (cI, n, .inl (τ k)))) (hset : ∀ (τ : Sg) (f : Nat → Int32), (w τ).set k (a k, .inl (cI, n, .inl f)) = w (sf τ k f)) (hfg : ∀ j, j < n → f j = g j) (hP : va_P D vwCl (w (sf τ k f)) H) : va_P D vwCl (w (sf τ k g)) H := by
  have hk := hget τ
  have hl : k < (w τ).length := (List.getElem?_eq_some_iff.mp hk).1
  intro i q hi
  rw [← hset τ g] at hi
  by_cases e : k = i
  · subst e
    rw [List.getElem?_set_self hl] at hi
    cases hi
    have h1 := hP k (a k, .inl (cI, n, .inl f)) (by rw [← hset τ f, List.getElem?_set_self hl])
    show H[a k]? = some (vp_cell cI (n, .inl g))
    have h2 : H[a k]? = some (vp_cell cI (n, .inl f)) := h1
    rw [h2, vp_cell_i, vp_cell_i]
    have h3 : (arrV cI n fun j => Value.int (f j)) = arrV cI n fun j => Value.int (g j) := by
      unfold arrV
      congr 1
      apply Array.ext
      · simp
      · intro j h4 h5
        simp at h4 h5
        simp [hfg j h4]
    rw [h3]
  · rw [List.getElem?_set_ne e] at hi
    exact hP i q (by rw [← hset τ f, List.getElem?_set_ne e]; exact hi)
theorem sf_sf (σ : Sg) (k : Nat) (f g : Nat → Int32) : sf (sf σ k f) k g = sf σ k g := by
  funext q
  by_cases h : q = k <;> simp [sf, h]
set_option maxHeartbeats 4000000 in
set_option maxRecDepth 100000 in
/-- Arrays.fill over an array of a world -/
theorem c_fill (l : Launch) (D : va_G) (cI : ClassId) (N : Nat) (a : Nat → Nat) (w : Sg → va_W) (sz : Nat) (σ : Sg) (k n : Nat) (v : Int32) (hn : n < 2 ^ 31) (hget : ∀ τ : Sg, (w τ)[k]? = some (a k, .inl (cI, n, .inl (τ k)))) (hset : ∀ (τ : Sg) (f : Nat → Int32), (w τ).set k (a k, .inl (cI, n, .inl f)) = w (sf τ k f)) : Met l yJ7_fill_53178 wsJ7_fill_53178 ({ frames := 0, cells := 0, slots := 0, locals := 0 }) (PcW D cI N a w sz σ [.ref (a k), .int v]) (QvW D N a w sz (sf σ k (fun _ => v))) 0 0 (AX N a sz) := by
  refine x_of (cc := cJ7_fill_53178) (maxL := 4) (ret := none) (C := RJ7) rfl (by decide) rfl (Nat.le_of_ble_eq_true rfl) (fun p e s m below meth c hx hb hr hml hlk hts hown hsz H hP hS hG ls hl => ?_)
  have hl : lv_has ls 4 [(0, .ref (a k)), (1, .int v)] := hl
  refine lv_iconst (v := 0) hx hb dJ7_fill_53178_0 (by decide) ?_
  refine lv_istore_n (lv' := [(2, .int 0), (0, .ref (a k)), (1, .int v)]) hx hb dJ7_fill_53178_1 rfl hl (by decide) rfl (fun ls hl => ?_)
  refine lv_aload_n hx hb dJ7_fill_53178_2 rfl (lv_at hl 1 rfl) ?_
  refine va_alen (v := nI n) hx hb hG.1 hP k 0 (hget σ) rfl rfl dJ7_fill_53178_3 ?_
  refine lv_istore_n (lv' := [(3, .int (nI n)), (2, .int 0), (0, .ref (a k)), (1, .int v)]) hx hb dJ7_fill_53178_4 rfl hl (by decide) rfl (fun ls hl => ?_)
  have loop : ∀ (rem i : Nat) (_ : i + rem = n) (H : Heap) (locs : List Loc) (ls : Array Slot) (_ : va_P D vwCl (w (sf σ k (fun j => if j < i then v else σ k j))) H) (_ : va_S (AX N a sz) s.heap H locs) (_ : lv_has ls 4 [(2, .int (nI i)), (3, .int (nI n)), (0, .ref (a k)), (1, .int v)]), W p l e (headSpec wsJ7_fill_53178 ({ frames := 0, cells := 0, slots := 0, locals := 0 } : Room)).room s m ([.ref (a k), .int v] : List Value).toArray below meth c H locs 0 0 (MQ below (QvW D N a w sz (sf σ k (fun _ => v))) ([.ref (a k), .int v] : List Value).toArray s 0 0 (AX N a sz)) (F0 m 5 ls []) := by
    intro rem
    induction rem with
    | zero =>
      intro i hi H locs ls hP hS hl
      obtain rfl : i = n := by omega
      refine lv_iload_n hx hb dJ7_fill_53178_5 rfl (lv_at hl 0 rfl) ?_
      refine lv_iload_n hx hb dJ7_fill_53178_6 rfl (lv_at hl 1 rfl) ?_
      refine lv_icmp_ge (tgt := 20) hx hb dJ7_fill_53178_7 (by decide) (fun _ => ?_) (fun h => absurd (nI_le (Nat.le_refl _) hn) h)
      have hP2 := w_same (τ := σ) (g := fun _ => v) hget hset (fun j hj => by simp [hj]) hP
      exact x_vret hx hb hr hlk hsz hP2 hS rfl dJ7_fill_53178_20
    | succ rem ih =>
      intro i hi H locs ls hP hS hl
      refine lv_iload_n hx hb dJ7_fill_53178_5 rfl (lv_at hl 0 rfl) ?_
      refine lv_iload_n hx hb dJ7_fill_53178_6 rfl (lv_at hl 1 rfl) ?_
      refine lv_icmp_ge (tgt := 20) hx hb dJ7_fill_53178_7 (by decide) (fun h => absurd h (nI_ge (by omega) hn)) (fun _ => ?_)
      refine lv_aload_n hx hb dJ7_fill_53178_10 rfl (lv_at hl 2 rfl) ?_
      refine lv_iload_n hx hb dJ7_fill_53178_11 rfl (lv_at hl 0 rfl) ?_
      refine lv_iload_n hx hb dJ7_fill_53178_12 rfl (lv_at hl 3 rfl) ?_
      refine va_iast hx hb hG.1 hP (gw_D hG sz _) hS k 0 (hget _) rfl (vp_in_nI (by omega) hn) dJ7_fill_53178_13 (fun H locs hP _ hS => ?_)
      rw [hset, sf_sf] at hP
      have hP2 := w_same (τ := σ) (g := fun j => if j < i + 1 then v else σ k j) hget hset (fun j hj => by
        rw [nI_clamp (by omega)]
        show upd (sf σ k (fun j => if j < i then v else σ k j) k) i v j = _
        have e1 : sf σ k (fun j => if j < i then v else σ k j) k = fun j => if j < i then v else σ k j := by simp [sf]
        rw [e1]
        unfold upd
        by_cases h1 : j = i
        · subst h1; simp
        · by_cases h2 : j < i
          · have h3 : j < i + 1 := by omega
            simp [h1, h2, h3]
          · have h3 : ¬ j < i + 1 := by omega
            simp [h1, h2, h3]) hP
      refine lv_iinc (v := nI (i + 1)) (lv' := [(2, .int (nI (i + 1))), (3, .int (nI n)), (0, .ref (a k)), (1, .int v)]) hx hb dJ7_fill_53178_14 hl (k := 0) rfl (by rw [nI_succ]; rfl) (by decide) rfl (fun ls hl => ?_)
      refine lv_goto (tgt := 5) hx hb dJ7_fill_53178_17 (by decide) ?_
      exact ih (i + 1) (by omega) H locs ls hP2 hS hl
  have hP2 : va_P D vwCl (w (sf σ k (fun j => if j < 0 then v else σ k j))) H := by
    have e : sf σ k (fun j => if j < 0 then v else σ k j) = σ := by
      funext q
      by_cases h : q = k
      · subst h; simp [sf]
      · simp [sf, h]
    rw [e]; exact hP
  exact loop n 0 (Nat.zero_add _) H _ ls hP2 hS (lv_sub hl [1, 0, 2, 3] rfl)
theorem in_X4_tells_4 : ∀ wd ∈ u_ws RX4 TX4 5, wd ∈ wsX4_tells := by decide +kernel
def lk_X4_tells (σ : Sg) (ki f1 f2 mi : Int32) : Nat → Nat → Int32
  | 0, i =>
    0
  | k + 1, i =>
    if σ 6 (nI i).toNatClampNeg = ki then
      if σ 7 (nI i).toNatClampNeg = f1 then
        if σ 8 (nI i).toNatClampNeg = f2 then
          if σ 9 (nI i).toNatClampNeg = mi then
            1
          else
            lk_X4_tells σ ki f1 f2 mi k (i + 1)
        else
          lk_X4_tells σ ki f1 f2 mi k (i + 1)
      else
        lk_X4_tells σ ki f1 f2 mi k (i + 1)
    else
      lk_X4_tells σ ki f1 f2 mi k (i + 1)
def r_X4_tells (σ : Sg) (ki : Int32) (f1 : Int32) (f2 : Int32) (mi : Int32) (n : Nat) : Int32 :=
  lk_X4_tells σ ki f1 f2 mi n 0
theorem bl_X4_tells (σ : Sg) (ki f1 f2 mi : Int32) : ∀ k i : Nat, lk_X4_tells σ ki f1 f2 mi k i = 0 ∨ lk_X4_tells σ ki f1 f2 mi k i = 1 := by
  intro k
  induction k with
  | zero => intro i; unfold lk_X4_tells; repeat' split
            all_goals first | exact Or.inl rfl | exact Or.inr rfl
  | succ k ih => intro i; unfold lk_X4_tells; repeat' split
                 all_goals first | exact Or.inl rfl | exact Or.inr rfl | exact ih _
theorem b_X4_tells (σ : Sg) (ki : Int32) (f1 : Int32) (f2 : Int32) (mi : Int32) (n : Nat) : r_X4_tells σ ki f1 f2 mi n = 0 ∨ r_X4_tells σ ki f1 f2 mi n = 1 := by
  unfold r_X4_tells
  exact bl_X4_tells σ ki f1 f2 mi _ _
set_option maxHeartbeats 4000000 in
set_option maxRecDepth 100000 in
theorem c_X4_tells (l : Launch) (D : va_G) (cI : ClassId) (a : Nat → Nat) (sz : Nat) (σ : Sg) (ki : Int32) (f1 : Int32) (f2 : Int32) (mi : Int32) (n : Nat) (hn : n ≤ 300) (hcn : σ 1 4 = nI n) : Met l yX4_tells wsX4_tells ({ frames := 0, cells := 0, slots := 0, locals := 0 }) (PcW D cI 29 a (wX cI a) sz σ [.ref (a 1), .int ki, .int f1, .int f2, .int mi]) (QiW D 29 a (wX cI a) sz (r_X4_tells σ ki f1 f2 mi n) σ) 0 0 (AX 29 a sz) := by
  refine x_of (cc := cX4_tells) (maxL := 6) (ret := some .boolean) (C := RX4) rfl (by decide) rfl (Nat.le_of_ble_eq_true rfl) (fun p e s m below meth c hx hb hr hml hlk hts hown hsz H hP hS hG ls hl => ?_)
  have hl : lv_has ls 6 [(0, .ref (a 1)), (1, .int ki), (2, .int f1), (3, .int f2), (4, .int mi)] := hl
  refine lv_iconst (v := 0) hx hb dX4_tells_0 (by decide) ?_
  refine lv_istore (lv' := [(5, .int 0), (0, .ref (a 1)), (1, .int ki), (2, .int f1), (3, .int f2), (4, .int mi)]) hx hb dX4_tells_1 hl (by decide) rfl (fun ls hl => ?_)
  have loop_3 : ∀ (k i : Nat) (_ : i + k = n) (_ : lk_X4_tells σ ki f1 f2 mi k i = lk_X4_tells σ ki f1 f2 mi n 0) (H : Heap) (locs : List Loc) (ls : Array Slot) (_ : va_P D vwCl (wX cI a σ) H) (_ : va_S (AX 29 a sz) s.heap H locs) (_ : lv_has ls 6 [(5, .int (nI i)), (0, .ref (a 1)), (1, .int ki), (2, .int f1), (3, .int f2), (4, .int mi)]), W p l e (headSpec wsX4_tells ({ frames := 0, cells := 0, slots := 0, locals := 0 } : Room)).room s m ([.ref (a 1), .int ki, .int f1, .int f2, .int mi] : List Value).toArray below meth c H locs 0 0 (MQ below (QiW D 29 a (wX cI a) sz (r_X4_tells σ ki f1 f2 mi n) σ) ([.ref (a 1), .int ki, .int f1, .int f2, .int mi] : List Value).toArray s 0 0 (AX 29 a sz)) (F0 m 3 ls []) := by
    intro k
    induction k with
    | zero =>
      intro i hi ex H locs ls hP hS hl
      obtain rfl : n = i := by omega
      refine lv_iload hx hb dX4_tells_3 (lv_at hl 0 rfl) ?_
      refine lv_aload_n hx hb dX4_tells_5 rfl (lv_at hl 1 rfl) ?_
      refine x_get (ci := 4) (C := RX4) (T := TX4) (M := 5) (v := .int (σ 1 4)) hx hb hts in_X4_tells_4 hown hG hP 1 rfl rfl 4 (by decide) (List.mem_of_getElem? (i := 1) rfl) rfl rfl dX4_tells_6 ?_
      refine lv_icmp_ge (tgt := 65) hx hb dX4_tells_9 (by decide) (fun _ => ?_) (fun h => absurd (show σ 1 4 ≤ nI n by rw [hcn]; exact nI_le (Nat.le_refl _) (by omega)) h)
      refine lv_iconst (v := 0) hx hb dX4_tells_65 (by decide) ?_
      exact x_iret hx hb hr hlk hsz hP hS rfl (by rw [r_X4_tells, ← ex, lk_X4_tells]) rfl dX4_tells_66
    | succ k ih =>
      intro i hi ex H locs ls hP hS hl
      refine lv_iload hx hb dX4_tells_3 (lv_at hl 0 rfl) ?_
      refine lv_aload_n hx hb dX4_tells_5 rfl (lv_at hl 1 rfl) ?_
      refine x_get (ci := 4) (C := RX4) (T := TX4) (M := 5) (v := .int (σ 1 4)) hx hb hts in_X4_tells_4 hown hG hP 1 rfl rfl 4 (by decide) (List.mem_of_getElem? (i := 1) rfl) rfl rfl dX4_tells_6 ?_
      refine lv_icmp_ge (tgt := 65) hx hb dX4_tells_9 (by decide) (fun h => absurd h (show ¬ σ 1 4 ≤ nI i by rw [hcn]; exact nI_ge (by omega) (by omega))) (fun _ => ?_)
      refine lv_aload_n hx hb dX4_tells_12 rfl (lv_at hl 1 rfl) ?_
      refine x_get (ci := 4) (C := RX4) (T := TX4) (M := 5) (v := .ref (a 6)) hx hb hts in_X4_tells_4 hown hG hP 1 rfl rfl 0 (by decide) (List.mem_of_getElem? (i := 2) rfl) rfl rfl dX4_tells_13 ?_
      refine lv_iload hx hb dX4_tells_16 (lv_at hl 0 rfl) ?_
      refine x_iald (f := σ 6) hx hb hG hP 6 rfl (vp_in_nI (by omega) (by decide)) dX4_tells_18 ?_
      refine lv_iload_n hx hb dX4_tells_19 rfl (lv_at hl 2 rfl) ?_
      refine lv_icmp_ne (tgt := 59) hx hb dX4_tells_20 (by decide) (fun h_1 => ?_) (fun h_1 => ?_)
      · refine lv_iinc (v := nI (i + 1)) (lv' := [(5, .int (nI (i + 1))), (0, .ref (a 1)), (1, .int ki), (2, .int f1), (3, .int f2), (4, .int mi)]) hx hb dX4_tells_59 hl (k := 0) rfl (by rw [nI_succ]; rfl) (by decide) rfl (fun ls hl => ?_)
        refine lv_goto (tgt := 3) hx hb dX4_tells_62 (by decide) ?_
        exact ih (i + 1) (by omega) (by rw [← ex, lk_X4_tells, if_neg h_1]) H locs ls hP hS (lv_sub hl [0, 1, 2, 3, 4, 5] rfl)
      · refine lv_aload_n hx hb dX4_tells_23 rfl (lv_at hl 1 rfl) ?_
        refine x_get (ci := 4) (C := RX4) (T := TX4) (M := 5) (v := .ref (a 7)) hx hb hts in_X4_tells_4 hown hG hP 1 rfl rfl 1 (by decide) (List.mem_of_getElem? (i := 3) rfl) rfl rfl dX4_tells_24 ?_
        refine lv_iload hx hb dX4_tells_27 (lv_at hl 0 rfl) ?_
        refine x_iald (f := σ 7) hx hb hG hP 7 rfl (vp_in_nI (by omega) (by decide)) dX4_tells_29 ?_
        refine lv_iload_n hx hb dX4_tells_30 rfl (lv_at hl 3 rfl) ?_
        refine lv_icmp_ne (tgt := 59) hx hb dX4_tells_31 (by decide) (fun h_2 => ?_) (fun h_2 => ?_)
        · refine lv_iinc (v := nI (i + 1)) (lv' := [(5, .int (nI (i + 1))), (0, .ref (a 1)), (1, .int ki), (2, .int f1), (3, .int f2), (4, .int mi)]) hx hb dX4_tells_59 hl (k := 0) rfl (by rw [nI_succ]; rfl) (by decide) rfl (fun ls hl => ?_)
          refine lv_goto (tgt := 3) hx hb dX4_tells_62 (by decide) ?_
          exact ih (i + 1) (by omega) (by rw [← ex, lk_X4_tells, if_pos h_1, if_neg h_2]) H locs ls hP hS (lv_sub hl [0, 1, 2, 3, 4, 5] rfl)
        · refine lv_aload_n hx hb dX4_tells_34 rfl (lv_at hl 1 rfl) ?_
          refine x_get (ci := 4) (C := RX4) (T := TX4) (M := 5) (v := .ref (a 8)) hx hb hts in_X4_tells_4 hown hG hP 1 rfl rfl 2 (by decide) (List.mem_of_getElem? (i := 4) rfl) rfl rfl dX4_tells_35 ?_
          refine lv_iload hx hb dX4_tells_38 (lv_at hl 0 rfl) ?_
          refine x_iald (f := σ 8) hx hb hG hP 8 rfl (vp_in_nI (by omega) (by decide)) dX4_tells_40 ?_
          refine lv_iload_n hx hb dX4_tells_41 rfl (lv_at hl 4 rfl) ?_
          refine lv_icmp_ne (tgt := 59) hx hb dX4_tells_42 (by decide) (fun h_3 => ?_) (fun h_3 => ?_)
          · refine lv_iinc (v := nI (i + 1)) (lv' := [(5, .int (nI (i + 1))), (0, .ref (a 1)), (1, .int ki), (2, .int f1), (3, .int f2), (4, .int mi)]) hx hb dX4_tells_59 hl (k := 0) rfl (by rw [nI_succ]; rfl) (by decide) rfl (fun ls hl => ?_)
            refine lv_goto (tgt := 3) hx hb dX4_tells_62 (by decide) ?_
            exact ih (i + 1) (by omega) (by rw [← ex, lk_X4_tells, if_pos h_1, if_pos h_2, if_neg h_3]) H locs ls hP hS (lv_sub hl [0, 1, 2, 3, 4, 5] rfl)
          · refine lv_aload_n hx hb dX4_tells_45 rfl (lv_at hl 1 rfl) ?_
            refine x_get (ci := 4) (C := RX4) (T := TX4) (M := 5) (v := .ref (a 9)) hx hb hts in_X4_tells_4 hown hG hP 1 rfl rfl 3 (by decide) (List.mem_of_getElem? (i := 5) rfl) rfl rfl dX4_tells_46 ?_
            refine lv_iload hx hb dX4_tells_49 (lv_at hl 0 rfl) ?_
            refine x_iald (f := σ 9) hx hb hG hP 9 rfl (vp_in_nI (by omega) (by decide)) dX4_tells_51 ?_
            refine lv_iload hx hb dX4_tells_52 (lv_at hl 5 rfl) ?_
            refine lv_icmp_ne (tgt := 59) hx hb dX4_tells_54 (by decide) (fun h_4 => ?_) (fun h_4 => ?_)
            · refine lv_iinc (v := nI (i + 1)) (lv' := [(5, .int (nI (i + 1))), (0, .ref (a 1)), (1, .int ki), (2, .int f1), (3, .int f2), (4, .int mi)]) hx hb dX4_tells_59 hl (k := 0) rfl (by rw [nI_succ]; rfl) (by decide) rfl (fun ls hl => ?_)
              refine lv_goto (tgt := 3) hx hb dX4_tells_62 (by decide) ?_
              exact ih (i + 1) (by omega) (by rw [← ex, lk_X4_tells, if_pos h_1, if_pos h_2, if_pos h_3, if_neg h_4]) H locs ls hP hS (lv_sub hl [0, 1, 2, 3, 4, 5] rfl)
            · refine lv_iconst (v := 1) hx hb dX4_tells_57 (by decide) ?_
              exact x_iret hx hb hr hlk hsz hP hS rfl (by rw [r_X4_tells, ← ex, lk_X4_tells, if_pos h_1, if_pos h_2, if_pos h_3, if_pos h_4]) rfl dX4_tells_58
  exact loop_3 (n) 0 (Nat.zero_add _) rfl _ _ _ hP hS (lv_sub hl [0, 1, 2, 3, 4, 5] rfl)
theorem in_X3_clear_3 : ∀ wd ∈ u_ws RX3 TX3 4, wd ∈ wsX3_clear := by decide +kernel
def s_X3_clear (σ : Sg) : Sg :=
  sx (sf (sf (sf σ 13 (fun _ => 0)) 14 (fun _ => 0)) 15 (fun _ => 0)) 3 3 0
set_option maxHeartbeats 4000000 in
set_option maxRecDepth 100000 in
theorem c_X3_clear (l : Launch) (D : va_G) (cI : ClassId) (a : Nat → Nat) (sz : Nat) (σ : Sg) : Met l yX3_clear wsX3_clear ({ frames := 1, cells := 0, slots := 0, locals := 23 }) (PcW D cI 29 a (wX cI a) sz σ [.ref (a 3)]) (QvW D 29 a (wX cI a) sz (s_X3_clear σ)) 0 0 (AX 29 a sz) := by
  refine x_of (cc := cX3_clear) (maxL := 1) (ret := none) (C := RX3) rfl (by decide) rfl (Nat.le_of_ble_eq_true rfl) (fun p e s m below meth c hx hb hr hml hlk hts hown hsz H hP hS hG ls hl => ?_)
  have hl : lv_has ls 1 [(0, .ref (a 3))] := hl
  refine lv_aload_n hx hb dX3_clear_0 rfl (lv_at hl 0 rfl) ?_
  refine x_get (ci := 3) (C := RX3) (T := TX3) (M := 4) (v := .ref (a 13)) hx hb hts in_X3_clear_3 hown hG hP 3 rfl rfl 0 (by decide) (List.mem_of_getElem? (i := 1) rfl) rfl rfl dX3_clear_1 ?_
  refine lv_iconst (v := 0) hx hb dX3_clear_4 (by decide) ?_
  refine x_callSv (w := wX cI a) (σ := σ) (σ' := sf σ 13 (fun _ => 0)) (As := [.ref (a 13), .int 0]) (rest := []) ⟨hx, hb, hml, hown, hts⟩ hG hP hS hsz (c_fill l D cI 29 a (wX cI a) H.size (σ) 13 8 0 (by decide) (fun _ => rfl) (fun τ f => wX_sf13 cI a τ f)) (va_cwS 2 hts gX3_clear_J7_fill_53178 rfl rfl rfl (by decide +kernel) ⟨Nat.le_of_ble_eq_true rfl, Nat.le_of_ble_eq_true rfl⟩) rfl hl.1 rfl (Nat.le_of_ble_eq_true rfl) ⟨Nat.zero_le _, Nat.zero_le _⟩ dX3_clear_5 (fun H locs hP hS => ?_)
  refine lv_aload_n hx hb dX3_clear_8 rfl (lv_at hl 0 rfl) ?_
  refine x_get (ci := 3) (C := RX3) (T := TX3) (M := 4) (v := .ref (a 14)) hx hb hts in_X3_clear_3 hown hG hP 3 rfl rfl 1 (by decide) (List.mem_of_getElem? (i := 2) rfl) rfl rfl dX3_clear_9 ?_
  refine lv_iconst (v := 0) hx hb dX3_clear_12 (by decide) ?_
  refine x_callSv (w := wX cI a) (σ := sf σ 13 (fun _ => 0)) (σ' := sf (sf σ 13 (fun _ => 0)) 14 (fun _ => 0)) (As := [.ref (a 14), .int 0]) (rest := []) ⟨hx, hb, hml, hown, hts⟩ hG hP hS hsz (c_fill l D cI 29 a (wX cI a) H.size (sf σ 13 (fun _ => 0)) 14 8 0 (by decide) (fun _ => rfl) (fun τ f => wX_sf14 cI a τ f)) (va_cwS 2 hts gX3_clear_J7_fill_53178 rfl rfl rfl (by decide +kernel) ⟨Nat.le_of_ble_eq_true rfl, Nat.le_of_ble_eq_true rfl⟩) rfl hl.1 rfl (Nat.le_of_ble_eq_true rfl) ⟨Nat.zero_le _, Nat.zero_le _⟩ dX3_clear_13 (fun H locs hP hS => ?_)
  refine lv_aload_n hx hb dX3_clear_16 rfl (lv_at hl 0 rfl) ?_
  refine x_get (ci := 3) (C := RX3) (T := TX3) (M := 4) (v := .ref (a 15)) hx hb hts in_X3_clear_3 hown hG hP 3 rfl rfl 2 (by decide) (List.mem_of_getElem? (i := 3) rfl) rfl rfl dX3_clear_17 ?_
  refine lv_iconst (v := 0) hx hb dX3_clear_20 (by decide) ?_
  refine x_callSv (w := wX cI a) (σ := sf (sf σ 13 (fun _ => 0)) 14 (fun _ => 0)) (σ' := sf (sf (sf σ 13 (fun _ => 0)) 14 (fun _ => 0)) 15 (fun _ => 0)) (As := [.ref (a 15), .int 0]) (rest := []) ⟨hx, hb, hml, hown, hts⟩ hG hP hS hsz (c_fill l D cI 29 a (wX cI a) H.size (sf (sf σ 13 (fun _ => 0)) 14 (fun _ => 0)) 15 8 0 (by decide) (fun _ => rfl) (fun τ f => wX_sf15 cI a τ f)) (va_cwS 2 hts gX3_clear_J7_fill_53178 rfl rfl rfl (by decide +kernel) ⟨Nat.le_of_ble_eq_true rfl, Nat.le_of_ble_eq_true rfl⟩) rfl hl.1 rfl (Nat.le_of_ble_eq_true rfl) ⟨Nat.zero_le _, Nat.zero_le _⟩ dX3_clear_21 (fun H locs hP hS => ?_)
  refine lv_aload_n hx hb dX3_clear_24 rfl (lv_at hl 0 rfl) ?_
  refine lv_iconst (v := 0) hx hb dX3_clear_25 (by decide) ?_
  refine x_put (w := wX cI a) (σ := sf (sf (sf σ 13 (fun _ => 0)) 14 (fun _ => 0)) 15 (fun _ => 0)) (ci := 3) (C := RX3) (T := TX3) (M := 4) hx hb hts in_X3_clear_3 tyX3 tyX3_ok nmX3 hown hG hP hS 3 rfl rfl 3 (by decide) (List.mem_of_getElem? (i := 4) rfl) rfl rfl rfl (Nat.le_of_ble_eq_true rfl) (wX_pt3_3 cI a _ _) dX3_clear_26 (fun H locs hP hS => ?_)
  exact x_vret hx hb hr hlk hsz hP hS (by rw [s_X3_clear]) dX3_clear_29
theorem in_X0_clear_0 : ∀ wd ∈ u_ws RX0 TX0 7, wd ∈ wsX0_clear := by decide +kernel
def s_X0_clear (σ : Sg) : Sg :=
  sf (sf (sf (sf (sf (sf (sf σ 16 (fun _ => 0)) 17 (fun _ => (-1))) 18 (fun _ => 0)) 19 (fun _ => 0)) 20 (fun _ => 0)) 21 (fun _ => 0)) 22 (fun _ => 0)
set_option maxHeartbeats 4000000 in
set_option maxRecDepth 100000 in
theorem c_X0_clear (l : Launch) (D : va_G) (cI : ClassId) (a : Nat → Nat) (sz : Nat) (σ : Sg) : Met l yX0_clear wsX0_clear ({ frames := 1, cells := 0, slots := 0, locals := 23 }) (PcW D cI 29 a (wX cI a) sz σ [.ref (a 4)]) (QvW D 29 a (wX cI a) sz (s_X0_clear σ)) 0 0 (AX 29 a sz) := by
  refine x_of (cc := cX0_clear) (maxL := 1) (ret := none) (C := RX0) rfl (by decide) rfl (Nat.le_of_ble_eq_true rfl) (fun p e s m below meth c hx hb hr hml hlk hts hown hsz H hP hS hG ls hl => ?_)
  have hl : lv_has ls 1 [(0, .ref (a 4))] := hl
  refine lv_aload_n hx hb dX0_clear_0 rfl (lv_at hl 0 rfl) ?_
  refine x_get (ci := 0) (C := RX0) (T := TX0) (M := 7) (v := .ref (a 16)) hx hb hts in_X0_clear_0 hown hG hP 4 rfl rfl 0 (by decide) (List.mem_of_getElem? (i := 1) rfl) rfl rfl dX0_clear_1 ?_
  refine lv_iconst (v := 0) hx hb dX0_clear_4 (by decide) ?_
  refine x_callSv (w := wX cI a) (σ := σ) (σ' := sf σ 16 (fun _ => 0)) (As := [.ref (a 16), .int 0]) (rest := []) ⟨hx, hb, hml, hown, hts⟩ hG hP hS hsz (c_fill l D cI 29 a (wX cI a) H.size (σ) 16 30 0 (by decide) (fun _ => rfl) (fun τ f => wX_sf16 cI a τ f)) (va_cwS 2 hts gX0_clear_J7_fill_53178 rfl rfl rfl (by decide +kernel) ⟨Nat.le_of_ble_eq_true rfl, Nat.le_of_ble_eq_true rfl⟩) rfl hl.1 rfl (Nat.le_of_ble_eq_true rfl) ⟨Nat.zero_le _, Nat.zero_le _⟩ dX0_clear_5 (fun H locs hP hS => ?_)
  refine lv_aload_n hx hb dX0_clear_8 rfl (lv_at hl 0 rfl) ?_
  refine x_get (ci := 0) (C := RX0) (T := TX0) (M := 7) (v := .ref (a 17)) hx hb hts in_X0_clear_0 hown hG hP 4 rfl rfl 1 (by decide) (List.mem_of_getElem? (i := 2) rfl) rfl rfl dX0_clear_9 ?_
  refine lv_iconst (v := (-1)) hx hb dX0_clear_12 (by decide) ?_
  refine x_callSv (w := wX cI a) (σ := sf σ 16 (fun _ => 0)) (σ' := sf (sf σ 16 (fun _ => 0)) 17 (fun _ => (-1))) (As := [.ref (a 17), .int (-1)]) (rest := []) ⟨hx, hb, hml, hown, hts⟩ hG hP hS hsz (c_fill l D cI 29 a (wX cI a) H.size (sf σ 16 (fun _ => 0)) 17 30 (-1) (by decide) (fun _ => rfl) (fun τ f => wX_sf17 cI a τ f)) (va_cwS 2 hts gX0_clear_J7_fill_53178 rfl rfl rfl (by decide +kernel) ⟨Nat.le_of_ble_eq_true rfl, Nat.le_of_ble_eq_true rfl⟩) rfl hl.1 rfl (Nat.le_of_ble_eq_true rfl) ⟨Nat.zero_le _, Nat.zero_le _⟩ dX0_clear_13 (fun H locs hP hS => ?_)
  refine lv_aload_n hx hb dX0_clear_16 rfl (lv_at hl 0 rfl) ?_
  refine x_get (ci := 0) (C := RX0) (T := TX0) (M := 7) (v := .ref (a 18)) hx hb hts in_X0_clear_0 hown hG hP 4 rfl rfl 2 (by decide) (List.mem_of_getElem? (i := 3) rfl) rfl rfl dX0_clear_17 ?_
  refine lv_iconst (v := 0) hx hb dX0_clear_20 (by decide) ?_
  refine x_callSv (w := wX cI a) (σ := sf (sf σ 16 (fun _ => 0)) 17 (fun _ => (-1))) (σ' := sf (sf (sf σ 16 (fun _ => 0)) 17 (fun _ => (-1))) 18 (fun _ => 0)) (As := [.ref (a 18), .int 0]) (rest := []) ⟨hx, hb, hml, hown, hts⟩ hG hP hS hsz (c_fill l D cI 29 a (wX cI a) H.size (sf (sf σ 16 (fun _ => 0)) 17 (fun _ => (-1))) 18 30 0 (by decide) (fun _ => rfl) (fun τ f => wX_sf18 cI a τ f)) (va_cwS 2 hts gX0_clear_J7_fill_53178 rfl rfl rfl (by decide +kernel) ⟨Nat.le_of_ble_eq_true rfl, Nat.le_of_ble_eq_true rfl⟩) rfl hl.1 rfl (Nat.le_of_ble_eq_true rfl) ⟨Nat.zero_le _, Nat.zero_le _⟩ dX0_clear_21 (fun H locs hP hS => ?_)
  refine lv_aload_n hx hb dX0_clear_24 rfl (lv_at hl 0 rfl) ?_
  refine x_get (ci := 0) (C := RX0) (T := TX0) (M := 7) (v := .ref (a 19)) hx hb hts in_X0_clear_0 hown hG hP 4 rfl rfl 3 (by decide) (List.mem_of_getElem? (i := 4) rfl) rfl rfl dX0_clear_25 ?_
  refine lv_iconst (v := 0) hx hb dX0_clear_28 (by decide) ?_
  refine x_callSv (w := wX cI a) (σ := sf (sf (sf σ 16 (fun _ => 0)) 17 (fun _ => (-1))) 18 (fun _ => 0)) (σ' := sf (sf (sf (sf σ 16 (fun _ => 0)) 17 (fun _ => (-1))) 18 (fun _ => 0)) 19 (fun _ => 0)) (As := [.ref (a 19), .int 0]) (rest := []) ⟨hx, hb, hml, hown, hts⟩ hG hP hS hsz (c_fill l D cI 29 a (wX cI a) H.size (sf (sf (sf σ 16 (fun _ => 0)) 17 (fun _ => (-1))) 18 (fun _ => 0)) 19 30 0 (by decide) (fun _ => rfl) (fun τ f => wX_sf19 cI a τ f)) (va_cwS 2 hts gX0_clear_J7_fill_53178 rfl rfl rfl (by decide +kernel) ⟨Nat.le_of_ble_eq_true rfl, Nat.le_of_ble_eq_true rfl⟩) rfl hl.1 rfl (Nat.le_of_ble_eq_true rfl) ⟨Nat.zero_le _, Nat.zero_le _⟩ dX0_clear_29 (fun H locs hP hS => ?_)
  refine lv_aload_n hx hb dX0_clear_32 rfl (lv_at hl 0 rfl) ?_
  refine x_get (ci := 0) (C := RX0) (T := TX0) (M := 7) (v := .ref (a 20)) hx hb hts in_X0_clear_0 hown hG hP 4 rfl rfl 4 (by decide) (List.mem_of_getElem? (i := 5) rfl) rfl rfl dX0_clear_33 ?_
  refine lv_iconst (v := 0) hx hb dX0_clear_36 (by decide) ?_
  refine x_callSv (w := wX cI a) (σ := sf (sf (sf (sf σ 16 (fun _ => 0)) 17 (fun _ => (-1))) 18 (fun _ => 0)) 19 (fun _ => 0)) (σ' := sf (sf (sf (sf (sf σ 16 (fun _ => 0)) 17 (fun _ => (-1))) 18 (fun _ => 0)) 19 (fun _ => 0)) 20 (fun _ => 0)) (As := [.ref (a 20), .int 0]) (rest := []) ⟨hx, hb, hml, hown, hts⟩ hG hP hS hsz (c_fill l D cI 29 a (wX cI a) H.size (sf (sf (sf (sf σ 16 (fun _ => 0)) 17 (fun _ => (-1))) 18 (fun _ => 0)) 19 (fun _ => 0)) 20 30 0 (by decide) (fun _ => rfl) (fun τ f => wX_sf20 cI a τ f)) (va_cwS 2 hts gX0_clear_J7_fill_53178 rfl rfl rfl (by decide +kernel) ⟨Nat.le_of_ble_eq_true rfl, Nat.le_of_ble_eq_true rfl⟩) rfl hl.1 rfl (Nat.le_of_ble_eq_true rfl) ⟨Nat.zero_le _, Nat.zero_le _⟩ dX0_clear_37 (fun H locs hP hS => ?_)
  refine lv_aload_n hx hb dX0_clear_40 rfl (lv_at hl 0 rfl) ?_
  refine x_get (ci := 0) (C := RX0) (T := TX0) (M := 7) (v := .ref (a 21)) hx hb hts in_X0_clear_0 hown hG hP 4 rfl rfl 5 (by decide) (List.mem_of_getElem? (i := 6) rfl) rfl rfl dX0_clear_41 ?_
  refine lv_iconst (v := 0) hx hb dX0_clear_44 (by decide) ?_
  refine x_callSv (w := wX cI a) (σ := sf (sf (sf (sf (sf σ 16 (fun _ => 0)) 17 (fun _ => (-1))) 18 (fun _ => 0)) 19 (fun _ => 0)) 20 (fun _ => 0)) (σ' := sf (sf (sf (sf (sf (sf σ 16 (fun _ => 0)) 17 (fun _ => (-1))) 18 (fun _ => 0)) 19 (fun _ => 0)) 20 (fun _ => 0)) 21 (fun _ => 0)) (As := [.ref (a 21), .int 0]) (rest := []) ⟨hx, hb, hml, hown, hts⟩ hG hP hS hsz (c_fill l D cI 29 a (wX cI a) H.size (sf (sf (sf (sf (sf σ 16 (fun _ => 0)) 17 (fun _ => (-1))) 18 (fun _ => 0)) 19 (fun _ => 0)) 20 (fun _ => 0)) 21 30 0 (by decide) (fun _ => rfl) (fun τ f => wX_sf21 cI a τ f)) (va_cwS 2 hts gX0_clear_J7_fill_53178 rfl rfl rfl (by decide +kernel) ⟨Nat.le_of_ble_eq_true rfl, Nat.le_of_ble_eq_true rfl⟩) rfl hl.1 rfl (Nat.le_of_ble_eq_true rfl) ⟨Nat.zero_le _, Nat.zero_le _⟩ dX0_clear_45 (fun H locs hP hS => ?_)
  refine lv_aload_n hx hb dX0_clear_48 rfl (lv_at hl 0 rfl) ?_
  refine x_get (ci := 0) (C := RX0) (T := TX0) (M := 7) (v := .ref (a 22)) hx hb hts in_X0_clear_0 hown hG hP 4 rfl rfl 6 (by decide) (List.mem_of_getElem? (i := 7) rfl) rfl rfl dX0_clear_49 ?_
  refine lv_iconst (v := 0) hx hb dX0_clear_52 (by decide) ?_
  refine x_callSv (w := wX cI a) (σ := sf (sf (sf (sf (sf (sf σ 16 (fun _ => 0)) 17 (fun _ => (-1))) 18 (fun _ => 0)) 19 (fun _ => 0)) 20 (fun _ => 0)) 21 (fun _ => 0)) (σ' := sf (sf (sf (sf (sf (sf (sf σ 16 (fun _ => 0)) 17 (fun _ => (-1))) 18 (fun _ => 0)) 19 (fun _ => 0)) 20 (fun _ => 0)) 21 (fun _ => 0)) 22 (fun _ => 0)) (As := [.ref (a 22), .int 0]) (rest := []) ⟨hx, hb, hml, hown, hts⟩ hG hP hS hsz (c_fill l D cI 29 a (wX cI a) H.size (sf (sf (sf (sf (sf (sf σ 16 (fun _ => 0)) 17 (fun _ => (-1))) 18 (fun _ => 0)) 19 (fun _ => 0)) 20 (fun _ => 0)) 21 (fun _ => 0)) 22 30 0 (by decide) (fun _ => rfl) (fun τ f => wX_sf22 cI a τ f)) (va_cwS 2 hts gX0_clear_J7_fill_53178 rfl rfl rfl (by decide +kernel) ⟨Nat.le_of_ble_eq_true rfl, Nat.le_of_ble_eq_true rfl⟩) rfl hl.1 rfl (Nat.le_of_ble_eq_true rfl) ⟨Nat.zero_le _, Nat.zero_le _⟩ dX0_clear_53 (fun H locs hP hS => ?_)
  exact x_vret hx hb hr hlk hsz hP hS (by rw [s_X0_clear]) dX0_clear_56
theorem in_X2_clear_2 : ∀ wd ∈ u_ws RX2 TX2 6, wd ∈ wsX2_clear := by decide +kernel
def s_X2_clear (σ : Sg) : Sg :=
  sf (sf (sf (sf (sf (sf σ 23 (fun _ => 0)) 24 (fun _ => 0)) 25 (fun _ => 0)) 26 (fun _ => 0)) 27 (fun _ => (-1))) 28 (fun _ => 0)
set_option maxHeartbeats 4000000 in
set_option maxRecDepth 100000 in
theorem c_X2_clear (l : Launch) (D : va_G) (cI : ClassId) (a : Nat → Nat) (sz : Nat) (σ : Sg) : Met l yX2_clear wsX2_clear ({ frames := 1, cells := 0, slots := 0, locals := 23 }) (PcW D cI 29 a (wX cI a) sz σ [.ref (a 5)]) (QvW D 29 a (wX cI a) sz (s_X2_clear σ)) 0 0 (AX 29 a sz) := by
  refine x_of (cc := cX2_clear) (maxL := 1) (ret := none) (C := RX2) rfl (by decide) rfl (Nat.le_of_ble_eq_true rfl) (fun p e s m below meth c hx hb hr hml hlk hts hown hsz H hP hS hG ls hl => ?_)
  have hl : lv_has ls 1 [(0, .ref (a 5))] := hl
  refine lv_aload_n hx hb dX2_clear_0 rfl (lv_at hl 0 rfl) ?_
  refine x_get (ci := 2) (C := RX2) (T := TX2) (M := 6) (v := .ref (a 23)) hx hb hts in_X2_clear_2 hown hG hP 5 rfl rfl 0 (by decide) (List.mem_of_getElem? (i := 1) rfl) rfl rfl dX2_clear_1 ?_
  refine lv_iconst (v := 0) hx hb dX2_clear_4 (by decide) ?_
  refine x_callSv (w := wX cI a) (σ := σ) (σ' := sf σ 23 (fun _ => 0)) (As := [.ref (a 23), .int 0]) (rest := []) ⟨hx, hb, hml, hown, hts⟩ hG hP hS hsz (c_fill l D cI 29 a (wX cI a) H.size (σ) 23 10 0 (by decide) (fun _ => rfl) (fun τ f => wX_sf23 cI a τ f)) (va_cwS 2 hts gX2_clear_J7_fill_53178 rfl rfl rfl (by decide +kernel) ⟨Nat.le_of_ble_eq_true rfl, Nat.le_of_ble_eq_true rfl⟩) rfl hl.1 rfl (Nat.le_of_ble_eq_true rfl) ⟨Nat.zero_le _, Nat.zero_le _⟩ dX2_clear_5 (fun H locs hP hS => ?_)
  refine lv_aload_n hx hb dX2_clear_8 rfl (lv_at hl 0 rfl) ?_
  refine x_get (ci := 2) (C := RX2) (T := TX2) (M := 6) (v := .ref (a 24)) hx hb hts in_X2_clear_2 hown hG hP 5 rfl rfl 1 (by decide) (List.mem_of_getElem? (i := 2) rfl) rfl rfl dX2_clear_9 ?_
  refine lv_iconst (v := 0) hx hb dX2_clear_12 (by decide) ?_
  refine x_callSv (w := wX cI a) (σ := sf σ 23 (fun _ => 0)) (σ' := sf (sf σ 23 (fun _ => 0)) 24 (fun _ => 0)) (As := [.ref (a 24), .int 0]) (rest := []) ⟨hx, hb, hml, hown, hts⟩ hG hP hS hsz (c_fill l D cI 29 a (wX cI a) H.size (sf σ 23 (fun _ => 0)) 24 10 0 (by decide) (fun _ => rfl) (fun τ f => wX_sf24 cI a τ f)) (va_cwS 2 hts gX2_clear_J7_fill_53178 rfl rfl rfl (by decide +kernel) ⟨Nat.le_of_ble_eq_true rfl, Nat.le_of_ble_eq_true rfl⟩) rfl hl.1 rfl (Nat.le_of_ble_eq_true rfl) ⟨Nat.zero_le _, Nat.zero_le _⟩ dX2_clear_13 (fun H locs hP hS => ?_)
  refine lv_aload_n hx hb dX2_clear_16 rfl (lv_at hl 0 rfl) ?_
  refine x_get (ci := 2) (C := RX2) (T := TX2) (M := 6) (v := .ref (a 25)) hx hb hts in_X2_clear_2 hown hG hP 5 rfl rfl 2 (by decide) (List.mem_of_getElem? (i := 3) rfl) rfl rfl dX2_clear_17 ?_
  refine lv_iconst (v := 0) hx hb dX2_clear_20 (by decide) ?_
  refine x_callSv (w := wX cI a) (σ := sf (sf σ 23 (fun _ => 0)) 24 (fun _ => 0)) (σ' := sf (sf (sf σ 23 (fun _ => 0)) 24 (fun _ => 0)) 25 (fun _ => 0)) (As := [.ref (a 25), .int 0]) (rest := []) ⟨hx, hb, hml, hown, hts⟩ hG hP hS hsz (c_fill l D cI 29 a (wX cI a) H.size (sf (sf σ 23 (fun _ => 0)) 24 (fun _ => 0)) 25 10 0 (by decide) (fun _ => rfl) (fun τ f => wX_sf25 cI a τ f)) (va_cwS 2 hts gX2_clear_J7_fill_53178 rfl rfl rfl (by decide +kernel) ⟨Nat.le_of_ble_eq_true rfl, Nat.le_of_ble_eq_true rfl⟩) rfl hl.1 rfl (Nat.le_of_ble_eq_true rfl) ⟨Nat.zero_le _, Nat.zero_le _⟩ dX2_clear_21 (fun H locs hP hS => ?_)
  refine lv_aload_n hx hb dX2_clear_24 rfl (lv_at hl 0 rfl) ?_
  refine x_get (ci := 2) (C := RX2) (T := TX2) (M := 6) (v := .ref (a 26)) hx hb hts in_X2_clear_2 hown hG hP 5 rfl rfl 3 (by decide) (List.mem_of_getElem? (i := 4) rfl) rfl rfl dX2_clear_25 ?_
  refine lv_iconst (v := 0) hx hb dX2_clear_28 (by decide) ?_
  refine x_callSv (w := wX cI a) (σ := sf (sf (sf σ 23 (fun _ => 0)) 24 (fun _ => 0)) 25 (fun _ => 0)) (σ' := sf (sf (sf (sf σ 23 (fun _ => 0)) 24 (fun _ => 0)) 25 (fun _ => 0)) 26 (fun _ => 0)) (As := [.ref (a 26), .int 0]) (rest := []) ⟨hx, hb, hml, hown, hts⟩ hG hP hS hsz (c_fill l D cI 29 a (wX cI a) H.size (sf (sf (sf σ 23 (fun _ => 0)) 24 (fun _ => 0)) 25 (fun _ => 0)) 26 10 0 (by decide) (fun _ => rfl) (fun τ f => wX_sf26 cI a τ f)) (va_cwS 2 hts gX2_clear_J7_fill_53178 rfl rfl rfl (by decide +kernel) ⟨Nat.le_of_ble_eq_true rfl, Nat.le_of_ble_eq_true rfl⟩) rfl hl.1 rfl (Nat.le_of_ble_eq_true rfl) ⟨Nat.zero_le _, Nat.zero_le _⟩ dX2_clear_29 (fun H locs hP hS => ?_)
  refine lv_aload_n hx hb dX2_clear_32 rfl (lv_at hl 0 rfl) ?_
  refine x_get (ci := 2) (C := RX2) (T := TX2) (M := 6) (v := .ref (a 27)) hx hb hts in_X2_clear_2 hown hG hP 5 rfl rfl 4 (by decide) (List.mem_of_getElem? (i := 5) rfl) rfl rfl dX2_clear_33 ?_
  refine lv_iconst (v := (-1)) hx hb dX2_clear_36 (by decide) ?_
  refine x_callSv (w := wX cI a) (σ := sf (sf (sf (sf σ 23 (fun _ => 0)) 24 (fun _ => 0)) 25 (fun _ => 0)) 26 (fun _ => 0)) (σ' := sf (sf (sf (sf (sf σ 23 (fun _ => 0)) 24 (fun _ => 0)) 25 (fun _ => 0)) 26 (fun _ => 0)) 27 (fun _ => (-1))) (As := [.ref (a 27), .int (-1)]) (rest := []) ⟨hx, hb, hml, hown, hts⟩ hG hP hS hsz (c_fill l D cI 29 a (wX cI a) H.size (sf (sf (sf (sf σ 23 (fun _ => 0)) 24 (fun _ => 0)) 25 (fun _ => 0)) 26 (fun _ => 0)) 27 10 (-1) (by decide) (fun _ => rfl) (fun τ f => wX_sf27 cI a τ f)) (va_cwS 2 hts gX2_clear_J7_fill_53178 rfl rfl rfl (by decide +kernel) ⟨Nat.le_of_ble_eq_true rfl, Nat.le_of_ble_eq_true rfl⟩) rfl hl.1 rfl (Nat.le_of_ble_eq_true rfl) ⟨Nat.zero_le _, Nat.zero_le _⟩ dX2_clear_37 (fun H locs hP hS => ?_)
  refine lv_aload_n hx hb dX2_clear_40 rfl (lv_at hl 0 rfl) ?_
  refine x_get (ci := 2) (C := RX2) (T := TX2) (M := 6) (v := .ref (a 28)) hx hb hts in_X2_clear_2 hown hG hP 5 rfl rfl 5 (by decide) (List.mem_of_getElem? (i := 6) rfl) rfl rfl dX2_clear_41 ?_
  refine lv_iconst (v := 0) hx hb dX2_clear_44 (by decide) ?_
  refine x_callSv (w := wX cI a) (σ := sf (sf (sf (sf (sf σ 23 (fun _ => 0)) 24 (fun _ => 0)) 25 (fun _ => 0)) 26 (fun _ => 0)) 27 (fun _ => (-1))) (σ' := sf (sf (sf (sf (sf (sf σ 23 (fun _ => 0)) 24 (fun _ => 0)) 25 (fun _ => 0)) 26 (fun _ => 0)) 27 (fun _ => (-1))) 28 (fun _ => 0)) (As := [.ref (a 28), .int 0]) (rest := []) ⟨hx, hb, hml, hown, hts⟩ hG hP hS hsz (c_fill l D cI 29 a (wX cI a) H.size (sf (sf (sf (sf (sf σ 23 (fun _ => 0)) 24 (fun _ => 0)) 25 (fun _ => 0)) 26 (fun _ => 0)) 27 (fun _ => (-1))) 28 10 0 (by decide) (fun _ => rfl) (fun τ f => wX_sf28 cI a τ f)) (va_cwS 2 hts gX2_clear_J7_fill_53178 rfl rfl rfl (by decide +kernel) ⟨Nat.le_of_ble_eq_true rfl, Nat.le_of_ble_eq_true rfl⟩) rfl hl.1 rfl (Nat.le_of_ble_eq_true rfl) ⟨Nat.zero_le _, Nat.zero_le _⟩ dX2_clear_45 (fun H locs hP hS => ?_)
  exact x_vret hx hb hr hlk hsz hP hS (by rw [s_X2_clear]) dX2_clear_48
