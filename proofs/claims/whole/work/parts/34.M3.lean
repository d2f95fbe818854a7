theorem in_X6_isWhen_6 : ∀ wd ∈ u_ws RX6 TX6 29, wd ∈ wsX6_isWhen := by decide +kernel
def r_X6_isWhen (σ : Sg) (wh : Int32) : Int32 :=
  if 60 ≤ σ 0 1 then
    r_X6_in σ wh ((σ 0 1) - 60) (σ 0 1)
  else
    r_X6_in σ wh 0 (σ 0 1)
theorem b_X6_isWhen (σ : Sg) (wh : Int32) : r_X6_isWhen σ wh = 0 ∨ r_X6_isWhen σ wh = 1 := by
  unfold r_X6_isWhen
  repeat' split
  all_goals first | with_reducible exact Or.inl rfl | with_reducible exact Or.inr rfl | with_reducible exact b_X6_in _ _ _ _
set_option maxHeartbeats 4000000 in
set_option maxRecDepth 100000 in
theorem c_X6_isWhen (l : Launch) (D : va_G) (cI : ClassId) (a : Nat → Nat) (sz : Nat) (σ : Sg) (wh : Int32) : Met l yX6_isWhen wsX6_isWhen ({ frames := 1, cells := 0, slots := 0, locals := 22 }) (PcW D cI 24 a (wM cI a) sz σ [.ref (a 0), .int wh]) (QiW D 24 a (wM cI a) sz (r_X6_isWhen σ wh) σ) 0 0 (AX 24 a sz) := by
  refine x_of (cc := cX6_isWhen) (maxL := 2) (ret := some .boolean) (C := RX6) rfl (by decide) rfl (Nat.le_of_ble_eq_true rfl) (fun p e s m below meth c hx hb hr hml hlk hts hown hsz H hP hS hG ls hl => ?_)
  have hl : lv_has ls 2 [(0, .ref (a 0)), (1, .int wh)] := hl
  refine lv_iload_n hx hb dX6_isWhen_0 rfl (lv_at hl 1 rfl) ?_
  refine lv_aload_n hx hb dX6_isWhen_1 rfl (lv_at hl 0 rfl) ?_
  refine x_get (ci := 6) (C := RX6) (T := TX6) (M := 29) (v := .int (σ 0 1)) hx hb hts in_X6_isWhen_6 hown hG hP 0 rfl rfl 1 (by decide) (List.mem_of_getElem? (i := 1) rfl) rfl rfl dX6_isWhen_2 ?_
  refine lv_bipush (v := 60) hx hb dX6_isWhen_5 (by decide) ?_
  refine lv_icmp_ge (tgt := 14) hx hb dX6_isWhen_7 (by decide) (fun h_1 => ?_) (fun h_1 => ?_)
  · refine lv_aload_n hx hb dX6_isWhen_14 rfl (lv_at hl 0 rfl) ?_
    refine x_get (ci := 6) (C := RX6) (T := TX6) (M := 29) (v := .int (σ 0 1)) hx hb hts in_X6_isWhen_6 hown hG hP 0 rfl rfl 1 (by decide) (List.mem_of_getElem? (i := 1) rfl) rfl rfl dX6_isWhen_15 ?_
    refine lv_bipush (v := 60) hx hb dX6_isWhen_18 (by decide) ?_
    refine lv_isub hx hb dX6_isWhen_20 ?_
    refine lv_aload_n hx hb dX6_isWhen_21 rfl (lv_at hl 0 rfl) ?_
    refine x_get (ci := 6) (C := RX6) (T := TX6) (M := 29) (v := .int (σ 0 1)) hx hb hts in_X6_isWhen_6 hown hG hP 0 rfl rfl 1 (by decide) (List.mem_of_getElem? (i := 1) rfl) rfl rfl dX6_isWhen_22 ?_
    refine x_callSi (w := wM cI a) (σ := σ) (σ' := σ) (As := [.int wh, .int ((σ 0 1) - 60), .int (σ 0 1)]) (rest := []) ⟨hx, hb, hml, hown, hts⟩ hG hP hS hsz (c_X6_in l D cI a H.size σ wh ((σ 0 1) - 60) (σ 0 1)) (va_cwS 3 hts gX6_isWhen_X6_in rfl rfl rfl (by decide +kernel) ⟨Nat.le_of_ble_eq_true rfl, Nat.le_of_ble_eq_true rfl⟩) rfl hl.1 rfl (Nat.le_of_ble_eq_true rfl) ⟨Nat.zero_le _, Nat.zero_le _⟩ dX6_isWhen_25 (fun H locs hP hS => ?_)
    exact x_iret hx hb hr hlk hsz hP hS (nb01 (b_X6_in _ _ _ _)) (by rw [r_X6_isWhen, if_pos h_1]) rfl dX6_isWhen_28
  · refine lv_iconst (v := 0) hx hb dX6_isWhen_10 (by decide) ?_
    refine lv_goto (tgt := 21) hx hb dX6_isWhen_11 (by decide) ?_
    refine lv_aload_n hx hb dX6_isWhen_21 rfl (lv_at hl 0 rfl) ?_
    refine x_get (ci := 6) (C := RX6) (T := TX6) (M := 29) (v := .int (σ 0 1)) hx hb hts in_X6_isWhen_6 hown hG hP 0 rfl rfl 1 (by decide) (List.mem_of_getElem? (i := 1) rfl) rfl rfl dX6_isWhen_22 ?_
    refine x_callSi (w := wM cI a) (σ := σ) (σ' := σ) (As := [.int wh, .int 0, .int (σ 0 1)]) (rest := []) ⟨hx, hb, hml, hown, hts⟩ hG hP hS hsz (c_X6_in l D cI a H.size σ wh 0 (σ 0 1)) (va_cwS 3 hts gX6_isWhen_X6_in rfl rfl rfl (by decide +kernel) ⟨Nat.le_of_ble_eq_true rfl, Nat.le_of_ble_eq_true rfl⟩) rfl hl.1 rfl (Nat.le_of_ble_eq_true rfl) ⟨Nat.zero_le _, Nat.zero_le _⟩ dX6_isWhen_25 (fun H locs hP hS => ?_)
    exact x_iret hx hb hr hlk hsz hP hS (nb01 (b_X6_in _ _ _ _)) (by rw [r_X6_isWhen, if_neg h_1]) rfl dX6_isWhen_28
theorem in_X6_docks_6 : ∀ wd ∈ u_ws RX6 TX6 29, wd ∈ wsX6_docks := by decide +kernel
def s_X6_docks (σ : Sg) (st : Int32) (ma : Int32) (n : Nat) : Sg :=
  if r_X6_isStation σ st = 0 then
    s_X6_goesWell σ 1
  else
    if r_X6_in σ ma 0 20 = 0 then
      s_X6_goesWell σ 2
    else
      if σ 0 5 = 300 then
        s_X6_goesWell σ 3
      else
        s_X6_keep (s_X6_goesWell σ 0) 0 st ma ((s_X6_goesWell σ 0) 0 1) n
set_option maxHeartbeats 4000000 in
set_option maxRecDepth 100000 in
theorem c_X6_docks (l : Launch) (D : va_G) (cI : ClassId) (a : Nat → Nat) (sz : Nat) (σ : Sg) (st : Int32) (ma : Int32) (n : Nat) (hn : n ≤ 300) (hcn : σ 0 5 = nI n) : Met l yX6_docks wsX6_docks ({ frames := 2, cells := 0, slots := 0, locals := 42 }) (PcW D cI 24 a (wM cI a) sz σ [.ref (a 0), .int st, .int ma]) (QvW D 24 a (wM cI a) sz (s_X6_docks σ st ma n)) 0 0 (AX 24 a sz) := by
  refine x_of (cc := cX6_docks) (maxL := 4) (ret := none) (C := RX6) rfl (by decide) rfl (Nat.le_of_ble_eq_true rfl) (fun p e s m below meth c hx hb hr hml hlk hts hown hsz H hP hS hG ls hl => ?_)
  have hl : lv_has ls 4 [(0, .ref (a 0)), (1, .int st), (2, .int ma)] := hl
  refine lv_iload_n hx hb dX6_docks_0 rfl (lv_at hl 1 rfl) ?_
  refine x_callSi (w := wM cI a) (σ := σ) (σ' := σ) (As := [.int st]) (rest := []) ⟨hx, hb, hml, hown, hts⟩ hG hP hS hsz (c_X6_isStation l D cI a H.size σ st) (va_cwS 1 hts gX6_docks_X6_isStation rfl rfl rfl (by decide +kernel) ⟨Nat.le_of_ble_eq_true rfl, Nat.le_of_ble_eq_true rfl⟩) rfl hl.1 rfl (Nat.le_of_ble_eq_true rfl) ⟨Nat.zero_le _, Nat.zero_le _⟩ dX6_docks_1 (fun H locs hP hS => ?_)
  refine lv_istore_n (lv' := [(3, .int (r_X6_isStation σ st)), (0, .ref (a 0)), (1, .int st), (2, .int ma)]) hx hb dX6_docks_4 rfl hl (by decide) rfl (fun ls hl => ?_)
  refine lv_aload_n hx hb dX6_docks_5 rfl (lv_at hl 1 rfl) ?_
  refine lv_iload_n hx hb dX6_docks_6 rfl (lv_at hl 0 rfl) ?_
  refine lv_if_ne (tgt := 14) hx hb dX6_docks_7 (by decide) (fun h_1 => ?_) (fun h_1 => ?_)
  · refine lv_iload_n hx hb dX6_docks_14 rfl (lv_at hl 3 rfl) ?_
    refine lv_iconst (v := 0) hx hb dX6_docks_15 (by decide) ?_
    refine lv_bipush (v := 20) hx hb dX6_docks_16 (by decide) ?_
    refine x_callSi (w := wM cI a) (σ := σ) (σ' := σ) (As := [.int ma, .int 0, .int 20]) (rest := [.ref (a 0)]) ⟨hx, hb, hml, hown, hts⟩ hG hP hS hsz (c_X6_in l D cI a H.size σ ma 0 20) (va_cwS 3 hts gX6_docks_X6_in rfl rfl rfl (by decide +kernel) ⟨Nat.le_of_ble_eq_true rfl, Nat.le_of_ble_eq_true rfl⟩) rfl hl.1 rfl (Nat.le_of_ble_eq_true rfl) ⟨Nat.zero_le _, Nat.zero_le _⟩ dX6_docks_18 (fun H locs hP hS => ?_)
    refine lv_if_ne (tgt := 28) hx hb dX6_docks_21 (by decide) (fun h_2 => ?_) (fun h_2 => ?_)
    · refine lv_aload_n hx hb dX6_docks_28 rfl (lv_at hl 1 rfl) ?_
      refine x_get (ci := 6) (C := RX6) (T := TX6) (M := 29) (v := .int (σ 0 5)) hx hb hts in_X6_docks_6 hown hG hP 0 rfl rfl 5 (by decide) (List.mem_of_getElem? (i := 1) rfl) rfl rfl dX6_docks_29 ?_
      refine lv_sipush (v := 300) hx hb dX6_docks_32 (by decide) ?_
      refine lv_icmp_ne (tgt := 42) hx hb dX6_docks_35 (by decide) (fun h_3 => ?_) (fun h_3 => ?_)
      · refine lv_iconst (v := 0) hx hb dX6_docks_42 (by decide) ?_
        refine x_callVi (w := wM cI a) (σ := σ) (σ' := s_X6_goesWell σ 0) (As := [.int 0]) (rest := []) (q0 := 0) ⟨hx, hb, hml, hown, hts⟩ hG hP hS hsz (c_X6_goesWell l D cI a H.size σ 0) (cwV 1 hts gX6_docks_X6_goesWell rfl rfl rfl (by decide +kernel) ⟨Nat.le_of_ble_eq_true rfl, Nat.le_of_ble_eq_true rfl⟩) rfl rfl rfl rfl hl.1 rfl (Nat.le_of_ble_eq_true rfl) ⟨Nat.zero_le _, Nat.zero_le _⟩ dX6_docks_43 (fun H locs hP hS => ?_)
        refine W.eq (g2 := F0 m 46 ls [.int 1]) rfl ?_
        refine lv_if_eq (tgt := 61) hx hb dX6_docks_46 (by decide) (fun h => absurd h (by decide)) (fun _ => ?_)
        refine lv_aload_n hx hb dX6_docks_49 rfl (lv_at hl 1 rfl) ?_
        refine lv_iconst (v := 0) hx hb dX6_docks_50 (by decide) ?_
        refine lv_iload_n hx hb dX6_docks_51 rfl (lv_at hl 2 rfl) ?_
        refine lv_iload_n hx hb dX6_docks_52 rfl (lv_at hl 3 rfl) ?_
        refine lv_aload_n hx hb dX6_docks_53 rfl (lv_at hl 1 rfl) ?_
        refine x_get (ci := 6) (C := RX6) (T := TX6) (M := 29) (v := .int ((s_X6_goesWell σ 0) 0 1)) hx hb hts in_X6_docks_6 hown hG hP 0 rfl rfl 1 (by decide) (List.mem_of_getElem? (i := 2) rfl) rfl rfl dX6_docks_54 ?_
        refine x_callVi (w := wM cI a) (σ := s_X6_goesWell σ 0) (σ' := s_X6_keep (s_X6_goesWell σ 0) 0 st ma ((s_X6_goesWell σ 0) 0 1) n) (As := [.int 0, .int st, .int ma, .int ((s_X6_goesWell σ 0) 0 1)]) (rest := []) (q0 := 0) ⟨hx, hb, hml, hown, hts⟩ hG hP hS hsz (c_X6_keep l D cI a H.size (s_X6_goesWell σ 0) 0 st ma ((s_X6_goesWell σ 0) 0 1) n (lt300 hcn hn h_3) hcn) (cwV 4 hts gX6_docks_X6_keep rfl rfl rfl (by decide +kernel) ⟨Nat.le_of_ble_eq_true rfl, Nat.le_of_ble_eq_true rfl⟩) rfl rfl rfl rfl hl.1 rfl (Nat.le_of_ble_eq_true rfl) ⟨Nat.zero_le _, Nat.zero_le _⟩ dX6_docks_57 (fun H locs hP hS => ?_)
        refine lv_pop hx hb dX6_docks_60 rfl ?_
        exact x_vret hx hb hr hlk hsz hP hS (by rw [s_X6_docks, if_neg h_1, if_neg h_2, if_neg h_3]) dX6_docks_61
      · refine lv_iconst (v := 3) hx hb dX6_docks_38 (by decide) ?_
        refine lv_goto (tgt := 43) hx hb dX6_docks_39 (by decide) ?_
        refine x_callVi (w := wM cI a) (σ := σ) (σ' := s_X6_goesWell σ 3) (As := [.int 3]) (rest := []) (q0 := 0) ⟨hx, hb, hml, hown, hts⟩ hG hP hS hsz (c_X6_goesWell l D cI a H.size σ 3) (cwV 1 hts gX6_docks_X6_goesWell rfl rfl rfl (by decide +kernel) ⟨Nat.le_of_ble_eq_true rfl, Nat.le_of_ble_eq_true rfl⟩) rfl rfl rfl rfl hl.1 rfl (Nat.le_of_ble_eq_true rfl) ⟨Nat.zero_le _, Nat.zero_le _⟩ dX6_docks_43 (fun H locs hP hS => ?_)
        refine W.eq (g2 := F0 m 46 ls [.int 0]) rfl ?_
        refine lv_if_eq (tgt := 61) hx hb dX6_docks_46 (by decide) (fun _ => ?_) (fun h => absurd (by decide) h)
        exact x_vret hx hb hr hlk hsz hP hS (by rw [s_X6_docks, if_neg h_1, if_neg h_2, if_pos h_3]) dX6_docks_61
    · refine lv_iconst (v := 2) hx hb dX6_docks_24 (by decide) ?_
      refine lv_goto (tgt := 43) hx hb dX6_docks_25 (by decide) ?_
      refine x_callVi (w := wM cI a) (σ := σ) (σ' := s_X6_goesWell σ 2) (As := [.int 2]) (rest := []) (q0 := 0) ⟨hx, hb, hml, hown, hts⟩ hG hP hS hsz (c_X6_goesWell l D cI a H.size σ 2) (cwV 1 hts gX6_docks_X6_goesWell rfl rfl rfl (by decide +kernel) ⟨Nat.le_of_ble_eq_true rfl, Nat.le_of_ble_eq_true rfl⟩) rfl rfl rfl rfl hl.1 rfl (Nat.le_of_ble_eq_true rfl) ⟨Nat.zero_le _, Nat.zero_le _⟩ dX6_docks_43 (fun H locs hP hS => ?_)
      refine W.eq (g2 := F0 m 46 ls [.int 0]) rfl ?_
      refine lv_if_eq (tgt := 61) hx hb dX6_docks_46 (by decide) (fun _ => ?_) (fun h => absurd (by decide) h)
      exact x_vret hx hb hr hlk hsz hP hS (by rw [s_X6_docks, if_neg h_1, if_pos h_2]) dX6_docks_61
  · refine lv_iconst (v := 1) hx hb dX6_docks_10 (by decide) ?_
    refine lv_goto (tgt := 43) hx hb dX6_docks_11 (by decide) ?_
    refine x_callVi (w := wM cI a) (σ := σ) (σ' := s_X6_goesWell σ 1) (As := [.int 1]) (rest := []) (q0 := 0) ⟨hx, hb, hml, hown, hts⟩ hG hP hS hsz (c_X6_goesWell l D cI a H.size σ 1) (cwV 1 hts gX6_docks_X6_goesWell rfl rfl rfl (by decide +kernel) ⟨Nat.le_of_ble_eq_true rfl, Nat.le_of_ble_eq_true rfl⟩) rfl rfl rfl rfl hl.1 rfl (Nat.le_of_ble_eq_true rfl) ⟨Nat.zero_le _, Nat.zero_le _⟩ dX6_docks_43 (fun H locs hP hS => ?_)
    refine W.eq (g2 := F0 m 46 ls [.int 0]) rfl ?_
    refine lv_if_eq (tgt := 61) hx hb dX6_docks_46 (by decide) (fun _ => ?_) (fun h => absurd (by decide) h)
    exact x_vret hx hb hr hlk hsz hP hS (by rw [s_X6_docks, if_pos h_1]) dX6_docks_61
theorem in_X6_put_6 : ∀ wd ∈ u_ws RX6 TX6 29, wd ∈ wsX6_put := by decide +kernel
def r_X6_put (σ : Sg) (cy : Int32) (st : Int32) (n : Nat) : Int32 :=
  if r_X6_isCycle σ cy = 0 then
    0
  else
    if r_X6_isStation σ st = 0 then
      0
    else
      if σ 0 5 = 300 then
        0
      else
        if r_X6_tell (s_X6_goesWell σ 0) 1 cy st n = 0 then
          0
        else
          1
def s_X6_put (σ : Sg) (cy : Int32) (st : Int32) (n : Nat) : Sg :=
  if r_X6_isCycle σ cy = 0 then
    s_X6_goesWell σ 1
  else
    if r_X6_isStation σ st = 0 then
      s_X6_goesWell σ 1
    else
      if σ 0 5 = 300 then
        s_X6_goesWell σ 2
      else
        if r_X6_tell (s_X6_goesWell σ 0) 1 cy st n = 0 then
          s_X6_tell (s_X6_goesWell σ 0) 1 cy st n
        else
          s_X6_tell (s_X6_goesWell σ 0) 1 cy st n
theorem b_X6_put (σ : Sg) (cy : Int32) (st : Int32) (n : Nat) : r_X6_put σ cy st n = 0 ∨ r_X6_put σ cy st n = 1 := by
  unfold r_X6_put
  repeat' split
  all_goals first | with_reducible exact Or.inl rfl | with_reducible exact Or.inr rfl | with_reducible exact b_X6_tell _ _ _ _
set_option maxHeartbeats 4000000 in
set_option maxRecDepth 100000 in
theorem c_X6_put (l : Launch) (D : va_G) (cI : ClassId) (a : Nat → Nat) (sz : Nat) (σ : Sg) (cy : Int32) (st : Int32) (n : Nat) (hn : n ≤ 300) (hcn : σ 0 5 = nI n) (hg : ¬ σ 0 5 = 300 → gOK (sx (s_X6_keep (s_X6_goesWell σ 0) 1 cy st ((s_X6_goesWell σ 0) 0 1) n) 0 28 (r_X6_keep (s_X6_goesWell σ 0) 1 cy st ((s_X6_goesWell σ 0) 0 1) n)) (n + 1)) : Met l yX6_put wsX6_put ({ frames := 6, cells := 0, slots := 0, locals := 144 }) (PcW D cI 24 a (wM cI a) sz σ [.ref (a 0), .int cy, .int st]) (QiW D 24 a (wM cI a) sz (r_X6_put σ cy st n) (s_X6_put σ cy st n)) 0 0 (AX 24 a sz) := by
  refine x_of (cc := cX6_put) (maxL := 4) (ret := some .boolean) (C := RX6) rfl (by decide) rfl (Nat.le_of_ble_eq_true rfl) (fun p e s m below meth c hx hb hr hml hlk hts hown hsz H hP hS hG ls hl => ?_)
  have hl : lv_has ls 4 [(0, .ref (a 0)), (1, .int cy), (2, .int st)] := hl
  refine lv_iload_n hx hb dX6_put_0 rfl (lv_at hl 1 rfl) ?_
  refine x_callSi (w := wM cI a) (σ := σ) (σ' := σ) (As := [.int cy]) (rest := []) ⟨hx, hb, hml, hown, hts⟩ hG hP hS hsz (c_X6_isCycle l D cI a H.size σ cy) (va_cwS 1 hts gX6_put_X6_isCycle rfl rfl rfl (by decide +kernel) ⟨Nat.le_of_ble_eq_true rfl, Nat.le_of_ble_eq_true rfl⟩) rfl hl.1 rfl (Nat.le_of_ble_eq_true rfl) ⟨Nat.zero_le _, Nat.zero_le _⟩ dX6_put_1 (fun H locs hP hS => ?_)
  refine lv_if_eq (tgt := 18) hx hb dX6_put_4 (by decide) (fun h_1 => ?_) (fun h_1 => ?_)
  · refine lv_iconst (v := 0) hx hb dX6_put_18 (by decide) ?_
    refine lv_istore_n (lv' := [(3, .int 0), (0, .ref (a 0)), (1, .int cy), (2, .int st)]) hx hb dX6_put_19 rfl hl (by decide) rfl (fun ls hl => ?_)
    refine lv_aload_n hx hb dX6_put_20 rfl (lv_at hl 1 rfl) ?_
    refine lv_iload_n hx hb dX6_put_21 rfl (lv_at hl 0 rfl) ?_
    refine lv_if_ne (tgt := 29) hx hb dX6_put_22 (by decide) (fun h => absurd (by decide) h) (fun _ => ?_)
    refine lv_iconst (v := 1) hx hb dX6_put_25 (by decide) ?_
    refine lv_goto (tgt := 44) hx hb dX6_put_26 (by decide) ?_
    refine x_callVi (w := wM cI a) (σ := σ) (σ' := s_X6_goesWell σ 1) (As := [.int 1]) (rest := []) (q0 := 0) ⟨hx, hb, hml, hown, hts⟩ hG hP hS hsz (c_X6_goesWell l D cI a H.size σ 1) (cwV 1 hts gX6_put_X6_goesWell rfl rfl rfl (by decide +kernel) ⟨Nat.le_of_ble_eq_true rfl, Nat.le_of_ble_eq_true rfl⟩) rfl rfl rfl rfl hl.1 rfl (Nat.le_of_ble_eq_true rfl) ⟨Nat.zero_le _, Nat.zero_le _⟩ dX6_put_44 (fun H locs hP hS => ?_)
    refine W.eq (g2 := F0 m 47 ls [.int 0]) rfl ?_
    refine lv_if_eq (tgt := 64) hx hb dX6_put_47 (by decide) (fun _ => ?_) (fun h => absurd (by decide) h)
    refine lv_iconst (v := 0) hx hb dX6_put_64 (by decide) ?_
    exact x_iret hx hb hr hlk hsz hP hS rfl (by rw [r_X6_put, if_pos h_1]) (by rw [s_X6_put, if_pos h_1]) dX6_put_65
  · refine lv_iload_n hx hb dX6_put_7 rfl (lv_at hl 2 rfl) ?_
    refine x_callSi (w := wM cI a) (σ := σ) (σ' := σ) (As := [.int st]) (rest := []) ⟨hx, hb, hml, hown, hts⟩ hG hP hS hsz (c_X6_isStation l D cI a H.size σ st) (va_cwS 1 hts gX6_put_X6_isStation rfl rfl rfl (by decide +kernel) ⟨Nat.le_of_ble_eq_true rfl, Nat.le_of_ble_eq_true rfl⟩) rfl hl.1 rfl (Nat.le_of_ble_eq_true rfl) ⟨Nat.zero_le _, Nat.zero_le _⟩ dX6_put_8 (fun H locs hP hS => ?_)
    refine lv_if_eq (tgt := 18) hx hb dX6_put_11 (by decide) (fun h_2 => ?_) (fun h_2 => ?_)
    · refine lv_iconst (v := 0) hx hb dX6_put_18 (by decide) ?_
      refine lv_istore_n (lv' := [(3, .int 0), (0, .ref (a 0)), (1, .int cy), (2, .int st)]) hx hb dX6_put_19 rfl hl (by decide) rfl (fun ls hl => ?_)
      refine lv_aload_n hx hb dX6_put_20 rfl (lv_at hl 1 rfl) ?_
      refine lv_iload_n hx hb dX6_put_21 rfl (lv_at hl 0 rfl) ?_
      refine lv_if_ne (tgt := 29) hx hb dX6_put_22 (by decide) (fun h => absurd (by decide) h) (fun _ => ?_)
      refine lv_iconst (v := 1) hx hb dX6_put_25 (by decide) ?_
      refine lv_goto (tgt := 44) hx hb dX6_put_26 (by decide) ?_
      refine x_callVi (w := wM cI a) (σ := σ) (σ' := s_X6_goesWell σ 1) (As := [.int 1]) (rest := []) (q0 := 0) ⟨hx, hb, hml, hown, hts⟩ hG hP hS hsz (c_X6_goesWell l D cI a H.size σ 1) (cwV 1 hts gX6_put_X6_goesWell rfl rfl rfl (by decide +kernel) ⟨Nat.le_of_ble_eq_true rfl, Nat.le_of_ble_eq_true rfl⟩) rfl rfl rfl rfl hl.1 rfl (Nat.le_of_ble_eq_true rfl) ⟨Nat.zero_le _, Nat.zero_le _⟩ dX6_put_44 (fun H locs hP hS => ?_)
      refine W.eq (g2 := F0 m 47 ls [.int 0]) rfl ?_
      refine lv_if_eq (tgt := 64) hx hb dX6_put_47 (by decide) (fun _ => ?_) (fun h => absurd (by decide) h)
      refine lv_iconst (v := 0) hx hb dX6_put_64 (by decide) ?_
      exact x_iret hx hb hr hlk hsz hP hS rfl (by rw [r_X6_put, if_neg h_1, if_pos h_2]) (by rw [s_X6_put, if_neg h_1, if_pos h_2]) dX6_put_65
    · refine lv_iconst (v := 1) hx hb dX6_put_14 (by decide) ?_
      refine lv_goto (tgt := 19) hx hb dX6_put_15 (by decide) ?_
      refine lv_istore_n (lv' := [(3, .int 1), (0, .ref (a 0)), (1, .int cy), (2, .int st)]) hx hb dX6_put_19 rfl hl (by decide) rfl (fun ls hl => ?_)
      refine lv_aload_n hx hb dX6_put_20 rfl (lv_at hl 1 rfl) ?_
      refine lv_iload_n hx hb dX6_put_21 rfl (lv_at hl 0 rfl) ?_
      refine lv_if_ne (tgt := 29) hx hb dX6_put_22 (by decide) (fun _ => ?_) (fun h => absurd h (by decide))
      refine lv_aload_n hx hb dX6_put_29 rfl (lv_at hl 1 rfl) ?_
      refine x_get (ci := 6) (C := RX6) (T := TX6) (M := 29) (v := .int (σ 0 5)) hx hb hts in_X6_put_6 hown hG hP 0 rfl rfl 5 (by decide) (List.mem_of_getElem? (i := 1) rfl) rfl rfl dX6_put_30 ?_
      refine lv_sipush (v := 300) hx hb dX6_put_33 (by decide) ?_
      refine lv_icmp_ne (tgt := 43) hx hb dX6_put_36 (by decide) (fun h_3 => ?_) (fun h_3 => ?_)
      · refine lv_iconst (v := 0) hx hb dX6_put_43 (by decide) ?_
        refine x_callVi (w := wM cI a) (σ := σ) (σ' := s_X6_goesWell σ 0) (As := [.int 0]) (rest := []) (q0 := 0) ⟨hx, hb, hml, hown, hts⟩ hG hP hS hsz (c_X6_goesWell l D cI a H.size σ 0) (cwV 1 hts gX6_put_X6_goesWell rfl rfl rfl (by decide +kernel) ⟨Nat.le_of_ble_eq_true rfl, Nat.le_of_ble_eq_true rfl⟩) rfl rfl rfl rfl hl.1 rfl (Nat.le_of_ble_eq_true rfl) ⟨Nat.zero_le _, Nat.zero_le _⟩ dX6_put_44 (fun H locs hP hS => ?_)
        refine W.eq (g2 := F0 m 47 ls [.int 1]) rfl ?_
        refine lv_if_eq (tgt := 64) hx hb dX6_put_47 (by decide) (fun h => absurd h (by decide)) (fun _ => ?_)
        refine lv_aload_n hx hb dX6_put_50 rfl (lv_at hl 1 rfl) ?_
        refine lv_iconst (v := 1) hx hb dX6_put_51 (by decide) ?_
        refine lv_iload_n hx hb dX6_put_52 rfl (lv_at hl 2 rfl) ?_
        refine lv_iload_n hx hb dX6_put_53 rfl (lv_at hl 3 rfl) ?_
        refine x_callVi (w := wM cI a) (σ := s_X6_goesWell σ 0) (σ' := s_X6_tell (s_X6_goesWell σ 0) 1 cy st n) (As := [.int 1, .int cy, .int st]) (rest := []) (q0 := 0) ⟨hx, hb, hml, hown, hts⟩ hG hP hS hsz (c_X6_tell l D cI a H.size (s_X6_goesWell σ 0) 1 cy st n (lt300 hcn hn h_3) hcn (hg h_3)) (cwV 3 hts gX6_put_X6_tell rfl rfl rfl (by decide +kernel) ⟨Nat.le_of_ble_eq_true rfl, Nat.le_of_ble_eq_true rfl⟩) rfl rfl rfl rfl hl.1 rfl (Nat.le_of_ble_eq_true rfl) ⟨Nat.zero_le _, Nat.zero_le _⟩ dX6_put_54 (fun H locs hP hS => ?_)
        refine lv_if_eq (tgt := 64) hx hb dX6_put_57 (by decide) (fun h_4 => ?_) (fun h_4 => ?_)
        · refine lv_iconst (v := 0) hx hb dX6_put_64 (by decide) ?_
          exact x_iret hx hb hr hlk hsz hP hS rfl (by rw [r_X6_put, if_neg h_1, if_neg h_2, if_neg h_3, if_pos h_4]) (by rw [s_X6_put, if_neg h_1, if_neg h_2, if_neg h_3, if_pos h_4]) dX6_put_65
        · refine lv_iconst (v := 1) hx hb dX6_put_60 (by decide) ?_
          refine lv_goto (tgt := 65) hx hb dX6_put_61 (by decide) ?_
          exact x_iret hx hb hr hlk hsz hP hS rfl (by rw [r_X6_put, if_neg h_1, if_neg h_2, if_neg h_3, if_neg h_4]) (by rw [s_X6_put, if_neg h_1, if_neg h_2, if_neg h_3, if_neg h_4]) dX6_put_65
      · refine lv_iconst (v := 2) hx hb dX6_put_39 (by decide) ?_
        refine lv_goto (tgt := 44) hx hb dX6_put_40 (by decide) ?_
        refine x_callVi (w := wM cI a) (σ := σ) (σ' := s_X6_goesWell σ 2) (As := [.int 2]) (rest := []) (q0 := 0) ⟨hx, hb, hml, hown, hts⟩ hG hP hS hsz (c_X6_goesWell l D cI a H.size σ 2) (cwV 1 hts gX6_put_X6_goesWell rfl rfl rfl (by decide +kernel) ⟨Nat.le_of_ble_eq_true rfl, Nat.le_of_ble_eq_true rfl⟩) rfl rfl rfl rfl hl.1 rfl (Nat.le_of_ble_eq_true rfl) ⟨Nat.zero_le _, Nat.zero_le _⟩ dX6_put_44 (fun H locs hP hS => ?_)
        refine W.eq (g2 := F0 m 47 ls [.int 0]) rfl ?_
        refine lv_if_eq (tgt := 64) hx hb dX6_put_47 (by decide) (fun _ => ?_) (fun h => absurd (by decide) h)
        refine lv_iconst (v := 0) hx hb dX6_put_64 (by decide) ?_
        exact x_iret hx hb hr hlk hsz hP hS rfl (by rw [r_X6_put, if_neg h_1, if_neg h_2, if_pos h_3]) (by rw [s_X6_put, if_neg h_1, if_neg h_2, if_pos h_3]) dX6_put_65
theorem in_X6_take_6 : ∀ wd ∈ u_ws RX6 TX6 29, wd ∈ wsX6_take := by decide +kernel
def r_X6_take (σ : Sg) (cy : Int32) (n : Nat) : Int32 :=
  if r_X6_isCycle σ cy = 0 then
    0
  else
    if σ 0 5 = 300 then
      0
    else
      if r_X6_tell (s_X6_goesWell σ 0) 2 cy 0 n = 0 then
        0
      else
        1
def s_X6_take (σ : Sg) (cy : Int32) (n : Nat) : Sg :=
  if r_X6_isCycle σ cy = 0 then
    s_X6_goesWell σ 1
  else
    if σ 0 5 = 300 then
      s_X6_goesWell σ 2
    else
      if r_X6_tell (s_X6_goesWell σ 0) 2 cy 0 n = 0 then
        s_X6_tell (s_X6_goesWell σ 0) 2 cy 0 n
      else
        s_X6_tell (s_X6_goesWell σ 0) 2 cy 0 n
theorem b_X6_take (σ : Sg) (cy : Int32) (n : Nat) : r_X6_take σ cy n = 0 ∨ r_X6_take σ cy n = 1 := by
  unfold r_X6_take
  repeat' split
  all_goals first | with_reducible exact Or.inl rfl | with_reducible exact Or.inr rfl | with_reducible exact b_X6_tell _ _ _ _
set_option maxHeartbeats 4000000 in
set_option maxRecDepth 100000 in
theorem c_X6_take (l : Launch) (D : va_G) (cI : ClassId) (a : Nat → Nat) (sz : Nat) (σ : Sg) (cy : Int32) (n : Nat) (hn : n ≤ 300) (hcn : σ 0 5 = nI n) (hg : ¬ σ 0 5 = 300 → gOK (sx (s_X6_keep (s_X6_goesWell σ 0) 2 cy 0 ((s_X6_goesWell σ 0) 0 1) n) 0 28 (r_X6_keep (s_X6_goesWell σ 0) 2 cy 0 ((s_X6_goesWell σ 0) 0 1) n)) (n + 1)) : Met l yX6_take wsX6_take ({ frames := 6, cells := 0, slots := 0, locals := 144 }) (PcW D cI 24 a (wM cI a) sz σ [.ref (a 0), .int cy]) (QiW D 24 a (wM cI a) sz (r_X6_take σ cy n) (s_X6_take σ cy n)) 0 0 (AX 24 a sz) := by
  refine x_of (cc := cX6_take) (maxL := 2) (ret := some .boolean) (C := RX6) rfl (by decide) rfl (Nat.le_of_ble_eq_true rfl) (fun p e s m below meth c hx hb hr hml hlk hts hown hsz H hP hS hG ls hl => ?_)
  have hl : lv_has ls 2 [(0, .ref (a 0)), (1, .int cy)] := hl
  refine lv_aload_n hx hb dX6_take_0 rfl (lv_at hl 0 rfl) ?_
  refine lv_iload_n hx hb dX6_take_1 rfl (lv_at hl 1 rfl) ?_
  refine x_callSi (w := wM cI a) (σ := σ) (σ' := σ) (As := [.int cy]) (rest := [.ref (a 0)]) ⟨hx, hb, hml, hown, hts⟩ hG hP hS hsz (c_X6_isCycle l D cI a H.size σ cy) (va_cwS 1 hts gX6_take_X6_isCycle rfl rfl rfl (by decide +kernel) ⟨Nat.le_of_ble_eq_true rfl, Nat.le_of_ble_eq_true rfl⟩) rfl hl.1 rfl (Nat.le_of_ble_eq_true rfl) ⟨Nat.zero_le _, Nat.zero_le _⟩ dX6_take_2 (fun H locs hP hS => ?_)
  refine lv_if_ne (tgt := 12) hx hb dX6_take_5 (by decide) (fun h_1 => ?_) (fun h_1 => ?_)
  · refine lv_aload_n hx hb dX6_take_12 rfl (lv_at hl 0 rfl) ?_
    refine x_get (ci := 6) (C := RX6) (T := TX6) (M := 29) (v := .int (σ 0 5)) hx hb hts in_X6_take_6 hown hG hP 0 rfl rfl 5 (by decide) (List.mem_of_getElem? (i := 1) rfl) rfl rfl dX6_take_13 ?_
    refine lv_sipush (v := 300) hx hb dX6_take_16 (by decide) ?_
    refine lv_icmp_ne (tgt := 26) hx hb dX6_take_19 (by decide) (fun h_2 => ?_) (fun h_2 => ?_)
    · refine lv_iconst (v := 0) hx hb dX6_take_26 (by decide) ?_
      refine x_callVi (w := wM cI a) (σ := σ) (σ' := s_X6_goesWell σ 0) (As := [.int 0]) (rest := []) (q0 := 0) ⟨hx, hb, hml, hown, hts⟩ hG hP hS hsz (c_X6_goesWell l D cI a H.size σ 0) (cwV 1 hts gX6_take_X6_goesWell rfl rfl rfl (by decide +kernel) ⟨Nat.le_of_ble_eq_true rfl, Nat.le_of_ble_eq_true rfl⟩) rfl rfl rfl rfl hl.1 rfl (Nat.le_of_ble_eq_true rfl) ⟨Nat.zero_le _, Nat.zero_le _⟩ dX6_take_27 (fun H locs hP hS => ?_)
      refine W.eq (g2 := F0 m 30 ls [.int 1]) rfl ?_
      refine lv_if_eq (tgt := 47) hx hb dX6_take_30 (by decide) (fun h => absurd h (by decide)) (fun _ => ?_)
      refine lv_aload_n hx hb dX6_take_33 rfl (lv_at hl 0 rfl) ?_
      refine lv_iconst (v := 2) hx hb dX6_take_34 (by decide) ?_
      refine lv_iload_n hx hb dX6_take_35 rfl (lv_at hl 1 rfl) ?_
      refine lv_iconst (v := 0) hx hb dX6_take_36 (by decide) ?_
      refine x_callVi (w := wM cI a) (σ := s_X6_goesWell σ 0) (σ' := s_X6_tell (s_X6_goesWell σ 0) 2 cy 0 n) (As := [.int 2, .int cy, .int 0]) (rest := []) (q0 := 0) ⟨hx, hb, hml, hown, hts⟩ hG hP hS hsz (c_X6_tell l D cI a H.size (s_X6_goesWell σ 0) 2 cy 0 n (lt300 hcn hn h_2) hcn (hg h_2)) (cwV 3 hts gX6_take_X6_tell rfl rfl rfl (by decide +kernel) ⟨Nat.le_of_ble_eq_true rfl, Nat.le_of_ble_eq_true rfl⟩) rfl rfl rfl rfl hl.1 rfl (Nat.le_of_ble_eq_true rfl) ⟨Nat.zero_le _, Nat.zero_le _⟩ dX6_take_37 (fun H locs hP hS => ?_)
      refine lv_if_eq (tgt := 47) hx hb dX6_take_40 (by decide) (fun h_3 => ?_) (fun h_3 => ?_)
      · refine lv_iconst (v := 0) hx hb dX6_take_47 (by decide) ?_
        exact x_iret hx hb hr hlk hsz hP hS rfl (by rw [r_X6_take, if_neg h_1, if_neg h_2, if_pos h_3]) (by rw [s_X6_take, if_neg h_1, if_neg h_2, if_pos h_3]) dX6_take_48
      · refine lv_iconst (v := 1) hx hb dX6_take_43 (by decide) ?_
        refine lv_goto (tgt := 48) hx hb dX6_take_44 (by decide) ?_
        exact x_iret hx hb hr hlk hsz hP hS rfl (by rw [r_X6_take, if_neg h_1, if_neg h_2, if_neg h_3]) (by rw [s_X6_take, if_neg h_1, if_neg h_2, if_neg h_3]) dX6_take_48
    · refine lv_iconst (v := 2) hx hb dX6_take_22 (by decide) ?_
      refine lv_goto (tgt := 27) hx hb dX6_take_23 (by decide) ?_
      refine x_callVi (w := wM cI a) (σ := σ) (σ' := s_X6_goesWell σ 2) (As := [.int 2]) (rest := []) (q0 := 0) ⟨hx, hb, hml, hown, hts⟩ hG hP hS hsz (c_X6_goesWell l D cI a H.size σ 2) (cwV 1 hts gX6_take_X6_goesWell rfl rfl rfl (by decide +kernel) ⟨Nat.le_of_ble_eq_true rfl, Nat.le_of_ble_eq_true rfl⟩) rfl rfl rfl rfl hl.1 rfl (Nat.le_of_ble_eq_true rfl) ⟨Nat.zero_le _, Nat.zero_le _⟩ dX6_take_27 (fun H locs hP hS => ?_)
      refine W.eq (g2 := F0 m 30 ls [.int 0]) rfl ?_
      refine lv_if_eq (tgt := 47) hx hb dX6_take_30 (by decide) (fun _ => ?_) (fun h => absurd (by decide) h)
      refine lv_iconst (v := 0) hx hb dX6_take_47 (by decide) ?_
      exact x_iret hx hb hr hlk hsz hP hS rfl (by rw [r_X6_take, if_neg h_1, if_pos h_2]) (by rw [s_X6_take, if_neg h_1, if_pos h_2]) dX6_take_48
  · refine lv_iconst (v := 1) hx hb dX6_take_8 (by decide) ?_
    refine lv_goto (tgt := 27) hx hb dX6_take_9 (by decide) ?_
    refine x_callVi (w := wM cI a) (σ := σ) (σ' := s_X6_goesWell σ 1) (As := [.int 1]) (rest := []) (q0 := 0) ⟨hx, hb, hml, hown, hts⟩ hG hP hS hsz (c_X6_goesWell l D cI a H.size σ 1) (cwV 1 hts gX6_take_X6_goesWell rfl rfl rfl (by decide +kernel) ⟨Nat.le_of_ble_eq_true rfl, Nat.le_of_ble_eq_true rfl⟩) rfl rfl rfl rfl hl.1 rfl (Nat.le_of_ble_eq_true rfl) ⟨Nat.zero_le _, Nat.zero_le _⟩ dX6_take_27 (fun H locs hP hS => ?_)
    refine W.eq (g2 := F0 m 30 ls [.int 0]) rfl ?_
    refine lv_if_eq (tgt := 47) hx hb dX6_take_30 (by decide) (fun _ => ?_) (fun h => absurd (by decide) h)
    refine lv_iconst (v := 0) hx hb dX6_take_47 (by decide) ?_
    exact x_iret hx hb hr hlk hsz hP hS rfl (by rw [r_X6_take, if_pos h_1]) (by rw [s_X6_take, if_pos h_1]) dX6_take_48
theorem in_X6_mend_6 : ∀ wd ∈ u_ws RX6 TX6 29, wd ∈ wsX6_mend := by decide +kernel
def r_X6_mend (σ : Sg) (cy : Int32) (n : Nat) : Int32 :=
  if r_X6_isCycle σ cy = 0 then
    0
  else
    if σ 0 5 = 300 then
      0
    else
      if r_X6_tell (s_X6_goesWell σ 0) 6 cy 0 n = 0 then
        0
      else
        1
def s_X6_mend (σ : Sg) (cy : Int32) (n : Nat) : Sg :=
  if r_X6_isCycle σ cy = 0 then
    s_X6_goesWell σ 1
  else
    if σ 0 5 = 300 then
      s_X6_goesWell σ 2
    else
      if r_X6_tell (s_X6_goesWell σ 0) 6 cy 0 n = 0 then
        s_X6_tell (s_X6_goesWell σ 0) 6 cy 0 n
      else
        s_X6_tell (s_X6_goesWell σ 0) 6 cy 0 n
theorem b_X6_mend (σ : Sg) (cy : Int32) (n : Nat) : r_X6_mend σ cy n = 0 ∨ r_X6_mend σ cy n = 1 := by
  unfold r_X6_mend
  repeat' split
  all_goals first | with_reducible exact Or.inl rfl | with_reducible exact Or.inr rfl | with_reducible exact b_X6_tell _ _ _ _
set_option maxHeartbeats 4000000 in
set_option maxRecDepth 100000 in
theorem c_X6_mend (l : Launch) (D : va_G) (cI : ClassId) (a : Nat → Nat) (sz : Nat) (σ : Sg) (cy : Int32) (n : Nat) (hn : n ≤ 300) (hcn : σ 0 5 = nI n) (hg : ¬ σ 0 5 = 300 → gOK (sx (s_X6_keep (s_X6_goesWell σ 0) 6 cy 0 ((s_X6_goesWell σ 0) 0 1) n) 0 28 (r_X6_keep (s_X6_goesWell σ 0) 6 cy 0 ((s_X6_goesWell σ 0) 0 1) n)) (n + 1)) : Met l yX6_mend wsX6_mend ({ frames := 6, cells := 0, slots := 0, locals := 144 }) (PcW D cI 24 a (wM cI a) sz σ [.ref (a 0), .int cy]) (QiW D 24 a (wM cI a) sz (r_X6_mend σ cy n) (s_X6_mend σ cy n)) 0 0 (AX 24 a sz) := by
  refine x_of (cc := cX6_mend) (maxL := 2) (ret := some .boolean) (C := RX6) rfl (by decide) rfl (Nat.le_of_ble_eq_true rfl) (fun p e s m below meth c hx hb hr hml hlk hts hown hsz H hP hS hG ls hl => ?_)
  have hl : lv_has ls 2 [(0, .ref (a 0)), (1, .int cy)] := hl
  refine lv_aload_n hx hb dX6_mend_0 rfl (lv_at hl 0 rfl) ?_
  refine lv_iload_n hx hb dX6_mend_1 rfl (lv_at hl 1 rfl) ?_
  refine x_callSi (w := wM cI a) (σ := σ) (σ' := σ) (As := [.int cy]) (rest := [.ref (a 0)]) ⟨hx, hb, hml, hown, hts⟩ hG hP hS hsz (c_X6_isCycle l D cI a H.size σ cy) (va_cwS 1 hts gX6_mend_X6_isCycle rfl rfl rfl (by decide +kernel) ⟨Nat.le_of_ble_eq_true rfl, Nat.le_of_ble_eq_true rfl⟩) rfl hl.1 rfl (Nat.le_of_ble_eq_true rfl) ⟨Nat.zero_le _, Nat.zero_le _⟩ dX6_mend_2 (fun H locs hP hS => ?_)
  refine lv_if_ne (tgt := 12) hx hb dX6_mend_5 (by decide) (fun h_1 => ?_) (fun h_1 => ?_)
  · refine lv_aload_n hx hb dX6_mend_12 rfl (lv_at hl 0 rfl) ?_
    refine x_get (ci := 6) (C := RX6) (T := TX6) (M := 29) (v := .int (σ 0 5)) hx hb hts in_X6_mend_6 hown hG hP 0 rfl rfl 5 (by decide) (List.mem_of_getElem? (i := 1) rfl) rfl rfl dX6_mend_13 ?_
    refine lv_sipush (v := 300) hx hb dX6_mend_16 (by decide) ?_
    refine lv_icmp_ne (tgt := 26) hx hb dX6_mend_19 (by decide) (fun h_2 => ?_) (fun h_2 => ?_)
    · refine lv_iconst (v := 0) hx hb dX6_mend_26 (by decide) ?_
      refine x_callVi (w := wM cI a) (σ := σ) (σ' := s_X6_goesWell σ 0) (As := [.int 0]) (rest := []) (q0 := 0) ⟨hx, hb, hml, hown, hts⟩ hG hP hS hsz (c_X6_goesWell l D cI a H.size σ 0) (cwV 1 hts gX6_mend_X6_goesWell rfl rfl rfl (by decide +kernel) ⟨Nat.le_of_ble_eq_true rfl, Nat.le_of_ble_eq_true rfl⟩) rfl rfl rfl rfl hl.1 rfl (Nat.le_of_ble_eq_true rfl) ⟨Nat.zero_le _, Nat.zero_le _⟩ dX6_mend_27 (fun H locs hP hS => ?_)
      refine W.eq (g2 := F0 m 30 ls [.int 1]) rfl ?_
      refine lv_if_eq (tgt := 48) hx hb dX6_mend_30 (by decide) (fun h => absurd h (by decide)) (fun _ => ?_)
      refine lv_aload_n hx hb dX6_mend_33 rfl (lv_at hl 0 rfl) ?_
      refine lv_bipush (v := 6) hx hb dX6_mend_34 (by decide) ?_
      refine lv_iload_n hx hb dX6_mend_36 rfl (lv_at hl 1 rfl) ?_
      refine lv_iconst (v := 0) hx hb dX6_mend_37 (by decide) ?_
      refine x_callVi (w := wM cI a) (σ := s_X6_goesWell σ 0) (σ' := s_X6_tell (s_X6_goesWell σ 0) 6 cy 0 n) (As := [.int 6, .int cy, .int 0]) (rest := []) (q0 := 0) ⟨hx, hb, hml, hown, hts⟩ hG hP hS hsz (c_X6_tell l D cI a H.size (s_X6_goesWell σ 0) 6 cy 0 n (lt300 hcn hn h_2) hcn (hg h_2)) (cwV 3 hts gX6_mend_X6_tell rfl rfl rfl (by decide +kernel) ⟨Nat.le_of_ble_eq_true rfl, Nat.le_of_ble_eq_true rfl⟩) rfl rfl rfl rfl hl.1 rfl (Nat.le_of_ble_eq_true rfl) ⟨Nat.zero_le _, Nat.zero_le _⟩ dX6_mend_38 (fun H locs hP hS => ?_)
      refine lv_if_eq (tgt := 48) hx hb dX6_mend_41 (by decide) (fun h_3 => ?_) (fun h_3 => ?_)
      · refine lv_iconst (v := 0) hx hb dX6_mend_48 (by decide) ?_
        exact x_iret hx hb hr hlk hsz hP hS rfl (by rw [r_X6_mend, if_neg h_1, if_neg h_2, if_pos h_3]) (by rw [s_X6_mend, if_neg h_1, if_neg h_2, if_pos h_3]) dX6_mend_49
      · refine lv_iconst (v := 1) hx hb dX6_mend_44 (by decide) ?_
        refine lv_goto (tgt := 49) hx hb dX6_mend_45 (by decide) ?_
        exact x_iret hx hb hr hlk hsz hP hS rfl (by rw [r_X6_mend, if_neg h_1, if_neg h_2, if_neg h_3]) (by rw [s_X6_mend, if_neg h_1, if_neg h_2, if_neg h_3]) dX6_mend_49
    · refine lv_iconst (v := 2) hx hb dX6_mend_22 (by decide) ?_
      refine lv_goto (tgt := 27) hx hb dX6_mend_23 (by decide) ?_
      refine x_callVi (w := wM cI a) (σ := σ) (σ' := s_X6_goesWell σ 2) (As := [.int 2]) (rest := []) (q0 := 0) ⟨hx, hb, hml, hown, hts⟩ hG hP hS hsz (c_X6_goesWell l D cI a H.size σ 2) (cwV 1 hts gX6_mend_X6_goesWell rfl rfl rfl (by decide +kernel) ⟨Nat.le_of_ble_eq_true rfl, Nat.le_of_ble_eq_true rfl⟩) rfl rfl rfl rfl hl.1 rfl (Nat.le_of_ble_eq_true rfl) ⟨Nat.zero_le _, Nat.zero_le _⟩ dX6_mend_27 (fun H locs hP hS => ?_)
      refine W.eq (g2 := F0 m 30 ls [.int 0]) rfl ?_
      refine lv_if_eq (tgt := 48) hx hb dX6_mend_30 (by decide) (fun _ => ?_) (fun h => absurd (by decide) h)
      refine lv_iconst (v := 0) hx hb dX6_mend_48 (by decide) ?_
      exact x_iret hx hb hr hlk hsz hP hS rfl (by rw [r_X6_mend, if_neg h_1, if_pos h_2]) (by rw [s_X6_mend, if_neg h_1, if_pos h_2]) dX6_mend_49
  · refine lv_iconst (v := 1) hx hb dX6_mend_8 (by decide) ?_
    refine lv_goto (tgt := 27) hx hb dX6_mend_9 (by decide) ?_
    refine x_callVi (w := wM cI a) (σ := σ) (σ' := s_X6_goesWell σ 1) (As := [.int 1]) (rest := []) (q0 := 0) ⟨hx, hb, hml, hown, hts⟩ hG hP hS hsz (c_X6_goesWell l D cI a H.size σ 1) (cwV 1 hts gX6_mend_X6_goesWell rfl rfl rfl (by decide +kernel) ⟨Nat.le_of_ble_eq_true rfl, Nat.le_of_ble_eq_true rfl⟩) rfl rfl rfl rfl hl.1 rfl (Nat.le_of_ble_eq_true rfl) ⟨Nat.zero_le _, Nat.zero_le _⟩ dX6_mend_27 (fun H locs hP hS => ?_)
    refine W.eq (g2 := F0 m 30 ls [.int 0]) rfl ?_
    refine lv_if_eq (tgt := 48) hx hb dX6_mend_30 (by decide) (fun _ => ?_) (fun h => absurd (by decide) h)
    refine lv_iconst (v := 0) hx hb dX6_mend_48 (by decide) ?_
    exact x_iret hx hb hr hlk hsz hP hS rfl (by rw [r_X6_mend, if_pos h_1]) (by rw [s_X6_mend, if_pos h_1]) dX6_mend_49
theorem in_X6_price_6 : ∀ wd ∈ u_ws RX6 TX6 29, wd ∈ wsX6_price := by decide +kernel
def s_X6_price (σ : Sg) (pr : Int32) (n : Nat) : Sg :=
  if r_X6_in σ pr 0 99 = 0 then
    s_X6_goesWell σ 1
  else
    if σ 0 5 = 300 then
      s_X6_goesWell σ 2
    else
      s_X6_keep (s_X6_goesWell σ 0) 7 pr 0 ((s_X6_goesWell σ 0) 0 1) n
set_option maxHeartbeats 4000000 in
set_option maxRecDepth 100000 in
theorem c_X6_price (l : Launch) (D : va_G) (cI : ClassId) (a : Nat → Nat) (sz : Nat) (σ : Sg) (pr : Int32) (n : Nat) (hn : n ≤ 300) (hcn : σ 0 5 = nI n) : Met l yX6_price wsX6_price ({ frames := 1, cells := 0, slots := 0, locals := 25 }) (PcW D cI 24 a (wM cI a) sz σ [.ref (a 0), .int pr]) (QvW D 24 a (wM cI a) sz (s_X6_price σ pr n)) 0 0 (AX 24 a sz) := by
  refine x_of (cc := cX6_price) (maxL := 3) (ret := none) (C := RX6) rfl (by decide) rfl (Nat.le_of_ble_eq_true rfl) (fun p e s m below meth c hx hb hr hml hlk hts hown hsz H hP hS hG ls hl => ?_)
  have hl : lv_has ls 3 [(0, .ref (a 0)), (1, .int pr)] := hl
  refine lv_iload_n hx hb dX6_price_0 rfl (lv_at hl 1 rfl) ?_
  refine lv_iconst (v := 0) hx hb dX6_price_1 (by decide) ?_
  refine lv_bipush (v := 99) hx hb dX6_price_2 (by decide) ?_
  refine x_callSi (w := wM cI a) (σ := σ) (σ' := σ) (As := [.int pr, .int 0, .int 99]) (rest := []) ⟨hx, hb, hml, hown, hts⟩ hG hP hS hsz (c_X6_in l D cI a H.size σ pr 0 99) (va_cwS 3 hts gX6_price_X6_in rfl rfl rfl (by decide +kernel) ⟨Nat.le_of_ble_eq_true rfl, Nat.le_of_ble_eq_true rfl⟩) rfl hl.1 rfl (Nat.le_of_ble_eq_true rfl) ⟨Nat.zero_le _, Nat.zero_le _⟩ dX6_price_4 (fun H locs hP hS => ?_)
  refine lv_istore_n (lv' := [(2, .int (r_X6_in σ pr 0 99)), (0, .ref (a 0)), (1, .int pr)]) hx hb dX6_price_7 rfl hl (by decide) rfl (fun ls hl => ?_)
  refine lv_aload_n hx hb dX6_price_8 rfl (lv_at hl 1 rfl) ?_
  refine lv_iload_n hx hb dX6_price_9 rfl (lv_at hl 0 rfl) ?_
  refine lv_if_ne (tgt := 17) hx hb dX6_price_10 (by decide) (fun h_1 => ?_) (fun h_1 => ?_)
  · refine lv_aload_n hx hb dX6_price_17 rfl (lv_at hl 1 rfl) ?_
    refine x_get (ci := 6) (C := RX6) (T := TX6) (M := 29) (v := .int (σ 0 5)) hx hb hts in_X6_price_6 hown hG hP 0 rfl rfl 5 (by decide) (List.mem_of_getElem? (i := 1) rfl) rfl rfl dX6_price_18 ?_
    refine lv_sipush (v := 300) hx hb dX6_price_21 (by decide) ?_
    refine lv_icmp_ne (tgt := 31) hx hb dX6_price_24 (by decide) (fun h_2 => ?_) (fun h_2 => ?_)
    · refine lv_iconst (v := 0) hx hb dX6_price_31 (by decide) ?_
      refine x_callVi (w := wM cI a) (σ := σ) (σ' := s_X6_goesWell σ 0) (As := [.int 0]) (rest := []) (q0 := 0) ⟨hx, hb, hml, hown, hts⟩ hG hP hS hsz (c_X6_goesWell l D cI a H.size σ 0) (cwV 1 hts gX6_price_X6_goesWell rfl rfl rfl (by decide +kernel) ⟨Nat.le_of_ble_eq_true rfl, Nat.le_of_ble_eq_true rfl⟩) rfl rfl rfl rfl hl.1 rfl (Nat.le_of_ble_eq_true rfl) ⟨Nat.zero_le _, Nat.zero_le _⟩ dX6_price_32 (fun H locs hP hS => ?_)
      refine W.eq (g2 := F0 m 35 ls [.int 1]) rfl ?_
      refine lv_if_eq (tgt := 51) hx hb dX6_price_35 (by decide) (fun h => absurd h (by decide)) (fun _ => ?_)
      refine lv_aload_n hx hb dX6_price_38 rfl (lv_at hl 1 rfl) ?_
      refine lv_bipush (v := 7) hx hb dX6_price_39 (by decide) ?_
      refine lv_iload_n hx hb dX6_price_41 rfl (lv_at hl 2 rfl) ?_
      refine lv_iconst (v := 0) hx hb dX6_price_42 (by decide) ?_
      refine lv_aload_n hx hb dX6_price_43 rfl (lv_at hl 1 rfl) ?_
      refine x_get (ci := 6) (C := RX6) (T := TX6) (M := 29) (v := .int ((s_X6_goesWell σ 0) 0 1)) hx hb hts in_X6_price_6 hown hG hP 0 rfl rfl 1 (by decide) (List.mem_of_getElem? (i := 2) rfl) rfl rfl dX6_price_44 ?_
      refine x_callVi (w := wM cI a) (σ := s_X6_goesWell σ 0) (σ' := s_X6_keep (s_X6_goesWell σ 0) 7 pr 0 ((s_X6_goesWell σ 0) 0 1) n) (As := [.int 7, .int pr, .int 0, .int ((s_X6_goesWell σ 0) 0 1)]) (rest := []) (q0 := 0) ⟨hx, hb, hml, hown, hts⟩ hG hP hS hsz (c_X6_keep l D cI a H.size (s_X6_goesWell σ 0) 7 pr 0 ((s_X6_goesWell σ 0) 0 1) n (lt300 hcn hn h_2) hcn) (cwV 4 hts gX6_price_X6_keep rfl rfl rfl (by decide +kernel) ⟨Nat.le_of_ble_eq_true rfl, Nat.le_of_ble_eq_true rfl⟩) rfl rfl rfl rfl hl.1 rfl (Nat.le_of_ble_eq_true rfl) ⟨Nat.zero_le _, Nat.zero_le _⟩ dX6_price_47 (fun H locs hP hS => ?_)
      refine lv_pop hx hb dX6_price_50 rfl ?_
      exact x_vret hx hb hr hlk hsz hP hS (by rw [s_X6_price, if_neg h_1, if_neg h_2]) dX6_price_51
    · refine lv_iconst (v := 2) hx hb dX6_price_27 (by decide) ?_
      refine lv_goto (tgt := 32) hx hb dX6_price_28 (by decide) ?_
      refine x_callVi (w := wM cI a) (σ := σ) (σ' := s_X6_goesWell σ 2) (As := [.int 2]) (rest := []) (q0 := 0) ⟨hx, hb, hml, hown, hts⟩ hG hP hS hsz (c_X6_goesWell l D cI a H.size σ 2) (cwV 1 hts gX6_price_X6_goesWell rfl rfl rfl (by decide +kernel) ⟨Nat.le_of_ble_eq_true rfl, Nat.le_of_ble_eq_true rfl⟩) rfl rfl rfl rfl hl.1 rfl (Nat.le_of_ble_eq_true rfl) ⟨Nat.zero_le _, Nat.zero_le _⟩ dX6_price_32 (fun H locs hP hS => ?_)
      refine W.eq (g2 := F0 m 35 ls [.int 0]) rfl ?_
      refine lv_if_eq (tgt := 51) hx hb dX6_price_35 (by decide) (fun _ => ?_) (fun h => absurd (by decide) h)
      exact x_vret hx hb hr hlk hsz hP hS (by rw [s_X6_price, if_neg h_1, if_pos h_2]) dX6_price_51
  · refine lv_iconst (v := 1) hx hb dX6_price_13 (by decide) ?_
    refine lv_goto (tgt := 32) hx hb dX6_price_14 (by decide) ?_
    refine x_callVi (w := wM cI a) (σ := σ) (σ' := s_X6_goesWell σ 1) (As := [.int 1]) (rest := []) (q0 := 0) ⟨hx, hb, hml, hown, hts⟩ hG hP hS hsz (c_X6_goesWell l D cI a H.size σ 1) (cwV 1 hts gX6_price_X6_goesWell rfl rfl rfl (by decide +kernel) ⟨Nat.le_of_ble_eq_true rfl, Nat.le_of_ble_eq_true rfl⟩) rfl rfl rfl rfl hl.1 rfl (Nat.le_of_ble_eq_true rfl) ⟨Nat.zero_le _, Nat.zero_le _⟩ dX6_price_32 (fun H locs hP hS => ?_)
    refine W.eq (g2 := F0 m 35 ls [.int 0]) rfl ?_
    refine lv_if_eq (tgt := 51) hx hb dX6_price_35 (by decide) (fun _ => ?_) (fun h => absurd (by decide) h)
    exact x_vret hx hb hr hlk hsz hP hS (by rw [s_X6_price, if_pos h_1]) dX6_price_51
theorem in_X6_promise_6 : ∀ wd ∈ u_ws RX6 TX6 29, wd ∈ wsX6_promise := by decide +kernel
def r_X6_promise (σ : Sg) (ri : Int32) (st : Int32) (n : Nat) : Int32 :=
  if r_X6_isRider σ ri = 0 then
    0
  else
    if r_X6_isStation σ st = 0 then
      0
    else
      if σ 0 5 = 300 then
        0
      else
        if r_X6_tell (s_X6_goesWell σ 0) 8 ri st n = 0 then
          0
        else
          1
def s_X6_promise (σ : Sg) (ri : Int32) (st : Int32) (n : Nat) : Sg :=
  if r_X6_isRider σ ri = 0 then
    s_X6_goesWell σ 1
  else
    if r_X6_isStation σ st = 0 then
      s_X6_goesWell σ 1
    else
      if σ 0 5 = 300 then
        s_X6_goesWell σ 2
      else
        if r_X6_tell (s_X6_goesWell σ 0) 8 ri st n = 0 then
          s_X6_tell (s_X6_goesWell σ 0) 8 ri st n
        else
          s_X6_tell (s_X6_goesWell σ 0) 8 ri st n
theorem b_X6_promise (σ : Sg) (ri : Int32) (st : Int32) (n : Nat) : r_X6_promise σ ri st n = 0 ∨ r_X6_promise σ ri st n = 1 := by
  unfold r_X6_promise
  repeat' split
  all_goals first | with_reducible exact Or.inl rfl | with_reducible exact Or.inr rfl | with_reducible exact b_X6_tell _ _ _ _
set_option maxHeartbeats 4000000 in
set_option maxRecDepth 100000 in
theorem c_X6_promise (l : Launch) (D : va_G) (cI : ClassId) (a : Nat → Nat) (sz : Nat) (σ : Sg) (ri : Int32) (st : Int32) (n : Nat) (hn : n ≤ 300) (hcn : σ 0 5 = nI n) (hg : ¬ σ 0 5 = 300 → gOK (sx (s_X6_keep (s_X6_goesWell σ 0) 8 ri st ((s_X6_goesWell σ 0) 0 1) n) 0 28 (r_X6_keep (s_X6_goesWell σ 0) 8 ri st ((s_X6_goesWell σ 0) 0 1) n)) (n + 1)) : Met l yX6_promise wsX6_promise ({ frames := 6, cells := 0, slots := 0, locals := 144 }) (PcW D cI 24 a (wM cI a) sz σ [.ref (a 0), .int ri, .int st]) (QiW D 24 a (wM cI a) sz (r_X6_promise σ ri st n) (s_X6_promise σ ri st n)) 0 0 (AX 24 a sz) := by
  refine x_of (cc := cX6_promise) (maxL := 4) (ret := some .boolean) (C := RX6) rfl (by decide) rfl (Nat.le_of_ble_eq_true rfl) (fun p e s m below meth c hx hb hr hml hlk hts hown hsz H hP hS hG ls hl => ?_)
  have hl : lv_has ls 4 [(0, .ref (a 0)), (1, .int ri), (2, .int st)] := hl
  refine lv_iload_n hx hb dX6_promise_0 rfl (lv_at hl 1 rfl) ?_
  refine x_callSi (w := wM cI a) (σ := σ) (σ' := σ) (As := [.int ri]) (rest := []) ⟨hx, hb, hml, hown, hts⟩ hG hP hS hsz (c_X6_isRider l D cI a H.size σ ri) (va_cwS 1 hts gX6_promise_X6_isRider rfl rfl rfl (by decide +kernel) ⟨Nat.le_of_ble_eq_true rfl, Nat.le_of_ble_eq_true rfl⟩) rfl hl.1 rfl (Nat.le_of_ble_eq_true rfl) ⟨Nat.zero_le _, Nat.zero_le _⟩ dX6_promise_1 (fun H locs hP hS => ?_)
  refine lv_if_eq (tgt := 18) hx hb dX6_promise_4 (by decide) (fun h_1 => ?_) (fun h_1 => ?_)
  · refine lv_iconst (v := 0) hx hb dX6_promise_18 (by decide) ?_
    refine lv_istore_n (lv' := [(3, .int 0), (0, .ref (a 0)), (1, .int ri), (2, .int st)]) hx hb dX6_promise_19 rfl hl (by decide) rfl (fun ls hl => ?_)
    refine lv_aload_n hx hb dX6_promise_20 rfl (lv_at hl 1 rfl) ?_
    refine lv_iload_n hx hb dX6_promise_21 rfl (lv_at hl 0 rfl) ?_
    refine lv_if_ne (tgt := 29) hx hb dX6_promise_22 (by decide) (fun h => absurd (by decide) h) (fun _ => ?_)
    refine lv_iconst (v := 1) hx hb dX6_promise_25 (by decide) ?_
    refine lv_goto (tgt := 44) hx hb dX6_promise_26 (by decide) ?_
    refine x_callVi (w := wM cI a) (σ := σ) (σ' := s_X6_goesWell σ 1) (As := [.int 1]) (rest := []) (q0 := 0) ⟨hx, hb, hml, hown, hts⟩ hG hP hS hsz (c_X6_goesWell l D cI a H.size σ 1) (cwV 1 hts gX6_promise_X6_goesWell rfl rfl rfl (by decide +kernel) ⟨Nat.le_of_ble_eq_true rfl, Nat.le_of_ble_eq_true rfl⟩) rfl rfl rfl rfl hl.1 rfl (Nat.le_of_ble_eq_true rfl) ⟨Nat.zero_le _, Nat.zero_le _⟩ dX6_promise_44 (fun H locs hP hS => ?_)
    refine W.eq (g2 := F0 m 47 ls [.int 0]) rfl ?_
    refine lv_if_eq (tgt := 65) hx hb dX6_promise_47 (by decide) (fun _ => ?_) (fun h => absurd (by decide) h)
    refine lv_iconst (v := 0) hx hb dX6_promise_65 (by decide) ?_
    exact x_iret hx hb hr hlk hsz hP hS rfl (by rw [r_X6_promise, if_pos h_1]) (by rw [s_X6_promise, if_pos h_1]) dX6_promise_66
  · refine lv_iload_n hx hb dX6_promise_7 rfl (lv_at hl 2 rfl) ?_
    refine x_callSi (w := wM cI a) (σ := σ) (σ' := σ) (As := [.int st]) (rest := []) ⟨hx, hb, hml, hown, hts⟩ hG hP hS hsz (c_X6_isStation l D cI a H.size σ st) (va_cwS 1 hts gX6_promise_X6_isStation rfl rfl rfl (by decide +kernel) ⟨Nat.le_of_ble_eq_true rfl, Nat.le_of_ble_eq_true rfl⟩) rfl hl.1 rfl (Nat.le_of_ble_eq_true rfl) ⟨Nat.zero_le _, Nat.zero_le _⟩ dX6_promise_8 (fun H locs hP hS => ?_)
    refine lv_if_eq (tgt := 18) hx hb dX6_promise_11 (by decide) (fun h_2 => ?_) (fun h_2 => ?_)
    · refine lv_iconst (v := 0) hx hb dX6_promise_18 (by decide) ?_
      refine lv_istore_n (lv' := [(3, .int 0), (0, .ref (a 0)), (1, .int ri), (2, .int st)]) hx hb dX6_promise_19 rfl hl (by decide) rfl (fun ls hl => ?_)
      refine lv_aload_n hx hb dX6_promise_20 rfl (lv_at hl 1 rfl) ?_
      refine lv_iload_n hx hb dX6_promise_21 rfl (lv_at hl 0 rfl) ?_
      refine lv_if_ne (tgt := 29) hx hb dX6_promise_22 (by decide) (fun h => absurd (by decide) h) (fun _ => ?_)
      refine lv_iconst (v := 1) hx hb dX6_promise_25 (by decide) ?_
      refine lv_goto (tgt := 44) hx hb dX6_promise_26 (by decide) ?_
      refine x_callVi (w := wM cI a) (σ := σ) (σ' := s_X6_goesWell σ 1) (As := [.int 1]) (rest := []) (q0 := 0) ⟨hx, hb, hml, hown, hts⟩ hG hP hS hsz (c_X6_goesWell l D cI a H.size σ 1) (cwV 1 hts gX6_promise_X6_goesWell rfl rfl rfl (by decide +kernel) ⟨Nat.le_of_ble_eq_true rfl, Nat.le_of_ble_eq_true rfl⟩) rfl rfl rfl rfl hl.1 rfl (Nat.le_of_ble_eq_true rfl) ⟨Nat.zero_le _, Nat.zero_le _⟩ dX6_promise_44 (fun H locs hP hS => ?_)
      refine W.eq (g2 := F0 m 47 ls [.int 0]) rfl ?_
      refine lv_if_eq (tgt := 65) hx hb dX6_promise_47 (by decide) (fun _ => ?_) (fun h => absurd (by decide) h)
      refine lv_iconst (v := 0) hx hb dX6_promise_65 (by decide) ?_
      exact x_iret hx hb hr hlk hsz hP hS rfl (by rw [r_X6_promise, if_neg h_1, if_pos h_2]) (by rw [s_X6_promise, if_neg h_1, if_pos h_2]) dX6_promise_66
    · refine lv_iconst (v := 1) hx hb dX6_promise_14 (by decide) ?_
      refine lv_goto (tgt := 19) hx hb dX6_promise_15 (by decide) ?_
      refine lv_istore_n (lv' := [(3, .int 1), (0, .ref (a 0)), (1, .int ri), (2, .int st)]) hx hb dX6_promise_19 rfl hl (by decide) rfl (fun ls hl => ?_)
      refine lv_aload_n hx hb dX6_promise_20 rfl (lv_at hl 1 rfl) ?_
      refine lv_iload_n hx hb dX6_promise_21 rfl (lv_at hl 0 rfl) ?_
      refine lv_if_ne (tgt := 29) hx hb dX6_promise_22 (by decide) (fun _ => ?_) (fun h => absurd h (by decide))
      refine lv_aload_n hx hb dX6_promise_29 rfl (lv_at hl 1 rfl) ?_
      refine x_get (ci := 6) (C := RX6) (T := TX6) (M := 29) (v := .int (σ 0 5)) hx hb hts in_X6_promise_6 hown hG hP 0 rfl rfl 5 (by decide) (List.mem_of_getElem? (i := 1) rfl) rfl rfl dX6_promise_30 ?_
      refine lv_sipush (v := 300) hx hb dX6_promise_33 (by decide) ?_
      refine lv_icmp_ne (tgt := 43) hx hb dX6_promise_36 (by decide) (fun h_3 => ?_) (fun h_3 => ?_)
      · refine lv_iconst (v := 0) hx hb dX6_promise_43 (by decide) ?_
        refine x_callVi (w := wM cI a) (σ := σ) (σ' := s_X6_goesWell σ 0) (As := [.int 0]) (rest := []) (q0 := 0) ⟨hx, hb, hml, hown, hts⟩ hG hP hS hsz (c_X6_goesWell l D cI a H.size σ 0) (cwV 1 hts gX6_promise_X6_goesWell rfl rfl rfl (by decide +kernel) ⟨Nat.le_of_ble_eq_true rfl, Nat.le_of_ble_eq_true rfl⟩) rfl rfl rfl rfl hl.1 rfl (Nat.le_of_ble_eq_true rfl) ⟨Nat.zero_le _, Nat.zero_le _⟩ dX6_promise_44 (fun H locs hP hS => ?_)
        refine W.eq (g2 := F0 m 47 ls [.int 1]) rfl ?_
        refine lv_if_eq (tgt := 65) hx hb dX6_promise_47 (by decide) (fun h => absurd h (by decide)) (fun _ => ?_)
        refine lv_aload_n hx hb dX6_promise_50 rfl (lv_at hl 1 rfl) ?_
        refine lv_bipush (v := 8) hx hb dX6_promise_51 (by decide) ?_
        refine lv_iload_n hx hb dX6_promise_53 rfl (lv_at hl 2 rfl) ?_
        refine lv_iload_n hx hb dX6_promise_54 rfl (lv_at hl 3 rfl) ?_
        refine x_callVi (w := wM cI a) (σ := s_X6_goesWell σ 0) (σ' := s_X6_tell (s_X6_goesWell σ 0) 8 ri st n) (As := [.int 8, .int ri, .int st]) (rest := []) (q0 := 0) ⟨hx, hb, hml, hown, hts⟩ hG hP hS hsz (c_X6_tell l D cI a H.size (s_X6_goesWell σ 0) 8 ri st n (lt300 hcn hn h_3) hcn (hg h_3)) (cwV 3 hts gX6_promise_X6_tell rfl rfl rfl (by decide +kernel) ⟨Nat.le_of_ble_eq_true rfl, Nat.le_of_ble_eq_true rfl⟩) rfl rfl rfl rfl hl.1 rfl (Nat.le_of_ble_eq_true rfl) ⟨Nat.zero_le _, Nat.zero_le _⟩ dX6_promise_55 (fun H locs hP hS => ?_)
        refine lv_if_eq (tgt := 65) hx hb dX6_promise_58 (by decide) (fun h_4 => ?_) (fun h_4 => ?_)
        · refine lv_iconst (v := 0) hx hb dX6_promise_65 (by decide) ?_
          exact x_iret hx hb hr hlk hsz hP hS rfl (by rw [r_X6_promise, if_neg h_1, if_neg h_2, if_neg h_3, if_pos h_4]) (by rw [s_X6_promise, if_neg h_1, if_neg h_2, if_neg h_3, if_pos h_4]) dX6_promise_66
        · refine lv_iconst (v := 1) hx hb dX6_promise_61 (by decide) ?_
          refine lv_goto (tgt := 66) hx hb dX6_promise_62 (by decide) ?_
          exact x_iret hx hb hr hlk hsz hP hS rfl (by rw [r_X6_promise, if_neg h_1, if_neg h_2, if_neg h_3, if_neg h_4]) (by rw [s_X6_promise, if_neg h_1, if_neg h_2, if_neg h_3, if_neg h_4]) dX6_promise_66
      · refine lv_iconst (v := 2) hx hb dX6_promise_39 (by decide) ?_
        refine lv_goto (tgt := 44) hx hb dX6_promise_40 (by decide) ?_
        refine x_callVi (w := wM cI a) (σ := σ) (σ' := s_X6_goesWell σ 2) (As := [.int 2]) (rest := []) (q0 := 0) ⟨hx, hb, hml, hown, hts⟩ hG hP hS hsz (c_X6_goesWell l D cI a H.size σ 2) (cwV 1 hts gX6_promise_X6_goesWell rfl rfl rfl (by decide +kernel) ⟨Nat.le_of_ble_eq_true rfl, Nat.le_of_ble_eq_true rfl⟩) rfl rfl rfl rfl hl.1 rfl (Nat.le_of_ble_eq_true rfl) ⟨Nat.zero_le _, Nat.zero_le _⟩ dX6_promise_44 (fun H locs hP hS => ?_)
        refine W.eq (g2 := F0 m 47 ls [.int 0]) rfl ?_
        refine lv_if_eq (tgt := 65) hx hb dX6_promise_47 (by decide) (fun _ => ?_) (fun h => absurd (by decide) h)
        refine lv_iconst (v := 0) hx hb dX6_promise_65 (by decide) ?_
        exact x_iret hx hb hr hlk hsz hP hS rfl (by rw [r_X6_promise, if_neg h_1, if_neg h_2, if_pos h_3]) (by rw [s_X6_promise, if_neg h_1, if_neg h_2, if_pos h_3]) dX6_promise_66
theorem in_X6_unlocked_6 : ∀ wd ∈ u_ws RX6 TX6 29, wd ∈ wsX6_unlocked := by decide +kernel
def r_X6_unlocked (σ : Sg) (cy : Int32) (ri : Int32) (wh : Int32) (n : Nat) : Int32 :=
  if r_X6_isCycle σ cy = 0 then
    0
  else
    if r_X6_isRider σ ri = 0 then
      0
    else
      if r_X6_isWhen σ wh = 0 then
        0
      else
        if σ 0 5 = 300 then
          0
        else
          if r_X6_hear (s_X6_goesWell σ 0) 3 cy ri wh n = 0 then
            0
          else
            1
def s_X6_unlocked (σ : Sg) (cy : Int32) (ri : Int32) (wh : Int32) (n : Nat) : Sg :=
  if r_X6_isCycle σ cy = 0 then
    s_X6_goesWell σ 1
  else
    if r_X6_isRider σ ri = 0 then
      s_X6_goesWell σ 1
    else
      if r_X6_isWhen σ wh = 0 then
        s_X6_goesWell σ 2
      else
        if σ 0 5 = 300 then
          s_X6_goesWell σ 3
        else
          if r_X6_hear (s_X6_goesWell σ 0) 3 cy ri wh n = 0 then
            s_X6_hear (s_X6_goesWell σ 0) 3 cy ri wh n
          else
            s_X6_hear (s_X6_goesWell σ 0) 3 cy ri wh n
theorem b_X6_unlocked (σ : Sg) (cy : Int32) (ri : Int32) (wh : Int32) (n : Nat) : r_X6_unlocked σ cy ri wh n = 0 ∨ r_X6_unlocked σ cy ri wh n = 1 := by
  unfold r_X6_unlocked
  repeat' split
  all_goals first | with_reducible exact Or.inl rfl | with_reducible exact Or.inr rfl | with_reducible exact b_X6_hear _ _ _ _ _
set_option maxHeartbeats 4000000 in
set_option maxRecDepth 100000 in
theorem c_X6_unlocked (l : Launch) (D : va_G) (cI : ClassId) (a : Nat → Nat) (sz : Nat) (σ : Sg) (cy : Int32) (ri : Int32) (wh : Int32) (n : Nat) (hn : n ≤ 300) (hcn : σ 0 5 = nI n) : Met l yX6_unlocked wsX6_unlocked ({ frames := 2, cells := 0, slots := 0, locals := 50 }) (PcW D cI 24 a (wM cI a) sz σ [.ref (a 0), .int cy, .int ri, .int wh]) (QiW D 24 a (wM cI a) sz (r_X6_unlocked σ cy ri wh n) (s_X6_unlocked σ cy ri wh n)) 0 0 (AX 24 a sz) := by
  refine x_of (cc := cX6_unlocked) (maxL := 5) (ret := some .boolean) (C := RX6) rfl (by decide) rfl (Nat.le_of_ble_eq_true rfl) (fun p e s m below meth c hx hb hr hml hlk hts hown hsz H hP hS hG ls hl => ?_)
  have hl : lv_has ls 5 [(0, .ref (a 0)), (1, .int cy), (2, .int ri), (3, .int wh)] := hl
  refine lv_iload_n hx hb dX6_unlocked_0 rfl (lv_at hl 1 rfl) ?_
  refine x_callSi (w := wM cI a) (σ := σ) (σ' := σ) (As := [.int cy]) (rest := []) ⟨hx, hb, hml, hown, hts⟩ hG hP hS hsz (c_X6_isCycle l D cI a H.size σ cy) (va_cwS 1 hts gX6_unlocked_X6_isCycle rfl rfl rfl (by decide +kernel) ⟨Nat.le_of_ble_eq_true rfl, Nat.le_of_ble_eq_true rfl⟩) rfl hl.1 rfl (Nat.le_of_ble_eq_true rfl) ⟨Nat.zero_le _, Nat.zero_le _⟩ dX6_unlocked_1 (fun H locs hP hS => ?_)
  refine lv_if_eq (tgt := 18) hx hb dX6_unlocked_4 (by decide) (fun h_1 => ?_) (fun h_1 => ?_)
  · refine lv_iconst (v := 0) hx hb dX6_unlocked_18 (by decide) ?_
    refine lv_istore (lv' := [(4, .int 0), (0, .ref (a 0)), (1, .int cy), (2, .int ri), (3, .int wh)]) hx hb dX6_unlocked_19 hl (by decide) rfl (fun ls hl => ?_)
    refine lv_aload_n hx hb dX6_unlocked_21 rfl (lv_at hl 1 rfl) ?_
    refine lv_iload hx hb dX6_unlocked_22 (lv_at hl 0 rfl) ?_
    refine lv_if_ne (tgt := 31) hx hb dX6_unlocked_24 (by decide) (fun h => absurd (by decide) h) (fun _ => ?_)
    refine lv_iconst (v := 1) hx hb dX6_unlocked_27 (by decide) ?_
    refine lv_goto (tgt := 58) hx hb dX6_unlocked_28 (by decide) ?_
    refine x_callVi (w := wM cI a) (σ := σ) (σ' := s_X6_goesWell σ 1) (As := [.int 1]) (rest := []) (q0 := 0) ⟨hx, hb, hml, hown, hts⟩ hG hP hS hsz (c_X6_goesWell l D cI a H.size σ 1) (cwV 1 hts gX6_unlocked_X6_goesWell rfl rfl rfl (by decide +kernel) ⟨Nat.le_of_ble_eq_true rfl, Nat.le_of_ble_eq_true rfl⟩) rfl rfl rfl rfl hl.1 rfl (Nat.le_of_ble_eq_true rfl) ⟨Nat.zero_le _, Nat.zero_le _⟩ dX6_unlocked_58 (fun H locs hP hS => ?_)
    refine W.eq (g2 := F0 m 61 ls [.int 0]) rfl ?_
    refine lv_if_eq (tgt := 79) hx hb dX6_unlocked_61 (by decide) (fun _ => ?_) (fun h => absurd (by decide) h)
    refine lv_iconst (v := 0) hx hb dX6_unlocked_79 (by decide) ?_
    exact x_iret hx hb hr hlk hsz hP hS rfl (by rw [r_X6_unlocked, if_pos h_1]) (by rw [s_X6_unlocked, if_pos h_1]) dX6_unlocked_80
  · refine lv_iload_n hx hb dX6_unlocked_7 rfl (lv_at hl 2 rfl) ?_
    refine x_callSi (w := wM cI a) (σ := σ) (σ' := σ) (As := [.int ri]) (rest := []) ⟨hx, hb, hml, hown, hts⟩ hG hP hS hsz (c_X6_isRider l D cI a H.size σ ri) (va_cwS 1 hts gX6_unlocked_X6_isRider rfl rfl rfl (by decide +kernel) ⟨Nat.le_of_ble_eq_true rfl, Nat.le_of_ble_eq_true rfl⟩) rfl hl.1 rfl (Nat.le_of_ble_eq_true rfl) ⟨Nat.zero_le _, Nat.zero_le _⟩ dX6_unlocked_8 (fun H locs hP hS => ?_)
    refine lv_if_eq (tgt := 18) hx hb dX6_unlocked_11 (by decide) (fun h_2 => ?_) (fun h_2 => ?_)
    · refine lv_iconst (v := 0) hx hb dX6_unlocked_18 (by decide) ?_
      refine lv_istore (lv' := [(4, .int 0), (0, .ref (a 0)), (1, .int cy), (2, .int ri), (3, .int wh)]) hx hb dX6_unlocked_19 hl (by decide) rfl (fun ls hl => ?_)
      refine lv_aload_n hx hb dX6_unlocked_21 rfl (lv_at hl 1 rfl) ?_
      refine lv_iload hx hb dX6_unlocked_22 (lv_at hl 0 rfl) ?_
      refine lv_if_ne (tgt := 31) hx hb dX6_unlocked_24 (by decide) (fun h => absurd (by decide) h) (fun _ => ?_)
      refine lv_iconst (v := 1) hx hb dX6_unlocked_27 (by decide) ?_
      refine lv_goto (tgt := 58) hx hb dX6_unlocked_28 (by decide) ?_
      refine x_callVi (w := wM cI a) (σ := σ) (σ' := s_X6_goesWell σ 1) (As := [.int 1]) (rest := []) (q0 := 0) ⟨hx, hb, hml, hown, hts⟩ hG hP hS hsz (c_X6_goesWell l D cI a H.size σ 1) (cwV 1 hts gX6_unlocked_X6_goesWell rfl rfl rfl (by decide +kernel) ⟨Nat.le_of_ble_eq_true rfl, Nat.le_of_ble_eq_true rfl⟩) rfl rfl rfl rfl hl.1 rfl (Nat.le_of_ble_eq_true rfl) ⟨Nat.zero_le _, Nat.zero_le _⟩ dX6_unlocked_58 (fun H locs hP hS => ?_)
      refine W.eq (g2 := F0 m 61 ls [.int 0]) rfl ?_
      refine lv_if_eq (tgt := 79) hx hb dX6_unlocked_61 (by decide) (fun _ => ?_) (fun h => absurd (by decide) h)
      refine lv_iconst (v := 0) hx hb dX6_unlocked_79 (by decide) ?_
      exact x_iret hx hb hr hlk hsz hP hS rfl (by rw [r_X6_unlocked, if_neg h_1, if_pos h_2]) (by rw [s_X6_unlocked, if_neg h_1, if_pos h_2]) dX6_unlocked_80
    · refine lv_iconst (v := 1) hx hb dX6_unlocked_14 (by decide) ?_
      refine lv_goto (tgt := 19) hx hb dX6_unlocked_15 (by decide) ?_
      refine lv_istore (lv' := [(4, .int 1), (0, .ref (a 0)), (1, .int cy), (2, .int ri), (3, .int wh)]) hx hb dX6_unlocked_19 hl (by decide) rfl (fun ls hl => ?_)
      refine lv_aload_n hx hb dX6_unlocked_21 rfl (lv_at hl 1 rfl) ?_
      refine lv_iload hx hb dX6_unlocked_22 (lv_at hl 0 rfl) ?_
      refine lv_if_ne (tgt := 31) hx hb dX6_unlocked_24 (by decide) (fun _ => ?_) (fun h => absurd h (by decide))
      refine lv_aload_n hx hb dX6_unlocked_31 rfl (lv_at hl 1 rfl) ?_
      refine lv_iload_n hx hb dX6_unlocked_32 rfl (lv_at hl 4 rfl) ?_
      refine x_callVi (w := wM cI a) (σ := σ) (σ' := σ) (As := [.int wh]) (rest := [.ref (a 0)]) (q0 := 0) ⟨hx, hb, hml, hown, hts⟩ hG hP hS hsz (c_X6_isWhen l D cI a H.size σ wh) (cwV 1 hts gX6_unlocked_X6_isWhen rfl rfl rfl (by decide +kernel) ⟨Nat.le_of_ble_eq_true rfl, Nat.le_of_ble_eq_true rfl⟩) rfl rfl rfl rfl hl.1 rfl (Nat.le_of_ble_eq_true rfl) ⟨Nat.zero_le _, Nat.zero_le _⟩ dX6_unlocked_33 (fun H locs hP hS => ?_)
      refine lv_if_ne (tgt := 43) hx hb dX6_unlocked_36 (by decide) (fun h_3 => ?_) (fun h_3 => ?_)
      · refine lv_aload_n hx hb dX6_unlocked_43 rfl (lv_at hl 1 rfl) ?_
        refine x_get (ci := 6) (C := RX6) (T := TX6) (M := 29) (v := .int (σ 0 5)) hx hb hts in_X6_unlocked_6 hown hG hP 0 rfl rfl 5 (by decide) (List.mem_of_getElem? (i := 1) rfl) rfl rfl dX6_unlocked_44 ?_
        refine lv_sipush (v := 300) hx hb dX6_unlocked_47 (by decide) ?_
        refine lv_icmp_ne (tgt := 57) hx hb dX6_unlocked_50 (by decide) (fun h_4 => ?_) (fun h_4 => ?_)
        · refine lv_iconst (v := 0) hx hb dX6_unlocked_57 (by decide) ?_
          refine x_callVi (w := wM cI a) (σ := σ) (σ' := s_X6_goesWell σ 0) (As := [.int 0]) (rest := []) (q0 := 0) ⟨hx, hb, hml, hown, hts⟩ hG hP hS hsz (c_X6_goesWell l D cI a H.size σ 0) (cwV 1 hts gX6_unlocked_X6_goesWell rfl rfl rfl (by decide +kernel) ⟨Nat.le_of_ble_eq_true rfl, Nat.le_of_ble_eq_true rfl⟩) rfl rfl rfl rfl hl.1 rfl (Nat.le_of_ble_eq_true rfl) ⟨Nat.zero_le _, Nat.zero_le _⟩ dX6_unlocked_58 (fun H locs hP hS => ?_)
          refine W.eq (g2 := F0 m 61 ls [.int 1]) rfl ?_
          refine lv_if_eq (tgt := 79) hx hb dX6_unlocked_61 (by decide) (fun h => absurd h (by decide)) (fun _ => ?_)
          refine lv_aload_n hx hb dX6_unlocked_64 rfl (lv_at hl 1 rfl) ?_
          refine lv_iconst (v := 3) hx hb dX6_unlocked_65 (by decide) ?_
          refine lv_iload_n hx hb dX6_unlocked_66 rfl (lv_at hl 2 rfl) ?_
          refine lv_iload_n hx hb dX6_unlocked_67 rfl (lv_at hl 3 rfl) ?_
          refine lv_iload_n hx hb dX6_unlocked_68 rfl (lv_at hl 4 rfl) ?_
          refine x_callVi (w := wM cI a) (σ := s_X6_goesWell σ 0) (σ' := s_X6_hear (s_X6_goesWell σ 0) 3 cy ri wh n) (As := [.int 3, .int cy, .int ri, .int wh]) (rest := []) (q0 := 0) ⟨hx, hb, hml, hown, hts⟩ hG hP hS hsz (c_X6_hear l D cI a H.size (s_X6_goesWell σ 0) 3 cy ri wh n (lt300 hcn hn h_4) hcn) (cwV 4 hts gX6_unlocked_X6_hear rfl rfl rfl (by decide +kernel) ⟨Nat.le_of_ble_eq_true rfl, Nat.le_of_ble_eq_true rfl⟩) rfl rfl rfl rfl hl.1 rfl (Nat.le_of_ble_eq_true rfl) ⟨Nat.zero_le _, Nat.zero_le _⟩ dX6_unlocked_69 (fun H locs hP hS => ?_)
          refine lv_if_eq (tgt := 79) hx hb dX6_unlocked_72 (by decide) (fun h_5 => ?_) (fun h_5 => ?_)
          · refine lv_iconst (v := 0) hx hb dX6_unlocked_79 (by decide) ?_
            exact x_iret hx hb hr hlk hsz hP hS rfl (by rw [r_X6_unlocked, if_neg h_1, if_neg h_2, if_neg h_3, if_neg h_4, if_pos h_5]) (by rw [s_X6_unlocked, if_neg h_1, if_neg h_2, if_neg h_3, if_neg h_4, if_pos h_5]) dX6_unlocked_80
          · refine lv_iconst (v := 1) hx hb dX6_unlocked_75 (by decide) ?_
            refine lv_goto (tgt := 80) hx hb dX6_unlocked_76 (by decide) ?_
            exact x_iret hx hb hr hlk hsz hP hS rfl (by rw [r_X6_unlocked, if_neg h_1, if_neg h_2, if_neg h_3, if_neg h_4, if_neg h_5]) (by rw [s_X6_unlocked, if_neg h_1, if_neg h_2, if_neg h_3, if_neg h_4, if_neg h_5]) dX6_unlocked_80
        · refine lv_iconst (v := 3) hx hb dX6_unlocked_53 (by decide) ?_
          refine lv_goto (tgt := 58) hx hb dX6_unlocked_54 (by decide) ?_
          refine x_callVi (w := wM cI a) (σ := σ) (σ' := s_X6_goesWell σ 3) (As := [.int 3]) (rest := []) (q0 := 0) ⟨hx, hb, hml, hown, hts⟩ hG hP hS hsz (c_X6_goesWell l D cI a H.size σ 3) (cwV 1 hts gX6_unlocked_X6_goesWell rfl rfl rfl (by decide +kernel) ⟨Nat.le_of_ble_eq_true rfl, Nat.le_of_ble_eq_true rfl⟩) rfl rfl rfl rfl hl.1 rfl (Nat.le_of_ble_eq_true rfl) ⟨Nat.zero_le _, Nat.zero_le _⟩ dX6_unlocked_58 (fun H locs hP hS => ?_)
          refine W.eq (g2 := F0 m 61 ls [.int 0]) rfl ?_
          refine lv_if_eq (tgt := 79) hx hb dX6_unlocked_61 (by decide) (fun _ => ?_) (fun h => absurd (by decide) h)
          refine lv_iconst (v := 0) hx hb dX6_unlocked_79 (by decide) ?_
          exact x_iret hx hb hr hlk hsz hP hS rfl (by rw [r_X6_unlocked, if_neg h_1, if_neg h_2, if_neg h_3, if_pos h_4]) (by rw [s_X6_unlocked, if_neg h_1, if_neg h_2, if_neg h_3, if_pos h_4]) dX6_unlocked_80
      · refine lv_iconst (v := 2) hx hb dX6_unlocked_39 (by decide) ?_
        refine lv_goto (tgt := 58) hx hb dX6_unlocked_40 (by decide) ?_
        refine x_callVi (w := wM cI a) (σ := σ) (σ' := s_X6_goesWell σ 2) (As := [.int 2]) (rest := []) (q0 := 0) ⟨hx, hb, hml, hown, hts⟩ hG hP hS hsz (c_X6_goesWell l D cI a H.size σ 2) (cwV 1 hts gX6_unlocked_X6_goesWell rfl rfl rfl (by decide +kernel) ⟨Nat.le_of_ble_eq_true rfl, Nat.le_of_ble_eq_true rfl⟩) rfl rfl rfl rfl hl.1 rfl (Nat.le_of_ble_eq_true rfl) ⟨Nat.zero_le _, Nat.zero_le _⟩ dX6_unlocked_58 (fun H locs hP hS => ?_)
        refine W.eq (g2 := F0 m 61 ls [.int 0]) rfl ?_
        refine lv_if_eq (tgt := 79) hx hb dX6_unlocked_61 (by decide) (fun _ => ?_) (fun h => absurd (by decide) h)
        refine lv_iconst (v := 0) hx hb dX6_unlocked_79 (by decide) ?_
        exact x_iret hx hb hr hlk hsz hP hS rfl (by rw [r_X6_unlocked, if_neg h_1, if_neg h_2, if_pos h_3]) (by rw [s_X6_unlocked, if_neg h_1, if_neg h_2, if_pos h_3]) dX6_unlocked_80
theorem in_X6_locked_6 : ∀ wd ∈ u_ws RX6 TX6 29, wd ∈ wsX6_locked := by decide +kernel
def r_X6_locked (σ : Sg) (cy : Int32) (st : Int32) (wh : Int32) (n : Nat) : Int32 :=
  if r_X6_isCycle σ cy = 0 then
    0
  else
    if r_X6_isStation σ st = 0 then
      0
    else
      if r_X6_isWhen σ wh = 0 then
        0
      else
        if σ 0 5 = 300 then
          0
        else
          if r_X6_hear (s_X6_goesWell σ 0) 4 cy st wh n = 0 then
            0
          else
            1
def s_X6_locked (σ : Sg) (cy : Int32) (st : Int32) (wh : Int32) (n : Nat) : Sg :=
  if r_X6_isCycle σ cy = 0 then
    s_X6_goesWell σ 1
  else
    if r_X6_isStation σ st = 0 then
      s_X6_goesWell σ 1
    else
      if r_X6_isWhen σ wh = 0 then
        s_X6_goesWell σ 2
      else
        if σ 0 5 = 300 then
          s_X6_goesWell σ 3
        else
          if r_X6_hear (s_X6_goesWell σ 0) 4 cy st wh n = 0 then
            s_X6_hear (s_X6_goesWell σ 0) 4 cy st wh n
          else
            s_X6_hear (s_X6_goesWell σ 0) 4 cy st wh n
theorem b_X6_locked (σ : Sg) (cy : Int32) (st : Int32) (wh : Int32) (n : Nat) : r_X6_locked σ cy st wh n = 0 ∨ r_X6_locked σ cy st wh n = 1 := by
  unfold r_X6_locked
  repeat' split
  all_goals first | with_reducible exact Or.inl rfl | with_reducible exact Or.inr rfl | with_reducible exact b_X6_hear _ _ _ _ _
set_option maxHeartbeats 4000000 in
set_option maxRecDepth 100000 in
theorem c_X6_locked (l : Launch) (D : va_G) (cI : ClassId) (a : Nat → Nat) (sz : Nat) (σ : Sg) (cy : Int32) (st : Int32) (wh : Int32) (n : Nat) (hn : n ≤ 300) (hcn : σ 0 5 = nI n) : Met l yX6_locked wsX6_locked ({ frames := 2, cells := 0, slots := 0, locals := 50 }) (PcW D cI 24 a (wM cI a) sz σ [.ref (a 0), .int cy, .int st, .int wh]) (QiW D 24 a (wM cI a) sz (r_X6_locked σ cy st wh n) (s_X6_locked σ cy st wh n)) 0 0 (AX 24 a sz) := by
  refine x_of (cc := cX6_locked) (maxL := 5) (ret := some .boolean) (C := RX6) rfl (by decide) rfl (Nat.le_of_ble_eq_true rfl) (fun p e s m below meth c hx hb hr hml hlk hts hown hsz H hP hS hG ls hl => ?_)
  have hl : lv_has ls 5 [(0, .ref (a 0)), (1, .int cy), (2, .int st), (3, .int wh)] := hl
  refine lv_iload_n hx hb dX6_locked_0 rfl (lv_at hl 1 rfl) ?_
  refine x_callSi (w := wM cI a) (σ := σ) (σ' := σ) (As := [.int cy]) (rest := []) ⟨hx, hb, hml, hown, hts⟩ hG hP hS hsz (c_X6_isCycle l D cI a H.size σ cy) (va_cwS 1 hts gX6_locked_X6_isCycle rfl rfl rfl (by decide +kernel) ⟨Nat.le_of_ble_eq_true rfl, Nat.le_of_ble_eq_true rfl⟩) rfl hl.1 rfl (Nat.le_of_ble_eq_true rfl) ⟨Nat.zero_le _, Nat.zero_le _⟩ dX6_locked_1 (fun H locs hP hS => ?_)
  refine lv_if_eq (tgt := 18) hx hb dX6_locked_4 (by decide) (fun h_1 => ?_) (fun h_1 => ?_)
  · refine lv_iconst (v := 0) hx hb dX6_locked_18 (by decide) ?_
    refine lv_istore (lv' := [(4, .int 0), (0, .ref (a 0)), (1, .int cy), (2, .int st), (3, .int wh)]) hx hb dX6_locked_19 hl (by decide) rfl (fun ls hl => ?_)
    refine lv_aload_n hx hb dX6_locked_21 rfl (lv_at hl 1 rfl) ?_
    refine lv_iload hx hb dX6_locked_22 (lv_at hl 0 rfl) ?_
    refine lv_if_ne (tgt := 31) hx hb dX6_locked_24 (by decide) (fun h => absurd (by decide) h) (fun _ => ?_)
    refine lv_iconst (v := 1) hx hb dX6_locked_27 (by decide) ?_
    refine lv_goto (tgt := 58) hx hb dX6_locked_28 (by decide) ?_
    refine x_callVi (w := wM cI a) (σ := σ) (σ' := s_X6_goesWell σ 1) (As := [.int 1]) (rest := []) (q0 := 0) ⟨hx, hb, hml, hown, hts⟩ hG hP hS hsz (c_X6_goesWell l D cI a H.size σ 1) (cwV 1 hts gX6_locked_X6_goesWell rfl rfl rfl (by decide +kernel) ⟨Nat.le_of_ble_eq_true rfl, Nat.le_of_ble_eq_true rfl⟩) rfl rfl rfl rfl hl.1 rfl (Nat.le_of_ble_eq_true rfl) ⟨Nat.zero_le _, Nat.zero_le _⟩ dX6_locked_58 (fun H locs hP hS => ?_)
    refine W.eq (g2 := F0 m 61 ls [.int 0]) rfl ?_
    refine lv_if_eq (tgt := 79) hx hb dX6_locked_61 (by decide) (fun _ => ?_) (fun h => absurd (by decide) h)
    refine lv_iconst (v := 0) hx hb dX6_locked_79 (by decide) ?_
    exact x_iret hx hb hr hlk hsz hP hS rfl (by rw [r_X6_locked, if_pos h_1]) (by rw [s_X6_locked, if_pos h_1]) dX6_locked_80
  · refine lv_iload_n hx hb dX6_locked_7 rfl (lv_at hl 2 rfl) ?_
    refine x_callSi (w := wM cI a) (σ := σ) (σ' := σ) (As := [.int st]) (rest := []) ⟨hx, hb, hml, hown, hts⟩ hG hP hS hsz (c_X6_isStation l D cI a H.size σ st) (va_cwS 1 hts gX6_locked_X6_isStation rfl rfl rfl (by decide +kernel) ⟨Nat.le_of_ble_eq_true rfl, Nat.le_of_ble_eq_true rfl⟩) rfl hl.1 rfl (Nat.le_of_ble_eq_true rfl) ⟨Nat.zero_le _, Nat.zero_le _⟩ dX6_locked_8 (fun H locs hP hS => ?_)
    refine lv_if_eq (tgt := 18) hx hb dX6_locked_11 (by decide) (fun h_2 => ?_) (fun h_2 => ?_)
    · refine lv_iconst (v := 0) hx hb dX6_locked_18 (by decide) ?_
      refine lv_istore (lv' := [(4, .int 0), (0, .ref (a 0)), (1, .int cy), (2, .int st), (3, .int wh)]) hx hb dX6_locked_19 hl (by decide) rfl (fun ls hl => ?_)
      refine lv_aload_n hx hb dX6_locked_21 rfl (lv_at hl 1 rfl) ?_
      refine lv_iload hx hb dX6_locked_22 (lv_at hl 0 rfl) ?_
      refine lv_if_ne (tgt := 31) hx hb dX6_locked_24 (by decide) (fun h => absurd (by decide) h) (fun _ => ?_)
      refine lv_iconst (v := 1) hx hb dX6_locked_27 (by decide) ?_
      refine lv_goto (tgt := 58) hx hb dX6_locked_28 (by decide) ?_
      refine x_callVi (w := wM cI a) (σ := σ) (σ' := s_X6_goesWell σ 1) (As := [.int 1]) (rest := []) (q0 := 0) ⟨hx, hb, hml, hown, hts⟩ hG hP hS hsz (c_X6_goesWell l D cI a H.size σ 1) (cwV 1 hts gX6_locked_X6_goesWell rfl rfl rfl (by decide +kernel) ⟨Nat.le_of_ble_eq_true rfl, Nat.le_of_ble_eq_true rfl⟩) rfl rfl rfl rfl hl.1 rfl (Nat.le_of_ble_eq_true rfl) ⟨Nat.zero_le _, Nat.zero_le _⟩ dX6_locked_58 (fun H locs hP hS => ?_)
      refine W.eq (g2 := F0 m 61 ls [.int 0]) rfl ?_
      refine lv_if_eq (tgt := 79) hx hb dX6_locked_61 (by decide) (fun _ => ?_) (fun h => absurd (by decide) h)
      refine lv_iconst (v := 0) hx hb dX6_locked_79 (by decide) ?_
      exact x_iret hx hb hr hlk hsz hP hS rfl (by rw [r_X6_locked, if_neg h_1, if_pos h_2]) (by rw [s_X6_locked, if_neg h_1, if_pos h_2]) dX6_locked_80
    · refine lv_iconst (v := 1) hx hb dX6_locked_14 (by decide) ?_
      refine lv_goto (tgt := 19) hx hb dX6_locked_15 (by decide) ?_
      refine lv_istore (lv' := [(4, .int 1), (0, .ref (a 0)), (1, .int cy), (2, .int st), (3, .int wh)]) hx hb dX6_locked_19 hl (by decide) rfl (fun ls hl => ?_)
      refine lv_aload_n hx hb dX6_locked_21 rfl (lv_at hl 1 rfl) ?_
      refine lv_iload hx hb dX6_locked_22 (lv_at hl 0 rfl) ?_
      refine lv_if_ne (tgt := 31) hx hb dX6_locked_24 (by decide) (fun _ => ?_) (fun h => absurd h (by decide))
      refine lv_aload_n hx hb dX6_locked_31 rfl (lv_at hl 1 rfl) ?_
      refine lv_iload_n hx hb dX6_locked_32 rfl (lv_at hl 4 rfl) ?_
      refine x_callVi (w := wM cI a) (σ := σ) (σ' := σ) (As := [.int wh]) (rest := [.ref (a 0)]) (q0 := 0) ⟨hx, hb, hml, hown, hts⟩ hG hP hS hsz (c_X6_isWhen l D cI a H.size σ wh) (cwV 1 hts gX6_locked_X6_isWhen rfl rfl rfl (by decide +kernel) ⟨Nat.le_of_ble_eq_true rfl, Nat.le_of_ble_eq_true rfl⟩) rfl rfl rfl rfl hl.1 rfl (Nat.le_of_ble_eq_true rfl) ⟨Nat.zero_le _, Nat.zero_le _⟩ dX6_locked_33 (fun H locs hP hS => ?_)
      refine lv_if_ne (tgt := 43) hx hb dX6_locked_36 (by decide) (fun h_3 => ?_) (fun h_3 => ?_)
      · refine lv_aload_n hx hb dX6_locked_43 rfl (lv_at hl 1 rfl) ?_
        refine x_get (ci := 6) (C := RX6) (T := TX6) (M := 29) (v := .int (σ 0 5)) hx hb hts in_X6_locked_6 hown hG hP 0 rfl rfl 5 (by decide) (List.mem_of_getElem? (i := 1) rfl) rfl rfl dX6_locked_44 ?_
        refine lv_sipush (v := 300) hx hb dX6_locked_47 (by decide) ?_
        refine lv_icmp_ne (tgt := 57) hx hb dX6_locked_50 (by decide) (fun h_4 => ?_) (fun h_4 => ?_)
        · refine lv_iconst (v := 0) hx hb dX6_locked_57 (by decide) ?_
          refine x_callVi (w := wM cI a) (σ := σ) (σ' := s_X6_goesWell σ 0) (As := [.int 0]) (rest := []) (q0 := 0) ⟨hx, hb, hml, hown, hts⟩ hG hP hS hsz (c_X6_goesWell l D cI a H.size σ 0) (cwV 1 hts gX6_locked_X6_goesWell rfl rfl rfl (by decide +kernel) ⟨Nat.le_of_ble_eq_true rfl, Nat.le_of_ble_eq_true rfl⟩) rfl rfl rfl rfl hl.1 rfl (Nat.le_of_ble_eq_true rfl) ⟨Nat.zero_le _, Nat.zero_le _⟩ dX6_locked_58 (fun H locs hP hS => ?_)
          refine W.eq (g2 := F0 m 61 ls [.int 1]) rfl ?_
          refine lv_if_eq (tgt := 79) hx hb dX6_locked_61 (by decide) (fun h => absurd h (by decide)) (fun _ => ?_)
          refine lv_aload_n hx hb dX6_locked_64 rfl (lv_at hl 1 rfl) ?_
          refine lv_iconst (v := 4) hx hb dX6_locked_65 (by decide) ?_
          refine lv_iload_n hx hb dX6_locked_66 rfl (lv_at hl 2 rfl) ?_
          refine lv_iload_n hx hb dX6_locked_67 rfl (lv_at hl 3 rfl) ?_
          refine lv_iload_n hx hb dX6_locked_68 rfl (lv_at hl 4 rfl) ?_
          refine x_callVi (w := wM cI a) (σ := s_X6_goesWell σ 0) (σ' := s_X6_hear (s_X6_goesWell σ 0) 4 cy st wh n) (As := [.int 4, .int cy, .int st, .int wh]) (rest := []) (q0 := 0) ⟨hx, hb, hml, hown, hts⟩ hG hP hS hsz (c_X6_hear l D cI a H.size (s_X6_goesWell σ 0) 4 cy st wh n (lt300 hcn hn h_4) hcn) (cwV 4 hts gX6_locked_X6_hear rfl rfl rfl (by decide +kernel) ⟨Nat.le_of_ble_eq_true rfl, Nat.le_of_ble_eq_true rfl⟩) rfl rfl rfl rfl hl.1 rfl (Nat.le_of_ble_eq_true rfl) ⟨Nat.zero_le _, Nat.zero_le _⟩ dX6_locked_69 (fun H locs hP hS => ?_)
          refine lv_if_eq (tgt := 79) hx hb dX6_locked_72 (by decide) (fun h_5 => ?_) (fun h_5 => ?_)
          · refine lv_iconst (v := 0) hx hb dX6_locked_79 (by decide) ?_
            exact x_iret hx hb hr hlk hsz hP hS rfl (by rw [r_X6_locked, if_neg h_1, if_neg h_2, if_neg h_3, if_neg h_4, if_pos h_5]) (by rw [s_X6_locked, if_neg h_1, if_neg h_2, if_neg h_3, if_neg h_4, if_pos h_5]) dX6_locked_80
          · refine lv_iconst (v := 1) hx hb dX6_locked_75 (by decide) ?_
            refine lv_goto (tgt := 80) hx hb dX6_locked_76 (by decide) ?_
            exact x_iret hx hb hr hlk hsz hP hS rfl (by rw [r_X6_locked, if_neg h_1, if_neg h_2, if_neg h_3, if_neg h_4, if_neg h_5]) (by rw [s_X6_locked, if_neg h_1, if_neg h_2, if_neg h_3, if_neg h_4, if_neg h_5]) dX6_locked_80
        · refine lv_iconst (v := 3) hx hb dX6_locked_53 (by decide) ?_
          refine lv_goto (tgt := 58) hx hb dX6_locked_54 (by decide) ?_
          refine x_callVi (w := wM cI a) (σ := σ) (σ' := s_X6_goesWell σ 3) (As := [.int 3]) (rest := []) (q0 := 0) ⟨hx, hb, hml, hown, hts⟩ hG hP hS hsz (c_X6_goesWell l D cI a H.size σ 3) (cwV 1 hts gX6_locked_X6_goesWell rfl rfl rfl (by decide +kernel) ⟨Nat.le_of_ble_eq_true rfl, Nat.le_of_ble_eq_true rfl⟩) rfl rfl rfl rfl hl.1 rfl (Nat.le_of_ble_eq_true rfl) ⟨Nat.zero_le _, Nat.zero_le _⟩ dX6_locked_58 (fun H locs hP hS => ?_)
          refine W.eq (g2 := F0 m 61 ls [.int 0]) rfl ?_
          refine lv_if_eq (tgt := 79) hx hb dX6_locked_61 (by decide) (fun _ => ?_) (fun h => absurd (by decide) h)
          refine lv_iconst (v := 0) hx hb dX6_locked_79 (by decide) ?_
          exact x_iret hx hb hr hlk hsz hP hS rfl (by rw [r_X6_locked, if_neg h_1, if_neg h_2, if_neg h_3, if_pos h_4]) (by rw [s_X6_locked, if_neg h_1, if_neg h_2, if_neg h_3, if_pos h_4]) dX6_locked_80
      · refine lv_iconst (v := 2) hx hb dX6_locked_39 (by decide) ?_
        refine lv_goto (tgt := 58) hx hb dX6_locked_40 (by decide) ?_
        refine x_callVi (w := wM cI a) (σ := σ) (σ' := s_X6_goesWell σ 2) (As := [.int 2]) (rest := []) (q0 := 0) ⟨hx, hb, hml, hown, hts⟩ hG hP hS hsz (c_X6_goesWell l D cI a H.size σ 2) (cwV 1 hts gX6_locked_X6_goesWell rfl rfl rfl (by decide +kernel) ⟨Nat.le_of_ble_eq_true rfl, Nat.le_of_ble_eq_true rfl⟩) rfl rfl rfl rfl hl.1 rfl (Nat.le_of_ble_eq_true rfl) ⟨Nat.zero_le _, Nat.zero_le _⟩ dX6_locked_58 (fun H locs hP hS => ?_)
        refine W.eq (g2 := F0 m 61 ls [.int 0]) rfl ?_
        refine lv_if_eq (tgt := 79) hx hb dX6_locked_61 (by decide) (fun _ => ?_) (fun h => absurd (by decide) h)
        refine lv_iconst (v := 0) hx hb dX6_locked_79 (by decide) ?_
        exact x_iret hx hb hr hlk hsz hP hS rfl (by rw [r_X6_locked, if_neg h_1, if_neg h_2, if_pos h_3]) (by rw [s_X6_locked, if_neg h_1, if_neg h_2, if_pos h_3]) dX6_locked_80
theorem in_X6_faulty_6 : ∀ wd ∈ u_ws RX6 TX6 29, wd ∈ wsX6_faulty := by decide +kernel
def r_X6_faulty (σ : Sg) (cy : Int32) (ri : Int32) (wh : Int32) (n : Nat) : Int32 :=
  if r_X6_isCycle σ cy = 0 then
    0
  else
    if r_X6_isRider σ ri = 0 then
      0
    else
      if r_X6_isWhen σ wh = 0 then
        0
      else
        if σ 0 5 = 300 then
          0
        else
          if r_X6_hear (s_X6_goesWell σ 0) 5 cy ri wh n = 0 then
            0
          else
            1
def s_X6_faulty (σ : Sg) (cy : Int32) (ri : Int32) (wh : Int32) (n : Nat) : Sg :=
  if r_X6_isCycle σ cy = 0 then
    s_X6_goesWell σ 1
  else
    if r_X6_isRider σ ri = 0 then
      s_X6_goesWell σ 1
    else
      if r_X6_isWhen σ wh = 0 then
        s_X6_goesWell σ 2
      else
        if σ 0 5 = 300 then
          s_X6_goesWell σ 3
        else
          if r_X6_hear (s_X6_goesWell σ 0) 5 cy ri wh n = 0 then
            s_X6_hear (s_X6_goesWell σ 0) 5 cy ri wh n
          else
            s_X6_hear (s_X6_goesWell σ 0) 5 cy ri wh n
theorem b_X6_faulty (σ : Sg) (cy : Int32) (ri : Int32) (wh : Int32) (n : Nat) : r_X6_faulty σ cy ri wh n = 0 ∨ r_X6_faulty σ cy ri wh n = 1 := by
  unfold r_X6_faulty
  repeat' split
  all_goals first | with_reducible exact Or.inl rfl | with_reducible exact Or.inr rfl | with_reducible exact b_X6_hear _ _ _ _ _
set_option maxHeartbeats 4000000 in
set_option maxRecDepth 100000 in
theorem c_X6_faulty (l : Launch) (D : va_G) (cI : ClassId) (a : Nat → Nat) (sz : Nat) (σ : Sg) (cy : Int32) (ri : Int32) (wh : Int32) (n : Nat) (hn : n ≤ 300) (hcn : σ 0 5 = nI n) : Met l yX6_faulty wsX6_faulty ({ frames := 2, cells := 0, slots := 0, locals := 50 }) (PcW D cI 24 a (wM cI a) sz σ [.ref (a 0), .int cy, .int ri, .int wh]) (QiW D 24 a (wM cI a) sz (r_X6_faulty σ cy ri wh n) (s_X6_faulty σ cy ri wh n)) 0 0 (AX 24 a sz) := by
  refine x_of (cc := cX6_faulty) (maxL := 5) (ret := some .boolean) (C := RX6) rfl (by decide) rfl (Nat.le_of_ble_eq_true rfl) (fun p e s m below meth c hx hb hr hml hlk hts hown hsz H hP hS hG ls hl => ?_)
  have hl : lv_has ls 5 [(0, .ref (a 0)), (1, .int cy), (2, .int ri), (3, .int wh)] := hl
  refine lv_iload_n hx hb dX6_faulty_0 rfl (lv_at hl 1 rfl) ?_
  refine x_callSi (w := wM cI a) (σ := σ) (σ' := σ) (As := [.int cy]) (rest := []) ⟨hx, hb, hml, hown, hts⟩ hG hP hS hsz (c_X6_isCycle l D cI a H.size σ cy) (va_cwS 1 hts gX6_faulty_X6_isCycle rfl rfl rfl (by decide +kernel) ⟨Nat.le_of_ble_eq_true rfl, Nat.le_of_ble_eq_true rfl⟩) rfl hl.1 rfl (Nat.le_of_ble_eq_true rfl) ⟨Nat.zero_le _, Nat.zero_le _⟩ dX6_faulty_1 (fun H locs hP hS => ?_)
  refine lv_if_eq (tgt := 18) hx hb dX6_faulty_4 (by decide) (fun h_1 => ?_) (fun h_1 => ?_)
  · refine lv_iconst (v := 0) hx hb dX6_faulty_18 (by decide) ?_
    refine lv_istore (lv' := [(4, .int 0), (0, .ref (a 0)), (1, .int cy), (2, .int ri), (3, .int wh)]) hx hb dX6_faulty_19 hl (by decide) rfl (fun ls hl => ?_)
    refine lv_aload_n hx hb dX6_faulty_21 rfl (lv_at hl 1 rfl) ?_
    refine lv_iload hx hb dX6_faulty_22 (lv_at hl 0 rfl) ?_
    refine lv_if_ne (tgt := 31) hx hb dX6_faulty_24 (by decide) (fun h => absurd (by decide) h) (fun _ => ?_)
    refine lv_iconst (v := 1) hx hb dX6_faulty_27 (by decide) ?_
    refine lv_goto (tgt := 58) hx hb dX6_faulty_28 (by decide) ?_
    refine x_callVi (w := wM cI a) (σ := σ) (σ' := s_X6_goesWell σ 1) (As := [.int 1]) (rest := []) (q0 := 0) ⟨hx, hb, hml, hown, hts⟩ hG hP hS hsz (c_X6_goesWell l D cI a H.size σ 1) (cwV 1 hts gX6_faulty_X6_goesWell rfl rfl rfl (by decide +kernel) ⟨Nat.le_of_ble_eq_true rfl, Nat.le_of_ble_eq_true rfl⟩) rfl rfl rfl rfl hl.1 rfl (Nat.le_of_ble_eq_true rfl) ⟨Nat.zero_le _, Nat.zero_le _⟩ dX6_faulty_58 (fun H locs hP hS => ?_)
    refine W.eq (g2 := F0 m 61 ls [.int 0]) rfl ?_
    refine lv_if_eq (tgt := 79) hx hb dX6_faulty_61 (by decide) (fun _ => ?_) (fun h => absurd (by decide) h)
    refine lv_iconst (v := 0) hx hb dX6_faulty_79 (by decide) ?_
    exact x_iret hx hb hr hlk hsz hP hS rfl (by rw [r_X6_faulty, if_pos h_1]) (by rw [s_X6_faulty, if_pos h_1]) dX6_faulty_80
  · refine lv_iload_n hx hb dX6_faulty_7 rfl (lv_at hl 2 rfl) ?_
    refine x_callSi (w := wM cI a) (σ := σ) (σ' := σ) (As := [.int ri]) (rest := []) ⟨hx, hb, hml, hown, hts⟩ hG hP hS hsz (c_X6_isRider l D cI a H.size σ ri) (va_cwS 1 hts gX6_faulty_X6_isRider rfl rfl rfl (by decide +kernel) ⟨Nat.le_of_ble_eq_true rfl, Nat.le_of_ble_eq_true rfl⟩) rfl hl.1 rfl (Nat.le_of_ble_eq_true rfl) ⟨Nat.zero_le _, Nat.zero_le _⟩ dX6_faulty_8 (fun H locs hP hS => ?_)
    refine lv_if_eq (tgt := 18) hx hb dX6_faulty_11 (by decide) (fun h_2 => ?_) (fun h_2 => ?_)
    · refine lv_iconst (v := 0) hx hb dX6_faulty_18 (by decide) ?_
      refine lv_istore (lv' := [(4, .int 0), (0, .ref (a 0)), (1, .int cy), (2, .int ri), (3, .int wh)]) hx hb dX6_faulty_19 hl (by decide) rfl (fun ls hl => ?_)
      refine lv_aload_n hx hb dX6_faulty_21 rfl (lv_at hl 1 rfl) ?_
      refine lv_iload hx hb dX6_faulty_22 (lv_at hl 0 rfl) ?_
      refine lv_if_ne (tgt := 31) hx hb dX6_faulty_24 (by decide) (fun h => absurd (by decide) h) (fun _ => ?_)
      refine lv_iconst (v := 1) hx hb dX6_faulty_27 (by decide) ?_
      refine lv_goto (tgt := 58) hx hb dX6_faulty_28 (by decide) ?_
      refine x_callVi (w := wM cI a) (σ := σ) (σ' := s_X6_goesWell σ 1) (As := [.int 1]) (rest := []) (q0 := 0) ⟨hx, hb, hml, hown, hts⟩ hG hP hS hsz (c_X6_goesWell l D cI a H.size σ 1) (cwV 1 hts gX6_faulty_X6_goesWell rfl rfl rfl (by decide +kernel) ⟨Nat.le_of_ble_eq_true rfl, Nat.le_of_ble_eq_true rfl⟩) rfl rfl rfl rfl hl.1 rfl (Nat.le_of_ble_eq_true rfl) ⟨Nat.zero_le _, Nat.zero_le _⟩ dX6_faulty_58 (fun H locs hP hS => ?_)
      refine W.eq (g2 := F0 m 61 ls [.int 0]) rfl ?_
      refine lv_if_eq (tgt := 79) hx hb dX6_faulty_61 (by decide) (fun _ => ?_) (fun h => absurd (by decide) h)
      refine lv_iconst (v := 0) hx hb dX6_faulty_79 (by decide) ?_
      exact x_iret hx hb hr hlk hsz hP hS rfl (by rw [r_X6_faulty, if_neg h_1, if_pos h_2]) (by rw [s_X6_faulty, if_neg h_1, if_pos h_2]) dX6_faulty_80
    · refine lv_iconst (v := 1) hx hb dX6_faulty_14 (by decide) ?_
      refine lv_goto (tgt := 19) hx hb dX6_faulty_15 (by decide) ?_
      refine lv_istore (lv' := [(4, .int 1), (0, .ref (a 0)), (1, .int cy), (2, .int ri), (3, .int wh)]) hx hb dX6_faulty_19 hl (by decide) rfl (fun ls hl => ?_)
      refine lv_aload_n hx hb dX6_faulty_21 rfl (lv_at hl 1 rfl) ?_
      refine lv_iload hx hb dX6_faulty_22 (lv_at hl 0 rfl) ?_
      refine lv_if_ne (tgt := 31) hx hb dX6_faulty_24 (by decide) (fun _ => ?_) (fun h => absurd h (by decide))
      refine lv_aload_n hx hb dX6_faulty_31 rfl (lv_at hl 1 rfl) ?_
      refine lv_iload_n hx hb dX6_faulty_32 rfl (lv_at hl 4 rfl) ?_
      refine x_callVi (w := wM cI a) (σ := σ) (σ' := σ) (As := [.int wh]) (rest := [.ref (a 0)]) (q0 := 0) ⟨hx, hb, hml, hown, hts⟩ hG hP hS hsz (c_X6_isWhen l D cI a H.size σ wh) (cwV 1 hts gX6_faulty_X6_isWhen rfl rfl rfl (by decide +kernel) ⟨Nat.le_of_ble_eq_true rfl, Nat.le_of_ble_eq_true rfl⟩) rfl rfl rfl rfl hl.1 rfl (Nat.le_of_ble_eq_true rfl) ⟨Nat.zero_le _, Nat.zero_le _⟩ dX6_faulty_33 (fun H locs hP hS => ?_)
      refine lv_if_ne (tgt := 43) hx hb dX6_faulty_36 (by decide) (fun h_3 => ?_) (fun h_3 => ?_)
      · refine lv_aload_n hx hb dX6_faulty_43 rfl (lv_at hl 1 rfl) ?_
        refine x_get (ci := 6) (C := RX6) (T := TX6) (M := 29) (v := .int (σ 0 5)) hx hb hts in_X6_faulty_6 hown hG hP 0 rfl rfl 5 (by decide) (List.mem_of_getElem? (i := 1) rfl) rfl rfl dX6_faulty_44 ?_
        refine lv_sipush (v := 300) hx hb dX6_faulty_47 (by decide) ?_
        refine lv_icmp_ne (tgt := 57) hx hb dX6_faulty_50 (by decide) (fun h_4 => ?_) (fun h_4 => ?_)
        · refine lv_iconst (v := 0) hx hb dX6_faulty_57 (by decide) ?_
          refine x_callVi (w := wM cI a) (σ := σ) (σ' := s_X6_goesWell σ 0) (As := [.int 0]) (rest := []) (q0 := 0) ⟨hx, hb, hml, hown, hts⟩ hG hP hS hsz (c_X6_goesWell l D cI a H.size σ 0) (cwV 1 hts gX6_faulty_X6_goesWell rfl rfl rfl (by decide +kernel) ⟨Nat.le_of_ble_eq_true rfl, Nat.le_of_ble_eq_true rfl⟩) rfl rfl rfl rfl hl.1 rfl (Nat.le_of_ble_eq_true rfl) ⟨Nat.zero_le _, Nat.zero_le _⟩ dX6_faulty_58 (fun H locs hP hS => ?_)
          refine W.eq (g2 := F0 m 61 ls [.int 1]) rfl ?_
          refine lv_if_eq (tgt := 79) hx hb dX6_faulty_61 (by decide) (fun h => absurd h (by decide)) (fun _ => ?_)
          refine lv_aload_n hx hb dX6_faulty_64 rfl (lv_at hl 1 rfl) ?_
          refine lv_iconst (v := 5) hx hb dX6_faulty_65 (by decide) ?_
          refine lv_iload_n hx hb dX6_faulty_66 rfl (lv_at hl 2 rfl) ?_
          refine lv_iload_n hx hb dX6_faulty_67 rfl (lv_at hl 3 rfl) ?_
          refine lv_iload_n hx hb dX6_faulty_68 rfl (lv_at hl 4 rfl) ?_
          refine x_callVi (w := wM cI a) (σ := s_X6_goesWell σ 0) (σ' := s_X6_hear (s_X6_goesWell σ 0) 5 cy ri wh n) (As := [.int 5, .int cy, .int ri, .int wh]) (rest := []) (q0 := 0) ⟨hx, hb, hml, hown, hts⟩ hG hP hS hsz (c_X6_hear l D cI a H.size (s_X6_goesWell σ 0) 5 cy ri wh n (lt300 hcn hn h_4) hcn) (cwV 4 hts gX6_faulty_X6_hear rfl rfl rfl (by decide +kernel) ⟨Nat.le_of_ble_eq_true rfl, Nat.le_of_ble_eq_true rfl⟩) rfl rfl rfl rfl hl.1 rfl (Nat.le_of_ble_eq_true rfl) ⟨Nat.zero_le _, Nat.zero_le _⟩ dX6_faulty_69 (fun H locs hP hS => ?_)
          refine lv_if_eq (tgt := 79) hx hb dX6_faulty_72 (by decide) (fun h_5 => ?_) (fun h_5 => ?_)
          · refine lv_iconst (v := 0) hx hb dX6_faulty_79 (by decide) ?_
            exact x_iret hx hb hr hlk hsz hP hS rfl (by rw [r_X6_faulty, if_neg h_1, if_neg h_2, if_neg h_3, if_neg h_4, if_pos h_5]) (by rw [s_X6_faulty, if_neg h_1, if_neg h_2, if_neg h_3, if_neg h_4, if_pos h_5]) dX6_faulty_80
          · refine lv_iconst (v := 1) hx hb dX6_faulty_75 (by decide) ?_
            refine lv_goto (tgt := 80) hx hb dX6_faulty_76 (by decide) ?_
            exact x_iret hx hb hr hlk hsz hP hS rfl (by rw [r_X6_faulty, if_neg h_1, if_neg h_2, if_neg h_3, if_neg h_4, if_neg h_5]) (by rw [s_X6_faulty, if_neg h_1, if_neg h_2, if_neg h_3, if_neg h_4, if_neg h_5]) dX6_faulty_80
        · refine lv_iconst (v := 3) hx hb dX6_faulty_53 (by decide) ?_
          refine lv_goto (tgt := 58) hx hb dX6_faulty_54 (by decide) ?_
          refine x_callVi (w := wM cI a) (σ := σ) (σ' := s_X6_goesWell σ 3) (As := [.int 3]) (rest := []) (q0 := 0) ⟨hx, hb, hml, hown, hts⟩ hG hP hS hsz (c_X6_goesWell l D cI a H.size σ 3) (cwV 1 hts gX6_faulty_X6_goesWell rfl rfl rfl (by decide +kernel) ⟨Nat.le_of_ble_eq_true rfl, Nat.le_of_ble_eq_true rfl⟩) rfl rfl rfl rfl hl.1 rfl (Nat.le_of_ble_eq_true rfl) ⟨Nat.zero_le _, Nat.zero_le _⟩ dX6_faulty_58 (fun H locs hP hS => ?_)
          refine W.eq (g2 := F0 m 61 ls [.int 0]) rfl ?_
          refine lv_if_eq (tgt := 79) hx hb dX6_faulty_61 (by decide) (fun _ => ?_) (fun h => absurd (by decide) h)
          refine lv_iconst (v := 0) hx hb dX6_faulty_79 (by decide) ?_
          exact x_iret hx hb hr hlk hsz hP hS rfl (by rw [r_X6_faulty, if_neg h_1, if_neg h_2, if_neg h_3, if_pos h_4]) (by rw [s_X6_faulty, if_neg h_1, if_neg h_2, if_neg h_3, if_pos h_4]) dX6_faulty_80
      · refine lv_iconst (v := 2) hx hb dX6_faulty_39 (by decide) ?_
        refine lv_goto (tgt := 58) hx hb dX6_faulty_40 (by decide) ?_
        refine x_callVi (w := wM cI a) (σ := σ) (σ' := s_X6_goesWell σ 2) (As := [.int 2]) (rest := []) (q0 := 0) ⟨hx, hb, hml, hown, hts⟩ hG hP hS hsz (c_X6_goesWell l D cI a H.size σ 2) (cwV 1 hts gX6_faulty_X6_goesWell rfl rfl rfl (by decide +kernel) ⟨Nat.le_of_ble_eq_true rfl, Nat.le_of_ble_eq_true rfl⟩) rfl rfl rfl rfl hl.1 rfl (Nat.le_of_ble_eq_true rfl) ⟨Nat.zero_le _, Nat.zero_le _⟩ dX6_faulty_58 (fun H locs hP hS => ?_)
        refine W.eq (g2 := F0 m 61 ls [.int 0]) rfl ?_
        refine lv_if_eq (tgt := 79) hx hb dX6_faulty_61 (by decide) (fun _ => ?_) (fun h => absurd (by decide) h)
        refine lv_iconst (v := 0) hx hb dX6_faulty_79 (by decide) ?_
        exact x_iret hx hb hr hlk hsz hP hS rfl (by rw [r_X6_faulty, if_neg h_1, if_neg h_2, if_pos h_3]) (by rw [s_X6_faulty, if_neg h_1, if_neg h_2, if_pos h_3]) dX6_faulty_80
theorem in_X6_cycle_6 : ∀ wd ∈ u_ws RX6 TX6 29, wd ∈ wsX6_cycle := by decide +kernel
def r_X6_cycle (σ : Sg) (cy : Int32) (its : Int32) (n : Nat) : Int32 :=
  if r_X6_isCycle σ cy = 0 then
    0
  else
    if r_X6_in σ its 0 3 = 0 then
      0
    else
      if its = 0 then
        (s_X6_goThrough (s_X6_goesWell σ 0) n) 11 cy.toNatClampNeg
      else
        if its = 1 then
          (s_X6_goThrough (s_X6_goesWell σ 0) n) 12 cy.toNatClampNeg
        else
          if its = 2 then
            if r_X6_isBlocked (s_X6_goThrough (s_X6_goesWell σ 0) n) cy = 0 then
              0
            else
              1
          else
            (s_X6_goThrough (s_X6_goesWell σ 0) n) 17 cy.toNatClampNeg
def s_X6_cycle (σ : Sg) (cy : Int32) (its : Int32) (n : Nat) : Sg :=
  if r_X6_isCycle σ cy = 0 then
    s_X6_goesWell σ 1
  else
    if r_X6_in σ its 0 3 = 0 then
      s_X6_goesWell σ 2
    else
      if its = 0 then
        s_X6_goThrough (s_X6_goesWell σ 0) n
      else
        if its = 1 then
          s_X6_goThrough (s_X6_goesWell σ 0) n
        else
          if its = 2 then
            if r_X6_isBlocked (s_X6_goThrough (s_X6_goesWell σ 0) n) cy = 0 then
              s_X6_goThrough (s_X6_goesWell σ 0) n
            else
              s_X6_goThrough (s_X6_goesWell σ 0) n
          else
            s_X6_goThrough (s_X6_goesWell σ 0) n
set_option maxHeartbeats 4000000 in
set_option maxRecDepth 100000 in
theorem c_X6_cycle (l : Launch) (D : va_G) (cI : ClassId) (a : Nat → Nat) (sz : Nat) (σ : Sg) (cy : Int32) (its : Int32) (n : Nat) (hn : n ≤ 300) (hg : gOK (s_X6_goesWell σ 0) n) : Met l yX6_cycle wsX6_cycle ({ frames := 5, cells := 0, slots := 0, locals := 120 }) (PcW D cI 24 a (wM cI a) sz σ [.ref (a 0), .int cy, .int its]) (QiW D 24 a (wM cI a) sz (r_X6_cycle σ cy its n) (s_X6_cycle σ cy its n)) 0 0 (AX 24 a sz) := by
  refine x_of (cc := cX6_cycle) (maxL := 4) (ret := some .int) (C := RX6) rfl (by decide) rfl (Nat.le_of_ble_eq_true rfl) (fun p e s m below meth c hx hb hr hml hlk hts hown hsz H hP hS hG ls hl => ?_)
  have hl : lv_has ls 4 [(0, .ref (a 0)), (1, .int cy), (2, .int its)] := hl
  refine lv_iload_n hx hb dX6_cycle_0 rfl (lv_at hl 1 rfl) ?_
  refine x_callSi (w := wM cI a) (σ := σ) (σ' := σ) (As := [.int cy]) (rest := []) ⟨hx, hb, hml, hown, hts⟩ hG hP hS hsz (c_X6_isCycle l D cI a H.size σ cy) (va_cwS 1 hts gX6_cycle_X6_isCycle rfl rfl rfl (by decide +kernel) ⟨Nat.le_of_ble_eq_true rfl, Nat.le_of_ble_eq_true rfl⟩) rfl hl.1 rfl (Nat.le_of_ble_eq_true rfl) ⟨Nat.zero_le _, Nat.zero_le _⟩ dX6_cycle_1 (fun H locs hP hS => ?_)
  refine lv_istore_n (lv' := [(3, .int (r_X6_isCycle σ cy)), (0, .ref (a 0)), (1, .int cy), (2, .int its)]) hx hb dX6_cycle_4 rfl hl (by decide) rfl (fun ls hl => ?_)
  refine lv_aload_n hx hb dX6_cycle_5 rfl (lv_at hl 1 rfl) ?_
  refine lv_iload_n hx hb dX6_cycle_6 rfl (lv_at hl 0 rfl) ?_
  refine lv_if_ne (tgt := 14) hx hb dX6_cycle_7 (by decide) (fun h_1 => ?_) (fun h_1 => ?_)
  · refine lv_iload_n hx hb dX6_cycle_14 rfl (lv_at hl 3 rfl) ?_
    refine lv_iconst (v := 0) hx hb dX6_cycle_15 (by decide) ?_
    refine lv_iconst (v := 3) hx hb dX6_cycle_16 (by decide) ?_
    refine x_callSi (w := wM cI a) (σ := σ) (σ' := σ) (As := [.int its, .int 0, .int 3]) (rest := [.ref (a 0)]) ⟨hx, hb, hml, hown, hts⟩ hG hP hS hsz (c_X6_in l D cI a H.size σ its 0 3) (va_cwS 3 hts gX6_cycle_X6_in rfl rfl rfl (by decide +kernel) ⟨Nat.le_of_ble_eq_true rfl, Nat.le_of_ble_eq_true rfl⟩) rfl hl.1 rfl (Nat.le_of_ble_eq_true rfl) ⟨Nat.zero_le _, Nat.zero_le _⟩ dX6_cycle_17 (fun H locs hP hS => ?_)
    refine lv_if_eq (tgt := 27) hx hb dX6_cycle_20 (by decide) (fun h_2 => ?_) (fun h_2 => ?_)
    · refine lv_iconst (v := 2) hx hb dX6_cycle_27 (by decide) ?_
      refine x_callVi (w := wM cI a) (σ := σ) (σ' := s_X6_goesWell σ 2) (As := [.int 2]) (rest := []) (q0 := 0) ⟨hx, hb, hml, hown, hts⟩ hG hP hS hsz (c_X6_goesWell l D cI a H.size σ 2) (cwV 1 hts gX6_cycle_X6_goesWell rfl rfl rfl (by decide +kernel) ⟨Nat.le_of_ble_eq_true rfl, Nat.le_of_ble_eq_true rfl⟩) rfl rfl rfl rfl hl.1 rfl (Nat.le_of_ble_eq_true rfl) ⟨Nat.zero_le _, Nat.zero_le _⟩ dX6_cycle_28 (fun H locs hP hS => ?_)
      refine W.eq (g2 := F0 m 31 ls [.int 0]) rfl ?_
      refine lv_if_ne (tgt := 36) hx hb dX6_cycle_31 (by decide) (fun h => absurd (by decide) h) (fun _ => ?_)
      refine lv_iconst (v := 0) hx hb dX6_cycle_34 (by decide) ?_
      exact x_iret hx hb hr hlk hsz hP hS rfl (by rw [r_X6_cycle, if_neg h_1, if_pos h_2]) (by rw [s_X6_cycle, if_neg h_1, if_pos h_2]) dX6_cycle_35
    · refine lv_iconst (v := 0) hx hb dX6_cycle_23 (by decide) ?_
      refine lv_goto (tgt := 28) hx hb dX6_cycle_24 (by decide) ?_
      refine x_callVi (w := wM cI a) (σ := σ) (σ' := s_X6_goesWell σ 0) (As := [.int 0]) (rest := []) (q0 := 0) ⟨hx, hb, hml, hown, hts⟩ hG hP hS hsz (c_X6_goesWell l D cI a H.size σ 0) (cwV 1 hts gX6_cycle_X6_goesWell rfl rfl rfl (by decide +kernel) ⟨Nat.le_of_ble_eq_true rfl, Nat.le_of_ble_eq_true rfl⟩) rfl rfl rfl rfl hl.1 rfl (Nat.le_of_ble_eq_true rfl) ⟨Nat.zero_le _, Nat.zero_le _⟩ dX6_cycle_28 (fun H locs hP hS => ?_)
      refine W.eq (g2 := F0 m 31 ls [.int 1]) rfl ?_
      refine lv_if_ne (tgt := 36) hx hb dX6_cycle_31 (by decide) (fun _ => ?_) (fun h => absurd h (by decide))
      refine lv_aload_n hx hb dX6_cycle_36 rfl (lv_at hl 1 rfl) ?_
      refine x_callVv (w := wM cI a) (σ := s_X6_goesWell σ 0) (σ' := s_X6_goThrough (s_X6_goesWell σ 0) n) (As := []) (rest := []) (q0 := 0) ⟨hx, hb, hml, hown, hts⟩ hG hP hS hsz (c_X6_goThrough l D cI a H.size (s_X6_goesWell σ 0)  n hn hg) (cwV 0 hts gX6_cycle_X6_goThrough rfl rfl rfl (by decide +kernel) ⟨Nat.le_of_ble_eq_true rfl, Nat.le_of_ble_eq_true rfl⟩) rfl rfl rfl rfl hl.1 rfl (Nat.le_of_ble_eq_true rfl) ⟨Nat.zero_le _, Nat.zero_le _⟩ dX6_cycle_37 (fun H locs hP hS => ?_)
      refine lv_iload_n hx hb dX6_cycle_40 rfl (lv_at hl 3 rfl) ?_
      refine lv_if_ne (tgt := 53) hx hb dX6_cycle_41 (by decide) (fun h_3 => ?_) (fun h_3 => ?_)
      · refine lv_iload_n hx hb dX6_cycle_53 rfl (lv_at hl 3 rfl) ?_
        refine lv_iconst (v := 1) hx hb dX6_cycle_54 (by decide) ?_
        refine lv_icmp_ne (tgt := 67) hx hb dX6_cycle_55 (by decide) (fun h_4 => ?_) (fun h_4 => ?_)
        · refine lv_iload_n hx hb dX6_cycle_67 rfl (lv_at hl 3 rfl) ?_
          refine lv_iconst (v := 2) hx hb dX6_cycle_68 (by decide) ?_
          refine lv_icmp_ne (tgt := 88) hx hb dX6_cycle_69 (by decide) (fun h_5 => ?_) (fun h_5 => ?_)
          · refine lv_aload_n hx hb dX6_cycle_88 rfl (lv_at hl 1 rfl) ?_
            refine x_get (ci := 6) (C := RX6) (T := TX6) (M := 29) (v := .ref (a 17)) hx hb hts in_X6_cycle_6 hown hG hP 0 rfl rfl 19 (by decide) (List.mem_of_getElem? (i := 3) rfl) rfl rfl dX6_cycle_89 ?_
            refine lv_iload_n hx hb dX6_cycle_92 rfl (lv_at hl 2 rfl) ?_
            refine x_iald (f := (s_X6_goThrough (s_X6_goesWell σ 0) n) 17) hx hb hG hP 17 rfl (isCy_in h_1) dX6_cycle_93 ?_
            exact x_iret hx hb hr hlk hsz hP hS rfl (by rw [r_X6_cycle, if_neg h_1, if_neg h_2, if_neg h_3, if_neg h_4, if_neg h_5]) (by rw [s_X6_cycle, if_neg h_1, if_neg h_2, if_neg h_3, if_neg h_4, if_neg h_5]) dX6_cycle_94
          · refine lv_aload_n hx hb dX6_cycle_72 rfl (lv_at hl 1 rfl) ?_
            refine lv_iload_n hx hb dX6_cycle_73 rfl (lv_at hl 2 rfl) ?_
            refine x_callVi (w := wM cI a) (σ := s_X6_goThrough (s_X6_goesWell σ 0) n) (σ' := s_X6_goThrough (s_X6_goesWell σ 0) n) (As := [.int cy]) (rest := []) (q0 := 0) ⟨hx, hb, hml, hown, hts⟩ hG hP hS hsz (c_X6_isBlocked l D cI a H.size (s_X6_goThrough (s_X6_goesWell σ 0) n) cy (isCy_in h_1)) (cwV 1 hts gX6_cycle_X6_isBlocked rfl rfl rfl (by decide +kernel) ⟨Nat.le_of_ble_eq_true rfl, Nat.le_of_ble_eq_true rfl⟩) rfl rfl rfl rfl hl.1 rfl (Nat.le_of_ble_eq_true rfl) ⟨Nat.zero_le _, Nat.zero_le _⟩ dX6_cycle_74 (fun H locs hP hS => ?_)
            refine lv_if_eq (tgt := 84) hx hb dX6_cycle_77 (by decide) (fun h_6 => ?_) (fun h_6 => ?_)
            · refine lv_iconst (v := 0) hx hb dX6_cycle_84 (by decide) ?_
              refine lv_goto (tgt := 94) hx hb dX6_cycle_85 (by decide) ?_
              exact x_iret hx hb hr hlk hsz hP hS rfl (by rw [r_X6_cycle, if_neg h_1, if_neg h_2, if_neg h_3, if_neg h_4, if_pos h_5, if_pos h_6]) (by rw [s_X6_cycle, if_neg h_1, if_neg h_2, if_neg h_3, if_neg h_4, if_pos h_5, if_pos h_6]) dX6_cycle_94
            · refine lv_iconst (v := 1) hx hb dX6_cycle_80 (by decide) ?_
              refine lv_goto (tgt := 94) hx hb dX6_cycle_81 (by decide) ?_
              exact x_iret hx hb hr hlk hsz hP hS rfl (by rw [r_X6_cycle, if_neg h_1, if_neg h_2, if_neg h_3, if_neg h_4, if_pos h_5, if_neg h_6]) (by rw [s_X6_cycle, if_neg h_1, if_neg h_2, if_neg h_3, if_neg h_4, if_pos h_5, if_neg h_6]) dX6_cycle_94
        · refine lv_aload_n hx hb dX6_cycle_58 rfl (lv_at hl 1 rfl) ?_
          refine x_get (ci := 6) (C := RX6) (T := TX6) (M := 29) (v := .ref (a 12)) hx hb hts in_X6_cycle_6 hown hG hP 0 rfl rfl 14 (by decide) (List.mem_of_getElem? (i := 2) rfl) rfl rfl dX6_cycle_59 ?_
          refine lv_iload_n hx hb dX6_cycle_62 rfl (lv_at hl 2 rfl) ?_
          refine x_iald (f := (s_X6_goThrough (s_X6_goesWell σ 0) n) 12) hx hb hG hP 12 rfl (isCy_in h_1) dX6_cycle_63 ?_
          refine lv_goto (tgt := 94) hx hb dX6_cycle_64 (by decide) ?_
          exact x_iret hx hb hr hlk hsz hP hS rfl (by rw [r_X6_cycle, if_neg h_1, if_neg h_2, if_neg h_3, if_pos h_4]) (by rw [s_X6_cycle, if_neg h_1, if_neg h_2, if_neg h_3, if_pos h_4]) dX6_cycle_94
      · refine lv_aload_n hx hb dX6_cycle_44 rfl (lv_at hl 1 rfl) ?_
        refine x_get (ci := 6) (C := RX6) (T := TX6) (M := 29) (v := .ref (a 11)) hx hb hts in_X6_cycle_6 hown hG hP 0 rfl rfl 13 (by decide) (List.mem_of_getElem? (i := 1) rfl) rfl rfl dX6_cycle_45 ?_
        refine lv_iload_n hx hb dX6_cycle_48 rfl (lv_at hl 2 rfl) ?_
        refine x_iald (f := (s_X6_goThrough (s_X6_goesWell σ 0) n) 11) hx hb hG hP 11 rfl (isCy_in h_1) dX6_cycle_49 ?_
        refine lv_goto (tgt := 94) hx hb dX6_cycle_50 (by decide) ?_
        exact x_iret hx hb hr hlk hsz hP hS rfl (by rw [r_X6_cycle, if_neg h_1, if_neg h_2, if_pos h_3]) (by rw [s_X6_cycle, if_neg h_1, if_neg h_2, if_pos h_3]) dX6_cycle_94
  · refine lv_iconst (v := 1) hx hb dX6_cycle_10 (by decide) ?_
    refine lv_goto (tgt := 28) hx hb dX6_cycle_11 (by decide) ?_
    refine x_callVi (w := wM cI a) (σ := σ) (σ' := s_X6_goesWell σ 1) (As := [.int 1]) (rest := []) (q0 := 0) ⟨hx, hb, hml, hown, hts⟩ hG hP hS hsz (c_X6_goesWell l D cI a H.size σ 1) (cwV 1 hts gX6_cycle_X6_goesWell rfl rfl rfl (by decide +kernel) ⟨Nat.le_of_ble_eq_true rfl, Nat.le_of_ble_eq_true rfl⟩) rfl rfl rfl rfl hl.1 rfl (Nat.le_of_ble_eq_true rfl) ⟨Nat.zero_le _, Nat.zero_le _⟩ dX6_cycle_28 (fun H locs hP hS => ?_)
    refine W.eq (g2 := F0 m 31 ls [.int 0]) rfl ?_
    refine lv_if_ne (tgt := 36) hx hb dX6_cycle_31 (by decide) (fun h => absurd (by decide) h) (fun _ => ?_)
    refine lv_iconst (v := 0) hx hb dX6_cycle_34 (by decide) ?_
    exact x_iret hx hb hr hlk hsz hP hS rfl (by rw [r_X6_cycle, if_pos h_1]) (by rw [s_X6_cycle, if_pos h_1]) dX6_cycle_35
theorem in_X6_station_6 : ∀ wd ∈ u_ws RX6 TX6 29, wd ∈ wsX6_station := by decide +kernel
def r_X6_station (σ : Sg) (st : Int32) (its : Int32) (n : Nat) : Int32 :=
  if r_X6_isStation σ st = 0 then
    0
  else
    if r_X6_in σ its 0 4 = 0 then
      0
    else
      if its = 0 then
        (s_X6_goThrough (s_X6_goesWell σ 0) n) 8 st.toNatClampNeg
      else
        if its = 1 then
          (s_X6_goThrough (s_X6_goesWell σ 0) n) 9 st.toNatClampNeg
        else
          if its = 2 then
            r_X6_free (s_X6_goThrough (s_X6_goesWell σ 0) n) st
          else
            if its = 3 then
              r_X6_promises (s_X6_goThrough (s_X6_goesWell σ 0) n) st (-1) ((s_X6_goThrough (s_X6_goesWell σ 0) n) 0 1)
            else
              (s_X6_goThrough (s_X6_goesWell σ 0) n) 10 st.toNatClampNeg
def s_X6_station (σ : Sg) (st : Int32) (its : Int32) (n : Nat) : Sg :=
  if r_X6_isStation σ st = 0 then
    s_X6_goesWell σ 1
  else
    if r_X6_in σ its 0 4 = 0 then
      s_X6_goesWell σ 2
    else
      if its = 0 then
        s_X6_goThrough (s_X6_goesWell σ 0) n
      else
        if its = 1 then
          s_X6_goThrough (s_X6_goesWell σ 0) n
        else
          if its = 2 then
            s_X6_goThrough (s_X6_goesWell σ 0) n
          else
            if its = 3 then
              s_X6_goThrough (s_X6_goesWell σ 0) n
            else
              s_X6_goThrough (s_X6_goesWell σ 0) n
set_option maxHeartbeats 4000000 in
set_option maxRecDepth 100000 in
theorem c_X6_station (l : Launch) (D : va_G) (cI : ClassId) (a : Nat → Nat) (sz : Nat) (σ : Sg) (st : Int32) (its : Int32) (n : Nat) (hn : n ≤ 300) (hg : gOK (s_X6_goesWell σ 0) n) : Met l yX6_station wsX6_station ({ frames := 5, cells := 0, slots := 0, locals := 120 }) (PcW D cI 24 a (wM cI a) sz σ [.ref (a 0), .int st, .int its]) (QiW D 24 a (wM cI a) sz (r_X6_station σ st its n) (s_X6_station σ st its n)) 0 0 (AX 24 a sz) := by
  refine x_of (cc := cX6_station) (maxL := 4) (ret := some .int) (C := RX6) rfl (by decide) rfl (Nat.le_of_ble_eq_true rfl) (fun p e s m below meth c hx hb hr hml hlk hts hown hsz H hP hS hG ls hl => ?_)
  have hl : lv_has ls 4 [(0, .ref (a 0)), (1, .int st), (2, .int its)] := hl
  refine lv_iload_n hx hb dX6_station_0 rfl (lv_at hl 1 rfl) ?_
  refine x_callSi (w := wM cI a) (σ := σ) (σ' := σ) (As := [.int st]) (rest := []) ⟨hx, hb, hml, hown, hts⟩ hG hP hS hsz (c_X6_isStation l D cI a H.size σ st) (va_cwS 1 hts gX6_station_X6_isStation rfl rfl rfl (by decide +kernel) ⟨Nat.le_of_ble_eq_true rfl, Nat.le_of_ble_eq_true rfl⟩) rfl hl.1 rfl (Nat.le_of_ble_eq_true rfl) ⟨Nat.zero_le _, Nat.zero_le _⟩ dX6_station_1 (fun H locs hP hS => ?_)
  refine lv_istore_n (lv' := [(3, .int (r_X6_isStation σ st)), (0, .ref (a 0)), (1, .int st), (2, .int its)]) hx hb dX6_station_4 rfl hl (by decide) rfl (fun ls hl => ?_)
  refine lv_aload_n hx hb dX6_station_5 rfl (lv_at hl 1 rfl) ?_
  refine lv_iload_n hx hb dX6_station_6 rfl (lv_at hl 0 rfl) ?_
  refine lv_if_ne (tgt := 14) hx hb dX6_station_7 (by decide) (fun h_1 => ?_) (fun h_1 => ?_)
  · refine lv_iload_n hx hb dX6_station_14 rfl (lv_at hl 3 rfl) ?_
    refine lv_iconst (v := 0) hx hb dX6_station_15 (by decide) ?_
    refine lv_iconst (v := 4) hx hb dX6_station_16 (by decide) ?_
    refine x_callSi (w := wM cI a) (σ := σ) (σ' := σ) (As := [.int its, .int 0, .int 4]) (rest := [.ref (a 0)]) ⟨hx, hb, hml, hown, hts⟩ hG hP hS hsz (c_X6_in l D cI a H.size σ its 0 4) (va_cwS 3 hts gX6_station_X6_in rfl rfl rfl (by decide +kernel) ⟨Nat.le_of_ble_eq_true rfl, Nat.le_of_ble_eq_true rfl⟩) rfl hl.1 rfl (Nat.le_of_ble_eq_true rfl) ⟨Nat.zero_le _, Nat.zero_le _⟩ dX6_station_17 (fun H locs hP hS => ?_)
    refine lv_if_eq (tgt := 27) hx hb dX6_station_20 (by decide) (fun h_2 => ?_) (fun h_2 => ?_)
    · refine lv_iconst (v := 2) hx hb dX6_station_27 (by decide) ?_
      refine x_callVi (w := wM cI a) (σ := σ) (σ' := s_X6_goesWell σ 2) (As := [.int 2]) (rest := []) (q0 := 0) ⟨hx, hb, hml, hown, hts⟩ hG hP hS hsz (c_X6_goesWell l D cI a H.size σ 2) (cwV 1 hts gX6_station_X6_goesWell rfl rfl rfl (by decide +kernel) ⟨Nat.le_of_ble_eq_true rfl, Nat.le_of_ble_eq_true rfl⟩) rfl rfl rfl rfl hl.1 rfl (Nat.le_of_ble_eq_true rfl) ⟨Nat.zero_le _, Nat.zero_le _⟩ dX6_station_28 (fun H locs hP hS => ?_)
      refine W.eq (g2 := F0 m 31 ls [.int 0]) rfl ?_
      refine lv_if_ne (tgt := 36) hx hb dX6_station_31 (by decide) (fun h => absurd (by decide) h) (fun _ => ?_)
      refine lv_iconst (v := 0) hx hb dX6_station_34 (by decide) ?_
      exact x_iret hx hb hr hlk hsz hP hS rfl (by rw [r_X6_station, if_neg h_1, if_pos h_2]) (by rw [s_X6_station, if_neg h_1, if_pos h_2]) dX6_station_35
    · refine lv_iconst (v := 0) hx hb dX6_station_23 (by decide) ?_
      refine lv_goto (tgt := 28) hx hb dX6_station_24 (by decide) ?_
      refine x_callVi (w := wM cI a) (σ := σ) (σ' := s_X6_goesWell σ 0) (As := [.int 0]) (rest := []) (q0 := 0) ⟨hx, hb, hml, hown, hts⟩ hG hP hS hsz (c_X6_goesWell l D cI a H.size σ 0) (cwV 1 hts gX6_station_X6_goesWell rfl rfl rfl (by decide +kernel) ⟨Nat.le_of_ble_eq_true rfl, Nat.le_of_ble_eq_true rfl⟩) rfl rfl rfl rfl hl.1 rfl (Nat.le_of_ble_eq_true rfl) ⟨Nat.zero_le _, Nat.zero_le _⟩ dX6_station_28 (fun H locs hP hS => ?_)
      refine W.eq (g2 := F0 m 31 ls [.int 1]) rfl ?_
      refine lv_if_ne (tgt := 36) hx hb dX6_station_31 (by decide) (fun _ => ?_) (fun h => absurd h (by decide))
      refine lv_aload_n hx hb dX6_station_36 rfl (lv_at hl 1 rfl) ?_
      refine x_callVv (w := wM cI a) (σ := s_X6_goesWell σ 0) (σ' := s_X6_goThrough (s_X6_goesWell σ 0) n) (As := []) (rest := []) (q0 := 0) ⟨hx, hb, hml, hown, hts⟩ hG hP hS hsz (c_X6_goThrough l D cI a H.size (s_X6_goesWell σ 0)  n hn hg) (cwV 0 hts gX6_station_X6_goThrough rfl rfl rfl (by decide +kernel) ⟨Nat.le_of_ble_eq_true rfl, Nat.le_of_ble_eq_true rfl⟩) rfl rfl rfl rfl hl.1 rfl (Nat.le_of_ble_eq_true rfl) ⟨Nat.zero_le _, Nat.zero_le _⟩ dX6_station_37 (fun H locs hP hS => ?_)
      refine lv_iload_n hx hb dX6_station_40 rfl (lv_at hl 3 rfl) ?_
      refine lv_if_ne (tgt := 53) hx hb dX6_station_41 (by decide) (fun h_3 => ?_) (fun h_3 => ?_)
      · refine lv_iload_n hx hb dX6_station_53 rfl (lv_at hl 3 rfl) ?_
        refine lv_iconst (v := 1) hx hb dX6_station_54 (by decide) ?_
        refine lv_icmp_ne (tgt := 67) hx hb dX6_station_55 (by decide) (fun h_4 => ?_) (fun h_4 => ?_)
        · refine lv_iload_n hx hb dX6_station_67 rfl (lv_at hl 3 rfl) ?_
          refine lv_iconst (v := 2) hx hb dX6_station_68 (by decide) ?_
          refine lv_icmp_ne (tgt := 80) hx hb dX6_station_69 (by decide) (fun h_5 => ?_) (fun h_5 => ?_)
          · refine lv_iload_n hx hb dX6_station_80 rfl (lv_at hl 3 rfl) ?_
            refine lv_iconst (v := 3) hx hb dX6_station_81 (by decide) ?_
            refine lv_icmp_ne (tgt := 98) hx hb dX6_station_82 (by decide) (fun h_6 => ?_) (fun h_6 => ?_)
            · refine lv_aload_n hx hb dX6_station_98 rfl (lv_at hl 1 rfl) ?_
              refine x_get (ci := 6) (C := RX6) (T := TX6) (M := 29) (v := .ref (a 10)) hx hb hts in_X6_station_6 hown hG hP 0 rfl rfl 12 (by decide) (List.mem_of_getElem? (i := 4) rfl) rfl rfl dX6_station_99 ?_
              refine lv_iload_n hx hb dX6_station_102 rfl (lv_at hl 2 rfl) ?_
              refine x_iald (f := (s_X6_goThrough (s_X6_goesWell σ 0) n) 10) hx hb hG hP 10 rfl (isSt_in h_1) dX6_station_103 ?_
              exact x_iret hx hb hr hlk hsz hP hS rfl (by rw [r_X6_station, if_neg h_1, if_neg h_2, if_neg h_3, if_neg h_4, if_neg h_5, if_neg h_6]) (by rw [s_X6_station, if_neg h_1, if_neg h_2, if_neg h_3, if_neg h_4, if_neg h_5, if_neg h_6]) dX6_station_104
            · refine lv_aload_n hx hb dX6_station_85 rfl (lv_at hl 1 rfl) ?_
              refine lv_iload_n hx hb dX6_station_86 rfl (lv_at hl 2 rfl) ?_
              refine lv_iconst (v := (-1)) hx hb dX6_station_87 (by decide) ?_
              refine lv_aload_n hx hb dX6_station_88 rfl (lv_at hl 1 rfl) ?_
              refine x_get (ci := 6) (C := RX6) (T := TX6) (M := 29) (v := .int ((s_X6_goThrough (s_X6_goesWell σ 0) n) 0 1)) hx hb hts in_X6_station_6 hown hG hP 0 rfl rfl 1 (by decide) (List.mem_of_getElem? (i := 3) rfl) rfl rfl dX6_station_89 ?_
              refine x_callVi (w := wM cI a) (σ := s_X6_goThrough (s_X6_goesWell σ 0) n) (σ' := s_X6_goThrough (s_X6_goesWell σ 0) n) (As := [.int st, .int (-1), .int ((s_X6_goThrough (s_X6_goesWell σ 0) n) 0 1)]) (rest := []) (q0 := 0) ⟨hx, hb, hml, hown, hts⟩ hG hP hS hsz (c_X6_promises l D cI a H.size (s_X6_goThrough (s_X6_goesWell σ 0) n) st (-1) ((s_X6_goThrough (s_X6_goesWell σ 0) n) 0 1)) (cwV 3 hts gX6_station_X6_promises rfl rfl rfl (by decide +kernel) ⟨Nat.le_of_ble_eq_true rfl, Nat.le_of_ble_eq_true rfl⟩) rfl rfl rfl rfl hl.1 rfl (Nat.le_of_ble_eq_true rfl) ⟨Nat.zero_le _, Nat.zero_le _⟩ dX6_station_92 (fun H locs hP hS => ?_)
              refine lv_goto (tgt := 104) hx hb dX6_station_95 (by decide) ?_
              exact x_iret hx hb hr hlk hsz hP hS rfl (by rw [r_X6_station, if_neg h_1, if_neg h_2, if_neg h_3, if_neg h_4, if_neg h_5, if_pos h_6]) (by rw [s_X6_station, if_neg h_1, if_neg h_2, if_neg h_3, if_neg h_4, if_neg h_5, if_pos h_6]) dX6_station_104
          · refine lv_aload_n hx hb dX6_station_72 rfl (lv_at hl 1 rfl) ?_
            refine lv_iload_n hx hb dX6_station_73 rfl (lv_at hl 2 rfl) ?_
            refine x_callVi (w := wM cI a) (σ := s_X6_goThrough (s_X6_goesWell σ 0) n) (σ' := s_X6_goThrough (s_X6_goesWell σ 0) n) (As := [.int st]) (rest := []) (q0 := 0) ⟨hx, hb, hml, hown, hts⟩ hG hP hS hsz (c_X6_free l D cI a H.size (s_X6_goThrough (s_X6_goesWell σ 0) n) st (isSt_in h_1)) (cwV 1 hts gX6_station_X6_free rfl rfl rfl (by decide +kernel) ⟨Nat.le_of_ble_eq_true rfl, Nat.le_of_ble_eq_true rfl⟩) rfl rfl rfl rfl hl.1 rfl (Nat.le_of_ble_eq_true rfl) ⟨Nat.zero_le _, Nat.zero_le _⟩ dX6_station_74 (fun H locs hP hS => ?_)
            refine lv_goto (tgt := 104) hx hb dX6_station_77 (by decide) ?_
            exact x_iret hx hb hr hlk hsz hP hS rfl (by rw [r_X6_station, if_neg h_1, if_neg h_2, if_neg h_3, if_neg h_4, if_pos h_5]) (by rw [s_X6_station, if_neg h_1, if_neg h_2, if_neg h_3, if_neg h_4, if_pos h_5]) dX6_station_104
        · refine lv_aload_n hx hb dX6_station_58 rfl (lv_at hl 1 rfl) ?_
          refine x_get (ci := 6) (C := RX6) (T := TX6) (M := 29) (v := .ref (a 9)) hx hb hts in_X6_station_6 hown hG hP 0 rfl rfl 11 (by decide) (List.mem_of_getElem? (i := 2) rfl) rfl rfl dX6_station_59 ?_
          refine lv_iload_n hx hb dX6_station_62 rfl (lv_at hl 2 rfl) ?_
          refine x_iald (f := (s_X6_goThrough (s_X6_goesWell σ 0) n) 9) hx hb hG hP 9 rfl (isSt_in h_1) dX6_station_63 ?_
          refine lv_goto (tgt := 104) hx hb dX6_station_64 (by decide) ?_
          exact x_iret hx hb hr hlk hsz hP hS rfl (by rw [r_X6_station, if_neg h_1, if_neg h_2, if_neg h_3, if_pos h_4]) (by rw [s_X6_station, if_neg h_1, if_neg h_2, if_neg h_3, if_pos h_4]) dX6_station_104
      · refine lv_aload_n hx hb dX6_station_44 rfl (lv_at hl 1 rfl) ?_
        refine x_get (ci := 6) (C := RX6) (T := TX6) (M := 29) (v := .ref (a 8)) hx hb hts in_X6_station_6 hown hG hP 0 rfl rfl 10 (by decide) (List.mem_of_getElem? (i := 1) rfl) rfl rfl dX6_station_45 ?_
        refine lv_iload_n hx hb dX6_station_48 rfl (lv_at hl 2 rfl) ?_
        refine x_iald (f := (s_X6_goThrough (s_X6_goesWell σ 0) n) 8) hx hb hG hP 8 rfl (isSt_in h_1) dX6_station_49 ?_
        refine lv_goto (tgt := 104) hx hb dX6_station_50 (by decide) ?_
        exact x_iret hx hb hr hlk hsz hP hS rfl (by rw [r_X6_station, if_neg h_1, if_neg h_2, if_pos h_3]) (by rw [s_X6_station, if_neg h_1, if_neg h_2, if_pos h_3]) dX6_station_104
  · refine lv_iconst (v := 1) hx hb dX6_station_10 (by decide) ?_
    refine lv_goto (tgt := 28) hx hb dX6_station_11 (by decide) ?_
    refine x_callVi (w := wM cI a) (σ := σ) (σ' := s_X6_goesWell σ 1) (As := [.int 1]) (rest := []) (q0 := 0) ⟨hx, hb, hml, hown, hts⟩ hG hP hS hsz (c_X6_goesWell l D cI a H.size σ 1) (cwV 1 hts gX6_station_X6_goesWell rfl rfl rfl (by decide +kernel) ⟨Nat.le_of_ble_eq_true rfl, Nat.le_of_ble_eq_true rfl⟩) rfl rfl rfl rfl hl.1 rfl (Nat.le_of_ble_eq_true rfl) ⟨Nat.zero_le _, Nat.zero_le _⟩ dX6_station_28 (fun H locs hP hS => ?_)
    refine W.eq (g2 := F0 m 31 ls [.int 0]) rfl ?_
    refine lv_if_ne (tgt := 36) hx hb dX6_station_31 (by decide) (fun h => absurd (by decide) h) (fun _ => ?_)
    refine lv_iconst (v := 0) hx hb dX6_station_34 (by decide) ?_
    exact x_iret hx hb hr hlk hsz hP hS rfl (by rw [r_X6_station, if_pos h_1]) (by rw [s_X6_station, if_pos h_1]) dX6_station_35
theorem in_X6_rider_6 : ∀ wd ∈ u_ws RX6 TX6 29, wd ∈ wsX6_rider := by decide +kernel
def r_X6_rider (σ : Sg) (ri : Int32) (its : Int32) (n : Nat) : Int32 :=
  if r_X6_isRider σ ri = 0 then
    0
  else
    if r_X6_in σ its 0 4 = 0 then
      0
    else
      if (s_X6_goThrough (s_X6_goesWell σ 0) n) 22 ri.toNatClampNeg = (-1) then
        if its = 0 then
          (s_X6_goThrough (s_X6_goesWell σ 0) n) 18 ri.toNatClampNeg
        else
          if its = 1 then
            (s_X6_goThrough (s_X6_goesWell σ 0) n) 19 ri.toNatClampNeg
          else
            if its = 2 then
              (s_X6_goThrough (s_X6_goesWell σ 0) n) 20 ri.toNatClampNeg
            else
              if its = 3 then
                ((s_X6_goThrough (s_X6_goesWell σ 0) n) 21 ri.toNatClampNeg) - ((s_X6_goThrough (s_X6_goesWell σ 0) n) 20 ri.toNatClampNeg)
              else
                (-1)
      else
        if 15 ≤ ((s_X6_goThrough (s_X6_goesWell σ 0) n) 0 1) - ((s_X6_goThrough (s_X6_goesWell σ 0) n) 23 ri.toNatClampNeg) then
          if its = 0 then
            (s_X6_goThrough (s_X6_goesWell σ 0) n) 18 ri.toNatClampNeg
          else
            if its = 1 then
              (s_X6_goThrough (s_X6_goesWell σ 0) n) 19 ri.toNatClampNeg
            else
              if its = 2 then
                (s_X6_goThrough (s_X6_goesWell σ 0) n) 20 ri.toNatClampNeg
              else
                if its = 3 then
                  ((s_X6_goThrough (s_X6_goesWell σ 0) n) 21 ri.toNatClampNeg) - ((s_X6_goThrough (s_X6_goesWell σ 0) n) 20 ri.toNatClampNeg)
                else
                  (-1)
        else
          if its = 0 then
            (s_X6_goThrough (s_X6_goesWell σ 0) n) 18 ri.toNatClampNeg
          else
            if its = 1 then
              (s_X6_goThrough (s_X6_goesWell σ 0) n) 19 ri.toNatClampNeg
            else
              if its = 2 then
                (s_X6_goThrough (s_X6_goesWell σ 0) n) 20 ri.toNatClampNeg
              else
                if its = 3 then
                  ((s_X6_goThrough (s_X6_goesWell σ 0) n) 21 ri.toNatClampNeg) - ((s_X6_goThrough (s_X6_goesWell σ 0) n) 20 ri.toNatClampNeg)
                else
                  (s_X6_goThrough (s_X6_goesWell σ 0) n) 22 ri.toNatClampNeg
def s_X6_rider (σ : Sg) (ri : Int32) (its : Int32) (n : Nat) : Sg :=
  if r_X6_isRider σ ri = 0 then
    s_X6_goesWell σ 1
  else
    if r_X6_in σ its 0 4 = 0 then
      s_X6_goesWell σ 2
    else
      if (s_X6_goThrough (s_X6_goesWell σ 0) n) 22 ri.toNatClampNeg = (-1) then
        if its = 0 then
          s_X6_goThrough (s_X6_goesWell σ 0) n
        else
          if its = 1 then
            s_X6_goThrough (s_X6_goesWell σ 0) n
          else
            if its = 2 then
              s_X6_goThrough (s_X6_goesWell σ 0) n
            else
              if its = 3 then
                s_X6_goThrough (s_X6_goesWell σ 0) n
              else
                s_X6_goThrough (s_X6_goesWell σ 0) n
      else
        if 15 ≤ ((s_X6_goThrough (s_X6_goesWell σ 0) n) 0 1) - ((s_X6_goThrough (s_X6_goesWell σ 0) n) 23 ri.toNatClampNeg) then
          if its = 0 then
            s_X6_goThrough (s_X6_goesWell σ 0) n
          else
            if its = 1 then
              s_X6_goThrough (s_X6_goesWell σ 0) n
            else
              if its = 2 then
                s_X6_goThrough (s_X6_goesWell σ 0) n
              else
                if its = 3 then
                  s_X6_goThrough (s_X6_goesWell σ 0) n
                else
                  s_X6_goThrough (s_X6_goesWell σ 0) n
        else
          if its = 0 then
            s_X6_goThrough (s_X6_goesWell σ 0) n
          else
            if its = 1 then
              s_X6_goThrough (s_X6_goesWell σ 0) n
            else
              if its = 2 then
                s_X6_goThrough (s_X6_goesWell σ 0) n
              else
                if its = 3 then
                  s_X6_goThrough (s_X6_goesWell σ 0) n
                else
                  s_X6_goThrough (s_X6_goesWell σ 0) n
set_option maxHeartbeats 4000000 in
set_option maxRecDepth 100000 in
theorem c_X6_rider (l : Launch) (D : va_G) (cI : ClassId) (a : Nat → Nat) (sz : Nat) (σ : Sg) (ri : Int32) (its : Int32) (n : Nat) (hn : n ≤ 300) (hg : gOK (s_X6_goesWell σ 0) n) : Met l yX6_rider wsX6_rider ({ frames := 5, cells := 0, slots := 0, locals := 120 }) (PcW D cI 24 a (wM cI a) sz σ [.ref (a 0), .int ri, .int its]) (QiW D 24 a (wM cI a) sz (r_X6_rider σ ri its n) (s_X6_rider σ ri its n)) 0 0 (AX 24 a sz) := by
  refine x_of (cc := cX6_rider) (maxL := 5) (ret := some .int) (C := RX6) rfl (by decide) rfl (Nat.le_of_ble_eq_true rfl) (fun p e s m below meth c hx hb hr hml hlk hts hown hsz H hP hS hG ls hl => ?_)
  have hl : lv_has ls 5 [(0, .ref (a 0)), (1, .int ri), (2, .int its)] := hl
  refine lv_iload_n hx hb dX6_rider_0 rfl (lv_at hl 1 rfl) ?_
  refine x_callSi (w := wM cI a) (σ := σ) (σ' := σ) (As := [.int ri]) (rest := []) ⟨hx, hb, hml, hown, hts⟩ hG hP hS hsz (c_X6_isRider l D cI a H.size σ ri) (va_cwS 1 hts gX6_rider_X6_isRider rfl rfl rfl (by decide +kernel) ⟨Nat.le_of_ble_eq_true rfl, Nat.le_of_ble_eq_true rfl⟩) rfl hl.1 rfl (Nat.le_of_ble_eq_true rfl) ⟨Nat.zero_le _, Nat.zero_le _⟩ dX6_rider_1 (fun H locs hP hS => ?_)
  refine lv_istore_n (lv' := [(3, .int (r_X6_isRider σ ri)), (0, .ref (a 0)), (1, .int ri), (2, .int its)]) hx hb dX6_rider_4 rfl hl (by decide) rfl (fun ls hl => ?_)
  refine lv_aload_n hx hb dX6_rider_5 rfl (lv_at hl 1 rfl) ?_
  refine lv_iload_n hx hb dX6_rider_6 rfl (lv_at hl 0 rfl) ?_
  refine lv_if_ne (tgt := 14) hx hb dX6_rider_7 (by decide) (fun h_1 => ?_) (fun h_1 => ?_)
  · refine lv_iload_n hx hb dX6_rider_14 rfl (lv_at hl 3 rfl) ?_
    refine lv_iconst (v := 0) hx hb dX6_rider_15 (by decide) ?_
    refine lv_iconst (v := 4) hx hb dX6_rider_16 (by decide) ?_
    refine x_callSi (w := wM cI a) (σ := σ) (σ' := σ) (As := [.int its, .int 0, .int 4]) (rest := [.ref (a 0)]) ⟨hx, hb, hml, hown, hts⟩ hG hP hS hsz (c_X6_in l D cI a H.size σ its 0 4) (va_cwS 3 hts gX6_rider_X6_in rfl rfl rfl (by decide +kernel) ⟨Nat.le_of_ble_eq_true rfl, Nat.le_of_ble_eq_true rfl⟩) rfl hl.1 rfl (Nat.le_of_ble_eq_true rfl) ⟨Nat.zero_le _, Nat.zero_le _⟩ dX6_rider_17 (fun H locs hP hS => ?_)
    refine lv_if_eq (tgt := 27) hx hb dX6_rider_20 (by decide) (fun h_2 => ?_) (fun h_2 => ?_)
    · refine lv_iconst (v := 2) hx hb dX6_rider_27 (by decide) ?_
      refine x_callVi (w := wM cI a) (σ := σ) (σ' := s_X6_goesWell σ 2) (As := [.int 2]) (rest := []) (q0 := 0) ⟨hx, hb, hml, hown, hts⟩ hG hP hS hsz (c_X6_goesWell l D cI a H.size σ 2) (cwV 1 hts gX6_rider_X6_goesWell rfl rfl rfl (by decide +kernel) ⟨Nat.le_of_ble_eq_true rfl, Nat.le_of_ble_eq_true rfl⟩) rfl rfl rfl rfl hl.1 rfl (Nat.le_of_ble_eq_true rfl) ⟨Nat.zero_le _, Nat.zero_le _⟩ dX6_rider_28 (fun H locs hP hS => ?_)
      refine W.eq (g2 := F0 m 31 ls [.int 0]) rfl ?_
      refine lv_if_ne (tgt := 36) hx hb dX6_rider_31 (by decide) (fun h => absurd (by decide) h) (fun _ => ?_)
      refine lv_iconst (v := 0) hx hb dX6_rider_34 (by decide) ?_
      exact x_iret hx hb hr hlk hsz hP hS rfl (by rw [r_X6_rider, if_neg h_1, if_pos h_2]) (by rw [s_X6_rider, if_neg h_1, if_pos h_2]) dX6_rider_35
    · refine lv_iconst (v := 0) hx hb dX6_rider_23 (by decide) ?_
      refine lv_goto (tgt := 28) hx hb dX6_rider_24 (by decide) ?_
      refine x_callVi (w := wM cI a) (σ := σ) (σ' := s_X6_goesWell σ 0) (As := [.int 0]) (rest := []) (q0 := 0) ⟨hx, hb, hml, hown, hts⟩ hG hP hS hsz (c_X6_goesWell l D cI a H.size σ 0) (cwV 1 hts gX6_rider_X6_goesWell rfl rfl rfl (by decide +kernel) ⟨Nat.le_of_ble_eq_true rfl, Nat.le_of_ble_eq_true rfl⟩) rfl rfl rfl rfl hl.1 rfl (Nat.le_of_ble_eq_true rfl) ⟨Nat.zero_le _, Nat.zero_le _⟩ dX6_rider_28 (fun H locs hP hS => ?_)
      refine W.eq (g2 := F0 m 31 ls [.int 1]) rfl ?_
      refine lv_if_ne (tgt := 36) hx hb dX6_rider_31 (by decide) (fun _ => ?_) (fun h => absurd h (by decide))
      refine lv_aload_n hx hb dX6_rider_36 rfl (lv_at hl 1 rfl) ?_
      refine x_callVv (w := wM cI a) (σ := s_X6_goesWell σ 0) (σ' := s_X6_goThrough (s_X6_goesWell σ 0) n) (As := []) (rest := []) (q0 := 0) ⟨hx, hb, hml, hown, hts⟩ hG hP hS hsz (c_X6_goThrough l D cI a H.size (s_X6_goesWell σ 0)  n hn hg) (cwV 0 hts gX6_rider_X6_goThrough rfl rfl rfl (by decide +kernel) ⟨Nat.le_of_ble_eq_true rfl, Nat.le_of_ble_eq_true rfl⟩) rfl rfl rfl rfl hl.1 rfl (Nat.le_of_ble_eq_true rfl) ⟨Nat.zero_le _, Nat.zero_le _⟩ dX6_rider_37 (fun H locs hP hS => ?_)
      refine lv_aload_n hx hb dX6_rider_40 rfl (lv_at hl 1 rfl) ?_
      refine x_get (ci := 6) (C := RX6) (T := TX6) (M := 29) (v := .ref (a 22)) hx hb hts in_X6_rider_6 hown hG hP 0 rfl rfl 24 (by decide) (List.mem_of_getElem? (i := 1) rfl) rfl rfl dX6_rider_41 ?_
      refine lv_iload_n hx hb dX6_rider_44 rfl (lv_at hl 2 rfl) ?_
      refine x_iald (f := (s_X6_goThrough (s_X6_goesWell σ 0) n) 22) hx hb hG hP 22 rfl (isRi_in h_1) dX6_rider_45 ?_
      refine lv_iconst (v := (-1)) hx hb dX6_rider_46 (by decide) ?_
      refine lv_icmp_eq (tgt := 75) hx hb dX6_rider_47 (by decide) (fun h_3 => ?_) (fun h_3 => ?_)
      · refine lv_iconst (v := (-1)) hx hb dX6_rider_75 (by decide) ?_
        refine lv_istore (lv' := [(4, .int (-1)), (3, .int (r_X6_isRider σ ri)), (0, .ref (a 0)), (1, .int ri), (2, .int its)]) hx hb dX6_rider_76 hl (by decide) rfl (fun ls hl => ?_)
        refine lv_iload_n hx hb dX6_rider_78 rfl (lv_at hl 4 rfl) ?_
        refine lv_if_ne (tgt := 91) hx hb dX6_rider_79 (by decide) (fun h_4 => ?_) (fun h_4 => ?_)
        · refine lv_iload_n hx hb dX6_rider_91 rfl (lv_at hl 4 rfl) ?_
          refine lv_iconst (v := 1) hx hb dX6_rider_92 (by decide) ?_
          refine lv_icmp_ne (tgt := 105) hx hb dX6_rider_93 (by decide) (fun h_5 => ?_) (fun h_5 => ?_)
          · refine lv_iload_n hx hb dX6_rider_105 rfl (lv_at hl 4 rfl) ?_
            refine lv_iconst (v := 2) hx hb dX6_rider_106 (by decide) ?_
            refine lv_icmp_ne (tgt := 119) hx hb dX6_rider_107 (by decide) (fun h_6 => ?_) (fun h_6 => ?_)
            · refine lv_iload_n hx hb dX6_rider_119 rfl (lv_at hl 4 rfl) ?_
              refine lv_iconst (v := 3) hx hb dX6_rider_120 (by decide) ?_
              refine lv_icmp_ne (tgt := 140) hx hb dX6_rider_121 (by decide) (fun h_7 => ?_) (fun h_7 => ?_)
              · refine lv_iload hx hb dX6_rider_140 (lv_at hl 0 rfl) ?_
                exact x_iret hx hb hr hlk hsz hP hS rfl (by rw [r_X6_rider, if_neg h_1, if_neg h_2, if_pos h_3, if_neg h_4, if_neg h_5, if_neg h_6, if_neg h_7]) (by rw [s_X6_rider, if_neg h_1, if_neg h_2, if_pos h_3, if_neg h_4, if_neg h_5, if_neg h_6, if_neg h_7]) dX6_rider_142
              · refine lv_aload_n hx hb dX6_rider_124 rfl (lv_at hl 2 rfl) ?_
                refine x_get (ci := 6) (C := RX6) (T := TX6) (M := 29) (v := .ref (a 21)) hx hb hts in_X6_rider_6 hown hG hP 0 rfl rfl 23 (by decide) (List.mem_of_getElem? (i := 7) rfl) rfl rfl dX6_rider_125 ?_
                refine lv_iload_n hx hb dX6_rider_128 rfl (lv_at hl 3 rfl) ?_
                refine x_iald (f := (s_X6_goThrough (s_X6_goesWell σ 0) n) 21) hx hb hG hP 21 rfl (isRi_in h_1) dX6_rider_129 ?_
                refine lv_aload_n hx hb dX6_rider_130 rfl (lv_at hl 2 rfl) ?_
                refine x_get (ci := 6) (C := RX6) (T := TX6) (M := 29) (v := .ref (a 20)) hx hb hts in_X6_rider_6 hown hG hP 0 rfl rfl 22 (by decide) (List.mem_of_getElem? (i := 6) rfl) rfl rfl dX6_rider_131 ?_
                refine lv_iload_n hx hb dX6_rider_134 rfl (lv_at hl 3 rfl) ?_
                refine x_iald (f := (s_X6_goThrough (s_X6_goesWell σ 0) n) 20) hx hb hG hP 20 rfl (isRi_in h_1) dX6_rider_135 ?_
                refine lv_isub hx hb dX6_rider_136 ?_
                refine lv_goto (tgt := 142) hx hb dX6_rider_137 (by decide) ?_
                exact x_iret hx hb hr hlk hsz hP hS rfl (by rw [r_X6_rider, if_neg h_1, if_neg h_2, if_pos h_3, if_neg h_4, if_neg h_5, if_neg h_6, if_pos h_7]) (by rw [s_X6_rider, if_neg h_1, if_neg h_2, if_pos h_3, if_neg h_4, if_neg h_5, if_neg h_6, if_pos h_7]) dX6_rider_142
            · refine lv_aload_n hx hb dX6_rider_110 rfl (lv_at hl 2 rfl) ?_
              refine x_get (ci := 6) (C := RX6) (T := TX6) (M := 29) (v := .ref (a 20)) hx hb hts in_X6_rider_6 hown hG hP 0 rfl rfl 22 (by decide) (List.mem_of_getElem? (i := 6) rfl) rfl rfl dX6_rider_111 ?_
              refine lv_iload_n hx hb dX6_rider_114 rfl (lv_at hl 3 rfl) ?_
              refine x_iald (f := (s_X6_goThrough (s_X6_goesWell σ 0) n) 20) hx hb hG hP 20 rfl (isRi_in h_1) dX6_rider_115 ?_
              refine lv_goto (tgt := 142) hx hb dX6_rider_116 (by decide) ?_
              exact x_iret hx hb hr hlk hsz hP hS rfl (by rw [r_X6_rider, if_neg h_1, if_neg h_2, if_pos h_3, if_neg h_4, if_neg h_5, if_pos h_6]) (by rw [s_X6_rider, if_neg h_1, if_neg h_2, if_pos h_3, if_neg h_4, if_neg h_5, if_pos h_6]) dX6_rider_142
          · refine lv_aload_n hx hb dX6_rider_96 rfl (lv_at hl 2 rfl) ?_
            refine x_get (ci := 6) (C := RX6) (T := TX6) (M := 29) (v := .ref (a 19)) hx hb hts in_X6_rider_6 hown hG hP 0 rfl rfl 21 (by decide) (List.mem_of_getElem? (i := 5) rfl) rfl rfl dX6_rider_97 ?_
            refine lv_iload_n hx hb dX6_rider_100 rfl (lv_at hl 3 rfl) ?_
            refine x_iald (f := (s_X6_goThrough (s_X6_goesWell σ 0) n) 19) hx hb hG hP 19 rfl (isRi_in h_1) dX6_rider_101 ?_
            refine lv_goto (tgt := 142) hx hb dX6_rider_102 (by decide) ?_
            exact x_iret hx hb hr hlk hsz hP hS rfl (by rw [r_X6_rider, if_neg h_1, if_neg h_2, if_pos h_3, if_neg h_4, if_pos h_5]) (by rw [s_X6_rider, if_neg h_1, if_neg h_2, if_pos h_3, if_neg h_4, if_pos h_5]) dX6_rider_142
        · refine lv_aload_n hx hb dX6_rider_82 rfl (lv_at hl 2 rfl) ?_
          refine x_get (ci := 6) (C := RX6) (T := TX6) (M := 29) (v := .ref (a 18)) hx hb hts in_X6_rider_6 hown hG hP 0 rfl rfl 20 (by decide) (List.mem_of_getElem? (i := 4) rfl) rfl rfl dX6_rider_83 ?_
          refine lv_iload_n hx hb dX6_rider_86 rfl (lv_at hl 3 rfl) ?_
          refine x_iald (f := (s_X6_goThrough (s_X6_goesWell σ 0) n) 18) hx hb hG hP 18 rfl (isRi_in h_1) dX6_rider_87 ?_
          refine lv_goto (tgt := 142) hx hb dX6_rider_88 (by decide) ?_
          exact x_iret hx hb hr hlk hsz hP hS rfl (by rw [r_X6_rider, if_neg h_1, if_neg h_2, if_pos h_3, if_pos h_4]) (by rw [s_X6_rider, if_neg h_1, if_neg h_2, if_pos h_3, if_pos h_4]) dX6_rider_142
      · refine lv_aload_n hx hb dX6_rider_50 rfl (lv_at hl 1 rfl) ?_
        refine x_get (ci := 6) (C := RX6) (T := TX6) (M := 29) (v := .int ((s_X6_goThrough (s_X6_goesWell σ 0) n) 0 1)) hx hb hts in_X6_rider_6 hown hG hP 0 rfl rfl 1 (by decide) (List.mem_of_getElem? (i := 2) rfl) rfl rfl dX6_rider_51 ?_
        refine lv_aload_n hx hb dX6_rider_54 rfl (lv_at hl 1 rfl) ?_
        refine x_get (ci := 6) (C := RX6) (T := TX6) (M := 29) (v := .ref (a 23)) hx hb hts in_X6_rider_6 hown hG hP 0 rfl rfl 25 (by decide) (List.mem_of_getElem? (i := 3) rfl) rfl rfl dX6_rider_55 ?_
        refine lv_iload_n hx hb dX6_rider_58 rfl (lv_at hl 2 rfl) ?_
        refine x_iald (f := (s_X6_goThrough (s_X6_goesWell σ 0) n) 23) hx hb hG hP 23 rfl (isRi_in h_1) dX6_rider_59 ?_
        refine lv_isub hx hb dX6_rider_60 ?_
        refine lv_bipush (v := 15) hx hb dX6_rider_61 (by decide) ?_
        refine lv_icmp_ge (tgt := 75) hx hb dX6_rider_63 (by decide) (fun h_8 => ?_) (fun h_8 => ?_)
        · refine lv_iconst (v := (-1)) hx hb dX6_rider_75 (by decide) ?_
          refine lv_istore (lv' := [(4, .int (-1)), (3, .int (r_X6_isRider σ ri)), (0, .ref (a 0)), (1, .int ri), (2, .int its)]) hx hb dX6_rider_76 hl (by decide) rfl (fun ls hl => ?_)
          refine lv_iload_n hx hb dX6_rider_78 rfl (lv_at hl 4 rfl) ?_
          refine lv_if_ne (tgt := 91) hx hb dX6_rider_79 (by decide) (fun h_9 => ?_) (fun h_9 => ?_)
          · refine lv_iload_n hx hb dX6_rider_91 rfl (lv_at hl 4 rfl) ?_
            refine lv_iconst (v := 1) hx hb dX6_rider_92 (by decide) ?_
            refine lv_icmp_ne (tgt := 105) hx hb dX6_rider_93 (by decide) (fun h_10 => ?_) (fun h_10 => ?_)
            · refine lv_iload_n hx hb dX6_rider_105 rfl (lv_at hl 4 rfl) ?_
              refine lv_iconst (v := 2) hx hb dX6_rider_106 (by decide) ?_
              refine lv_icmp_ne (tgt := 119) hx hb dX6_rider_107 (by decide) (fun h_11 => ?_) (fun h_11 => ?_)
              · refine lv_iload_n hx hb dX6_rider_119 rfl (lv_at hl 4 rfl) ?_
                refine lv_iconst (v := 3) hx hb dX6_rider_120 (by decide) ?_
                refine lv_icmp_ne (tgt := 140) hx hb dX6_rider_121 (by decide) (fun h_12 => ?_) (fun h_12 => ?_)
                · refine lv_iload hx hb dX6_rider_140 (lv_at hl 0 rfl) ?_
                  exact x_iret hx hb hr hlk hsz hP hS rfl (by rw [r_X6_rider, if_neg h_1, if_neg h_2, if_neg h_3, if_pos h_8, if_neg h_9, if_neg h_10, if_neg h_11, if_neg h_12]) (by rw [s_X6_rider, if_neg h_1, if_neg h_2, if_neg h_3, if_pos h_8, if_neg h_9, if_neg h_10, if_neg h_11, if_neg h_12]) dX6_rider_142
                · refine lv_aload_n hx hb dX6_rider_124 rfl (lv_at hl 2 rfl) ?_
                  refine x_get (ci := 6) (C := RX6) (T := TX6) (M := 29) (v := .ref (a 21)) hx hb hts in_X6_rider_6 hown hG hP 0 rfl rfl 23 (by decide) (List.mem_of_getElem? (i := 7) rfl) rfl rfl dX6_rider_125 ?_
                  refine lv_iload_n hx hb dX6_rider_128 rfl (lv_at hl 3 rfl) ?_
                  refine x_iald (f := (s_X6_goThrough (s_X6_goesWell σ 0) n) 21) hx hb hG hP 21 rfl (isRi_in h_1) dX6_rider_129 ?_
                  refine lv_aload_n hx hb dX6_rider_130 rfl (lv_at hl 2 rfl) ?_
                  refine x_get (ci := 6) (C := RX6) (T := TX6) (M := 29) (v := .ref (a 20)) hx hb hts in_X6_rider_6 hown hG hP 0 rfl rfl 22 (by decide) (List.mem_of_getElem? (i := 6) rfl) rfl rfl dX6_rider_131 ?_
                  refine lv_iload_n hx hb dX6_rider_134 rfl (lv_at hl 3 rfl) ?_
                  refine x_iald (f := (s_X6_goThrough (s_X6_goesWell σ 0) n) 20) hx hb hG hP 20 rfl (isRi_in h_1) dX6_rider_135 ?_
                  refine lv_isub hx hb dX6_rider_136 ?_
                  refine lv_goto (tgt := 142) hx hb dX6_rider_137 (by decide) ?_
                  exact x_iret hx hb hr hlk hsz hP hS rfl (by rw [r_X6_rider, if_neg h_1, if_neg h_2, if_neg h_3, if_pos h_8, if_neg h_9, if_neg h_10, if_neg h_11, if_pos h_12]) (by rw [s_X6_rider, if_neg h_1, if_neg h_2, if_neg h_3, if_pos h_8, if_neg h_9, if_neg h_10, if_neg h_11, if_pos h_12]) dX6_rider_142
              · refine lv_aload_n hx hb dX6_rider_110 rfl (lv_at hl 2 rfl) ?_
                refine x_get (ci := 6) (C := RX6) (T := TX6) (M := 29) (v := .ref (a 20)) hx hb hts in_X6_rider_6 hown hG hP 0 rfl rfl 22 (by decide) (List.mem_of_getElem? (i := 6) rfl) rfl rfl dX6_rider_111 ?_
                refine lv_iload_n hx hb dX6_rider_114 rfl (lv_at hl 3 rfl) ?_
                refine x_iald (f := (s_X6_goThrough (s_X6_goesWell σ 0) n) 20) hx hb hG hP 20 rfl (isRi_in h_1) dX6_rider_115 ?_
                refine lv_goto (tgt := 142) hx hb dX6_rider_116 (by decide) ?_
                exact x_iret hx hb hr hlk hsz hP hS rfl (by rw [r_X6_rider, if_neg h_1, if_neg h_2, if_neg h_3, if_pos h_8, if_neg h_9, if_neg h_10, if_pos h_11]) (by rw [s_X6_rider, if_neg h_1, if_neg h_2, if_neg h_3, if_pos h_8, if_neg h_9, if_neg h_10, if_pos h_11]) dX6_rider_142
            · refine lv_aload_n hx hb dX6_rider_96 rfl (lv_at hl 2 rfl) ?_
              refine x_get (ci := 6) (C := RX6) (T := TX6) (M := 29) (v := .ref (a 19)) hx hb hts in_X6_rider_6 hown hG hP 0 rfl rfl 21 (by decide) (List.mem_of_getElem? (i := 5) rfl) rfl rfl dX6_rider_97 ?_
              refine lv_iload_n hx hb dX6_rider_100 rfl (lv_at hl 3 rfl) ?_
              refine x_iald (f := (s_X6_goThrough (s_X6_goesWell σ 0) n) 19) hx hb hG hP 19 rfl (isRi_in h_1) dX6_rider_101 ?_
              refine lv_goto (tgt := 142) hx hb dX6_rider_102 (by decide) ?_
              exact x_iret hx hb hr hlk hsz hP hS rfl (by rw [r_X6_rider, if_neg h_1, if_neg h_2, if_neg h_3, if_pos h_8, if_neg h_9, if_pos h_10]) (by rw [s_X6_rider, if_neg h_1, if_neg h_2, if_neg h_3, if_pos h_8, if_neg h_9, if_pos h_10]) dX6_rider_142
          · refine lv_aload_n hx hb dX6_rider_82 rfl (lv_at hl 2 rfl) ?_
            refine x_get (ci := 6) (C := RX6) (T := TX6) (M := 29) (v := .ref (a 18)) hx hb hts in_X6_rider_6 hown hG hP 0 rfl rfl 20 (by decide) (List.mem_of_getElem? (i := 4) rfl) rfl rfl dX6_rider_83 ?_
            refine lv_iload_n hx hb dX6_rider_86 rfl (lv_at hl 3 rfl) ?_
            refine x_iald (f := (s_X6_goThrough (s_X6_goesWell σ 0) n) 18) hx hb hG hP 18 rfl (isRi_in h_1) dX6_rider_87 ?_
            refine lv_goto (tgt := 142) hx hb dX6_rider_88 (by decide) ?_
            exact x_iret hx hb hr hlk hsz hP hS rfl (by rw [r_X6_rider, if_neg h_1, if_neg h_2, if_neg h_3, if_pos h_8, if_pos h_9]) (by rw [s_X6_rider, if_neg h_1, if_neg h_2, if_neg h_3, if_pos h_8, if_pos h_9]) dX6_rider_142
        · refine lv_aload_n hx hb dX6_rider_66 rfl (lv_at hl 1 rfl) ?_
          refine x_get (ci := 6) (C := RX6) (T := TX6) (M := 29) (v := .ref (a 22)) hx hb hts in_X6_rider_6 hown hG hP 0 rfl rfl 24 (by decide) (List.mem_of_getElem? (i := 1) rfl) rfl rfl dX6_rider_67 ?_
          refine lv_iload_n hx hb dX6_rider_70 rfl (lv_at hl 2 rfl) ?_
          refine x_iald (f := (s_X6_goThrough (s_X6_goesWell σ 0) n) 22) hx hb hG hP 22 rfl (isRi_in h_1) dX6_rider_71 ?_
          refine lv_goto (tgt := 76) hx hb dX6_rider_72 (by decide) ?_
          refine lv_istore (lv' := [(4, .int ((s_X6_goThrough (s_X6_goesWell σ 0) n) 22 ri.toNatClampNeg)), (3, .int (r_X6_isRider σ ri)), (0, .ref (a 0)), (1, .int ri), (2, .int its)]) hx hb dX6_rider_76 hl (by decide) rfl (fun ls hl => ?_)
          refine lv_iload_n hx hb dX6_rider_78 rfl (lv_at hl 4 rfl) ?_
          refine lv_if_ne (tgt := 91) hx hb dX6_rider_79 (by decide) (fun h_13 => ?_) (fun h_13 => ?_)
          · refine lv_iload_n hx hb dX6_rider_91 rfl (lv_at hl 4 rfl) ?_
            refine lv_iconst (v := 1) hx hb dX6_rider_92 (by decide) ?_
            refine lv_icmp_ne (tgt := 105) hx hb dX6_rider_93 (by decide) (fun h_14 => ?_) (fun h_14 => ?_)
            · refine lv_iload_n hx hb dX6_rider_105 rfl (lv_at hl 4 rfl) ?_
              refine lv_iconst (v := 2) hx hb dX6_rider_106 (by decide) ?_
              refine lv_icmp_ne (tgt := 119) hx hb dX6_rider_107 (by decide) (fun h_15 => ?_) (fun h_15 => ?_)
              · refine lv_iload_n hx hb dX6_rider_119 rfl (lv_at hl 4 rfl) ?_
                refine lv_iconst (v := 3) hx hb dX6_rider_120 (by decide) ?_
                refine lv_icmp_ne (tgt := 140) hx hb dX6_rider_121 (by decide) (fun h_16 => ?_) (fun h_16 => ?_)
                · refine lv_iload hx hb dX6_rider_140 (lv_at hl 0 rfl) ?_
                  exact x_iret hx hb hr hlk hsz hP hS rfl (by rw [r_X6_rider, if_neg h_1, if_neg h_2, if_neg h_3, if_neg h_8, if_neg h_13, if_neg h_14, if_neg h_15, if_neg h_16]) (by rw [s_X6_rider, if_neg h_1, if_neg h_2, if_neg h_3, if_neg h_8, if_neg h_13, if_neg h_14, if_neg h_15, if_neg h_16]) dX6_rider_142
                · refine lv_aload_n hx hb dX6_rider_124 rfl (lv_at hl 2 rfl) ?_
                  refine x_get (ci := 6) (C := RX6) (T := TX6) (M := 29) (v := .ref (a 21)) hx hb hts in_X6_rider_6 hown hG hP 0 rfl rfl 23 (by decide) (List.mem_of_getElem? (i := 7) rfl) rfl rfl dX6_rider_125 ?_
                  refine lv_iload_n hx hb dX6_rider_128 rfl (lv_at hl 3 rfl) ?_
                  refine x_iald (f := (s_X6_goThrough (s_X6_goesWell σ 0) n) 21) hx hb hG hP 21 rfl (isRi_in h_1) dX6_rider_129 ?_
                  refine lv_aload_n hx hb dX6_rider_130 rfl (lv_at hl 2 rfl) ?_
                  refine x_get (ci := 6) (C := RX6) (T := TX6) (M := 29) (v := .ref (a 20)) hx hb hts in_X6_rider_6 hown hG hP 0 rfl rfl 22 (by decide) (List.mem_of_getElem? (i := 6) rfl) rfl rfl dX6_rider_131 ?_
                  refine lv_iload_n hx hb dX6_rider_134 rfl (lv_at hl 3 rfl) ?_
                  refine x_iald (f := (s_X6_goThrough (s_X6_goesWell σ 0) n) 20) hx hb hG hP 20 rfl (isRi_in h_1) dX6_rider_135 ?_
                  refine lv_isub hx hb dX6_rider_136 ?_
                  refine lv_goto (tgt := 142) hx hb dX6_rider_137 (by decide) ?_
                  exact x_iret hx hb hr hlk hsz hP hS rfl (by rw [r_X6_rider, if_neg h_1, if_neg h_2, if_neg h_3, if_neg h_8, if_neg h_13, if_neg h_14, if_neg h_15, if_pos h_16]) (by rw [s_X6_rider, if_neg h_1, if_neg h_2, if_neg h_3, if_neg h_8, if_neg h_13, if_neg h_14, if_neg h_15, if_pos h_16]) dX6_rider_142
              · refine lv_aload_n hx hb dX6_rider_110 rfl (lv_at hl 2 rfl) ?_
                refine x_get (ci := 6) (C := RX6) (T := TX6) (M := 29) (v := .ref (a 20)) hx hb hts in_X6_rider_6 hown hG hP 0 rfl rfl 22 (by decide) (List.mem_of_getElem? (i := 6) rfl) rfl rfl dX6_rider_111 ?_
                refine lv_iload_n hx hb dX6_rider_114 rfl (lv_at hl 3 rfl) ?_
                refine x_iald (f := (s_X6_goThrough (s_X6_goesWell σ 0) n) 20) hx hb hG hP 20 rfl (isRi_in h_1) dX6_rider_115 ?_
                refine lv_goto (tgt := 142) hx hb dX6_rider_116 (by decide) ?_
                exact x_iret hx hb hr hlk hsz hP hS rfl (by rw [r_X6_rider, if_neg h_1, if_neg h_2, if_neg h_3, if_neg h_8, if_neg h_13, if_neg h_14, if_pos h_15]) (by rw [s_X6_rider, if_neg h_1, if_neg h_2, if_neg h_3, if_neg h_8, if_neg h_13, if_neg h_14, if_pos h_15]) dX6_rider_142
            · refine lv_aload_n hx hb dX6_rider_96 rfl (lv_at hl 2 rfl) ?_
              refine x_get (ci := 6) (C := RX6) (T := TX6) (M := 29) (v := .ref (a 19)) hx hb hts in_X6_rider_6 hown hG hP 0 rfl rfl 21 (by decide) (List.mem_of_getElem? (i := 5) rfl) rfl rfl dX6_rider_97 ?_
              refine lv_iload_n hx hb dX6_rider_100 rfl (lv_at hl 3 rfl) ?_
              refine x_iald (f := (s_X6_goThrough (s_X6_goesWell σ 0) n) 19) hx hb hG hP 19 rfl (isRi_in h_1) dX6_rider_101 ?_
              refine lv_goto (tgt := 142) hx hb dX6_rider_102 (by decide) ?_
              exact x_iret hx hb hr hlk hsz hP hS rfl (by rw [r_X6_rider, if_neg h_1, if_neg h_2, if_neg h_3, if_neg h_8, if_neg h_13, if_pos h_14]) (by rw [s_X6_rider, if_neg h_1, if_neg h_2, if_neg h_3, if_neg h_8, if_neg h_13, if_pos h_14]) dX6_rider_142
          · refine lv_aload_n hx hb dX6_rider_82 rfl (lv_at hl 2 rfl) ?_
            refine x_get (ci := 6) (C := RX6) (T := TX6) (M := 29) (v := .ref (a 18)) hx hb hts in_X6_rider_6 hown hG hP 0 rfl rfl 20 (by decide) (List.mem_of_getElem? (i := 4) rfl) rfl rfl dX6_rider_83 ?_
            refine lv_iload_n hx hb dX6_rider_86 rfl (lv_at hl 3 rfl) ?_
            refine x_iald (f := (s_X6_goThrough (s_X6_goesWell σ 0) n) 18) hx hb hG hP 18 rfl (isRi_in h_1) dX6_rider_87 ?_
            refine lv_goto (tgt := 142) hx hb dX6_rider_88 (by decide) ?_
            exact x_iret hx hb hr hlk hsz hP hS rfl (by rw [r_X6_rider, if_neg h_1, if_neg h_2, if_neg h_3, if_neg h_8, if_pos h_13]) (by rw [s_X6_rider, if_neg h_1, if_neg h_2, if_neg h_3, if_neg h_8, if_pos h_13]) dX6_rider_142
  · refine lv_iconst (v := 1) hx hb dX6_rider_10 (by decide) ?_
    refine lv_goto (tgt := 28) hx hb dX6_rider_11 (by decide) ?_
    refine x_callVi (w := wM cI a) (σ := σ) (σ' := s_X6_goesWell σ 1) (As := [.int 1]) (rest := []) (q0 := 0) ⟨hx, hb, hml, hown, hts⟩ hG hP hS hsz (c_X6_goesWell l D cI a H.size σ 1) (cwV 1 hts gX6_rider_X6_goesWell rfl rfl rfl (by decide +kernel) ⟨Nat.le_of_ble_eq_true rfl, Nat.le_of_ble_eq_true rfl⟩) rfl rfl rfl rfl hl.1 rfl (Nat.le_of_ble_eq_true rfl) ⟨Nat.zero_le _, Nat.zero_le _⟩ dX6_rider_28 (fun H locs hP hS => ?_)
    refine W.eq (g2 := F0 m 31 ls [.int 0]) rfl ?_
    refine lv_if_ne (tgt := 36) hx hb dX6_rider_31 (by decide) (fun h => absurd (by decide) h) (fun _ => ?_)
    refine lv_iconst (v := 0) hx hb dX6_rider_34 (by decide) ?_
    exact x_iret hx hb hr hlk hsz hP hS rfl (by rw [r_X6_rider, if_pos h_1]) (by rw [s_X6_rider, if_pos h_1]) dX6_rider_35
theorem in_X6_odd_6 : ∀ wd ∈ u_ws RX6 TX6 29, wd ∈ wsX6_odd := by decide +kernel
def r_X6_odd (σ : Sg) (n : Nat) : Int32 :=
  (s_X6_goThrough (sx σ 0 0 0) n) 0 27
def s_X6_odd (σ : Sg) (n : Nat) : Sg :=
  s_X6_goThrough (sx σ 0 0 0) n
set_option maxHeartbeats 4000000 in
set_option maxRecDepth 100000 in
theorem c_X6_odd (l : Launch) (D : va_G) (cI : ClassId) (a : Nat → Nat) (sz : Nat) (σ : Sg) (n : Nat) (hn : n ≤ 300) (hg : gOK (sx σ 0 0 0) n) : Met l yX6_odd wsX6_odd ({ frames := 5, cells := 0, slots := 0, locals := 120 }) (PcW D cI 24 a (wM cI a) sz σ [.ref (a 0)]) (QiW D 24 a (wM cI a) sz (r_X6_odd σ n) (s_X6_odd σ n)) 0 0 (AX 24 a sz) := by
  refine x_of (cc := cX6_odd) (maxL := 1) (ret := some .int) (C := RX6) rfl (by decide) rfl (Nat.le_of_ble_eq_true rfl) (fun p e s m below meth c hx hb hr hml hlk hts hown hsz H hP hS hG ls hl => ?_)
  have hl : lv_has ls 1 [(0, .ref (a 0))] := hl
  refine lv_aload_n hx hb dX6_odd_0 rfl (lv_at hl 0 rfl) ?_
  refine lv_iconst (v := 0) hx hb dX6_odd_1 (by decide) ?_
  refine x_put (w := wM cI a) (σ := σ) (ci := 6) (C := RX6) (T := TX6) (M := 29) hx hb hts in_X6_odd_6 tyX6 tyX6_ok nmX6 hown hG hP hS 0 rfl rfl 0 (by decide) (List.mem_of_getElem? (i := 1) rfl) rfl rfl rfl (Nat.le_of_ble_eq_true rfl) (wM_pt0_0 cI a _ _) dX6_odd_2 (fun H locs hP hS => ?_)
  refine lv_aload_n hx hb dX6_odd_5 rfl (lv_at hl 0 rfl) ?_
  refine x_callVv (w := wM cI a) (σ := sx σ 0 0 0) (σ' := s_X6_goThrough (sx σ 0 0 0) n) (As := []) (rest := []) (q0 := 0) ⟨hx, hb, hml, hown, hts⟩ hG hP hS hsz (c_X6_goThrough l D cI a H.size (sx σ 0 0 0)  n hn hg) (cwV 0 hts gX6_odd_X6_goThrough rfl rfl rfl (by decide +kernel) ⟨Nat.le_of_ble_eq_true rfl, Nat.le_of_ble_eq_true rfl⟩) rfl rfl rfl rfl hl.1 rfl (Nat.le_of_ble_eq_true rfl) ⟨Nat.zero_le _, Nat.zero_le _⟩ dX6_odd_6 (fun H locs hP hS => ?_)
  refine lv_aload_n hx hb dX6_odd_9 rfl (lv_at hl 0 rfl) ?_
  refine x_get (ci := 6) (C := RX6) (T := TX6) (M := 29) (v := .int ((s_X6_goThrough (sx σ 0 0 0) n) 0 27)) hx hb hts in_X6_odd_6 hown hG hP 0 rfl rfl 27 (by decide) (List.mem_of_getElem? (i := 2) rfl) rfl rfl dX6_odd_10 ?_
  exact x_iret hx hb hr hlk hsz hP hS rfl (by rw [r_X6_odd]) (by rw [s_X6_odd]) dX6_odd_13
theorem in_X6_agrees_6 : ∀ wd ∈ u_ws RX6 TX6 29, wd ∈ wsX6_agrees := by decide +kernel
def r_X6_agrees (σ : Sg) : Int32 :=
  1
def s_X6_agrees (σ : Sg) : Sg :=
  sx σ 0 0 0
theorem b_X6_agrees (σ : Sg) : r_X6_agrees σ = 0 ∨ r_X6_agrees σ = 1 := by
  unfold r_X6_agrees
  repeat' split
  all_goals first | with_reducible exact Or.inl rfl | with_reducible exact Or.inr rfl
set_option maxHeartbeats 4000000 in
set_option maxRecDepth 100000 in
theorem c_X6_agrees (l : Launch) (D : va_G) (cI : ClassId) (a : Nat → Nat) (sz : Nat) (σ : Sg) : Met l yX6_agrees wsX6_agrees ({ frames := 0, cells := 0, slots := 0, locals := 0 }) (PcW D cI 24 a (wM cI a) sz σ [.ref (a 0)]) (QiW D 24 a (wM cI a) sz (r_X6_agrees σ) (s_X6_agrees σ)) 0 0 (AX 24 a sz) := by
  refine x_of (cc := cX6_agrees) (maxL := 1) (ret := some .boolean) (C := RX6) rfl (by decide) rfl (Nat.le_of_ble_eq_true rfl) (fun p e s m below meth c hx hb hr hml hlk hts hown hsz H hP hS hG ls hl => ?_)
  have hl : lv_has ls 1 [(0, .ref (a 0))] := hl
  refine lv_aload_n hx hb dX6_agrees_0 rfl (lv_at hl 0 rfl) ?_
  refine lv_iconst (v := 0) hx hb dX6_agrees_1 (by decide) ?_
  refine x_put (w := wM cI a) (σ := σ) (ci := 6) (C := RX6) (T := TX6) (M := 29) hx hb hts in_X6_agrees_6 tyX6 tyX6_ok nmX6 hown hG hP hS 0 rfl rfl 0 (by decide) (List.mem_of_getElem? (i := 1) rfl) rfl rfl rfl (Nat.le_of_ble_eq_true rfl) (wM_pt0_0 cI a _ _) dX6_agrees_2 (fun H locs hP hS => ?_)
  refine lv_iconst (v := 1) hx hb dX6_agrees_5 (by decide) ?_
  exact x_iret hx hb hr hlk hsz hP hS rfl (by rw [r_X6_agrees]) (by rw [s_X6_agrees]) dX6_agrees_6
theorem in_X6_plan_6 : ∀ wd ∈ u_ws RX6 TX6 29, wd ∈ wsX6_plan := by decide +kernel
def st_X6_plan_21 (σ : Sg) (n : Nat) (i : Nat) : Int32 × Int32 × Int32 × Int32 → Int32 × Int32 × Int32 × Int32
  | (x21, x21_1, x21_2, x21_3) =>
    if ((s_X6_goThrough (sx σ 0 0 0) n) 9 (nI i).toNatClampNeg) - (((s_X6_goThrough (sx σ 0 0 0) n) 8 (nI i).toNatClampNeg) / 2) ≤ x21_2 then
      if -(((s_X6_goThrough (sx σ 0 0 0) n) 9 (nI i).toNatClampNeg) - (((s_X6_goThrough (sx σ 0 0 0) n) 8 (nI i).toNatClampNeg) / 2)) ≤ x21_3 then
        (x21, x21_1, x21_2, x21_3)
      else
        (x21, nI i, x21_2, -(((s_X6_goThrough (sx σ 0 0 0) n) 9 (nI i).toNatClampNeg) - (((s_X6_goThrough (sx σ 0 0 0) n) 8 (nI i).toNatClampNeg) / 2)))
    else
      if -(((s_X6_goThrough (sx σ 0 0 0) n) 9 (nI i).toNatClampNeg) - (((s_X6_goThrough (sx σ 0 0 0) n) 8 (nI i).toNatClampNeg) / 2)) ≤ x21_3 then
        (nI i, x21_1, ((s_X6_goThrough (sx σ 0 0 0) n) 9 (nI i).toNatClampNeg) - (((s_X6_goThrough (sx σ 0 0 0) n) 8 (nI i).toNatClampNeg) / 2), x21_3)
      else
        (nI i, nI i, ((s_X6_goThrough (sx σ 0 0 0) n) 9 (nI i).toNatClampNeg) - (((s_X6_goThrough (sx σ 0 0 0) n) 8 (nI i).toNatClampNeg) / 2), -(((s_X6_goThrough (sx σ 0 0 0) n) 9 (nI i).toNatClampNeg) - (((s_X6_goThrough (sx σ 0 0 0) n) 8 (nI i).toNatClampNeg) / 2)))
def r_X6_plan (σ : Sg) (n : Nat) : Int32 :=
  if (itn (st_X6_plan_21 σ n) 8 ((-1), (-1), 0, 0)).1 = (-1) then
    (-1)
  else
    if (itn (st_X6_plan_21 σ n) 8 ((-1), (-1), 0, 0)).2.1 = (-1) then
      (-1)
    else
      (10 * (itn (st_X6_plan_21 σ n) 8 ((-1), (-1), 0, 0)).1) + (itn (st_X6_plan_21 σ n) 8 ((-1), (-1), 0, 0)).2.1
def s_X6_plan (σ : Sg) (n : Nat) : Sg :=
  if (itn (st_X6_plan_21 σ n) 8 ((-1), (-1), 0, 0)).1 = (-1) then
    s_X6_goThrough (sx σ 0 0 0) n
  else
    if (itn (st_X6_plan_21 σ n) 8 ((-1), (-1), 0, 0)).2.1 = (-1) then
      s_X6_goThrough (sx σ 0 0 0) n
    else
      s_X6_goThrough (sx σ 0 0 0) n
set_option maxHeartbeats 4000000 in
set_option maxRecDepth 100000 in
theorem c_X6_plan (l : Launch) (D : va_G) (cI : ClassId) (a : Nat → Nat) (sz : Nat) (σ : Sg) (n : Nat) (hn : n ≤ 300) (hg : gOK (sx σ 0 0 0) n) : Met l yX6_plan wsX6_plan ({ frames := 5, cells := 0, slots := 0, locals := 120 }) (PcW D cI 24 a (wM cI a) sz σ [.ref (a 0)]) (QiW D 24 a (wM cI a) sz (r_X6_plan σ n) (s_X6_plan σ n)) 0 0 (AX 24 a sz) := by
  refine x_of (cc := cX6_plan) (maxL := 7) (ret := some .int) (C := RX6) rfl (by decide) rfl (Nat.le_of_ble_eq_true rfl) (fun p e s m below meth c hx hb hr hml hlk hts hown hsz H hP hS hG ls hl => ?_)
  have hl : lv_has ls 7 [(0, .ref (a 0))] := hl
  refine lv_aload_n hx hb dX6_plan_0 rfl (lv_at hl 0 rfl) ?_
  refine lv_iconst (v := 0) hx hb dX6_plan_1 (by decide) ?_
  refine x_put (w := wM cI a) (σ := σ) (ci := 6) (C := RX6) (T := TX6) (M := 29) hx hb hts in_X6_plan_6 tyX6 tyX6_ok nmX6 hown hG hP hS 0 rfl rfl 0 (by decide) (List.mem_of_getElem? (i := 1) rfl) rfl rfl rfl (Nat.le_of_ble_eq_true rfl) (wM_pt0_0 cI a _ _) dX6_plan_2 (fun H locs hP hS => ?_)
  refine lv_aload_n hx hb dX6_plan_5 rfl (lv_at hl 0 rfl) ?_
  refine x_callVv (w := wM cI a) (σ := sx σ 0 0 0) (σ' := s_X6_goThrough (sx σ 0 0 0) n) (As := []) (rest := []) (q0 := 0) ⟨hx, hb, hml, hown, hts⟩ hG hP hS hsz (c_X6_goThrough l D cI a H.size (sx σ 0 0 0)  n hn hg) (cwV 0 hts gX6_plan_X6_goThrough rfl rfl rfl (by decide +kernel) ⟨Nat.le_of_ble_eq_true rfl, Nat.le_of_ble_eq_true rfl⟩) rfl rfl rfl rfl hl.1 rfl (Nat.le_of_ble_eq_true rfl) ⟨Nat.zero_le _, Nat.zero_le _⟩ dX6_plan_6 (fun H locs hP hS => ?_)
  refine lv_iconst (v := (-1)) hx hb dX6_plan_9 (by decide) ?_
  refine lv_istore_n (lv' := [(1, .int (-1)), (0, .ref (a 0))]) hx hb dX6_plan_10 rfl hl (by decide) rfl (fun ls hl => ?_)
  refine lv_iconst (v := (-1)) hx hb dX6_plan_11 (by decide) ?_
  refine lv_istore_n (lv' := [(2, .int (-1)), (1, .int (-1)), (0, .ref (a 0))]) hx hb dX6_plan_12 rfl hl (by decide) rfl (fun ls hl => ?_)
  refine lv_iconst (v := 0) hx hb dX6_plan_13 (by decide) ?_
  refine lv_istore_n (lv' := [(3, .int 0), (2, .int (-1)), (1, .int (-1)), (0, .ref (a 0))]) hx hb dX6_plan_14 rfl hl (by decide) rfl (fun ls hl => ?_)
  refine lv_iconst (v := 0) hx hb dX6_plan_15 (by decide) ?_
  refine lv_istore (lv' := [(4, .int 0), (3, .int 0), (2, .int (-1)), (1, .int (-1)), (0, .ref (a 0))]) hx hb dX6_plan_16 hl (by decide) rfl (fun ls hl => ?_)
  refine lv_iconst (v := 0) hx hb dX6_plan_18 (by decide) ?_
  refine lv_istore (lv' := [(5, .int 0), (4, .int 0), (3, .int 0), (2, .int (-1)), (1, .int (-1)), (0, .ref (a 0))]) hx hb dX6_plan_19 hl (by decide) rfl (fun ls hl => ?_)
  have loop_21 : ∀ (rem i : Nat) (_ : i + rem = 8) (x21 : Int32) (x21_1 : Int32) (x21_2 : Int32) (x21_3 : Int32) (_ : (x21, x21_1, x21_2, x21_3) = itn (st_X6_plan_21 σ n) i ((-1), (-1), 0, 0)) (H : Heap) (locs : List Loc) (ls : Array Slot) (_ : va_P D vwCl (wM cI a (s_X6_goThrough (sx σ 0 0 0) n)) H) (_ : va_S (AX 24 a sz) s.heap H locs) (_ : lv_has ls 7 [(5, .int (nI i)), (1, .int x21), (2, .int x21_1), (3, .int x21_2), (4, .int x21_3), (0, .ref (a 0))]), W p l e (headSpec wsX6_plan ({ frames := 5, cells := 0, slots := 0, locals := 120 } : Room)).room s m ([.ref (a 0)] : List Value).toArray below meth c H locs 0 0 (MQ below (QiW D 24 a (wM cI a) sz (r_X6_plan σ n) (s_X6_plan σ n)) ([.ref (a 0)] : List Value).toArray s 0 0 (AX 24 a sz)) (F0 m 21 ls []) := by
    intro rem
    induction rem with
    | zero =>
      intro i hi x21 x21_1 x21_2 x21_3 ex21 H locs ls hP hS hl
      obtain rfl : 8 = i := by omega
      refine lv_iload hx hb dX6_plan_21 (lv_at hl 0 rfl) ?_
      refine lv_bipush (v := 8) hx hb dX6_plan_23 (by decide) ?_
      refine lv_icmp_ge (tgt := 81) hx hb dX6_plan_25 (by decide) (fun _ => ?_) (fun h => absurd (show (8 : Int32) ≤ nI 8 by decide) h)
      refine lv_iload_n hx hb dX6_plan_81 rfl (lv_at hl 1 rfl) ?_
      refine lv_iconst (v := (-1)) hx hb dX6_plan_82 (by decide) ?_
      refine lv_icmp_eq (tgt := 91) hx hb dX6_plan_83 (by decide) (fun h_1 => ?_) (fun h_1 => ?_)
      · refine lv_iconst (v := (-1)) hx hb dX6_plan_91 (by decide) ?_
        refine lv_goto (tgt := 101) hx hb dX6_plan_92 (by decide) ?_
        exact x_iret hx hb hr hlk hsz hP hS rfl (by rw [r_X6_plan, ← ex21] <;> (try dsimp only) <;> rw [if_pos h_1]) (by rw [s_X6_plan, ← ex21] <;> (try dsimp only) <;> rw [if_pos h_1]) dX6_plan_101
      · refine lv_iload_n hx hb dX6_plan_86 rfl (lv_at hl 2 rfl) ?_
        refine lv_iconst (v := (-1)) hx hb dX6_plan_87 (by decide) ?_
        refine lv_icmp_ne (tgt := 95) hx hb dX6_plan_88 (by decide) (fun h_2 => ?_) (fun h_2 => ?_)
        · refine lv_bipush (v := 10) hx hb dX6_plan_95 (by decide) ?_
          refine lv_iload_n hx hb dX6_plan_97 rfl (lv_at hl 1 rfl) ?_
          refine lv_imul hx hb dX6_plan_98 ?_
          refine lv_iload_n hx hb dX6_plan_99 rfl (lv_at hl 2 rfl) ?_
          refine lv_iadd hx hb dX6_plan_100 ?_
          exact x_iret hx hb hr hlk hsz hP hS rfl (by rw [r_X6_plan, ← ex21] <;> (try dsimp only) <;> rw [if_neg h_1, if_neg h_2]) (by rw [s_X6_plan, ← ex21] <;> (try dsimp only) <;> rw [if_neg h_1, if_neg h_2]) dX6_plan_101
        · refine lv_iconst (v := (-1)) hx hb dX6_plan_91 (by decide) ?_
          refine lv_goto (tgt := 101) hx hb dX6_plan_92 (by decide) ?_
          exact x_iret hx hb hr hlk hsz hP hS rfl (by rw [r_X6_plan, ← ex21] <;> (try dsimp only) <;> rw [if_neg h_1, if_pos h_2]) (by rw [s_X6_plan, ← ex21] <;> (try dsimp only) <;> rw [if_neg h_1, if_pos h_2]) dX6_plan_101
    | succ rem ih =>
      intro i hi x21 x21_1 x21_2 x21_3 ex21 H locs ls hP hS hl
      refine lv_iload hx hb dX6_plan_21 (lv_at hl 0 rfl) ?_
      refine lv_bipush (v := 8) hx hb dX6_plan_23 (by decide) ?_
      refine lv_icmp_ge (tgt := 81) hx hb dX6_plan_25 (by decide) (fun h => absurd h (nI_ge (a := i) (b := 8) (by omega) (by decide))) (fun _ => ?_)
      refine lv_aload_n hx hb dX6_plan_28 rfl (lv_at hl 5 rfl) ?_
      refine x_get (ci := 6) (C := RX6) (T := TX6) (M := 29) (v := .ref (a 9)) hx hb hts in_X6_plan_6 hown hG hP 0 rfl rfl 11 (by decide) (List.mem_of_getElem? (i := 2) rfl) rfl rfl dX6_plan_29 ?_
      refine lv_iload hx hb dX6_plan_32 (lv_at hl 0 rfl) ?_
      refine x_iald (f := (s_X6_goThrough (sx σ 0 0 0) n) 9) hx hb hG hP 9 rfl (vp_in_nI (by omega) (by decide)) dX6_plan_34 ?_
      refine lv_aload_n hx hb dX6_plan_35 rfl (lv_at hl 5 rfl) ?_
      refine x_get (ci := 6) (C := RX6) (T := TX6) (M := 29) (v := .ref (a 8)) hx hb hts in_X6_plan_6 hown hG hP 0 rfl rfl 10 (by decide) (List.mem_of_getElem? (i := 3) rfl) rfl rfl dX6_plan_36 ?_
      refine lv_iload hx hb dX6_plan_39 (lv_at hl 0 rfl) ?_
      refine x_iald (f := (s_X6_goThrough (sx σ 0 0 0) n) 8) hx hb hG hP 8 rfl (vp_in_nI (by omega) (by decide)) dX6_plan_41 ?_
      refine lv_iconst (v := 2) hx hb dX6_plan_42 (by decide) ?_
      refine lv_idiv hx hb dX6_plan_43 (by decide) ?_
      refine lv_isub hx hb dX6_plan_44 ?_
      refine lv_istore (lv' := [(6, .int (((s_X6_goThrough (sx σ 0 0 0) n) 9 (nI i).toNatClampNeg) - (((s_X6_goThrough (sx σ 0 0 0) n) 8 (nI i).toNatClampNeg) / 2))), (5, .int (nI i)), (1, .int x21), (2, .int x21_1), (3, .int x21_2), (4, .int x21_3), (0, .ref (a 0))]) hx hb dX6_plan_45 hl (by decide) rfl (fun ls hl => ?_)
      refine lv_iload hx hb dX6_plan_47 (lv_at hl 0 rfl) ?_
      refine lv_iload_n hx hb dX6_plan_49 rfl (lv_at hl 4 rfl) ?_
      refine lv_icmp_le (tgt := 59) hx hb dX6_plan_50 (by decide) (fun h_3 => ?_) (fun h_3 => ?_)
      · refine lv_iload hx hb dX6_plan_59 (lv_at hl 0 rfl) ?_
        refine lv_ineg hx hb dX6_plan_61 ?_
        refine lv_iload hx hb dX6_plan_62 (lv_at hl 5 rfl) ?_
        refine lv_icmp_le (tgt := 75) hx hb dX6_plan_64 (by decide) (fun h_4 => ?_) (fun h_4 => ?_)
        · refine lv_iinc (v := nI (i + 1)) (lv' := [(5, .int (nI (i + 1))), (6, .int (((s_X6_goThrough (sx σ 0 0 0) n) 9 (nI i).toNatClampNeg) - (((s_X6_goThrough (sx σ 0 0 0) n) 8 (nI i).toNatClampNeg) / 2))), (1, .int x21), (2, .int x21_1), (3, .int x21_2), (4, .int x21_3), (0, .ref (a 0))]) hx hb dX6_plan_75 hl (k := 1) rfl (by rw [nI_succ]; rfl) (by decide) rfl (fun ls hl => ?_)
          refine lv_goto (tgt := 21) hx hb dX6_plan_78 (by decide) ?_
          exact ih (i + 1) (by omega) x21 x21_1 x21_2 x21_3 (by rw [itn, ← ex21]; rw [st_X6_plan_21, if_pos h_3, if_pos h_4]) H locs ls hP hS (lv_sub hl [0, 2, 3, 4, 5, 6] rfl)
        · refine lv_iload hx hb dX6_plan_67 (lv_at hl 0 rfl) ?_
          refine lv_ineg hx hb dX6_plan_69 ?_
          refine lv_istore (lv' := [(4, .int (-(((s_X6_goThrough (sx σ 0 0 0) n) 9 (nI i).toNatClampNeg) - (((s_X6_goThrough (sx σ 0 0 0) n) 8 (nI i).toNatClampNeg) / 2)))), (6, .int (((s_X6_goThrough (sx σ 0 0 0) n) 9 (nI i).toNatClampNeg) - (((s_X6_goThrough (sx σ 0 0 0) n) 8 (nI i).toNatClampNeg) / 2))), (5, .int (nI i)), (1, .int x21), (2, .int x21_1), (3, .int x21_2), (0, .ref (a 0))]) hx hb dX6_plan_70 hl (by decide) rfl (fun ls hl => ?_)
          refine lv_iload hx hb dX6_plan_72 (lv_at hl 2 rfl) ?_
          refine lv_istore_n (lv' := [(2, .int (nI i)), (4, .int (-(((s_X6_goThrough (sx σ 0 0 0) n) 9 (nI i).toNatClampNeg) - (((s_X6_goThrough (sx σ 0 0 0) n) 8 (nI i).toNatClampNeg) / 2)))), (6, .int (((s_X6_goThrough (sx σ 0 0 0) n) 9 (nI i).toNatClampNeg) - (((s_X6_goThrough (sx σ 0 0 0) n) 8 (nI i).toNatClampNeg) / 2))), (5, .int (nI i)), (1, .int x21), (3, .int x21_2), (0, .ref (a 0))]) hx hb dX6_plan_74 rfl hl (by decide) rfl (fun ls hl => ?_)
          refine lv_iinc (v := nI (i + 1)) (lv' := [(5, .int (nI (i + 1))), (2, .int (nI i)), (4, .int (-(((s_X6_goThrough (sx σ 0 0 0) n) 9 (nI i).toNatClampNeg) - (((s_X6_goThrough (sx σ 0 0 0) n) 8 (nI i).toNatClampNeg) / 2)))), (6, .int (((s_X6_goThrough (sx σ 0 0 0) n) 9 (nI i).toNatClampNeg) - (((s_X6_goThrough (sx σ 0 0 0) n) 8 (nI i).toNatClampNeg) / 2))), (1, .int x21), (3, .int x21_2), (0, .ref (a 0))]) hx hb dX6_plan_75 hl (k := 3) rfl (by rw [nI_succ]; rfl) (by decide) rfl (fun ls hl => ?_)
          refine lv_goto (tgt := 21) hx hb dX6_plan_78 (by decide) ?_
          exact ih (i + 1) (by omega) x21 (nI i) x21_2 (-(((s_X6_goThrough (sx σ 0 0 0) n) 9 (nI i).toNatClampNeg) - (((s_X6_goThrough (sx σ 0 0 0) n) 8 (nI i).toNatClampNeg) / 2))) (by rw [itn, ← ex21]; rw [st_X6_plan_21, if_pos h_3, if_neg h_4]) H locs ls hP hS (lv_sub hl [0, 4, 1, 5, 2, 6] rfl)
      · refine lv_iload hx hb dX6_plan_53 (lv_at hl 0 rfl) ?_
        refine lv_istore_n (lv' := [(3, .int (((s_X6_goThrough (sx σ 0 0 0) n) 9 (nI i).toNatClampNeg) - (((s_X6_goThrough (sx σ 0 0 0) n) 8 (nI i).toNatClampNeg) / 2))), (6, .int (((s_X6_goThrough (sx σ 0 0 0) n) 9 (nI i).toNatClampNeg) - (((s_X6_goThrough (sx σ 0 0 0) n) 8 (nI i).toNatClampNeg) / 2))), (5, .int (nI i)), (1, .int x21), (2, .int x21_1), (4, .int x21_3), (0, .ref (a 0))]) hx hb dX6_plan_55 rfl hl (by decide) rfl (fun ls hl => ?_)
        refine lv_iload hx hb dX6_plan_56 (lv_at hl 2 rfl) ?_
        refine lv_istore_n (lv' := [(1, .int (nI i)), (3, .int (((s_X6_goThrough (sx σ 0 0 0) n) 9 (nI i).toNatClampNeg) - (((s_X6_goThrough (sx σ 0 0 0) n) 8 (nI i).toNatClampNeg) / 2))), (6, .int (((s_X6_goThrough (sx σ 0 0 0) n) 9 (nI i).toNatClampNeg) - (((s_X6_goThrough (sx σ 0 0 0) n) 8 (nI i).toNatClampNeg) / 2))), (5, .int (nI i)), (2, .int x21_1), (4, .int x21_3), (0, .ref (a 0))]) hx hb dX6_plan_58 rfl hl (by decide) rfl (fun ls hl => ?_)
        refine lv_iload hx hb dX6_plan_59 (lv_at hl 2 rfl) ?_
        refine lv_ineg hx hb dX6_plan_61 ?_
        refine lv_iload hx hb dX6_plan_62 (lv_at hl 5 rfl) ?_
        refine lv_icmp_le (tgt := 75) hx hb dX6_plan_64 (by decide) (fun h_5 => ?_) (fun h_5 => ?_)
        · refine lv_iinc (v := nI (i + 1)) (lv' := [(5, .int (nI (i + 1))), (1, .int (nI i)), (3, .int (((s_X6_goThrough (sx σ 0 0 0) n) 9 (nI i).toNatClampNeg) - (((s_X6_goThrough (sx σ 0 0 0) n) 8 (nI i).toNatClampNeg) / 2))), (6, .int (((s_X6_goThrough (sx σ 0 0 0) n) 9 (nI i).toNatClampNeg) - (((s_X6_goThrough (sx σ 0 0 0) n) 8 (nI i).toNatClampNeg) / 2))), (2, .int x21_1), (4, .int x21_3), (0, .ref (a 0))]) hx hb dX6_plan_75 hl (k := 3) rfl (by rw [nI_succ]; rfl) (by decide) rfl (fun ls hl => ?_)
          refine lv_goto (tgt := 21) hx hb dX6_plan_78 (by decide) ?_
          exact ih (i + 1) (by omega) (nI i) x21_1 (((s_X6_goThrough (sx σ 0 0 0) n) 9 (nI i).toNatClampNeg) - (((s_X6_goThrough (sx σ 0 0 0) n) 8 (nI i).toNatClampNeg) / 2)) x21_3 (by rw [itn, ← ex21]; rw [st_X6_plan_21, if_neg h_3, if_pos h_5]) H locs ls hP hS (lv_sub hl [0, 1, 4, 2, 5, 6] rfl)
        · refine lv_iload hx hb dX6_plan_67 (lv_at hl 2 rfl) ?_
          refine lv_ineg hx hb dX6_plan_69 ?_
          refine lv_istore (lv' := [(4, .int (-(((s_X6_goThrough (sx σ 0 0 0) n) 9 (nI i).toNatClampNeg) - (((s_X6_goThrough (sx σ 0 0 0) n) 8 (nI i).toNatClampNeg) / 2)))), (1, .int (nI i)), (3, .int (((s_X6_goThrough (sx σ 0 0 0) n) 9 (nI i).toNatClampNeg) - (((s_X6_goThrough (sx σ 0 0 0) n) 8 (nI i).toNatClampNeg) / 2))), (6, .int (((s_X6_goThrough (sx σ 0 0 0) n) 9 (nI i).toNatClampNeg) - (((s_X6_goThrough (sx σ 0 0 0) n) 8 (nI i).toNatClampNeg) / 2))), (5, .int (nI i)), (2, .int x21_1), (0, .ref (a 0))]) hx hb dX6_plan_70 hl (by decide) rfl (fun ls hl => ?_)
          refine lv_iload hx hb dX6_plan_72 (lv_at hl 4 rfl) ?_
          refine lv_istore_n (lv' := [(2, .int (nI i)), (4, .int (-(((s_X6_goThrough (sx σ 0 0 0) n) 9 (nI i).toNatClampNeg) - (((s_X6_goThrough (sx σ 0 0 0) n) 8 (nI i).toNatClampNeg) / 2)))), (1, .int (nI i)), (3, .int (((s_X6_goThrough (sx σ 0 0 0) n) 9 (nI i).toNatClampNeg) - (((s_X6_goThrough (sx σ 0 0 0) n) 8 (nI i).toNatClampNeg) / 2))), (6, .int (((s_X6_goThrough (sx σ 0 0 0) n) 9 (nI i).toNatClampNeg) - (((s_X6_goThrough (sx σ 0 0 0) n) 8 (nI i).toNatClampNeg) / 2))), (5, .int (nI i)), (0, .ref (a 0))]) hx hb dX6_plan_74 rfl hl (by decide) rfl (fun ls hl => ?_)
          refine lv_iinc (v := nI (i + 1)) (lv' := [(5, .int (nI (i + 1))), (2, .int (nI i)), (4, .int (-(((s_X6_goThrough (sx σ 0 0 0) n) 9 (nI i).toNatClampNeg) - (((s_X6_goThrough (sx σ 0 0 0) n) 8 (nI i).toNatClampNeg) / 2)))), (1, .int (nI i)), (3, .int (((s_X6_goThrough (sx σ 0 0 0) n) 9 (nI i).toNatClampNeg) - (((s_X6_goThrough (sx σ 0 0 0) n) 8 (nI i).toNatClampNeg) / 2))), (6, .int (((s_X6_goThrough (sx σ 0 0 0) n) 9 (nI i).toNatClampNeg) - (((s_X6_goThrough (sx σ 0 0 0) n) 8 (nI i).toNatClampNeg) / 2))), (0, .ref (a 0))]) hx hb dX6_plan_75 hl (k := 5) rfl (by rw [nI_succ]; rfl) (by decide) rfl (fun ls hl => ?_)
          refine lv_goto (tgt := 21) hx hb dX6_plan_78 (by decide) ?_
          exact ih (i + 1) (by omega) (nI i) (nI i) (((s_X6_goThrough (sx σ 0 0 0) n) 9 (nI i).toNatClampNeg) - (((s_X6_goThrough (sx σ 0 0 0) n) 8 (nI i).toNatClampNeg) / 2)) (-(((s_X6_goThrough (sx σ 0 0 0) n) 9 (nI i).toNatClampNeg) - (((s_X6_goThrough (sx σ 0 0 0) n) 8 (nI i).toNatClampNeg) / 2))) (by rw [itn, ← ex21]; rw [st_X6_plan_21, if_neg h_3, if_neg h_5]) H locs ls hP hS (lv_sub hl [0, 3, 1, 4, 2, 6] rfl)
  exact loop_21 (8) 0 (Nat.zero_add _) (-1) (-1) 0 0 (itn0 _ _) _ _ _ hP hS (lv_sub hl [0, 4, 3, 2, 1, 5] rfl)
theorem in_X6_lies_6 : ∀ wd ∈ u_ws RX6 TX6 29, wd ∈ wsX6_lies := by decide +kernel
def s_X6_lies (σ : Sg) (st : Int32) (ea : Int32) (no : Int32) (hi : Int32) : Sg :=
  if r_X6_isStation σ st = 0 then
    s_X6_goesWell σ 1
  else
    if r_X6_in σ ea 0 99 = 0 then
      s_X6_goesWell σ 2
    else
      if r_X6_in σ no 0 99 = 0 then
        s_X6_goesWell σ 2
      else
        if r_X6_in σ hi 0 99 = 0 then
          s_X6_goesWell σ 2
        else
          sx (sx (sx (s_X6_goesWell σ 0) 1 st.toNatClampNeg ea) 2 st.toNatClampNeg no) 3 st.toNatClampNeg hi
set_option maxHeartbeats 4000000 in
set_option maxRecDepth 100000 in
theorem c_X6_lies (l : Launch) (D : va_G) (cI : ClassId) (a : Nat → Nat) (sz : Nat) (σ : Sg) (st : Int32) (ea : Int32) (no : Int32) (hi : Int32) : Met l yX6_lies wsX6_lies ({ frames := 2, cells := 0, slots := 0, locals := 42 }) (PcW D cI 24 a (wM cI a) sz σ [.ref (a 0), .int st, .int ea, .int no, .int hi]) (QvW D 24 a (wM cI a) sz (s_X6_lies σ st ea no hi)) 0 0 (AX 24 a sz) := by
  refine x_of (cc := cX6_lies) (maxL := 6) (ret := none) (C := RX6) rfl (by decide) rfl (Nat.le_of_ble_eq_true rfl) (fun p e s m below meth c hx hb hr hml hlk hts hown hsz H hP hS hG ls hl => ?_)
  have hl : lv_has ls 6 [(0, .ref (a 0)), (1, .int st), (2, .int ea), (3, .int no), (4, .int hi)] := hl
  refine lv_iload_n hx hb dX6_lies_0 rfl (lv_at hl 1 rfl) ?_
  refine x_callSi (w := wM cI a) (σ := σ) (σ' := σ) (As := [.int st]) (rest := []) ⟨hx, hb, hml, hown, hts⟩ hG hP hS hsz (c_X6_isStation l D cI a H.size σ st) (va_cwS 1 hts gX6_lies_X6_isStation rfl rfl rfl (by decide +kernel) ⟨Nat.le_of_ble_eq_true rfl, Nat.le_of_ble_eq_true rfl⟩) rfl hl.1 rfl (Nat.le_of_ble_eq_true rfl) ⟨Nat.zero_le _, Nat.zero_le _⟩ dX6_lies_1 (fun H locs hP hS => ?_)
  refine lv_istore (lv' := [(5, .int (r_X6_isStation σ st)), (0, .ref (a 0)), (1, .int st), (2, .int ea), (3, .int no), (4, .int hi)]) hx hb dX6_lies_4 hl (by decide) rfl (fun ls hl => ?_)
  refine lv_aload_n hx hb dX6_lies_6 rfl (lv_at hl 1 rfl) ?_
  refine lv_iload hx hb dX6_lies_7 (lv_at hl 0 rfl) ?_
  refine lv_if_ne (tgt := 16) hx hb dX6_lies_9 (by decide) (fun h_1 => ?_) (fun h_1 => ?_)
  · refine lv_iload_n hx hb dX6_lies_16 rfl (lv_at hl 3 rfl) ?_
    refine lv_iconst (v := 0) hx hb dX6_lies_17 (by decide) ?_
    refine lv_bipush (v := 99) hx hb dX6_lies_18 (by decide) ?_
    refine x_callSi (w := wM cI a) (σ := σ) (σ' := σ) (As := [.int ea, .int 0, .int 99]) (rest := [.ref (a 0)]) ⟨hx, hb, hml, hown, hts⟩ hG hP hS hsz (c_X6_in l D cI a H.size σ ea 0 99) (va_cwS 3 hts gX6_lies_X6_in rfl rfl rfl (by decide +kernel) ⟨Nat.le_of_ble_eq_true rfl, Nat.le_of_ble_eq_true rfl⟩) rfl hl.1 rfl (Nat.le_of_ble_eq_true rfl) ⟨Nat.zero_le _, Nat.zero_le _⟩ dX6_lies_20 (fun H locs hP hS => ?_)
    refine lv_if_eq (tgt := 51) hx hb dX6_lies_23 (by decide) (fun h_2 => ?_) (fun h_2 => ?_)
    · refine lv_iconst (v := 2) hx hb dX6_lies_51 (by decide) ?_
      refine x_callVi (w := wM cI a) (σ := σ) (σ' := s_X6_goesWell σ 2) (As := [.int 2]) (rest := []) (q0 := 0) ⟨hx, hb, hml, hown, hts⟩ hG hP hS hsz (c_X6_goesWell l D cI a H.size σ 2) (cwV 1 hts gX6_lies_X6_goesWell rfl rfl rfl (by decide +kernel) ⟨Nat.le_of_ble_eq_true rfl, Nat.le_of_ble_eq_true rfl⟩) rfl rfl rfl rfl hl.1 rfl (Nat.le_of_ble_eq_true rfl) ⟨Nat.zero_le _, Nat.zero_le _⟩ dX6_lies_52 (fun H locs hP hS => ?_)
      refine W.eq (g2 := F0 m 55 ls [.int 0]) rfl ?_
      refine lv_if_eq (tgt := 80) hx hb dX6_lies_55 (by decide) (fun _ => ?_) (fun h => absurd (by decide) h)
      exact x_vret hx hb hr hlk hsz hP hS (by rw [s_X6_lies, if_neg h_1, if_pos h_2]) dX6_lies_80
    · refine lv_iload_n hx hb dX6_lies_26 rfl (lv_at hl 4 rfl) ?_
      refine lv_iconst (v := 0) hx hb dX6_lies_27 (by decide) ?_
      refine lv_bipush (v := 99) hx hb dX6_lies_28 (by decide) ?_
      refine x_callSi (w := wM cI a) (σ := σ) (σ' := σ) (As := [.int no, .int 0, .int 99]) (rest := [.ref (a 0)]) ⟨hx, hb, hml, hown, hts⟩ hG hP hS hsz (c_X6_in l D cI a H.size σ no 0 99) (va_cwS 3 hts gX6_lies_X6_in rfl rfl rfl (by decide +kernel) ⟨Nat.le_of_ble_eq_true rfl, Nat.le_of_ble_eq_true rfl⟩) rfl hl.1 rfl (Nat.le_of_ble_eq_true rfl) ⟨Nat.zero_le _, Nat.zero_le _⟩ dX6_lies_30 (fun H locs hP hS => ?_)
      refine lv_if_eq (tgt := 51) hx hb dX6_lies_33 (by decide) (fun h_3 => ?_) (fun h_3 => ?_)
      · refine lv_iconst (v := 2) hx hb dX6_lies_51 (by decide) ?_
        refine x_callVi (w := wM cI a) (σ := σ) (σ' := s_X6_goesWell σ 2) (As := [.int 2]) (rest := []) (q0 := 0) ⟨hx, hb, hml, hown, hts⟩ hG hP hS hsz (c_X6_goesWell l D cI a H.size σ 2) (cwV 1 hts gX6_lies_X6_goesWell rfl rfl rfl (by decide +kernel) ⟨Nat.le_of_ble_eq_true rfl, Nat.le_of_ble_eq_true rfl⟩) rfl rfl rfl rfl hl.1 rfl (Nat.le_of_ble_eq_true rfl) ⟨Nat.zero_le _, Nat.zero_le _⟩ dX6_lies_52 (fun H locs hP hS => ?_)
        refine W.eq (g2 := F0 m 55 ls [.int 0]) rfl ?_
        refine lv_if_eq (tgt := 80) hx hb dX6_lies_55 (by decide) (fun _ => ?_) (fun h => absurd (by decide) h)
        exact x_vret hx hb hr hlk hsz hP hS (by rw [s_X6_lies, if_neg h_1, if_neg h_2, if_pos h_3]) dX6_lies_80
      · refine lv_iload hx hb dX6_lies_36 (lv_at hl 5 rfl) ?_
        refine lv_iconst (v := 0) hx hb dX6_lies_38 (by decide) ?_
        refine lv_bipush (v := 99) hx hb dX6_lies_39 (by decide) ?_
        refine x_callSi (w := wM cI a) (σ := σ) (σ' := σ) (As := [.int hi, .int 0, .int 99]) (rest := [.ref (a 0)]) ⟨hx, hb, hml, hown, hts⟩ hG hP hS hsz (c_X6_in l D cI a H.size σ hi 0 99) (va_cwS 3 hts gX6_lies_X6_in rfl rfl rfl (by decide +kernel) ⟨Nat.le_of_ble_eq_true rfl, Nat.le_of_ble_eq_true rfl⟩) rfl hl.1 rfl (Nat.le_of_ble_eq_true rfl) ⟨Nat.zero_le _, Nat.zero_le _⟩ dX6_lies_41 (fun H locs hP hS => ?_)
        refine lv_if_eq (tgt := 51) hx hb dX6_lies_44 (by decide) (fun h_4 => ?_) (fun h_4 => ?_)
        · refine lv_iconst (v := 2) hx hb dX6_lies_51 (by decide) ?_
          refine x_callVi (w := wM cI a) (σ := σ) (σ' := s_X6_goesWell σ 2) (As := [.int 2]) (rest := []) (q0 := 0) ⟨hx, hb, hml, hown, hts⟩ hG hP hS hsz (c_X6_goesWell l D cI a H.size σ 2) (cwV 1 hts gX6_lies_X6_goesWell rfl rfl rfl (by decide +kernel) ⟨Nat.le_of_ble_eq_true rfl, Nat.le_of_ble_eq_true rfl⟩) rfl rfl rfl rfl hl.1 rfl (Nat.le_of_ble_eq_true rfl) ⟨Nat.zero_le _, Nat.zero_le _⟩ dX6_lies_52 (fun H locs hP hS => ?_)
          refine W.eq (g2 := F0 m 55 ls [.int 0]) rfl ?_
          refine lv_if_eq (tgt := 80) hx hb dX6_lies_55 (by decide) (fun _ => ?_) (fun h => absurd (by decide) h)
          exact x_vret hx hb hr hlk hsz hP hS (by rw [s_X6_lies, if_neg h_1, if_neg h_2, if_neg h_3, if_pos h_4]) dX6_lies_80
        · refine lv_iconst (v := 0) hx hb dX6_lies_47 (by decide) ?_
          refine lv_goto (tgt := 52) hx hb dX6_lies_48 (by decide) ?_
          refine x_callVi (w := wM cI a) (σ := σ) (σ' := s_X6_goesWell σ 0) (As := [.int 0]) (rest := []) (q0 := 0) ⟨hx, hb, hml, hown, hts⟩ hG hP hS hsz (c_X6_goesWell l D cI a H.size σ 0) (cwV 1 hts gX6_lies_X6_goesWell rfl rfl rfl (by decide +kernel) ⟨Nat.le_of_ble_eq_true rfl, Nat.le_of_ble_eq_true rfl⟩) rfl rfl rfl rfl hl.1 rfl (Nat.le_of_ble_eq_true rfl) ⟨Nat.zero_le _, Nat.zero_le _⟩ dX6_lies_52 (fun H locs hP hS => ?_)
          refine W.eq (g2 := F0 m 55 ls [.int 1]) rfl ?_
          refine lv_if_eq (tgt := 80) hx hb dX6_lies_55 (by decide) (fun h => absurd h (by decide)) (fun _ => ?_)
          refine lv_aload_n hx hb dX6_lies_58 rfl (lv_at hl 1 rfl) ?_
          refine x_get (ci := 6) (C := RX6) (T := TX6) (M := 29) (v := .ref (a 1)) hx hb hts in_X6_lies_6 hown hG hP 0 rfl rfl 2 (by decide) (List.mem_of_getElem? (i := 1) rfl) rfl rfl dX6_lies_59 ?_
          refine lv_iload_n hx hb dX6_lies_62 rfl (lv_at hl 2 rfl) ?_
          refine lv_iload_n hx hb dX6_lies_63 rfl (lv_at hl 3 rfl) ?_
          refine x_iast (w := wM cI a) (σ := s_X6_goesWell σ 0) hx hb hG hP hS 1 rfl (wM_st1 cI a _ _ _) (isSt_in h_1) dX6_lies_64 (fun H locs hP hS => ?_)
          refine lv_aload_n hx hb dX6_lies_65 rfl (lv_at hl 1 rfl) ?_
          refine x_get (ci := 6) (C := RX6) (T := TX6) (M := 29) (v := .ref (a 2)) hx hb hts in_X6_lies_6 hown hG hP 0 rfl rfl 3 (by decide) (List.mem_of_getElem? (i := 2) rfl) rfl rfl dX6_lies_66 ?_
          refine lv_iload_n hx hb dX6_lies_69 rfl (lv_at hl 2 rfl) ?_
          refine lv_iload_n hx hb dX6_lies_70 rfl (lv_at hl 4 rfl) ?_
          refine x_iast (w := wM cI a) (σ := sx (s_X6_goesWell σ 0) 1 st.toNatClampNeg ea) hx hb hG hP hS 2 rfl (wM_st2 cI a _ _ _) (isSt_in h_1) dX6_lies_71 (fun H locs hP hS => ?_)
          refine lv_aload_n hx hb dX6_lies_72 rfl (lv_at hl 1 rfl) ?_
          refine x_get (ci := 6) (C := RX6) (T := TX6) (M := 29) (v := .ref (a 3)) hx hb hts in_X6_lies_6 hown hG hP 0 rfl rfl 4 (by decide) (List.mem_of_getElem? (i := 3) rfl) rfl rfl dX6_lies_73 ?_
          refine lv_iload_n hx hb dX6_lies_76 rfl (lv_at hl 2 rfl) ?_
          refine lv_iload hx hb dX6_lies_77 (lv_at hl 5 rfl) ?_
          refine x_iast (w := wM cI a) (σ := sx (sx (s_X6_goesWell σ 0) 1 st.toNatClampNeg ea) 2 st.toNatClampNeg no) hx hb hG hP hS 3 rfl (wM_st3 cI a _ _ _) (isSt_in h_1) dX6_lies_79 (fun H locs hP hS => ?_)
          exact x_vret hx hb hr hlk hsz hP hS (by rw [s_X6_lies, if_neg h_1, if_neg h_2, if_neg h_3, if_neg h_4]) dX6_lies_80
  · refine lv_iconst (v := 1) hx hb dX6_lies_12 (by decide) ?_
    refine lv_goto (tgt := 52) hx hb dX6_lies_13 (by decide) ?_
    refine x_callVi (w := wM cI a) (σ := σ) (σ' := s_X6_goesWell σ 1) (As := [.int 1]) (rest := []) (q0 := 0) ⟨hx, hb, hml, hown, hts⟩ hG hP hS hsz (c_X6_goesWell l D cI a H.size σ 1) (cwV 1 hts gX6_lies_X6_goesWell rfl rfl rfl (by decide +kernel) ⟨Nat.le_of_ble_eq_true rfl, Nat.le_of_ble_eq_true rfl⟩) rfl rfl rfl rfl hl.1 rfl (Nat.le_of_ble_eq_true rfl) ⟨Nat.zero_le _, Nat.zero_le _⟩ dX6_lies_52 (fun H locs hP hS => ?_)
    refine W.eq (g2 := F0 m 55 ls [.int 0]) rfl ?_
    refine lv_if_eq (tgt := 80) hx hb dX6_lies_55 (by decide) (fun _ => ?_) (fun h => absurd (by decide) h)
    exact x_vret hx hb hr hlk hsz hP hS (by rw [s_X6_lies, if_pos h_1]) dX6_lies_80
theorem in_X6_pass_6 : ∀ wd ∈ u_ws RX6 TX6 29, wd ∈ wsX6_pass := by decide +kernel
def r_X6_pass (σ : Sg) (mi : Int32) : Int32 :=
  if r_X6_in σ mi 1 600 = 0 then
    0
  else
    if (σ 0 1) + mi ≤ 20000 then
      (sx (s_X6_goesWell σ 0) 0 1 (((s_X6_goesWell σ 0) 0 1) + mi)) 0 1
    else
      0
def s_X6_pass (σ : Sg) (mi : Int32) : Sg :=
  if r_X6_in σ mi 1 600 = 0 then
    s_X6_goesWell σ 1
  else
    if (σ 0 1) + mi ≤ 20000 then
      sx (s_X6_goesWell σ 0) 0 1 (((s_X6_goesWell σ 0) 0 1) + mi)
    else
      s_X6_goesWell σ 2
set_option maxHeartbeats 4000000 in
set_option maxRecDepth 100000 in
theorem c_X6_pass (l : Launch) (D : va_G) (cI : ClassId) (a : Nat → Nat) (sz : Nat) (σ : Sg) (mi : Int32) : Met l yX6_pass wsX6_pass ({ frames := 1, cells := 0, slots := 0, locals := 22 }) (PcW D cI 24 a (wM cI a) sz σ [.ref (a 0), .int mi]) (QiW D 24 a (wM cI a) sz (r_X6_pass σ mi) (s_X6_pass σ mi)) 0 0 (AX 24 a sz) := by
  refine x_of (cc := cX6_pass) (maxL := 3) (ret := some .int) (C := RX6) rfl (by decide) rfl (Nat.le_of_ble_eq_true rfl) (fun p e s m below meth c hx hb hr hml hlk hts hown hsz H hP hS hG ls hl => ?_)
  have hl : lv_has ls 3 [(0, .ref (a 0)), (1, .int mi)] := hl
  refine lv_iload_n hx hb dX6_pass_0 rfl (lv_at hl 1 rfl) ?_
  refine lv_iconst (v := 1) hx hb dX6_pass_1 (by decide) ?_
  refine lv_sipush (v := 600) hx hb dX6_pass_2 (by decide) ?_
  refine x_callSi (w := wM cI a) (σ := σ) (σ' := σ) (As := [.int mi, .int 1, .int 600]) (rest := []) ⟨hx, hb, hml, hown, hts⟩ hG hP hS hsz (c_X6_in l D cI a H.size σ mi 1 600) (va_cwS 3 hts gX6_pass_X6_in rfl rfl rfl (by decide +kernel) ⟨Nat.le_of_ble_eq_true rfl, Nat.le_of_ble_eq_true rfl⟩) rfl hl.1 rfl (Nat.le_of_ble_eq_true rfl) ⟨Nat.zero_le _, Nat.zero_le _⟩ dX6_pass_5 (fun H locs hP hS => ?_)
  refine lv_istore_n (lv' := [(2, .int (r_X6_in σ mi 1 600)), (0, .ref (a 0)), (1, .int mi)]) hx hb dX6_pass_8 rfl hl (by decide) rfl (fun ls hl => ?_)
  refine lv_aload_n hx hb dX6_pass_9 rfl (lv_at hl 1 rfl) ?_
  refine lv_iload_n hx hb dX6_pass_10 rfl (lv_at hl 0 rfl) ?_
  refine lv_if_ne (tgt := 18) hx hb dX6_pass_11 (by decide) (fun h_1 => ?_) (fun h_1 => ?_)
  · refine lv_aload_n hx hb dX6_pass_18 rfl (lv_at hl 1 rfl) ?_
    refine x_get (ci := 6) (C := RX6) (T := TX6) (M := 29) (v := .int (σ 0 1)) hx hb hts in_X6_pass_6 hown hG hP 0 rfl rfl 1 (by decide) (List.mem_of_getElem? (i := 1) rfl) rfl rfl dX6_pass_19 ?_
    refine lv_iload_n hx hb dX6_pass_22 rfl (lv_at hl 2 rfl) ?_
    refine lv_iadd hx hb dX6_pass_23 ?_
    refine lv_sipush (v := 20000) hx hb dX6_pass_24 (by decide) ?_
    refine lv_icmp_le (tgt := 34) hx hb dX6_pass_27 (by decide) (fun h_2 => ?_) (fun h_2 => ?_)
    · refine lv_iconst (v := 0) hx hb dX6_pass_34 (by decide) ?_
      refine x_callVi (w := wM cI a) (σ := σ) (σ' := s_X6_goesWell σ 0) (As := [.int 0]) (rest := []) (q0 := 0) ⟨hx, hb, hml, hown, hts⟩ hG hP hS hsz (c_X6_goesWell l D cI a H.size σ 0) (cwV 1 hts gX6_pass_X6_goesWell rfl rfl rfl (by decide +kernel) ⟨Nat.le_of_ble_eq_true rfl, Nat.le_of_ble_eq_true rfl⟩) rfl rfl rfl rfl hl.1 rfl (Nat.le_of_ble_eq_true rfl) ⟨Nat.zero_le _, Nat.zero_le _⟩ dX6_pass_35 (fun H locs hP hS => ?_)
      refine W.eq (g2 := F0 m 38 ls [.int 1]) rfl ?_
      refine lv_if_ne (tgt := 43) hx hb dX6_pass_38 (by decide) (fun _ => ?_) (fun h => absurd h (by decide))
      refine lv_aload_n hx hb dX6_pass_43 rfl (lv_at hl 1 rfl) ?_
      refine lv_dup hx hb dX6_pass_44 rfl ?_
      refine x_get (ci := 6) (C := RX6) (T := TX6) (M := 29) (v := .int ((s_X6_goesWell σ 0) 0 1)) hx hb hts in_X6_pass_6 hown hG hP 0 rfl rfl 1 (by decide) (List.mem_of_getElem? (i := 1) rfl) rfl rfl dX6_pass_45 ?_
      refine lv_iload_n hx hb dX6_pass_48 rfl (lv_at hl 2 rfl) ?_
      refine lv_iadd hx hb dX6_pass_49 ?_
      refine x_put (w := wM cI a) (σ := s_X6_goesWell σ 0) (ci := 6) (C := RX6) (T := TX6) (M := 29) hx hb hts in_X6_pass_6 tyX6 tyX6_ok nmX6 hown hG hP hS 0 rfl rfl 1 (by decide) (List.mem_of_getElem? (i := 1) rfl) rfl rfl rfl (Nat.le_of_ble_eq_true rfl) (wM_pt0_1 cI a _ _) dX6_pass_50 (fun H locs hP hS => ?_)
      refine lv_aload_n hx hb dX6_pass_53 rfl (lv_at hl 1 rfl) ?_
      refine x_get (ci := 6) (C := RX6) (T := TX6) (M := 29) (v := .int ((sx (s_X6_goesWell σ 0) 0 1 (((s_X6_goesWell σ 0) 0 1) + mi)) 0 1)) hx hb hts in_X6_pass_6 hown hG hP 0 rfl rfl 1 (by decide) (List.mem_of_getElem? (i := 1) rfl) rfl rfl dX6_pass_54 ?_
      exact x_iret hx hb hr hlk hsz hP hS rfl (by rw [r_X6_pass, if_neg h_1, if_pos h_2]) (by rw [s_X6_pass, if_neg h_1, if_pos h_2]) dX6_pass_57
    · refine lv_iconst (v := 2) hx hb dX6_pass_30 (by decide) ?_
      refine lv_goto (tgt := 35) hx hb dX6_pass_31 (by decide) ?_
      refine x_callVi (w := wM cI a) (σ := σ) (σ' := s_X6_goesWell σ 2) (As := [.int 2]) (rest := []) (q0 := 0) ⟨hx, hb, hml, hown, hts⟩ hG hP hS hsz (c_X6_goesWell l D cI a H.size σ 2) (cwV 1 hts gX6_pass_X6_goesWell rfl rfl rfl (by decide +kernel) ⟨Nat.le_of_ble_eq_true rfl, Nat.le_of_ble_eq_true rfl⟩) rfl rfl rfl rfl hl.1 rfl (Nat.le_of_ble_eq_true rfl) ⟨Nat.zero_le _, Nat.zero_le _⟩ dX6_pass_35 (fun H locs hP hS => ?_)
      refine W.eq (g2 := F0 m 38 ls [.int 0]) rfl ?_
      refine lv_if_ne (tgt := 43) hx hb dX6_pass_38 (by decide) (fun h => absurd (by decide) h) (fun _ => ?_)
      refine lv_iconst (v := 0) hx hb dX6_pass_41 (by decide) ?_
      exact x_iret hx hb hr hlk hsz hP hS rfl (by rw [r_X6_pass, if_neg h_1, if_neg h_2]) (by rw [s_X6_pass, if_neg h_1, if_neg h_2]) dX6_pass_42
  · refine lv_iconst (v := 1) hx hb dX6_pass_14 (by decide) ?_
    refine lv_goto (tgt := 35) hx hb dX6_pass_15 (by decide) ?_
    refine x_callVi (w := wM cI a) (σ := σ) (σ' := s_X6_goesWell σ 1) (As := [.int 1]) (rest := []) (q0 := 0) ⟨hx, hb, hml, hown, hts⟩ hG hP hS hsz (c_X6_goesWell l D cI a H.size σ 1) (cwV 1 hts gX6_pass_X6_goesWell rfl rfl rfl (by decide +kernel) ⟨Nat.le_of_ble_eq_true rfl, Nat.le_of_ble_eq_true rfl⟩) rfl rfl rfl rfl hl.1 rfl (Nat.le_of_ble_eq_true rfl) ⟨Nat.zero_le _, Nat.zero_le _⟩ dX6_pass_35 (fun H locs hP hS => ?_)
    refine W.eq (g2 := F0 m 38 ls [.int 0]) rfl ?_
    refine lv_if_ne (tgt := 43) hx hb dX6_pass_38 (by decide) (fun h => absurd (by decide) h) (fun _ => ?_)
    refine lv_iconst (v := 0) hx hb dX6_pass_41 (by decide) ?_
    exact x_iret hx hb hr hlk hsz hP hS rfl (by rw [r_X6_pass, if_pos h_1]) (by rw [s_X6_pass, if_pos h_1]) dX6_pass_42
