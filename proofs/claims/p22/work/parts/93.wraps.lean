set_option maxHeartbeats 4000000 in
set_option maxRecDepth 100000 in
theorem c_L_lies (l : Launch) (D : va_G) (cI : ClassId) (a : Nat → Nat) (sz : Nat) (σ : Sg) (st : Int32) (ea : Int32) (no : Int32) (hi : Int32) (hs : vp_in st 8) (hu1 : (¬ ea < 0 ∧ ea ≤ 99)) (hu2 : (¬ no < 0 ∧ no ≤ 99)) (hu3 : (¬ hi < 0 ∧ hi ≤ 99)) : Met l yL_lies wsL_lies ({ frames := 2, cells := 0, slots := 0, locals := 45 }) (PcO D cI a sz σ [.ref (a 0), .int st, .int ea, .int no, .int hi]) (QiW D 29 a (wX cI a) sz 0 (s_X5_lies σ st ea no hi)) 0 0 (AX 29 a sz) := by
  refine o_of (cc := cL_lies) (maxL := 6) (ret := some .int) (hh := [(0, 10, 11, 14), (0, 10, 16, 17)]) (C := RL) rfl (by decide) rfl (Nat.le_of_ble_eq_true rfl) (fun p e s m below meth c hx hb hr hml hlk hts hown hsz ht hE hEC H hP hS hG ls hl => ?_)
  have hl : lv_has ls 6 [(0, .ref (a 0)), (1, .int st), (2, .int ea), (3, .int no), (4, .int hi)] := hl
  refine lv_aload_n hx hb dL_lies_0 rfl (lv_at hl 0 rfl) ?_
  refine lv_iload_n hx hb dL_lies_1 rfl (lv_at hl 1 rfl) ?_
  refine lv_iload_n hx hb dL_lies_2 rfl (lv_at hl 2 rfl) ?_
  refine lv_iload_n hx hb dL_lies_3 rfl (lv_at hl 3 rfl) ?_
  refine lv_iload hx hb dL_lies_4 (lv_at hl 4 rfl) ?_
  refine x_callVv (w := wX cI a) (σ := σ) (σ' := s_X5_lies σ st ea no hi) (As := [.int st, .int ea, .int no, .int hi]) (rest := []) (q0 := 0) (ci := 5) (C := RX5) ⟨hx, hb, hml, hown, hts⟩ hG hP hS hsz (c_X5_lies l D cI a H.size σ st ea no hi hs hu1 hu2 hu3) (cwV 4 hts gL_lies_X5_lies rfl rfl rfl (by decide +kernel) ⟨Nat.le_of_ble_eq_true rfl, Nat.le_of_ble_eq_true rfl⟩) rfl rfl rfl rfl hl.1 rfl (Nat.le_of_ble_eq_true rfl) ⟨Nat.zero_le _, Nat.zero_le _⟩ dL_lies_6 (fun H locs hP hS => ?_)
  refine lv_iconst (v := 0) hx hb dL_lies_9 (by decide) ?_
  exact x_iret (σ := s_X5_lies σ st ea no hi) hx hb hr hlk hsz hP hS rfl rfl rfl dL_lies_10
set_option maxHeartbeats 4000000 in
set_option maxRecDepth 100000 in
theorem c_L_lies_x1 (l : Launch) (D : va_G) (cI : ClassId) (a : Nat → Nat) (sz : Nat) (σ : Sg) (st : Int32) (ea : Int32) (no : Int32) (hi : Int32) (hx0 : ¬ (vp_in st 8)) (hlf : l.stackTraces = false) : Met l yL_lies wsL_lies ({ frames := 8, cells := 1, slots := 6, locals := 126 }) (PcO D cI a sz σ [.ref (a 0), .int st, .int ea, .int no, .int hi]) (QiW D 29 a (wX cI a) sz (-99999999) σ) 1 6 (AX 29 a sz) := by
  refine o_of (cc := cL_lies) (maxL := 6) (ret := some .int) (hh := [(0, 10, 11, 14), (0, 10, 16, 17)]) (C := RL) rfl (by decide) rfl (Nat.le_of_ble_eq_true rfl) (fun p e s m below meth c hx hb hr hml hlk hts hown hsz ht hE hEC H hP hS hG ls hl => ?_)
  have hl : lv_has ls 6 [(0, .ref (a 0)), (1, .int st), (2, .int ea), (3, .int no), (4, .int hi)] := hl
  refine lv_aload_n hx hb dL_lies_0 rfl (lv_at hl 0 rfl) ?_
  refine lv_iload_n hx hb dL_lies_1 rfl (lv_at hl 1 rfl) ?_
  refine lv_iload_n hx hb dL_lies_2 rfl (lv_at hl 2 rfl) ?_
  refine lv_iload_n hx hb dL_lies_3 rfl (lv_at hl 3 rfl) ?_
  refine lv_iload hx hb dL_lies_4 (lv_at hl 4 rfl) ?_
  refine o_catVv (E0 := "java/lang/IndexOutOfBoundsException") (hpc := 11) (σ := σ) (As := [.int st, .int ea, .int no, .int hi]) (rest := []) ⟨hx, hb, hml, hown, hts⟩ hG hP hS hsz hE (xc_X5_lies_x1 l D cI a H.size σ st ea no hi hx0 hlf) (cwV 4 hts gL_lies_X5_lies rfl rfl rfl (by decide +kernel) ⟨Nat.le_of_ble_eq_true rfl, Nat.le_of_ble_eq_true rfl⟩) rfl hl.1 rfl (Nat.le_of_ble_eq_true rfl) ⟨Nat.le_of_ble_eq_true rfl, Nat.le_of_ble_eq_true rfl⟩ dL_lies_6 [] ⟨0, 10, 11, 14⟩ [⟨0, 10, 16, 17⟩] (by rw [ht]; rfl) (fun z hz => nomatch hz) (by decide) (by decide) (hts _ (List.mem_of_getElem? (i := 1) rfl)) (by decide) rfl (fun q9 H locs hP hS => ?_)
  refine lv_astore (lv' := [(5, .ref q9), (0, .ref (a 0)), (1, .int st), (2, .int ea), (3, .int no), (4, .int hi)]) hx hb dL_lies_11 hl (by decide) rfl (fun ls hl => ?_)
  refine lv_ldc (v := -99999999) hx hb hown (hts _ (List.mem_of_getElem? (i := 3) rfl)) dL_lies_13 ?_
  exact x_iret (σ := σ) hx hb hr hlk hsz hP hS rfl rfl rfl dL_lies_15
set_option maxHeartbeats 4000000 in
set_option maxRecDepth 100000 in
theorem c_L_lies_x7 (l : Launch) (D : va_G) (cI : ClassId) (a : Nat → Nat) (sz : Nat) (σ : Sg) (st : Int32) (ea : Int32) (no : Int32) (hi : Int32) (hs : vp_in st 8) (hx0 : ¬ (¬ ea < 0 ∧ ea ≤ 99)) (hlf : l.stackTraces = false) : Met l yL_lies wsL_lies ({ frames := 8, cells := 1, slots := 6, locals := 127 }) (PcO D cI a sz σ [.ref (a 0), .int st, .int ea, .int no, .int hi]) (QiW D 29 a (wX cI a) sz (-99999999) σ) 1 6 (AX 29 a sz) := by
  refine o_of (cc := cL_lies) (maxL := 6) (ret := some .int) (hh := [(0, 10, 11, 14), (0, 10, 16, 17)]) (C := RL) rfl (by decide) rfl (Nat.le_of_ble_eq_true rfl) (fun p e s m below meth c hx hb hr hml hlk hts hown hsz ht hE hEC H hP hS hG ls hl => ?_)
  have hl : lv_has ls 6 [(0, .ref (a 0)), (1, .int st), (2, .int ea), (3, .int no), (4, .int hi)] := hl
  refine lv_aload_n hx hb dL_lies_0 rfl (lv_at hl 0 rfl) ?_
  refine lv_iload_n hx hb dL_lies_1 rfl (lv_at hl 1 rfl) ?_
  refine lv_iload_n hx hb dL_lies_2 rfl (lv_at hl 2 rfl) ?_
  refine lv_iload_n hx hb dL_lies_3 rfl (lv_at hl 3 rfl) ?_
  refine lv_iload hx hb dL_lies_4 (lv_at hl 4 rfl) ?_
  refine o_catVv (E0 := "java/lang/IllegalArgumentException") (hpc := 16) (σ := σ) (As := [.int st, .int ea, .int no, .int hi]) (rest := []) ⟨hx, hb, hml, hown, hts⟩ hG hP hS hsz hE (xc_X5_lies_x7 l D cI a H.size σ st ea no hi hs hx0 hlf) (cwV 4 hts gL_lies_X5_lies rfl rfl rfl (by decide +kernel) ⟨Nat.le_of_ble_eq_true rfl, Nat.le_of_ble_eq_true rfl⟩) rfl hl.1 rfl (Nat.le_of_ble_eq_true rfl) ⟨Nat.le_of_ble_eq_true rfl, Nat.le_of_ble_eq_true rfl⟩ dL_lies_6 [⟨0, 10, 11, 14⟩] ⟨0, 10, 16, 17⟩ [] (by rw [ht]; rfl) (fun z hz => by cases List.mem_singleton.mp hz; exact Or.inr ⟨by decide, _, (hts _ (List.mem_of_getElem? (i := 1) rfl)), hEC.1⟩) (by decide) (by decide) (hts _ (List.mem_of_getElem? (i := 2) rfl)) (by decide) rfl (fun q9 H locs hP hS => ?_)
  refine lv_astore (lv' := [(5, .ref q9), (0, .ref (a 0)), (1, .int st), (2, .int ea), (3, .int no), (4, .int hi)]) hx hb dL_lies_16 hl (by decide) rfl (fun ls hl => ?_)
  refine lv_ldc (v := -99999999) hx hb hown (hts _ (List.mem_of_getElem? (i := 3) rfl)) dL_lies_18 ?_
  exact x_iret (σ := σ) hx hb hr hlk hsz hP hS rfl rfl rfl dL_lies_20
set_option maxHeartbeats 4000000 in
set_option maxRecDepth 100000 in
theorem c_L_lies_x13 (l : Launch) (D : va_G) (cI : ClassId) (a : Nat → Nat) (sz : Nat) (σ : Sg) (st : Int32) (ea : Int32) (no : Int32) (hi : Int32) (hs : vp_in st 8) (hu1 : (¬ ea < 0 ∧ ea ≤ 99)) (hx0 : ¬ (¬ no < 0 ∧ no ≤ 99)) (hlf : l.stackTraces = false) : Met l yL_lies wsL_lies ({ frames := 8, cells := 1, slots := 6, locals := 127 }) (PcO D cI a sz σ [.ref (a 0), .int st, .int ea, .int no, .int hi]) (QiW D 29 a (wX cI a) sz (-99999999) σ) 1 6 (AX 29 a sz) := by
  refine o_of (cc := cL_lies) (maxL := 6) (ret := some .int) (hh := [(0, 10, 11, 14), (0, 10, 16, 17)]) (C := RL) rfl (by decide) rfl (Nat.le_of_ble_eq_true rfl) (fun p e s m below meth c hx hb hr hml hlk hts hown hsz ht hE hEC H hP hS hG ls hl => ?_)
  have hl : lv_has ls 6 [(0, .ref (a 0)), (1, .int st), (2, .int ea), (3, .int no), (4, .int hi)] := hl
  refine lv_aload_n hx hb dL_lies_0 rfl (lv_at hl 0 rfl) ?_
  refine lv_iload_n hx hb dL_lies_1 rfl (lv_at hl 1 rfl) ?_
  refine lv_iload_n hx hb dL_lies_2 rfl (lv_at hl 2 rfl) ?_
  refine lv_iload_n hx hb dL_lies_3 rfl (lv_at hl 3 rfl) ?_
  refine lv_iload hx hb dL_lies_4 (lv_at hl 4 rfl) ?_
  refine o_catVv (E0 := "java/lang/IllegalArgumentException") (hpc := 16) (σ := σ) (As := [.int st, .int ea, .int no, .int hi]) (rest := []) ⟨hx, hb, hml, hown, hts⟩ hG hP hS hsz hE (xc_X5_lies_x13 l D cI a H.size σ st ea no hi hs hu1 hx0 hlf) (cwV 4 hts gL_lies_X5_lies rfl rfl rfl (by decide +kernel) ⟨Nat.le_of_ble_eq_true rfl, Nat.le_of_ble_eq_true rfl⟩) rfl hl.1 rfl (Nat.le_of_ble_eq_true rfl) ⟨Nat.le_of_ble_eq_true rfl, Nat.le_of_ble_eq_true rfl⟩ dL_lies_6 [⟨0, 10, 11, 14⟩] ⟨0, 10, 16, 17⟩ [] (by rw [ht]; rfl) (fun z hz => by cases List.mem_singleton.mp hz; exact Or.inr ⟨by decide, _, (hts _ (List.mem_of_getElem? (i := 1) rfl)), hEC.1⟩) (by decide) (by decide) (hts _ (List.mem_of_getElem? (i := 2) rfl)) (by decide) rfl (fun q9 H locs hP hS => ?_)
  refine lv_astore (lv' := [(5, .ref q9), (0, .ref (a 0)), (1, .int st), (2, .int ea), (3, .int no), (4, .int hi)]) hx hb dL_lies_16 hl (by decide) rfl (fun ls hl => ?_)
  refine lv_ldc (v := -99999999) hx hb hown (hts _ (List.mem_of_getElem? (i := 3) rfl)) dL_lies_18 ?_
  exact x_iret (σ := σ) hx hb hr hlk hsz hP hS rfl rfl rfl dL_lies_20
set_option maxHeartbeats 4000000 in
set_option maxRecDepth 100000 in
theorem c_L_lies_x20 (l : Launch) (D : va_G) (cI : ClassId) (a : Nat → Nat) (sz : Nat) (σ : Sg) (st : Int32) (ea : Int32) (no : Int32) (hi : Int32) (hs : vp_in st 8) (hu1 : (¬ ea < 0 ∧ ea ≤ 99)) (hu2 : (¬ no < 0 ∧ no ≤ 99)) (hx0 : ¬ (¬ hi < 0 ∧ hi ≤ 99)) (hlf : l.stackTraces = false) : Met l yL_lies wsL_lies ({ frames := 8, cells := 1, slots := 6, locals := 127 }) (PcO D cI a sz σ [.ref (a 0), .int st, .int ea, .int no, .int hi]) (QiW D 29 a (wX cI a) sz (-99999999) σ) 1 6 (AX 29 a sz) := by
  refine o_of (cc := cL_lies) (maxL := 6) (ret := some .int) (hh := [(0, 10, 11, 14), (0, 10, 16, 17)]) (C := RL) rfl (by decide) rfl (Nat.le_of_ble_eq_true rfl) (fun p e s m below meth c hx hb hr hml hlk hts hown hsz ht hE hEC H hP hS hG ls hl => ?_)
  have hl : lv_has ls 6 [(0, .ref (a 0)), (1, .int st), (2, .int ea), (3, .int no), (4, .int hi)] := hl
  refine lv_aload_n hx hb dL_lies_0 rfl (lv_at hl 0 rfl) ?_
  refine lv_iload_n hx hb dL_lies_1 rfl (lv_at hl 1 rfl) ?_
  refine lv_iload_n hx hb dL_lies_2 rfl (lv_at hl 2 rfl) ?_
  refine lv_iload_n hx hb dL_lies_3 rfl (lv_at hl 3 rfl) ?_
  refine lv_iload hx hb dL_lies_4 (lv_at hl 4 rfl) ?_
  refine o_catVv (E0 := "java/lang/IllegalArgumentException") (hpc := 16) (σ := σ) (As := [.int st, .int ea, .int no, .int hi]) (rest := []) ⟨hx, hb, hml, hown, hts⟩ hG hP hS hsz hE (xc_X5_lies_x20 l D cI a H.size σ st ea no hi hs hu1 hu2 hx0 hlf) (cwV 4 hts gL_lies_X5_lies rfl rfl rfl (by decide +kernel) ⟨Nat.le_of_ble_eq_true rfl, Nat.le_of_ble_eq_true rfl⟩) rfl hl.1 rfl (Nat.le_of_ble_eq_true rfl) ⟨Nat.le_of_ble_eq_true rfl, Nat.le_of_ble_eq_true rfl⟩ dL_lies_6 [⟨0, 10, 11, 14⟩] ⟨0, 10, 16, 17⟩ [] (by rw [ht]; rfl) (fun z hz => by cases List.mem_singleton.mp hz; exact Or.inr ⟨by decide, _, (hts _ (List.mem_of_getElem? (i := 1) rfl)), hEC.1⟩) (by decide) (by decide) (hts _ (List.mem_of_getElem? (i := 2) rfl)) (by decide) rfl (fun q9 H locs hP hS => ?_)
  refine lv_astore (lv' := [(5, .ref q9), (0, .ref (a 0)), (1, .int st), (2, .int ea), (3, .int no), (4, .int hi)]) hx hb dL_lies_16 hl (by decide) rfl (fun ls hl => ?_)
  refine lv_ldc (v := -99999999) hx hb hown (hts _ (List.mem_of_getElem? (i := 3) rfl)) dL_lies_18 ?_
  exact x_iret (σ := σ) hx hb hr hlk hsz hP hS rfl rfl rfl dL_lies_20
set_option maxHeartbeats 4000000 in
set_option maxRecDepth 100000 in
theorem c_L_pass (l : Launch) (D : va_G) (cI : ClassId) (a : Nat → Nat) (sz : Nat) (σ : Sg) (mi : Int32) (hp1 : ¬ mi < 1) (hp2 : mi ≤ 600) (hp3 : (σ 0 5) + mi ≤ 20000) : Met l yL_pass wsL_pass ({ frames := 1, cells := 0, slots := 0, locals := 21 }) (PcO D cI a sz σ [.ref (a 0), .int mi]) (QiW D 29 a (wX cI a) sz (r_X5_pass σ mi) (s_X5_pass σ mi)) 0 0 (AX 29 a sz) := by
  refine o_of (cc := cL_pass) (maxL := 3) (ret := some .int) (hh := [(0, 5, 6, 17), (0, 5, 10, 23)]) (C := RL) rfl (by decide) rfl (Nat.le_of_ble_eq_true rfl) (fun p e s m below meth c hx hb hr hml hlk hts hown hsz ht hE hEC H hP hS hG ls hl => ?_)
  have hl : lv_has ls 3 [(0, .ref (a 0)), (1, .int mi)] := hl
  refine lv_aload_n hx hb dL_pass_0 rfl (lv_at hl 0 rfl) ?_
  refine lv_iload_n hx hb dL_pass_1 rfl (lv_at hl 1 rfl) ?_
  refine x_callVi (w := wX cI a) (σ := σ) (σ' := s_X5_pass σ mi) (As := [.int mi]) (rest := []) (q0 := 0) (ci := 5) (C := RX5) ⟨hx, hb, hml, hown, hts⟩ hG hP hS hsz (c_X5_pass l D cI a H.size σ mi hp1 hp2 hp3) (cwV 1 hts gL_pass_X5_pass rfl rfl rfl (by decide +kernel) ⟨Nat.le_of_ble_eq_true rfl, Nat.le_of_ble_eq_true rfl⟩) rfl rfl rfl rfl hl.1 rfl (Nat.le_of_ble_eq_true rfl) ⟨Nat.zero_le _, Nat.zero_le _⟩ dL_pass_2 (fun H locs hP hS => ?_)
  exact x_iret (σ := s_X5_pass σ mi) hx hb hr hlk hsz hP hS rfl rfl rfl dL_pass_5
set_option maxHeartbeats 4000000 in
set_option maxRecDepth 100000 in
theorem c_L_pass_x12 (l : Launch) (D : va_G) (cI : ClassId) (a : Nat → Nat) (sz : Nat) (σ : Sg) (mi : Int32) (hx0 : ¬ (¬ mi < 1 ∧ mi ≤ 600)) (hlf : l.stackTraces = false) : Met l yL_pass wsL_pass ({ frames := 7, cells := 1, slots := 6, locals := 103 }) (PcO D cI a sz σ [.ref (a 0), .int mi]) (QiW D 29 a (wX cI a) sz (-99999999) σ) 1 6 (AX 29 a sz) := by
  refine o_of (cc := cL_pass) (maxL := 3) (ret := some .int) (hh := [(0, 5, 6, 17), (0, 5, 10, 23)]) (C := RL) rfl (by decide) rfl (Nat.le_of_ble_eq_true rfl) (fun p e s m below meth c hx hb hr hml hlk hts hown hsz ht hE hEC H hP hS hG ls hl => ?_)
  have hl : lv_has ls 3 [(0, .ref (a 0)), (1, .int mi)] := hl
  refine lv_aload_n hx hb dL_pass_0 rfl (lv_at hl 0 rfl) ?_
  refine lv_iload_n hx hb dL_pass_1 rfl (lv_at hl 1 rfl) ?_
  refine o_catVi (E0 := "java/lang/IllegalArgumentException") (hpc := 6) (σ := σ) (As := [.int mi]) (rest := []) ⟨hx, hb, hml, hown, hts⟩ hG hP hS hsz hE (xc_X5_pass_x12 l D cI a H.size σ mi hx0 hlf) (cwV 1 hts gL_pass_X5_pass rfl rfl rfl (by decide +kernel) ⟨Nat.le_of_ble_eq_true rfl, Nat.le_of_ble_eq_true rfl⟩) rfl hl.1 rfl (Nat.le_of_ble_eq_true rfl) ⟨Nat.le_of_ble_eq_true rfl, Nat.le_of_ble_eq_true rfl⟩ dL_pass_2 [] ⟨0, 5, 6, 17⟩ [⟨0, 5, 10, 23⟩] (by rw [ht]; rfl) (fun z hz => nomatch hz) (by decide) (by decide) (hts _ (List.mem_of_getElem? (i := 1) rfl)) (by decide) rfl (fun q9 H locs hP hS => ?_)
  refine lv_astore_n (lv' := [(2, .ref q9), (0, .ref (a 0)), (1, .int mi)]) hx hb dL_pass_6 rfl hl (by decide) rfl (fun ls hl => ?_)
  refine lv_ldc (v := -99999999) hx hb hown (hts _ (List.mem_of_getElem? (i := 3) rfl)) dL_pass_7 ?_
  exact x_iret (σ := σ) hx hb hr hlk hsz hP hS rfl rfl rfl dL_pass_9
set_option maxHeartbeats 4000000 in
set_option maxRecDepth 100000 in
theorem c_L_pass_x34 (l : Launch) (D : va_G) (cI : ClassId) (a : Nat → Nat) (sz : Nat) (σ : Sg) (mi : Int32) (hp1 : ¬ mi < 1) (hp2 : mi ≤ 600) (hx0 : ¬ (σ 0 5) + mi ≤ 20000) (hlf : l.stackTraces = false) : Met l yL_pass wsL_pass ({ frames := 7, cells := 1, slots := 6, locals := 103 }) (PcO D cI a sz σ [.ref (a 0), .int mi]) (QiW D 29 a (wX cI a) sz (-99999999) σ) 1 6 (AX 29 a sz) := by
  refine o_of (cc := cL_pass) (maxL := 3) (ret := some .int) (hh := [(0, 5, 6, 17), (0, 5, 10, 23)]) (C := RL) rfl (by decide) rfl (Nat.le_of_ble_eq_true rfl) (fun p e s m below meth c hx hb hr hml hlk hts hown hsz ht hE hEC H hP hS hG ls hl => ?_)
  have hl : lv_has ls 3 [(0, .ref (a 0)), (1, .int mi)] := hl
  refine lv_aload_n hx hb dL_pass_0 rfl (lv_at hl 0 rfl) ?_
  refine lv_iload_n hx hb dL_pass_1 rfl (lv_at hl 1 rfl) ?_
  refine o_catVi (E0 := "java/lang/IllegalStateException") (hpc := 10) (σ := σ) (As := [.int mi]) (rest := []) ⟨hx, hb, hml, hown, hts⟩ hG hP hS hsz hE (xc_X5_pass_x34 l D cI a H.size σ mi hp1 hp2 hx0 hlf) (cwV 1 hts gL_pass_X5_pass rfl rfl rfl (by decide +kernel) ⟨Nat.le_of_ble_eq_true rfl, Nat.le_of_ble_eq_true rfl⟩) rfl hl.1 rfl (Nat.le_of_ble_eq_true rfl) ⟨Nat.le_of_ble_eq_true rfl, Nat.le_of_ble_eq_true rfl⟩ dL_pass_2 [⟨0, 5, 6, 17⟩] ⟨0, 5, 10, 23⟩ [] (by rw [ht]; rfl) (fun z hz => by cases List.mem_singleton.mp hz; exact Or.inr ⟨by decide, _, (hts _ (List.mem_of_getElem? (i := 1) rfl)), hEC.2.2⟩) (by decide) (by decide) (hts _ (List.mem_of_getElem? (i := 2) rfl)) (by decide) rfl (fun q9 H locs hP hS => ?_)
  refine lv_astore_n (lv' := [(2, .ref q9), (0, .ref (a 0)), (1, .int mi)]) hx hb dL_pass_10 rfl hl (by decide) rfl (fun ls hl => ?_)
  refine lv_ldc (v := -99999999) hx hb hown (hts _ (List.mem_of_getElem? (i := 3) rfl)) dL_pass_11 ?_
  exact x_iret (σ := σ) hx hb hr hlk hsz hP hS rfl rfl rfl dL_pass_13
set_option maxHeartbeats 4000000 in
set_option maxRecDepth 100000 in
theorem c_L_docks (l : Launch) (D : va_G) (cI : ClassId) (a : Nat → Nat) (sz : Nat) (σ : Sg) (st : Int32) (pl : Int32) (n : Nat) (g : Nat) (hs : vp_in st 8) (hu1 : (¬ pl < 0 ∧ pl ≤ 20)) (hn : n < 300) (hcn : σ 1 4 = nI n) (hh : hearOK σ 0 st pl (σ 0 5) n g) : Met l yL_docks wsL_docks ({ frames := 7, cells := 0, slots := 0, locals := 159 }) (PcO D cI a sz σ [.ref (a 0), .int st, .int pl]) (QiW D 29 a (wX cI a) sz 0 (s_X5_docks σ st pl n g)) 0 0 (AX 29 a sz) := by
  refine o_of (cc := cL_docks) (maxL := 4) (ret := some .int) (hh := [(0, 7, 8, 14), (0, 7, 12, 17), (0, 7, 16, 23)]) (C := RL) rfl (by decide) rfl (Nat.le_of_ble_eq_true rfl) (fun p e s m below meth c hx hb hr hml hlk hts hown hsz ht hE hEC H hP hS hG ls hl => ?_)
  have hl : lv_has ls 4 [(0, .ref (a 0)), (1, .int st), (2, .int pl)] := hl
  refine lv_aload_n hx hb dL_docks_0 rfl (lv_at hl 0 rfl) ?_
  refine lv_iload_n hx hb dL_docks_1 rfl (lv_at hl 1 rfl) ?_
  refine lv_iload_n hx hb dL_docks_2 rfl (lv_at hl 2 rfl) ?_
  refine x_callVv (w := wX cI a) (σ := σ) (σ' := s_X5_docks σ st pl n g) (As := [.int st, .int pl]) (rest := []) (q0 := 0) (ci := 5) (C := RX5) ⟨hx, hb, hml, hown, hts⟩ hG hP hS hsz (c_X5_docks l D cI a H.size σ st pl n g hs hu1 hn hcn hh) (cwV 2 hts gL_docks_X5_docks rfl rfl rfl (by decide +kernel) ⟨Nat.le_of_ble_eq_true rfl, Nat.le_of_ble_eq_true rfl⟩) rfl rfl rfl rfl hl.1 rfl (Nat.le_of_ble_eq_true rfl) ⟨Nat.zero_le _, Nat.zero_le _⟩ dL_docks_3 (fun H locs hP hS => ?_)
  refine lv_iconst (v := 0) hx hb dL_docks_6 (by decide) ?_
  exact x_iret (σ := s_X5_docks σ st pl n g) hx hb hr hlk hsz hP hS rfl rfl rfl dL_docks_7
set_option maxHeartbeats 4000000 in
set_option maxRecDepth 100000 in
theorem c_L_docks_x1 (l : Launch) (D : va_G) (cI : ClassId) (a : Nat → Nat) (sz : Nat) (σ : Sg) (st : Int32) (pl : Int32) (hx0 : ¬ (vp_in st 8)) (hlf : l.stackTraces = false) : Met l yL_docks wsL_docks ({ frames := 8, cells := 1, slots := 6, locals := 124 }) (PcO D cI a sz σ [.ref (a 0), .int st, .int pl]) (QiW D 29 a (wX cI a) sz (-99999999) σ) 1 6 (AX 29 a sz) := by
  refine o_of (cc := cL_docks) (maxL := 4) (ret := some .int) (hh := [(0, 7, 8, 14), (0, 7, 12, 17), (0, 7, 16, 23)]) (C := RL) rfl (by decide) rfl (Nat.le_of_ble_eq_true rfl) (fun p e s m below meth c hx hb hr hml hlk hts hown hsz ht hE hEC H hP hS hG ls hl => ?_)
  have hl : lv_has ls 4 [(0, .ref (a 0)), (1, .int st), (2, .int pl)] := hl
  refine lv_aload_n hx hb dL_docks_0 rfl (lv_at hl 0 rfl) ?_
  refine lv_iload_n hx hb dL_docks_1 rfl (lv_at hl 1 rfl) ?_
  refine lv_iload_n hx hb dL_docks_2 rfl (lv_at hl 2 rfl) ?_
  refine o_catVv (E0 := "java/lang/IndexOutOfBoundsException") (hpc := 8) (σ := σ) (As := [.int st, .int pl]) (rest := []) ⟨hx, hb, hml, hown, hts⟩ hG hP hS hsz hE (xc_X5_docks_x1 l D cI a H.size σ st pl hx0 hlf) (cwV 2 hts gL_docks_X5_docks rfl rfl rfl (by decide +kernel) ⟨Nat.le_of_ble_eq_true rfl, Nat.le_of_ble_eq_true rfl⟩) rfl hl.1 rfl (Nat.le_of_ble_eq_true rfl) ⟨Nat.le_of_ble_eq_true rfl, Nat.le_of_ble_eq_true rfl⟩ dL_docks_3 [] ⟨0, 7, 8, 14⟩ [⟨0, 7, 12, 17⟩, ⟨0, 7, 16, 23⟩] (by rw [ht]; rfl) (fun z hz => nomatch hz) (by decide) (by decide) (hts _ (List.mem_of_getElem? (i := 1) rfl)) (by decide) rfl (fun q9 H locs hP hS => ?_)
  refine lv_astore_n (lv' := [(3, .ref q9), (0, .ref (a 0)), (1, .int st), (2, .int pl)]) hx hb dL_docks_8 rfl hl (by decide) rfl (fun ls hl => ?_)
  refine lv_ldc (v := -99999999) hx hb hown (hts _ (List.mem_of_getElem? (i := 4) rfl)) dL_docks_9 ?_
  exact x_iret (σ := σ) hx hb hr hlk hsz hP hS rfl rfl rfl dL_docks_11
set_option maxHeartbeats 4000000 in
set_option maxRecDepth 100000 in
theorem c_L_docks_x7 (l : Launch) (D : va_G) (cI : ClassId) (a : Nat → Nat) (sz : Nat) (σ : Sg) (st : Int32) (pl : Int32) (hs : vp_in st 8) (hx0 : ¬ (¬ pl < 0 ∧ pl ≤ 20)) (hlf : l.stackTraces = false) : Met l yL_docks wsL_docks ({ frames := 8, cells := 1, slots := 6, locals := 125 }) (PcO D cI a sz σ [.ref (a 0), .int st, .int pl]) (QiW D 29 a (wX cI a) sz (-99999999) σ) 1 6 (AX 29 a sz) := by
  refine o_of (cc := cL_docks) (maxL := 4) (ret := some .int) (hh := [(0, 7, 8, 14), (0, 7, 12, 17), (0, 7, 16, 23)]) (C := RL) rfl (by decide) rfl (Nat.le_of_ble_eq_true rfl) (fun p e s m below meth c hx hb hr hml hlk hts hown hsz ht hE hEC H hP hS hG ls hl => ?_)
  have hl : lv_has ls 4 [(0, .ref (a 0)), (1, .int st), (2, .int pl)] := hl
  refine lv_aload_n hx hb dL_docks_0 rfl (lv_at hl 0 rfl) ?_
  refine lv_iload_n hx hb dL_docks_1 rfl (lv_at hl 1 rfl) ?_
  refine lv_iload_n hx hb dL_docks_2 rfl (lv_at hl 2 rfl) ?_
  refine o_catVv (E0 := "java/lang/IllegalArgumentException") (hpc := 12) (σ := σ) (As := [.int st, .int pl]) (rest := []) ⟨hx, hb, hml, hown, hts⟩ hG hP hS hsz hE (xc_X5_docks_x7 l D cI a H.size σ st pl hs hx0 hlf) (cwV 2 hts gL_docks_X5_docks rfl rfl rfl (by decide +kernel) ⟨Nat.le_of_ble_eq_true rfl, Nat.le_of_ble_eq_true rfl⟩) rfl hl.1 rfl (Nat.le_of_ble_eq_true rfl) ⟨Nat.le_of_ble_eq_true rfl, Nat.le_of_ble_eq_true rfl⟩ dL_docks_3 [⟨0, 7, 8, 14⟩] ⟨0, 7, 12, 17⟩ [⟨0, 7, 16, 23⟩] (by rw [ht]; rfl) (fun z hz => by cases List.mem_singleton.mp hz; exact Or.inr ⟨by decide, _, (hts _ (List.mem_of_getElem? (i := 1) rfl)), hEC.1⟩) (by decide) (by decide) (hts _ (List.mem_of_getElem? (i := 2) rfl)) (by decide) rfl (fun q9 H locs hP hS => ?_)
  refine lv_astore_n (lv' := [(3, .ref q9), (0, .ref (a 0)), (1, .int st), (2, .int pl)]) hx hb dL_docks_12 rfl hl (by decide) rfl (fun ls hl => ?_)
  refine lv_ldc (v := -99999999) hx hb hown (hts _ (List.mem_of_getElem? (i := 4) rfl)) dL_docks_13 ?_
  exact x_iret (σ := σ) hx hb hr hlk hsz hP hS rfl rfl rfl dL_docks_15
set_option maxHeartbeats 4000000 in
set_option maxRecDepth 100000 in
theorem c_L_docks_x11 (l : Launch) (D : va_G) (cI : ClassId) (a : Nat → Nat) (sz : Nat) (σ : Sg) (st : Int32) (pl : Int32) (hs : vp_in st 8) (hu1 : (¬ pl < 0 ∧ pl ≤ 20)) (hx0 : ¬ (r_X4_isFull σ = 0)) (hlf : l.stackTraces = false) : Met l yL_docks wsL_docks ({ frames := 8, cells := 1, slots := 6, locals := 124 }) (PcO D cI a sz σ [.ref (a 0), .int st, .int pl]) (QiW D 29 a (wX cI a) sz (-99999999) σ) 1 6 (AX 29 a sz) := by
  refine o_of (cc := cL_docks) (maxL := 4) (ret := some .int) (hh := [(0, 7, 8, 14), (0, 7, 12, 17), (0, 7, 16, 23)]) (C := RL) rfl (by decide) rfl (Nat.le_of_ble_eq_true rfl) (fun p e s m below meth c hx hb hr hml hlk hts hown hsz ht hE hEC H hP hS hG ls hl => ?_)
  have hl : lv_has ls 4 [(0, .ref (a 0)), (1, .int st), (2, .int pl)] := hl
  refine lv_aload_n hx hb dL_docks_0 rfl (lv_at hl 0 rfl) ?_
  refine lv_iload_n hx hb dL_docks_1 rfl (lv_at hl 1 rfl) ?_
  refine lv_iload_n hx hb dL_docks_2 rfl (lv_at hl 2 rfl) ?_
  refine o_catVv (E0 := "java/lang/IllegalStateException") (hpc := 16) (σ := σ) (As := [.int st, .int pl]) (rest := []) ⟨hx, hb, hml, hown, hts⟩ hG hP hS hsz hE (xc_X5_docks_x11 l D cI a H.size σ st pl hs hu1 hx0 hlf) (cwV 2 hts gL_docks_X5_docks rfl rfl rfl (by decide +kernel) ⟨Nat.le_of_ble_eq_true rfl, Nat.le_of_ble_eq_true rfl⟩) rfl hl.1 rfl (Nat.le_of_ble_eq_true rfl) ⟨Nat.le_of_ble_eq_true rfl, Nat.le_of_ble_eq_true rfl⟩ dL_docks_3 [⟨0, 7, 8, 14⟩, ⟨0, 7, 12, 17⟩] ⟨0, 7, 16, 23⟩ [] (by rw [ht]; rfl) (fun z hz => by rcases List.mem_cons.mp hz with rfl | hz; exact Or.inr ⟨by decide, _, (hts _ (List.mem_of_getElem? (i := 1) rfl)), hEC.2.1⟩; cases List.mem_singleton.mp hz; exact Or.inr ⟨by decide, _, (hts _ (List.mem_of_getElem? (i := 2) rfl)), hEC.2.2⟩) (by decide) (by decide) (hts _ (List.mem_of_getElem? (i := 3) rfl)) (by decide) rfl (fun q9 H locs hP hS => ?_)
  refine lv_astore_n (lv' := [(3, .ref q9), (0, .ref (a 0)), (1, .int st), (2, .int pl)]) hx hb dL_docks_16 rfl hl (by decide) rfl (fun ls hl => ?_)
  refine lv_ldc (v := -99999999) hx hb hown (hts _ (List.mem_of_getElem? (i := 4) rfl)) dL_docks_17 ?_
  exact x_iret (σ := σ) hx hb hr hlk hsz hP hS rfl rfl rfl dL_docks_19
set_option maxHeartbeats 4000000 in
set_option maxRecDepth 100000 in
theorem c_L_put (l : Launch) (D : va_G) (cI : ClassId) (a : Nat → Nat) (sz : Nat) (σ : Sg) (cy : Int32) (st : Int32) (n : Nat) (g : Nat) (hc : vp_in cy 30) (hs : vp_in st 8) (hn : n < 300) (hcn : σ 1 4 = nI n) (hh : hearOK σ 1 cy st (σ 0 5) n g) : Met l yL_put wsL_put ({ frames := 7, cells := 0, slots := 0, locals := 159 }) (PcO D cI a sz σ [.ref (a 0), .int cy, .int st]) (QiW D 29 a (wX cI a) sz (if r_X5_put σ cy st n g = 0 then 0 else 1) (s_X5_put σ cy st n g)) 0 0 (AX 29 a sz) := by
  refine o_of (cc := cL_put) (maxL := 4) (ret := some .int) (hh := [(0, 14, 15, 14), (0, 14, 19, 23)]) (C := RL) rfl (by decide) rfl (Nat.le_of_ble_eq_true rfl) (fun p e s m below meth c hx hb hr hml hlk hts hown hsz ht hE hEC H hP hS hG ls hl => ?_)
  have hl : lv_has ls 4 [(0, .ref (a 0)), (1, .int cy), (2, .int st)] := hl
  refine lv_aload_n hx hb dL_put_0 rfl (lv_at hl 0 rfl) ?_
  refine lv_iload_n hx hb dL_put_1 rfl (lv_at hl 1 rfl) ?_
  refine lv_iload_n hx hb dL_put_2 rfl (lv_at hl 2 rfl) ?_
  refine x_callVi (w := wX cI a) (σ := σ) (σ' := s_X5_put σ cy st n g) (As := [.int cy, .int st]) (rest := []) (q0 := 0) (ci := 5) (C := RX5) ⟨hx, hb, hml, hown, hts⟩ hG hP hS hsz (c_X5_put l D cI a H.size σ cy st n g hc hs hn hcn hh) (cwV 2 hts gL_put_X5_put rfl rfl rfl (by decide +kernel) ⟨Nat.le_of_ble_eq_true rfl, Nat.le_of_ble_eq_true rfl⟩) rfl rfl rfl rfl hl.1 rfl (Nat.le_of_ble_eq_true rfl) ⟨Nat.zero_le _, Nat.zero_le _⟩ dL_put_3 (fun H locs hP hS => ?_)
  by_cases h0 : r_X5_put σ cy st n g = 0
  · refine lv_if_eq (tgt := 13) hx hb dL_put_6 (by decide) (fun _ => ?_) (fun h => absurd h0 h)
    refine lv_iconst (v := 0) hx hb dL_put_13 (by decide) ?_
    exact x_iret (σ := s_X5_put σ cy st n g) hx hb hr hlk hsz hP hS rfl (by rw [if_pos h0]) rfl dL_put_14
  · refine lv_if_eq (tgt := 13) hx hb dL_put_6 (by decide) (fun h => absurd h h0) (fun _ => ?_)
    refine lv_iconst (v := 1) hx hb dL_put_9 (by decide) ?_
    refine lv_goto (tgt := 14) hx hb dL_put_10 (by decide) ?_
    exact x_iret (σ := s_X5_put σ cy st n g) hx hb hr hlk hsz hP hS rfl (by rw [if_neg h0]) rfl dL_put_14
set_option maxHeartbeats 4000000 in
set_option maxRecDepth 100000 in
theorem c_L_put_x1 (l : Launch) (D : va_G) (cI : ClassId) (a : Nat → Nat) (sz : Nat) (σ : Sg) (cy : Int32) (st : Int32) (hx0 : ¬ (vp_in cy 30)) (hlf : l.stackTraces = false) : Met l yL_put wsL_put ({ frames := 8, cells := 1, slots := 6, locals := 124 }) (PcO D cI a sz σ [.ref (a 0), .int cy, .int st]) (QiW D 29 a (wX cI a) sz (-99999999) σ) 1 6 (AX 29 a sz) := by
  refine o_of (cc := cL_put) (maxL := 4) (ret := some .int) (hh := [(0, 14, 15, 14), (0, 14, 19, 23)]) (C := RL) rfl (by decide) rfl (Nat.le_of_ble_eq_true rfl) (fun p e s m below meth c hx hb hr hml hlk hts hown hsz ht hE hEC H hP hS hG ls hl => ?_)
  have hl : lv_has ls 4 [(0, .ref (a 0)), (1, .int cy), (2, .int st)] := hl
  refine lv_aload_n hx hb dL_put_0 rfl (lv_at hl 0 rfl) ?_
  refine lv_iload_n hx hb dL_put_1 rfl (lv_at hl 1 rfl) ?_
  refine lv_iload_n hx hb dL_put_2 rfl (lv_at hl 2 rfl) ?_
  refine o_catVi (E0 := "java/lang/IndexOutOfBoundsException") (hpc := 15) (σ := σ) (As := [.int cy, .int st]) (rest := []) ⟨hx, hb, hml, hown, hts⟩ hG hP hS hsz hE (xc_X5_put_x1 l D cI a H.size σ cy st hx0 hlf) (cwV 2 hts gL_put_X5_put rfl rfl rfl (by decide +kernel) ⟨Nat.le_of_ble_eq_true rfl, Nat.le_of_ble_eq_true rfl⟩) rfl hl.1 rfl (Nat.le_of_ble_eq_true rfl) ⟨Nat.le_of_ble_eq_true rfl, Nat.le_of_ble_eq_true rfl⟩ dL_put_3 [] ⟨0, 14, 15, 14⟩ [⟨0, 14, 19, 23⟩] (by rw [ht]; rfl) (fun z hz => nomatch hz) (by decide) (by decide) (hts _ (List.mem_of_getElem? (i := 1) rfl)) (by decide) rfl (fun q9 H locs hP hS => ?_)
  refine lv_astore_n (lv' := [(3, .ref q9), (0, .ref (a 0)), (1, .int cy), (2, .int st)]) hx hb dL_put_15 rfl hl (by decide) rfl (fun ls hl => ?_)
  refine lv_ldc (v := -99999999) hx hb hown (hts _ (List.mem_of_getElem? (i := 3) rfl)) dL_put_16 ?_
  exact x_iret (σ := σ) hx hb hr hlk hsz hP hS rfl rfl rfl dL_put_18
set_option maxHeartbeats 4000000 in
set_option maxRecDepth 100000 in
theorem c_L_put_x5 (l : Launch) (D : va_G) (cI : ClassId) (a : Nat → Nat) (sz : Nat) (σ : Sg) (cy : Int32) (st : Int32) (hc : vp_in cy 30) (hx0 : ¬ (vp_in st 8)) (hlf : l.stackTraces = false) : Met l yL_put wsL_put ({ frames := 8, cells := 1, slots := 6, locals := 124 }) (PcO D cI a sz σ [.ref (a 0), .int cy, .int st]) (QiW D 29 a (wX cI a) sz (-99999999) σ) 1 6 (AX 29 a sz) := by
  refine o_of (cc := cL_put) (maxL := 4) (ret := some .int) (hh := [(0, 14, 15, 14), (0, 14, 19, 23)]) (C := RL) rfl (by decide) rfl (Nat.le_of_ble_eq_true rfl) (fun p e s m below meth c hx hb hr hml hlk hts hown hsz ht hE hEC H hP hS hG ls hl => ?_)
  have hl : lv_has ls 4 [(0, .ref (a 0)), (1, .int cy), (2, .int st)] := hl
  refine lv_aload_n hx hb dL_put_0 rfl (lv_at hl 0 rfl) ?_
  refine lv_iload_n hx hb dL_put_1 rfl (lv_at hl 1 rfl) ?_
  refine lv_iload_n hx hb dL_put_2 rfl (lv_at hl 2 rfl) ?_
  refine o_catVi (E0 := "java/lang/IndexOutOfBoundsException") (hpc := 15) (σ := σ) (As := [.int cy, .int st]) (rest := []) ⟨hx, hb, hml, hown, hts⟩ hG hP hS hsz hE (xc_X5_put_x5 l D cI a H.size σ cy st hc hx0 hlf) (cwV 2 hts gL_put_X5_put rfl rfl rfl (by decide +kernel) ⟨Nat.le_of_ble_eq_true rfl, Nat.le_of_ble_eq_true rfl⟩) rfl hl.1 rfl (Nat.le_of_ble_eq_true rfl) ⟨Nat.le_of_ble_eq_true rfl, Nat.le_of_ble_eq_true rfl⟩ dL_put_3 [] ⟨0, 14, 15, 14⟩ [⟨0, 14, 19, 23⟩] (by rw [ht]; rfl) (fun z hz => nomatch hz) (by decide) (by decide) (hts _ (List.mem_of_getElem? (i := 1) rfl)) (by decide) rfl (fun q9 H locs hP hS => ?_)
  refine lv_astore_n (lv' := [(3, .ref q9), (0, .ref (a 0)), (1, .int cy), (2, .int st)]) hx hb dL_put_15 rfl hl (by decide) rfl (fun ls hl => ?_)
  refine lv_ldc (v := -99999999) hx hb hown (hts _ (List.mem_of_getElem? (i := 3) rfl)) dL_put_16 ?_
  exact x_iret (σ := σ) hx hb hr hlk hsz hP hS rfl rfl rfl dL_put_18
set_option maxHeartbeats 4000000 in
set_option maxRecDepth 100000 in
theorem c_L_put_x9 (l : Launch) (D : va_G) (cI : ClassId) (a : Nat → Nat) (sz : Nat) (σ : Sg) (cy : Int32) (st : Int32) (hc : vp_in cy 30) (hs : vp_in st 8) (hx0 : ¬ (r_X4_isFull σ = 0)) (hlf : l.stackTraces = false) : Met l yL_put wsL_put ({ frames := 8, cells := 1, slots := 6, locals := 124 }) (PcO D cI a sz σ [.ref (a 0), .int cy, .int st]) (QiW D 29 a (wX cI a) sz (-99999999) σ) 1 6 (AX 29 a sz) := by
  refine o_of (cc := cL_put) (maxL := 4) (ret := some .int) (hh := [(0, 14, 15, 14), (0, 14, 19, 23)]) (C := RL) rfl (by decide) rfl (Nat.le_of_ble_eq_true rfl) (fun p e s m below meth c hx hb hr hml hlk hts hown hsz ht hE hEC H hP hS hG ls hl => ?_)
  have hl : lv_has ls 4 [(0, .ref (a 0)), (1, .int cy), (2, .int st)] := hl
  refine lv_aload_n hx hb dL_put_0 rfl (lv_at hl 0 rfl) ?_
  refine lv_iload_n hx hb dL_put_1 rfl (lv_at hl 1 rfl) ?_
  refine lv_iload_n hx hb dL_put_2 rfl (lv_at hl 2 rfl) ?_
  refine o_catVi (E0 := "java/lang/IllegalStateException") (hpc := 19) (σ := σ) (As := [.int cy, .int st]) (rest := []) ⟨hx, hb, hml, hown, hts⟩ hG hP hS hsz hE (xc_X5_put_x9 l D cI a H.size σ cy st hc hs hx0 hlf) (cwV 2 hts gL_put_X5_put rfl rfl rfl (by decide +kernel) ⟨Nat.le_of_ble_eq_true rfl, Nat.le_of_ble_eq_true rfl⟩) rfl hl.1 rfl (Nat.le_of_ble_eq_true rfl) ⟨Nat.le_of_ble_eq_true rfl, Nat.le_of_ble_eq_true rfl⟩ dL_put_3 [⟨0, 14, 15, 14⟩] ⟨0, 14, 19, 23⟩ [] (by rw [ht]; rfl) (fun z hz => by cases List.mem_singleton.mp hz; exact Or.inr ⟨by decide, _, (hts _ (List.mem_of_getElem? (i := 1) rfl)), hEC.2.1⟩) (by decide) (by decide) (hts _ (List.mem_of_getElem? (i := 2) rfl)) (by decide) rfl (fun q9 H locs hP hS => ?_)
  refine lv_astore_n (lv' := [(3, .ref q9), (0, .ref (a 0)), (1, .int cy), (2, .int st)]) hx hb dL_put_19 rfl hl (by decide) rfl (fun ls hl => ?_)
  refine lv_ldc (v := -99999999) hx hb hown (hts _ (List.mem_of_getElem? (i := 3) rfl)) dL_put_20 ?_
  exact x_iret (σ := σ) hx hb hr hlk hsz hP hS rfl rfl rfl dL_put_22
set_option maxHeartbeats 4000000 in
set_option maxRecDepth 100000 in
theorem c_L_take (l : Launch) (D : va_G) (cI : ClassId) (a : Nat → Nat) (sz : Nat) (σ : Sg) (cy : Int32) (n : Nat) (g : Nat) (hc : vp_in cy 30) (hn : n < 300) (hcn : σ 1 4 = nI n) (hh : hearOK σ 2 cy (-1) (σ 0 5) n g) : Met l yL_take wsL_take ({ frames := 7, cells := 0, slots := 0, locals := 158 }) (PcO D cI a sz σ [.ref (a 0), .int cy]) (QiW D 29 a (wX cI a) sz (if r_X5_take σ cy n g = 0 then 0 else 1) (s_X5_take σ cy n g)) 0 0 (AX 29 a sz) := by
  refine o_of (cc := cL_take) (maxL := 3) (ret := some .int) (hh := [(0, 13, 14, 14), (0, 13, 18, 23)]) (C := RL) rfl (by decide) rfl (Nat.le_of_ble_eq_true rfl) (fun p e s m below meth c hx hb hr hml hlk hts hown hsz ht hE hEC H hP hS hG ls hl => ?_)
  have hl : lv_has ls 3 [(0, .ref (a 0)), (1, .int cy)] := hl
  refine lv_aload_n hx hb dL_take_0 rfl (lv_at hl 0 rfl) ?_
  refine lv_iload_n hx hb dL_take_1 rfl (lv_at hl 1 rfl) ?_
  refine x_callVi (w := wX cI a) (σ := σ) (σ' := s_X5_take σ cy n g) (As := [.int cy]) (rest := []) (q0 := 0) (ci := 5) (C := RX5) ⟨hx, hb, hml, hown, hts⟩ hG hP hS hsz (c_X5_take l D cI a H.size σ cy n g hc hn hcn hh) (cwV 1 hts gL_take_X5_take rfl rfl rfl (by decide +kernel) ⟨Nat.le_of_ble_eq_true rfl, Nat.le_of_ble_eq_true rfl⟩) rfl rfl rfl rfl hl.1 rfl (Nat.le_of_ble_eq_true rfl) ⟨Nat.zero_le _, Nat.zero_le _⟩ dL_take_2 (fun H locs hP hS => ?_)
  by_cases h0 : r_X5_take σ cy n g = 0
  · refine lv_if_eq (tgt := 12) hx hb dL_take_5 (by decide) (fun _ => ?_) (fun h => absurd h0 h)
    refine lv_iconst (v := 0) hx hb dL_take_12 (by decide) ?_
    exact x_iret (σ := s_X5_take σ cy n g) hx hb hr hlk hsz hP hS rfl (by rw [if_pos h0]) rfl dL_take_13
  · refine lv_if_eq (tgt := 12) hx hb dL_take_5 (by decide) (fun h => absurd h h0) (fun _ => ?_)
    refine lv_iconst (v := 1) hx hb dL_take_8 (by decide) ?_
    refine lv_goto (tgt := 13) hx hb dL_take_9 (by decide) ?_
    exact x_iret (σ := s_X5_take σ cy n g) hx hb hr hlk hsz hP hS rfl (by rw [if_neg h0]) rfl dL_take_13
set_option maxHeartbeats 4000000 in
set_option maxRecDepth 100000 in
theorem c_L_take_x1 (l : Launch) (D : va_G) (cI : ClassId) (a : Nat → Nat) (sz : Nat) (σ : Sg) (cy : Int32) (hx0 : ¬ (vp_in cy 30)) (hlf : l.stackTraces = false) : Met l yL_take wsL_take ({ frames := 8, cells := 1, slots := 6, locals := 123 }) (PcO D cI a sz σ [.ref (a 0), .int cy]) (QiW D 29 a (wX cI a) sz (-99999999) σ) 1 6 (AX 29 a sz) := by
  refine o_of (cc := cL_take) (maxL := 3) (ret := some .int) (hh := [(0, 13, 14, 14), (0, 13, 18, 23)]) (C := RL) rfl (by decide) rfl (Nat.le_of_ble_eq_true rfl) (fun p e s m below meth c hx hb hr hml hlk hts hown hsz ht hE hEC H hP hS hG ls hl => ?_)
  have hl : lv_has ls 3 [(0, .ref (a 0)), (1, .int cy)] := hl
  refine lv_aload_n hx hb dL_take_0 rfl (lv_at hl 0 rfl) ?_
  refine lv_iload_n hx hb dL_take_1 rfl (lv_at hl 1 rfl) ?_
  refine o_catVi (E0 := "java/lang/IndexOutOfBoundsException") (hpc := 14) (σ := σ) (As := [.int cy]) (rest := []) ⟨hx, hb, hml, hown, hts⟩ hG hP hS hsz hE (xc_X5_take_x1 l D cI a H.size σ cy hx0 hlf) (cwV 1 hts gL_take_X5_take rfl rfl rfl (by decide +kernel) ⟨Nat.le_of_ble_eq_true rfl, Nat.le_of_ble_eq_true rfl⟩) rfl hl.1 rfl (Nat.le_of_ble_eq_true rfl) ⟨Nat.le_of_ble_eq_true rfl, Nat.le_of_ble_eq_true rfl⟩ dL_take_2 [] ⟨0, 13, 14, 14⟩ [⟨0, 13, 18, 23⟩] (by rw [ht]; rfl) (fun z hz => nomatch hz) (by decide) (by decide) (hts _ (List.mem_of_getElem? (i := 1) rfl)) (by decide) rfl (fun q9 H locs hP hS => ?_)
  refine lv_astore_n (lv' := [(2, .ref q9), (0, .ref (a 0)), (1, .int cy)]) hx hb dL_take_14 rfl hl (by decide) rfl (fun ls hl => ?_)
  refine lv_ldc (v := -99999999) hx hb hown (hts _ (List.mem_of_getElem? (i := 3) rfl)) dL_take_15 ?_
  exact x_iret (σ := σ) hx hb hr hlk hsz hP hS rfl rfl rfl dL_take_17
set_option maxHeartbeats 4000000 in
set_option maxRecDepth 100000 in
theorem c_L_take_x5 (l : Launch) (D : va_G) (cI : ClassId) (a : Nat → Nat) (sz : Nat) (σ : Sg) (cy : Int32) (hc : vp_in cy 30) (hx0 : ¬ (r_X4_isFull σ = 0)) (hlf : l.stackTraces = false) : Met l yL_take wsL_take ({ frames := 8, cells := 1, slots := 6, locals := 123 }) (PcO D cI a sz σ [.ref (a 0), .int cy]) (QiW D 29 a (wX cI a) sz (-99999999) σ) 1 6 (AX 29 a sz) := by
  refine o_of (cc := cL_take) (maxL := 3) (ret := some .int) (hh := [(0, 13, 14, 14), (0, 13, 18, 23)]) (C := RL) rfl (by decide) rfl (Nat.le_of_ble_eq_true rfl) (fun p e s m below meth c hx hb hr hml hlk hts hown hsz ht hE hEC H hP hS hG ls hl => ?_)
  have hl : lv_has ls 3 [(0, .ref (a 0)), (1, .int cy)] := hl
  refine lv_aload_n hx hb dL_take_0 rfl (lv_at hl 0 rfl) ?_
  refine lv_iload_n hx hb dL_take_1 rfl (lv_at hl 1 rfl) ?_
  refine o_catVi (E0 := "java/lang/IllegalStateException") (hpc := 18) (σ := σ) (As := [.int cy]) (rest := []) ⟨hx, hb, hml, hown, hts⟩ hG hP hS hsz hE (xc_X5_take_x5 l D cI a H.size σ cy hc hx0 hlf) (cwV 1 hts gL_take_X5_take rfl rfl rfl (by decide +kernel) ⟨Nat.le_of_ble_eq_true rfl, Nat.le_of_ble_eq_true rfl⟩) rfl hl.1 rfl (Nat.le_of_ble_eq_true rfl) ⟨Nat.le_of_ble_eq_true rfl, Nat.le_of_ble_eq_true rfl⟩ dL_take_2 [⟨0, 13, 14, 14⟩] ⟨0, 13, 18, 23⟩ [] (by rw [ht]; rfl) (fun z hz => by cases List.mem_singleton.mp hz; exact Or.inr ⟨by decide, _, (hts _ (List.mem_of_getElem? (i := 1) rfl)), hEC.2.1⟩) (by decide) (by decide) (hts _ (List.mem_of_getElem? (i := 2) rfl)) (by decide) rfl (fun q9 H locs hP hS => ?_)
  refine lv_astore_n (lv' := [(2, .ref q9), (0, .ref (a 0)), (1, .int cy)]) hx hb dL_take_18 rfl hl (by decide) rfl (fun ls hl => ?_)
  refine lv_ldc (v := -99999999) hx hb hown (hts _ (List.mem_of_getElem? (i := 3) rfl)) dL_take_19 ?_
  exact x_iret (σ := σ) hx hb hr hlk hsz hP hS rfl rfl rfl dL_take_21
set_option maxHeartbeats 4000000 in
set_option maxRecDepth 100000 in
theorem c_L_unlocked (l : Launch) (D : va_G) (cI : ClassId) (a : Nat → Nat) (sz : Nat) (σ : Sg) (cy : Int32) (ri : Int32) (wh : Int32) (n : Nat) (g : Nat) (hc : vp_in cy 30) (hr1 : vp_in ri 10) (hv : hW σ wh) (hn : n < 300) (hcn : σ 1 4 = nI n) (hh : r_X4_tells σ 3 cy ri wh n = 0 → hearOK σ 3 cy ri wh n g) : Met l yL_unlocked wsL_unlocked ({ frames := 8, cells := 0, slots := 0, locals := 184 }) (PcO D cI a sz σ [.ref (a 0), .int cy, .int ri, .int wh]) (QiW D 29 a (wX cI a) sz (if r_X5_unlocked σ cy ri wh n g = 0 then 0 else 1) (s_X5_unlocked σ cy ri wh n g)) 0 0 (AX 29 a sz) := by
  refine o_of (cc := cL_unlocked) (maxL := 5) (ret := some .int) (hh := [(0, 15, 16, 14), (0, 15, 21, 17), (0, 15, 26, 23)]) (C := RL) rfl (by decide) rfl (Nat.le_of_ble_eq_true rfl) (fun p e s m below meth c hx hb hr hml hlk hts hown hsz ht hE hEC H hP hS hG ls hl => ?_)
  have hl : lv_has ls 5 [(0, .ref (a 0)), (1, .int cy), (2, .int ri), (3, .int wh)] := hl
  refine lv_aload_n hx hb dL_unlocked_0 rfl (lv_at hl 0 rfl) ?_
  refine lv_iload_n hx hb dL_unlocked_1 rfl (lv_at hl 1 rfl) ?_
  refine lv_iload_n hx hb dL_unlocked_2 rfl (lv_at hl 2 rfl) ?_
  refine lv_iload_n hx hb dL_unlocked_3 rfl (lv_at hl 3 rfl) ?_
  refine x_callVi (w := wX cI a) (σ := σ) (σ' := s_X5_unlocked σ cy ri wh n g) (As := [.int cy, .int ri, .int wh]) (rest := []) (q0 := 0) (ci := 5) (C := RX5) ⟨hx, hb, hml, hown, hts⟩ hG hP hS hsz (c_X5_unlocked l D cI a H.size σ cy ri wh n g hc hr1 hv hn hcn hh) (cwV 3 hts gL_unlocked_X5_unlocked rfl rfl rfl (by decide +kernel) ⟨Nat.le_of_ble_eq_true rfl, Nat.le_of_ble_eq_true rfl⟩) rfl rfl rfl rfl hl.1 rfl (Nat.le_of_ble_eq_true rfl) ⟨Nat.zero_le _, Nat.zero_le _⟩ dL_unlocked_4 (fun H locs hP hS => ?_)
  by_cases h0 : r_X5_unlocked σ cy ri wh n g = 0
  · refine lv_if_eq (tgt := 14) hx hb dL_unlocked_7 (by decide) (fun _ => ?_) (fun h => absurd h0 h)
    refine lv_iconst (v := 0) hx hb dL_unlocked_14 (by decide) ?_
    exact x_iret (σ := s_X5_unlocked σ cy ri wh n g) hx hb hr hlk hsz hP hS rfl (by rw [if_pos h0]) rfl dL_unlocked_15
  · refine lv_if_eq (tgt := 14) hx hb dL_unlocked_7 (by decide) (fun h => absurd h h0) (fun _ => ?_)
    refine lv_iconst (v := 1) hx hb dL_unlocked_10 (by decide) ?_
    refine lv_goto (tgt := 15) hx hb dL_unlocked_11 (by decide) ?_
    exact x_iret (σ := s_X5_unlocked σ cy ri wh n g) hx hb hr hlk hsz hP hS rfl (by rw [if_neg h0]) rfl dL_unlocked_15
set_option maxHeartbeats 4000000 in
set_option maxRecDepth 100000 in
theorem c_L_unlocked_x1 (l : Launch) (D : va_G) (cI : ClassId) (a : Nat → Nat) (sz : Nat) (σ : Sg) (cy : Int32) (ri : Int32) (wh : Int32) (hx0 : ¬ (vp_in cy 30)) (hlf : l.stackTraces = false) : Met l yL_unlocked wsL_unlocked ({ frames := 8, cells := 1, slots := 6, locals := 125 }) (PcO D cI a sz σ [.ref (a 0), .int cy, .int ri, .int wh]) (QiW D 29 a (wX cI a) sz (-99999999) σ) 1 6 (AX 29 a sz) := by
  refine o_of (cc := cL_unlocked) (maxL := 5) (ret := some .int) (hh := [(0, 15, 16, 14), (0, 15, 21, 17), (0, 15, 26, 23)]) (C := RL) rfl (by decide) rfl (Nat.le_of_ble_eq_true rfl) (fun p e s m below meth c hx hb hr hml hlk hts hown hsz ht hE hEC H hP hS hG ls hl => ?_)
  have hl : lv_has ls 5 [(0, .ref (a 0)), (1, .int cy), (2, .int ri), (3, .int wh)] := hl
  refine lv_aload_n hx hb dL_unlocked_0 rfl (lv_at hl 0 rfl) ?_
  refine lv_iload_n hx hb dL_unlocked_1 rfl (lv_at hl 1 rfl) ?_
  refine lv_iload_n hx hb dL_unlocked_2 rfl (lv_at hl 2 rfl) ?_
  refine lv_iload_n hx hb dL_unlocked_3 rfl (lv_at hl 3 rfl) ?_
  refine o_catVi (E0 := "java/lang/IndexOutOfBoundsException") (hpc := 16) (σ := σ) (As := [.int cy, .int ri, .int wh]) (rest := []) ⟨hx, hb, hml, hown, hts⟩ hG hP hS hsz hE (xc_X5_unlocked_x1 l D cI a H.size σ cy ri wh hx0 hlf) (cwV 3 hts gL_unlocked_X5_unlocked rfl rfl rfl (by decide +kernel) ⟨Nat.le_of_ble_eq_true rfl, Nat.le_of_ble_eq_true rfl⟩) rfl hl.1 rfl (Nat.le_of_ble_eq_true rfl) ⟨Nat.le_of_ble_eq_true rfl, Nat.le_of_ble_eq_true rfl⟩ dL_unlocked_4 [] ⟨0, 15, 16, 14⟩ [⟨0, 15, 21, 17⟩, ⟨0, 15, 26, 23⟩] (by rw [ht]; rfl) (fun z hz => nomatch hz) (by decide) (by decide) (hts _ (List.mem_of_getElem? (i := 1) rfl)) (by decide) rfl (fun q9 H locs hP hS => ?_)
  refine lv_astore (lv' := [(4, .ref q9), (0, .ref (a 0)), (1, .int cy), (2, .int ri), (3, .int wh)]) hx hb dL_unlocked_16 hl (by decide) rfl (fun ls hl => ?_)
  refine lv_ldc (v := -99999999) hx hb hown (hts _ (List.mem_of_getElem? (i := 4) rfl)) dL_unlocked_18 ?_
  exact x_iret (σ := σ) hx hb hr hlk hsz hP hS rfl rfl rfl dL_unlocked_20
set_option maxHeartbeats 4000000 in
set_option maxRecDepth 100000 in
theorem c_L_unlocked_x5 (l : Launch) (D : va_G) (cI : ClassId) (a : Nat → Nat) (sz : Nat) (σ : Sg) (cy : Int32) (ri : Int32) (wh : Int32) (hc : vp_in cy 30) (hx0 : ¬ (vp_in ri 10)) (hlf : l.stackTraces = false) : Met l yL_unlocked wsL_unlocked ({ frames := 8, cells := 1, slots := 6, locals := 125 }) (PcO D cI a sz σ [.ref (a 0), .int cy, .int ri, .int wh]) (QiW D 29 a (wX cI a) sz (-99999999) σ) 1 6 (AX 29 a sz) := by
  refine o_of (cc := cL_unlocked) (maxL := 5) (ret := some .int) (hh := [(0, 15, 16, 14), (0, 15, 21, 17), (0, 15, 26, 23)]) (C := RL) rfl (by decide) rfl (Nat.le_of_ble_eq_true rfl) (fun p e s m below meth c hx hb hr hml hlk hts hown hsz ht hE hEC H hP hS hG ls hl => ?_)
  have hl : lv_has ls 5 [(0, .ref (a 0)), (1, .int cy), (2, .int ri), (3, .int wh)] := hl
  refine lv_aload_n hx hb dL_unlocked_0 rfl (lv_at hl 0 rfl) ?_
  refine lv_iload_n hx hb dL_unlocked_1 rfl (lv_at hl 1 rfl) ?_
  refine lv_iload_n hx hb dL_unlocked_2 rfl (lv_at hl 2 rfl) ?_
  refine lv_iload_n hx hb dL_unlocked_3 rfl (lv_at hl 3 rfl) ?_
  refine o_catVi (E0 := "java/lang/IndexOutOfBoundsException") (hpc := 16) (σ := σ) (As := [.int cy, .int ri, .int wh]) (rest := []) ⟨hx, hb, hml, hown, hts⟩ hG hP hS hsz hE (xc_X5_unlocked_x5 l D cI a H.size σ cy ri wh hc hx0 hlf) (cwV 3 hts gL_unlocked_X5_unlocked rfl rfl rfl (by decide +kernel) ⟨Nat.le_of_ble_eq_true rfl, Nat.le_of_ble_eq_true rfl⟩) rfl hl.1 rfl (Nat.le_of_ble_eq_true rfl) ⟨Nat.le_of_ble_eq_true rfl, Nat.le_of_ble_eq_true rfl⟩ dL_unlocked_4 [] ⟨0, 15, 16, 14⟩ [⟨0, 15, 21, 17⟩, ⟨0, 15, 26, 23⟩] (by rw [ht]; rfl) (fun z hz => nomatch hz) (by decide) (by decide) (hts _ (List.mem_of_getElem? (i := 1) rfl)) (by decide) rfl (fun q9 H locs hP hS => ?_)
  refine lv_astore (lv' := [(4, .ref q9), (0, .ref (a 0)), (1, .int cy), (2, .int ri), (3, .int wh)]) hx hb dL_unlocked_16 hl (by decide) rfl (fun ls hl => ?_)
  refine lv_ldc (v := -99999999) hx hb hown (hts _ (List.mem_of_getElem? (i := 4) rfl)) dL_unlocked_18 ?_
  exact x_iret (σ := σ) hx hb hr hlk hsz hP hS rfl rfl rfl dL_unlocked_20
set_option maxHeartbeats 4000000 in
set_option maxRecDepth 100000 in
theorem c_L_unlocked_x10 (l : Launch) (D : va_G) (cI : ClassId) (a : Nat → Nat) (sz : Nat) (σ : Sg) (cy : Int32) (ri : Int32) (wh : Int32) (hc : vp_in cy 30) (hr1 : vp_in ri 10) (hx0 : ¬ (hW σ wh)) (hlf : l.stackTraces = false) : Met l yL_unlocked wsL_unlocked ({ frames := 8, cells := 1, slots := 6, locals := 126 }) (PcO D cI a sz σ [.ref (a 0), .int cy, .int ri, .int wh]) (QiW D 29 a (wX cI a) sz (-99999999) σ) 1 6 (AX 29 a sz) := by
  refine o_of (cc := cL_unlocked) (maxL := 5) (ret := some .int) (hh := [(0, 15, 16, 14), (0, 15, 21, 17), (0, 15, 26, 23)]) (C := RL) rfl (by decide) rfl (Nat.le_of_ble_eq_true rfl) (fun p e s m below meth c hx hb hr hml hlk hts hown hsz ht hE hEC H hP hS hG ls hl => ?_)
  have hl : lv_has ls 5 [(0, .ref (a 0)), (1, .int cy), (2, .int ri), (3, .int wh)] := hl
  refine lv_aload_n hx hb dL_unlocked_0 rfl (lv_at hl 0 rfl) ?_
  refine lv_iload_n hx hb dL_unlocked_1 rfl (lv_at hl 1 rfl) ?_
  refine lv_iload_n hx hb dL_unlocked_2 rfl (lv_at hl 2 rfl) ?_
  refine lv_iload_n hx hb dL_unlocked_3 rfl (lv_at hl 3 rfl) ?_
  refine o_catVi (E0 := "java/lang/IllegalArgumentException") (hpc := 21) (σ := σ) (As := [.int cy, .int ri, .int wh]) (rest := []) ⟨hx, hb, hml, hown, hts⟩ hG hP hS hsz hE (xc_X5_unlocked_x10 l D cI a H.size σ cy ri wh hc hr1 hx0 hlf) (cwV 3 hts gL_unlocked_X5_unlocked rfl rfl rfl (by decide +kernel) ⟨Nat.le_of_ble_eq_true rfl, Nat.le_of_ble_eq_true rfl⟩) rfl hl.1 rfl (Nat.le_of_ble_eq_true rfl) ⟨Nat.le_of_ble_eq_true rfl, Nat.le_of_ble_eq_true rfl⟩ dL_unlocked_4 [⟨0, 15, 16, 14⟩] ⟨0, 15, 21, 17⟩ [⟨0, 15, 26, 23⟩] (by rw [ht]; rfl) (fun z hz => by cases List.mem_singleton.mp hz; exact Or.inr ⟨by decide, _, (hts _ (List.mem_of_getElem? (i := 1) rfl)), hEC.1⟩) (by decide) (by decide) (hts _ (List.mem_of_getElem? (i := 2) rfl)) (by decide) rfl (fun q9 H locs hP hS => ?_)
  refine lv_astore (lv' := [(4, .ref q9), (0, .ref (a 0)), (1, .int cy), (2, .int ri), (3, .int wh)]) hx hb dL_unlocked_21 hl (by decide) rfl (fun ls hl => ?_)
  refine lv_ldc (v := -99999999) hx hb hown (hts _ (List.mem_of_getElem? (i := 4) rfl)) dL_unlocked_23 ?_
  exact x_iret (σ := σ) hx hb hr hlk hsz hP hS rfl rfl rfl dL_unlocked_25
set_option maxHeartbeats 4000000 in
set_option maxRecDepth 100000 in
theorem c_L_unlocked_x14 (l : Launch) (D : va_G) (cI : ClassId) (a : Nat → Nat) (sz : Nat) (σ : Sg) (cy : Int32) (ri : Int32) (wh : Int32) (hc : vp_in cy 30) (hr1 : vp_in ri 10) (hv : hW σ wh) (hx0 : ¬ (r_X4_isFull σ = 0)) (hlf : l.stackTraces = false) : Met l yL_unlocked wsL_unlocked ({ frames := 8, cells := 1, slots := 6, locals := 125 }) (PcO D cI a sz σ [.ref (a 0), .int cy, .int ri, .int wh]) (QiW D 29 a (wX cI a) sz (-99999999) σ) 1 6 (AX 29 a sz) := by
  refine o_of (cc := cL_unlocked) (maxL := 5) (ret := some .int) (hh := [(0, 15, 16, 14), (0, 15, 21, 17), (0, 15, 26, 23)]) (C := RL) rfl (by decide) rfl (Nat.le_of_ble_eq_true rfl) (fun p e s m below meth c hx hb hr hml hlk hts hown hsz ht hE hEC H hP hS hG ls hl => ?_)
  have hl : lv_has ls 5 [(0, .ref (a 0)), (1, .int cy), (2, .int ri), (3, .int wh)] := hl
  refine lv_aload_n hx hb dL_unlocked_0 rfl (lv_at hl 0 rfl) ?_
  refine lv_iload_n hx hb dL_unlocked_1 rfl (lv_at hl 1 rfl) ?_
  refine lv_iload_n hx hb dL_unlocked_2 rfl (lv_at hl 2 rfl) ?_
  refine lv_iload_n hx hb dL_unlocked_3 rfl (lv_at hl 3 rfl) ?_
  refine o_catVi (E0 := "java/lang/IllegalStateException") (hpc := 26) (σ := σ) (As := [.int cy, .int ri, .int wh]) (rest := []) ⟨hx, hb, hml, hown, hts⟩ hG hP hS hsz hE (xc_X5_unlocked_x14 l D cI a H.size σ cy ri wh hc hr1 hv hx0 hlf) (cwV 3 hts gL_unlocked_X5_unlocked rfl rfl rfl (by decide +kernel) ⟨Nat.le_of_ble_eq_true rfl, Nat.le_of_ble_eq_true rfl⟩) rfl hl.1 rfl (Nat.le_of_ble_eq_true rfl) ⟨Nat.le_of_ble_eq_true rfl, Nat.le_of_ble_eq_true rfl⟩ dL_unlocked_4 [⟨0, 15, 16, 14⟩, ⟨0, 15, 21, 17⟩] ⟨0, 15, 26, 23⟩ [] (by rw [ht]; rfl) (fun z hz => by rcases List.mem_cons.mp hz with rfl | hz; exact Or.inr ⟨by decide, _, (hts _ (List.mem_of_getElem? (i := 1) rfl)), hEC.2.1⟩; cases List.mem_singleton.mp hz; exact Or.inr ⟨by decide, _, (hts _ (List.mem_of_getElem? (i := 2) rfl)), hEC.2.2⟩) (by decide) (by decide) (hts _ (List.mem_of_getElem? (i := 3) rfl)) (by decide) rfl (fun q9 H locs hP hS => ?_)
  refine lv_astore (lv' := [(4, .ref q9), (0, .ref (a 0)), (1, .int cy), (2, .int ri), (3, .int wh)]) hx hb dL_unlocked_26 hl (by decide) rfl (fun ls hl => ?_)
  refine lv_ldc (v := -99999999) hx hb hown (hts _ (List.mem_of_getElem? (i := 4) rfl)) dL_unlocked_28 ?_
  exact x_iret (σ := σ) hx hb hr hlk hsz hP hS rfl rfl rfl dL_unlocked_30
set_option maxHeartbeats 4000000 in
set_option maxRecDepth 100000 in
theorem c_L_locked (l : Launch) (D : va_G) (cI : ClassId) (a : Nat → Nat) (sz : Nat) (σ : Sg) (cy : Int32) (st : Int32) (wh : Int32) (n : Nat) (g : Nat) (hc : vp_in cy 30) (hs : vp_in st 8) (hv : hW σ wh) (hn : n < 300) (hcn : σ 1 4 = nI n) (hh : r_X4_tells σ 4 cy st wh n = 0 → hearOK σ 4 cy st wh n g) : Met l yL_locked wsL_locked ({ frames := 8, cells := 0, slots := 0, locals := 184 }) (PcO D cI a sz σ [.ref (a 0), .int cy, .int st, .int wh]) (QiW D 29 a (wX cI a) sz (if r_X5_locked σ cy st wh n g = 0 then 0 else 1) (s_X5_locked σ cy st wh n g)) 0 0 (AX 29 a sz) := by
  refine o_of (cc := cL_locked) (maxL := 5) (ret := some .int) (hh := [(0, 15, 16, 14), (0, 15, 21, 17), (0, 15, 26, 23)]) (C := RL) rfl (by decide) rfl (Nat.le_of_ble_eq_true rfl) (fun p e s m below meth c hx hb hr hml hlk hts hown hsz ht hE hEC H hP hS hG ls hl => ?_)
  have hl : lv_has ls 5 [(0, .ref (a 0)), (1, .int cy), (2, .int st), (3, .int wh)] := hl
  refine lv_aload_n hx hb dL_locked_0 rfl (lv_at hl 0 rfl) ?_
  refine lv_iload_n hx hb dL_locked_1 rfl (lv_at hl 1 rfl) ?_
  refine lv_iload_n hx hb dL_locked_2 rfl (lv_at hl 2 rfl) ?_
  refine lv_iload_n hx hb dL_locked_3 rfl (lv_at hl 3 rfl) ?_
  refine x_callVi (w := wX cI a) (σ := σ) (σ' := s_X5_locked σ cy st wh n g) (As := [.int cy, .int st, .int wh]) (rest := []) (q0 := 0) (ci := 5) (C := RX5) ⟨hx, hb, hml, hown, hts⟩ hG hP hS hsz (c_X5_locked l D cI a H.size σ cy st wh n g hc hs hv hn hcn hh) (cwV 3 hts gL_locked_X5_locked rfl rfl rfl (by decide +kernel) ⟨Nat.le_of_ble_eq_true rfl, Nat.le_of_ble_eq_true rfl⟩) rfl rfl rfl rfl hl.1 rfl (Nat.le_of_ble_eq_true rfl) ⟨Nat.zero_le _, Nat.zero_le _⟩ dL_locked_4 (fun H locs hP hS => ?_)
  by_cases h0 : r_X5_locked σ cy st wh n g = 0
  · refine lv_if_eq (tgt := 14) hx hb dL_locked_7 (by decide) (fun _ => ?_) (fun h => absurd h0 h)
    refine lv_iconst (v := 0) hx hb dL_locked_14 (by decide) ?_
    exact x_iret (σ := s_X5_locked σ cy st wh n g) hx hb hr hlk hsz hP hS rfl (by rw [if_pos h0]) rfl dL_locked_15
  · refine lv_if_eq (tgt := 14) hx hb dL_locked_7 (by decide) (fun h => absurd h h0) (fun _ => ?_)
    refine lv_iconst (v := 1) hx hb dL_locked_10 (by decide) ?_
    refine lv_goto (tgt := 15) hx hb dL_locked_11 (by decide) ?_
    exact x_iret (σ := s_X5_locked σ cy st wh n g) hx hb hr hlk hsz hP hS rfl (by rw [if_neg h0]) rfl dL_locked_15
set_option maxHeartbeats 4000000 in
set_option maxRecDepth 100000 in
theorem c_L_locked_x1 (l : Launch) (D : va_G) (cI : ClassId) (a : Nat → Nat) (sz : Nat) (σ : Sg) (cy : Int32) (st : Int32) (wh : Int32) (hx0 : ¬ (vp_in cy 30)) (hlf : l.stackTraces = false) : Met l yL_locked wsL_locked ({ frames := 8, cells := 1, slots := 6, locals := 125 }) (PcO D cI a sz σ [.ref (a 0), .int cy, .int st, .int wh]) (QiW D 29 a (wX cI a) sz (-99999999) σ) 1 6 (AX 29 a sz) := by
  refine o_of (cc := cL_locked) (maxL := 5) (ret := some .int) (hh := [(0, 15, 16, 14), (0, 15, 21, 17), (0, 15, 26, 23)]) (C := RL) rfl (by decide) rfl (Nat.le_of_ble_eq_true rfl) (fun p e s m below meth c hx hb hr hml hlk hts hown hsz ht hE hEC H hP hS hG ls hl => ?_)
  have hl : lv_has ls 5 [(0, .ref (a 0)), (1, .int cy), (2, .int st), (3, .int wh)] := hl
  refine lv_aload_n hx hb dL_locked_0 rfl (lv_at hl 0 rfl) ?_
  refine lv_iload_n hx hb dL_locked_1 rfl (lv_at hl 1 rfl) ?_
  refine lv_iload_n hx hb dL_locked_2 rfl (lv_at hl 2 rfl) ?_
  refine lv_iload_n hx hb dL_locked_3 rfl (lv_at hl 3 rfl) ?_
  refine o_catVi (E0 := "java/lang/IndexOutOfBoundsException") (hpc := 16) (σ := σ) (As := [.int cy, .int st, .int wh]) (rest := []) ⟨hx, hb, hml, hown, hts⟩ hG hP hS hsz hE (xc_X5_locked_x1 l D cI a H.size σ cy st wh hx0 hlf) (cwV 3 hts gL_locked_X5_locked rfl rfl rfl (by decide +kernel) ⟨Nat.le_of_ble_eq_true rfl, Nat.le_of_ble_eq_true rfl⟩) rfl hl.1 rfl (Nat.le_of_ble_eq_true rfl) ⟨Nat.le_of_ble_eq_true rfl, Nat.le_of_ble_eq_true rfl⟩ dL_locked_4 [] ⟨0, 15, 16, 14⟩ [⟨0, 15, 21, 17⟩, ⟨0, 15, 26, 23⟩] (by rw [ht]; rfl) (fun z hz => nomatch hz) (by decide) (by decide) (hts _ (List.mem_of_getElem? (i := 1) rfl)) (by decide) rfl (fun q9 H locs hP hS => ?_)
  refine lv_astore (lv' := [(4, .ref q9), (0, .ref (a 0)), (1, .int cy), (2, .int st), (3, .int wh)]) hx hb dL_locked_16 hl (by decide) rfl (fun ls hl => ?_)
  refine lv_ldc (v := -99999999) hx hb hown (hts _ (List.mem_of_getElem? (i := 4) rfl)) dL_locked_18 ?_
  exact x_iret (σ := σ) hx hb hr hlk hsz hP hS rfl rfl rfl dL_locked_20
set_option maxHeartbeats 4000000 in
set_option maxRecDepth 100000 in
theorem c_L_locked_x5 (l : Launch) (D : va_G) (cI : ClassId) (a : Nat → Nat) (sz : Nat) (σ : Sg) (cy : Int32) (st : Int32) (wh : Int32) (hc : vp_in cy 30) (hx0 : ¬ (vp_in st 8)) (hlf : l.stackTraces = false) : Met l yL_locked wsL_locked ({ frames := 8, cells := 1, slots := 6, locals := 125 }) (PcO D cI a sz σ [.ref (a 0), .int cy, .int st, .int wh]) (QiW D 29 a (wX cI a) sz (-99999999) σ) 1 6 (AX 29 a sz) := by
  refine o_of (cc := cL_locked) (maxL := 5) (ret := some .int) (hh := [(0, 15, 16, 14), (0, 15, 21, 17), (0, 15, 26, 23)]) (C := RL) rfl (by decide) rfl (Nat.le_of_ble_eq_true rfl) (fun p e s m below meth c hx hb hr hml hlk hts hown hsz ht hE hEC H hP hS hG ls hl => ?_)
  have hl : lv_has ls 5 [(0, .ref (a 0)), (1, .int cy), (2, .int st), (3, .int wh)] := hl
  refine lv_aload_n hx hb dL_locked_0 rfl (lv_at hl 0 rfl) ?_
  refine lv_iload_n hx hb dL_locked_1 rfl (lv_at hl 1 rfl) ?_
  refine lv_iload_n hx hb dL_locked_2 rfl (lv_at hl 2 rfl) ?_
  refine lv_iload_n hx hb dL_locked_3 rfl (lv_at hl 3 rfl) ?_
  refine o_catVi (E0 := "java/lang/IndexOutOfBoundsException") (hpc := 16) (σ := σ) (As := [.int cy, .int st, .int wh]) (rest := []) ⟨hx, hb, hml, hown, hts⟩ hG hP hS hsz hE (xc_X5_locked_x5 l D cI a H.size σ cy st wh hc hx0 hlf) (cwV 3 hts gL_locked_X5_locked rfl rfl rfl (by decide +kernel) ⟨Nat.le_of_ble_eq_true rfl, Nat.le_of_ble_eq_true rfl⟩) rfl hl.1 rfl (Nat.le_of_ble_eq_true rfl) ⟨Nat.le_of_ble_eq_true rfl, Nat.le_of_ble_eq_true rfl⟩ dL_locked_4 [] ⟨0, 15, 16, 14⟩ [⟨0, 15, 21, 17⟩, ⟨0, 15, 26, 23⟩] (by rw [ht]; rfl) (fun z hz => nomatch hz) (by decide) (by decide) (hts _ (List.mem_of_getElem? (i := 1) rfl)) (by decide) rfl (fun q9 H locs hP hS => ?_)
  refine lv_astore (lv' := [(4, .ref q9), (0, .ref (a 0)), (1, .int cy), (2, .int st), (3, .int wh)]) hx hb dL_locked_16 hl (by decide) rfl (fun ls hl => ?_)
  refine lv_ldc (v := -99999999) hx hb hown (hts _ (List.mem_of_getElem? (i := 4) rfl)) dL_locked_18 ?_
  exact x_iret (σ := σ) hx hb hr hlk hsz hP hS rfl rfl rfl dL_locked_20
set_option maxHeartbeats 4000000 in
set_option maxRecDepth 100000 in
theorem c_L_locked_x10 (l : Launch) (D : va_G) (cI : ClassId) (a : Nat → Nat) (sz : Nat) (σ : Sg) (cy : Int32) (st : Int32) (wh : Int32) (hc : vp_in cy 30) (hs : vp_in st 8) (hx0 : ¬ (hW σ wh)) (hlf : l.stackTraces = false) : Met l yL_locked wsL_locked ({ frames := 8, cells := 1, slots := 6, locals := 126 }) (PcO D cI a sz σ [.ref (a 0), .int cy, .int st, .int wh]) (QiW D 29 a (wX cI a) sz (-99999999) σ) 1 6 (AX 29 a sz) := by
  refine o_of (cc := cL_locked) (maxL := 5) (ret := some .int) (hh := [(0, 15, 16, 14), (0, 15, 21, 17), (0, 15, 26, 23)]) (C := RL) rfl (by decide) rfl (Nat.le_of_ble_eq_true rfl) (fun p e s m below meth c hx hb hr hml hlk hts hown hsz ht hE hEC H hP hS hG ls hl => ?_)
  have hl : lv_has ls 5 [(0, .ref (a 0)), (1, .int cy), (2, .int st), (3, .int wh)] := hl
  refine lv_aload_n hx hb dL_locked_0 rfl (lv_at hl 0 rfl) ?_
  refine lv_iload_n hx hb dL_locked_1 rfl (lv_at hl 1 rfl) ?_
  refine lv_iload_n hx hb dL_locked_2 rfl (lv_at hl 2 rfl) ?_
  refine lv_iload_n hx hb dL_locked_3 rfl (lv_at hl 3 rfl) ?_
  refine o_catVi (E0 := "java/lang/IllegalArgumentException") (hpc := 21) (σ := σ) (As := [.int cy, .int st, .int wh]) (rest := []) ⟨hx, hb, hml, hown, hts⟩ hG hP hS hsz hE (xc_X5_locked_x10 l D cI a H.size σ cy st wh hc hs hx0 hlf) (cwV 3 hts gL_locked_X5_locked rfl rfl rfl (by decide +kernel) ⟨Nat.le_of_ble_eq_true rfl, Nat.le_of_ble_eq_true rfl⟩) rfl hl.1 rfl (Nat.le_of_ble_eq_true rfl) ⟨Nat.le_of_ble_eq_true rfl, Nat.le_of_ble_eq_true rfl⟩ dL_locked_4 [⟨0, 15, 16, 14⟩] ⟨0, 15, 21, 17⟩ [⟨0, 15, 26, 23⟩] (by rw [ht]; rfl) (fun z hz => by cases List.mem_singleton.mp hz; exact Or.inr ⟨by decide, _, (hts _ (List.mem_of_getElem? (i := 1) rfl)), hEC.1⟩) (by decide) (by decide) (hts _ (List.mem_of_getElem? (i := 2) rfl)) (by decide) rfl (fun q9 H locs hP hS => ?_)
  refine lv_astore (lv' := [(4, .ref q9), (0, .ref (a 0)), (1, .int cy), (2, .int st), (3, .int wh)]) hx hb dL_locked_21 hl (by decide) rfl (fun ls hl => ?_)
  refine lv_ldc (v := -99999999) hx hb hown (hts _ (List.mem_of_getElem? (i := 4) rfl)) dL_locked_23 ?_
  exact x_iret (σ := σ) hx hb hr hlk hsz hP hS rfl rfl rfl dL_locked_25
set_option maxHeartbeats 4000000 in
set_option maxRecDepth 100000 in
theorem c_L_locked_x14 (l : Launch) (D : va_G) (cI : ClassId) (a : Nat → Nat) (sz : Nat) (σ : Sg) (cy : Int32) (st : Int32) (wh : Int32) (hc : vp_in cy 30) (hs : vp_in st 8) (hv : hW σ wh) (hx0 : ¬ (r_X4_isFull σ = 0)) (hlf : l.stackTraces = false) : Met l yL_locked wsL_locked ({ frames := 8, cells := 1, slots := 6, locals := 125 }) (PcO D cI a sz σ [.ref (a 0), .int cy, .int st, .int wh]) (QiW D 29 a (wX cI a) sz (-99999999) σ) 1 6 (AX 29 a sz) := by
  refine o_of (cc := cL_locked) (maxL := 5) (ret := some .int) (hh := [(0, 15, 16, 14), (0, 15, 21, 17), (0, 15, 26, 23)]) (C := RL) rfl (by decide) rfl (Nat.le_of_ble_eq_true rfl) (fun p e s m below meth c hx hb hr hml hlk hts hown hsz ht hE hEC H hP hS hG ls hl => ?_)
  have hl : lv_has ls 5 [(0, .ref (a 0)), (1, .int cy), (2, .int st), (3, .int wh)] := hl
  refine lv_aload_n hx hb dL_locked_0 rfl (lv_at hl 0 rfl) ?_
  refine lv_iload_n hx hb dL_locked_1 rfl (lv_at hl 1 rfl) ?_
  refine lv_iload_n hx hb dL_locked_2 rfl (lv_at hl 2 rfl) ?_
  refine lv_iload_n hx hb dL_locked_3 rfl (lv_at hl 3 rfl) ?_
  refine o_catVi (E0 := "java/lang/IllegalStateException") (hpc := 26) (σ := σ) (As := [.int cy, .int st, .int wh]) (rest := []) ⟨hx, hb, hml, hown, hts⟩ hG hP hS hsz hE (xc_X5_locked_x14 l D cI a H.size σ cy st wh hc hs hv hx0 hlf) (cwV 3 hts gL_locked_X5_locked rfl rfl rfl (by decide +kernel) ⟨Nat.le_of_ble_eq_true rfl, Nat.le_of_ble_eq_true rfl⟩) rfl hl.1 rfl (Nat.le_of_ble_eq_true rfl) ⟨Nat.le_of_ble_eq_true rfl, Nat.le_of_ble_eq_true rfl⟩ dL_locked_4 [⟨0, 15, 16, 14⟩, ⟨0, 15, 21, 17⟩] ⟨0, 15, 26, 23⟩ [] (by rw [ht]; rfl) (fun z hz => by rcases List.mem_cons.mp hz with rfl | hz; exact Or.inr ⟨by decide, _, (hts _ (List.mem_of_getElem? (i := 1) rfl)), hEC.2.1⟩; cases List.mem_singleton.mp hz; exact Or.inr ⟨by decide, _, (hts _ (List.mem_of_getElem? (i := 2) rfl)), hEC.2.2⟩) (by decide) (by decide) (hts _ (List.mem_of_getElem? (i := 3) rfl)) (by decide) rfl (fun q9 H locs hP hS => ?_)
  refine lv_astore (lv' := [(4, .ref q9), (0, .ref (a 0)), (1, .int cy), (2, .int st), (3, .int wh)]) hx hb dL_locked_26 hl (by decide) rfl (fun ls hl => ?_)
  refine lv_ldc (v := -99999999) hx hb hown (hts _ (List.mem_of_getElem? (i := 4) rfl)) dL_locked_28 ?_
  exact x_iret (σ := σ) hx hb hr hlk hsz hP hS rfl rfl rfl dL_locked_30
set_option maxHeartbeats 4000000 in
set_option maxRecDepth 100000 in
theorem c_L_faulty (l : Launch) (D : va_G) (cI : ClassId) (a : Nat → Nat) (sz : Nat) (σ : Sg) (cy : Int32) (ri : Int32) (wh : Int32) (n : Nat) (g : Nat) (hc : vp_in cy 30) (hr1 : vp_in ri 10) (hv : hW σ wh) (hn : n < 300) (hcn : σ 1 4 = nI n) (hh : r_X4_tells σ 5 cy ri wh n = 0 → hearOK σ 5 cy ri wh n g) : Met l yL_faulty wsL_faulty ({ frames := 8, cells := 0, slots := 0, locals := 184 }) (PcO D cI a sz σ [.ref (a 0), .int cy, .int ri, .int wh]) (QiW D 29 a (wX cI a) sz (if r_X5_faulty σ cy ri wh n g = 0 then 0 else 1) (s_X5_faulty σ cy ri wh n g)) 0 0 (AX 29 a sz) := by
  refine o_of (cc := cL_faulty) (maxL := 5) (ret := some .int) (hh := [(0, 15, 16, 14), (0, 15, 21, 17), (0, 15, 26, 23)]) (C := RL) rfl (by decide) rfl (Nat.le_of_ble_eq_true rfl) (fun p e s m below meth c hx hb hr hml hlk hts hown hsz ht hE hEC H hP hS hG ls hl => ?_)
  have hl : lv_has ls 5 [(0, .ref (a 0)), (1, .int cy), (2, .int ri), (3, .int wh)] := hl
  refine lv_aload_n hx hb dL_faulty_0 rfl (lv_at hl 0 rfl) ?_
  refine lv_iload_n hx hb dL_faulty_1 rfl (lv_at hl 1 rfl) ?_
  refine lv_iload_n hx hb dL_faulty_2 rfl (lv_at hl 2 rfl) ?_
  refine lv_iload_n hx hb dL_faulty_3 rfl (lv_at hl 3 rfl) ?_
  refine x_callVi (w := wX cI a) (σ := σ) (σ' := s_X5_faulty σ cy ri wh n g) (As := [.int cy, .int ri, .int wh]) (rest := []) (q0 := 0) (ci := 5) (C := RX5) ⟨hx, hb, hml, hown, hts⟩ hG hP hS hsz (c_X5_faulty l D cI a H.size σ cy ri wh n g hc hr1 hv hn hcn hh) (cwV 3 hts gL_faulty_X5_faulty rfl rfl rfl (by decide +kernel) ⟨Nat.le_of_ble_eq_true rfl, Nat.le_of_ble_eq_true rfl⟩) rfl rfl rfl rfl hl.1 rfl (Nat.le_of_ble_eq_true rfl) ⟨Nat.zero_le _, Nat.zero_le _⟩ dL_faulty_4 (fun H locs hP hS => ?_)
  by_cases h0 : r_X5_faulty σ cy ri wh n g = 0
  · refine lv_if_eq (tgt := 14) hx hb dL_faulty_7 (by decide) (fun _ => ?_) (fun h => absurd h0 h)
    refine lv_iconst (v := 0) hx hb dL_faulty_14 (by decide) ?_
    exact x_iret (σ := s_X5_faulty σ cy ri wh n g) hx hb hr hlk hsz hP hS rfl (by rw [if_pos h0]) rfl dL_faulty_15
  · refine lv_if_eq (tgt := 14) hx hb dL_faulty_7 (by decide) (fun h => absurd h h0) (fun _ => ?_)
    refine lv_iconst (v := 1) hx hb dL_faulty_10 (by decide) ?_
    refine lv_goto (tgt := 15) hx hb dL_faulty_11 (by decide) ?_
    exact x_iret (σ := s_X5_faulty σ cy ri wh n g) hx hb hr hlk hsz hP hS rfl (by rw [if_neg h0]) rfl dL_faulty_15
set_option maxHeartbeats 4000000 in
set_option maxRecDepth 100000 in
theorem c_L_faulty_x1 (l : Launch) (D : va_G) (cI : ClassId) (a : Nat → Nat) (sz : Nat) (σ : Sg) (cy : Int32) (ri : Int32) (wh : Int32) (hx0 : ¬ (vp_in cy 30)) (hlf : l.stackTraces = false) : Met l yL_faulty wsL_faulty ({ frames := 8, cells := 1, slots := 6, locals := 125 }) (PcO D cI a sz σ [.ref (a 0), .int cy, .int ri, .int wh]) (QiW D 29 a (wX cI a) sz (-99999999) σ) 1 6 (AX 29 a sz) := by
  refine o_of (cc := cL_faulty) (maxL := 5) (ret := some .int) (hh := [(0, 15, 16, 14), (0, 15, 21, 17), (0, 15, 26, 23)]) (C := RL) rfl (by decide) rfl (Nat.le_of_ble_eq_true rfl) (fun p e s m below meth c hx hb hr hml hlk hts hown hsz ht hE hEC H hP hS hG ls hl => ?_)
  have hl : lv_has ls 5 [(0, .ref (a 0)), (1, .int cy), (2, .int ri), (3, .int wh)] := hl
  refine lv_aload_n hx hb dL_faulty_0 rfl (lv_at hl 0 rfl) ?_
  refine lv_iload_n hx hb dL_faulty_1 rfl (lv_at hl 1 rfl) ?_
  refine lv_iload_n hx hb dL_faulty_2 rfl (lv_at hl 2 rfl) ?_
  refine lv_iload_n hx hb dL_faulty_3 rfl (lv_at hl 3 rfl) ?_
  refine o_catVi (E0 := "java/lang/IndexOutOfBoundsException") (hpc := 16) (σ := σ) (As := [.int cy, .int ri, .int wh]) (rest := []) ⟨hx, hb, hml, hown, hts⟩ hG hP hS hsz hE (xc_X5_faulty_x1 l D cI a H.size σ cy ri wh hx0 hlf) (cwV 3 hts gL_faulty_X5_faulty rfl rfl rfl (by decide +kernel) ⟨Nat.le_of_ble_eq_true rfl, Nat.le_of_ble_eq_true rfl⟩) rfl hl.1 rfl (Nat.le_of_ble_eq_true rfl) ⟨Nat.le_of_ble_eq_true rfl, Nat.le_of_ble_eq_true rfl⟩ dL_faulty_4 [] ⟨0, 15, 16, 14⟩ [⟨0, 15, 21, 17⟩, ⟨0, 15, 26, 23⟩] (by rw [ht]; rfl) (fun z hz => nomatch hz) (by decide) (by decide) (hts _ (List.mem_of_getElem? (i := 1) rfl)) (by decide) rfl (fun q9 H locs hP hS => ?_)
  refine lv_astore (lv' := [(4, .ref q9), (0, .ref (a 0)), (1, .int cy), (2, .int ri), (3, .int wh)]) hx hb dL_faulty_16 hl (by decide) rfl (fun ls hl => ?_)
  refine lv_ldc (v := -99999999) hx hb hown (hts _ (List.mem_of_getElem? (i := 4) rfl)) dL_faulty_18 ?_
  exact x_iret (σ := σ) hx hb hr hlk hsz hP hS rfl rfl rfl dL_faulty_20
set_option maxHeartbeats 4000000 in
set_option maxRecDepth 100000 in
theorem c_L_faulty_x5 (l : Launch) (D : va_G) (cI : ClassId) (a : Nat → Nat) (sz : Nat) (σ : Sg) (cy : Int32) (ri : Int32) (wh : Int32) (hc : vp_in cy 30) (hx0 : ¬ (vp_in ri 10)) (hlf : l.stackTraces = false) : Met l yL_faulty wsL_faulty ({ frames := 8, cells := 1, slots := 6, locals := 125 }) (PcO D cI a sz σ [.ref (a 0), .int cy, .int ri, .int wh]) (QiW D 29 a (wX cI a) sz (-99999999) σ) 1 6 (AX 29 a sz) := by
  refine o_of (cc := cL_faulty) (maxL := 5) (ret := some .int) (hh := [(0, 15, 16, 14), (0, 15, 21, 17), (0, 15, 26, 23)]) (C := RL) rfl (by decide) rfl (Nat.le_of_ble_eq_true rfl) (fun p e s m below meth c hx hb hr hml hlk hts hown hsz ht hE hEC H hP hS hG ls hl => ?_)
  have hl : lv_has ls 5 [(0, .ref (a 0)), (1, .int cy), (2, .int ri), (3, .int wh)] := hl
  refine lv_aload_n hx hb dL_faulty_0 rfl (lv_at hl 0 rfl) ?_
  refine lv_iload_n hx hb dL_faulty_1 rfl (lv_at hl 1 rfl) ?_
  refine lv_iload_n hx hb dL_faulty_2 rfl (lv_at hl 2 rfl) ?_
  refine lv_iload_n hx hb dL_faulty_3 rfl (lv_at hl 3 rfl) ?_
  refine o_catVi (E0 := "java/lang/IndexOutOfBoundsException") (hpc := 16) (σ := σ) (As := [.int cy, .int ri, .int wh]) (rest := []) ⟨hx, hb, hml, hown, hts⟩ hG hP hS hsz hE (xc_X5_faulty_x5 l D cI a H.size σ cy ri wh hc hx0 hlf) (cwV 3 hts gL_faulty_X5_faulty rfl rfl rfl (by decide +kernel) ⟨Nat.le_of_ble_eq_true rfl, Nat.le_of_ble_eq_true rfl⟩) rfl hl.1 rfl (Nat.le_of_ble_eq_true rfl) ⟨Nat.le_of_ble_eq_true rfl, Nat.le_of_ble_eq_true rfl⟩ dL_faulty_4 [] ⟨0, 15, 16, 14⟩ [⟨0, 15, 21, 17⟩, ⟨0, 15, 26, 23⟩] (by rw [ht]; rfl) (fun z hz => nomatch hz) (by decide) (by decide) (hts _ (List.mem_of_getElem? (i := 1) rfl)) (by decide) rfl (fun q9 H locs hP hS => ?_)
  refine lv_astore (lv' := [(4, .ref q9), (0, .ref (a 0)), (1, .int cy), (2, .int ri), (3, .int wh)]) hx hb dL_faulty_16 hl (by decide) rfl (fun ls hl => ?_)
  refine lv_ldc (v := -99999999) hx hb hown (hts _ (List.mem_of_getElem? (i := 4) rfl)) dL_faulty_18 ?_
  exact x_iret (σ := σ) hx hb hr hlk hsz hP hS rfl rfl rfl dL_faulty_20
set_option maxHeartbeats 4000000 in
set_option maxRecDepth 100000 in
theorem c_L_faulty_x10 (l : Launch) (D : va_G) (cI : ClassId) (a : Nat → Nat) (sz : Nat) (σ : Sg) (cy : Int32) (ri : Int32) (wh : Int32) (hc : vp_in cy 30) (hr1 : vp_in ri 10) (hx0 : ¬ (hW σ wh)) (hlf : l.stackTraces = false) : Met l yL_faulty wsL_faulty ({ frames := 8, cells := 1, slots := 6, locals := 126 }) (PcO D cI a sz σ [.ref (a 0), .int cy, .int ri, .int wh]) (QiW D 29 a (wX cI a) sz (-99999999) σ) 1 6 (AX 29 a sz) := by
  refine o_of (cc := cL_faulty) (maxL := 5) (ret := some .int) (hh := [(0, 15, 16, 14), (0, 15, 21, 17), (0, 15, 26, 23)]) (C := RL) rfl (by decide) rfl (Nat.le_of_ble_eq_true rfl) (fun p e s m below meth c hx hb hr hml hlk hts hown hsz ht hE hEC H hP hS hG ls hl => ?_)
  have hl : lv_has ls 5 [(0, .ref (a 0)), (1, .int cy), (2, .int ri), (3, .int wh)] := hl
  refine lv_aload_n hx hb dL_faulty_0 rfl (lv_at hl 0 rfl) ?_
  refine lv_iload_n hx hb dL_faulty_1 rfl (lv_at hl 1 rfl) ?_
  refine lv_iload_n hx hb dL_faulty_2 rfl (lv_at hl 2 rfl) ?_
  refine lv_iload_n hx hb dL_faulty_3 rfl (lv_at hl 3 rfl) ?_
  refine o_catVi (E0 := "java/lang/IllegalArgumentException") (hpc := 21) (σ := σ) (As := [.int cy, .int ri, .int wh]) (rest := []) ⟨hx, hb, hml, hown, hts⟩ hG hP hS hsz hE (xc_X5_faulty_x10 l D cI a H.size σ cy ri wh hc hr1 hx0 hlf) (cwV 3 hts gL_faulty_X5_faulty rfl rfl rfl (by decide +kernel) ⟨Nat.le_of_ble_eq_true rfl, Nat.le_of_ble_eq_true rfl⟩) rfl hl.1 rfl (Nat.le_of_ble_eq_true rfl) ⟨Nat.le_of_ble_eq_true rfl, Nat.le_of_ble_eq_true rfl⟩ dL_faulty_4 [⟨0, 15, 16, 14⟩] ⟨0, 15, 21, 17⟩ [⟨0, 15, 26, 23⟩] (by rw [ht]; rfl) (fun z hz => by cases List.mem_singleton.mp hz; exact Or.inr ⟨by decide, _, (hts _ (List.mem_of_getElem? (i := 1) rfl)), hEC.1⟩) (by decide) (by decide) (hts _ (List.mem_of_getElem? (i := 2) rfl)) (by decide) rfl (fun q9 H locs hP hS => ?_)
  refine lv_astore (lv' := [(4, .ref q9), (0, .ref (a 0)), (1, .int cy), (2, .int ri), (3, .int wh)]) hx hb dL_faulty_21 hl (by decide) rfl (fun ls hl => ?_)
  refine lv_ldc (v := -99999999) hx hb hown (hts _ (List.mem_of_getElem? (i := 4) rfl)) dL_faulty_23 ?_
  exact x_iret (σ := σ) hx hb hr hlk hsz hP hS rfl rfl rfl dL_faulty_25
set_option maxHeartbeats 4000000 in
set_option maxRecDepth 100000 in
theorem c_L_faulty_x14 (l : Launch) (D : va_G) (cI : ClassId) (a : Nat → Nat) (sz : Nat) (σ : Sg) (cy : Int32) (ri : Int32) (wh : Int32) (hc : vp_in cy 30) (hr1 : vp_in ri 10) (hv : hW σ wh) (hx0 : ¬ (r_X4_isFull σ = 0)) (hlf : l.stackTraces = false) : Met l yL_faulty wsL_faulty ({ frames := 8, cells := 1, slots := 6, locals := 125 }) (PcO D cI a sz σ [.ref (a 0), .int cy, .int ri, .int wh]) (QiW D 29 a (wX cI a) sz (-99999999) σ) 1 6 (AX 29 a sz) := by
  refine o_of (cc := cL_faulty) (maxL := 5) (ret := some .int) (hh := [(0, 15, 16, 14), (0, 15, 21, 17), (0, 15, 26, 23)]) (C := RL) rfl (by decide) rfl (Nat.le_of_ble_eq_true rfl) (fun p e s m below meth c hx hb hr hml hlk hts hown hsz ht hE hEC H hP hS hG ls hl => ?_)
  have hl : lv_has ls 5 [(0, .ref (a 0)), (1, .int cy), (2, .int ri), (3, .int wh)] := hl
  refine lv_aload_n hx hb dL_faulty_0 rfl (lv_at hl 0 rfl) ?_
  refine lv_iload_n hx hb dL_faulty_1 rfl (lv_at hl 1 rfl) ?_
  refine lv_iload_n hx hb dL_faulty_2 rfl (lv_at hl 2 rfl) ?_
  refine lv_iload_n hx hb dL_faulty_3 rfl (lv_at hl 3 rfl) ?_
  refine o_catVi (E0 := "java/lang/IllegalStateException") (hpc := 26) (σ := σ) (As := [.int cy, .int ri, .int wh]) (rest := []) ⟨hx, hb, hml, hown, hts⟩ hG hP hS hsz hE (xc_X5_faulty_x14 l D cI a H.size σ cy ri wh hc hr1 hv hx0 hlf) (cwV 3 hts gL_faulty_X5_faulty rfl rfl rfl (by decide +kernel) ⟨Nat.le_of_ble_eq_true rfl, Nat.le_of_ble_eq_true rfl⟩) rfl hl.1 rfl (Nat.le_of_ble_eq_true rfl) ⟨Nat.le_of_ble_eq_true rfl, Nat.le_of_ble_eq_true rfl⟩ dL_faulty_4 [⟨0, 15, 16, 14⟩, ⟨0, 15, 21, 17⟩] ⟨0, 15, 26, 23⟩ [] (by rw [ht]; rfl) (fun z hz => by rcases List.mem_cons.mp hz with rfl | hz; exact Or.inr ⟨by decide, _, (hts _ (List.mem_of_getElem? (i := 1) rfl)), hEC.2.1⟩; cases List.mem_singleton.mp hz; exact Or.inr ⟨by decide, _, (hts _ (List.mem_of_getElem? (i := 2) rfl)), hEC.2.2⟩) (by decide) (by decide) (hts _ (List.mem_of_getElem? (i := 3) rfl)) (by decide) rfl (fun q9 H locs hP hS => ?_)
  refine lv_astore (lv' := [(4, .ref q9), (0, .ref (a 0)), (1, .int cy), (2, .int ri), (3, .int wh)]) hx hb dL_faulty_26 hl (by decide) rfl (fun ls hl => ?_)
  refine lv_ldc (v := -99999999) hx hb hown (hts _ (List.mem_of_getElem? (i := 4) rfl)) dL_faulty_28 ?_
  exact x_iret (σ := σ) hx hb hr hlk hsz hP hS rfl rfl rfl dL_faulty_30
set_option maxHeartbeats 4000000 in
set_option maxRecDepth 100000 in
theorem c_L_mend (l : Launch) (D : va_G) (cI : ClassId) (a : Nat → Nat) (sz : Nat) (σ : Sg) (cy : Int32) (n : Nat) (g : Nat) (hc : vp_in cy 30) (hn : n < 300) (hcn : σ 1 4 = nI n) (hh : hearOK σ 6 cy (-1) (σ 0 5) n g) : Met l yL_mend wsL_mend ({ frames := 7, cells := 0, slots := 0, locals := 158 }) (PcO D cI a sz σ [.ref (a 0), .int cy]) (QiW D 29 a (wX cI a) sz (if r_X5_mend σ cy n g = 0 then 0 else 1) (s_X5_mend σ cy n g)) 0 0 (AX 29 a sz) := by
  refine o_of (cc := cL_mend) (maxL := 3) (ret := some .int) (hh := [(0, 13, 14, 14), (0, 13, 18, 23)]) (C := RL) rfl (by decide) rfl (Nat.le_of_ble_eq_true rfl) (fun p e s m below meth c hx hb hr hml hlk hts hown hsz ht hE hEC H hP hS hG ls hl => ?_)
  have hl : lv_has ls 3 [(0, .ref (a 0)), (1, .int cy)] := hl
  refine lv_aload_n hx hb dL_mend_0 rfl (lv_at hl 0 rfl) ?_
  refine lv_iload_n hx hb dL_mend_1 rfl (lv_at hl 1 rfl) ?_
  refine x_callVi (w := wX cI a) (σ := σ) (σ' := s_X5_mend σ cy n g) (As := [.int cy]) (rest := []) (q0 := 0) (ci := 5) (C := RX5) ⟨hx, hb, hml, hown, hts⟩ hG hP hS hsz (c_X5_mend l D cI a H.size σ cy n g hc hn hcn hh) (cwV 1 hts gL_mend_X5_mend rfl rfl rfl (by decide +kernel) ⟨Nat.le_of_ble_eq_true rfl, Nat.le_of_ble_eq_true rfl⟩) rfl rfl rfl rfl hl.1 rfl (Nat.le_of_ble_eq_true rfl) ⟨Nat.zero_le _, Nat.zero_le _⟩ dL_mend_2 (fun H locs hP hS => ?_)
  by_cases h0 : r_X5_mend σ cy n g = 0
  · refine lv_if_eq (tgt := 12) hx hb dL_mend_5 (by decide) (fun _ => ?_) (fun h => absurd h0 h)
    refine lv_iconst (v := 0) hx hb dL_mend_12 (by decide) ?_
    exact x_iret (σ := s_X5_mend σ cy n g) hx hb hr hlk hsz hP hS rfl (by rw [if_pos h0]) rfl dL_mend_13
  · refine lv_if_eq (tgt := 12) hx hb dL_mend_5 (by decide) (fun h => absurd h h0) (fun _ => ?_)
    refine lv_iconst (v := 1) hx hb dL_mend_8 (by decide) ?_
    refine lv_goto (tgt := 13) hx hb dL_mend_9 (by decide) ?_
    exact x_iret (σ := s_X5_mend σ cy n g) hx hb hr hlk hsz hP hS rfl (by rw [if_neg h0]) rfl dL_mend_13
set_option maxHeartbeats 4000000 in
set_option maxRecDepth 100000 in
theorem c_L_mend_x1 (l : Launch) (D : va_G) (cI : ClassId) (a : Nat → Nat) (sz : Nat) (σ : Sg) (cy : Int32) (hx0 : ¬ (vp_in cy 30)) (hlf : l.stackTraces = false) : Met l yL_mend wsL_mend ({ frames := 8, cells := 1, slots := 6, locals := 123 }) (PcO D cI a sz σ [.ref (a 0), .int cy]) (QiW D 29 a (wX cI a) sz (-99999999) σ) 1 6 (AX 29 a sz) := by
  refine o_of (cc := cL_mend) (maxL := 3) (ret := some .int) (hh := [(0, 13, 14, 14), (0, 13, 18, 23)]) (C := RL) rfl (by decide) rfl (Nat.le_of_ble_eq_true rfl) (fun p e s m below meth c hx hb hr hml hlk hts hown hsz ht hE hEC H hP hS hG ls hl => ?_)
  have hl : lv_has ls 3 [(0, .ref (a 0)), (1, .int cy)] := hl
  refine lv_aload_n hx hb dL_mend_0 rfl (lv_at hl 0 rfl) ?_
  refine lv_iload_n hx hb dL_mend_1 rfl (lv_at hl 1 rfl) ?_
  refine o_catVi (E0 := "java/lang/IndexOutOfBoundsException") (hpc := 14) (σ := σ) (As := [.int cy]) (rest := []) ⟨hx, hb, hml, hown, hts⟩ hG hP hS hsz hE (xc_X5_mend_x1 l D cI a H.size σ cy hx0 hlf) (cwV 1 hts gL_mend_X5_mend rfl rfl rfl (by decide +kernel) ⟨Nat.le_of_ble_eq_true rfl, Nat.le_of_ble_eq_true rfl⟩) rfl hl.1 rfl (Nat.le_of_ble_eq_true rfl) ⟨Nat.le_of_ble_eq_true rfl, Nat.le_of_ble_eq_true rfl⟩ dL_mend_2 [] ⟨0, 13, 14, 14⟩ [⟨0, 13, 18, 23⟩] (by rw [ht]; rfl) (fun z hz => nomatch hz) (by decide) (by decide) (hts _ (List.mem_of_getElem? (i := 1) rfl)) (by decide) rfl (fun q9 H locs hP hS => ?_)
  refine lv_astore_n (lv' := [(2, .ref q9), (0, .ref (a 0)), (1, .int cy)]) hx hb dL_mend_14 rfl hl (by decide) rfl (fun ls hl => ?_)
  refine lv_ldc (v := -99999999) hx hb hown (hts _ (List.mem_of_getElem? (i := 3) rfl)) dL_mend_15 ?_
  exact x_iret (σ := σ) hx hb hr hlk hsz hP hS rfl rfl rfl dL_mend_17
set_option maxHeartbeats 4000000 in
set_option maxRecDepth 100000 in
theorem c_L_mend_x5 (l : Launch) (D : va_G) (cI : ClassId) (a : Nat → Nat) (sz : Nat) (σ : Sg) (cy : Int32) (hc : vp_in cy 30) (hx0 : ¬ (r_X4_isFull σ = 0)) (hlf : l.stackTraces = false) : Met l yL_mend wsL_mend ({ frames := 8, cells := 1, slots := 6, locals := 123 }) (PcO D cI a sz σ [.ref (a 0), .int cy]) (QiW D 29 a (wX cI a) sz (-99999999) σ) 1 6 (AX 29 a sz) := by
  refine o_of (cc := cL_mend) (maxL := 3) (ret := some .int) (hh := [(0, 13, 14, 14), (0, 13, 18, 23)]) (C := RL) rfl (by decide) rfl (Nat.le_of_ble_eq_true rfl) (fun p e s m below meth c hx hb hr hml hlk hts hown hsz ht hE hEC H hP hS hG ls hl => ?_)
  have hl : lv_has ls 3 [(0, .ref (a 0)), (1, .int cy)] := hl
  refine lv_aload_n hx hb dL_mend_0 rfl (lv_at hl 0 rfl) ?_
  refine lv_iload_n hx hb dL_mend_1 rfl (lv_at hl 1 rfl) ?_
  refine o_catVi (E0 := "java/lang/IllegalStateException") (hpc := 18) (σ := σ) (As := [.int cy]) (rest := []) ⟨hx, hb, hml, hown, hts⟩ hG hP hS hsz hE (xc_X5_mend_x5 l D cI a H.size σ cy hc hx0 hlf) (cwV 1 hts gL_mend_X5_mend rfl rfl rfl (by decide +kernel) ⟨Nat.le_of_ble_eq_true rfl, Nat.le_of_ble_eq_true rfl⟩) rfl hl.1 rfl (Nat.le_of_ble_eq_true rfl) ⟨Nat.le_of_ble_eq_true rfl, Nat.le_of_ble_eq_true rfl⟩ dL_mend_2 [⟨0, 13, 14, 14⟩] ⟨0, 13, 18, 23⟩ [] (by rw [ht]; rfl) (fun z hz => by cases List.mem_singleton.mp hz; exact Or.inr ⟨by decide, _, (hts _ (List.mem_of_getElem? (i := 1) rfl)), hEC.2.1⟩) (by decide) (by decide) (hts _ (List.mem_of_getElem? (i := 2) rfl)) (by decide) rfl (fun q9 H locs hP hS => ?_)
  refine lv_astore_n (lv' := [(2, .ref q9), (0, .ref (a 0)), (1, .int cy)]) hx hb dL_mend_18 rfl hl (by decide) rfl (fun ls hl => ?_)
  refine lv_ldc (v := -99999999) hx hb hown (hts _ (List.mem_of_getElem? (i := 3) rfl)) dL_mend_19 ?_
  exact x_iret (σ := σ) hx hb hr hlk hsz hP hS rfl rfl rfl dL_mend_21
set_option maxHeartbeats 4000000 in
set_option maxRecDepth 100000 in
theorem c_L_price (l : Launch) (D : va_G) (cI : ClassId) (a : Nat → Nat) (sz : Nat) (σ : Sg) (pr : Int32) (n : Nat) (g : Nat) (hu1 : (¬ pr < 0 ∧ pr ≤ 99)) (hn : n < 300) (hcn : σ 1 4 = nI n) (hh : hearOK σ 7 pr (-1) (σ 0 5) n g) : Met l yL_price wsL_price ({ frames := 7, cells := 0, slots := 0, locals := 158 }) (PcO D cI a sz σ [.ref (a 0), .int pr]) (QiW D 29 a (wX cI a) sz 0 (s_X5_price σ pr n g)) 0 0 (AX 29 a sz) := by
  refine o_of (cc := cL_price) (maxL := 3) (ret := some .int) (hh := [(0, 6, 7, 17), (0, 6, 11, 23)]) (C := RL) rfl (by decide) rfl (Nat.le_of_ble_eq_true rfl) (fun p e s m below meth c hx hb hr hml hlk hts hown hsz ht hE hEC H hP hS hG ls hl => ?_)
  have hl : lv_has ls 3 [(0, .ref (a 0)), (1, .int pr)] := hl
  refine lv_aload_n hx hb dL_price_0 rfl (lv_at hl 0 rfl) ?_
  refine lv_iload_n hx hb dL_price_1 rfl (lv_at hl 1 rfl) ?_
  refine x_callVv (w := wX cI a) (σ := σ) (σ' := s_X5_price σ pr n g) (As := [.int pr]) (rest := []) (q0 := 0) (ci := 5) (C := RX5) ⟨hx, hb, hml, hown, hts⟩ hG hP hS hsz (c_X5_price l D cI a H.size σ pr n g hu1 hn hcn hh) (cwV 1 hts gL_price_X5_price rfl rfl rfl (by decide +kernel) ⟨Nat.le_of_ble_eq_true rfl, Nat.le_of_ble_eq_true rfl⟩) rfl rfl rfl rfl hl.1 rfl (Nat.le_of_ble_eq_true rfl) ⟨Nat.zero_le _, Nat.zero_le _⟩ dL_price_2 (fun H locs hP hS => ?_)
  refine lv_iconst (v := 0) hx hb dL_price_5 (by decide) ?_
  exact x_iret (σ := s_X5_price σ pr n g) hx hb hr hlk hsz hP hS rfl rfl rfl dL_price_6
set_option maxHeartbeats 4000000 in
set_option maxRecDepth 100000 in
theorem c_L_price_x3 (l : Launch) (D : va_G) (cI : ClassId) (a : Nat → Nat) (sz : Nat) (σ : Sg) (pr : Int32) (hx0 : ¬ (¬ pr < 0 ∧ pr ≤ 99)) (hlf : l.stackTraces = false) : Met l yL_price wsL_price ({ frames := 8, cells := 1, slots := 6, locals := 124 }) (PcO D cI a sz σ [.ref (a 0), .int pr]) (QiW D 29 a (wX cI a) sz (-99999999) σ) 1 6 (AX 29 a sz) := by
  refine o_of (cc := cL_price) (maxL := 3) (ret := some .int) (hh := [(0, 6, 7, 17), (0, 6, 11, 23)]) (C := RL) rfl (by decide) rfl (Nat.le_of_ble_eq_true rfl) (fun p e s m below meth c hx hb hr hml hlk hts hown hsz ht hE hEC H hP hS hG ls hl => ?_)
  have hl : lv_has ls 3 [(0, .ref (a 0)), (1, .int pr)] := hl
  refine lv_aload_n hx hb dL_price_0 rfl (lv_at hl 0 rfl) ?_
  refine lv_iload_n hx hb dL_price_1 rfl (lv_at hl 1 rfl) ?_
  refine o_catVv (E0 := "java/lang/IllegalArgumentException") (hpc := 7) (σ := σ) (As := [.int pr]) (rest := []) ⟨hx, hb, hml, hown, hts⟩ hG hP hS hsz hE (xc_X5_price_x3 l D cI a H.size σ pr hx0 hlf) (cwV 1 hts gL_price_X5_price rfl rfl rfl (by decide +kernel) ⟨Nat.le_of_ble_eq_true rfl, Nat.le_of_ble_eq_true rfl⟩) rfl hl.1 rfl (Nat.le_of_ble_eq_true rfl) ⟨Nat.le_of_ble_eq_true rfl, Nat.le_of_ble_eq_true rfl⟩ dL_price_2 [] ⟨0, 6, 7, 17⟩ [⟨0, 6, 11, 23⟩] (by rw [ht]; rfl) (fun z hz => nomatch hz) (by decide) (by decide) (hts _ (List.mem_of_getElem? (i := 1) rfl)) (by decide) rfl (fun q9 H locs hP hS => ?_)
  refine lv_astore_n (lv' := [(2, .ref q9), (0, .ref (a 0)), (1, .int pr)]) hx hb dL_price_7 rfl hl (by decide) rfl (fun ls hl => ?_)
  refine lv_ldc (v := -99999999) hx hb hown (hts _ (List.mem_of_getElem? (i := 3) rfl)) dL_price_8 ?_
  exact x_iret (σ := σ) hx hb hr hlk hsz hP hS rfl rfl rfl dL_price_10
set_option maxHeartbeats 4000000 in
set_option maxRecDepth 100000 in
theorem c_L_price_x7 (l : Launch) (D : va_G) (cI : ClassId) (a : Nat → Nat) (sz : Nat) (σ : Sg) (pr : Int32) (hu1 : (¬ pr < 0 ∧ pr ≤ 99)) (hx0 : ¬ (r_X4_isFull σ = 0)) (hlf : l.stackTraces = false) : Met l yL_price wsL_price ({ frames := 8, cells := 1, slots := 6, locals := 123 }) (PcO D cI a sz σ [.ref (a 0), .int pr]) (QiW D 29 a (wX cI a) sz (-99999999) σ) 1 6 (AX 29 a sz) := by
  refine o_of (cc := cL_price) (maxL := 3) (ret := some .int) (hh := [(0, 6, 7, 17), (0, 6, 11, 23)]) (C := RL) rfl (by decide) rfl (Nat.le_of_ble_eq_true rfl) (fun p e s m below meth c hx hb hr hml hlk hts hown hsz ht hE hEC H hP hS hG ls hl => ?_)
  have hl : lv_has ls 3 [(0, .ref (a 0)), (1, .int pr)] := hl
  refine lv_aload_n hx hb dL_price_0 rfl (lv_at hl 0 rfl) ?_
  refine lv_iload_n hx hb dL_price_1 rfl (lv_at hl 1 rfl) ?_
  refine o_catVv (E0 := "java/lang/IllegalStateException") (hpc := 11) (σ := σ) (As := [.int pr]) (rest := []) ⟨hx, hb, hml, hown, hts⟩ hG hP hS hsz hE (xc_X5_price_x7 l D cI a H.size σ pr hu1 hx0 hlf) (cwV 1 hts gL_price_X5_price rfl rfl rfl (by decide +kernel) ⟨Nat.le_of_ble_eq_true rfl, Nat.le_of_ble_eq_true rfl⟩) rfl hl.1 rfl (Nat.le_of_ble_eq_true rfl) ⟨Nat.le_of_ble_eq_true rfl, Nat.le_of_ble_eq_true rfl⟩ dL_price_2 [⟨0, 6, 7, 17⟩] ⟨0, 6, 11, 23⟩ [] (by rw [ht]; rfl) (fun z hz => by cases List.mem_singleton.mp hz; exact Or.inr ⟨by decide, _, (hts _ (List.mem_of_getElem? (i := 1) rfl)), hEC.2.2⟩) (by decide) (by decide) (hts _ (List.mem_of_getElem? (i := 2) rfl)) (by decide) rfl (fun q9 H locs hP hS => ?_)
  refine lv_astore_n (lv' := [(2, .ref q9), (0, .ref (a 0)), (1, .int pr)]) hx hb dL_price_11 rfl hl (by decide) rfl (fun ls hl => ?_)
  refine lv_ldc (v := -99999999) hx hb hown (hts _ (List.mem_of_getElem? (i := 3) rfl)) dL_price_12 ?_
  exact x_iret (σ := σ) hx hb hr hlk hsz hP hS rfl rfl rfl dL_price_14
set_option maxHeartbeats 4000000 in
set_option maxRecDepth 100000 in
theorem c_L_promise (l : Launch) (D : va_G) (cI : ClassId) (a : Nat → Nat) (sz : Nat) (σ : Sg) (ri : Int32) (st : Int32) (n : Nat) (g : Nat) (hr1 : vp_in ri 10) (hs : vp_in st 8) (hn : n < 300) (hcn : σ 1 4 = nI n) (hh : hearOK σ 8 ri st (σ 0 5) n g) : Met l yL_promise wsL_promise ({ frames := 7, cells := 0, slots := 0, locals := 159 }) (PcO D cI a sz σ [.ref (a 0), .int ri, .int st]) (QiW D 29 a (wX cI a) sz (if r_X5_promise σ ri st n g = 0 then 0 else 1) (s_X5_promise σ ri st n g)) 0 0 (AX 29 a sz) := by
  refine o_of (cc := cL_promise) (maxL := 4) (ret := some .int) (hh := [(0, 14, 15, 14), (0, 14, 19, 23)]) (C := RL) rfl (by decide) rfl (Nat.le_of_ble_eq_true rfl) (fun p e s m below meth c hx hb hr hml hlk hts hown hsz ht hE hEC H hP hS hG ls hl => ?_)
  have hl : lv_has ls 4 [(0, .ref (a 0)), (1, .int ri), (2, .int st)] := hl
  refine lv_aload_n hx hb dL_promise_0 rfl (lv_at hl 0 rfl) ?_
  refine lv_iload_n hx hb dL_promise_1 rfl (lv_at hl 1 rfl) ?_
  refine lv_iload_n hx hb dL_promise_2 rfl (lv_at hl 2 rfl) ?_
  refine x_callVi (w := wX cI a) (σ := σ) (σ' := s_X5_promise σ ri st n g) (As := [.int ri, .int st]) (rest := []) (q0 := 0) (ci := 5) (C := RX5) ⟨hx, hb, hml, hown, hts⟩ hG hP hS hsz (c_X5_promise l D cI a H.size σ ri st n g hr1 hs hn hcn hh) (cwV 2 hts gL_promise_X5_promise rfl rfl rfl (by decide +kernel) ⟨Nat.le_of_ble_eq_true rfl, Nat.le_of_ble_eq_true rfl⟩) rfl rfl rfl rfl hl.1 rfl (Nat.le_of_ble_eq_true rfl) ⟨Nat.zero_le _, Nat.zero_le _⟩ dL_promise_3 (fun H locs hP hS => ?_)
  by_cases h0 : r_X5_promise σ ri st n g = 0
  · refine lv_if_eq (tgt := 13) hx hb dL_promise_6 (by decide) (fun _ => ?_) (fun h => absurd h0 h)
    refine lv_iconst (v := 0) hx hb dL_promise_13 (by decide) ?_
    exact x_iret (σ := s_X5_promise σ ri st n g) hx hb hr hlk hsz hP hS rfl (by rw [if_pos h0]) rfl dL_promise_14
  · refine lv_if_eq (tgt := 13) hx hb dL_promise_6 (by decide) (fun h => absurd h h0) (fun _ => ?_)
    refine lv_iconst (v := 1) hx hb dL_promise_9 (by decide) ?_
    refine lv_goto (tgt := 14) hx hb dL_promise_10 (by decide) ?_
    exact x_iret (σ := s_X5_promise σ ri st n g) hx hb hr hlk hsz hP hS rfl (by rw [if_neg h0]) rfl dL_promise_14
set_option maxHeartbeats 4000000 in
set_option maxRecDepth 100000 in
theorem c_L_promise_x1 (l : Launch) (D : va_G) (cI : ClassId) (a : Nat → Nat) (sz : Nat) (σ : Sg) (ri : Int32) (st : Int32) (hx0 : ¬ (vp_in ri 10)) (hlf : l.stackTraces = false) : Met l yL_promise wsL_promise ({ frames := 8, cells := 1, slots := 6, locals := 124 }) (PcO D cI a sz σ [.ref (a 0), .int ri, .int st]) (QiW D 29 a (wX cI a) sz (-99999999) σ) 1 6 (AX 29 a sz) := by
  refine o_of (cc := cL_promise) (maxL := 4) (ret := some .int) (hh := [(0, 14, 15, 14), (0, 14, 19, 23)]) (C := RL) rfl (by decide) rfl (Nat.le_of_ble_eq_true rfl) (fun p e s m below meth c hx hb hr hml hlk hts hown hsz ht hE hEC H hP hS hG ls hl => ?_)
  have hl : lv_has ls 4 [(0, .ref (a 0)), (1, .int ri), (2, .int st)] := hl
  refine lv_aload_n hx hb dL_promise_0 rfl (lv_at hl 0 rfl) ?_
  refine lv_iload_n hx hb dL_promise_1 rfl (lv_at hl 1 rfl) ?_
  refine lv_iload_n hx hb dL_promise_2 rfl (lv_at hl 2 rfl) ?_
  refine o_catVi (E0 := "java/lang/IndexOutOfBoundsException") (hpc := 15) (σ := σ) (As := [.int ri, .int st]) (rest := []) ⟨hx, hb, hml, hown, hts⟩ hG hP hS hsz hE (xc_X5_promise_x1 l D cI a H.size σ ri st hx0 hlf) (cwV 2 hts gL_promise_X5_promise rfl rfl rfl (by decide +kernel) ⟨Nat.le_of_ble_eq_true rfl, Nat.le_of_ble_eq_true rfl⟩) rfl hl.1 rfl (Nat.le_of_ble_eq_true rfl) ⟨Nat.le_of_ble_eq_true rfl, Nat.le_of_ble_eq_true rfl⟩ dL_promise_3 [] ⟨0, 14, 15, 14⟩ [⟨0, 14, 19, 23⟩] (by rw [ht]; rfl) (fun z hz => nomatch hz) (by decide) (by decide) (hts _ (List.mem_of_getElem? (i := 1) rfl)) (by decide) rfl (fun q9 H locs hP hS => ?_)
  refine lv_astore_n (lv' := [(3, .ref q9), (0, .ref (a 0)), (1, .int ri), (2, .int st)]) hx hb dL_promise_15 rfl hl (by decide) rfl (fun ls hl => ?_)
  refine lv_ldc (v := -99999999) hx hb hown (hts _ (List.mem_of_getElem? (i := 3) rfl)) dL_promise_16 ?_
  exact x_iret (σ := σ) hx hb hr hlk hsz hP hS rfl rfl rfl dL_promise_18
set_option maxHeartbeats 4000000 in
set_option maxRecDepth 100000 in
theorem c_L_promise_x5 (l : Launch) (D : va_G) (cI : ClassId) (a : Nat → Nat) (sz : Nat) (σ : Sg) (ri : Int32) (st : Int32) (hr1 : vp_in ri 10) (hx0 : ¬ (vp_in st 8)) (hlf : l.stackTraces = false) : Met l yL_promise wsL_promise ({ frames := 8, cells := 1, slots := 6, locals := 124 }) (PcO D cI a sz σ [.ref (a 0), .int ri, .int st]) (QiW D 29 a (wX cI a) sz (-99999999) σ) 1 6 (AX 29 a sz) := by
  refine o_of (cc := cL_promise) (maxL := 4) (ret := some .int) (hh := [(0, 14, 15, 14), (0, 14, 19, 23)]) (C := RL) rfl (by decide) rfl (Nat.le_of_ble_eq_true rfl) (fun p e s m below meth c hx hb hr hml hlk hts hown hsz ht hE hEC H hP hS hG ls hl => ?_)
  have hl : lv_has ls 4 [(0, .ref (a 0)), (1, .int ri), (2, .int st)] := hl
  refine lv_aload_n hx hb dL_promise_0 rfl (lv_at hl 0 rfl) ?_
  refine lv_iload_n hx hb dL_promise_1 rfl (lv_at hl 1 rfl) ?_
  refine lv_iload_n hx hb dL_promise_2 rfl (lv_at hl 2 rfl) ?_
  refine o_catVi (E0 := "java/lang/IndexOutOfBoundsException") (hpc := 15) (σ := σ) (As := [.int ri, .int st]) (rest := []) ⟨hx, hb, hml, hown, hts⟩ hG hP hS hsz hE (xc_X5_promise_x5 l D cI a H.size σ ri st hr1 hx0 hlf) (cwV 2 hts gL_promise_X5_promise rfl rfl rfl (by decide +kernel) ⟨Nat.le_of_ble_eq_true rfl, Nat.le_of_ble_eq_true rfl⟩) rfl hl.1 rfl (Nat.le_of_ble_eq_true rfl) ⟨Nat.le_of_ble_eq_true rfl, Nat.le_of_ble_eq_true rfl⟩ dL_promise_3 [] ⟨0, 14, 15, 14⟩ [⟨0, 14, 19, 23⟩] (by rw [ht]; rfl) (fun z hz => nomatch hz) (by decide) (by decide) (hts _ (List.mem_of_getElem? (i := 1) rfl)) (by decide) rfl (fun q9 H locs hP hS => ?_)
  refine lv_astore_n (lv' := [(3, .ref q9), (0, .ref (a 0)), (1, .int ri), (2, .int st)]) hx hb dL_promise_15 rfl hl (by decide) rfl (fun ls hl => ?_)
  refine lv_ldc (v := -99999999) hx hb hown (hts _ (List.mem_of_getElem? (i := 3) rfl)) dL_promise_16 ?_
  exact x_iret (σ := σ) hx hb hr hlk hsz hP hS rfl rfl rfl dL_promise_18
set_option maxHeartbeats 4000000 in
set_option maxRecDepth 100000 in
theorem c_L_promise_x9 (l : Launch) (D : va_G) (cI : ClassId) (a : Nat → Nat) (sz : Nat) (σ : Sg) (ri : Int32) (st : Int32) (hr1 : vp_in ri 10) (hs : vp_in st 8) (hx0 : ¬ (r_X4_isFull σ = 0)) (hlf : l.stackTraces = false) : Met l yL_promise wsL_promise ({ frames := 8, cells := 1, slots := 6, locals := 124 }) (PcO D cI a sz σ [.ref (a 0), .int ri, .int st]) (QiW D 29 a (wX cI a) sz (-99999999) σ) 1 6 (AX 29 a sz) := by
  refine o_of (cc := cL_promise) (maxL := 4) (ret := some .int) (hh := [(0, 14, 15, 14), (0, 14, 19, 23)]) (C := RL) rfl (by decide) rfl (Nat.le_of_ble_eq_true rfl) (fun p e s m below meth c hx hb hr hml hlk hts hown hsz ht hE hEC H hP hS hG ls hl => ?_)
  have hl : lv_has ls 4 [(0, .ref (a 0)), (1, .int ri), (2, .int st)] := hl
  refine lv_aload_n hx hb dL_promise_0 rfl (lv_at hl 0 rfl) ?_
  refine lv_iload_n hx hb dL_promise_1 rfl (lv_at hl 1 rfl) ?_
  refine lv_iload_n hx hb dL_promise_2 rfl (lv_at hl 2 rfl) ?_
  refine o_catVi (E0 := "java/lang/IllegalStateException") (hpc := 19) (σ := σ) (As := [.int ri, .int st]) (rest := []) ⟨hx, hb, hml, hown, hts⟩ hG hP hS hsz hE (xc_X5_promise_x9 l D cI a H.size σ ri st hr1 hs hx0 hlf) (cwV 2 hts gL_promise_X5_promise rfl rfl rfl (by decide +kernel) ⟨Nat.le_of_ble_eq_true rfl, Nat.le_of_ble_eq_true rfl⟩) rfl hl.1 rfl (Nat.le_of_ble_eq_true rfl) ⟨Nat.le_of_ble_eq_true rfl, Nat.le_of_ble_eq_true rfl⟩ dL_promise_3 [⟨0, 14, 15, 14⟩] ⟨0, 14, 19, 23⟩ [] (by rw [ht]; rfl) (fun z hz => by cases List.mem_singleton.mp hz; exact Or.inr ⟨by decide, _, (hts _ (List.mem_of_getElem? (i := 1) rfl)), hEC.2.1⟩) (by decide) (by decide) (hts _ (List.mem_of_getElem? (i := 2) rfl)) (by decide) rfl (fun q9 H locs hP hS => ?_)
  refine lv_astore_n (lv' := [(3, .ref q9), (0, .ref (a 0)), (1, .int ri), (2, .int st)]) hx hb dL_promise_19 rfl hl (by decide) rfl (fun ls hl => ?_)
  refine lv_ldc (v := -99999999) hx hb hown (hts _ (List.mem_of_getElem? (i := 3) rfl)) dL_promise_20 ?_
  exact x_iret (σ := σ) hx hb hr hlk hsz hP hS rfl rfl rfl dL_promise_22
set_option maxHeartbeats 4000000 in
set_option maxRecDepth 100000 in
theorem c_L_cycle (l : Launch) (D : va_G) (cI : ClassId) (a : Nat → Nat) (sz : Nat) (σ : Sg) (cy : Int32) (its : Int32) (hc : vp_in cy 30) (hw4 : vp_in its 4) : Met l yL_cycle wsL_cycle ({ frames := 3, cells := 0, slots := 0, locals := 63 }) (PcO D cI a sz σ [.ref (a 0), .int cy, .int its]) (QiW D 29 a (wX cI a) sz (r_X5_cycle σ cy its) (σ)) 0 0 (AX 29 a sz) := by
  refine o_of (cc := cL_cycle) (maxL := 4) (ret := some .int) (hh := [(0, 6, 7, 14), (0, 6, 11, 17)]) (C := RL) rfl (by decide) rfl (Nat.le_of_ble_eq_true rfl) (fun p e s m below meth c hx hb hr hml hlk hts hown hsz ht hE hEC H hP hS hG ls hl => ?_)
  have hl : lv_has ls 4 [(0, .ref (a 0)), (1, .int cy), (2, .int its)] := hl
  refine lv_aload_n hx hb dL_cycle_0 rfl (lv_at hl 0 rfl) ?_
  refine lv_iload_n hx hb dL_cycle_1 rfl (lv_at hl 1 rfl) ?_
  refine lv_iload_n hx hb dL_cycle_2 rfl (lv_at hl 2 rfl) ?_
  refine x_callVi (w := wX cI a) (σ := σ) (σ' := σ) (As := [.int cy, .int its]) (rest := []) (q0 := 0) (ci := 5) (C := RX5) ⟨hx, hb, hml, hown, hts⟩ hG hP hS hsz (c_X5_cycle l D cI a H.size σ cy its hc hw4) (cwV 2 hts gL_cycle_X5_cycle rfl rfl rfl (by decide +kernel) ⟨Nat.le_of_ble_eq_true rfl, Nat.le_of_ble_eq_true rfl⟩) rfl rfl rfl rfl hl.1 rfl (Nat.le_of_ble_eq_true rfl) ⟨Nat.zero_le _, Nat.zero_le _⟩ dL_cycle_3 (fun H locs hP hS => ?_)
  exact x_iret (σ := σ) hx hb hr hlk hsz hP hS rfl rfl rfl dL_cycle_6
set_option maxHeartbeats 4000000 in
set_option maxRecDepth 100000 in
theorem c_L_cycle_x1 (l : Launch) (D : va_G) (cI : ClassId) (a : Nat → Nat) (sz : Nat) (σ : Sg) (cy : Int32) (its : Int32) (hx0 : ¬ (vp_in cy 30)) (hlf : l.stackTraces = false) : Met l yL_cycle wsL_cycle ({ frames := 8, cells := 1, slots := 6, locals := 124 }) (PcO D cI a sz σ [.ref (a 0), .int cy, .int its]) (QiW D 29 a (wX cI a) sz (-99999999) σ) 1 6 (AX 29 a sz) := by
  refine o_of (cc := cL_cycle) (maxL := 4) (ret := some .int) (hh := [(0, 6, 7, 14), (0, 6, 11, 17)]) (C := RL) rfl (by decide) rfl (Nat.le_of_ble_eq_true rfl) (fun p e s m below meth c hx hb hr hml hlk hts hown hsz ht hE hEC H hP hS hG ls hl => ?_)
  have hl : lv_has ls 4 [(0, .ref (a 0)), (1, .int cy), (2, .int its)] := hl
  refine lv_aload_n hx hb dL_cycle_0 rfl (lv_at hl 0 rfl) ?_
  refine lv_iload_n hx hb dL_cycle_1 rfl (lv_at hl 1 rfl) ?_
  refine lv_iload_n hx hb dL_cycle_2 rfl (lv_at hl 2 rfl) ?_
  refine o_catVi (E0 := "java/lang/IndexOutOfBoundsException") (hpc := 7) (σ := σ) (As := [.int cy, .int its]) (rest := []) ⟨hx, hb, hml, hown, hts⟩ hG hP hS hsz hE (xc_X5_cycle_x1 l D cI a H.size σ cy its hx0 hlf) (cwV 2 hts gL_cycle_X5_cycle rfl rfl rfl (by decide +kernel) ⟨Nat.le_of_ble_eq_true rfl, Nat.le_of_ble_eq_true rfl⟩) rfl hl.1 rfl (Nat.le_of_ble_eq_true rfl) ⟨Nat.le_of_ble_eq_true rfl, Nat.le_of_ble_eq_true rfl⟩ dL_cycle_3 [] ⟨0, 6, 7, 14⟩ [⟨0, 6, 11, 17⟩] (by rw [ht]; rfl) (fun z hz => nomatch hz) (by decide) (by decide) (hts _ (List.mem_of_getElem? (i := 1) rfl)) (by decide) rfl (fun q9 H locs hP hS => ?_)
  refine lv_astore_n (lv' := [(3, .ref q9), (0, .ref (a 0)), (1, .int cy), (2, .int its)]) hx hb dL_cycle_7 rfl hl (by decide) rfl (fun ls hl => ?_)
  refine lv_ldc (v := -99999999) hx hb hown (hts _ (List.mem_of_getElem? (i := 3) rfl)) dL_cycle_8 ?_
  exact x_iret (σ := σ) hx hb hr hlk hsz hP hS rfl rfl rfl dL_cycle_10
set_option maxHeartbeats 4000000 in
set_option maxRecDepth 100000 in
theorem c_L_cycle_xd (l : Launch) (D : va_G) (cI : ClassId) (a : Nat → Nat) (sz : Nat) (σ : Sg) (cy : Int32) (its : Int32) (hc : vp_in cy 30) (hx0 : ¬ vp_in its 4) (hlf : l.stackTraces = false) : Met l yL_cycle wsL_cycle ({ frames := 7, cells := 1, slots := 6, locals := 104 }) (PcO D cI a sz σ [.ref (a 0), .int cy, .int its]) (QiW D 29 a (wX cI a) sz (-99999999) σ) 1 6 (AX 29 a sz) := by
  refine o_of (cc := cL_cycle) (maxL := 4) (ret := some .int) (hh := [(0, 6, 7, 14), (0, 6, 11, 17)]) (C := RL) rfl (by decide) rfl (Nat.le_of_ble_eq_true rfl) (fun p e s m below meth c hx hb hr hml hlk hts hown hsz ht hE hEC H hP hS hG ls hl => ?_)
  have hl : lv_has ls 4 [(0, .ref (a 0)), (1, .int cy), (2, .int its)] := hl
  refine lv_aload_n hx hb dL_cycle_0 rfl (lv_at hl 0 rfl) ?_
  refine lv_iload_n hx hb dL_cycle_1 rfl (lv_at hl 1 rfl) ?_
  refine lv_iload_n hx hb dL_cycle_2 rfl (lv_at hl 2 rfl) ?_
  refine o_catVi (E0 := "java/lang/IllegalArgumentException") (hpc := 11) (σ := σ) (As := [.int cy, .int its]) (rest := []) ⟨hx, hb, hml, hown, hts⟩ hG hP hS hsz hE (xc_X5_cycle_xd l D cI a H.size σ cy its hc hx0 hlf) (cwV 2 hts gL_cycle_X5_cycle rfl rfl rfl (by decide +kernel) ⟨Nat.le_of_ble_eq_true rfl, Nat.le_of_ble_eq_true rfl⟩) rfl hl.1 rfl (Nat.le_of_ble_eq_true rfl) ⟨Nat.le_of_ble_eq_true rfl, Nat.le_of_ble_eq_true rfl⟩ dL_cycle_3 [⟨0, 6, 7, 14⟩] ⟨0, 6, 11, 17⟩ [] (by rw [ht]; rfl) (fun z hz => by cases List.mem_singleton.mp hz; exact Or.inr ⟨by decide, _, (hts _ (List.mem_of_getElem? (i := 1) rfl)), hEC.1⟩) (by decide) (by decide) (hts _ (List.mem_of_getElem? (i := 2) rfl)) (by decide) rfl (fun q9 H locs hP hS => ?_)
  refine lv_astore_n (lv' := [(3, .ref q9), (0, .ref (a 0)), (1, .int cy), (2, .int its)]) hx hb dL_cycle_11 rfl hl (by decide) rfl (fun ls hl => ?_)
  refine lv_ldc (v := -99999999) hx hb hown (hts _ (List.mem_of_getElem? (i := 3) rfl)) dL_cycle_12 ?_
  exact x_iret (σ := σ) hx hb hr hlk hsz hP hS rfl rfl rfl dL_cycle_14
set_option maxHeartbeats 4000000 in
set_option maxRecDepth 100000 in
theorem c_L_station (l : Launch) (D : va_G) (cI : ClassId) (a : Nat → Nat) (sz : Nat) (σ : Sg) (st : Int32) (its : Int32) (hs : vp_in st 8) (hw5 : vp_in its 5) : Met l yL_station wsL_station ({ frames := 3, cells := 0, slots := 0, locals := 69 }) (PcO D cI a sz σ [.ref (a 0), .int st, .int its]) (QiW D 29 a (wX cI a) sz (r_X5_station σ st its) (σ)) 0 0 (AX 29 a sz) := by
  refine o_of (cc := cL_station) (maxL := 4) (ret := some .int) (hh := [(0, 6, 7, 14), (0, 6, 11, 17)]) (C := RL) rfl (by decide) rfl (Nat.le_of_ble_eq_true rfl) (fun p e s m below meth c hx hb hr hml hlk hts hown hsz ht hE hEC H hP hS hG ls hl => ?_)
  have hl : lv_has ls 4 [(0, .ref (a 0)), (1, .int st), (2, .int its)] := hl
  refine lv_aload_n hx hb dL_station_0 rfl (lv_at hl 0 rfl) ?_
  refine lv_iload_n hx hb dL_station_1 rfl (lv_at hl 1 rfl) ?_
  refine lv_iload_n hx hb dL_station_2 rfl (lv_at hl 2 rfl) ?_
  refine x_callVi (w := wX cI a) (σ := σ) (σ' := σ) (As := [.int st, .int its]) (rest := []) (q0 := 0) (ci := 5) (C := RX5) ⟨hx, hb, hml, hown, hts⟩ hG hP hS hsz (c_X5_station l D cI a H.size σ st its hs hw5) (cwV 2 hts gL_station_X5_station rfl rfl rfl (by decide +kernel) ⟨Nat.le_of_ble_eq_true rfl, Nat.le_of_ble_eq_true rfl⟩) rfl rfl rfl rfl hl.1 rfl (Nat.le_of_ble_eq_true rfl) ⟨Nat.zero_le _, Nat.zero_le _⟩ dL_station_3 (fun H locs hP hS => ?_)
  exact x_iret (σ := σ) hx hb hr hlk hsz hP hS rfl rfl rfl dL_station_6
set_option maxHeartbeats 4000000 in
set_option maxRecDepth 100000 in
theorem c_L_station_x1 (l : Launch) (D : va_G) (cI : ClassId) (a : Nat → Nat) (sz : Nat) (σ : Sg) (st : Int32) (its : Int32) (hx0 : ¬ (vp_in st 8)) (hlf : l.stackTraces = false) : Met l yL_station wsL_station ({ frames := 8, cells := 1, slots := 6, locals := 124 }) (PcO D cI a sz σ [.ref (a 0), .int st, .int its]) (QiW D 29 a (wX cI a) sz (-99999999) σ) 1 6 (AX 29 a sz) := by
  refine o_of (cc := cL_station) (maxL := 4) (ret := some .int) (hh := [(0, 6, 7, 14), (0, 6, 11, 17)]) (C := RL) rfl (by decide) rfl (Nat.le_of_ble_eq_true rfl) (fun p e s m below meth c hx hb hr hml hlk hts hown hsz ht hE hEC H hP hS hG ls hl => ?_)
  have hl : lv_has ls 4 [(0, .ref (a 0)), (1, .int st), (2, .int its)] := hl
  refine lv_aload_n hx hb dL_station_0 rfl (lv_at hl 0 rfl) ?_
  refine lv_iload_n hx hb dL_station_1 rfl (lv_at hl 1 rfl) ?_
  refine lv_iload_n hx hb dL_station_2 rfl (lv_at hl 2 rfl) ?_
  refine o_catVi (E0 := "java/lang/IndexOutOfBoundsException") (hpc := 7) (σ := σ) (As := [.int st, .int its]) (rest := []) ⟨hx, hb, hml, hown, hts⟩ hG hP hS hsz hE (xc_X5_station_x1 l D cI a H.size σ st its hx0 hlf) (cwV 2 hts gL_station_X5_station rfl rfl rfl (by decide +kernel) ⟨Nat.le_of_ble_eq_true rfl, Nat.le_of_ble_eq_true rfl⟩) rfl hl.1 rfl (Nat.le_of_ble_eq_true rfl) ⟨Nat.le_of_ble_eq_true rfl, Nat.le_of_ble_eq_true rfl⟩ dL_station_3 [] ⟨0, 6, 7, 14⟩ [⟨0, 6, 11, 17⟩] (by rw [ht]; rfl) (fun z hz => nomatch hz) (by decide) (by decide) (hts _ (List.mem_of_getElem? (i := 1) rfl)) (by decide) rfl (fun q9 H locs hP hS => ?_)
  refine lv_astore_n (lv' := [(3, .ref q9), (0, .ref (a 0)), (1, .int st), (2, .int its)]) hx hb dL_station_7 rfl hl (by decide) rfl (fun ls hl => ?_)
  refine lv_ldc (v := -99999999) hx hb hown (hts _ (List.mem_of_getElem? (i := 3) rfl)) dL_station_8 ?_
  exact x_iret (σ := σ) hx hb hr hlk hsz hP hS rfl rfl rfl dL_station_10
set_option maxHeartbeats 4000000 in
set_option maxRecDepth 100000 in
theorem c_L_station_xd (l : Launch) (D : va_G) (cI : ClassId) (a : Nat → Nat) (sz : Nat) (σ : Sg) (st : Int32) (its : Int32) (hs : vp_in st 8) (hx0 : ¬ vp_in its 5) (hlf : l.stackTraces = false) : Met l yL_station wsL_station ({ frames := 7, cells := 1, slots := 6, locals := 104 }) (PcO D cI a sz σ [.ref (a 0), .int st, .int its]) (QiW D 29 a (wX cI a) sz (-99999999) σ) 1 6 (AX 29 a sz) := by
  refine o_of (cc := cL_station) (maxL := 4) (ret := some .int) (hh := [(0, 6, 7, 14), (0, 6, 11, 17)]) (C := RL) rfl (by decide) rfl (Nat.le_of_ble_eq_true rfl) (fun p e s m below meth c hx hb hr hml hlk hts hown hsz ht hE hEC H hP hS hG ls hl => ?_)
  have hl : lv_has ls 4 [(0, .ref (a 0)), (1, .int st), (2, .int its)] := hl
  refine lv_aload_n hx hb dL_station_0 rfl (lv_at hl 0 rfl) ?_
  refine lv_iload_n hx hb dL_station_1 rfl (lv_at hl 1 rfl) ?_
  refine lv_iload_n hx hb dL_station_2 rfl (lv_at hl 2 rfl) ?_
  refine o_catVi (E0 := "java/lang/IllegalArgumentException") (hpc := 11) (σ := σ) (As := [.int st, .int its]) (rest := []) ⟨hx, hb, hml, hown, hts⟩ hG hP hS hsz hE (xc_X5_station_xd l D cI a H.size σ st its hs hx0 hlf) (cwV 2 hts gL_station_X5_station rfl rfl rfl (by decide +kernel) ⟨Nat.le_of_ble_eq_true rfl, Nat.le_of_ble_eq_true rfl⟩) rfl hl.1 rfl (Nat.le_of_ble_eq_true rfl) ⟨Nat.le_of_ble_eq_true rfl, Nat.le_of_ble_eq_true rfl⟩ dL_station_3 [⟨0, 6, 7, 14⟩] ⟨0, 6, 11, 17⟩ [] (by rw [ht]; rfl) (fun z hz => by cases List.mem_singleton.mp hz; exact Or.inr ⟨by decide, _, (hts _ (List.mem_of_getElem? (i := 1) rfl)), hEC.1⟩) (by decide) (by decide) (hts _ (List.mem_of_getElem? (i := 2) rfl)) (by decide) rfl (fun q9 H locs hP hS => ?_)
  refine lv_astore_n (lv' := [(3, .ref q9), (0, .ref (a 0)), (1, .int st), (2, .int its)]) hx hb dL_station_11 rfl hl (by decide) rfl (fun ls hl => ?_)
  refine lv_ldc (v := -99999999) hx hb hown (hts _ (List.mem_of_getElem? (i := 3) rfl)) dL_station_12 ?_
  exact x_iret (σ := σ) hx hb hr hlk hsz hP hS rfl rfl rfl dL_station_14
set_option maxHeartbeats 4000000 in
set_option maxRecDepth 100000 in
theorem c_L_rider (l : Launch) (D : va_G) (cI : ClassId) (a : Nat → Nat) (sz : Nat) (σ : Sg) (ri : Int32) (its : Int32) (hr1 : vp_in ri 10) (hw5 : vp_in its 5) : Met l yL_rider wsL_rider ({ frames := 4, cells := 0, slots := 0, locals := 81 }) (PcO D cI a sz σ [.ref (a 0), .int ri, .int its]) (QiW D 29 a (wX cI a) sz (r_X5_rider σ ri its) (σ)) 0 0 (AX 29 a sz) := by
  refine o_of (cc := cL_rider) (maxL := 4) (ret := some .int) (hh := [(0, 6, 7, 14), (0, 6, 11, 17)]) (C := RL) rfl (by decide) rfl (Nat.le_of_ble_eq_true rfl) (fun p e s m below meth c hx hb hr hml hlk hts hown hsz ht hE hEC H hP hS hG ls hl => ?_)
  have hl : lv_has ls 4 [(0, .ref (a 0)), (1, .int ri), (2, .int its)] := hl
  refine lv_aload_n hx hb dL_rider_0 rfl (lv_at hl 0 rfl) ?_
  refine lv_iload_n hx hb dL_rider_1 rfl (lv_at hl 1 rfl) ?_
  refine lv_iload_n hx hb dL_rider_2 rfl (lv_at hl 2 rfl) ?_
  refine x_callVi (w := wX cI a) (σ := σ) (σ' := σ) (As := [.int ri, .int its]) (rest := []) (q0 := 0) (ci := 5) (C := RX5) ⟨hx, hb, hml, hown, hts⟩ hG hP hS hsz (c_X5_rider l D cI a H.size σ ri its hr1 hw5) (cwV 2 hts gL_rider_X5_rider rfl rfl rfl (by decide +kernel) ⟨Nat.le_of_ble_eq_true rfl, Nat.le_of_ble_eq_true rfl⟩) rfl rfl rfl rfl hl.1 rfl (Nat.le_of_ble_eq_true rfl) ⟨Nat.zero_le _, Nat.zero_le _⟩ dL_rider_3 (fun H locs hP hS => ?_)
  exact x_iret (σ := σ) hx hb hr hlk hsz hP hS rfl rfl rfl dL_rider_6
set_option maxHeartbeats 4000000 in
set_option maxRecDepth 100000 in
theorem c_L_rider_x1 (l : Launch) (D : va_G) (cI : ClassId) (a : Nat → Nat) (sz : Nat) (σ : Sg) (ri : Int32) (its : Int32) (hx0 : ¬ (vp_in ri 10)) (hlf : l.stackTraces = false) : Met l yL_rider wsL_rider ({ frames := 8, cells := 1, slots := 6, locals := 124 }) (PcO D cI a sz σ [.ref (a 0), .int ri, .int its]) (QiW D 29 a (wX cI a) sz (-99999999) σ) 1 6 (AX 29 a sz) := by
  refine o_of (cc := cL_rider) (maxL := 4) (ret := some .int) (hh := [(0, 6, 7, 14), (0, 6, 11, 17)]) (C := RL) rfl (by decide) rfl (Nat.le_of_ble_eq_true rfl) (fun p e s m below meth c hx hb hr hml hlk hts hown hsz ht hE hEC H hP hS hG ls hl => ?_)
  have hl : lv_has ls 4 [(0, .ref (a 0)), (1, .int ri), (2, .int its)] := hl
  refine lv_aload_n hx hb dL_rider_0 rfl (lv_at hl 0 rfl) ?_
  refine lv_iload_n hx hb dL_rider_1 rfl (lv_at hl 1 rfl) ?_
  refine lv_iload_n hx hb dL_rider_2 rfl (lv_at hl 2 rfl) ?_
  refine o_catVi (E0 := "java/lang/IndexOutOfBoundsException") (hpc := 7) (σ := σ) (As := [.int ri, .int its]) (rest := []) ⟨hx, hb, hml, hown, hts⟩ hG hP hS hsz hE (xc_X5_rider_x1 l D cI a H.size σ ri its hx0 hlf) (cwV 2 hts gL_rider_X5_rider rfl rfl rfl (by decide +kernel) ⟨Nat.le_of_ble_eq_true rfl, Nat.le_of_ble_eq_true rfl⟩) rfl hl.1 rfl (Nat.le_of_ble_eq_true rfl) ⟨Nat.le_of_ble_eq_true rfl, Nat.le_of_ble_eq_true rfl⟩ dL_rider_3 [] ⟨0, 6, 7, 14⟩ [⟨0, 6, 11, 17⟩] (by rw [ht]; rfl) (fun z hz => nomatch hz) (by decide) (by decide) (hts _ (List.mem_of_getElem? (i := 1) rfl)) (by decide) rfl (fun q9 H locs hP hS => ?_)
  refine lv_astore_n (lv' := [(3, .ref q9), (0, .ref (a 0)), (1, .int ri), (2, .int its)]) hx hb dL_rider_7 rfl hl (by decide) rfl (fun ls hl => ?_)
  refine lv_ldc (v := -99999999) hx hb hown (hts _ (List.mem_of_getElem? (i := 3) rfl)) dL_rider_8 ?_
  exact x_iret (σ := σ) hx hb hr hlk hsz hP hS rfl rfl rfl dL_rider_10
set_option maxHeartbeats 4000000 in
set_option maxRecDepth 100000 in
theorem c_L_rider_xd (l : Launch) (D : va_G) (cI : ClassId) (a : Nat → Nat) (sz : Nat) (σ : Sg) (ri : Int32) (its : Int32) (hr1 : vp_in ri 10) (hx0 : ¬ vp_in its 5) (hlf : l.stackTraces = false) : Met l yL_rider wsL_rider ({ frames := 7, cells := 1, slots := 6, locals := 104 }) (PcO D cI a sz σ [.ref (a 0), .int ri, .int its]) (QiW D 29 a (wX cI a) sz (-99999999) σ) 1 6 (AX 29 a sz) := by
  refine o_of (cc := cL_rider) (maxL := 4) (ret := some .int) (hh := [(0, 6, 7, 14), (0, 6, 11, 17)]) (C := RL) rfl (by decide) rfl (Nat.le_of_ble_eq_true rfl) (fun p e s m below meth c hx hb hr hml hlk hts hown hsz ht hE hEC H hP hS hG ls hl => ?_)
  have hl : lv_has ls 4 [(0, .ref (a 0)), (1, .int ri), (2, .int its)] := hl
  refine lv_aload_n hx hb dL_rider_0 rfl (lv_at hl 0 rfl) ?_
  refine lv_iload_n hx hb dL_rider_1 rfl (lv_at hl 1 rfl) ?_
  refine lv_iload_n hx hb dL_rider_2 rfl (lv_at hl 2 rfl) ?_
  refine o_catVi (E0 := "java/lang/IllegalArgumentException") (hpc := 11) (σ := σ) (As := [.int ri, .int its]) (rest := []) ⟨hx, hb, hml, hown, hts⟩ hG hP hS hsz hE (xc_X5_rider_xd l D cI a H.size σ ri its hr1 hx0 hlf) (cwV 2 hts gL_rider_X5_rider rfl rfl rfl (by decide +kernel) ⟨Nat.le_of_ble_eq_true rfl, Nat.le_of_ble_eq_true rfl⟩) rfl hl.1 rfl (Nat.le_of_ble_eq_true rfl) ⟨Nat.le_of_ble_eq_true rfl, Nat.le_of_ble_eq_true rfl⟩ dL_rider_3 [⟨0, 6, 7, 14⟩] ⟨0, 6, 11, 17⟩ [] (by rw [ht]; rfl) (fun z hz => by cases List.mem_singleton.mp hz; exact Or.inr ⟨by decide, _, (hts _ (List.mem_of_getElem? (i := 1) rfl)), hEC.1⟩) (by decide) (by decide) (hts _ (List.mem_of_getElem? (i := 2) rfl)) (by decide) rfl (fun q9 H locs hP hS => ?_)
  refine lv_astore_n (lv' := [(3, .ref q9), (0, .ref (a 0)), (1, .int ri), (2, .int its)]) hx hb dL_rider_11 rfl hl (by decide) rfl (fun ls hl => ?_)
  refine lv_ldc (v := -99999999) hx hb hown (hts _ (List.mem_of_getElem? (i := 3) rfl)) dL_rider_12 ?_
  exact x_iret (σ := σ) hx hb hr hlk hsz hP hS rfl rfl rfl dL_rider_14
set_option maxHeartbeats 4000000 in
set_option maxRecDepth 100000 in
theorem c_L_nearest (l : Launch) (D : va_G) (cI : ClassId) (a : Nat → Nat) (sz : Nat) (σ : Sg) (st : Int32) (hs : vp_in st 8) (hgr : GRX σ) : Met l yL_nearest wsL_nearest ({ frames := 3, cells := 0, slots := 0, locals := 83 }) (PcO D cI a sz σ [.ref (a 0), .int st]) (QiW D 29 a (wX cI a) sz (r_X5_nearest σ st) (σ)) 0 0 (AX 29 a sz) := by
  refine o_of (cc := cL_nearest) (maxL := 3) (ret := some .int) (hh := [(0, 5, 6, 14)]) (C := RL) rfl (by decide) rfl (Nat.le_of_ble_eq_true rfl) (fun p e s m below meth c hx hb hr hml hlk hts hown hsz ht hE hEC H hP hS hG ls hl => ?_)
  have hl : lv_has ls 3 [(0, .ref (a 0)), (1, .int st)] := hl
  refine lv_aload_n hx hb dL_nearest_0 rfl (lv_at hl 0 rfl) ?_
  refine lv_iload_n hx hb dL_nearest_1 rfl (lv_at hl 1 rfl) ?_
  refine x_callVi (w := wX cI a) (σ := σ) (σ' := σ) (As := [.int st]) (rest := []) (q0 := 0) (ci := 5) (C := RX5) ⟨hx, hb, hml, hown, hts⟩ hG hP hS hsz (c_X5_nearest l D cI a H.size σ st hs hgr) (cwV 1 hts gL_nearest_X5_nearest rfl rfl rfl (by decide +kernel) ⟨Nat.le_of_ble_eq_true rfl, Nat.le_of_ble_eq_true rfl⟩) rfl rfl rfl rfl hl.1 rfl (Nat.le_of_ble_eq_true rfl) ⟨Nat.zero_le _, Nat.zero_le _⟩ dL_nearest_2 (fun H locs hP hS => ?_)
  exact x_iret (σ := σ) hx hb hr hlk hsz hP hS rfl rfl rfl dL_nearest_5
set_option maxHeartbeats 4000000 in
set_option maxRecDepth 100000 in
theorem c_L_nearest_x1 (l : Launch) (D : va_G) (cI : ClassId) (a : Nat → Nat) (sz : Nat) (σ : Sg) (st : Int32) (hx0 : ¬ (vp_in st 8)) (hlf : l.stackTraces = false) : Met l yL_nearest wsL_nearest ({ frames := 8, cells := 1, slots := 6, locals := 129 }) (PcO D cI a sz σ [.ref (a 0), .int st]) (QiW D 29 a (wX cI a) sz (-99999999) σ) 1 6 (AX 29 a sz) := by
  refine o_of (cc := cL_nearest) (maxL := 3) (ret := some .int) (hh := [(0, 5, 6, 14)]) (C := RL) rfl (by decide) rfl (Nat.le_of_ble_eq_true rfl) (fun p e s m below meth c hx hb hr hml hlk hts hown hsz ht hE hEC H hP hS hG ls hl => ?_)
  have hl : lv_has ls 3 [(0, .ref (a 0)), (1, .int st)] := hl
  refine lv_aload_n hx hb dL_nearest_0 rfl (lv_at hl 0 rfl) ?_
  refine lv_iload_n hx hb dL_nearest_1 rfl (lv_at hl 1 rfl) ?_
  refine o_catVi (E0 := "java/lang/IndexOutOfBoundsException") (hpc := 6) (σ := σ) (As := [.int st]) (rest := []) ⟨hx, hb, hml, hown, hts⟩ hG hP hS hsz hE (xc_X5_nearest_x1 l D cI a H.size σ st hx0 hlf) (cwV 1 hts gL_nearest_X5_nearest rfl rfl rfl (by decide +kernel) ⟨Nat.le_of_ble_eq_true rfl, Nat.le_of_ble_eq_true rfl⟩) rfl hl.1 rfl (Nat.le_of_ble_eq_true rfl) ⟨Nat.le_of_ble_eq_true rfl, Nat.le_of_ble_eq_true rfl⟩ dL_nearest_2 [] ⟨0, 5, 6, 14⟩ [] (by rw [ht]; rfl) (fun z hz => nomatch hz) (by decide) (by decide) (hts _ (List.mem_of_getElem? (i := 1) rfl)) (by decide) rfl (fun q9 H locs hP hS => ?_)
  refine lv_astore_n (lv' := [(2, .ref q9), (0, .ref (a 0)), (1, .int st)]) hx hb dL_nearest_6 rfl hl (by decide) rfl (fun ls hl => ?_)
  refine lv_ldc (v := -99999999) hx hb hown (hts _ (List.mem_of_getElem? (i := 2) rfl)) dL_nearest_7 ?_
  exact x_iret (σ := σ) hx hb hr hlk hsz hP hS rfl rfl rfl dL_nearest_9
set_option maxHeartbeats 4000000 in
set_option maxRecDepth 100000 in
theorem c_L_way (l : Launch) (D : va_G) (cI : ClassId) (a : Nat → Nat) (sz : Nat) (σ : Sg) (st : Int32) (ot : Int32) (hs : vp_in st 8) (hs2 : vp_in ot 8) (hgr : GRX σ) : Met l yL_way wsL_way ({ frames := 3, cells := 0, slots := 0, locals := 78 }) (PcO D cI a sz σ [.ref (a 0), .int st, .int ot]) (QiW D 29 a (wX cI a) sz (r_X5_way σ st ot) (σ)) 0 0 (AX 29 a sz) := by
  refine o_of (cc := cL_way) (maxL := 4) (ret := some .int) (hh := [(0, 6, 7, 14)]) (C := RL) rfl (by decide) rfl (Nat.le_of_ble_eq_true rfl) (fun p e s m below meth c hx hb hr hml hlk hts hown hsz ht hE hEC H hP hS hG ls hl => ?_)
  have hl : lv_has ls 4 [(0, .ref (a 0)), (1, .int st), (2, .int ot)] := hl
  refine lv_aload_n hx hb dL_way_0 rfl (lv_at hl 0 rfl) ?_
  refine lv_iload_n hx hb dL_way_1 rfl (lv_at hl 1 rfl) ?_
  refine lv_iload_n hx hb dL_way_2 rfl (lv_at hl 2 rfl) ?_
  refine x_callVi (w := wX cI a) (σ := σ) (σ' := σ) (As := [.int st, .int ot]) (rest := []) (q0 := 0) (ci := 5) (C := RX5) ⟨hx, hb, hml, hown, hts⟩ hG hP hS hsz (c_X5_way l D cI a H.size σ st ot hs hs2 hgr) (cwV 2 hts gL_way_X5_way rfl rfl rfl (by decide +kernel) ⟨Nat.le_of_ble_eq_true rfl, Nat.le_of_ble_eq_true rfl⟩) rfl rfl rfl rfl hl.1 rfl (Nat.le_of_ble_eq_true rfl) ⟨Nat.zero_le _, Nat.zero_le _⟩ dL_way_3 (fun H locs hP hS => ?_)
  exact x_iret (σ := σ) hx hb hr hlk hsz hP hS rfl rfl rfl dL_way_6
set_option maxHeartbeats 4000000 in
set_option maxRecDepth 100000 in
theorem c_L_way_x1 (l : Launch) (D : va_G) (cI : ClassId) (a : Nat → Nat) (sz : Nat) (σ : Sg) (st : Int32) (ot : Int32) (hx0 : ¬ (vp_in st 8)) (hlf : l.stackTraces = false) : Met l yL_way wsL_way ({ frames := 8, cells := 1, slots := 6, locals := 124 }) (PcO D cI a sz σ [.ref (a 0), .int st, .int ot]) (QiW D 29 a (wX cI a) sz (-99999999) σ) 1 6 (AX 29 a sz) := by
  refine o_of (cc := cL_way) (maxL := 4) (ret := some .int) (hh := [(0, 6, 7, 14)]) (C := RL) rfl (by decide) rfl (Nat.le_of_ble_eq_true rfl) (fun p e s m below meth c hx hb hr hml hlk hts hown hsz ht hE hEC H hP hS hG ls hl => ?_)
  have hl : lv_has ls 4 [(0, .ref (a 0)), (1, .int st), (2, .int ot)] := hl
  refine lv_aload_n hx hb dL_way_0 rfl (lv_at hl 0 rfl) ?_
  refine lv_iload_n hx hb dL_way_1 rfl (lv_at hl 1 rfl) ?_
  refine lv_iload_n hx hb dL_way_2 rfl (lv_at hl 2 rfl) ?_
  refine o_catVi (E0 := "java/lang/IndexOutOfBoundsException") (hpc := 7) (σ := σ) (As := [.int st, .int ot]) (rest := []) ⟨hx, hb, hml, hown, hts⟩ hG hP hS hsz hE (xc_X5_way_x1 l D cI a H.size σ st ot hx0 hlf) (cwV 2 hts gL_way_X5_way rfl rfl rfl (by decide +kernel) ⟨Nat.le_of_ble_eq_true rfl, Nat.le_of_ble_eq_true rfl⟩) rfl hl.1 rfl (Nat.le_of_ble_eq_true rfl) ⟨Nat.le_of_ble_eq_true rfl, Nat.le_of_ble_eq_true rfl⟩ dL_way_3 [] ⟨0, 6, 7, 14⟩ [] (by rw [ht]; rfl) (fun z hz => nomatch hz) (by decide) (by decide) (hts _ (List.mem_of_getElem? (i := 1) rfl)) (by decide) rfl (fun q9 H locs hP hS => ?_)
  refine lv_astore_n (lv' := [(3, .ref q9), (0, .ref (a 0)), (1, .int st), (2, .int ot)]) hx hb dL_way_7 rfl hl (by decide) rfl (fun ls hl => ?_)
  refine lv_ldc (v := -99999999) hx hb hown (hts _ (List.mem_of_getElem? (i := 2) rfl)) dL_way_8 ?_
  exact x_iret (σ := σ) hx hb hr hlk hsz hP hS rfl rfl rfl dL_way_10
set_option maxHeartbeats 4000000 in
set_option maxRecDepth 100000 in
theorem c_L_way_x5 (l : Launch) (D : va_G) (cI : ClassId) (a : Nat → Nat) (sz : Nat) (σ : Sg) (st : Int32) (ot : Int32) (hs : vp_in st 8) (hx0 : ¬ (vp_in ot 8)) (hlf : l.stackTraces = false) : Met l yL_way wsL_way ({ frames := 8, cells := 1, slots := 6, locals := 124 }) (PcO D cI a sz σ [.ref (a 0), .int st, .int ot]) (QiW D 29 a (wX cI a) sz (-99999999) σ) 1 6 (AX 29 a sz) := by
  refine o_of (cc := cL_way) (maxL := 4) (ret := some .int) (hh := [(0, 6, 7, 14)]) (C := RL) rfl (by decide) rfl (Nat.le_of_ble_eq_true rfl) (fun p e s m below meth c hx hb hr hml hlk hts hown hsz ht hE hEC H hP hS hG ls hl => ?_)
  have hl : lv_has ls 4 [(0, .ref (a 0)), (1, .int st), (2, .int ot)] := hl
  refine lv_aload_n hx hb dL_way_0 rfl (lv_at hl 0 rfl) ?_
  refine lv_iload_n hx hb dL_way_1 rfl (lv_at hl 1 rfl) ?_
  refine lv_iload_n hx hb dL_way_2 rfl (lv_at hl 2 rfl) ?_
  refine o_catVi (E0 := "java/lang/IndexOutOfBoundsException") (hpc := 7) (σ := σ) (As := [.int st, .int ot]) (rest := []) ⟨hx, hb, hml, hown, hts⟩ hG hP hS hsz hE (xc_X5_way_x5 l D cI a H.size σ st ot hs hx0 hlf) (cwV 2 hts gL_way_X5_way rfl rfl rfl (by decide +kernel) ⟨Nat.le_of_ble_eq_true rfl, Nat.le_of_ble_eq_true rfl⟩) rfl hl.1 rfl (Nat.le_of_ble_eq_true rfl) ⟨Nat.le_of_ble_eq_true rfl, Nat.le_of_ble_eq_true rfl⟩ dL_way_3 [] ⟨0, 6, 7, 14⟩ [] (by rw [ht]; rfl) (fun z hz => nomatch hz) (by decide) (by decide) (hts _ (List.mem_of_getElem? (i := 1) rfl)) (by decide) rfl (fun q9 H locs hP hS => ?_)
  refine lv_astore_n (lv' := [(3, .ref q9), (0, .ref (a 0)), (1, .int st), (2, .int ot)]) hx hb dL_way_7 rfl hl (by decide) rfl (fun ls hl => ?_)
  refine lv_ldc (v := -99999999) hx hb hown (hts _ (List.mem_of_getElem? (i := 2) rfl)) dL_way_8 ?_
  exact x_iret (σ := σ) hx hb hr hlk hsz hP hS rfl rfl rfl dL_way_10
