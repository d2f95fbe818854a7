theorem d1_s1 {σ : Sg} {i : Nat} (h : r_X5_cycle σ (nI i) 0 = 1) : sm (d1 σ) i + 1 = sm (d1 σ) (i + 1) := by
  show _ = sm (d1 σ) i + d1 σ i
  unfold d1
  rw [if_pos h]
theorem d1_s0 {σ : Sg} {i : Nat} (h : ¬ r_X5_cycle σ (nI i) 0 = 1) : sm (d1 σ) i + 0 = sm (d1 σ) (i + 1) := by
  show _ = sm (d1 σ) i + d1 σ i
  unfold d1
  rw [if_neg h]
set_option maxHeartbeats 4000000 in
set_option maxRecDepth 100000 in
theorem c_L_isSo (l : Launch) (D : va_G) (cI : ClassId) (a : Nat → Nat) (sz : Nat) (σ : Sg) (n : Nat) (hm0 : MC σ n) (hlf : l.stackTraces = false) : Met l yL_isSo wsL_isSo ({ frames := 9, cells := 2, slots := 12, locals := 240 }) (PcO D cI a sz σ [.ref (a 0)]) (QiW D 29 a (wX cI a) sz 1 σ) 2 12 (AX 29 a sz) := by
  refine a_of (cc := cL_isSo) (maxL := 8) (ret := some .boolean) (C := RL) rfl (by decide) rfl (Nat.le_of_ble_eq_true rfl) (fun p e s m below meth c hx hb hr hml hlk hts hown hsz hE hEC H hP hS hG ls hl => ?_)
  have hl : lv_has ls 8 [(0, .ref (a 0))] := hl
  have S : CallFix p m c cL_isSo 8 s ([.ref (a 0)] : List Value).toArray wsL_isSo RL := ⟨hx, hb, hml, hown, hts⟩
  have loop3 : ∀ (N i : Nat) (H : Heap) (locs : List Loc) (ls : Array Slot), i + N = 8 → va_P D vwCl (wX cI a σ) H → va_S (AX 29 a sz) s.heap H locs → lv_has ls 8 [(6, .int (nI i)), (5, .int 1), (4, .int (sm (r1 σ) 10)), (3, .int (sm (c3 σ) 30)), (2, .int (sm (t1 σ) i)), (1, .int (sm (d1 σ) 30)), (0, .ref (a 0))] → W p l e (headSpec wsL_isSo ({ frames := 9, cells := 2, slots := 12, locals := 240 } : Room)).room s m ([.ref (a 0)] : List Value).toArray below meth c H locs 0 0 (MQ below (QiW D 29 a (wX cI a) sz 1 σ) ([.ref (a 0)] : List Value).toArray s 2 12 (AX 29 a sz)) (F0 m 208 ls []) := by
    intro N
    induction N with
    | zero =>
      intro i H locs ls hi hP hS hl
      obtain rfl : i = 8 := by omega
      refine lv_iload hx hb dL_isSo_208 (lv_at hl 0 rfl) ?_
      refine lv_bipush (v := 8) hx hb dL_isSo_210 (by decide) ?_
      refine lv_icmp_ge (tgt := 303) hx hb dL_isSo_212 (by decide) (fun _ => ?_) (fun h => absurd (by decide) h)
      refine lv_iload hx hb dL_isSo_303 (lv_at hl 1 rfl) ?_
      refine lv_if_eq (tgt := 347) hx hb dL_isSo_305 (by decide) (fun h => absurd h (by decide)) (fun _ => ?_)
      refine lv_iload_n hx hb dL_isSo_308 rfl (lv_at hl 5 rfl) ?_
      refine lv_iload_n hx hb dL_isSo_309 rfl (lv_at hl 4 rfl) ?_
      refine lv_icmp_ne (tgt := 347) hx hb dL_isSo_310 (by decide) (fun h => absurd (so_docked hm0) h) (fun _ => ?_)
      refine lv_iload_n hx hb dL_isSo_313 rfl (lv_at hl 3 rfl) ?_
      refine lv_iload hx hb dL_isSo_314 (lv_at hl 2 rfl) ?_
      refine lv_icmp_ne (tgt := 347) hx hb dL_isSo_316 (by decide) (fun h => absurd (so_minutes hm0) h) (fun _ => ?_)
      refine lv_aload_n hx hb dL_isSo_319 rfl (lv_at hl 6 rfl) ?_
      refine lv_bipush (v := 30) hx hb dL_isSo_320 (by decide) ?_
      refine lv_iconst (v := 0) hx hb dL_isSo_322 (by decide) ?_
      refine w_call (n := 3) (As := [.ref (a 0), .int 30, .int 0]) (rest := []) S hG hP hS hsz hE hEC (c_L_cycle_x1 l D cI a H.size σ 30 0 (fun q => q (Or.inr (by decide))) hlf) rfl rfl gL_isSo_L_cycle rfl (by decide +kernel) ⟨Nat.le_of_ble_eq_true rfl, Nat.le_of_ble_eq_true rfl⟩ rfl hl.1 rfl (Nat.le_of_ble_eq_true rfl) ⟨Nat.le_of_ble_eq_true rfl, Nat.le_of_ble_eq_true rfl⟩ dL_isSo_323 (fun H locs hP hS => ?_)
      refine lv_ldc (v := -99999999) hx hb S.2.2.2.1 (S.2.2.2.2 _ (List.mem_of_getElem? (i := 1) rfl)) dL_isSo_326 ?_
      refine lv_icmp_ne (tgt := 347) hx hb dL_isSo_328 (by decide) (fun h => absurd (by decide) h) (fun _ => ?_)
      refine lv_aload_n hx hb dL_isSo_331 rfl (lv_at hl 6 rfl) ?_
      refine lv_bipush (v := 8) hx hb dL_isSo_332 (by decide) ?_
      refine lv_iconst (v := 0) hx hb dL_isSo_334 (by decide) ?_
      refine w_call (n := 3) (As := [.ref (a 0), .int 8, .int 0]) (rest := []) S hG hP hS hsz hE hEC (c_L_station_x1 l D cI a H.size σ 8 0 (fun q => q (Or.inr (by decide))) hlf) rfl rfl gL_isSo_L_station rfl (by decide +kernel) ⟨Nat.le_of_ble_eq_true rfl, Nat.le_of_ble_eq_true rfl⟩ rfl hl.1 rfl (Nat.le_of_ble_eq_true rfl) ⟨Nat.le_of_ble_eq_true rfl, Nat.le_of_ble_eq_true rfl⟩ dL_isSo_335 (fun H locs hP hS => ?_)
      refine lv_ldc (v := -99999999) hx hb S.2.2.2.1 (S.2.2.2.2 _ (List.mem_of_getElem? (i := 1) rfl)) dL_isSo_338 ?_
      refine lv_icmp_ne (tgt := 347) hx hb dL_isSo_340 (by decide) (fun h => absurd (by decide) h) (fun _ => ?_)
      refine lv_iconst (v := 1) hx hb dL_isSo_343 (by decide) ?_
      refine lv_goto (tgt := 348) hx hb dL_isSo_344 (by decide) ?_
      exact x_iret (σ := σ) hx hb hr hlk hsz hP hS rfl rfl rfl dL_isSo_348
    | succ N ih =>
      intro i H locs ls hi hP hS hl
      refine lv_iload hx hb dL_isSo_208 (lv_at hl 0 rfl) ?_
      refine lv_bipush (v := 8) hx hb dL_isSo_210 (by decide) ?_
      refine lv_icmp_ge (tgt := 303) hx hb dL_isSo_212 (by decide) (fun h => absurd h (nI_ge (a := i) (b := 8) (by omega) (by decide))) (fun _ => ?_)
      have hs := so_s σ (show i < 8 by omega)
      by_cases f0 : r_X5_station σ (nI i) 0 - r_X5_station σ (nI i) 1 ≤ 0
      · refine lv_iload_n hx hb dL_isSo_215 rfl (lv_at hl 4 rfl) ?_
        refine lv_aload_n hx hb dL_isSo_216 rfl (lv_at hl 6 rfl) ?_
        refine lv_iload hx hb dL_isSo_217 (lv_at hl 0 rfl) ?_
        refine lv_iconst (v := 1) hx hb dL_isSo_219 (by decide) ?_
        refine x_callVi (w := wX cI a) (σ := σ) (σ' := σ) (As := [.int (nI i), .int 1]) (rest := [.int (sm (t1 σ) i)]) (q0 := 0) (ci := 5) (C := RX5) S hG hP hS hsz (c_X5_station l D cI a H.size σ (nI i) 1 (vp_in_nI (by omega) (by decide)) (vp_in_nI (n := 1) (by decide) (by decide))) (cwV 2 S.2.2.2.2 gL_isSo_X5_station rfl rfl rfl (by decide +kernel) ⟨Nat.le_of_ble_eq_true rfl, Nat.le_of_ble_eq_true rfl⟩) rfl rfl rfl rfl hl.1 rfl (Nat.le_of_ble_eq_true rfl) ⟨Nat.le_of_ble_eq_true rfl, Nat.le_of_ble_eq_true rfl⟩ dL_isSo_220 (fun H locs hP hS => ?_)
        refine lv_iadd hx hb dL_isSo_223 ?_
        refine lv_istore_n (lv' := [(2, .int ((sm (t1 σ) i) + (r_X5_station σ (nI i) 1))), (6, .int (nI i)), (5, .int 1), (4, .int (sm (r1 σ) 10)), (3, .int (sm (c3 σ) 30)), (1, .int (sm (d1 σ) 30)), (0, .ref (a 0))]) hx hb dL_isSo_224 rfl hl (by decide) rfl (fun ls hl => ?_)
        refine lv_aload_n hx hb dL_isSo_225 rfl (lv_at hl 6 rfl) ?_
        refine lv_iload hx hb dL_isSo_226 (lv_at hl 1 rfl) ?_
        refine lv_iconst (v := 0) hx hb dL_isSo_228 (by decide) ?_
        refine x_callVi (w := wX cI a) (σ := σ) (σ' := σ) (As := [.int (nI i), .int 0]) (rest := []) (q0 := 0) (ci := 5) (C := RX5) S hG hP hS hsz (c_X5_station l D cI a H.size σ (nI i) 0 (vp_in_nI (by omega) (by decide)) (vp_in_nI (n := 0) (by decide) (by decide))) (cwV 2 S.2.2.2.2 gL_isSo_X5_station rfl rfl rfl (by decide +kernel) ⟨Nat.le_of_ble_eq_true rfl, Nat.le_of_ble_eq_true rfl⟩) rfl rfl rfl rfl hl.1 rfl (Nat.le_of_ble_eq_true rfl) ⟨Nat.le_of_ble_eq_true rfl, Nat.le_of_ble_eq_true rfl⟩ dL_isSo_229 (fun H locs hP hS => ?_)
        refine lv_aload_n hx hb dL_isSo_232 rfl (lv_at hl 6 rfl) ?_
        refine lv_iload hx hb dL_isSo_233 (lv_at hl 1 rfl) ?_
        refine lv_iconst (v := 1) hx hb dL_isSo_235 (by decide) ?_
        refine x_callVi (w := wX cI a) (σ := σ) (σ' := σ) (As := [.int (nI i), .int 1]) (rest := [.int (r_X5_station σ (nI i) 0)]) (q0 := 0) (ci := 5) (C := RX5) S hG hP hS hsz (c_X5_station l D cI a H.size σ (nI i) 1 (vp_in_nI (by omega) (by decide)) (vp_in_nI (n := 1) (by decide) (by decide))) (cwV 2 S.2.2.2.2 gL_isSo_X5_station rfl rfl rfl (by decide +kernel) ⟨Nat.le_of_ble_eq_true rfl, Nat.le_of_ble_eq_true rfl⟩) rfl rfl rfl rfl hl.1 rfl (Nat.le_of_ble_eq_true rfl) ⟨Nat.le_of_ble_eq_true rfl, Nat.le_of_ble_eq_true rfl⟩ dL_isSo_236 (fun H locs hP hS => ?_)
        refine lv_isub hx hb dL_isSo_239 ?_
        refine lv_istore (lv' := [(7, .int ((r_X5_station σ (nI i) 0) - (r_X5_station σ (nI i) 1))), (2, .int ((sm (t1 σ) i) + (r_X5_station σ (nI i) 1))), (6, .int (nI i)), (5, .int 1), (4, .int (sm (r1 σ) 10)), (3, .int (sm (c3 σ) 30)), (1, .int (sm (d1 σ) 30)), (0, .ref (a 0))]) hx hb dL_isSo_240 hl (by decide) rfl (fun ls hl => ?_)
        refine lv_iload hx hb dL_isSo_242 (lv_at hl 3 rfl) ?_
        refine lv_if_eq (tgt := 294) hx hb dL_isSo_244 (by decide) (fun h => absurd h (by decide)) (fun _ => ?_)
        refine lv_aload_n hx hb dL_isSo_247 rfl (lv_at hl 7 rfl) ?_
        refine lv_iload hx hb dL_isSo_248 (lv_at hl 2 rfl) ?_
        refine lv_iconst (v := 2) hx hb dL_isSo_250 (by decide) ?_
        refine x_callVi (w := wX cI a) (σ := σ) (σ' := σ) (As := [.int (nI i), .int 2]) (rest := []) (q0 := 0) (ci := 5) (C := RX5) S hG hP hS hsz (c_X5_station l D cI a H.size σ (nI i) 2 (vp_in_nI (by omega) (by decide)) (vp_in_nI (n := 2) (by decide) (by decide))) (cwV 2 S.2.2.2.2 gL_isSo_X5_station rfl rfl rfl (by decide +kernel) ⟨Nat.le_of_ble_eq_true rfl, Nat.le_of_ble_eq_true rfl⟩) rfl rfl rfl rfl hl.1 rfl (Nat.le_of_ble_eq_true rfl) ⟨Nat.le_of_ble_eq_true rfl, Nat.le_of_ble_eq_true rfl⟩ dL_isSo_251 (fun H locs hP hS => ?_)
        refine lv_iload hx hb dL_isSo_254 (lv_at hl 0 rfl) ?_
        refine lv_if_le (tgt := 264) hx hb dL_isSo_256 (by decide) (fun _ => ?_) (fun h => absurd f0 h)
        refine lv_iconst (v := 0) hx hb dL_isSo_264 (by decide) ?_
        refine lv_icmp_ne (tgt := 294) hx hb dL_isSo_265 (by decide) (fun h => absurd (hs.1 f0) h) (fun _ => ?_)
        refine lv_aload_n hx hb dL_isSo_268 rfl (lv_at hl 7 rfl) ?_
        refine lv_iload hx hb dL_isSo_269 (lv_at hl 2 rfl) ?_
        refine lv_iload hx hb dL_isSo_271 (lv_at hl 2 rfl) ?_
        refine x_callVi (w := wX cI a) (σ := σ) (σ' := σ) (As := [.int (nI i), .int (nI i)]) (rest := []) (q0 := 0) (ci := 5) (C := RX5) S hG hP hS hsz (c_X5_way l D cI a H.size σ (nI i) (nI i) (vp_in_nI (by omega) (by decide)) (vp_in_nI (by omega) (by decide)) hm0.2.1) (cwV 2 S.2.2.2.2 gL_isSo_X5_way rfl rfl rfl (by decide +kernel) ⟨Nat.le_of_ble_eq_true rfl, Nat.le_of_ble_eq_true rfl⟩) rfl rfl rfl rfl hl.1 rfl (Nat.le_of_ble_eq_true rfl) ⟨Nat.le_of_ble_eq_true rfl, Nat.le_of_ble_eq_true rfl⟩ dL_isSo_273 (fun H locs hP hS => ?_)
        refine lv_if_ne (tgt := 294) hx hb dL_isSo_276 (by decide) (fun h => absurd (so_way σ _) h) (fun _ => ?_)
        refine lv_aload_n hx hb dL_isSo_279 rfl (lv_at hl 7 rfl) ?_
        refine lv_iload hx hb dL_isSo_280 (lv_at hl 2 rfl) ?_
        refine x_callVi (w := wX cI a) (σ := σ) (σ' := σ) (As := [.int (nI i)]) (rest := []) (q0 := 0) (ci := 5) (C := RX5) S hG hP hS hsz (c_X5_nearest l D cI a H.size σ (nI i) (vp_in_nI (by omega) (by decide)) hm0.2.1) (cwV 1 S.2.2.2.2 gL_isSo_X5_nearest rfl rfl rfl (by decide +kernel) ⟨Nat.le_of_ble_eq_true rfl, Nat.le_of_ble_eq_true rfl⟩) rfl rfl rfl rfl hl.1 rfl (Nat.le_of_ble_eq_true rfl) ⟨Nat.le_of_ble_eq_true rfl, Nat.le_of_ble_eq_true rfl⟩ dL_isSo_282 (fun H locs hP hS => ?_)
        refine lv_iload hx hb dL_isSo_285 (lv_at hl 2 rfl) ?_
        refine lv_icmp_eq (tgt := 294) hx hb dL_isSo_287 (by decide) (fun h => absurd h (so_near σ (show i < 8 by omega))) (fun _ => ?_)
        refine lv_iconst (v := 1) hx hb dL_isSo_290 (by decide) ?_
        refine lv_goto (tgt := 295) hx hb dL_isSo_291 (by decide) ?_
        refine lv_istore (lv' := [(5, .int 1), (7, .int ((r_X5_station σ (nI i) 0) - (r_X5_station σ (nI i) 1))), (2, .int ((sm (t1 σ) i) + (r_X5_station σ (nI i) 1))), (6, .int (nI i)), (4, .int (sm (r1 σ) 10)), (3, .int (sm (c3 σ) 30)), (1, .int (sm (d1 σ) 30)), (0, .ref (a 0))]) hx hb dL_isSo_295 hl (by decide) rfl (fun ls hl => ?_)
        refine lv_iinc (v := nI (i + 1)) (lv' := [(6, .int (nI (i + 1))), (5, .int 1), (7, .int ((r_X5_station σ (nI i) 0) - (r_X5_station σ (nI i) 1))), (2, .int ((sm (t1 σ) i) + (r_X5_station σ (nI i) 1))), (4, .int (sm (r1 σ) 10)), (3, .int (sm (c3 σ) 30)), (1, .int (sm (d1 σ) 30)), (0, .ref (a 0))]) hx hb dL_isSo_297 hl (k := 3) rfl (by rw [nI_succ]; rfl) (by decide) rfl (fun ls hl => ?_)
        refine lv_goto (tgt := 208) hx hb dL_isSo_300 (by decide) ?_
        exact ih (i + 1) H locs ls (by omega) hP hS (lv_sub hl [0, 1, 4, 5, 3, 6, 7] rfl)
      · refine lv_iload_n hx hb dL_isSo_215 rfl (lv_at hl 4 rfl) ?_
        refine lv_aload_n hx hb dL_isSo_216 rfl (lv_at hl 6 rfl) ?_
        refine lv_iload hx hb dL_isSo_217 (lv_at hl 0 rfl) ?_
        refine lv_iconst (v := 1) hx hb dL_isSo_219 (by decide) ?_
        refine x_callVi (w := wX cI a) (σ := σ) (σ' := σ) (As := [.int (nI i), .int 1]) (rest := [.int (sm (t1 σ) i)]) (q0 := 0) (ci := 5) (C := RX5) S hG hP hS hsz (c_X5_station l D cI a H.size σ (nI i) 1 (vp_in_nI (by omega) (by decide)) (vp_in_nI (n := 1) (by decide) (by decide))) (cwV 2 S.2.2.2.2 gL_isSo_X5_station rfl rfl rfl (by decide +kernel) ⟨Nat.le_of_ble_eq_true rfl, Nat.le_of_ble_eq_true rfl⟩) rfl rfl rfl rfl hl.1 rfl (Nat.le_of_ble_eq_true rfl) ⟨Nat.le_of_ble_eq_true rfl, Nat.le_of_ble_eq_true rfl⟩ dL_isSo_220 (fun H locs hP hS => ?_)
        refine lv_iadd hx hb dL_isSo_223 ?_
        refine lv_istore_n (lv' := [(2, .int ((sm (t1 σ) i) + (r_X5_station σ (nI i) 1))), (6, .int (nI i)), (5, .int 1), (4, .int (sm (r1 σ) 10)), (3, .int (sm (c3 σ) 30)), (1, .int (sm (d1 σ) 30)), (0, .ref (a 0))]) hx hb dL_isSo_224 rfl hl (by decide) rfl (fun ls hl => ?_)
        refine lv_aload_n hx hb dL_isSo_225 rfl (lv_at hl 6 rfl) ?_
        refine lv_iload hx hb dL_isSo_226 (lv_at hl 1 rfl) ?_
        refine lv_iconst (v := 0) hx hb dL_isSo_228 (by decide) ?_
        refine x_callVi (w := wX cI a) (σ := σ) (σ' := σ) (As := [.int (nI i), .int 0]) (rest := []) (q0 := 0) (ci := 5) (C := RX5) S hG hP hS hsz (c_X5_station l D cI a H.size σ (nI i) 0 (vp_in_nI (by omega) (by decide)) (vp_in_nI (n := 0) (by decide) (by decide))) (cwV 2 S.2.2.2.2 gL_isSo_X5_station rfl rfl rfl (by decide +kernel) ⟨Nat.le_of_ble_eq_true rfl, Nat.le_of_ble_eq_true rfl⟩) rfl rfl rfl rfl hl.1 rfl (Nat.le_of_ble_eq_true rfl) ⟨Nat.le_of_ble_eq_true rfl, Nat.le_of_ble_eq_true rfl⟩ dL_isSo_229 (fun H locs hP hS => ?_)
        refine lv_aload_n hx hb dL_isSo_232 rfl (lv_at hl 6 rfl) ?_
        refine lv_iload hx hb dL_isSo_233 (lv_at hl 1 rfl) ?_
        refine lv_iconst (v := 1) hx hb dL_isSo_235 (by decide) ?_
        refine x_callVi (w := wX cI a) (σ := σ) (σ' := σ) (As := [.int (nI i), .int 1]) (rest := [.int (r_X5_station σ (nI i) 0)]) (q0 := 0) (ci := 5) (C := RX5) S hG hP hS hsz (c_X5_station l D cI a H.size σ (nI i) 1 (vp_in_nI (by omega) (by decide)) (vp_in_nI (n := 1) (by decide) (by decide))) (cwV 2 S.2.2.2.2 gL_isSo_X5_station rfl rfl rfl (by decide +kernel) ⟨Nat.le_of_ble_eq_true rfl, Nat.le_of_ble_eq_true rfl⟩) rfl rfl rfl rfl hl.1 rfl (Nat.le_of_ble_eq_true rfl) ⟨Nat.le_of_ble_eq_true rfl, Nat.le_of_ble_eq_true rfl⟩ dL_isSo_236 (fun H locs hP hS => ?_)
        refine lv_isub hx hb dL_isSo_239 ?_
        refine lv_istore (lv' := [(7, .int ((r_X5_station σ (nI i) 0) - (r_X5_station σ (nI i) 1))), (2, .int ((sm (t1 σ) i) + (r_X5_station σ (nI i) 1))), (6, .int (nI i)), (5, .int 1), (4, .int (sm (r1 σ) 10)), (3, .int (sm (c3 σ) 30)), (1, .int (sm (d1 σ) 30)), (0, .ref (a 0))]) hx hb dL_isSo_240 hl (by decide) rfl (fun ls hl => ?_)
        refine lv_iload hx hb dL_isSo_242 (lv_at hl 3 rfl) ?_
        refine lv_if_eq (tgt := 294) hx hb dL_isSo_244 (by decide) (fun h => absurd h (by decide)) (fun _ => ?_)
        refine lv_aload_n hx hb dL_isSo_247 rfl (lv_at hl 7 rfl) ?_
        refine lv_iload hx hb dL_isSo_248 (lv_at hl 2 rfl) ?_
        refine lv_iconst (v := 2) hx hb dL_isSo_250 (by decide) ?_
        refine x_callVi (w := wX cI a) (σ := σ) (σ' := σ) (As := [.int (nI i), .int 2]) (rest := []) (q0 := 0) (ci := 5) (C := RX5) S hG hP hS hsz (c_X5_station l D cI a H.size σ (nI i) 2 (vp_in_nI (by omega) (by decide)) (vp_in_nI (n := 2) (by decide) (by decide))) (cwV 2 S.2.2.2.2 gL_isSo_X5_station rfl rfl rfl (by decide +kernel) ⟨Nat.le_of_ble_eq_true rfl, Nat.le_of_ble_eq_true rfl⟩) rfl rfl rfl rfl hl.1 rfl (Nat.le_of_ble_eq_true rfl) ⟨Nat.le_of_ble_eq_true rfl, Nat.le_of_ble_eq_true rfl⟩ dL_isSo_251 (fun H locs hP hS => ?_)
        refine lv_iload hx hb dL_isSo_254 (lv_at hl 0 rfl) ?_
        refine lv_if_le (tgt := 264) hx hb dL_isSo_256 (by decide) (fun h => absurd h f0) (fun _ => ?_)
        refine lv_iload hx hb dL_isSo_259 (lv_at hl 0 rfl) ?_
        refine lv_goto (tgt := 265) hx hb dL_isSo_261 (by decide) ?_
        refine lv_icmp_ne (tgt := 294) hx hb dL_isSo_265 (by decide) (fun h => absurd (hs.2 f0) h) (fun _ => ?_)
        refine lv_aload_n hx hb dL_isSo_268 rfl (lv_at hl 7 rfl) ?_
        refine lv_iload hx hb dL_isSo_269 (lv_at hl 2 rfl) ?_
        refine lv_iload hx hb dL_isSo_271 (lv_at hl 2 rfl) ?_
        refine x_callVi (w := wX cI a) (σ := σ) (σ' := σ) (As := [.int (nI i), .int (nI i)]) (rest := []) (q0 := 0) (ci := 5) (C := RX5) S hG hP hS hsz (c_X5_way l D cI a H.size σ (nI i) (nI i) (vp_in_nI (by omega) (by decide)) (vp_in_nI (by omega) (by decide)) hm0.2.1) (cwV 2 S.2.2.2.2 gL_isSo_X5_way rfl rfl rfl (by decide +kernel) ⟨Nat.le_of_ble_eq_true rfl, Nat.le_of_ble_eq_true rfl⟩) rfl rfl rfl rfl hl.1 rfl (Nat.le_of_ble_eq_true rfl) ⟨Nat.le_of_ble_eq_true rfl, Nat.le_of_ble_eq_true rfl⟩ dL_isSo_273 (fun H locs hP hS => ?_)
        refine lv_if_ne (tgt := 294) hx hb dL_isSo_276 (by decide) (fun h => absurd (so_way σ _) h) (fun _ => ?_)
        refine lv_aload_n hx hb dL_isSo_279 rfl (lv_at hl 7 rfl) ?_
        refine lv_iload hx hb dL_isSo_280 (lv_at hl 2 rfl) ?_
        refine x_callVi (w := wX cI a) (σ := σ) (σ' := σ) (As := [.int (nI i)]) (rest := []) (q0 := 0) (ci := 5) (C := RX5) S hG hP hS hsz (c_X5_nearest l D cI a H.size σ (nI i) (vp_in_nI (by omega) (by decide)) hm0.2.1) (cwV 1 S.2.2.2.2 gL_isSo_X5_nearest rfl rfl rfl (by decide +kernel) ⟨Nat.le_of_ble_eq_true rfl, Nat.le_of_ble_eq_true rfl⟩) rfl rfl rfl rfl hl.1 rfl (Nat.le_of_ble_eq_true rfl) ⟨Nat.le_of_ble_eq_true rfl, Nat.le_of_ble_eq_true rfl⟩ dL_isSo_282 (fun H locs hP hS => ?_)
        refine lv_iload hx hb dL_isSo_285 (lv_at hl 2 rfl) ?_
        refine lv_icmp_eq (tgt := 294) hx hb dL_isSo_287 (by decide) (fun h => absurd h (so_near σ (show i < 8 by omega))) (fun _ => ?_)
        refine lv_iconst (v := 1) hx hb dL_isSo_290 (by decide) ?_
        refine lv_goto (tgt := 295) hx hb dL_isSo_291 (by decide) ?_
        refine lv_istore (lv' := [(5, .int 1), (7, .int ((r_X5_station σ (nI i) 0) - (r_X5_station σ (nI i) 1))), (2, .int ((sm (t1 σ) i) + (r_X5_station σ (nI i) 1))), (6, .int (nI i)), (4, .int (sm (r1 σ) 10)), (3, .int (sm (c3 σ) 30)), (1, .int (sm (d1 σ) 30)), (0, .ref (a 0))]) hx hb dL_isSo_295 hl (by decide) rfl (fun ls hl => ?_)
        refine lv_iinc (v := nI (i + 1)) (lv' := [(6, .int (nI (i + 1))), (5, .int 1), (7, .int ((r_X5_station σ (nI i) 0) - (r_X5_station σ (nI i) 1))), (2, .int ((sm (t1 σ) i) + (r_X5_station σ (nI i) 1))), (4, .int (sm (r1 σ) 10)), (3, .int (sm (c3 σ) 30)), (1, .int (sm (d1 σ) 30)), (0, .ref (a 0))]) hx hb dL_isSo_297 hl (k := 3) rfl (by rw [nI_succ]; rfl) (by decide) rfl (fun ls hl => ?_)
        refine lv_goto (tgt := 208) hx hb dL_isSo_300 (by decide) ?_
        exact ih (i + 1) H locs ls (by omega) hP hS (lv_sub hl [0, 1, 4, 5, 3, 6, 7] rfl)
  have loop2 : ∀ (N i : Nat) (H : Heap) (locs : List Loc) (ls : Array Slot), i + N = 10 → va_P D vwCl (wX cI a σ) H → va_S (AX 29 a sz) s.heap H locs → lv_has ls 8 [(6, .int (nI i)), (5, .int 1), (4, .int (sm (r1 σ) i)), (3, .int (sm (c3 σ) 30)), (2, .int 0), (1, .int (sm (d1 σ) 30)), (0, .ref (a 0))] → W p l e (headSpec wsL_isSo ({ frames := 9, cells := 2, slots := 12, locals := 240 } : Room)).room s m ([.ref (a 0)] : List Value).toArray below meth c H locs 0 0 (MQ below (QiW D 29 a (wX cI a) sz 1 σ) ([.ref (a 0)] : List Value).toArray s 2 12 (AX 29 a sz)) (F0 m 125 ls []) := by
    intro N
    induction N with
    | zero =>
      intro i H locs ls hi hP hS hl
      obtain rfl : i = 10 := by omega
      refine lv_iload hx hb dL_isSo_125 (lv_at hl 0 rfl) ?_
      refine lv_bipush (v := 10) hx hb dL_isSo_127 (by decide) ?_
      refine lv_icmp_ge (tgt := 205) hx hb dL_isSo_129 (by decide) (fun _ => ?_) (fun h => absurd (by decide) h)
      refine lv_iconst (v := nI 0) hx hb dL_isSo_205 (by decide) ?_
      refine lv_istore (lv' := [(6, .int (nI 0)), (5, .int 1), (4, .int (sm (r1 σ) 10)), (3, .int (sm (c3 σ) 30)), (2, .int 0), (1, .int (sm (d1 σ) 30)), (0, .ref (a 0))]) hx hb dL_isSo_206 hl (by decide) rfl (fun ls hl => ?_)
      exact loop3 8 0 H locs ls (Nat.zero_add _) hP hS (lv_sub hl [0, 1, 2, 3, 4, 5, 6] rfl)
    | succ N ih =>
      intro i H locs ls hi hP hS hl
      refine lv_iload hx hb dL_isSo_125 (lv_at hl 0 rfl) ?_
      refine lv_bipush (v := 10) hx hb dL_isSo_127 (by decide) ?_
      refine lv_icmp_ge (tgt := 205) hx hb dL_isSo_129 (by decide) (fun h => absurd h (nI_ge (a := i) (b := 10) (by omega) (by decide))) (fun _ => ?_)
      have hr9 := so_r hm0 (show i < 10 by omega)
      refine lv_iload hx hb dL_isSo_132 (lv_at hl 2 rfl) ?_
      refine lv_aload_n hx hb dL_isSo_134 rfl (lv_at hl 6 rfl) ?_
      refine lv_iload hx hb dL_isSo_135 (lv_at hl 0 rfl) ?_
      refine lv_iconst (v := 1) hx hb dL_isSo_137 (by decide) ?_
      refine x_callVi (w := wX cI a) (σ := σ) (σ' := σ) (As := [.int (nI i), .int 1]) (rest := [.int (sm (r1 σ) i)]) (q0 := 0) (ci := 5) (C := RX5) S hG hP hS hsz (c_X5_rider l D cI a H.size σ (nI i) 1 (vp_in_nI (by omega) (by decide)) (vp_in_nI (n := 1) (by decide) (by decide))) (cwV 2 S.2.2.2.2 gL_isSo_X5_rider rfl rfl rfl (by decide +kernel) ⟨Nat.le_of_ble_eq_true rfl, Nat.le_of_ble_eq_true rfl⟩) rfl rfl rfl rfl hl.1 rfl (Nat.le_of_ble_eq_true rfl) ⟨Nat.le_of_ble_eq_true rfl, Nat.le_of_ble_eq_true rfl⟩ dL_isSo_138 (fun H locs hP hS => ?_)
      refine lv_iadd hx hb dL_isSo_141 ?_
      refine lv_istore (lv' := [(4, .int ((sm (r1 σ) i) + (r_X5_rider σ (nI i) 1))), (6, .int (nI i)), (5, .int 1), (3, .int (sm (c3 σ) 30)), (2, .int 0), (1, .int (sm (d1 σ) 30)), (0, .ref (a 0))]) hx hb dL_isSo_142 hl (by decide) rfl (fun ls hl => ?_)
      refine lv_iload hx hb dL_isSo_144 (lv_at hl 2 rfl) ?_
      refine lv_if_eq (tgt := 196) hx hb dL_isSo_146 (by decide) (fun h => absurd h (by decide)) (fun _ => ?_)
      refine lv_aload_n hx hb dL_isSo_149 rfl (lv_at hl 6 rfl) ?_
      refine lv_iload hx hb dL_isSo_150 (lv_at hl 1 rfl) ?_
      refine lv_iconst (v := 2) hx hb dL_isSo_152 (by decide) ?_
      refine x_callVi (w := wX cI a) (σ := σ) (σ' := σ) (As := [.int (nI i), .int 2]) (rest := []) (q0 := 0) (ci := 5) (C := RX5) S hG hP hS hsz (c_X5_rider l D cI a H.size σ (nI i) 2 (vp_in_nI (by omega) (by decide)) (vp_in_nI (n := 2) (by decide) (by decide))) (cwV 2 S.2.2.2.2 gL_isSo_X5_rider rfl rfl rfl (by decide +kernel) ⟨Nat.le_of_ble_eq_true rfl, Nat.le_of_ble_eq_true rfl⟩) rfl rfl rfl rfl hl.1 rfl (Nat.le_of_ble_eq_true rfl) ⟨Nat.le_of_ble_eq_true rfl, Nat.le_of_ble_eq_true rfl⟩ dL_isSo_153 (fun H locs hP hS => ?_)
      refine lv_bipush (v := 100) hx hb dL_isSo_156 (by decide) ?_
      refine lv_irem hx hb dL_isSo_158 (by decide) ?_
      refine lv_if_ne (tgt := 196) hx hb dL_isSo_159 (by decide) (fun h => absurd hr9.1 h) (fun _ => ?_)
      refine lv_aload_n hx hb dL_isSo_162 rfl (lv_at hl 6 rfl) ?_
      refine lv_iload hx hb dL_isSo_163 (lv_at hl 1 rfl) ?_
      refine lv_iconst (v := 3) hx hb dL_isSo_165 (by decide) ?_
      refine x_callVi (w := wX cI a) (σ := σ) (σ' := σ) (As := [.int (nI i), .int 3]) (rest := []) (q0 := 0) (ci := 5) (C := RX5) S hG hP hS hsz (c_X5_rider l D cI a H.size σ (nI i) 3 (vp_in_nI (by omega) (by decide)) (vp_in_nI (n := 3) (by decide) (by decide))) (cwV 2 S.2.2.2.2 gL_isSo_X5_rider rfl rfl rfl (by decide +kernel) ⟨Nat.le_of_ble_eq_true rfl, Nat.le_of_ble_eq_true rfl⟩) rfl rfl rfl rfl hl.1 rfl (Nat.le_of_ble_eq_true rfl) ⟨Nat.le_of_ble_eq_true rfl, Nat.le_of_ble_eq_true rfl⟩ dL_isSo_166 (fun H locs hP hS => ?_)
      refine lv_aload_n hx hb dL_isSo_169 rfl (lv_at hl 6 rfl) ?_
      refine lv_iload hx hb dL_isSo_170 (lv_at hl 1 rfl) ?_
      refine lv_iconst (v := 2) hx hb dL_isSo_172 (by decide) ?_
      refine x_callVi (w := wX cI a) (σ := σ) (σ' := σ) (As := [.int (nI i), .int 2]) (rest := [.int (r_X5_rider σ (nI i) 3)]) (q0 := 0) (ci := 5) (C := RX5) S hG hP hS hsz (c_X5_rider l D cI a H.size σ (nI i) 2 (vp_in_nI (by omega) (by decide)) (vp_in_nI (n := 2) (by decide) (by decide))) (cwV 2 S.2.2.2.2 gL_isSo_X5_rider rfl rfl rfl (by decide +kernel) ⟨Nat.le_of_ble_eq_true rfl, Nat.le_of_ble_eq_true rfl⟩) rfl rfl rfl rfl hl.1 rfl (Nat.le_of_ble_eq_true rfl) ⟨Nat.le_of_ble_eq_true rfl, Nat.le_of_ble_eq_true rfl⟩ dL_isSo_173 (fun H locs hP hS => ?_)
      refine lv_ineg hx hb dL_isSo_176 ?_
      refine lv_icmp_lt (tgt := 196) hx hb dL_isSo_177 (by decide) (fun h => absurd h hr9.2.1) (fun _ => ?_)
      refine lv_aload_n hx hb dL_isSo_180 rfl (lv_at hl 6 rfl) ?_
      refine lv_iload hx hb dL_isSo_181 (lv_at hl 1 rfl) ?_
      refine lv_iconst (v := 4) hx hb dL_isSo_183 (by decide) ?_
      refine x_callVi (w := wX cI a) (σ := σ) (σ' := σ) (As := [.int (nI i), .int 4]) (rest := []) (q0 := 0) (ci := 5) (C := RX5) S hG hP hS hsz (c_X5_rider l D cI a H.size σ (nI i) 4 (vp_in_nI (by omega) (by decide)) (vp_in_nI (n := 4) (by decide) (by decide))) (cwV 2 S.2.2.2.2 gL_isSo_X5_rider rfl rfl rfl (by decide +kernel) ⟨Nat.le_of_ble_eq_true rfl, Nat.le_of_ble_eq_true rfl⟩) rfl rfl rfl rfl hl.1 rfl (Nat.le_of_ble_eq_true rfl) ⟨Nat.le_of_ble_eq_true rfl, Nat.le_of_ble_eq_true rfl⟩ dL_isSo_184 (fun H locs hP hS => ?_)
      refine lv_bipush (v := 8) hx hb dL_isSo_187 (by decide) ?_
      refine lv_icmp_ge (tgt := 196) hx hb dL_isSo_189 (by decide) (fun h => absurd h hr9.2.2) (fun _ => ?_)
      refine lv_iconst (v := 1) hx hb dL_isSo_192 (by decide) ?_
      refine lv_goto (tgt := 197) hx hb dL_isSo_193 (by decide) ?_
      refine lv_istore (lv' := [(5, .int 1), (4, .int ((sm (r1 σ) i) + (r_X5_rider σ (nI i) 1))), (6, .int (nI i)), (3, .int (sm (c3 σ) 30)), (2, .int 0), (1, .int (sm (d1 σ) 30)), (0, .ref (a 0))]) hx hb dL_isSo_197 hl (by decide) rfl (fun ls hl => ?_)
      refine lv_iinc (v := nI (i + 1)) (lv' := [(6, .int (nI (i + 1))), (5, .int 1), (4, .int ((sm (r1 σ) i) + (r_X5_rider σ (nI i) 1))), (3, .int (sm (c3 σ) 30)), (2, .int 0), (1, .int (sm (d1 σ) 30)), (0, .ref (a 0))]) hx hb dL_isSo_199 hl (k := 2) rfl (by rw [nI_succ]; rfl) (by decide) rfl (fun ls hl => ?_)
      refine lv_goto (tgt := 125) hx hb dL_isSo_202 (by decide) ?_
      exact ih (i + 1) H locs ls (by omega) hP hS (lv_sub hl [0, 1, 2, 3, 4, 5, 6] rfl)
  have loop1 : ∀ (N i : Nat) (H : Heap) (locs : List Loc) (ls : Array Slot), i + N = 30 → va_P D vwCl (wX cI a σ) H → va_S (AX 29 a sz) s.heap H locs → lv_has ls 8 [(6, .int (nI i)), (5, .int 1), (4, .int 0), (3, .int (sm (c3 σ) i)), (2, .int 0), (1, .int (sm (d1 σ) i)), (0, .ref (a 0))] → W p l e (headSpec wsL_isSo ({ frames := 9, cells := 2, slots := 12, locals := 240 } : Room)).room s m ([.ref (a 0)] : List Value).toArray below meth c H locs 0 0 (MQ below (QiW D 29 a (wX cI a) sz 1 σ) ([.ref (a 0)] : List Value).toArray s 2 12 (AX 29 a sz)) (F0 m 18 ls []) := by
    intro N
    induction N with
    | zero =>
      intro i H locs ls hi hP hS hl
      obtain rfl : i = 30 := by omega
      refine lv_iload hx hb dL_isSo_18 (lv_at hl 0 rfl) ?_
      refine lv_bipush (v := 30) hx hb dL_isSo_20 (by decide) ?_
      refine lv_icmp_ge (tgt := 122) hx hb dL_isSo_22 (by decide) (fun _ => ?_) (fun h => absurd (by decide) h)
      refine lv_iconst (v := nI 0) hx hb dL_isSo_122 (by decide) ?_
      refine lv_istore (lv' := [(6, .int (nI 0)), (5, .int 1), (4, .int 0), (3, .int (sm (c3 σ) 30)), (2, .int 0), (1, .int (sm (d1 σ) 30)), (0, .ref (a 0))]) hx hb dL_isSo_123 hl (by decide) rfl (fun ls hl => ?_)
      exact loop2 10 0 H locs ls (Nat.zero_add _) hP hS (lv_sub hl [0, 1, 2, 3, 4, 5, 6] rfl)
    | succ N ih =>
      intro i H locs ls hi hP hS hl
      refine lv_iload hx hb dL_isSo_18 (lv_at hl 0 rfl) ?_
      refine lv_bipush (v := 30) hx hb dL_isSo_20 (by decide) ?_
      refine lv_icmp_ge (tgt := 122) hx hb dL_isSo_22 (by decide) (fun h => absurd h (nI_ge (a := i) (b := 30) (by omega) (by decide))) (fun _ => ?_)
      have hc := so_c hm0 (show i < 30 by omega)
      by_cases s1 : r_X5_cycle σ (nI i) 0 = 1
      · refine lv_aload_n hx hb dL_isSo_25 rfl (lv_at hl 6 rfl) ?_
        refine lv_iload hx hb dL_isSo_26 (lv_at hl 0 rfl) ?_
        refine lv_iconst (v := 0) hx hb dL_isSo_28 (by decide) ?_
        refine x_callVi (w := wX cI a) (σ := σ) (σ' := σ) (As := [.int (nI i), .int 0]) (rest := []) (q0 := 0) (ci := 5) (C := RX5) S hG hP hS hsz (c_X5_cycle l D cI a H.size σ (nI i) 0 (vp_in_nI (by omega) (by decide)) (vp_in_nI (n := 0) (by decide) (by decide))) (cwV 2 S.2.2.2.2 gL_isSo_X5_cycle rfl rfl rfl (by decide +kernel) ⟨Nat.le_of_ble_eq_true rfl, Nat.le_of_ble_eq_true rfl⟩) rfl rfl rfl rfl hl.1 rfl (Nat.le_of_ble_eq_true rfl) ⟨Nat.le_of_ble_eq_true rfl, Nat.le_of_ble_eq_true rfl⟩ dL_isSo_29 (fun H locs hP hS => ?_)
        refine lv_istore (lv' := [(7, .int (r_X5_cycle σ (nI i) 0)), (6, .int (nI i)), (5, .int 1), (4, .int 0), (3, .int (sm (c3 σ) i)), (2, .int 0), (1, .int (sm (d1 σ) i)), (0, .ref (a 0))]) hx hb dL_isSo_32 hl (by decide) rfl (fun ls hl => ?_)
        refine lv_iload_n hx hb dL_isSo_34 rfl (lv_at hl 6 rfl) ?_
        refine lv_iload hx hb dL_isSo_35 (lv_at hl 0 rfl) ?_
        refine lv_iconst (v := 1) hx hb dL_isSo_37 (by decide) ?_
        refine lv_icmp_ne (tgt := 45) hx hb dL_isSo_38 (by decide) (fun h => absurd s1 h) (fun _ => ?_)
        refine lv_iconst (v := 1) hx hb dL_isSo_41 (by decide) ?_
        refine lv_goto (tgt := 46) hx hb dL_isSo_42 (by decide) ?_
        refine lv_iadd hx hb dL_isSo_46 ?_
        refine W.eq (g2 := F0 m 47 ls [.int (sm (d1 σ) (i + 1))]) (by rw [d1_s1 s1]) ?_
        refine lv_istore_n (lv' := [(1, .int (sm (d1 σ) (i + 1))), (7, .int (r_X5_cycle σ (nI i) 0)), (6, .int (nI i)), (5, .int 1), (4, .int 0), (3, .int (sm (c3 σ) i)), (2, .int 0), (0, .ref (a 0))]) hx hb dL_isSo_47 rfl hl (by decide) rfl (fun ls hl => ?_)
        refine lv_iload_n hx hb dL_isSo_48 rfl (lv_at hl 5 rfl) ?_
        refine lv_aload_n hx hb dL_isSo_49 rfl (lv_at hl 7 rfl) ?_
        refine lv_iload hx hb dL_isSo_50 (lv_at hl 2 rfl) ?_
        refine lv_iconst (v := 3) hx hb dL_isSo_52 (by decide) ?_
        refine x_callVi (w := wX cI a) (σ := σ) (σ' := σ) (As := [.int (nI i), .int 3]) (rest := [.int (sm (c3 σ) i)]) (q0 := 0) (ci := 5) (C := RX5) S hG hP hS hsz (c_X5_cycle l D cI a H.size σ (nI i) 3 (vp_in_nI (by omega) (by decide)) (vp_in_nI (n := 3) (by decide) (by decide))) (cwV 2 S.2.2.2.2 gL_isSo_X5_cycle rfl rfl rfl (by decide +kernel) ⟨Nat.le_of_ble_eq_true rfl, Nat.le_of_ble_eq_true rfl⟩) rfl rfl rfl rfl hl.1 rfl (Nat.le_of_ble_eq_true rfl) ⟨Nat.le_of_ble_eq_true rfl, Nat.le_of_ble_eq_true rfl⟩ dL_isSo_53 (fun H locs hP hS => ?_)
        refine lv_iadd hx hb dL_isSo_56 ?_
        refine lv_istore_n (lv' := [(3, .int ((sm (c3 σ) i) + (r_X5_cycle σ (nI i) 3))), (1, .int (sm (d1 σ) (i + 1))), (7, .int (r_X5_cycle σ (nI i) 0)), (6, .int (nI i)), (5, .int 1), (4, .int 0), (2, .int 0), (0, .ref (a 0))]) hx hb dL_isSo_57 rfl hl (by decide) rfl (fun ls hl => ?_)
        refine lv_iload hx hb dL_isSo_58 (lv_at hl 4 rfl) ?_
        refine lv_if_eq (tgt := 113) hx hb dL_isSo_60 (by decide) (fun h => absurd h (by decide)) (fun _ => ?_)
        refine lv_iload hx hb dL_isSo_63 (lv_at hl 2 rfl) ?_
        refine lv_if_lt (tgt := 113) hx hb dL_isSo_65 (by decide) (fun h => absurd h hc.1) (fun _ => ?_)
        refine lv_iload hx hb dL_isSo_68 (lv_at hl 2 rfl) ?_
        refine lv_iconst (v := 4) hx hb dL_isSo_70 (by decide) ?_
        refine lv_icmp_ge (tgt := 113) hx hb dL_isSo_71 (by decide) (fun h => absurd h hc.2.1) (fun _ => ?_)
        refine lv_iload hx hb dL_isSo_74 (lv_at hl 2 rfl) ?_
        refine lv_iconst (v := 1) hx hb dL_isSo_76 (by decide) ?_
        refine lv_icmp_eq (tgt := 86) hx hb dL_isSo_77 (by decide) (fun _ => ?_) (fun h => absurd s1 h)
        refine lv_iconst (v := 1) hx hb dL_isSo_86 (by decide) ?_
        refine lv_goto (tgt := 91) hx hb dL_isSo_87 (by decide) ?_
        refine lv_aload_n hx hb dL_isSo_91 rfl (lv_at hl 7 rfl) ?_
        refine lv_iload hx hb dL_isSo_92 (lv_at hl 3 rfl) ?_
        refine lv_iconst (v := 1) hx hb dL_isSo_94 (by decide) ?_
        refine x_callVi (w := wX cI a) (σ := σ) (σ' := σ) (As := [.int (nI i), .int 1]) (rest := [.int 1]) (q0 := 0) (ci := 5) (C := RX5) S hG hP hS hsz (c_X5_cycle l D cI a H.size σ (nI i) 1 (vp_in_nI (by omega) (by decide)) (vp_in_nI (n := 1) (by decide) (by decide))) (cwV 2 S.2.2.2.2 gL_isSo_X5_cycle rfl rfl rfl (by decide +kernel) ⟨Nat.le_of_ble_eq_true rfl, Nat.le_of_ble_eq_true rfl⟩) rfl rfl rfl rfl hl.1 rfl (Nat.le_of_ble_eq_true rfl) ⟨Nat.le_of_ble_eq_true rfl, Nat.le_of_ble_eq_true rfl⟩ dL_isSo_95 (fun H locs hP hS => ?_)
        refine lv_if_lt (tgt := 105) hx hb dL_isSo_98 (by decide) (fun h => absurd h (hc.2.2.1 (Or.inl s1))) (fun _ => ?_)
        refine lv_iconst (v := 1) hx hb dL_isSo_101 (by decide) ?_
        refine lv_goto (tgt := 106) hx hb dL_isSo_102 (by decide) ?_
        refine lv_icmp_ne (tgt := 113) hx hb dL_isSo_106 (by decide) (fun h => absurd (by decide) h) (fun _ => ?_)
        refine lv_iconst (v := 1) hx hb dL_isSo_109 (by decide) ?_
        refine lv_goto (tgt := 114) hx hb dL_isSo_110 (by decide) ?_
        refine lv_istore (lv' := [(5, .int 1), (3, .int ((sm (c3 σ) i) + (r_X5_cycle σ (nI i) 3))), (1, .int (sm (d1 σ) (i + 1))), (7, .int (r_X5_cycle σ (nI i) 0)), (6, .int (nI i)), (4, .int 0), (2, .int 0), (0, .ref (a 0))]) hx hb dL_isSo_114 hl (by decide) rfl (fun ls hl => ?_)
        refine lv_iinc (v := nI (i + 1)) (lv' := [(6, .int (nI (i + 1))), (5, .int 1), (3, .int ((sm (c3 σ) i) + (r_X5_cycle σ (nI i) 3))), (1, .int (sm (d1 σ) (i + 1))), (7, .int (r_X5_cycle σ (nI i) 0)), (4, .int 0), (2, .int 0), (0, .ref (a 0))]) hx hb dL_isSo_116 hl (k := 4) rfl (by rw [nI_succ]; rfl) (by decide) rfl (fun ls hl => ?_)
        refine lv_goto (tgt := 18) hx hb dL_isSo_119 (by decide) ?_
        exact ih (i + 1) H locs ls (by omega) hP hS (lv_sub hl [0, 1, 5, 2, 6, 3, 7] rfl)
      · by_cases s2 : r_X5_cycle σ (nI i) 0 = 2
        · refine lv_aload_n hx hb dL_isSo_25 rfl (lv_at hl 6 rfl) ?_
          refine lv_iload hx hb dL_isSo_26 (lv_at hl 0 rfl) ?_
          refine lv_iconst (v := 0) hx hb dL_isSo_28 (by decide) ?_
          refine x_callVi (w := wX cI a) (σ := σ) (σ' := σ) (As := [.int (nI i), .int 0]) (rest := []) (q0 := 0) (ci := 5) (C := RX5) S hG hP hS hsz (c_X5_cycle l D cI a H.size σ (nI i) 0 (vp_in_nI (by omega) (by decide)) (vp_in_nI (n := 0) (by decide) (by decide))) (cwV 2 S.2.2.2.2 gL_isSo_X5_cycle rfl rfl rfl (by decide +kernel) ⟨Nat.le_of_ble_eq_true rfl, Nat.le_of_ble_eq_true rfl⟩) rfl rfl rfl rfl hl.1 rfl (Nat.le_of_ble_eq_true rfl) ⟨Nat.le_of_ble_eq_true rfl, Nat.le_of_ble_eq_true rfl⟩ dL_isSo_29 (fun H locs hP hS => ?_)
          refine lv_istore (lv' := [(7, .int (r_X5_cycle σ (nI i) 0)), (6, .int (nI i)), (5, .int 1), (4, .int 0), (3, .int (sm (c3 σ) i)), (2, .int 0), (1, .int (sm (d1 σ) i)), (0, .ref (a 0))]) hx hb dL_isSo_32 hl (by decide) rfl (fun ls hl => ?_)
          refine lv_iload_n hx hb dL_isSo_34 rfl (lv_at hl 6 rfl) ?_
          refine lv_iload hx hb dL_isSo_35 (lv_at hl 0 rfl) ?_
          refine lv_iconst (v := 1) hx hb dL_isSo_37 (by decide) ?_
          refine lv_icmp_ne (tgt := 45) hx hb dL_isSo_38 (by decide) (fun _ => ?_) (fun h => absurd h s1)
          refine lv_iconst (v := 0) hx hb dL_isSo_45 (by decide) ?_
          refine lv_iadd hx hb dL_isSo_46 ?_
          refine W.eq (g2 := F0 m 47 ls [.int (sm (d1 σ) (i + 1))]) (by rw [d1_s0 s1]) ?_
          refine lv_istore_n (lv' := [(1, .int (sm (d1 σ) (i + 1))), (7, .int (r_X5_cycle σ (nI i) 0)), (6, .int (nI i)), (5, .int 1), (4, .int 0), (3, .int (sm (c3 σ) i)), (2, .int 0), (0, .ref (a 0))]) hx hb dL_isSo_47 rfl hl (by decide) rfl (fun ls hl => ?_)
          refine lv_iload_n hx hb dL_isSo_48 rfl (lv_at hl 5 rfl) ?_
          refine lv_aload_n hx hb dL_isSo_49 rfl (lv_at hl 7 rfl) ?_
          refine lv_iload hx hb dL_isSo_50 (lv_at hl 2 rfl) ?_
          refine lv_iconst (v := 3) hx hb dL_isSo_52 (by decide) ?_
          refine x_callVi (w := wX cI a) (σ := σ) (σ' := σ) (As := [.int (nI i), .int 3]) (rest := [.int (sm (c3 σ) i)]) (q0 := 0) (ci := 5) (C := RX5) S hG hP hS hsz (c_X5_cycle l D cI a H.size σ (nI i) 3 (vp_in_nI (by omega) (by decide)) (vp_in_nI (n := 3) (by decide) (by decide))) (cwV 2 S.2.2.2.2 gL_isSo_X5_cycle rfl rfl rfl (by decide +kernel) ⟨Nat.le_of_ble_eq_true rfl, Nat.le_of_ble_eq_true rfl⟩) rfl rfl rfl rfl hl.1 rfl (Nat.le_of_ble_eq_true rfl) ⟨Nat.le_of_ble_eq_true rfl, Nat.le_of_ble_eq_true rfl⟩ dL_isSo_53 (fun H locs hP hS => ?_)
          refine lv_iadd hx hb dL_isSo_56 ?_
          refine lv_istore_n (lv' := [(3, .int ((sm (c3 σ) i) + (r_X5_cycle σ (nI i) 3))), (1, .int (sm (d1 σ) (i + 1))), (7, .int (r_X5_cycle σ (nI i) 0)), (6, .int (nI i)), (5, .int 1), (4, .int 0), (2, .int 0), (0, .ref (a 0))]) hx hb dL_isSo_57 rfl hl (by decide) rfl (fun ls hl => ?_)
          refine lv_iload hx hb dL_isSo_58 (lv_at hl 4 rfl) ?_
          refine lv_if_eq (tgt := 113) hx hb dL_isSo_60 (by decide) (fun h => absurd h (by decide)) (fun _ => ?_)
          refine lv_iload hx hb dL_isSo_63 (lv_at hl 2 rfl) ?_
          refine lv_if_lt (tgt := 113) hx hb dL_isSo_65 (by decide) (fun h => absurd h hc.1) (fun _ => ?_)
          refine lv_iload hx hb dL_isSo_68 (lv_at hl 2 rfl) ?_
          refine lv_iconst (v := 4) hx hb dL_isSo_70 (by decide) ?_
          refine lv_icmp_ge (tgt := 113) hx hb dL_isSo_71 (by decide) (fun h => absurd h hc.2.1) (fun _ => ?_)
          refine lv_iload hx hb dL_isSo_74 (lv_at hl 2 rfl) ?_
          refine lv_iconst (v := 1) hx hb dL_isSo_76 (by decide) ?_
          refine lv_icmp_eq (tgt := 86) hx hb dL_isSo_77 (by decide) (fun h => absurd h s1) (fun _ => ?_)
          refine lv_iload hx hb dL_isSo_80 (lv_at hl 2 rfl) ?_
          refine lv_iconst (v := 2) hx hb dL_isSo_82 (by decide) ?_
          refine lv_icmp_ne (tgt := 90) hx hb dL_isSo_83 (by decide) (fun h => absurd s2 h) (fun _ => ?_)
          refine lv_iconst (v := 1) hx hb dL_isSo_86 (by decide) ?_
          refine lv_goto (tgt := 91) hx hb dL_isSo_87 (by decide) ?_
          refine lv_aload_n hx hb dL_isSo_91 rfl (lv_at hl 7 rfl) ?_
          refine lv_iload hx hb dL_isSo_92 (lv_at hl 3 rfl) ?_
          refine lv_iconst (v := 1) hx hb dL_isSo_94 (by decide) ?_
          refine x_callVi (w := wX cI a) (σ := σ) (σ' := σ) (As := [.int (nI i), .int 1]) (rest := [.int 1]) (q0 := 0) (ci := 5) (C := RX5) S hG hP hS hsz (c_X5_cycle l D cI a H.size σ (nI i) 1 (vp_in_nI (by omega) (by decide)) (vp_in_nI (n := 1) (by decide) (by decide))) (cwV 2 S.2.2.2.2 gL_isSo_X5_cycle rfl rfl rfl (by decide +kernel) ⟨Nat.le_of_ble_eq_true rfl, Nat.le_of_ble_eq_true rfl⟩) rfl rfl rfl rfl hl.1 rfl (Nat.le_of_ble_eq_true rfl) ⟨Nat.le_of_ble_eq_true rfl, Nat.le_of_ble_eq_true rfl⟩ dL_isSo_95 (fun H locs hP hS => ?_)
          refine lv_if_lt (tgt := 105) hx hb dL_isSo_98 (by decide) (fun h => absurd h (hc.2.2.1 (Or.inr s2))) (fun _ => ?_)
          refine lv_iconst (v := 1) hx hb dL_isSo_101 (by decide) ?_
          refine lv_goto (tgt := 106) hx hb dL_isSo_102 (by decide) ?_
          refine lv_icmp_ne (tgt := 113) hx hb dL_isSo_106 (by decide) (fun h => absurd (by decide) h) (fun _ => ?_)
          refine lv_iconst (v := 1) hx hb dL_isSo_109 (by decide) ?_
          refine lv_goto (tgt := 114) hx hb dL_isSo_110 (by decide) ?_
          refine lv_istore (lv' := [(5, .int 1), (3, .int ((sm (c3 σ) i) + (r_X5_cycle σ (nI i) 3))), (1, .int (sm (d1 σ) (i + 1))), (7, .int (r_X5_cycle σ (nI i) 0)), (6, .int (nI i)), (4, .int 0), (2, .int 0), (0, .ref (a 0))]) hx hb dL_isSo_114 hl (by decide) rfl (fun ls hl => ?_)
          refine lv_iinc (v := nI (i + 1)) (lv' := [(6, .int (nI (i + 1))), (5, .int 1), (3, .int ((sm (c3 σ) i) + (r_X5_cycle σ (nI i) 3))), (1, .int (sm (d1 σ) (i + 1))), (7, .int (r_X5_cycle σ (nI i) 0)), (4, .int 0), (2, .int 0), (0, .ref (a 0))]) hx hb dL_isSo_116 hl (k := 4) rfl (by rw [nI_succ]; rfl) (by decide) rfl (fun ls hl => ?_)
          refine lv_goto (tgt := 18) hx hb dL_isSo_119 (by decide) ?_
          exact ih (i + 1) H locs ls (by omega) hP hS (lv_sub hl [0, 1, 5, 2, 6, 3, 7] rfl)
        · refine lv_aload_n hx hb dL_isSo_25 rfl (lv_at hl 6 rfl) ?_
          refine lv_iload hx hb dL_isSo_26 (lv_at hl 0 rfl) ?_
          refine lv_iconst (v := 0) hx hb dL_isSo_28 (by decide) ?_
          refine x_callVi (w := wX cI a) (σ := σ) (σ' := σ) (As := [.int (nI i), .int 0]) (rest := []) (q0 := 0) (ci := 5) (C := RX5) S hG hP hS hsz (c_X5_cycle l D cI a H.size σ (nI i) 0 (vp_in_nI (by omega) (by decide)) (vp_in_nI (n := 0) (by decide) (by decide))) (cwV 2 S.2.2.2.2 gL_isSo_X5_cycle rfl rfl rfl (by decide +kernel) ⟨Nat.le_of_ble_eq_true rfl, Nat.le_of_ble_eq_true rfl⟩) rfl rfl rfl rfl hl.1 rfl (Nat.le_of_ble_eq_true rfl) ⟨Nat.le_of_ble_eq_true rfl, Nat.le_of_ble_eq_true rfl⟩ dL_isSo_29 (fun H locs hP hS => ?_)
          refine lv_istore (lv' := [(7, .int (r_X5_cycle σ (nI i) 0)), (6, .int (nI i)), (5, .int 1), (4, .int 0), (3, .int (sm (c3 σ) i)), (2, .int 0), (1, .int (sm (d1 σ) i)), (0, .ref (a 0))]) hx hb dL_isSo_32 hl (by decide) rfl (fun ls hl => ?_)
          refine lv_iload_n hx hb dL_isSo_34 rfl (lv_at hl 6 rfl) ?_
          refine lv_iload hx hb dL_isSo_35 (lv_at hl 0 rfl) ?_
          refine lv_iconst (v := 1) hx hb dL_isSo_37 (by decide) ?_
          refine lv_icmp_ne (tgt := 45) hx hb dL_isSo_38 (by decide) (fun _ => ?_) (fun h => absurd h s1)
          refine lv_iconst (v := 0) hx hb dL_isSo_45 (by decide) ?_
          refine lv_iadd hx hb dL_isSo_46 ?_
          refine W.eq (g2 := F0 m 47 ls [.int (sm (d1 σ) (i + 1))]) (by rw [d1_s0 s1]) ?_
          refine lv_istore_n (lv' := [(1, .int (sm (d1 σ) (i + 1))), (7, .int (r_X5_cycle σ (nI i) 0)), (6, .int (nI i)), (5, .int 1), (4, .int 0), (3, .int (sm (c3 σ) i)), (2, .int 0), (0, .ref (a 0))]) hx hb dL_isSo_47 rfl hl (by decide) rfl (fun ls hl => ?_)
          refine lv_iload_n hx hb dL_isSo_48 rfl (lv_at hl 5 rfl) ?_
          refine lv_aload_n hx hb dL_isSo_49 rfl (lv_at hl 7 rfl) ?_
          refine lv_iload hx hb dL_isSo_50 (lv_at hl 2 rfl) ?_
          refine lv_iconst (v := 3) hx hb dL_isSo_52 (by decide) ?_
          refine x_callVi (w := wX cI a) (σ := σ) (σ' := σ) (As := [.int (nI i), .int 3]) (rest := [.int (sm (c3 σ) i)]) (q0 := 0) (ci := 5) (C := RX5) S hG hP hS hsz (c_X5_cycle l D cI a H.size σ (nI i) 3 (vp_in_nI (by omega) (by decide)) (vp_in_nI (n := 3) (by decide) (by decide))) (cwV 2 S.2.2.2.2 gL_isSo_X5_cycle rfl rfl rfl (by decide +kernel) ⟨Nat.le_of_ble_eq_true rfl, Nat.le_of_ble_eq_true rfl⟩) rfl rfl rfl rfl hl.1 rfl (Nat.le_of_ble_eq_true rfl) ⟨Nat.le_of_ble_eq_true rfl, Nat.le_of_ble_eq_true rfl⟩ dL_isSo_53 (fun H locs hP hS => ?_)
          refine lv_iadd hx hb dL_isSo_56 ?_
          refine lv_istore_n (lv' := [(3, .int ((sm (c3 σ) i) + (r_X5_cycle σ (nI i) 3))), (1, .int (sm (d1 σ) (i + 1))), (7, .int (r_X5_cycle σ (nI i) 0)), (6, .int (nI i)), (5, .int 1), (4, .int 0), (2, .int 0), (0, .ref (a 0))]) hx hb dL_isSo_57 rfl hl (by decide) rfl (fun ls hl => ?_)
          refine lv_iload hx hb dL_isSo_58 (lv_at hl 4 rfl) ?_
          refine lv_if_eq (tgt := 113) hx hb dL_isSo_60 (by decide) (fun h => absurd h (by decide)) (fun _ => ?_)
          refine lv_iload hx hb dL_isSo_63 (lv_at hl 2 rfl) ?_
          refine lv_if_lt (tgt := 113) hx hb dL_isSo_65 (by decide) (fun h => absurd h hc.1) (fun _ => ?_)
          refine lv_iload hx hb dL_isSo_68 (lv_at hl 2 rfl) ?_
          refine lv_iconst (v := 4) hx hb dL_isSo_70 (by decide) ?_
          refine lv_icmp_ge (tgt := 113) hx hb dL_isSo_71 (by decide) (fun h => absurd h hc.2.1) (fun _ => ?_)
          refine lv_iload hx hb dL_isSo_74 (lv_at hl 2 rfl) ?_
          refine lv_iconst (v := 1) hx hb dL_isSo_76 (by decide) ?_
          refine lv_icmp_eq (tgt := 86) hx hb dL_isSo_77 (by decide) (fun h => absurd h s1) (fun _ => ?_)
          refine lv_iload hx hb dL_isSo_80 (lv_at hl 2 rfl) ?_
          refine lv_iconst (v := 2) hx hb dL_isSo_82 (by decide) ?_
          refine lv_icmp_ne (tgt := 90) hx hb dL_isSo_83 (by decide) (fun _ => ?_) (fun h => absurd h s2)
          refine lv_iconst (v := 0) hx hb dL_isSo_90 (by decide) ?_
          refine lv_aload_n hx hb dL_isSo_91 rfl (lv_at hl 7 rfl) ?_
          refine lv_iload hx hb dL_isSo_92 (lv_at hl 3 rfl) ?_
          refine lv_iconst (v := 1) hx hb dL_isSo_94 (by decide) ?_
          refine x_callVi (w := wX cI a) (σ := σ) (σ' := σ) (As := [.int (nI i), .int 1]) (rest := [.int 0]) (q0 := 0) (ci := 5) (C := RX5) S hG hP hS hsz (c_X5_cycle l D cI a H.size σ (nI i) 1 (vp_in_nI (by omega) (by decide)) (vp_in_nI (n := 1) (by decide) (by decide))) (cwV 2 S.2.2.2.2 gL_isSo_X5_cycle rfl rfl rfl (by decide +kernel) ⟨Nat.le_of_ble_eq_true rfl, Nat.le_of_ble_eq_true rfl⟩) rfl rfl rfl rfl hl.1 rfl (Nat.le_of_ble_eq_true rfl) ⟨Nat.le_of_ble_eq_true rfl, Nat.le_of_ble_eq_true rfl⟩ dL_isSo_95 (fun H locs hP hS => ?_)
          refine lv_if_lt (tgt := 105) hx hb dL_isSo_98 (by decide) (fun _ => ?_) (fun h => absurd (hc.2.2.2 s1 s2) h)
          refine lv_iconst (v := 0) hx hb dL_isSo_105 (by decide) ?_
          refine lv_icmp_ne (tgt := 113) hx hb dL_isSo_106 (by decide) (fun h => absurd (by decide) h) (fun _ => ?_)
          refine lv_iconst (v := 1) hx hb dL_isSo_109 (by decide) ?_
          refine lv_goto (tgt := 114) hx hb dL_isSo_110 (by decide) ?_
          refine lv_istore (lv' := [(5, .int 1), (3, .int ((sm (c3 σ) i) + (r_X5_cycle σ (nI i) 3))), (1, .int (sm (d1 σ) (i + 1))), (7, .int (r_X5_cycle σ (nI i) 0)), (6, .int (nI i)), (4, .int 0), (2, .int 0), (0, .ref (a 0))]) hx hb dL_isSo_114 hl (by decide) rfl (fun ls hl => ?_)
          refine lv_iinc (v := nI (i + 1)) (lv' := [(6, .int (nI (i + 1))), (5, .int 1), (3, .int ((sm (c3 σ) i) + (r_X5_cycle σ (nI i) 3))), (1, .int (sm (d1 σ) (i + 1))), (7, .int (r_X5_cycle σ (nI i) 0)), (4, .int 0), (2, .int 0), (0, .ref (a 0))]) hx hb dL_isSo_116 hl (k := 4) rfl (by rw [nI_succ]; rfl) (by decide) rfl (fun ls hl => ?_)
          refine lv_goto (tgt := 18) hx hb dL_isSo_119 (by decide) ?_
          exact ih (i + 1) H locs ls (by omega) hP hS (lv_sub hl [0, 1, 5, 2, 6, 3, 7] rfl)
  refine lv_iconst (v := 0) hx hb dL_isSo_0 (by decide) ?_
  refine lv_istore_n (lv' := [(1, .int 0), (0, .ref (a 0))]) hx hb dL_isSo_1 rfl hl (by decide) rfl (fun ls hl => ?_)
  refine lv_iconst (v := 0) hx hb dL_isSo_2 (by decide) ?_
  refine lv_istore_n (lv' := [(2, .int 0), (1, .int 0), (0, .ref (a 0))]) hx hb dL_isSo_3 rfl hl (by decide) rfl (fun ls hl => ?_)
  refine lv_iconst (v := 0) hx hb dL_isSo_4 (by decide) ?_
  refine lv_istore_n (lv' := [(3, .int 0), (2, .int 0), (1, .int 0), (0, .ref (a 0))]) hx hb dL_isSo_5 rfl hl (by decide) rfl (fun ls hl => ?_)
  refine lv_iconst (v := 0) hx hb dL_isSo_6 (by decide) ?_
  refine lv_istore (lv' := [(4, .int 0), (3, .int 0), (2, .int 0), (1, .int 0), (0, .ref (a 0))]) hx hb dL_isSo_7 hl (by decide) rfl (fun ls hl => ?_)
  refine lv_aload_n hx hb dL_isSo_9 rfl (lv_at hl 4 rfl) ?_
  refine x_callVi (w := wX cI a) (σ := σ) (σ' := σ) (As := []) (rest := []) (q0 := 0) (ci := 5) (C := RX5) S hG hP hS hsz (c_X5_agrees l D cI a H.size σ ) (cwV 0 S.2.2.2.2 gL_isSo_X5_agrees rfl rfl rfl (by decide +kernel) ⟨Nat.le_of_ble_eq_true rfl, Nat.le_of_ble_eq_true rfl⟩) rfl rfl rfl rfl hl.1 rfl (Nat.le_of_ble_eq_true rfl) ⟨Nat.le_of_ble_eq_true rfl, Nat.le_of_ble_eq_true rfl⟩ dL_isSo_10 (fun H locs hP hS => ?_)
  refine W.eq (g2 := F0 m 13 ls [.int 1]) (by rw [so_agrees hm0]) ?_
  refine lv_istore (lv' := [(5, .int 1), (4, .int 0), (3, .int 0), (2, .int 0), (1, .int 0), (0, .ref (a 0))]) hx hb dL_isSo_13 hl (by decide) rfl (fun ls hl => ?_)
  refine lv_iconst (v := nI 0) hx hb dL_isSo_15 (by decide) ?_
  refine lv_istore (lv' := [(6, .int (nI 0)), (5, .int 1), (4, .int 0), (3, .int 0), (2, .int 0), (1, .int 0), (0, .ref (a 0))]) hx hb dL_isSo_16 hl (by decide) rfl (fun ls hl => ?_)
  exact loop1 30 0 H locs ls (Nat.zero_add _) hP hS (lv_sub hl [0, 1, 2, 3, 4, 5, 6] rfl)
