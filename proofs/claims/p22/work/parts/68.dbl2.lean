noncomputable def r_X1_nearestRoot (σ : Sg) (sq : Int32) : UInt64 := rV sq.toNatClampNeg
set_option maxHeartbeats 4000000 in
set_option maxRecDepth 100000 in
theorem c_X1_nearestRoot (l : Launch) (D : va_G) (cI : ClassId) (a : Nat → Nat) (sz : Nat) (σ : Sg) (sq : Int32) (hq : vp_in sq 19603) : Met l yX1_nearestRoot wsX1_nearestRoot ({ frames := 0, cells := 0, slots := 0, locals := 0 }) (PcW D cI 29 a (wX cI a) sz σ [.int sq]) (QdW D 29 a (wX cI a) sz (r_X1_nearestRoot σ sq) σ) 0 0 (AX 29 a sz) := by
  obtain ⟨n, hn, rfl⟩ := vp_in_of hq (by decide)
  refine x_of (cc := cX1_nearestRoot) (maxL := 12) (ret := some .double) (C := RX1) rfl (by decide) rfl (Nat.le_of_ble_eq_true rfl) (fun p e s m below meth c hx hb hr hml hlk hts hown hsz H hP hS hG ls hl => ?_)
  have hl : lv_has ls 12 [(0, .int (nI n))] := hl
  have loop_17 : ∀ (k i rt re : Nat) (_ : i + k = 61) (_ : 0 < n) (_ : LI n i rt re) (H : Heap) (locs : List Loc) (ls : Array Slot) (_ : va_P D vwCl (wX cI a σ) H) (_ : va_S (AX 29 a sz) s.heap H locs) (_ : lv_has ls 12 [(0, .int (nI n)), (1, .long (lN rt)), (3, .long (lN re)), (5, .double (pw (i - 8))), (7, .int (shI i))]), W p l e (headSpec wsX1_nearestRoot ({ frames := 0, cells := 0, slots := 0, locals := 0 } : Room)).room s m ([.int (nI n)] : List Value).toArray below meth c H locs 0 0 (MQ below (QdW D 29 a (wX cI a) sz (r_X1_nearestRoot σ (nI n)) σ) ([.int (nI n)] : List Value).toArray s 0 0 (AX 29 a sz)) (F0 m 17 ls []) := by
    intro k
    induction k with
    | zero => intro i rt re hi _ hL; exact absurd hL.1 (by omega)
    | succ k ih =>
      intro i rt re hi h0 hL H locs ls hP hS hl
      have hb53 := hL.2.2.2
      have hre := hL.2.2.1
      by_cases hge : (4503599627370496 : Int64) ≤ lN rt
      · have hge2 : 2 ^ 52 ≤ rt := (lN_le63 (a := 4503599627370496) (by omega) (by omega)).mp hge
        by_cases hle : re ≤ rt
        · refine lv_lload_n hx hb dX1_nearestRoot_17 rfl (lv_at hl 1 rfl) ?_
          refine lv_ldc2 (v := 4503599627370496) hx hb hown (hts _ (List.mem_of_getElem? (i := 1) rfl)) dX1_nearestRoot_18 ?_
          refine W.lcmp hx hb dX1_nearestRoot_21 ?_
          refine lv_if_ge (tgt := 109) hx hb dX1_nearestRoot_22 (by decide) (fun _ => ?_) (fun h => absurd ((lg_cmp_ge _ _).mpr hge) h)
          refine lv_lload_n hx hb dX1_nearestRoot_109 rfl (lv_at hl 2 rfl) ?_
          refine lv_lload_n hx hb dX1_nearestRoot_110 rfl (lv_at hl 1 rfl) ?_
          refine W.lcmp hx hb dX1_nearestRoot_111 ?_
          refine lv_if_le (tgt := 119) hx hb dX1_nearestRoot_112 (by decide) (fun _ => ?_) (fun h => absurd ((lg_cmp_le _ _).mpr ((lN_le63 (by omega) (by omega)).mpr hle)) h)
          refine lv_lload_n hx hb dX1_nearestRoot_119 rfl (lv_at hl 1 rfl) ?_
          refine lv_l2d hx hb dX1_nearestRoot_120 ?_
          refine lv_dload hx hb dX1_nearestRoot_121 (lv_at hl 3 rfl) ?_
          refine lv_ddiv hx hb dX1_nearestRoot_123 (rt_nan _ (by have := hL.1; omega)) ?_
          exact x_dret hx hb hr hlk hsz hP hS (rt_end hn h0 hL hge2 (Or.inr ⟨hle, rfl⟩)) rfl dX1_nearestRoot_124
        · refine lv_lload_n hx hb dX1_nearestRoot_17 rfl (lv_at hl 1 rfl) ?_
          refine lv_ldc2 (v := 4503599627370496) hx hb hown (hts _ (List.mem_of_getElem? (i := 1) rfl)) dX1_nearestRoot_18 ?_
          refine W.lcmp hx hb dX1_nearestRoot_21 ?_
          refine lv_if_ge (tgt := 109) hx hb dX1_nearestRoot_22 (by decide) (fun _ => ?_) (fun h => absurd ((lg_cmp_ge _ _).mpr hge) h)
          refine lv_lload_n hx hb dX1_nearestRoot_109 rfl (lv_at hl 2 rfl) ?_
          refine lv_lload_n hx hb dX1_nearestRoot_110 rfl (lv_at hl 1 rfl) ?_
          refine W.lcmp hx hb dX1_nearestRoot_111 ?_
          refine lv_if_le (tgt := 119) hx hb dX1_nearestRoot_112 (by decide) (fun h => absurd h (fun h => hle ((lN_le63 (by omega) (by omega)).mp ((lg_cmp_le _ _).mp h)))) (fun _ => ?_)
          refine lv_lload_n hx hb dX1_nearestRoot_115 rfl (lv_at hl 1 rfl) ?_
          refine lv_lconst (v := 1) hx hb dX1_nearestRoot_116 (by decide) ?_
          refine lv_ladd hx hb dX1_nearestRoot_117 ?_
          refine lv_lstore_n (lv' := [(1, .long ((lN rt) + 1)), (0, .int (nI n)), (3, .long (lN re)), (5, .double (pw (i - 8))), (7, .int (shI i))]) hx hb dX1_nearestRoot_118 rfl hl (by decide) rfl (fun ls hl => ?_)
          refine lv_lload_n hx hb dX1_nearestRoot_119 rfl (lv_at hl 0 rfl) ?_
          refine lv_l2d hx hb dX1_nearestRoot_120 ?_
          refine lv_dload hx hb dX1_nearestRoot_121 (lv_at hl 3 rfl) ?_
          refine lv_ddiv hx hb dX1_nearestRoot_123 (rt_nan _ (by have := hL.1; omega)) ?_
          exact x_dret hx hb hr hlk hsz hP hS (rt_end hn h0 hL hge2 (Or.inl ⟨by omega, rfl⟩)) rfl dX1_nearestRoot_124
      · have hlt2 : rt < 2 ^ 52 := by
          rcases Nat.lt_or_ge rt (2 ^ 52) with q | q
          · exact q
          · exact absurd ((lN_le63 (a := 4503599627370496) (by omega) (by omega)).mpr q) hge
        have hi60 : i < 60 := li_60 h0 hL hlt2
        have hpr : prI n i < 4 := pr_lt n i
        have e1 : (4 * (lN rt)) + 1 = lN (4 * rt + 1) := by rw [show (4 : Int64) = lN 4 from rfl, show (1 : Int64) = lN 1 from rfl, lN_mul, lN_add]
        have e2 : (4 * (lN re)) + (lN (prI n i)) = lN (4 * re + prI n i) := by rw [show (4 : Int64) = lN 4 from rfl, lN_mul, lN_add]
        have e3 : 2 * (lN rt) = lN (2 * rt) := by rw [show (2 : Int64) = lN 2 from rfl, lN_mul]
        have e4 : (2 * (lN rt)) + 1 = lN (2 * rt + 1) := by rw [show (2 : Int64) = lN 2 from rfl, show (1 : Int64) = lN 1 from rfl, lN_mul, lN_add]
        have e7 : (shI i) + (-2) = shI (i + 1) := shI_s i
        by_cases hi8 : i < 8
        · have e5 : pw (i - 8) = pw (i + 1 - 8) := by rw [show i - 8 = i + 1 - 8 by omega]
          by_cases hlt : 4 * re + prI n i < 4 * rt + 1
          · refine lv_lload_n hx hb dX1_nearestRoot_17 rfl (lv_at hl 1 rfl) ?_
            refine lv_ldc2 (v := 4503599627370496) hx hb hown (hts _ (List.mem_of_getElem? (i := 1) rfl)) dX1_nearestRoot_18 ?_
            refine W.lcmp hx hb dX1_nearestRoot_21 ?_
            refine lv_if_ge (tgt := 109) hx hb dX1_nearestRoot_22 (by decide) (fun h => absurd h (fun h => hge ((lg_cmp_ge _ _).mp h))) (fun _ => ?_)
            refine lv_iload hx hb dX1_nearestRoot_25 (lv_at hl 4 rfl) ?_
            refine lv_bipush (v := (-128)) hx hb dX1_nearestRoot_27 (by decide) ?_
            refine lv_icmp_le (tgt := 109) hx hb dX1_nearestRoot_29 (by decide) (fun h => absurd h (shI_gt (by omega))) (fun _ => ?_)
            refine lv_iload hx hb dX1_nearestRoot_32 (lv_at hl 4 rfl) ?_
            refine lv_if_lt (tgt := 47) hx hb dX1_nearestRoot_34 (by decide) (fun h => absurd h (shI_nneg hi8)) (fun _ => ?_)
            refine lv_iload_n hx hb dX1_nearestRoot_37 rfl (lv_at hl 0 rfl) ?_
            refine lv_iload hx hb dX1_nearestRoot_38 (lv_at hl 4 rfl) ?_
            refine lv_ishr hx hb dX1_nearestRoot_40 ?_
            refine lv_iconst (v := 3) hx hb dX1_nearestRoot_41 (by decide) ?_
            refine lv_iand hx hb dX1_nearestRoot_42 ?_
            refine lv_i2l hx hb dX1_nearestRoot_43 rfl ?_
            refine lv_goto (tgt := 48) hx hb dX1_nearestRoot_44 (by decide) ?_
            refine W.eq (g2 := F0 m 48 ls [.long (lN (prI n i))]) (by rw [show (((nI n) >>> ((shI i) &&& 31)) &&& 3).toInt64 = lN (prI n i) from pr_eq hn hi8]) ?_
            refine lv_lstore (lv' := [(8, .long (lN (prI n i))), (0, .int (nI n)), (1, .long (lN rt)), (3, .long (lN re)), (5, .double (pw (i - 8))), (7, .int (shI i))]) hx hb dX1_nearestRoot_48 hl (by decide) rfl (fun ls hl => ?_)
            refine lv_ldc2 (v := 4) hx hb hown (hts _ (List.mem_of_getElem? (i := 2) rfl)) dX1_nearestRoot_50 ?_
            refine lv_lload_n hx hb dX1_nearestRoot_53 rfl (lv_at hl 2 rfl) ?_
            refine lv_lmul hx hb dX1_nearestRoot_54 ?_
            refine lv_lconst (v := 1) hx hb dX1_nearestRoot_55 (by decide) ?_
            refine lv_ladd hx hb dX1_nearestRoot_56 ?_
            refine lv_lstore (lv' := [(10, .long ((4 * (lN rt)) + 1)), (8, .long (lN (prI n i))), (0, .int (nI n)), (1, .long (lN rt)), (3, .long (lN re)), (5, .double (pw (i - 8))), (7, .int (shI i))]) hx hb dX1_nearestRoot_57 hl (by decide) rfl (fun ls hl => ?_)
            refine lv_ldc2 (v := 4) hx hb hown (hts _ (List.mem_of_getElem? (i := 2) rfl)) dX1_nearestRoot_59 ?_
            refine lv_lload_n hx hb dX1_nearestRoot_62 rfl (lv_at hl 4 rfl) ?_
            refine lv_lmul hx hb dX1_nearestRoot_63 ?_
            refine lv_lload hx hb dX1_nearestRoot_64 (lv_at hl 1 rfl) ?_
            refine lv_ladd hx hb dX1_nearestRoot_66 ?_
            refine lv_lstore_n (lv' := [(3, .long ((4 * (lN re)) + (lN (prI n i)))), (10, .long ((4 * (lN rt)) + 1)), (8, .long (lN (prI n i))), (0, .int (nI n)), (1, .long (lN rt)), (5, .double (pw (i - 8))), (7, .int (shI i))]) hx hb dX1_nearestRoot_67 rfl hl (by decide) rfl (fun ls hl => ?_)
            refine lv_ldc2 (v := 2) hx hb hown (hts _ (List.mem_of_getElem? (i := 3) rfl)) dX1_nearestRoot_68 ?_
            refine lv_lload_n hx hb dX1_nearestRoot_71 rfl (lv_at hl 4 rfl) ?_
            refine lv_lmul hx hb dX1_nearestRoot_72 ?_
            refine lv_lstore_n (lv' := [(1, .long (2 * (lN rt))), (3, .long ((4 * (lN re)) + (lN (prI n i)))), (10, .long ((4 * (lN rt)) + 1)), (8, .long (lN (prI n i))), (0, .int (nI n)), (5, .double (pw (i - 8))), (7, .int (shI i))]) hx hb dX1_nearestRoot_73 rfl hl (by decide) rfl (fun ls hl => ?_)
            refine lv_lload_n hx hb dX1_nearestRoot_74 rfl (lv_at hl 1 rfl) ?_
            refine lv_lload hx hb dX1_nearestRoot_75 (lv_at hl 2 rfl) ?_
            refine W.lcmp hx hb dX1_nearestRoot_77 ?_
            refine lv_if_lt (tgt := 90) hx hb dX1_nearestRoot_78 (by decide) (fun _ => ?_) (fun h => absurd ((lg_cmp_lt _ _).mpr (by rw [e2, e1]; exact (lN_lt63 (by omega) (by omega)).mpr hlt)) h)
            refine lv_iload hx hb dX1_nearestRoot_90 (lv_at hl 6 rfl) ?_
            refine lv_if_ge (tgt := 103) hx hb dX1_nearestRoot_92 (by decide) (fun _ => ?_) (fun h => absurd (shI_pos hi8) h)
            refine lv_iinc (v := (shI i) + (-2)) (lv' := [(7, .int ((shI i) + (-2))), (1, .long (2 * (lN rt))), (3, .long ((4 * (lN re)) + (lN (prI n i)))), (10, .long ((4 * (lN rt)) + 1)), (8, .long (lN (prI n i))), (0, .int (nI n)), (5, .double (pw (i - 8)))]) hx hb dX1_nearestRoot_103 hl (k := 6) rfl rfl (by decide) rfl (fun ls hl => ?_)
            refine lv_goto (tgt := 17) hx hb dX1_nearestRoot_106 (by decide) ?_
            rw [e3, e2, e5, e7] at hl
            exact ih (i + 1) (2 * rt) (4 * re + prI n i) (by omega) h0 (li_s hL hi60 hlt2 (Or.inl ⟨hlt, rfl, rfl⟩)) H locs ls hP hS (lv_sub hl [5, 1, 2, 6, 0] rfl)
          · refine lv_lload_n hx hb dX1_nearestRoot_17 rfl (lv_at hl 1 rfl) ?_
            refine lv_ldc2 (v := 4503599627370496) hx hb hown (hts _ (List.mem_of_getElem? (i := 1) rfl)) dX1_nearestRoot_18 ?_
            refine W.lcmp hx hb dX1_nearestRoot_21 ?_
            refine lv_if_ge (tgt := 109) hx hb dX1_nearestRoot_22 (by decide) (fun h => absurd h (fun h => hge ((lg_cmp_ge _ _).mp h))) (fun _ => ?_)
            refine lv_iload hx hb dX1_nearestRoot_25 (lv_at hl 4 rfl) ?_
            refine lv_bipush (v := (-128)) hx hb dX1_nearestRoot_27 (by decide) ?_
            refine lv_icmp_le (tgt := 109) hx hb dX1_nearestRoot_29 (by decide) (fun h => absurd h (shI_gt (by omega))) (fun _ => ?_)
            refine lv_iload hx hb dX1_nearestRoot_32 (lv_at hl 4 rfl) ?_
            refine lv_if_lt (tgt := 47) hx hb dX1_nearestRoot_34 (by decide) (fun h => absurd h (shI_nneg hi8)) (fun _ => ?_)
            refine lv_iload_n hx hb dX1_nearestRoot_37 rfl (lv_at hl 0 rfl) ?_
            refine lv_iload hx hb dX1_nearestRoot_38 (lv_at hl 4 rfl) ?_
            refine lv_ishr hx hb dX1_nearestRoot_40 ?_
            refine lv_iconst (v := 3) hx hb dX1_nearestRoot_41 (by decide) ?_
            refine lv_iand hx hb dX1_nearestRoot_42 ?_
            refine lv_i2l hx hb dX1_nearestRoot_43 rfl ?_
            refine lv_goto (tgt := 48) hx hb dX1_nearestRoot_44 (by decide) ?_
            refine W.eq (g2 := F0 m 48 ls [.long (lN (prI n i))]) (by rw [show (((nI n) >>> ((shI i) &&& 31)) &&& 3).toInt64 = lN (prI n i) from pr_eq hn hi8]) ?_
            refine lv_lstore (lv' := [(8, .long (lN (prI n i))), (0, .int (nI n)), (1, .long (lN rt)), (3, .long (lN re)), (5, .double (pw (i - 8))), (7, .int (shI i))]) hx hb dX1_nearestRoot_48 hl (by decide) rfl (fun ls hl => ?_)
            refine lv_ldc2 (v := 4) hx hb hown (hts _ (List.mem_of_getElem? (i := 2) rfl)) dX1_nearestRoot_50 ?_
            refine lv_lload_n hx hb dX1_nearestRoot_53 rfl (lv_at hl 2 rfl) ?_
            refine lv_lmul hx hb dX1_nearestRoot_54 ?_
            refine lv_lconst (v := 1) hx hb dX1_nearestRoot_55 (by decide) ?_
            refine lv_ladd hx hb dX1_nearestRoot_56 ?_
            refine lv_lstore (lv' := [(10, .long ((4 * (lN rt)) + 1)), (8, .long (lN (prI n i))), (0, .int (nI n)), (1, .long (lN rt)), (3, .long (lN re)), (5, .double (pw (i - 8))), (7, .int (shI i))]) hx hb dX1_nearestRoot_57 hl (by decide) rfl (fun ls hl => ?_)
            refine lv_ldc2 (v := 4) hx hb hown (hts _ (List.mem_of_getElem? (i := 2) rfl)) dX1_nearestRoot_59 ?_
            refine lv_lload_n hx hb dX1_nearestRoot_62 rfl (lv_at hl 4 rfl) ?_
            refine lv_lmul hx hb dX1_nearestRoot_63 ?_
            refine lv_lload hx hb dX1_nearestRoot_64 (lv_at hl 1 rfl) ?_
            refine lv_ladd hx hb dX1_nearestRoot_66 ?_
            refine lv_lstore_n (lv' := [(3, .long ((4 * (lN re)) + (lN (prI n i)))), (10, .long ((4 * (lN rt)) + 1)), (8, .long (lN (prI n i))), (0, .int (nI n)), (1, .long (lN rt)), (5, .double (pw (i - 8))), (7, .int (shI i))]) hx hb dX1_nearestRoot_67 rfl hl (by decide) rfl (fun ls hl => ?_)
            refine lv_ldc2 (v := 2) hx hb hown (hts _ (List.mem_of_getElem? (i := 3) rfl)) dX1_nearestRoot_68 ?_
            refine lv_lload_n hx hb dX1_nearestRoot_71 rfl (lv_at hl 4 rfl) ?_
            refine lv_lmul hx hb dX1_nearestRoot_72 ?_
            refine lv_lstore_n (lv' := [(1, .long (2 * (lN rt))), (3, .long ((4 * (lN re)) + (lN (prI n i)))), (10, .long ((4 * (lN rt)) + 1)), (8, .long (lN (prI n i))), (0, .int (nI n)), (5, .double (pw (i - 8))), (7, .int (shI i))]) hx hb dX1_nearestRoot_73 rfl hl (by decide) rfl (fun ls hl => ?_)
            refine lv_lload_n hx hb dX1_nearestRoot_74 rfl (lv_at hl 1 rfl) ?_
            refine lv_lload hx hb dX1_nearestRoot_75 (lv_at hl 2 rfl) ?_
            refine W.lcmp hx hb dX1_nearestRoot_77 ?_
            refine lv_if_lt (tgt := 90) hx hb dX1_nearestRoot_78 (by decide) (fun h => absurd h (fun h => hlt ((lN_lt63 (by omega) (by omega)).mp (by rw [← e2, ← e1]; exact (lg_cmp_lt _ _).mp h)))) (fun _ => ?_)
            refine lv_lload_n hx hb dX1_nearestRoot_81 rfl (lv_at hl 1 rfl) ?_
            refine lv_lload hx hb dX1_nearestRoot_82 (lv_at hl 2 rfl) ?_
            refine lv_lsub hx hb dX1_nearestRoot_84 ?_
            refine lv_lstore_n (lv' := [(3, .long (((4 * (lN re)) + (lN (prI n i))) - ((4 * (lN rt)) + 1))), (1, .long (2 * (lN rt))), (10, .long ((4 * (lN rt)) + 1)), (8, .long (lN (prI n i))), (0, .int (nI n)), (5, .double (pw (i - 8))), (7, .int (shI i))]) hx hb dX1_nearestRoot_85 rfl hl (by decide) rfl (fun ls hl => ?_)
            refine lv_lload_n hx hb dX1_nearestRoot_86 rfl (lv_at hl 1 rfl) ?_
            refine lv_lconst (v := 1) hx hb dX1_nearestRoot_87 (by decide) ?_
            refine lv_ladd hx hb dX1_nearestRoot_88 ?_
            refine lv_lstore_n (lv' := [(1, .long ((2 * (lN rt)) + 1)), (3, .long (((4 * (lN re)) + (lN (prI n i))) - ((4 * (lN rt)) + 1))), (10, .long ((4 * (lN rt)) + 1)), (8, .long (lN (prI n i))), (0, .int (nI n)), (5, .double (pw (i - 8))), (7, .int (shI i))]) hx hb dX1_nearestRoot_89 rfl hl (by decide) rfl (fun ls hl => ?_)
            refine lv_iload hx hb dX1_nearestRoot_90 (lv_at hl 6 rfl) ?_
            refine lv_if_ge (tgt := 103) hx hb dX1_nearestRoot_92 (by decide) (fun _ => ?_) (fun h => absurd (shI_pos hi8) h)
            refine lv_iinc (v := (shI i) + (-2)) (lv' := [(7, .int ((shI i) + (-2))), (1, .long ((2 * (lN rt)) + 1)), (3, .long (((4 * (lN re)) + (lN (prI n i))) - ((4 * (lN rt)) + 1))), (10, .long ((4 * (lN rt)) + 1)), (8, .long (lN (prI n i))), (0, .int (nI n)), (5, .double (pw (i - 8)))]) hx hb dX1_nearestRoot_103 hl (k := 6) rfl rfl (by decide) rfl (fun ls hl => ?_)
            refine lv_goto (tgt := 17) hx hb dX1_nearestRoot_106 (by decide) ?_
            rw [e4, e2, e1, lN_sub (a := 4 * re + prI n i) (b := 4 * rt + 1) (by omega), e5, e7] at hl
            exact ih (i + 1) (2 * rt + 1) (4 * re + prI n i - (4 * rt + 1)) (by omega) h0 (li_s hL hi60 hlt2 (Or.inr ⟨by omega, rfl, rfl⟩)) H locs ls hP hS (lv_sub hl [5, 1, 2, 6, 0] rfl)
        · have e5 : FP.dmul 4611686018427387904 (pw (i - 8)) = pw (i + 1 - 8) := by rw [pw_mul (i - 8) (by omega), show i + 1 - 8 = i - 8 + 1 by omega]
          by_cases hlt : 4 * re + prI n i < 4 * rt + 1
          · refine lv_lload_n hx hb dX1_nearestRoot_17 rfl (lv_at hl 1 rfl) ?_
            refine lv_ldc2 (v := 4503599627370496) hx hb hown (hts _ (List.mem_of_getElem? (i := 1) rfl)) dX1_nearestRoot_18 ?_
            refine W.lcmp hx hb dX1_nearestRoot_21 ?_
            refine lv_if_ge (tgt := 109) hx hb dX1_nearestRoot_22 (by decide) (fun h => absurd h (fun h => hge ((lg_cmp_ge _ _).mp h))) (fun _ => ?_)
            refine lv_iload hx hb dX1_nearestRoot_25 (lv_at hl 4 rfl) ?_
            refine lv_bipush (v := (-128)) hx hb dX1_nearestRoot_27 (by decide) ?_
            refine lv_icmp_le (tgt := 109) hx hb dX1_nearestRoot_29 (by decide) (fun h => absurd h (shI_gt (by omega))) (fun _ => ?_)
            refine lv_iload hx hb dX1_nearestRoot_32 (lv_at hl 4 rfl) ?_
            refine lv_if_lt (tgt := 47) hx hb dX1_nearestRoot_34 (by decide) (fun _ => ?_) (fun h => absurd (shI_neg hi8 hi60) h)
            refine lv_lconst (v := 0) hx hb dX1_nearestRoot_47 (by decide) ?_
            refine W.eq (g2 := F0 m 48 ls [.long (lN (prI n i))]) (by rw [show (0 : Int64) = lN (prI n i) by rw [pr_0 hi8]; rfl]) ?_
            refine lv_lstore (lv' := [(8, .long (lN (prI n i))), (0, .int (nI n)), (1, .long (lN rt)), (3, .long (lN re)), (5, .double (pw (i - 8))), (7, .int (shI i))]) hx hb dX1_nearestRoot_48 hl (by decide) rfl (fun ls hl => ?_)
            refine lv_ldc2 (v := 4) hx hb hown (hts _ (List.mem_of_getElem? (i := 2) rfl)) dX1_nearestRoot_50 ?_
            refine lv_lload_n hx hb dX1_nearestRoot_53 rfl (lv_at hl 2 rfl) ?_
            refine lv_lmul hx hb dX1_nearestRoot_54 ?_
            refine lv_lconst (v := 1) hx hb dX1_nearestRoot_55 (by decide) ?_
            refine lv_ladd hx hb dX1_nearestRoot_56 ?_
            refine lv_lstore (lv' := [(10, .long ((4 * (lN rt)) + 1)), (8, .long (lN (prI n i))), (0, .int (nI n)), (1, .long (lN rt)), (3, .long (lN re)), (5, .double (pw (i - 8))), (7, .int (shI i))]) hx hb dX1_nearestRoot_57 hl (by decide) rfl (fun ls hl => ?_)
            refine lv_ldc2 (v := 4) hx hb hown (hts _ (List.mem_of_getElem? (i := 2) rfl)) dX1_nearestRoot_59 ?_
            refine lv_lload_n hx hb dX1_nearestRoot_62 rfl (lv_at hl 4 rfl) ?_
            refine lv_lmul hx hb dX1_nearestRoot_63 ?_
            refine lv_lload hx hb dX1_nearestRoot_64 (lv_at hl 1 rfl) ?_
            refine lv_ladd hx hb dX1_nearestRoot_66 ?_
            refine lv_lstore_n (lv' := [(3, .long ((4 * (lN re)) + (lN (prI n i)))), (10, .long ((4 * (lN rt)) + 1)), (8, .long (lN (prI n i))), (0, .int (nI n)), (1, .long (lN rt)), (5, .double (pw (i - 8))), (7, .int (shI i))]) hx hb dX1_nearestRoot_67 rfl hl (by decide) rfl (fun ls hl => ?_)
            refine lv_ldc2 (v := 2) hx hb hown (hts _ (List.mem_of_getElem? (i := 3) rfl)) dX1_nearestRoot_68 ?_
            refine lv_lload_n hx hb dX1_nearestRoot_71 rfl (lv_at hl 4 rfl) ?_
            refine lv_lmul hx hb dX1_nearestRoot_72 ?_
            refine lv_lstore_n (lv' := [(1, .long (2 * (lN rt))), (3, .long ((4 * (lN re)) + (lN (prI n i)))), (10, .long ((4 * (lN rt)) + 1)), (8, .long (lN (prI n i))), (0, .int (nI n)), (5, .double (pw (i - 8))), (7, .int (shI i))]) hx hb dX1_nearestRoot_73 rfl hl (by decide) rfl (fun ls hl => ?_)
            refine lv_lload_n hx hb dX1_nearestRoot_74 rfl (lv_at hl 1 rfl) ?_
            refine lv_lload hx hb dX1_nearestRoot_75 (lv_at hl 2 rfl) ?_
            refine W.lcmp hx hb dX1_nearestRoot_77 ?_
            refine lv_if_lt (tgt := 90) hx hb dX1_nearestRoot_78 (by decide) (fun _ => ?_) (fun h => absurd ((lg_cmp_lt _ _).mpr (by rw [e2, e1]; exact (lN_lt63 (by omega) (by omega)).mpr hlt)) h)
            refine lv_iload hx hb dX1_nearestRoot_90 (lv_at hl 6 rfl) ?_
            refine lv_if_ge (tgt := 103) hx hb dX1_nearestRoot_92 (by decide) (fun h => absurd h (shI_npos hi8 hi60)) (fun _ => ?_)
            refine lv_ldc2d (v := 4611686018427387904) hx hb hown (hts _ (List.mem_of_getElem? (i := 4) rfl)) dX1_nearestRoot_95 ?_
            refine lv_dload hx hb dX1_nearestRoot_98 (lv_at hl 5 rfl) ?_
            refine lv_dmul hx hb dX1_nearestRoot_100 (by rw [pw_mul (i - 8) (by omega)]; exact pw_n64 (by omega)) ?_
            refine lv_dstore (lv' := [(5, .double (FP.dmul 4611686018427387904 (pw (i - 8)))), (1, .long (2 * (lN rt))), (3, .long ((4 * (lN re)) + (lN (prI n i)))), (10, .long ((4 * (lN rt)) + 1)), (8, .long (lN (prI n i))), (0, .int (nI n)), (7, .int (shI i))]) hx hb dX1_nearestRoot_101 hl (by decide) rfl (fun ls hl => ?_)
            refine lv_iinc (v := (shI i) + (-2)) (lv' := [(7, .int ((shI i) + (-2))), (5, .double (FP.dmul 4611686018427387904 (pw (i - 8)))), (1, .long (2 * (lN rt))), (3, .long ((4 * (lN re)) + (lN (prI n i)))), (10, .long ((4 * (lN rt)) + 1)), (8, .long (lN (prI n i))), (0, .int (nI n))]) hx hb dX1_nearestRoot_103 hl (k := 6) rfl rfl (by decide) rfl (fun ls hl => ?_)
            refine lv_goto (tgt := 17) hx hb dX1_nearestRoot_106 (by decide) ?_
            rw [e3, e2, e5, e7] at hl
            exact ih (i + 1) (2 * rt) (4 * re + prI n i) (by omega) h0 (li_s hL hi60 hlt2 (Or.inl ⟨hlt, rfl, rfl⟩)) H locs ls hP hS (lv_sub hl [6, 2, 3, 1, 0] rfl)
          · refine lv_lload_n hx hb dX1_nearestRoot_17 rfl (lv_at hl 1 rfl) ?_
            refine lv_ldc2 (v := 4503599627370496) hx hb hown (hts _ (List.mem_of_getElem? (i := 1) rfl)) dX1_nearestRoot_18 ?_
            refine W.lcmp hx hb dX1_nearestRoot_21 ?_
            refine lv_if_ge (tgt := 109) hx hb dX1_nearestRoot_22 (by decide) (fun h => absurd h (fun h => hge ((lg_cmp_ge _ _).mp h))) (fun _ => ?_)
            refine lv_iload hx hb dX1_nearestRoot_25 (lv_at hl 4 rfl) ?_
            refine lv_bipush (v := (-128)) hx hb dX1_nearestRoot_27 (by decide) ?_
            refine lv_icmp_le (tgt := 109) hx hb dX1_nearestRoot_29 (by decide) (fun h => absurd h (shI_gt (by omega))) (fun _ => ?_)
            refine lv_iload hx hb dX1_nearestRoot_32 (lv_at hl 4 rfl) ?_
            refine lv_if_lt (tgt := 47) hx hb dX1_nearestRoot_34 (by decide) (fun _ => ?_) (fun h => absurd (shI_neg hi8 hi60) h)
            refine lv_lconst (v := 0) hx hb dX1_nearestRoot_47 (by decide) ?_
            refine W.eq (g2 := F0 m 48 ls [.long (lN (prI n i))]) (by rw [show (0 : Int64) = lN (prI n i) by rw [pr_0 hi8]; rfl]) ?_
            refine lv_lstore (lv' := [(8, .long (lN (prI n i))), (0, .int (nI n)), (1, .long (lN rt)), (3, .long (lN re)), (5, .double (pw (i - 8))), (7, .int (shI i))]) hx hb dX1_nearestRoot_48 hl (by decide) rfl (fun ls hl => ?_)
            refine lv_ldc2 (v := 4) hx hb hown (hts _ (List.mem_of_getElem? (i := 2) rfl)) dX1_nearestRoot_50 ?_
            refine lv_lload_n hx hb dX1_nearestRoot_53 rfl (lv_at hl 2 rfl) ?_
            refine lv_lmul hx hb dX1_nearestRoot_54 ?_
            refine lv_lconst (v := 1) hx hb dX1_nearestRoot_55 (by decide) ?_
            refine lv_ladd hx hb dX1_nearestRoot_56 ?_
            refine lv_lstore (lv' := [(10, .long ((4 * (lN rt)) + 1)), (8, .long (lN (prI n i))), (0, .int (nI n)), (1, .long (lN rt)), (3, .long (lN re)), (5, .double (pw (i - 8))), (7, .int (shI i))]) hx hb dX1_nearestRoot_57 hl (by decide) rfl (fun ls hl => ?_)
            refine lv_ldc2 (v := 4) hx hb hown (hts _ (List.mem_of_getElem? (i := 2) rfl)) dX1_nearestRoot_59 ?_
            refine lv_lload_n hx hb dX1_nearestRoot_62 rfl (lv_at hl 4 rfl) ?_
            refine lv_lmul hx hb dX1_nearestRoot_63 ?_
            refine lv_lload hx hb dX1_nearestRoot_64 (lv_at hl 1 rfl) ?_
            refine lv_ladd hx hb dX1_nearestRoot_66 ?_
            refine lv_lstore_n (lv' := [(3, .long ((4 * (lN re)) + (lN (prI n i)))), (10, .long ((4 * (lN rt)) + 1)), (8, .long (lN (prI n i))), (0, .int (nI n)), (1, .long (lN rt)), (5, .double (pw (i - 8))), (7, .int (shI i))]) hx hb dX1_nearestRoot_67 rfl hl (by decide) rfl (fun ls hl => ?_)
            refine lv_ldc2 (v := 2) hx hb hown (hts _ (List.mem_of_getElem? (i := 3) rfl)) dX1_nearestRoot_68 ?_
            refine lv_lload_n hx hb dX1_nearestRoot_71 rfl (lv_at hl 4 rfl) ?_
            refine lv_lmul hx hb dX1_nearestRoot_72 ?_
            refine lv_lstore_n (lv' := [(1, .long (2 * (lN rt))), (3, .long ((4 * (lN re)) + (lN (prI n i)))), (10, .long ((4 * (lN rt)) + 1)), (8, .long (lN (prI n i))), (0, .int (nI n)), (5, .double (pw (i - 8))), (7, .int (shI i))]) hx hb dX1_nearestRoot_73 rfl hl (by decide) rfl (fun ls hl => ?_)
            refine lv_lload_n hx hb dX1_nearestRoot_74 rfl (lv_at hl 1 rfl) ?_
            refine lv_lload hx hb dX1_nearestRoot_75 (lv_at hl 2 rfl) ?_
            refine W.lcmp hx hb dX1_nearestRoot_77 ?_
            refine lv_if_lt (tgt := 90) hx hb dX1_nearestRoot_78 (by decide) (fun h => absurd h (fun h => hlt ((lN_lt63 (by omega) (by omega)).mp (by rw [← e2, ← e1]; exact (lg_cmp_lt _ _).mp h)))) (fun _ => ?_)
            refine lv_lload_n hx hb dX1_nearestRoot_81 rfl (lv_at hl 1 rfl) ?_
            refine lv_lload hx hb dX1_nearestRoot_82 (lv_at hl 2 rfl) ?_
            refine lv_lsub hx hb dX1_nearestRoot_84 ?_
            refine lv_lstore_n (lv' := [(3, .long (((4 * (lN re)) + (lN (prI n i))) - ((4 * (lN rt)) + 1))), (1, .long (2 * (lN rt))), (10, .long ((4 * (lN rt)) + 1)), (8, .long (lN (prI n i))), (0, .int (nI n)), (5, .double (pw (i - 8))), (7, .int (shI i))]) hx hb dX1_nearestRoot_85 rfl hl (by decide) rfl (fun ls hl => ?_)
            refine lv_lload_n hx hb dX1_nearestRoot_86 rfl (lv_at hl 1 rfl) ?_
            refine lv_lconst (v := 1) hx hb dX1_nearestRoot_87 (by decide) ?_
            refine lv_ladd hx hb dX1_nearestRoot_88 ?_
            refine lv_lstore_n (lv' := [(1, .long ((2 * (lN rt)) + 1)), (3, .long (((4 * (lN re)) + (lN (prI n i))) - ((4 * (lN rt)) + 1))), (10, .long ((4 * (lN rt)) + 1)), (8, .long (lN (prI n i))), (0, .int (nI n)), (5, .double (pw (i - 8))), (7, .int (shI i))]) hx hb dX1_nearestRoot_89 rfl hl (by decide) rfl (fun ls hl => ?_)
            refine lv_iload hx hb dX1_nearestRoot_90 (lv_at hl 6 rfl) ?_
            refine lv_if_ge (tgt := 103) hx hb dX1_nearestRoot_92 (by decide) (fun h => absurd h (shI_npos hi8 hi60)) (fun _ => ?_)
            refine lv_ldc2d (v := 4611686018427387904) hx hb hown (hts _ (List.mem_of_getElem? (i := 4) rfl)) dX1_nearestRoot_95 ?_
            refine lv_dload hx hb dX1_nearestRoot_98 (lv_at hl 5 rfl) ?_
            refine lv_dmul hx hb dX1_nearestRoot_100 (by rw [pw_mul (i - 8) (by omega)]; exact pw_n64 (by omega)) ?_
            refine lv_dstore (lv' := [(5, .double (FP.dmul 4611686018427387904 (pw (i - 8)))), (1, .long ((2 * (lN rt)) + 1)), (3, .long (((4 * (lN re)) + (lN (prI n i))) - ((4 * (lN rt)) + 1))), (10, .long ((4 * (lN rt)) + 1)), (8, .long (lN (prI n i))), (0, .int (nI n)), (7, .int (shI i))]) hx hb dX1_nearestRoot_101 hl (by decide) rfl (fun ls hl => ?_)
            refine lv_iinc (v := (shI i) + (-2)) (lv' := [(7, .int ((shI i) + (-2))), (5, .double (FP.dmul 4611686018427387904 (pw (i - 8)))), (1, .long ((2 * (lN rt)) + 1)), (3, .long (((4 * (lN re)) + (lN (prI n i))) - ((4 * (lN rt)) + 1))), (10, .long ((4 * (lN rt)) + 1)), (8, .long (lN (prI n i))), (0, .int (nI n))]) hx hb dX1_nearestRoot_103 hl (k := 6) rfl rfl (by decide) rfl (fun ls hl => ?_)
            refine lv_goto (tgt := 17) hx hb dX1_nearestRoot_106 (by decide) ?_
            rw [e4, e2, e1, lN_sub (a := 4 * re + prI n i) (b := 4 * rt + 1) (by omega), e5, e7] at hl
            exact ih (i + 1) (2 * rt + 1) (4 * re + prI n i - (4 * rt + 1)) (by omega) h0 (li_s hL hi60 hlt2 (Or.inr ⟨by omega, rfl, rfl⟩)) H locs ls hP hS (lv_sub hl [6, 2, 3, 1, 0] rfl)
  refine lv_iload_n hx hb dX1_nearestRoot_0 rfl (lv_at hl 0 rfl) ?_
  refine lv_if_gt (tgt := 6) hx hb dX1_nearestRoot_1 (by decide) (fun h_1 => ?_) (fun h_1 => ?_)
  · refine lv_lconst (v := 0) hx hb dX1_nearestRoot_6 (by decide) ?_
    refine lv_lstore_n (lv' := [(1, .long 0), (0, .int (nI n))]) hx hb dX1_nearestRoot_7 rfl hl (by decide) rfl (fun ls hl => ?_)
    refine lv_lconst (v := 0) hx hb dX1_nearestRoot_8 (by decide) ?_
    refine lv_lstore_n (lv' := [(3, .long 0), (1, .long 0), (0, .int (nI n))]) hx hb dX1_nearestRoot_9 rfl hl (by decide) rfl (fun ls hl => ?_)
    refine lv_dconst1 hx hb dX1_nearestRoot_10 ?_
    refine lv_dstore (lv' := [(5, .double FP.dconst1), (3, .long 0), (1, .long 0), (0, .int (nI n))]) hx hb dX1_nearestRoot_11 hl (by decide) rfl (fun ls hl => ?_)
    refine lv_bipush (v := 14) hx hb dX1_nearestRoot_13 (by decide) ?_
    refine lv_istore (lv' := [(7, .int 14), (5, .double FP.dconst1), (3, .long 0), (1, .long 0), (0, .int (nI n))]) hx hb dX1_nearestRoot_15 hl (by decide) rfl (fun ls hl => ?_)
    exact loop_17 61 0 0 0 rfl (nI_pos0 h_1) (li_0 hn) H _ ls hP hS (lv_sub hl [4, 3, 2, 1, 0] rfl)
  · refine lv_dconst0 hx hb dX1_nearestRoot_4 ?_
    exact x_dret hx hb hr hlk hsz hP hS (by rw [r_X1_nearestRoot, rV_np hn h_1]; rfl) rfl dX1_nearestRoot_5
