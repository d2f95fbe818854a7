noncomputable def r_X1_nearestRoot (σ : Sg) (sq : Int32) : UInt64 := rV sq.toNatClampNeg
set_option maxHeartbeats 4000000 in
set_option maxRecDepth 100000 in
theorem c_X1_nearestRoot (l : Launch) (D : va_G) (cI : ClassId) (a : Nat → Nat) (sz : Nat) (σ : Sg) (sq : Int32) (hq : vp_in sq 19603) : Met l yX1_nearestRoot wsX1_nearestRoot ({ frames := 0, cells := 0, slots := 0, locals := 0 }) (PcW D cI 29 a (wX cI a) sz σ [.int sq]) (QdW D 29 a (wX cI a) sz (r_X1_nearestRoot σ sq) σ) 0 0 (AX 29 a sz) := by
  obtain ⟨n, hn, rfl⟩ := vp_in_of hq (by decide)
  refine x_of (cc := cX1_nearestRoot) (maxL := 12) (ret := some .double) (C := RX1) rfl (by decide) rfl (Nat.le_of_ble_eq_true rfl) (fun p e s m below meth c hx hb hr hml hlk hts hown hsz H hP hS hG ls hl => ?_)
  have hl : lv_has ls 12 [(0, .int (nI n))] := hl
  have loop_17 : ∀ (k i rt re : Nat) (_ : i + k = 61) (_ : 0 < n) (_ : LI n i rt re) (H : Heap) (locs : List Loc) (ls : Array Slot) (_ : va_P D vwCl (wX cI a σ) H) (_ : va_S (AX 29 a sz) s.heap H locs) (_ : lv_has ls 12 [(0, .int (nI n)), (1, .long (lN rt)), (3, .long (lN re)), (5, .double (pw (i - 8))), (7, .int (shI i))]), W p l e (headSpec wsX1_nearestRoot ({ frames := 0, cells := 0, slots := 0, locals := 0 } : Room)).room s m ([.int (nI n)] : List Value).toArray below meth c H locs 0 0 (MQ below (QdW D 29 a (wX cI a) sz (r_X1_nearestRoot σ (nI n)) σ) ([.int (nI n)] : List Value).toArray s 0 0 (AX 29 a sz)) (F0 m 17 ls []) := by
    intro k
    induction k with
    | zero => intro i rt re hi _ hL; exact absurd hL.1 (by omega)
    | succ k ih =>
      intro i rt re hi h0 hL H locs ls hP hS hl
      have hb53 := hL.2.2.2
      have hre := hL.2.2.1
      by_cases hge : (4503599627370496 : Int64) ≤ lN rt
      · have hge2 : 2 ^ 52 ≤ rt := (lN_le63 (a := 4503599627370496) (by omega) (by omega)).mp hge
        by_cases hle : re ≤ rt
        · refine lv_lload_n hx hb dX1_nearestRoot_17 rfl (lv_at hl 1 rfl) ?_
          refine lv_ldc2 (v := 4503599627370496) hx hb hown (hts _ (List.mem_of_getElem? (i := 1) rfl)) dX1_nearestRoot_18 ?_
          refine W.lcmp hx hb dX1_nearestRoot_21 ?_
          refine lv_if_ge (tgt := 109) hx hb dX1_nearestRoot_22 (by decide) (fun _ => ?_) (fun h => absurd ((lg_cmp_ge _ _).mpr hge) h)
          refine lv_lload_n hx hb dX1_nearestRoot_109 rfl (lv_at hl 2 rfl) ?_
          refine lv_lload_n hx hb dX1_nearestRoot_110 rfl (lv_at hl 1 rfl) ?_
          refine W.lcmp hx hb dX1_nearestRoot_111 ?_
          refine lv_if_le (tgt := 119) hx hb dX1_nearestRoot_112 (by decide) (fun _ => ?_) (fun h => absurd ((lg_cmp_le _ _).mpr ((lN_le63 (by omega) (by omega)).mpr hle)) h)
          refine lv_lload_n hx hb dX1_nearestRoot_119 rfl (lv_at hl 1 rfl) ?_
          refine lv_l2d hx hb dX1_nearestRoot_120 ?_
          refine lv_dload hx hb dX1_nearestRoot_121 (lv_at hl 3 rfl) ?_
          refine lv_ddiv hx hb dX1_nearestRoot_123 (rt_nan _ (by have := hL.1; omega)) ?_
          exact x_dret hx hb hr hlk hsz hP hS (rt_end hn h0 hL hge2 (Or.inr ⟨hle, rfl⟩)) rfl dX1_nearestRoot_124
        · refine lv_lload_n hx hb dX1_nearestRoot_17 rfl (lv_at hl 1 rfl) ?_
          refine lv_ldc2 (v := 4503599627370496) hx hb hown (hts _ (List.mem_of_getElem? (i := 1) rfl)) dX1_nearestRoot_18 ?_
          refine W.lcmp hx hb dX1_nearestRoot_21 ?_
          refine lv_if_ge (tgt := 109) hx hb dX1_nearestRoot_22 (by decide) (fun _ => ?_) (fun h => absurd ((lg_cmp_ge _ _).mpr hge) h)
          refine lv_lload_n hx hb dX1_nearestRoot_109 rfl (lv_at hl 2 rfl) ?_
          refine lv_lload_n hx hb dX1_nearestRoot_110 rfl (lv_at hl 1 rfl) ?_
          refine W.lcmp hx hb dX1_nearestRoot_111 ?_
          refine lv_if_le (tgt := 119) hx hb dX1_nearestRoot_112 (by decide) (fun h => absurd h (fun h => hle ((lN_le63 (by omega) (by omega)).mp ((lg_cmp_le _ _).mp h)))) (fun _ => ?_)
          refine lv_lload_n hx hb dX1_nearestRoot_115 rfl (lv_at hl 1 rfl) ?_
          refine lv_lconst (v := 1) hx hb dX1_nearestRoot_116 (by decide) ?_
          refine lv_ladd hx hb dX1_nearestRoot_117 ?_
          refine lv_lstore_n (lv' := [(1, .long ((lN rt) + 1)), (0, .int (nI n)), (3, .long (lN re)), (5, .double (pw (i - 8))), (7, .int (shI i))]) hx hb dX1_nearestRoot_118 rfl hl (by decide) rfl (fun ls hl => ?_)
          refine lv_lload_n hx hb dX1_nearestRoot_119 rfl (lv_at hl 0 rfl) ?_
          refine lv_l2d hx hb dX1_nearestRoot_120 ?_
          refine lv_dload hx hb dX1_nearestRoot_121 (lv_at hl 3 rfl) ?_
          refine lv_ddiv hx hb dX1_nearestRoot_123 (rt_nan _ (by have := hL.1; omega)) ?_
          exact x_dret hx hb hr hlk hsz hP hS (rt_end hn h0 hL hge2 (Or.inl ⟨by omega, rfl⟩)) rfl dX1_nearestRoot_124
      · have hlt2 : rt < 2 ^ 52 := by
          rcases Nat.lt_or_ge rt (2 ^ 52) with q | q
          · exact q
          · exact absurd ((lN_le63 (a := 4503599627370496) (by omega) (by omega)).mpr q) hge
        have hi60 : i < 60 := li_60 h0 hL hlt2
        have hpr : prI n i < 4 := pr_lt n i
        have e1 : (4 * (lN rt)) + 1 = lN (4 * rt + 1) := by rw [show (4 : Int64) = lN 4 from rfl, show (1 : Int64) = lN 1 from rfl, lN_mul, lN_add]
        have e2 : (4 * (lN re)) + (lN (prI n i)) = lN (4 * re + prI n i) := by rw [show (4 : Int64) = lN 4 from rfl, lN_mul, lN_add]
        have e3 : 2 * (lN rt) = lN (2 * rt) := by rw [show (2 : Int64) = lN 2 from rfl, lN_mul]
        have e4 : (2 * (lN rt)) + 1 = lN (2 * rt + 1) := by rw [show (2 : Int64) = lN 2 from rfl, show (1 : Int64) = lN 1 from rfl, lN_mul, lN_add]
        have e7 : (shI i) + (-2) = shI (i + 1) := shI_s i
        by_cases hi8 : i < 8
        · have e5 : pw (i - 8) = pw (i + 1 - 8) := by rw [show i - 8 = i + 1 - 8 by omega]
          by_cases hlt : 4 * re + prI n i < 4 * rt + 1
          · refine lv_lload_n hx hb dX1_nearestRoot_17 rfl (lv_at hl 1 rfl) ?_
            refine lv_ldc2 (v := 4503599627370496) hx hb hown (hts _ (List.mem_of_getElem? (i := 1) rfl)) dX1_nearestRoot_18 ?_
            refine W.lcmp hx hb dX1_nearestRoot_21 ?_
            refine lv_if_ge (tgt := 109) hx hb dX1_nearestRoot_22 (by decide) (fun h => absurd h (fun h => hge ((lg_cmp_ge _ _).mp h))) (fun _ => ?_)
            refine lv_iload hx hb dX1_nearestRoot_25 (lv_at hl 4 rfl) ?_
            refine lv_bipush (v := (-128)) hx hb dX1_nearestRoot_27 (by decide) ?_
            refine lv_icmp_le (tgt := 109) hx hb dX1_nearestRoot_29 (by decide) (fun h => absurd h (shI_gt (by omega))) (fun _ => ?_)
            refine lv_iload hx hb dX1_nearestRoot_32 (lv_at hl 4 rfl) ?_
            refine lv_if_lt (tgt := 47) hx hb dX1_nearestRoot_34 (by decide) (fun h => absurd h (shI_nneg hi8)) (fun _ => ?_)
            refine lv_iload_n hx hb dX1_nearestRoot_37 rfl (lv_at hl 0 rfl) ?_
            refine lv_iload hx hb dX1_nearestRoot_38 (lv_at hl 4 rfl) ?_
            refine lv_ishr hx hb dX1_nearestRoot_40 ?_
            refine lv_iconst (v := 3) hx hb dX1_nearestRoot_41 (by decide) ?_
            refine lv_iand hx hb dX1_nearestRoot_42 ?_
            refine lv_i2l hx hb dX1_nearestRoot_43 rfl ?_
            refine lv_goto (tgt := 48) hx hb dX1_nearestRoot_44 (by decide) ?_
            refine W.eq (g2 := F0 m 48 ls [.long (lN (prI n i))]) (by rw [show (((nI n) >>> ((shI i) &&& 31)) &&& 3).toInt64 = lN (prI n i) from pr_eq hn hi8]) ?_
            refine lv_lstore (lv' := [(8, .long (lN (prI n i))), (0, .int (nI n)), (1, .long (lN rt)), (3, .long (lN re)), (5, .double (pw (i - 8))), (7, .int (shI i))]) hx hb dX1_nearestRoot_48 hl (by decide) rfl (fun ls hl => ?_)
            refine lv_ldc2 (v := 4) hx hb hown (hts _ (List.mem_of_getElem? (i := 2) rfl)) dX1_nearestRoot_50 ?_
            refine lv_lload_n hx hb dX1_nearestRoot_53 rfl (lv_at hl 2 rfl) ?_
            refine lv_lmul hx hb dX1_nearestRoot_54 ?_
            refine lv_lconst (v := 1) hx hb dX1_nearestRoot_55 (by decide) ?_
            refine lv_ladd hx hb dX1_nearestRoot_56 ?_
            refine lv_lstore (lv' := [(10, .long ((4 * (lN rt)) + 1)), (8, .long (lN (prI n i))), (0, .int (nI n)), (1, .long (lN rt)), (3, .long (lN re)), (5, .double (pw (i - 8))), (7, .int (shI i))]) hx hb dX1_nearestRoot_57 hl (by decide) rfl (fun ls hl => ?_)
            refine lv_ldc2 (v := 4) hx hb hown (hts _ (List.mem_of_getElem? (i := 2) rfl)) dX1_nearestRoot_59 ?_
            refine lv_lload_n hx hb dX1_nearestRoot_62 rfl (lv_at hl 4 rfl) ?_
            refine lv_lmul hx hb dX1_nearestRoot_63 ?_
            refine lv_lload hx hb dX1_nearestRoot_64 (lv_at hl 1 rfl) ?_
            refine lv_ladd hx hb dX1_nearestRoot_66 ?_
            refine lv_lstore_n (lv' := [(3, .long ((4 * (lN re)) + (lN (prI n i)))), (10, .long ((4 * (lN rt)) + 1)), (8, .long (lN (prI n i))), (0, .int (nI n)), (1, .long (lN rt)), (5, .double (pw (i - 8))), (7, .int (shI i))]) hx hb dX1_nearestRoot_67 rfl hl (by decide) rfl (fun ls hl => ?_)
            refine lv_ldc2 (v := 2) hx hb hown (hts _ (List.mem_of_getElem? (i := 3) rfl)) dX1_nearestRoot_68 ?_
            refine lv_lload_n hx hb dX1_nearestRoot_71 rfl (lv_at hl 4 rfl) ?_
            refine lv_lmul hx hb dX1_nearestRoot_72 ?_
            refine lv_lstore_n (lv' := [(1, .long (2 * (lN rt))), (3, .long ((4 * (lN re)) + (lN (prI n i)))), (10, .long ((4 * (lN rt)) + 1)), (8, .long (lN (prI n i))), (0, .int (nI n)), (5, .double (pw (i - 8))), (7, .int (shI i))]) hx hb dX1_nearestRoot_73 rfl hl (by decide) rfl (fun ls hl => ?_)
            refine lv_lload_n hx hb dX1_nearestRoot_74 rfl (lv_at hl 1 rfl) ?_
            refine lv_lload hx hb dX1_nearestRoot_75 (lv_at hl 2 rfl) ?_
            refine W.lcmp hx hb dX1_nearestRoot_77 ?_
            refine lv_if_lt (tgt := 90) hx hb dX1_nearestRoot_78 (by decide) (fun _ => ?_) (fun h => absurd ((lg_cmp_lt _ _).mpr (by rw [e2, e1]; exact (lN_lt63 (by omega) (by omega)).mpr hlt)) h)
            refine lv_iload hx hb dX1_nearestRoot_90 (lv_at hl 6 rfl) ?_
            refine lv_if_ge (tgt := 103) hx hb dX1_nearestRoot_92 (by decide) (fun _ => ?_) (fun h => absurd (shI_pos hi8) h)
            refine lv_iinc (v := (shI i) + (-2)) (lv' := [(7, .int ((shI i) + (-2))), (1, .long (2 * (lN rt))), (3, .long ((4 * (lN re)) + (lN (prI n i)))), (10, .long ((4 * (lN rt)) + 1)), (8, .long (lN (prI n i))), (0, .int (nI n)), (5, .double (pw (i - 8)))]) hx hb dX1_nearestRoot_103 hl (k := 6) rfl rfl (by decide) rfl (fun ls hl => ?_)
            refine lv_goto (tgt := 17) hx hb dX1_nearestRoot_106 (by decide) ?_
            rw [e3, e2, e5, e7] at hl
            exact ih (i + 1) (2 * rt) (4 * re + prI n i) (by omega) h0 (li_s hL hi60 hlt2 (Or.inl ⟨hlt, rfl, rfl⟩)) H locs ls hP hS (lv_sub hl [5, 1, 2, 6, 0] rfl)
          · refine lv_lload_n hx hb dX1_nearestRoot_17 rfl (lv_at hl 1 rfl) ?_
            refine lv_ldc2 (v := 4503599627370496) hx hb hown (hts _ (List.mem_of_getElem? (i := 1) rfl)) dX1_nearestRoot_18 ?_
            refine W.lcmp hx hb dX1_nearestRoot_21 ?_
            refine lv_if_ge (tgt := 109) hx hb dX1_nearestRoot_22 (by decide) (fun h => absurd h (fun h => hge ((lg_cmp_ge _ _).mp h))) (fun _ => ?_)
            refine lv_iload hx hb dX1_nearestRoot_25 (lv_at hl 4 rfl) ?_
            refine lv_bipush (v := (-128)) hx hb dX1_nearestRoot_27 (by decide) ?_
            refine lv_icmp_le (tgt := 109) hx hb dX1_nearestRoot_29 (by decide) (fun h => absurd h (shI_gt (by omega))) (fun _ => ?_)
            refine lv_iload hx hb dX1_nearestRoot_32 (lv_at hl 4 rfl) ?_
            refine lv_if_lt (tgt := 47) hx hb dX1_nearestRoot_34 (by decide) (fun h => absurd h (shI_nneg hi8)) (fun _ => ?_)
            refine lv_iload_n hx hb dX1_nearestRoot_37 rfl (lv_at hl 0 rfl) ?_
            refine lv_iload hx hb dX1_nearestRoot_38 (lv_at hl 4 rfl) ?_
            refine lv_ishr hx hb dX1_nearestRoot_40 ?_
            refine lv_iconst (v := 3) hx hb dX1_nearestRoot_41 (by decide) ?_
            refine lv_iand hx hb dX1_nearestRoot_42 ?_
            refine lv_i2l hx hb dX1_nearestRoot_43 rfl ?_
            refine lv_goto (tgt := 48) hx hb dX1_nearestRoot_44 (by decide) ?_
            refine W.eq (g2 := F0 m 48 ls [.long (lN (prI n i))]) (by rw [show (((nI n) >>> ((shI i) &&& 31)) &&& 3).toInt64 = lN (prI n i) from pr_eq hn hi8]) ?_
            refine lv_lstore (lv' := [(8, .long (lN (prI n i))), (0, .int (nI n)), (1, .long (lN rt)), (3, .long (lN re)), (5, .double (pw (i - 8))), (7, .int (shI i))]) hx hb dX1_nearestRoot_48 hl (by decide) rfl (fun ls hl => ?_)
            refine lv_ldc2 (v := 4) hx hb hown (hts _ (List.mem_of_getElem? (i := 2) rfl)) dX1_nearestRoot_50 ?_
            refine lv_lload_n hx hb dX1_nearestRoot_53 rfl (lv_at hl 2 rfl) ?_
            refine lv_lmul hx hb dX1_nearestRoot_54 ?_
            refine lv_lconst (v := 1) hx hb dX1_nearestRoot_55 (by decide) ?_
            refine lv_ladd hx hb dX1_nearestRoot_56 ?_
            refine lv_lstore (lv' := [(10, .long ((4 * (lN rt)) + 1)), (8, .long (lN (prI n i))), (0, .int (nI n)), (1, .long (lN rt)), (3, .long (lN re)), (5, .double (pw (i - 8))), (7, .int (shI i))]) hx hb dX1_nearestRoot_57 hl (by decide) rfl (fun ls hl => ?_)
            refine lv_ldc2 (v := 4) hx hb hown (hts _ (List.mem_of_getElem? (i := 2) rfl)) dX1_nearestRoot_59 ?_
            refine lv_lload_n hx hb dX1_nearestRoot_62 rfl (lv_at hl 4 rfl) ?_
            refine lv_lmul hx hb dX1_nearestRoot_63 ?_
            refine lv_lload hx hb dX1_nearestRoot_64 (lv_at hl 1 rfl) ?_
            refine lv_ladd hx hb dX1_nearestRoot_66 ?_
            refine lv_lstore_n (lv' := [(3, .long ((4 * (lN re)) + (lN (prI n i)))), (10, .long ((4 * (lN rt)) + 1)), (8, .long (lN (prI n i))), (0, .int (nI n)), (1, .long (lN rt)), (5, .double (pw (i - 8))), (7, .int (shI i))]) hx hb dX1_nearestRoot_67 rfl hl (by decide) rfl (fun ls hl => ?_)
            refine lv_ldc2 (v := 2) hx hb hown (hts _ (List.mem_of_getElem? (i := 3) rfl)) dX1_nearestRoot_68 ?_
            refine lv_lload_n hx hb dX1_nearestRoot_71 rfl (lv_at hl 4 rfl) ?_
            refine lv_lmul hx hb dX1_nearestRoot_72 ?_
            refine lv_lstore_n (lv' := [(1, .long (2 * (lN rt))), (3, .long ((4 * (lN re)) + (lN (prI n i)))), (10, .long ((4 * (lN rt)) + 1)), (8, .long (lN (prI n i))), (0, .int (nI n)), (5, .double (pw (i - 8))), (7, .int (shI i))]) hx hb dX1_nearestRoot_73 rfl hl (by decide) rfl (fun ls hl => ?_)
            refine lv_lload_n hx hb dX1_nearestRoot_74 rfl (lv_at hl 1 rfl) ?_
            refine lv_lload hx hb dX1_nearestRoot_75 (lv_at hl 2 rfl) ?_
            refine W.lcmp hx hb dX1_nearestRoot_77 ?_
            refine lv_if_lt (tgt := 90) hx hb dX1_nearestRoot_78 (by decide) (fun h => absurd h (fun h => hlt ((lN_lt63 (by omega) (by omega)).mp (by rw [← e2, ← e1]; exact (lg_cmp_lt _ _).mp h)))) (fun _ => ?_)
            refine lv_lload_n hx hb dX1_nearestRoot_81 rfl (lv_at hl 1 rfl) ?_
            refine lv_lload hx hb dX1_nearestRoot_82 (lv_at hl 2 rfl) ?_
            refine lv_lsub hx hb dX1_nearestRoot_84 ?_
            refine lv_lstore_n (lv' := [(3, .long (((4 * (lN re)) + (lN (prI n i))) - ((4 * (lN rt)) + 1))), (1, .long (2 * (lN rt))), (10, .long ((4 * (lN rt)) + 1)), (8, .long (lN (prI n i))), (0, .int (nI n)), (5, .double (pw (i - 8))), (7, .int (shI i))]) hx hb dX1_nearestRoot_85 rfl hl (by decide) rfl (fun ls hl => ?_)
            refine lv_lload_n hx hb dX1_nearestRoot_86 rfl (lv_at hl 1 rfl) ?_
            refine lv_lconst (v := 1) hx hb dX1_nearestRoot_87 (by decide) ?_
            refine lv_ladd hx hb dX1_nearestRoot_88 ?_
            refine lv_lstore_n (lv' := [(1, .long ((2 * (lN rt)) + 1)), (3, .long (((4 * (lN re)) + (lN (prI n i))) - ((4 * (lN rt)) + 1))), (10, .long ((4 * (lN rt)) + 1)), (8, .long (lN (prI n i))), (0, .int (nI n)), (5, .double (pw (i - 8))), (7, .int (shI i))]) hx hb dX1_nearestRoot_89 rfl hl (by decide) rfl (fun ls hl => ?_)
            refine lv_iload hx hb dX1_nearestRoot_90 (lv_at hl 6 rfl) ?_
            refine lv_if_ge (tgt := 103) hx hb dX1_nearestRoot_92 (by decide) (fun _ => ?_) (fun h => absurd (shI_pos hi8) h)
            refine lv_iinc (v := (shI i) + (-2)) (lv' := [(7, .int ((shI i) + (-2))), (1, .long ((2 * (lN rt)) + 1)), (3, .long (((4 * (lN re)) + (lN (prI n i))) - ((4 * (lN rt)) + 1))), (10, .long ((4 * (lN rt)) + 1)), (8, .long (lN (prI n i))), (0, .int (nI n)), (5, .double (pw (i - 8)))]) hx hb dX1_nearestRoot_103 hl (k := 6) rfl rfl (by decide) rfl (fun ls hl => ?_)
            refine lv_goto (tgt := 17) hx hb dX1_nearestRoot_106 (by decide) ?_
            rw [e4, e2, e1, lN_sub (a := 4 * re + prI n i) (b := 4 * rt + 1) (by omega), e5, e7] at hl
            exact ih (i + 1) (2 * rt + 1) (4 * re + prI n i - (4 * rt + 1)) (by omega) h0 (li_s hL hi60 hlt2 (Or.inr ⟨by omega, rfl, rfl⟩)) H locs ls hP hS (lv_sub hl [5, 1, 2, 6, 0] rfl)
        · have e5 : FP.dmul 4611686018427387904 (pw (i - 8)) = pw (i + 1 - 8) := by rw [pw_mul (i - 8) (by omega), show i + 1 - 8 = i - 8 + 1 by omega]
          by_cases hlt : 4 * re + prI n i < 4 * rt + 1
          · refine lv_lload_n hx hb dX1_nearestRoot_17 rfl (lv_at hl 1 rfl) ?_
            refine lv_ldc2 (v := 4503599627370496) hx hb hown (hts _ (List.mem_of_getElem? (i := 1) rfl)) dX1_nearestRoot_18 ?_
            refine W.lcmp hx hb dX1_nearestRoot_21 ?_
            refine lv_if_ge (tgt := 109) hx hb dX1_nearestRoot_22 (by decide) (fun h => absurd h (fun h => hge ((lg_cmp_ge _ _).mp h))) (fun _ => ?_)
            refine lv_iload hx hb dX1_nearestRoot_25 (lv_at hl 4 rfl) ?_
            refine lv_bipush (v := (-128)) hx hb dX1_nearestRoot_27 (by decide) ?_
            refine lv_icmp_le (tgt := 109) hx hb dX1_nearestRoot_29 (by decide) (fun h => absurd h (shI_gt (by omega))) (fun _ => ?_)
            refine lv_iload hx hb dX1_nearestRoot_32 (lv_at hl 4 rfl) ?_
            refine lv_if_lt (tgt := 47) hx hb dX1_nearestRoot_34 (by decide) (fun _ => ?_) (fun h => absurd (shI_neg hi8 hi60) h)
            refine lv_lconst (v := 0) hx hb dX1_nearestRoot_47 (by decide) ?_
            refine W.eq (g2 := F0 m 48 ls [.long (lN (prI n i))]) (by rw [show (0 : Int64) = lN (prI n i) by rw [pr_0 hi8]; rfl]) ?_
            refine lv_lstore (lv' := [(8, .long (lN (prI n i))), (0, .int (nI n)), (1, .long (lN rt)), (3, .long (lN re)), (5, .double (pw (i - 8))), (7, .int (shI i))]) hx hb dX1_nearestRoot_48 hl (by decide) rfl (fun ls hl => ?_)
            refine lv_ldc2 (v := 4) hx hb hown (hts _ (List.mem_of_getElem? (i := 2) rfl)) dX1_nearestRoot_50 ?_
            refine lv_lload_n hx hb dX1_nearestRoot_53 rfl (lv_at hl 2 rfl) ?_
            refine lv_lmul hx hb dX1_nearestRoot_54 ?_
            refine lv_lconst (v := 1) hx hb dX1_nearestRoot_55 (by decide) ?_
            refine lv_ladd hx hb dX1_nearestRoot_56 ?_
            refine lv_lstore (lv' := [(10, .long ((4 * (lN rt)) + 1)), (8, .long (lN (prI n i))), (0, .int (nI n)), (1, .long (lN rt)), (3, .long (lN re)), (5, .double (pw (i - 8))), (7, .int (shI i))]) hx hb dX1_nearestRoot_57 hl (by decide) rfl (fun ls hl => ?_)
            refine lv_ldc2 (v := 4) hx hb hown (hts _ (List.mem_of_getElem? (i := 2) rfl)) dX1_nearestRoot_59 ?_
            refine lv_lload_n hx hb dX1_nearestRoot_62 rfl (lv_at hl 4 rfl) ?_
            refine lv_lmul hx hb dX1_nearestRoot_63 ?_
            refine lv_lload hx hb dX1_nearestRoot_64 (lv_at hl 1 rfl) ?_
            refine lv_ladd hx hb dX1_nearestRoot_66 ?_
            refine lv_lstore_n (lv' := [(3, .long ((4 * (lN re)) + (lN (prI n i)))), (10, .long ((4 * (lN rt)) + 1)), (8, .long (lN (prI n i))), (0, .int (nI n)), (1, .long (lN rt)), (5, .double (pw (i - 8))), (7, .int (shI i))]) hx hb dX1_nearestRoot_67 rfl hl (by decide) rfl (fun ls hl => ?_)
            refine lv_ldc2 (v := 2) hx hb hown (hts _ (List.mem_of_getElem? (i := 3) rfl)) dX1_nearestRoot_68 ?_
            refine lv_lload_n hx hb dX1_nearestRoot_71 rfl (lv_at hl 4 rfl) ?_
            refine lv_lmul hx hb dX1_nearestRoot_72 ?_
            refine lv_lstore_n (lv' := [(1, .long (2 * (lN rt))), (3, .long ((4 * (lN re)) + (lN (prI n i)))), (10, .long ((4 * (lN rt)) + 1)), (8, .long (lN (prI n i))), (0, .int (nI n)), (5, .double (pw (i - 8))), (7, .int (shI i))]) hx hb dX1_nearestRoot_73 rfl hl (by decide) rfl (fun ls hl => ?_)
            refine lv_lload_n hx hb dX1_nearestRoot_74 rfl (lv_at hl 1 rfl) ?_
            refine lv_lload hx hb dX1_nearestRoot_75 (lv_at hl 2 rfl) ?_
            refine W.lcmp hx hb dX1_nearestRoot_77 ?_
            refine lv_if_lt (tgt := 90) hx hb dX1_nearestRoot_78 (by decide) (fun _ => ?_) (fun h => absurd ((lg_cmp_lt _ _).mpr (by rw [e2, e1]; exact (lN_lt63 (by omega) (by omega)).mpr hlt)) h)
            refine lv_iload hx hb dX1_nearestRoot_90 (lv_at hl 6 rfl) ?_
            refine lv_if_ge (tgt := 103) hx hb dX1_nearestRoot_92 (by decide) (fun h => absurd h (shI_npos hi8 hi60)) (fun _ => ?_)
            refine lv_ldc2d (v := 4611686018427387904) hx hb hown (hts _ (List.mem_of_getElem? (i := 4) rfl)) dX1_nearestRoot_95 ?_
            refine lv_dload hx hb dX1_nearestRoot_98 (lv_at hl 5 rfl) ?_
            refine lv_dmul hx hb dX1_nearestRoot_100 (by rw [pw_mul (i - 8) (by omega)]; exact pw_n64 (by omega)) ?_
            refine lv_dstore (lv' := [(5, .double (FP.dmul 4611686018427387904 (pw (i - 8)))), (1, .long (2 * (lN rt))), (3, .long ((4 * (lN re)) + (lN (prI n i)))), (10, .long ((4 * (lN rt)) + 1)), (8, .long (lN (prI n i))), (0, .int (nI n)), (7, .int (shI i))]) hx hb dX1_nearestRoot_101 hl (by decide) rfl (fun ls hl => ?_)
            refine lv_iinc (v := (shI i) + (-2)) (lv' := [(7, .int ((shI i) + (-2))), (5, .double (FP.dmul 4611686018427387904 (pw (i - 8)))), (1, .long (2 * (lN rt))), (3, .long ((4 * (lN re)) + (lN (prI n i)))), (10, .long ((4 * (lN rt)) + 1)), (8, .long (lN (prI n i))), (0, .int (nI n))]) hx hb dX1_nearestRoot_103 hl (k := 6) rfl rfl (by decide) rfl (fun ls hl => ?_)
            refine lv_goto (tgt := 17) hx hb dX1_nearestRoot_106 (by decide) ?_
            rw [e3, e2, e5, e7] at hl
            exact ih (i + 1) (2 * rt) (4 * re + prI n i) (by omega) h0 (li_s hL hi60 hlt2 (Or.inl ⟨hlt, rfl, rfl⟩)) H locs ls hP hS (lv_sub hl [6, 2, 3, 1, 0] rfl)
          · refine lv_lload_n hx hb dX1_nearestRoot_17 rfl (lv_at hl 1 rfl) ?_
            refine lv_ldc2 (v := 4503599627370496) hx hb hown (hts _ (List.mem_of_getElem? (i := 1) rfl)) dX1_nearestRoot_18 ?_
            refine W.lcmp hx hb dX1_nearestRoot_21 ?_
            refine lv_if_ge (tgt := 109) hx hb dX1_nearestRoot_22 (by decide) (fun h => absurd h (fun h => hge ((lg_cmp_ge _ _).mp h))) (fun _ => ?_)
            refine lv_iload hx hb dX1_nearestRoot_25 (lv_at hl 4 rfl) ?_
            refine lv_bipush (v := (-128)) hx hb dX1_nearestRoot_27 (by decide) ?_
            refine lv_icmp_le (tgt := 109) hx hb dX1_nearestRoot_29 (by decide) (fun h => absurd h (shI_gt (by omega))) (fun _ => ?_)
            refine lv_iload hx hb dX1_nearestRoot_32 (lv_at hl 4 rfl) ?_
            refine lv_if_lt (tgt := 47) hx hb dX1_nearestRoot_34 (by decide) (fun _ => ?_) (fun h => absurd (shI_neg hi8 hi60) h)
            refine lv_lconst (v := 0) hx hb dX1_nearestRoot_47 (by decide) ?_
            refine W.eq (g2 := F0 m 48 ls [.long (lN (prI n i))]) (by rw [show (0 : Int64) = lN (prI n i) by rw [pr_0 hi8]; rfl]) ?_
            refine lv_lstore (lv' := [(8, .long (lN (prI n i))), (0, .int (nI n)), (1, .long (lN rt)), (3, .long (lN re)), (5, .double (pw (i - 8))), (7, .int (shI i))]) hx hb dX1_nearestRoot_48 hl (by decide) rfl (fun ls hl => ?_)
            refine lv_ldc2 (v := 4) hx hb hown (hts _ (List.mem_of_getElem? (i := 2) rfl)) dX1_nearestRoot_50 ?_
            refine lv_lload_n hx hb dX1_nearestRoot_53 rfl (lv_at hl 2 rfl) ?_
            refine lv_lmul hx hb dX1_nearestRoot_54 ?_
            refine lv_lconst (v := 1) hx hb dX1_nearestRoot_55 (by decide) ?_
            refine lv_ladd hx hb dX1_nearestRoot_56 ?_
            refine lv_lstore (lv' := [(10, .long ((4 * (lN rt)) + 1)), (8, .long (lN (prI n i))), (0, .int (nI n)), (1, .long (lN rt)), (3, .long (lN re)), (5, .double (pw (i - 8))), (7, .int (shI i))]) hx hb dX1_nearestRoot_57 hl (by decide) rfl (fun ls hl => ?_)
            refine lv_ldc2 (v := 4) hx hb hown (hts _ (List.mem_of_getElem? (i := 2) rfl)) dX1_nearestRoot_59 ?_
            refine lv_lload_n hx hb dX1_nearestRoot_62 rfl (lv_at hl 4 rfl) ?_
            refine lv_lmul hx hb dX1_nearestRoot_63 ?_
            refine lv_lload hx hb dX1_nearestRoot_64 (lv_at hl 1 rfl) ?_
            refine lv_ladd hx hb dX1_nearestRoot_66 ?_
            refine lv_lstore_n (lv' := [(3, .long ((4 * (lN re)) + (lN (prI n i)))), (10, .long ((4 * (lN rt)) + 1)), (8, .long (lN (prI n i))), (0, .int (nI n)), (1, .long (lN rt)), (5, .double (pw (i - 8))), (7, .int (shI i))]) hx hb dX1_nearestRoot_67 rfl hl (by decide) rfl (fun ls hl => ?_)
            refine lv_ldc2 (v := 2) hx hb hown (hts _ (List.mem_of_getElem? (i := 3) rfl)) dX1_nearestRoot_68 ?_
            refine lv_lload_n hx hb dX1_nearestRoot_71 rfl (lv_at hl 4 rfl) ?_
            refine lv_lmul hx hb dX1_nearestRoot_72 ?_
            refine lv_lstore_n (lv' := [(1, .long (2 * (lN rt))), (3, .long ((4 * (lN re)) + (lN (prI n i)))), (10, .long ((4 * (lN rt)) + 1)), (8, .long (lN (prI n i))), (0, .int (nI n)), (5, .double (pw (i - 8))), (7, .int (shI i))]) hx hb dX1_nearestRoot_73 rfl hl (by decide) rfl (fun ls hl => ?_)
            refine lv_lload_n hx hb dX1_nearestRoot_74 rfl (lv_at hl 1 rfl) ?_
            refine lv_lload hx hb dX1_nearestRoot_75 (lv_at hl 2 rfl) ?_
            refine W.lcmp hx hb dX1_nearestRoot_77 ?_
            refine lv_if_lt (tgt := 90) hx hb dX1_nearestRoot_78 (by decide) (fun h => absurd h (fun h => hlt ((lN_lt63 (by omega) (by omega)).mp (by rw [← e2, ← e1]; exact (lg_cmp_lt _ _).mp h)))) (fun _ => ?_)
            refine lv_lload_n hx hb dX1_nearestRoot_81 rfl (lv_at hl 1 rfl) ?_
            refine lv_lload hx hb dX1_nearestRoot_82 (lv_at hl 2 rfl) ?_
            refine lv_lsub hx hb dX1_nearestRoot_84 ?_
            refine lv_lstore_n (lv' := [(3, .long (((4 * (lN re)) + (lN (prI n i))) - ((4 * (lN rt)) + 1))), (1, .long (2 * (lN rt))), (10, .long ((4 * (lN rt)) + 1)), (8, .long (lN (prI n i))), (0, .int (nI n)), (5, .double (pw (i - 8))), (7, .int (shI i))]) hx hb dX1_nearestRoot_85 rfl hl (by decide) rfl (fun ls hl => ?_)
            refine lv_lload_n hx hb dX1_nearestRoot_86 rfl (lv_at hl 1 rfl) ?_
            refine lv_lconst (v := 1) hx hb dX1_nearestRoot_87 (by decide) ?_
            refine lv_ladd hx hb dX1_nearestRoot_88 ?_
            refine lv_lstore_n (lv' := [(1, .long ((2 * (lN rt)) + 1)), (3, .long (((4 * (lN re)) + (lN (prI n i))) - ((4 * (lN rt)) + 1))), (10, .long ((4 * (lN rt)) + 1)), (8, .long (lN (prI n i))), (0, .int (nI n)), (5, .double (pw (i - 8))), (7, .int (shI i))]) hx hb dX1_nearestRoot_89 rfl hl (by decide) rfl (fun ls hl => ?_)
            refine lv_iload hx hb dX1_nearestRoot_90 (lv_at hl 6 rfl) ?_
            refine lv_if_ge (tgt := 103) hx hb dX1_nearestRoot_92 (by decide) (fun h => absurd h (shI_npos hi8 hi60)) (fun _ => ?_)
            refine lv_ldc2d (v := 4611686018427387904) hx hb hown (hts _ (List.mem_of_getElem? (i := 4) rfl)) dX1_nearestRoot_95 ?_
            refine lv_dload hx hb dX1_nearestRoot_98 (lv_at hl 5 rfl) ?_
            refine lv_dmul hx hb dX1_nearestRoot_100 (by rw [pw_mul (i - 8) (by omega)]; exact pw_n64 (by omega)) ?_
            refine lv_dstore (lv' := [(5, .double (FP.dmul 4611686018427387904 (pw (i - 8)))), (1, .long ((2 * (lN rt)) + 1)), (3, .long (((4 * (lN re)) + (lN (prI n i))) - ((4 * (lN rt)) + 1))), (10, .long ((4 * (lN rt)) + 1)), (8, .long (lN (prI n i))), (0, .int (nI n)), (7, .int (shI i))]) hx hb dX1_nearestRoot_101 hl (by decide) rfl (fun ls hl => ?_)
            refine lv_iinc (v := (shI i) + (-2)) (lv' := [(7, .int ((shI i) + (-2))), (5, .double (FP.dmul 4611686018427387904 (pw (i - 8)))), (1, .long ((2 * (lN rt)) + 1)), (3, .long (((4 * (lN re)) + (lN (prI n i))) - ((4 * (lN rt)) + 1))), (10, .long ((4 * (lN rt)) + 1)), (8, .long (lN (prI n i))), (0, .int (nI n))]) hx hb dX1_nearestRoot_103 hl (k := 6) rfl rfl (by decide) rfl (fun ls hl => ?_)
            refine lv_goto (tgt := 17) hx hb dX1_nearestRoot_106 (by decide) ?_
            rw [e4, e2, e1, lN_sub (a := 4 * re + prI n i) (b := 4 * rt + 1) (by omega), e5, e7] at hl
            exact ih (i + 1) (2 * rt + 1) (4 * re + prI n i - (4 * rt + 1)) (by omega) h0 (li_s hL hi60 hlt2 (Or.inr ⟨by omega, rfl, rfl⟩)) H locs ls hP hS (lv_sub hl [6, 2, 3, 1, 0] rfl)
  refine lv_iload_n hx hb dX1_nearestRoot_0 rfl (lv_at hl 0 rfl) ?_
  refine lv_if_gt (tgt := 6) hx hb dX1_nearestRoot_1 (by decide) (fun h_1 => ?_) (fun h_1 => ?_)
  · refine lv_lconst (v := 0) hx hb dX1_nearestRoot_6 (by decide) ?_
    refine lv_lstore_n (lv' := [(1, .long 0), (0, .int (nI n))]) hx hb dX1_nearestRoot_7 rfl hl (by decide) rfl (fun ls hl => ?_)
    refine lv_lconst (v := 0) hx hb dX1_nearestRoot_8 (by decide) ?_
    refine lv_lstore_n (lv' := [(3, .long 0), (1, .long 0), (0, .int (nI n))]) hx hb dX1_nearestRoot_9 rfl hl (by decide) rfl (fun ls hl => ?_)
    refine lv_dconst1 hx hb dX1_nearestRoot_10 ?_
    refine lv_dstore (lv' := [(5, .double FP.dconst1), (3, .long 0), (1, .long 0), (0, .int (nI n))]) hx hb dX1_nearestRoot_11 hl (by decide) rfl (fun ls hl => ?_)
    refine lv_bipush (v := 14) hx hb dX1_nearestRoot_13 (by decide) ?_
    refine lv_istore (lv' := [(7, .int 14), (5, .double FP.dconst1), (3, .long 0), (1, .long 0), (0, .int (nI n))]) hx hb dX1_nearestRoot_15 hl (by decide) rfl (fun ls hl => ?_)
    exact loop_17 61 0 0 0 rfl (nI_pos0 h_1) (li_0 hn) H _ ls hP hS (lv_sub hl [4, 3, 2, 1, 0] rfl)
  · refine lv_dconst0 hx hb dX1_nearestRoot_4 ?_
    exact x_dret hx hb hr hlk hsz hP hS (by rw [r_X1_nearestRoot, rV_np hn h_1]; rfl) rfl dX1_nearestRoot_5
def r_X6_isSquareBelow (σ : Sg) (x n : Int64) (mo : Int32) (A B M : Nat) : Int32 := sqb A B M
theorem b_X6_isSquareBelow (σ : Sg) (x n : Int64) (mo : Int32) (A B M : Nat) : r_X6_isSquareBelow σ x n mo A B M = 0 ∨ r_X6_isSquareBelow σ x n mo A B M = 1 := by
  unfold r_X6_isSquareBelow sqb
  split
  · exact Or.inr rfl
  · exact Or.inl rfl
set_option maxHeartbeats 4000000 in
set_option maxRecDepth 100000 in
theorem c_X6_isSquareBelow (l : Launch) (D : va_G) (cI : ClassId) (a : Nat → Nat) (sz : Nat) (σ : Sg) (x n : Int64) (mo : Int32) (A B M : Nat) (hx : x = lN A) (hn : n = lN B) (hm : mo = nI M) (hA : A < 2 ^ 54) (hM : M < 60) (hB : B * 2 ^ M < 2 ^ 54) : Met l yX6_isSquareBelow wsX6_isSquareBelow ({ frames := 0, cells := 0, slots := 0, locals := 0 }) (PcW D cI 24 a (wM cI a) sz σ [.long x, .long n, .int mo]) (QiW D 24 a (wM cI a) sz (r_X6_isSquareBelow σ x n mo A B M) σ) 0 0 (AX 24 a sz) := by
  subst hx hn hm
  obtain ⟨u1, u2, u3, u4, u5, u6, u7⟩ := sq_parts hA
  refine x_of (cc := cX6_isSquareBelow) (maxL := 19) (ret := some .boolean) (C := RX6) rfl (by decide) rfl (Nat.le_of_ble_eq_true rfl) (fun p e s m below meth c hx hb hr hml hlk hts hown hsz H hP hS hG ls hl => ?_)
  have hl : lv_has ls 19 [(0, .long (lN A)), (2, .long (lN B)), (4, .int (nI M))] := hl
  refine lv_ldc2 (v := 134217727) hx hb hown (hts _ (List.mem_of_getElem? (i := 1) rfl)) dX6_isSquareBelow_0 ?_
  refine lv_lstore (lv' := [(5, .long 134217727), (0, .long (lN A)), (2, .long (lN B)), (4, .int (nI M))]) hx hb dX6_isSquareBelow_3 hl (by decide) rfl (fun ls hl => ?_)
  refine lv_lload_n hx hb dX6_isSquareBelow_5 rfl (lv_at hl 1 rfl) ?_
  refine lv_bipush (v := 27) hx hb dX6_isSquareBelow_6 (by decide) ?_
  refine lv_lshr hx hb dX6_isSquareBelow_8 rfl ?_
  refine W.eq (g2 := F0 m 9 ls [.long (lN (A / 2 ^ 27))]) (by rw [show (lN A) >>> ((27 : Int32).toInt64 &&& 63) = lN (A / 2 ^ 27) from pf_shr (d := 27) (by decide) (by omega)]) ?_
  refine lv_lstore (lv' := [(7, .long (lN (A / 2 ^ 27))), (5, .long 134217727), (0, .long (lN A)), (2, .long (lN B)), (4, .int (nI M))]) hx hb dX6_isSquareBelow_9 hl (by decide) rfl (fun ls hl => ?_)
  refine lv_lload_n hx hb dX6_isSquareBelow_11 rfl (lv_at hl 2 rfl) ?_
  refine lv_lload hx hb dX6_isSquareBelow_12 (lv_at hl 1 rfl) ?_
  refine lv_land hx hb dX6_isSquareBelow_14 ?_
  refine W.eq (g2 := F0 m 15 ls [.long (lN (A % 2 ^ 27))]) (by rw [show (lN A) &&& 134217727 = lN (A % 2 ^ 27) from wb_mask (k := 27) (by omega) (by decide)]) ?_
  refine lv_lstore (lv' := [(9, .long (lN (A % 2 ^ 27))), (7, .long (lN (A / 2 ^ 27))), (5, .long 134217727), (0, .long (lN A)), (2, .long (lN B)), (4, .int (nI M))]) hx hb dX6_isSquareBelow_15 hl (by decide) rfl (fun ls hl => ?_)
  refine lv_ldc2 (v := 2) hx hb hown (hts _ (List.mem_of_getElem? (i := 2) rfl)) dX6_isSquareBelow_17 ?_
  refine lv_lload hx hb dX6_isSquareBelow_20 (lv_at hl 1 rfl) ?_
  refine lv_lmul hx hb dX6_isSquareBelow_22 ?_
  refine lv_lload hx hb dX6_isSquareBelow_23 (lv_at hl 0 rfl) ?_
  refine lv_lmul hx hb dX6_isSquareBelow_25 ?_
  refine W.eq (g2 := F0 m 26 ls [.long (lN ((2 * (A / 2 ^ 27) * (A % 2 ^ 27))))]) (by rw [show (2 : Int64) = lN 2 from rfl, lN_mul, lN_mul]) ?_
  refine lv_lstore (lv' := [(11, .long (lN ((2 * (A / 2 ^ 27) * (A % 2 ^ 27))))), (9, .long (lN (A % 2 ^ 27))), (7, .long (lN (A / 2 ^ 27))), (5, .long 134217727), (0, .long (lN A)), (2, .long (lN B)), (4, .int (nI M))]) hx hb dX6_isSquareBelow_26 hl (by decide) rfl (fun ls hl => ?_)
  refine lv_lload hx hb dX6_isSquareBelow_28 (lv_at hl 0 rfl) ?_
  refine lv_lload hx hb dX6_isSquareBelow_30 (lv_at hl 3 rfl) ?_
  refine lv_land hx hb dX6_isSquareBelow_32 ?_
  refine lv_bipush (v := 27) hx hb dX6_isSquareBelow_33 (by decide) ?_
  refine lv_lshl hx hb dX6_isSquareBelow_35 rfl ?_
  refine W.eq (g2 := F0 m 36 ls [.long (lN ((2 * (A / 2 ^ 27) * (A % 2 ^ 27)) % 2 ^ 27 * 2 ^ 27))]) (by rw [show (134217727 : Int64) = lN (2 ^ 27 - 1) from rfl, wb_mask (k := 27) (by omega) (by decide)]; exact congrArg (fun q => F0 m 36 ls [.long q]) (wb_shl _ (k := 27) (by decide))) ?_
  refine lv_lload hx hb dX6_isSquareBelow_36 (lv_at hl 1 rfl) ?_
  refine lv_lload hx hb dX6_isSquareBelow_38 (lv_at hl 1 rfl) ?_
  refine lv_lmul hx hb dX6_isSquareBelow_40 ?_
  refine lv_ladd hx hb dX6_isSquareBelow_41 ?_
  refine W.eq (g2 := F0 m 42 ls [.long (lN (((2 * (A / 2 ^ 27) * (A % 2 ^ 27)) % 2 ^ 27 * 2 ^ 27 + (A % 2 ^ 27) * (A % 2 ^ 27))))]) (by rw [lN_mul, lN_add]) ?_
  refine lv_lstore (lv' := [(13, .long (lN (((2 * (A / 2 ^ 27) * (A % 2 ^ 27)) % 2 ^ 27 * 2 ^ 27 + (A % 2 ^ 27) * (A % 2 ^ 27))))), (11, .long (lN ((2 * (A / 2 ^ 27) * (A % 2 ^ 27))))), (9, .long (lN (A % 2 ^ 27))), (7, .long (lN (A / 2 ^ 27))), (5, .long 134217727), (0, .long (lN A)), (2, .long (lN B)), (4, .int (nI M))]) hx hb dX6_isSquareBelow_42 hl (by decide) rfl (fun ls hl => ?_)
  refine lv_lload hx hb dX6_isSquareBelow_44 (lv_at hl 3 rfl) ?_
  refine lv_lload hx hb dX6_isSquareBelow_46 (lv_at hl 3 rfl) ?_
  refine lv_lmul hx hb dX6_isSquareBelow_48 ?_
  refine lv_lload hx hb dX6_isSquareBelow_49 (lv_at hl 1 rfl) ?_
  refine lv_bipush (v := 27) hx hb dX6_isSquareBelow_51 (by decide) ?_
  refine lv_lshr hx hb dX6_isSquareBelow_53 rfl ?_
  refine lv_ladd hx hb dX6_isSquareBelow_54 ?_
  refine lv_lload hx hb dX6_isSquareBelow_55 (lv_at hl 0 rfl) ?_
  refine lv_bipush (v := 54) hx hb dX6_isSquareBelow_57 (by decide) ?_
  refine lv_lshr hx hb dX6_isSquareBelow_59 rfl ?_
  refine lv_ladd hx hb dX6_isSquareBelow_60 ?_
  refine W.eq (g2 := F0 m 61 ls [.long (lN (((A / 2 ^ 27) * (A / 2 ^ 27) + (2 * (A / 2 ^ 27) * (A % 2 ^ 27)) / 2 ^ 27 + ((2 * (A / 2 ^ 27) * (A % 2 ^ 27)) % 2 ^ 27 * 2 ^ 27 + (A % 2 ^ 27) * (A % 2 ^ 27)) / 2 ^ 54)))]) (by rw [lN_mul, show (lN ((2 * (A / 2 ^ 27) * (A % 2 ^ 27)))) >>> ((27 : Int32).toInt64 &&& 63) = lN ((2 * (A / 2 ^ 27) * (A % 2 ^ 27)) / 2 ^ 27) from pf_shr (d := 27) (by decide) (by omega), show (lN (((2 * (A / 2 ^ 27) * (A % 2 ^ 27)) % 2 ^ 27 * 2 ^ 27 + (A % 2 ^ 27) * (A % 2 ^ 27)))) >>> ((54 : Int32).toInt64 &&& 63) = lN (((2 * (A / 2 ^ 27) * (A % 2 ^ 27)) % 2 ^ 27 * 2 ^ 27 + (A % 2 ^ 27) * (A % 2 ^ 27)) / 2 ^ 54) from pf_shr (d := 54) (by decide) (by omega), lN_add, lN_add]) ?_
  refine lv_lstore (lv' := [(15, .long (lN (((A / 2 ^ 27) * (A / 2 ^ 27) + (2 * (A / 2 ^ 27) * (A % 2 ^ 27)) / 2 ^ 27 + ((2 * (A / 2 ^ 27) * (A % 2 ^ 27)) % 2 ^ 27 * 2 ^ 27 + (A % 2 ^ 27) * (A % 2 ^ 27)) / 2 ^ 54)))), (13, .long (lN (((2 * (A / 2 ^ 27) * (A % 2 ^ 27)) % 2 ^ 27 * 2 ^ 27 + (A % 2 ^ 27) * (A % 2 ^ 27))))), (11, .long (lN ((2 * (A / 2 ^ 27) * (A % 2 ^ 27))))), (9, .long (lN (A % 2 ^ 27))), (7, .long (lN (A / 2 ^ 27))), (5, .long 134217727), (0, .long (lN A)), (2, .long (lN B)), (4, .int (nI M))]) hx hb dX6_isSquareBelow_61 hl (by decide) rfl (fun ls hl => ?_)
  refine lv_lload hx hb dX6_isSquareBelow_63 (lv_at hl 1 rfl) ?_
  refine lv_ldc2 (v := 18014398509481983) hx hb hown (hts _ (List.mem_of_getElem? (i := 3) rfl)) dX6_isSquareBelow_65 ?_
  refine lv_land hx hb dX6_isSquareBelow_68 ?_
  refine W.eq (g2 := F0 m 69 ls [.long (lN (((2 * (A / 2 ^ 27) * (A % 2 ^ 27)) % 2 ^ 27 * 2 ^ 27 + (A % 2 ^ 27) * (A % 2 ^ 27)) % 2 ^ 54))]) (by rw [show (18014398509481983 : Int64) = lN (2 ^ 54 - 1) from rfl, wb_mask (k := 54) (by omega) (by decide)]) ?_
  refine lv_lstore (lv' := [(13, .long (lN (((2 * (A / 2 ^ 27) * (A % 2 ^ 27)) % 2 ^ 27 * 2 ^ 27 + (A % 2 ^ 27) * (A % 2 ^ 27)) % 2 ^ 54))), (15, .long (lN (((A / 2 ^ 27) * (A / 2 ^ 27) + (2 * (A / 2 ^ 27) * (A % 2 ^ 27)) / 2 ^ 27 + ((2 * (A / 2 ^ 27) * (A % 2 ^ 27)) % 2 ^ 27 * 2 ^ 27 + (A % 2 ^ 27) * (A % 2 ^ 27)) / 2 ^ 54)))), (11, .long (lN ((2 * (A / 2 ^ 27) * (A % 2 ^ 27))))), (9, .long (lN (A % 2 ^ 27))), (7, .long (lN (A / 2 ^ 27))), (5, .long 134217727), (0, .long (lN A)), (2, .long (lN B)), (4, .int (nI M))]) hx hb dX6_isSquareBelow_69 hl (by decide) rfl (fun ls hl => ?_)
  refine lv_lload_n hx hb dX6_isSquareBelow_71 rfl (lv_at hl 7 rfl) ?_
  refine lv_iload hx hb dX6_isSquareBelow_72 (lv_at hl 8 rfl) ?_
  refine lv_lshl hx hb dX6_isSquareBelow_74 rfl ?_
  refine W.eq (g2 := F0 m 75 ls [.long (lN (B * 2 ^ M))]) (by rw [wb_shl _ (k := M) (by omega)]) ?_
  refine lv_lstore (lv' := [(17, .long (lN (B * 2 ^ M))), (13, .long (lN (((2 * (A / 2 ^ 27) * (A % 2 ^ 27)) % 2 ^ 27 * 2 ^ 27 + (A % 2 ^ 27) * (A % 2 ^ 27)) % 2 ^ 54))), (15, .long (lN (((A / 2 ^ 27) * (A / 2 ^ 27) + (2 * (A / 2 ^ 27) * (A % 2 ^ 27)) / 2 ^ 27 + ((2 * (A / 2 ^ 27) * (A % 2 ^ 27)) % 2 ^ 27 * 2 ^ 27 + (A % 2 ^ 27) * (A % 2 ^ 27)) / 2 ^ 54)))), (11, .long (lN ((2 * (A / 2 ^ 27) * (A % 2 ^ 27))))), (9, .long (lN (A % 2 ^ 27))), (7, .long (lN (A / 2 ^ 27))), (5, .long 134217727), (0, .long (lN A)), (2, .long (lN B)), (4, .int (nI M))]) hx hb dX6_isSquareBelow_75 hl (by decide) rfl (fun ls hl => ?_)
  refine lv_lload hx hb dX6_isSquareBelow_77 (lv_at hl 2 rfl) ?_
  refine lv_lload hx hb dX6_isSquareBelow_79 (lv_at hl 0 rfl) ?_
  refine W.lcmp hx hb dX6_isSquareBelow_81 ?_
  refine lv_if_lt (tgt := 100) hx hb dX6_isSquareBelow_82 (by decide) (fun h_1 => ?_) (fun h_1 => ?_)
  · refine lv_iconst (v := 1) hx hb dX6_isSquareBelow_100 (by decide) ?_
    refine lv_goto (tgt := 105) hx hb dX6_isSquareBelow_101 (by decide) ?_
    exact x_iret hx hb hr hlk hsz hP hS rfl (sq_t1 u5 u6 u7 hB h_1) rfl dX6_isSquareBelow_105
  · refine lv_lload hx hb dX6_isSquareBelow_85 (lv_at hl 2 rfl) ?_
    refine lv_lload hx hb dX6_isSquareBelow_87 (lv_at hl 0 rfl) ?_
    refine W.lcmp hx hb dX6_isSquareBelow_89 ?_
    refine lv_if_ne (tgt := 104) hx hb dX6_isSquareBelow_90 (by decide) (fun h_2 => ?_) (fun h_2 => ?_)
    · refine lv_iconst (v := 0) hx hb dX6_isSquareBelow_104 (by decide) ?_
      exact x_iret hx hb hr hlk hsz hP hS rfl (sq_f1 u5 u6 u7 hB h_1 h_2) rfl dX6_isSquareBelow_105
    · refine lv_lload hx hb dX6_isSquareBelow_93 (lv_at hl 1 rfl) ?_
      refine lv_lconst (v := 0) hx hb dX6_isSquareBelow_95 (by decide) ?_
      refine W.lcmp hx hb dX6_isSquareBelow_96 ?_
      refine lv_if_ne (tgt := 104) hx hb dX6_isSquareBelow_97 (by decide) (fun h_3 => ?_) (fun h_3 => ?_)
      · refine lv_iconst (v := 0) hx hb dX6_isSquareBelow_104 (by decide) ?_
        exact x_iret hx hb hr hlk hsz hP hS rfl (sq_f2 u5 u6 u7 hB h_1 h_2 h_3) rfl dX6_isSquareBelow_105
      · refine lv_iconst (v := 1) hx hb dX6_isSquareBelow_100 (by decide) ?_
        refine lv_goto (tgt := 105) hx hb dX6_isSquareBelow_101 (by decide) ?_
        exact x_iret hx hb hr hlk hsz hP hS rfl (sq_t2 u5 u6 u7 hB h_1 h_2 h_3) rfl dX6_isSquareBelow_105
noncomputable def r_X6_root (σ : Sg) (n : Int32) : UInt64 := rV n.toNatClampNeg
set_option maxHeartbeats 4000000 in
set_option maxRecDepth 100000 in
theorem c_X6_root (l : Launch) (D : va_G) (cI : ClassId) (a : Nat → Nat) (sz : Nat) (σ : Sg) (n : Int32) (hq : vp_in n 19603) : Met l yX6_root wsX6_root ({ frames := 1, cells := 0, slots := 0, locals := 38 }) (PcW D cI 24 a (wM cI a) sz σ [.int n]) (QdW D 24 a (wM cI a) sz (r_X6_root σ n) σ) 0 0 (AX 24 a sz) := by
  obtain ⟨N, hN, rfl⟩ := vp_in_of hq (by decide)
  refine x_of (cc := cX6_root) (maxL := 8) (ret := some .double) (C := RX6) rfl (by decide) rfl (Nat.le_of_ble_eq_true rfl) (fun p e s m below meth c hx hb hr hml hlk hts hown hsz H hP hS hG ls hl => ?_)
  have hl : lv_has ls 8 [(0, .int (nI N))] := hl
  have loop_35 : ∀ (j e1 m1 : Nat) (_ : j ≤ 53) (he : e1 ≤ 7) (hle : 4 ^ e1 ≤ N) (hlt : N < 4 ^ (e1 + 1)) (h0 : 0 < N) (_ : m1 % 2 ^ j = 0) (_ : m1 + 2 ^ j ≤ 2 ^ 53) (_ : m1 * m1 ≤ N * 4 ^ (52 - e1)) (_ : N * 4 ^ (52 - e1) < (m1 + 2 ^ j) * (m1 + 2 ^ j)) (H : Heap) (locs : List Loc) (ls : Array Slot) (_ : va_P D vwCl (wM cI a σ) H) (_ : va_S (AX 24 a sz) s.heap H locs) (_ : lv_has ls 8 [(0, .int (nI N)), (1, .int (nI e1)), (2, .int (nI (52 - e1))), (3, .long (lN m1)), (5, .int (nI j - 1))]), W p l e (headSpec wsX6_root ({ frames := 1, cells := 0, slots := 0, locals := 38 } : Room)).room s m ([.int (nI N)] : List Value).toArray below meth c H locs 0 0 (MQ below (QdW D 24 a (wM cI a) sz (r_X6_root σ (nI N)) σ) ([.int (nI N)] : List Value).toArray s 0 0 (AX 24 a sz)) (F0 m 35 ls []) := by
    intro j
    induction j with
    | zero =>
      intro e1 m1 _ he hle hlt h0 _ hmb hm1 hm2 H locs ls hP hS hl
      rw [Nat.pow_zero] at hmb hm2
      refine lv_iload hx hb dX6_root_35 (lv_at hl 4 rfl) ?_
      refine lv_if_lt (tgt := 77) hx hb dX6_root_37 (by decide) (fun _ => ?_) (fun h => absurd (show nI 0 - 1 < 0 by decide) h)
      refine lv_lload_n hx hb dX6_root_77 rfl (lv_at hl 3 rfl) ?_
      refine lv_ldc2 (v := 2) hx hb hown (hts _ (List.mem_of_getElem? (i := 1) rfl)) dX6_root_78 ?_
      refine lv_lload_n hx hb dX6_root_81 rfl (lv_at hl 3 rfl) ?_
      refine lv_lmul hx hb dX6_root_82 ?_
      refine lv_lconst (v := 1) hx hb dX6_root_83 (by decide) ?_
      refine lv_ladd hx hb dX6_root_84 ?_
      refine W.eq (g2 := F0 m 85 ls [.long (lN (2 * m1 + 1)), .long (lN m1)]) (by rw [show (2 : Int64) = lN 2 from rfl, show (1 : Int64) = lN 1 from rfl, lN_mul, lN_add]) ?_
      refine lv_iload_n hx hb dX6_root_85 rfl (lv_at hl 0 rfl) ?_
      refine lv_i2l hx hb dX6_root_86 rfl ?_
      refine lv_iconst (v := 2) hx hb dX6_root_87 (by decide) ?_
      refine lv_iload_n hx hb dX6_root_88 rfl (lv_at hl 2 rfl) ?_
      refine lv_imul hx hb dX6_root_89 ?_
      refine lv_bipush (v := 52) hx hb dX6_root_90 (by decide) ?_
      refine lv_isub hx hb dX6_root_92 ?_
      refine W.eq (g2 := F0 m 93 ls [.int (nI (52 - 2 * e1)), .long (lN N), .long (lN (2 * m1 + 1)), .long (lN m1)]) (by rw [show (nI N).toInt64 = lN N from nI_l (by omega), show (2 * (nI (52 - e1))) - 52 = nI (52 - 2 * e1) from s_52b _ he]) ?_
      refine x_callSi (w := wM cI a) (σ := σ) (σ' := σ) (As := [.long (lN (2 * m1 + 1)), .long (lN N), .int (nI (52 - 2 * e1))]) (rest := [.long (lN m1)]) ⟨hx, hb, hml, hown, hts⟩ hG hP hS hsz (c_X6_isSquareBelow l D cI a H.size σ (lN (2 * m1 + 1)) (lN N) (nI (52 - 2 * e1)) (2 * m1 + 1) N (52 - 2 * e1) rfl rfl rfl (by omega) (by omega) (rt_B2 he hlt)) (va_cwS 3 hts gX6_root_X6_isSquareBelow rfl rfl rfl (by decide +kernel) ⟨Nat.le_of_ble_eq_true rfl, Nat.le_of_ble_eq_true rfl⟩) rfl hl.1 rfl (Nat.le_of_ble_eq_true rfl) ⟨Nat.zero_le _, Nat.zero_le _⟩ dX6_root_93 (fun H locs hP hS => ?_)
      refine lv_if_eq (tgt := 103) hx hb dX6_root_96 (by decide) (fun h_11 => ?_) (fun h_11 => ?_)
      · refine lv_lconst (v := 0) hx hb dX6_root_103 (by decide) ?_
        refine lv_ladd hx hb dX6_root_104 ?_
        refine lv_lstore_n (lv' := [(3, .long ((lN m1) + 0)), (0, .int (nI N)), (1, .int (nI e1)), (2, .int (nI (52 - e1))), (5, .int (nI 0 - 1))]) hx hb dX6_root_105 rfl hl (by decide) rfl (fun ls hl => ?_)
        refine lv_lload_n hx hb dX6_root_106 rfl (lv_at hl 0 rfl) ?_
        refine lv_l2d hx hb dX6_root_107 ?_
        refine lv_dconst1 hx hb dX6_root_108 ?_
        refine lv_dmul hx hb dX6_root_109 (l2d_one_n _) ?_
        refine lv_lconst (v := 1) hx hb dX6_root_110 (by decide) ?_
        refine lv_iload_n hx hb dX6_root_111 rfl (lv_at hl 3 rfl) ?_
        refine lv_lshl hx hb dX6_root_112 rfl ?_
        refine W.eq (g2 := F0 m 113 ls [.long (lN (2 ^ (52 - e1))), .double (FP.dmul (FP.l2d ((lN m1) + 0)) FP.dconst1)]) (by rw [show (1 : Int64) <<< ((nI (52 - e1)).toInt64 &&& 63) = lN (2 ^ (52 - e1)) from sh_1 _ he]) ?_
        refine lv_l2d hx hb dX6_root_113 ?_
        refine lv_ddiv hx hb dX6_root_114 (by rw [l2d_one, pw_l2d (52 - e1) (by omega)]; exact rt_nan _ (by omega)) ?_
        exact x_dret hx hb hr hlk hsz hP hS (rt_end2 hN h0 he hle hlt hm1 hm2 hmb (by first | exact Or.inl ⟨h_11, rfl⟩ | exact Or.inr ⟨h_11, rfl⟩)) rfl dX6_root_115
      · refine lv_lconst (v := 1) hx hb dX6_root_99 (by decide) ?_
        refine lv_goto (tgt := 104) hx hb dX6_root_100 (by decide) ?_
        refine lv_ladd hx hb dX6_root_104 ?_
        refine lv_lstore_n (lv' := [(3, .long ((lN m1) + 1)), (0, .int (nI N)), (1, .int (nI e1)), (2, .int (nI (52 - e1))), (5, .int (nI 0 - 1))]) hx hb dX6_root_105 rfl hl (by decide) rfl (fun ls hl => ?_)
        refine lv_lload_n hx hb dX6_root_106 rfl (lv_at hl 0 rfl) ?_
        refine lv_l2d hx hb dX6_root_107 ?_
        refine lv_dconst1 hx hb dX6_root_108 ?_
        refine lv_dmul hx hb dX6_root_109 (l2d_one_n _) ?_
        refine lv_lconst (v := 1) hx hb dX6_root_110 (by decide) ?_
        refine lv_iload_n hx hb dX6_root_111 rfl (lv_at hl 3 rfl) ?_
        refine lv_lshl hx hb dX6_root_112 rfl ?_
        refine W.eq (g2 := F0 m 113 ls [.long (lN (2 ^ (52 - e1))), .double (FP.dmul (FP.l2d ((lN m1) + 1)) FP.dconst1)]) (by rw [show (1 : Int64) <<< ((nI (52 - e1)).toInt64 &&& 63) = lN (2 ^ (52 - e1)) from sh_1 _ he]) ?_
        refine lv_l2d hx hb dX6_root_113 ?_
        refine lv_ddiv hx hb dX6_root_114 (by rw [l2d_one, pw_l2d (52 - e1) (by omega)]; exact rt_nan _ (by omega)) ?_
        exact x_dret hx hb hr hlk hsz hP hS (rt_end2 hN h0 he hle hlt hm1 hm2 hmb (by first | exact Or.inl ⟨h_11, rfl⟩ | exact Or.inr ⟨h_11, rfl⟩)) rfl dX6_root_115
    | succ k ih =>
      intro e1 m1 hk he hle hlt h0 hm hmb hm1 hm2 H locs ls hP hS hl
      have hpk : 2 ^ (k + 1) = 2 * 2 ^ k := by rw [Nat.pow_succ, Nat.mul_comm]
      refine lv_iload hx hb dX6_root_35 (lv_at hl 4 rfl) ?_
      refine lv_if_lt (tgt := 77) hx hb dX6_root_37 (by decide) (fun h => absurd h (by rw [nI_pred]; exact nI_pos (by omega))) (fun _ => ?_)
      refine lv_lload_n hx hb dX6_root_40 rfl (lv_at hl 3 rfl) ?_
      refine lv_lconst (v := 1) hx hb dX6_root_41 (by decide) ?_
      refine lv_iload hx hb dX6_root_42 (lv_at hl 4 rfl) ?_
      refine lv_lshl hx hb dX6_root_44 rfl ?_
      refine lv_lor hx hb dX6_root_45 ?_
      refine W.eq (g2 := F0 m 46 ls [.long (lN (m1 + 2 ^ k))]) (by rw [show (lN m1) ||| (1 <<< ((nI (k + 1) - 1).toInt64 &&& 63)) = lN (m1 + 2 ^ k) from rt_or hk hm hmb]) ?_
      refine lv_lstore (lv' := [(6, .long (lN (m1 + 2 ^ k))), (0, .int (nI N)), (1, .int (nI e1)), (2, .int (nI (52 - e1))), (3, .long (lN m1)), (5, .int (nI (k + 1) - 1))]) hx hb dX6_root_46 hl (by decide) rfl (fun ls hl => ?_)
      refine lv_lload hx hb dX6_root_48 (lv_at hl 0 rfl) ?_
      refine lv_iload_n hx hb dX6_root_50 rfl (lv_at hl 1 rfl) ?_
      refine lv_i2l hx hb dX6_root_51 rfl ?_
      refine lv_iconst (v := 2) hx hb dX6_root_52 (by decide) ?_
      refine lv_iload_n hx hb dX6_root_53 rfl (lv_at hl 3 rfl) ?_
      refine lv_imul hx hb dX6_root_54 ?_
      refine lv_bipush (v := 54) hx hb dX6_root_55 (by decide) ?_
      refine lv_isub hx hb dX6_root_57 ?_
      refine W.eq (g2 := F0 m 58 ls [.int (nI (50 - 2 * e1)), .long (lN N), .long (lN (m1 + 2 ^ k))]) (by rw [show (nI N).toInt64 = lN N from nI_l (by omega), show (2 * (nI (52 - e1))) - 54 = nI (50 - 2 * e1) from s_54 _ he]) ?_
      refine x_callSi (w := wM cI a) (σ := σ) (σ' := σ) (As := [.long (lN (m1 + 2 ^ k)), .long (lN N), .int (nI (50 - 2 * e1))]) (rest := []) ⟨hx, hb, hml, hown, hts⟩ hG hP hS hsz (c_X6_isSquareBelow l D cI a H.size σ (lN (m1 + 2 ^ k)) (lN N) (nI (50 - 2 * e1)) (m1 + 2 ^ k) N (50 - 2 * e1) rfl rfl rfl (by omega) (by omega) (rt_B1 he hlt)) (va_cwS 3 hts gX6_root_X6_isSquareBelow rfl rfl rfl (by decide +kernel) ⟨Nat.le_of_ble_eq_true rfl, Nat.le_of_ble_eq_true rfl⟩) rfl hl.1 rfl (Nat.le_of_ble_eq_true rfl) ⟨Nat.zero_le _, Nat.zero_le _⟩ dX6_root_58 (fun H locs hP hS => ?_)
      refine lv_if_eq (tgt := 69) hx hb dX6_root_61 (by decide) (fun h_12 => ?_) (fun h_12 => ?_)
      · refine lv_lload_n hx hb dX6_root_69 rfl (lv_at hl 4 rfl) ?_
        refine lv_lstore_n (lv' := [(3, .long (lN m1)), (6, .long (lN (m1 + 2 ^ k))), (0, .int (nI N)), (1, .int (nI e1)), (2, .int (nI (52 - e1))), (5, .int (nI (k + 1) - 1))]) hx hb dX6_root_70 rfl hl (by decide) rfl (fun ls hl => ?_)
        refine lv_iinc (v := (nI (k + 1) - 1) + (-1)) (lv' := [(5, .int ((nI (k + 1) - 1) + (-1))), (3, .long (lN m1)), (6, .long (lN (m1 + 2 ^ k))), (0, .int (nI N)), (1, .int (nI e1)), (2, .int (nI (52 - e1)))]) hx hb dX6_root_71 hl (k := 5) rfl rfl (by decide) rfl (fun ls hl => ?_)
        refine lv_goto (tgt := 35) hx hb dX6_root_74 (by decide) ?_
        rw [show (nI (k + 1) - 1) + (-1) = nI k - 1 by rw [nI_pred]; exact m1k k] at hl
        exact ih e1 m1 (by omega) he hle hlt h0 (rb_m0 hm) (by omega) hm1 (sqb_f1 he h_12) H locs ls hP hS (lv_sub hl [3, 4, 5, 1, 0] rfl)
      · refine lv_lload hx hb dX6_root_64 (lv_at hl 0 rfl) ?_
        refine lv_goto (tgt := 70) hx hb dX6_root_66 (by decide) ?_
        refine lv_lstore_n (lv' := [(3, .long (lN (m1 + 2 ^ k))), (6, .long (lN (m1 + 2 ^ k))), (0, .int (nI N)), (1, .int (nI e1)), (2, .int (nI (52 - e1))), (5, .int (nI (k + 1) - 1))]) hx hb dX6_root_70 rfl hl (by decide) rfl (fun ls hl => ?_)
        refine lv_iinc (v := (nI (k + 1) - 1) + (-1)) (lv' := [(5, .int ((nI (k + 1) - 1) + (-1))), (3, .long (lN (m1 + 2 ^ k))), (6, .long (lN (m1 + 2 ^ k))), (0, .int (nI N)), (1, .int (nI e1)), (2, .int (nI (52 - e1)))]) hx hb dX6_root_71 hl (k := 5) rfl rfl (by decide) rfl (fun ls hl => ?_)
        refine lv_goto (tgt := 35) hx hb dX6_root_74 (by decide) ?_
        rw [show (nI (k + 1) - 1) + (-1) = nI k - 1 by rw [nI_pred]; exact m1k k] at hl
        exact ih e1 (m1 + 2 ^ k) (by omega) he hle hlt h0 (rb_m1 hm) (by omega) (sqb_t1 he h_12) (by rw [show m1 + 2 ^ k + 2 ^ k = m1 + 2 ^ (k + 1) by omega]; exact hm2) H locs ls hP hS (lv_sub hl [3, 4, 5, 1, 0] rfl)
  have loop_8 : ∀ (k e1 : Nat) (_ : e1 + k = 8) (_ : 4 ^ e1 ≤ N) (h0 : 0 < N) (H : Heap) (locs : List Loc) (ls : Array Slot) (_ : va_P D vwCl (wM cI a σ) H) (_ : va_S (AX 24 a sz) s.heap H locs) (_ : lv_has ls 8 [(0, .int (nI N)), (1, .int (nI e1))]), W p l e (headSpec wsX6_root ({ frames := 1, cells := 0, slots := 0, locals := 38 } : Room)).room s m ([.int (nI N)] : List Value).toArray below meth c H locs 0 0 (MQ below (QdW D 24 a (wM cI a) sz (r_X6_root σ (nI N)) σ) ([.int (nI N)] : List Value).toArray s 0 0 (AX 24 a sz)) (F0 m 8 ls []) := by
    intro k
    induction k with
    | zero =>
      intro e1 hi hle
      obtain rfl : e1 = 8 := by omega
      exact absurd hle (by omega)
    | succ k ih =>
      intro e1 hi hle h0 H locs ls hP hS hl
      have he : e1 ≤ 7 := by omega
      by_cases hlt : N < 4 ^ (e1 + 1)
      · refine lv_iload_n hx hb dX6_root_8 rfl (lv_at hl 0 rfl) ?_
        refine lv_iconst (v := 2) hx hb dX6_root_9 (by decide) ?_
        refine lv_iload_n hx hb dX6_root_10 rfl (lv_at hl 1 rfl) ?_
        refine lv_imul hx hb dX6_root_11 ?_
        refine lv_iconst (v := 2) hx hb dX6_root_12 (by decide) ?_
        refine lv_iadd hx hb dX6_root_13 ?_
        refine lv_ishr hx hb dX6_root_14 ?_
        refine W.eq (g2 := F0 m 15 ls [.int (nI (N / 2 ^ (2 * e1 + 2)))]) (by rw [show (nI N) >>> (((2 * (nI e1)) + 2) &&& 31) = nI (N / 2 ^ (2 * e1 + 2)) from shr_e hN he]) ?_
        refine lv_if_le (tgt := 24) hx hb dX6_root_15 (by decide) (fun _ => ?_) (fun h => absurd (nI_z0 hlt) h)
        refine lv_bipush (v := 52) hx hb dX6_root_24 (by decide) ?_
        refine lv_iload_n hx hb dX6_root_26 rfl (lv_at hl 1 rfl) ?_
        refine lv_isub hx hb dX6_root_27 ?_
        refine W.eq (g2 := F0 m 28 ls [.int (nI (52 - e1))]) (by rw [show (52 : Int32) - (nI e1) = nI (52 - e1) from s_52 _ he]) ?_
        refine lv_istore_n (lv' := [(2, .int (nI (52 - e1))), (0, .int (nI N)), (1, .int (nI e1))]) hx hb dX6_root_28 rfl hl (by decide) rfl (fun ls hl => ?_)
        refine lv_lconst (v := 0) hx hb dX6_root_29 (by decide) ?_
        refine lv_lstore_n (lv' := [(3, .long 0), (2, .int (nI (52 - e1))), (0, .int (nI N)), (1, .int (nI e1))]) hx hb dX6_root_30 rfl hl (by decide) rfl (fun ls hl => ?_)
        refine lv_bipush (v := 52) hx hb dX6_root_31 (by decide) ?_
        refine lv_istore (lv' := [(5, .int 52), (3, .long 0), (2, .int (nI (52 - e1))), (0, .int (nI N)), (1, .int (nI e1))]) hx hb dX6_root_33 hl (by decide) rfl (fun ls hl => ?_)
        exact loop_35 53 e1 0 (Nat.le_refl _) he hle hlt h0 (Nat.zero_mod _) (by omega) (Nat.zero_le _) (rt_hi he hlt) H _ ls hP hS (lv_sub hl [3, 4, 2, 1, 0] rfl)
      · refine lv_iload_n hx hb dX6_root_8 rfl (lv_at hl 0 rfl) ?_
        refine lv_iconst (v := 2) hx hb dX6_root_9 (by decide) ?_
        refine lv_iload_n hx hb dX6_root_10 rfl (lv_at hl 1 rfl) ?_
        refine lv_imul hx hb dX6_root_11 ?_
        refine lv_iconst (v := 2) hx hb dX6_root_12 (by decide) ?_
        refine lv_iadd hx hb dX6_root_13 ?_
        refine lv_ishr hx hb dX6_root_14 ?_
        refine W.eq (g2 := F0 m 15 ls [.int (nI (N / 2 ^ (2 * e1 + 2)))]) (by rw [show (nI N) >>> (((2 * (nI e1)) + 2) &&& 31) = nI (N / 2 ^ (2 * e1 + 2)) from shr_e hN he]) ?_
        refine lv_if_le (tgt := 24) hx hb dX6_root_15 (by decide) (fun h => absurd h (nI_nz0 hN hlt)) (fun _ => ?_)
        refine lv_iinc (v := nI (e1 + 1)) (lv' := [(1, .int (nI (e1 + 1))), (0, .int (nI N))]) hx hb dX6_root_18 hl (k := 1) rfl (by rw [nI_succ]; rfl) (by decide) rfl (fun ls hl => ?_)
        refine lv_goto (tgt := 8) hx hb dX6_root_21 (by decide) ?_
        exact ih (e1 + 1) (by omega) (by omega) h0 H _ ls hP hS (lv_sub hl [1, 0] rfl)
  have hz : ¬ nI N = 0 → N ≠ 0 := fun h q => h (by rw [q]; rfl)
  refine lv_iload_n hx hb dX6_root_0 rfl (lv_at hl 0 rfl) ?_
  refine lv_if_ne (tgt := 6) hx hb dX6_root_1 (by decide) (fun h_1 => ?_) (fun h_1 => ?_)
  · refine lv_iconst (v := 0) hx hb dX6_root_6 (by decide) ?_
    refine lv_istore_n (lv' := [(1, .int 0), (0, .int (nI N))]) hx hb dX6_root_7 rfl hl (by decide) rfl (fun ls hl => ?_)
    have hz := hz h_1
    exact loop_8 8 0 rfl (by omega) (by omega) H _ ls hP hS (lv_sub hl [1, 0] rfl)
  · refine lv_dconst0 hx hb dX6_root_4 ?_
    exact x_dret hx hb hr hlk hsz hP hS (by rw [r_X6_root, rV_z h_1]; rfl) rfl dX6_root_5
