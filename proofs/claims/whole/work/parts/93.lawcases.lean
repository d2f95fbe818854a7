section LCASE
variable {p : Program} {l : Launch} {e : Env} {R : Room} {s : State} {m : MethodId} {args : Array Value} {below : List Frame} {meth : Method} {c : Code} {H : Heap} {locs : List Loc} {cells slots : Nat} {Q : State → Prop}
variable {ls : Array Slot} {D : va_G} {cI cJ : ClassId} {aX aM : Nat → Nat} {o b L i n : Nat} {σ μ : Sg} {f : Nat → Int64} {xs : Nat → Int32}
theorem k_lies (S : CallFix p m c cL_law 7 s args wsL_law RL) (C0 : LC l D cI cJ aX aM o s) (hX : va_X b L xs s s.heap) (hbl : b < s.heap.size) (hL : L ≤ 2560) (hi : i + 5 ≤ L) (hRm : 11 ≤ R.frames ∧ 432 ≤ R.locals) (hR : cells + 1 ≤ R.cells ∧ slots + 6 ≤ R.slots) (h : MI σ μ n) (hH : LH D cI cJ aX aM o s σ μ f H locs) (hl : lv_has ls 7 [(4, .int (nI i)), (0, .ref b), (1, .ref (aX 0)), (2, .ref (aM 0)), (3, .ref o)])
    (kk : ∀ (H1 : Heap) (locs1 : List Loc) (σ1 μ1 : Sg) (f1 : Nat → Int64) (n1 : Nat) (ls1 : Array Slot), MI σ1 μ1 n1 → LH D cI cJ aX aM o s σ1 μ1 f1 H1 locs1 → lv_has ls1 7 [(4, .int (nI i)), (0, .ref b), (1, .ref (aX 0)), (2, .ref (aM 0)), (3, .ref o)] → W p l e R s m args below meth c H1 locs1 (cells + 1) (slots + 6) Q (F0 m 1244 ls1 [])) : W p l e R s m args below meth c H locs cells slots Q (F0 m 128 ls []) := by
  have hx := S.1
  have hb := S.2.1
  have hts := S.2.2.2.2
  obtain ⟨k, σ', f', n', hA, e0, hm⟩ := act_lies (l := l) (D := D) (cI := cI) (cJ := cJ) (a := aX) (o := o) (sz := H.size) (f := f) (st := xs (i + 1)) (ea := xs (i + 2)) (no := xs (i + 3)) (hi := xs (i + 4)) h C0.2.2.2.2.2.2.2.2.2.2.2
  refine lv_aload_n hx hb dL_law_128 rfl (lv_at hl 2 rfl) ?_
  refine sc_ld (j := 1) (i := i) (k0 := 1) (k4 := 0) hx hb hX hbl hL hH.2.2.2 hl rfl rfl (by omega) (by decide) dL_law_129 dL_law_130 dL_law_132 dL_law_133 dL_law_134 ?_
  refine sc_ld (j := 2) (i := i) (k0 := 1) (k4 := 0) hx hb hX hbl hL hH.2.2.2 hl rfl rfl (by omega) (by decide) dL_law_135 dL_law_136 dL_law_138 dL_law_139 dL_law_140 ?_
  refine sc_ld (j := 3) (i := i) (k0 := 1) (k4 := 0) hx hb hX hbl hL hH.2.2.2 hl rfl rfl (by omega) (by decide) dL_law_141 dL_law_142 dL_law_144 dL_law_145 dL_law_146 ?_
  refine sc_ld (j := 4) (i := i) (k0 := 1) (k4 := 0) hx hb hX hbl hL hH.2.2.2 hl rfl rfl (by omega) (by decide) dL_law_147 dL_law_148 dL_law_150 dL_law_151 dL_law_152 ?_
  refine L_call (n := 5) S C0 hH hA gL_law_L_lies rfl ⟨by decide, by decide, by decide +kernel⟩ (by decide) hRm rfl hl.1 rfl hR dL_law_153 (fun H locs hH => ?_)
  refine lv_istore (lv' := [(5, .int k), (4, .int (nI i)), (0, .ref b), (1, .ref (aX 0)), (2, .ref (aM 0)), (3, .ref o)]) hx hb dL_law_156 hl (by decide) rfl (fun ls hl => ?_)
  refine lv_aload_n hx hb dL_law_158 rfl (lv_at hl 4 rfl) ?_
  refine sc_ld (j := 1) (i := i) (k0 := 2) (k4 := 1) hx hb hX hbl hL hH.2.2.2 hl rfl rfl (by omega) (by decide) dL_law_159 dL_law_160 dL_law_162 dL_law_163 dL_law_164 ?_
  refine sc_ld (j := 2) (i := i) (k0 := 2) (k4 := 1) hx hb hX hbl hL hH.2.2.2 hl rfl rfl (by omega) (by decide) dL_law_165 dL_law_166 dL_law_168 dL_law_169 dL_law_170 ?_
  refine sc_ld (j := 3) (i := i) (k0 := 2) (k4 := 1) hx hb hX hbl hL hH.2.2.2 hl rfl rfl (by omega) (by decide) dL_law_171 dL_law_172 dL_law_174 dL_law_175 dL_law_176 ?_
  refine sc_ld (j := 4) (i := i) (k0 := 2) (k4 := 1) hx hb hX hbl hL hH.2.2.2 hl rfl rfl (by omega) (by decide) dL_law_177 dL_law_178 dL_law_180 dL_law_181 dL_law_182 ?_
  refine M_callv (As := [.int (xs (i + 1)), .int (xs (i + 2)), .int (xs (i + 3)), .int (xs (i + 4))]) (rest := []) S C0 hH (c_X6_lies l D cI aM H.size μ (xs (i + 1)) (xs (i + 2)) (xs (i + 3)) (xs (i + 4))) (cwV 4 hts gL_law_X6_lies rfl rfl rfl (by decide +kernel) ⟨Nat.le_trans (Nat.le_of_ble_eq_true rfl) hRm.1, Nat.le_trans (Nat.le_of_ble_eq_true rfl) hRm.2⟩) rfl hl.1 rfl (Nat.le_of_ble_eq_true rfl) hR dL_law_183 (fun H locs hH => ?_)
  refine lv_aload_n hx hb dL_law_186 rfl (lv_at hl 4 rfl) ?_
  refine M_calli (As := []) (rest := []) S C0 hH (c_X6_thrown l D cI aM H.size (s_X6_lies μ (xs (i + 1)) (xs (i + 2)) (xs (i + 3)) (xs (i + 4)))) (cwV 0 hts gL_law_X6_thrown rfl rfl rfl (by decide +kernel) ⟨Nat.le_trans (Nat.le_of_ble_eq_true rfl) hRm.1, Nat.le_trans (Nat.le_of_ble_eq_true rfl) hRm.2⟩) rfl hl.1 rfl (Nat.le_of_ble_eq_true rfl) hR dL_law_187 (fun H locs hH => ?_)
  refine lv_iload hx hb dL_law_190 (lv_at hl 0 rfl) ?_
  refine lv_icmp_eq (tgt := 197) hx hb dL_law_192 (by decide) (fun _ => ?_) (fun z => absurd (thr_eq e0) z)
  refine lv_goto (tgt := 1244) hx hb dL_law_197 (by decide) ?_
  exact kk _ _ _ _ _ _ _ hm hH ⟨hl.1, hl.2.1, fun q hq => hl.2.2 q (List.mem_cons_of_mem _ (hq))⟩
theorem k_pass (S : CallFix p m c cL_law 7 s args wsL_law RL) (C0 : LC l D cI cJ aX aM o s) (hX : va_X b L xs s s.heap) (hbl : b < s.heap.size) (hL : L ≤ 2560) (hi : i + 5 ≤ L) (hRm : 11 ≤ R.frames ∧ 432 ≤ R.locals) (hR : cells + 1 ≤ R.cells ∧ slots + 6 ≤ R.slots) (h : MI σ μ n) (hH : LH D cI cJ aX aM o s σ μ f H locs) (hl : lv_has ls 7 [(4, .int (nI i)), (0, .ref b), (1, .ref (aX 0)), (2, .ref (aM 0)), (3, .ref o)])
    (kk : ∀ (H1 : Heap) (locs1 : List Loc) (σ1 μ1 : Sg) (f1 : Nat → Int64) (n1 : Nat) (ls1 : Array Slot), MI σ1 μ1 n1 → LH D cI cJ aX aM o s σ1 μ1 f1 H1 locs1 → lv_has ls1 7 [(4, .int (nI i)), (0, .ref b), (1, .ref (aX 0)), (2, .ref (aM 0)), (3, .ref o)] → W p l e R s m args below meth c H1 locs1 (cells + 1) (slots + 6) Q (F0 m 1244 ls1 [])) : W p l e R s m args below meth c H locs cells slots Q (F0 m 200 ls []) := by
  have hx := S.1
  have hb := S.2.1
  have hts := S.2.2.2.2
  obtain ⟨k, σ', f', n', hA, e0, er, hm⟩ := act_pass (l := l) (D := D) (cI := cI) (cJ := cJ) (a := aX) (o := o) (sz := H.size) (f := f) (mi := xs (i + 1)) h C0.2.2.2.2.2.2.2.2.2.2.2
  refine lv_aload_n hx hb dL_law_200 rfl (lv_at hl 2 rfl) ?_
  refine sc_ld (j := 1) (i := i) (k0 := 1) (k4 := 0) hx hb hX hbl hL hH.2.2.2 hl rfl rfl (by omega) (by decide) dL_law_201 dL_law_202 dL_law_204 dL_law_205 dL_law_206 ?_
  refine lv_aload_n hx hb dL_law_207 rfl (lv_at hl 4 rfl) ?_
  refine L_call (n := 3) S C0 hH hA gL_law_L_pass rfl ⟨by decide, by decide, by decide +kernel⟩ (by decide) hRm rfl hl.1 rfl hR dL_law_208 (fun H locs hH => ?_)
  refine lv_istore (lv' := [(5, .int k), (4, .int (nI i)), (0, .ref b), (1, .ref (aX 0)), (2, .ref (aM 0)), (3, .ref o)]) hx hb dL_law_211 hl (by decide) rfl (fun ls hl => ?_)
  refine lv_aload_n hx hb dL_law_213 rfl (lv_at hl 4 rfl) ?_
  refine sc_ld (j := 1) (i := i) (k0 := 2) (k4 := 1) hx hb hX hbl hL hH.2.2.2 hl rfl rfl (by omega) (by decide) dL_law_214 dL_law_215 dL_law_217 dL_law_218 dL_law_219 ?_
  refine M_calli (As := [.int (xs (i + 1))]) (rest := []) S C0 hH (c_X6_pass l D cI aM H.size μ (xs (i + 1))) (cwV 1 hts gL_law_X6_pass rfl rfl rfl (by decide +kernel) ⟨Nat.le_trans (Nat.le_of_ble_eq_true rfl) hRm.1, Nat.le_trans (Nat.le_of_ble_eq_true rfl) hRm.2⟩) rfl hl.1 rfl (Nat.le_of_ble_eq_true rfl) hR dL_law_220 (fun H locs hH => ?_)
  refine lv_istore (lv' := [(6, .int (r_X6_pass μ (xs (i + 1)))), (5, .int k), (4, .int (nI i)), (0, .ref b), (1, .ref (aX 0)), (2, .ref (aM 0)), (3, .ref o)]) hx hb dL_law_223 hl (by decide) rfl (fun ls hl => ?_)
  refine lv_aload_n hx hb dL_law_225 rfl (lv_at hl 5 rfl) ?_
  refine M_calli (As := []) (rest := []) S C0 hH (c_X6_thrown l D cI aM H.size (s_X6_pass μ (xs (i + 1)))) (cwV 0 hts gL_law_X6_thrown rfl rfl rfl (by decide +kernel) ⟨Nat.le_trans (Nat.le_of_ble_eq_true rfl) hRm.1, Nat.le_trans (Nat.le_of_ble_eq_true rfl) hRm.2⟩) rfl hl.1 rfl (Nat.le_of_ble_eq_true rfl) hR dL_law_226 (fun H locs hH => ?_)
  refine lv_iload hx hb dL_law_229 (lv_at hl 1 rfl) ?_
  refine lv_icmp_eq (tgt := 236) hx hb dL_law_231 (by decide) (fun _ => ?_) (fun z => absurd (thr_eq e0) z)
  refine lv_iload hx hb dL_law_236 (lv_at hl 1 rfl) ?_
  refine lv_if_ne (tgt := 253) hx hb dL_law_238 (by decide) (fun _ => ?_) (fun z => ?_)
  · refine lv_goto (tgt := 1244) hx hb dL_law_253 (by decide) ?_
    exact kk _ _ _ _ _ _ _ hm hH ⟨hl.1, hl.2.1, fun q hq => hl.2.2 q (List.mem_cons_of_mem _ (List.mem_cons_of_mem _ (hq)))⟩
  · refine lv_aload_n hx hb dL_law_241 rfl (lv_at hl 6 rfl) ?_
    refine lv_iconst (v := 0) hx hb dL_law_242 (by decide) ?_
    refine o_ald hx hb C0 hH dL_law_243 ?_
    refine lv_iload hx hb dL_law_244 (lv_at hl 0 rfl) ?_
    refine lv_i2l hx hb dL_law_246 rfl ?_
    refine l_cmpE hx hb (er z) dL_law_247 ?_
    refine lv_if_eq (tgt := 253) hx hb dL_law_248 (by decide) (fun _ => ?_) (fun q => absurd rfl q)
    refine lv_goto (tgt := 1244) hx hb dL_law_253 (by decide) ?_
    exact kk _ _ _ _ _ _ _ hm hH ⟨hl.1, hl.2.1, fun q hq => hl.2.2 q (List.mem_cons_of_mem _ (List.mem_cons_of_mem _ (hq)))⟩
theorem k_docks (S : CallFix p m c cL_law 7 s args wsL_law RL) (C0 : LC l D cI cJ aX aM o s) (hX : va_X b L xs s s.heap) (hbl : b < s.heap.size) (hL : L ≤ 2560) (hi : i + 5 ≤ L) (hRm : 11 ≤ R.frames ∧ 432 ≤ R.locals) (hR : cells + 1 ≤ R.cells ∧ slots + 6 ≤ R.slots) (h : MI σ μ n) (hH : LH D cI cJ aX aM o s σ μ f H locs) (hl : lv_has ls 7 [(4, .int (nI i)), (0, .ref b), (1, .ref (aX 0)), (2, .ref (aM 0)), (3, .ref o)])
    (kk : ∀ (H1 : Heap) (locs1 : List Loc) (σ1 μ1 : Sg) (f1 : Nat → Int64) (n1 : Nat) (ls1 : Array Slot), MI σ1 μ1 n1 → LH D cI cJ aX aM o s σ1 μ1 f1 H1 locs1 → lv_has ls1 7 [(4, .int (nI i)), (0, .ref b), (1, .ref (aX 0)), (2, .ref (aM 0)), (3, .ref o)] → W p l e R s m args below meth c H1 locs1 (cells + 1) (slots + 6) Q (F0 m 1244 ls1 [])) : W p l e R s m args below meth c H locs cells slots Q (F0 m 256 ls []) := by
  have hx := S.1
  have hb := S.2.1
  have hts := S.2.2.2.2
  obtain ⟨k, σ', f', n', hA, e0, hm⟩ := act_docks (l := l) (D := D) (cI := cI) (cJ := cJ) (a := aX) (o := o) (sz := H.size) (f := f) (st := xs (i + 1)) (pl := xs (i + 2)) h C0.2.2.2.2.2.2.2.2.2.2.2
  refine lv_aload_n hx hb dL_law_256 rfl (lv_at hl 2 rfl) ?_
  refine sc_ld (j := 1) (i := i) (k0 := 1) (k4 := 0) hx hb hX hbl hL hH.2.2.2 hl rfl rfl (by omega) (by decide) dL_law_257 dL_law_258 dL_law_260 dL_law_261 dL_law_262 ?_
  refine sc_ld (j := 2) (i := i) (k0 := 1) (k4 := 0) hx hb hX hbl hL hH.2.2.2 hl rfl rfl (by omega) (by decide) dL_law_263 dL_law_264 dL_law_266 dL_law_267 dL_law_268 ?_
  refine L_call (n := 3) S C0 hH hA gL_law_L_docks rfl ⟨by decide, by decide, by decide +kernel⟩ (by decide) hRm rfl hl.1 rfl hR dL_law_269 (fun H locs hH => ?_)
  refine lv_istore (lv' := [(5, .int k), (4, .int (nI i)), (0, .ref b), (1, .ref (aX 0)), (2, .ref (aM 0)), (3, .ref o)]) hx hb dL_law_272 hl (by decide) rfl (fun ls hl => ?_)
  refine lv_aload_n hx hb dL_law_274 rfl (lv_at hl 4 rfl) ?_
  refine sc_ld (j := 1) (i := i) (k0 := 2) (k4 := 1) hx hb hX hbl hL hH.2.2.2 hl rfl rfl (by omega) (by decide) dL_law_275 dL_law_276 dL_law_278 dL_law_279 dL_law_280 ?_
  refine sc_ld (j := 2) (i := i) (k0 := 2) (k4 := 1) hx hb hX hbl hL hH.2.2.2 hl rfl rfl (by omega) (by decide) dL_law_281 dL_law_282 dL_law_284 dL_law_285 dL_law_286 ?_
  refine M_callv (As := [.int (xs (i + 1)), .int (xs (i + 2))]) (rest := []) S C0 hH (c_X6_docks l D cI aM H.size μ (xs (i + 1)) (xs (i + 2)) n (lt_n h) h.2.2.1) (cwV 2 hts gL_law_X6_docks rfl rfl rfl (by decide +kernel) ⟨Nat.le_trans (Nat.le_of_ble_eq_true rfl) hRm.1, Nat.le_trans (Nat.le_of_ble_eq_true rfl) hRm.2⟩) rfl hl.1 rfl (Nat.le_of_ble_eq_true rfl) hR dL_law_287 (fun H locs hH => ?_)
  refine lv_aload_n hx hb dL_law_290 rfl (lv_at hl 4 rfl) ?_
  refine M_calli (As := []) (rest := []) S C0 hH (c_X6_thrown l D cI aM H.size (s_X6_docks μ (xs (i + 1)) (xs (i + 2)) n)) (cwV 0 hts gL_law_X6_thrown rfl rfl rfl (by decide +kernel) ⟨Nat.le_trans (Nat.le_of_ble_eq_true rfl) hRm.1, Nat.le_trans (Nat.le_of_ble_eq_true rfl) hRm.2⟩) rfl hl.1 rfl (Nat.le_of_ble_eq_true rfl) hR dL_law_291 (fun H locs hH => ?_)
  refine lv_iload hx hb dL_law_294 (lv_at hl 0 rfl) ?_
  refine lv_icmp_eq (tgt := 301) hx hb dL_law_296 (by decide) (fun _ => ?_) (fun z => absurd (thr_eq e0) z)
  refine lv_goto (tgt := 1244) hx hb dL_law_301 (by decide) ?_
  exact kk _ _ _ _ _ _ _ hm hH ⟨hl.1, hl.2.1, fun q hq => hl.2.2 q (List.mem_cons_of_mem _ (hq))⟩
theorem k_put (S : CallFix p m c cL_law 7 s args wsL_law RL) (C0 : LC l D cI cJ aX aM o s) (hX : va_X b L xs s s.heap) (hbl : b < s.heap.size) (hL : L ≤ 2560) (hi : i + 5 ≤ L) (hRm : 11 ≤ R.frames ∧ 432 ≤ R.locals) (hR : cells + 1 ≤ R.cells ∧ slots + 6 ≤ R.slots) (h : MI σ μ n) (hH : LH D cI cJ aX aM o s σ μ f H locs) (hl : lv_has ls 7 [(4, .int (nI i)), (0, .ref b), (1, .ref (aX 0)), (2, .ref (aM 0)), (3, .ref o)])
    (kk : ∀ (H1 : Heap) (locs1 : List Loc) (σ1 μ1 : Sg) (f1 : Nat → Int64) (n1 : Nat) (ls1 : Array Slot), MI σ1 μ1 n1 → LH D cI cJ aX aM o s σ1 μ1 f1 H1 locs1 → lv_has ls1 7 [(4, .int (nI i)), (0, .ref b), (1, .ref (aX 0)), (2, .ref (aM 0)), (3, .ref o)] → W p l e R s m args below meth c H1 locs1 (cells + 1) (slots + 6) Q (F0 m 1244 ls1 [])) : W p l e R s m args below meth c H locs cells slots Q (F0 m 304 ls []) := by
  have hx := S.1
  have hb := S.2.1
  have hts := S.2.2.2.2
  obtain ⟨k, σ', f', n', hA, e0, er, hm⟩ := act_put (l := l) (D := D) (cI := cI) (cJ := cJ) (a := aX) (o := o) (sz := H.size) (f := f) (cy := xs (i + 1)) (st := xs (i + 2)) h C0.2.2.2.2.2.2.2.2.2.2.2
  refine lv_aload_n hx hb dL_law_304 rfl (lv_at hl 2 rfl) ?_
  refine sc_ld (j := 1) (i := i) (k0 := 1) (k4 := 0) hx hb hX hbl hL hH.2.2.2 hl rfl rfl (by omega) (by decide) dL_law_305 dL_law_306 dL_law_308 dL_law_309 dL_law_310 ?_
  refine sc_ld (j := 2) (i := i) (k0 := 1) (k4 := 0) hx hb hX hbl hL hH.2.2.2 hl rfl rfl (by omega) (by decide) dL_law_311 dL_law_312 dL_law_314 dL_law_315 dL_law_316 ?_
  refine lv_aload_n hx hb dL_law_317 rfl (lv_at hl 4 rfl) ?_
  refine L_call (n := 4) S C0 hH hA gL_law_L_put rfl ⟨by decide, by decide, by decide +kernel⟩ (by decide) hRm rfl hl.1 rfl hR dL_law_318 (fun H locs hH => ?_)
  refine lv_istore (lv' := [(5, .int k), (4, .int (nI i)), (0, .ref b), (1, .ref (aX 0)), (2, .ref (aM 0)), (3, .ref o)]) hx hb dL_law_321 hl (by decide) rfl (fun ls hl => ?_)
  refine lv_aload_n hx hb dL_law_323 rfl (lv_at hl 4 rfl) ?_
  refine sc_ld (j := 1) (i := i) (k0 := 2) (k4 := 1) hx hb hX hbl hL hH.2.2.2 hl rfl rfl (by omega) (by decide) dL_law_324 dL_law_325 dL_law_327 dL_law_328 dL_law_329 ?_
  refine sc_ld (j := 2) (i := i) (k0 := 2) (k4 := 1) hx hb hX hbl hL hH.2.2.2 hl rfl rfl (by omega) (by decide) dL_law_330 dL_law_331 dL_law_333 dL_law_334 dL_law_335 ?_
  refine M_calli (As := [.int (xs (i + 1)), .int (xs (i + 2))]) (rest := []) S C0 hH (cg_X6_put l D cI aM H.size μ (xs (i + 1)) (xs (i + 2)) n (lt_n h) h.2.2.1 (p_put (cy := xs (i + 1)) (st := xs (i + 2)) h).2.2.2.2) (cwV 2 hts gL_law_X6_put rfl rfl rfl (by decide +kernel) ⟨Nat.le_trans (Nat.le_of_ble_eq_true rfl) hRm.1, Nat.le_trans (Nat.le_of_ble_eq_true rfl) hRm.2⟩) rfl hl.1 rfl (Nat.le_of_ble_eq_true rfl) hR dL_law_336 (fun H locs hH => ?_)
  refine lv_istore (lv' := [(6, .int (r_X6_put μ (xs (i + 1)) (xs (i + 2)) n)), (5, .int k), (4, .int (nI i)), (0, .ref b), (1, .ref (aX 0)), (2, .ref (aM 0)), (3, .ref o)]) hx hb dL_law_339 hl (by decide) rfl (fun ls hl => ?_)
  refine lv_aload_n hx hb dL_law_341 rfl (lv_at hl 5 rfl) ?_
  refine M_calli (As := []) (rest := []) S C0 hH (c_X6_thrown l D cI aM H.size (s_X6_put μ (xs (i + 1)) (xs (i + 2)) n)) (cwV 0 hts gL_law_X6_thrown rfl rfl rfl (by decide +kernel) ⟨Nat.le_trans (Nat.le_of_ble_eq_true rfl) hRm.1, Nat.le_trans (Nat.le_of_ble_eq_true rfl) hRm.2⟩) rfl hl.1 rfl (Nat.le_of_ble_eq_true rfl) hR dL_law_342 (fun H locs hH => ?_)
  refine lv_iload hx hb dL_law_345 (lv_at hl 1 rfl) ?_
  refine lv_icmp_eq (tgt := 352) hx hb dL_law_347 (by decide) (fun _ => ?_) (fun z => absurd (thr_eq e0) z)
  refine lv_iload hx hb dL_law_352 (lv_at hl 1 rfl) ?_
  refine lv_if_ne (tgt := 376) hx hb dL_law_354 (by decide) (fun _ => ?_) (fun z => ?_)
  · refine lv_goto (tgt := 1244) hx hb dL_law_376 (by decide) ?_
    exact kk _ _ _ _ _ _ _ hm hH ⟨hl.1, hl.2.1, fun q hq => hl.2.2 q (List.mem_cons_of_mem _ (List.mem_cons_of_mem _ (hq)))⟩
  · refine lv_aload_n hx hb dL_law_357 rfl (lv_at hl 6 rfl) ?_
    refine lv_iconst (v := 0) hx hb dL_law_358 (by decide) ?_
    refine o_ald hx hb C0 hH dL_law_359 ?_
    refine lv_iload hx hb dL_law_360 (lv_at hl 0 rfl) ?_
    refine lv_if_eq (tgt := 369) hx hb dL_law_362 (by decide) (fun g => ?_) (fun g => ?_)
    · refine lv_lconst (v := 0) hx hb dL_law_369 (by decide) ?_
      refine l_cmpE hx hb (by rw [er z, if_pos g]) dL_law_370 ?_
      refine lv_if_eq (tgt := 376) hx hb dL_law_371 (by decide) (fun _ => ?_) (fun q => absurd rfl q)
      refine lv_goto (tgt := 1244) hx hb dL_law_376 (by decide) ?_
      exact kk _ _ _ _ _ _ _ hm hH ⟨hl.1, hl.2.1, fun q hq => hl.2.2 q (List.mem_cons_of_mem _ (List.mem_cons_of_mem _ (hq)))⟩
    · refine lv_lconst (v := 1) hx hb dL_law_365 (by decide) ?_
      refine lv_goto (tgt := 370) hx hb dL_law_366 (by decide) ?_
      refine l_cmpE hx hb (by rw [er z, if_neg g]) dL_law_370 ?_
      refine lv_if_eq (tgt := 376) hx hb dL_law_371 (by decide) (fun _ => ?_) (fun q => absurd rfl q)
      refine lv_goto (tgt := 1244) hx hb dL_law_376 (by decide) ?_
      exact kk _ _ _ _ _ _ _ hm hH ⟨hl.1, hl.2.1, fun q hq => hl.2.2 q (List.mem_cons_of_mem _ (List.mem_cons_of_mem _ (hq)))⟩
theorem k_take (S : CallFix p m c cL_law 7 s args wsL_law RL) (C0 : LC l D cI cJ aX aM o s) (hX : va_X b L xs s s.heap) (hbl : b < s.heap.size) (hL : L ≤ 2560) (hi : i + 5 ≤ L) (hRm : 11 ≤ R.frames ∧ 432 ≤ R.locals) (hR : cells + 1 ≤ R.cells ∧ slots + 6 ≤ R.slots) (h : MI σ μ n) (hH : LH D cI cJ aX aM o s σ μ f H locs) (hl : lv_has ls 7 [(4, .int (nI i)), (0, .ref b), (1, .ref (aX 0)), (2, .ref (aM 0)), (3, .ref o)])
    (kk : ∀ (H1 : Heap) (locs1 : List Loc) (σ1 μ1 : Sg) (f1 : Nat → Int64) (n1 : Nat) (ls1 : Array Slot), MI σ1 μ1 n1 → LH D cI cJ aX aM o s σ1 μ1 f1 H1 locs1 → lv_has ls1 7 [(4, .int (nI i)), (0, .ref b), (1, .ref (aX 0)), (2, .ref (aM 0)), (3, .ref o)] → W p l e R s m args below meth c H1 locs1 (cells + 1) (slots + 6) Q (F0 m 1244 ls1 [])) : W p l e R s m args below meth c H locs cells slots Q (F0 m 379 ls []) := by
  have hx := S.1
  have hb := S.2.1
  have hts := S.2.2.2.2
  obtain ⟨k, σ', f', n', hA, e0, er, hm⟩ := act_take (l := l) (D := D) (cI := cI) (cJ := cJ) (a := aX) (o := o) (sz := H.size) (f := f) (cy := xs (i + 1)) h C0.2.2.2.2.2.2.2.2.2.2.2
  refine lv_aload_n hx hb dL_law_379 rfl (lv_at hl 2 rfl) ?_
  refine sc_ld (j := 1) (i := i) (k0 := 1) (k4 := 0) hx hb hX hbl hL hH.2.2.2 hl rfl rfl (by omega) (by decide) dL_law_380 dL_law_381 dL_law_383 dL_law_384 dL_law_385 ?_
  refine lv_aload_n hx hb dL_law_386 rfl (lv_at hl 4 rfl) ?_
  refine L_call (n := 3) S C0 hH hA gL_law_L_take rfl ⟨by decide, by decide, by decide +kernel⟩ (by decide) hRm rfl hl.1 rfl hR dL_law_387 (fun H locs hH => ?_)
  refine lv_istore (lv' := [(5, .int k), (4, .int (nI i)), (0, .ref b), (1, .ref (aX 0)), (2, .ref (aM 0)), (3, .ref o)]) hx hb dL_law_390 hl (by decide) rfl (fun ls hl => ?_)
  refine lv_aload_n hx hb dL_law_392 rfl (lv_at hl 4 rfl) ?_
  refine sc_ld (j := 1) (i := i) (k0 := 2) (k4 := 1) hx hb hX hbl hL hH.2.2.2 hl rfl rfl (by omega) (by decide) dL_law_393 dL_law_394 dL_law_396 dL_law_397 dL_law_398 ?_
  refine M_calli (As := [.int (xs (i + 1))]) (rest := []) S C0 hH (cg_X6_take l D cI aM H.size μ (xs (i + 1)) n (lt_n h) h.2.2.1 (p_take (cy := xs (i + 1)) h).2.2.2) (cwV 1 hts gL_law_X6_take rfl rfl rfl (by decide +kernel) ⟨Nat.le_trans (Nat.le_of_ble_eq_true rfl) hRm.1, Nat.le_trans (Nat.le_of_ble_eq_true rfl) hRm.2⟩) rfl hl.1 rfl (Nat.le_of_ble_eq_true rfl) hR dL_law_399 (fun H locs hH => ?_)
  refine lv_istore (lv' := [(6, .int (r_X6_take μ (xs (i + 1)) n)), (5, .int k), (4, .int (nI i)), (0, .ref b), (1, .ref (aX 0)), (2, .ref (aM 0)), (3, .ref o)]) hx hb dL_law_402 hl (by decide) rfl (fun ls hl => ?_)
  refine lv_aload_n hx hb dL_law_404 rfl (lv_at hl 5 rfl) ?_
  refine M_calli (As := []) (rest := []) S C0 hH (c_X6_thrown l D cI aM H.size (s_X6_take μ (xs (i + 1)) n)) (cwV 0 hts gL_law_X6_thrown rfl rfl rfl (by decide +kernel) ⟨Nat.le_trans (Nat.le_of_ble_eq_true rfl) hRm.1, Nat.le_trans (Nat.le_of_ble_eq_true rfl) hRm.2⟩) rfl hl.1 rfl (Nat.le_of_ble_eq_true rfl) hR dL_law_405 (fun H locs hH => ?_)
  refine lv_iload hx hb dL_law_408 (lv_at hl 1 rfl) ?_
  refine lv_icmp_eq (tgt := 415) hx hb dL_law_410 (by decide) (fun _ => ?_) (fun z => absurd (thr_eq e0) z)
  refine lv_iload hx hb dL_law_415 (lv_at hl 1 rfl) ?_
  refine lv_if_ne (tgt := 439) hx hb dL_law_417 (by decide) (fun _ => ?_) (fun z => ?_)
  · refine lv_goto (tgt := 1244) hx hb dL_law_439 (by decide) ?_
    exact kk _ _ _ _ _ _ _ hm hH ⟨hl.1, hl.2.1, fun q hq => hl.2.2 q (List.mem_cons_of_mem _ (List.mem_cons_of_mem _ (hq)))⟩
  · refine lv_aload_n hx hb dL_law_420 rfl (lv_at hl 6 rfl) ?_
    refine lv_iconst (v := 0) hx hb dL_law_421 (by decide) ?_
    refine o_ald hx hb C0 hH dL_law_422 ?_
    refine lv_iload hx hb dL_law_423 (lv_at hl 0 rfl) ?_
    refine lv_if_eq (tgt := 432) hx hb dL_law_425 (by decide) (fun g => ?_) (fun g => ?_)
    · refine lv_lconst (v := 0) hx hb dL_law_432 (by decide) ?_
      refine l_cmpE hx hb (by rw [er z, if_pos g]) dL_law_433 ?_
      refine lv_if_eq (tgt := 439) hx hb dL_law_434 (by decide) (fun _ => ?_) (fun q => absurd rfl q)
      refine lv_goto (tgt := 1244) hx hb dL_law_439 (by decide) ?_
      exact kk _ _ _ _ _ _ _ hm hH ⟨hl.1, hl.2.1, fun q hq => hl.2.2 q (List.mem_cons_of_mem _ (List.mem_cons_of_mem _ (hq)))⟩
    · refine lv_lconst (v := 1) hx hb dL_law_428 (by decide) ?_
      refine lv_goto (tgt := 433) hx hb dL_law_429 (by decide) ?_
      refine l_cmpE hx hb (by rw [er z, if_neg g]) dL_law_433 ?_
      refine lv_if_eq (tgt := 439) hx hb dL_law_434 (by decide) (fun _ => ?_) (fun q => absurd rfl q)
      refine lv_goto (tgt := 1244) hx hb dL_law_439 (by decide) ?_
      exact kk _ _ _ _ _ _ _ hm hH ⟨hl.1, hl.2.1, fun q hq => hl.2.2 q (List.mem_cons_of_mem _ (List.mem_cons_of_mem _ (hq)))⟩
theorem k_unlocked (S : CallFix p m c cL_law 7 s args wsL_law RL) (C0 : LC l D cI cJ aX aM o s) (hX : va_X b L xs s s.heap) (hbl : b < s.heap.size) (hL : L ≤ 2560) (hi : i + 5 ≤ L) (hRm : 11 ≤ R.frames ∧ 432 ≤ R.locals) (hR : cells + 1 ≤ R.cells ∧ slots + 6 ≤ R.slots) (h : MI σ μ n) (hH : LH D cI cJ aX aM o s σ μ f H locs) (hl : lv_has ls 7 [(4, .int (nI i)), (0, .ref b), (1, .ref (aX 0)), (2, .ref (aM 0)), (3, .ref o)])
    (kk : ∀ (H1 : Heap) (locs1 : List Loc) (σ1 μ1 : Sg) (f1 : Nat → Int64) (n1 : Nat) (ls1 : Array Slot), MI σ1 μ1 n1 → LH D cI cJ aX aM o s σ1 μ1 f1 H1 locs1 → lv_has ls1 7 [(4, .int (nI i)), (0, .ref b), (1, .ref (aX 0)), (2, .ref (aM 0)), (3, .ref o)] → W p l e R s m args below meth c H1 locs1 (cells + 1) (slots + 6) Q (F0 m 1244 ls1 [])) : W p l e R s m args below meth c H locs cells slots Q (F0 m 442 ls []) := by
  have hx := S.1
  have hb := S.2.1
  have hts := S.2.2.2.2
  obtain ⟨k, σ', f', n', hA, e0, er, hm⟩ := act_unlocked (l := l) (D := D) (cI := cI) (cJ := cJ) (a := aX) (o := o) (sz := H.size) (f := f) (cy := xs (i + 1)) (ri := xs (i + 2)) (wh := xs (i + 3)) h C0.2.2.2.2.2.2.2.2.2.2.2
  refine lv_aload_n hx hb dL_law_442 rfl (lv_at hl 2 rfl) ?_
  refine sc_ld (j := 1) (i := i) (k0 := 1) (k4 := 0) hx hb hX hbl hL hH.2.2.2 hl rfl rfl (by omega) (by decide) dL_law_443 dL_law_444 dL_law_446 dL_law_447 dL_law_448 ?_
  refine sc_ld (j := 2) (i := i) (k0 := 1) (k4 := 0) hx hb hX hbl hL hH.2.2.2 hl rfl rfl (by omega) (by decide) dL_law_449 dL_law_450 dL_law_452 dL_law_453 dL_law_454 ?_
  refine sc_ld (j := 3) (i := i) (k0 := 1) (k4 := 0) hx hb hX hbl hL hH.2.2.2 hl rfl rfl (by omega) (by decide) dL_law_455 dL_law_456 dL_law_458 dL_law_459 dL_law_460 ?_
  refine lv_aload_n hx hb dL_law_461 rfl (lv_at hl 4 rfl) ?_
  refine L_call (n := 5) S C0 hH hA gL_law_L_unlocked rfl ⟨by decide, by decide, by decide +kernel⟩ (by decide) hRm rfl hl.1 rfl hR dL_law_462 (fun H locs hH => ?_)
  refine lv_istore (lv' := [(5, .int k), (4, .int (nI i)), (0, .ref b), (1, .ref (aX 0)), (2, .ref (aM 0)), (3, .ref o)]) hx hb dL_law_465 hl (by decide) rfl (fun ls hl => ?_)
  refine lv_aload_n hx hb dL_law_467 rfl (lv_at hl 4 rfl) ?_
  refine sc_ld (j := 1) (i := i) (k0 := 2) (k4 := 1) hx hb hX hbl hL hH.2.2.2 hl rfl rfl (by omega) (by decide) dL_law_468 dL_law_469 dL_law_471 dL_law_472 dL_law_473 ?_
  refine sc_ld (j := 2) (i := i) (k0 := 2) (k4 := 1) hx hb hX hbl hL hH.2.2.2 hl rfl rfl (by omega) (by decide) dL_law_474 dL_law_475 dL_law_477 dL_law_478 dL_law_479 ?_
  refine sc_ld (j := 3) (i := i) (k0 := 2) (k4 := 1) hx hb hX hbl hL hH.2.2.2 hl rfl rfl (by omega) (by decide) dL_law_480 dL_law_481 dL_law_483 dL_law_484 dL_law_485 ?_
  refine M_calli (As := [.int (xs (i + 1)), .int (xs (i + 2)), .int (xs (i + 3))]) (rest := []) S C0 hH (c_X6_unlocked l D cI aM H.size μ (xs (i + 1)) (xs (i + 2)) (xs (i + 3)) n (lt_n h) h.2.2.1) (cwV 3 hts gL_law_X6_unlocked rfl rfl rfl (by decide +kernel) ⟨Nat.le_trans (Nat.le_of_ble_eq_true rfl) hRm.1, Nat.le_trans (Nat.le_of_ble_eq_true rfl) hRm.2⟩) rfl hl.1 rfl (Nat.le_of_ble_eq_true rfl) hR dL_law_486 (fun H locs hH => ?_)
  refine lv_istore (lv' := [(6, .int (r_X6_unlocked μ (xs (i + 1)) (xs (i + 2)) (xs (i + 3)) n)), (5, .int k), (4, .int (nI i)), (0, .ref b), (1, .ref (aX 0)), (2, .ref (aM 0)), (3, .ref o)]) hx hb dL_law_489 hl (by decide) rfl (fun ls hl => ?_)
  refine lv_aload_n hx hb dL_law_491 rfl (lv_at hl 5 rfl) ?_
  refine M_calli (As := []) (rest := []) S C0 hH (c_X6_thrown l D cI aM H.size (s_X6_unlocked μ (xs (i + 1)) (xs (i + 2)) (xs (i + 3)) n)) (cwV 0 hts gL_law_X6_thrown rfl rfl rfl (by decide +kernel) ⟨Nat.le_trans (Nat.le_of_ble_eq_true rfl) hRm.1, Nat.le_trans (Nat.le_of_ble_eq_true rfl) hRm.2⟩) rfl hl.1 rfl (Nat.le_of_ble_eq_true rfl) hR dL_law_492 (fun H locs hH => ?_)
  refine lv_iload hx hb dL_law_495 (lv_at hl 1 rfl) ?_
  refine lv_icmp_eq (tgt := 502) hx hb dL_law_497 (by decide) (fun _ => ?_) (fun z => absurd (thr_eq e0) z)
  refine lv_iload hx hb dL_law_502 (lv_at hl 1 rfl) ?_
  refine lv_if_ne (tgt := 526) hx hb dL_law_504 (by decide) (fun _ => ?_) (fun z => ?_)
  · refine lv_goto (tgt := 1244) hx hb dL_law_526 (by decide) ?_
    exact kk _ _ _ _ _ _ _ hm hH ⟨hl.1, hl.2.1, fun q hq => hl.2.2 q (List.mem_cons_of_mem _ (List.mem_cons_of_mem _ (hq)))⟩
  · refine lv_aload_n hx hb dL_law_507 rfl (lv_at hl 6 rfl) ?_
    refine lv_iconst (v := 0) hx hb dL_law_508 (by decide) ?_
    refine o_ald hx hb C0 hH dL_law_509 ?_
    refine lv_iload hx hb dL_law_510 (lv_at hl 0 rfl) ?_
    refine lv_if_eq (tgt := 519) hx hb dL_law_512 (by decide) (fun g => ?_) (fun g => ?_)
    · refine lv_lconst (v := 0) hx hb dL_law_519 (by decide) ?_
      refine l_cmpE hx hb (by rw [er z, if_pos g]) dL_law_520 ?_
      refine lv_if_eq (tgt := 526) hx hb dL_law_521 (by decide) (fun _ => ?_) (fun q => absurd rfl q)
      refine lv_goto (tgt := 1244) hx hb dL_law_526 (by decide) ?_
      exact kk _ _ _ _ _ _ _ hm hH ⟨hl.1, hl.2.1, fun q hq => hl.2.2 q (List.mem_cons_of_mem _ (List.mem_cons_of_mem _ (hq)))⟩
    · refine lv_lconst (v := 1) hx hb dL_law_515 (by decide) ?_
      refine lv_goto (tgt := 520) hx hb dL_law_516 (by decide) ?_
      refine l_cmpE hx hb (by rw [er z, if_neg g]) dL_law_520 ?_
      refine lv_if_eq (tgt := 526) hx hb dL_law_521 (by decide) (fun _ => ?_) (fun q => absurd rfl q)
      refine lv_goto (tgt := 1244) hx hb dL_law_526 (by decide) ?_
      exact kk _ _ _ _ _ _ _ hm hH ⟨hl.1, hl.2.1, fun q hq => hl.2.2 q (List.mem_cons_of_mem _ (List.mem_cons_of_mem _ (hq)))⟩
theorem k_locked (S : CallFix p m c cL_law 7 s args wsL_law RL) (C0 : LC l D cI cJ aX aM o s) (hX : va_X b L xs s s.heap) (hbl : b < s.heap.size) (hL : L ≤ 2560) (hi : i + 5 ≤ L) (hRm : 11 ≤ R.frames ∧ 432 ≤ R.locals) (hR : cells + 1 ≤ R.cells ∧ slots + 6 ≤ R.slots) (h : MI σ μ n) (hH : LH D cI cJ aX aM o s σ μ f H locs) (hl : lv_has ls 7 [(4, .int (nI i)), (0, .ref b), (1, .ref (aX 0)), (2, .ref (aM 0)), (3, .ref o)])
    (kk : ∀ (H1 : Heap) (locs1 : List Loc) (σ1 μ1 : Sg) (f1 : Nat → Int64) (n1 : Nat) (ls1 : Array Slot), MI σ1 μ1 n1 → LH D cI cJ aX aM o s σ1 μ1 f1 H1 locs1 → lv_has ls1 7 [(4, .int (nI i)), (0, .ref b), (1, .ref (aX 0)), (2, .ref (aM 0)), (3, .ref o)] → W p l e R s m args below meth c H1 locs1 (cells + 1) (slots + 6) Q (F0 m 1244 ls1 [])) : W p l e R s m args below meth c H locs cells slots Q (F0 m 529 ls []) := by
  have hx := S.1
  have hb := S.2.1
  have hts := S.2.2.2.2
  obtain ⟨k, σ', f', n', hA, e0, er, hm⟩ := act_locked (l := l) (D := D) (cI := cI) (cJ := cJ) (a := aX) (o := o) (sz := H.size) (f := f) (cy := xs (i + 1)) (st := xs (i + 2)) (wh := xs (i + 3)) h C0.2.2.2.2.2.2.2.2.2.2.2
  refine lv_aload_n hx hb dL_law_529 rfl (lv_at hl 2 rfl) ?_
  refine sc_ld (j := 1) (i := i) (k0 := 1) (k4 := 0) hx hb hX hbl hL hH.2.2.2 hl rfl rfl (by omega) (by decide) dL_law_530 dL_law_531 dL_law_533 dL_law_534 dL_law_535 ?_
  refine sc_ld (j := 2) (i := i) (k0 := 1) (k4 := 0) hx hb hX hbl hL hH.2.2.2 hl rfl rfl (by omega) (by decide) dL_law_536 dL_law_537 dL_law_539 dL_law_540 dL_law_541 ?_
  refine sc_ld (j := 3) (i := i) (k0 := 1) (k4 := 0) hx hb hX hbl hL hH.2.2.2 hl rfl rfl (by omega) (by decide) dL_law_542 dL_law_543 dL_law_545 dL_law_546 dL_law_547 ?_
  refine lv_aload_n hx hb dL_law_548 rfl (lv_at hl 4 rfl) ?_
  refine L_call (n := 5) S C0 hH hA gL_law_L_locked rfl ⟨by decide, by decide, by decide +kernel⟩ (by decide) hRm rfl hl.1 rfl hR dL_law_549 (fun H locs hH => ?_)
  refine lv_istore (lv' := [(5, .int k), (4, .int (nI i)), (0, .ref b), (1, .ref (aX 0)), (2, .ref (aM 0)), (3, .ref o)]) hx hb dL_law_552 hl (by decide) rfl (fun ls hl => ?_)
  refine lv_aload_n hx hb dL_law_554 rfl (lv_at hl 4 rfl) ?_
  refine sc_ld (j := 1) (i := i) (k0 := 2) (k4 := 1) hx hb hX hbl hL hH.2.2.2 hl rfl rfl (by omega) (by decide) dL_law_555 dL_law_556 dL_law_558 dL_law_559 dL_law_560 ?_
  refine sc_ld (j := 2) (i := i) (k0 := 2) (k4 := 1) hx hb hX hbl hL hH.2.2.2 hl rfl rfl (by omega) (by decide) dL_law_561 dL_law_562 dL_law_564 dL_law_565 dL_law_566 ?_
  refine sc_ld (j := 3) (i := i) (k0 := 2) (k4 := 1) hx hb hX hbl hL hH.2.2.2 hl rfl rfl (by omega) (by decide) dL_law_567 dL_law_568 dL_law_570 dL_law_571 dL_law_572 ?_
  refine M_calli (As := [.int (xs (i + 1)), .int (xs (i + 2)), .int (xs (i + 3))]) (rest := []) S C0 hH (c_X6_locked l D cI aM H.size μ (xs (i + 1)) (xs (i + 2)) (xs (i + 3)) n (lt_n h) h.2.2.1) (cwV 3 hts gL_law_X6_locked rfl rfl rfl (by decide +kernel) ⟨Nat.le_trans (Nat.le_of_ble_eq_true rfl) hRm.1, Nat.le_trans (Nat.le_of_ble_eq_true rfl) hRm.2⟩) rfl hl.1 rfl (Nat.le_of_ble_eq_true rfl) hR dL_law_573 (fun H locs hH => ?_)
  refine lv_istore (lv' := [(6, .int (r_X6_locked μ (xs (i + 1)) (xs (i + 2)) (xs (i + 3)) n)), (5, .int k), (4, .int (nI i)), (0, .ref b), (1, .ref (aX 0)), (2, .ref (aM 0)), (3, .ref o)]) hx hb dL_law_576 hl (by decide) rfl (fun ls hl => ?_)
  refine lv_aload_n hx hb dL_law_578 rfl (lv_at hl 5 rfl) ?_
  refine M_calli (As := []) (rest := []) S C0 hH (c_X6_thrown l D cI aM H.size (s_X6_locked μ (xs (i + 1)) (xs (i + 2)) (xs (i + 3)) n)) (cwV 0 hts gL_law_X6_thrown rfl rfl rfl (by decide +kernel) ⟨Nat.le_trans (Nat.le_of_ble_eq_true rfl) hRm.1, Nat.le_trans (Nat.le_of_ble_eq_true rfl) hRm.2⟩) rfl hl.1 rfl (Nat.le_of_ble_eq_true rfl) hR dL_law_579 (fun H locs hH => ?_)
  refine lv_iload hx hb dL_law_582 (lv_at hl 1 rfl) ?_
  refine lv_icmp_eq (tgt := 589) hx hb dL_law_584 (by decide) (fun _ => ?_) (fun z => absurd (thr_eq e0) z)
  refine lv_iload hx hb dL_law_589 (lv_at hl 1 rfl) ?_
  refine lv_if_ne (tgt := 613) hx hb dL_law_591 (by decide) (fun _ => ?_) (fun z => ?_)
  · refine lv_goto (tgt := 1244) hx hb dL_law_613 (by decide) ?_
    exact kk _ _ _ _ _ _ _ hm hH ⟨hl.1, hl.2.1, fun q hq => hl.2.2 q (List.mem_cons_of_mem _ (List.mem_cons_of_mem _ (hq)))⟩
  · refine lv_aload_n hx hb dL_law_594 rfl (lv_at hl 6 rfl) ?_
    refine lv_iconst (v := 0) hx hb dL_law_595 (by decide) ?_
    refine o_ald hx hb C0 hH dL_law_596 ?_
    refine lv_iload hx hb dL_law_597 (lv_at hl 0 rfl) ?_
    refine lv_if_eq (tgt := 606) hx hb dL_law_599 (by decide) (fun g => ?_) (fun g => ?_)
    · refine lv_lconst (v := 0) hx hb dL_law_606 (by decide) ?_
      refine l_cmpE hx hb (by rw [er z, if_pos g]) dL_law_607 ?_
      refine lv_if_eq (tgt := 613) hx hb dL_law_608 (by decide) (fun _ => ?_) (fun q => absurd rfl q)
      refine lv_goto (tgt := 1244) hx hb dL_law_613 (by decide) ?_
      exact kk _ _ _ _ _ _ _ hm hH ⟨hl.1, hl.2.1, fun q hq => hl.2.2 q (List.mem_cons_of_mem _ (List.mem_cons_of_mem _ (hq)))⟩
    · refine lv_lconst (v := 1) hx hb dL_law_602 (by decide) ?_
      refine lv_goto (tgt := 607) hx hb dL_law_603 (by decide) ?_
      refine l_cmpE hx hb (by rw [er z, if_neg g]) dL_law_607 ?_
      refine lv_if_eq (tgt := 613) hx hb dL_law_608 (by decide) (fun _ => ?_) (fun q => absurd rfl q)
      refine lv_goto (tgt := 1244) hx hb dL_law_613 (by decide) ?_
      exact kk _ _ _ _ _ _ _ hm hH ⟨hl.1, hl.2.1, fun q hq => hl.2.2 q (List.mem_cons_of_mem _ (List.mem_cons_of_mem _ (hq)))⟩
theorem k_faulty (S : CallFix p m c cL_law 7 s args wsL_law RL) (C0 : LC l D cI cJ aX aM o s) (hX : va_X b L xs s s.heap) (hbl : b < s.heap.size) (hL : L ≤ 2560) (hi : i + 5 ≤ L) (hRm : 11 ≤ R.frames ∧ 432 ≤ R.locals) (hR : cells + 1 ≤ R.cells ∧ slots + 6 ≤ R.slots) (h : MI σ μ n) (hH : LH D cI cJ aX aM o s σ μ f H locs) (hl : lv_has ls 7 [(4, .int (nI i)), (0, .ref b), (1, .ref (aX 0)), (2, .ref (aM 0)), (3, .ref o)])
    (kk : ∀ (H1 : Heap) (locs1 : List Loc) (σ1 μ1 : Sg) (f1 : Nat → Int64) (n1 : Nat) (ls1 : Array Slot), MI σ1 μ1 n1 → LH D cI cJ aX aM o s σ1 μ1 f1 H1 locs1 → lv_has ls1 7 [(4, .int (nI i)), (0, .ref b), (1, .ref (aX 0)), (2, .ref (aM 0)), (3, .ref o)] → W p l e R s m args below meth c H1 locs1 (cells + 1) (slots + 6) Q (F0 m 1244 ls1 [])) : W p l e R s m args below meth c H locs cells slots Q (F0 m 616 ls []) := by
  have hx := S.1
  have hb := S.2.1
  have hts := S.2.2.2.2
  obtain ⟨k, σ', f', n', hA, e0, er, hm⟩ := act_faulty (l := l) (D := D) (cI := cI) (cJ := cJ) (a := aX) (o := o) (sz := H.size) (f := f) (cy := xs (i + 1)) (ri := xs (i + 2)) (wh := xs (i + 3)) h C0.2.2.2.2.2.2.2.2.2.2.2
  refine lv_aload_n hx hb dL_law_616 rfl (lv_at hl 2 rfl) ?_
  refine sc_ld (j := 1) (i := i) (k0 := 1) (k4 := 0) hx hb hX hbl hL hH.2.2.2 hl rfl rfl (by omega) (by decide) dL_law_617 dL_law_618 dL_law_620 dL_law_621 dL_law_622 ?_
  refine sc_ld (j := 2) (i := i) (k0 := 1) (k4 := 0) hx hb hX hbl hL hH.2.2.2 hl rfl rfl (by omega) (by decide) dL_law_623 dL_law_624 dL_law_626 dL_law_627 dL_law_628 ?_
  refine sc_ld (j := 3) (i := i) (k0 := 1) (k4 := 0) hx hb hX hbl hL hH.2.2.2 hl rfl rfl (by omega) (by decide) dL_law_629 dL_law_630 dL_law_632 dL_law_633 dL_law_634 ?_
  refine lv_aload_n hx hb dL_law_635 rfl (lv_at hl 4 rfl) ?_
  refine L_call (n := 5) S C0 hH hA gL_law_L_faulty rfl ⟨by decide, by decide, by decide +kernel⟩ (by decide) hRm rfl hl.1 rfl hR dL_law_636 (fun H locs hH => ?_)
  refine lv_istore (lv' := [(5, .int k), (4, .int (nI i)), (0, .ref b), (1, .ref (aX 0)), (2, .ref (aM 0)), (3, .ref o)]) hx hb dL_law_639 hl (by decide) rfl (fun ls hl => ?_)
  refine lv_aload_n hx hb dL_law_641 rfl (lv_at hl 4 rfl) ?_
  refine sc_ld (j := 1) (i := i) (k0 := 2) (k4 := 1) hx hb hX hbl hL hH.2.2.2 hl rfl rfl (by omega) (by decide) dL_law_642 dL_law_643 dL_law_645 dL_law_646 dL_law_647 ?_
  refine sc_ld (j := 2) (i := i) (k0 := 2) (k4 := 1) hx hb hX hbl hL hH.2.2.2 hl rfl rfl (by omega) (by decide) dL_law_648 dL_law_649 dL_law_651 dL_law_652 dL_law_653 ?_
  refine sc_ld (j := 3) (i := i) (k0 := 2) (k4 := 1) hx hb hX hbl hL hH.2.2.2 hl rfl rfl (by omega) (by decide) dL_law_654 dL_law_655 dL_law_657 dL_law_658 dL_law_659 ?_
  refine M_calli (As := [.int (xs (i + 1)), .int (xs (i + 2)), .int (xs (i + 3))]) (rest := []) S C0 hH (c_X6_faulty l D cI aM H.size μ (xs (i + 1)) (xs (i + 2)) (xs (i + 3)) n (lt_n h) h.2.2.1) (cwV 3 hts gL_law_X6_faulty rfl rfl rfl (by decide +kernel) ⟨Nat.le_trans (Nat.le_of_ble_eq_true rfl) hRm.1, Nat.le_trans (Nat.le_of_ble_eq_true rfl) hRm.2⟩) rfl hl.1 rfl (Nat.le_of_ble_eq_true rfl) hR dL_law_660 (fun H locs hH => ?_)
  refine lv_istore (lv' := [(6, .int (r_X6_faulty μ (xs (i + 1)) (xs (i + 2)) (xs (i + 3)) n)), (5, .int k), (4, .int (nI i)), (0, .ref b), (1, .ref (aX 0)), (2, .ref (aM 0)), (3, .ref o)]) hx hb dL_law_663 hl (by decide) rfl (fun ls hl => ?_)
  refine lv_aload_n hx hb dL_law_665 rfl (lv_at hl 5 rfl) ?_
  refine M_calli (As := []) (rest := []) S C0 hH (c_X6_thrown l D cI aM H.size (s_X6_faulty μ (xs (i + 1)) (xs (i + 2)) (xs (i + 3)) n)) (cwV 0 hts gL_law_X6_thrown rfl rfl rfl (by decide +kernel) ⟨Nat.le_trans (Nat.le_of_ble_eq_true rfl) hRm.1, Nat.le_trans (Nat.le_of_ble_eq_true rfl) hRm.2⟩) rfl hl.1 rfl (Nat.le_of_ble_eq_true rfl) hR dL_law_666 (fun H locs hH => ?_)
  refine lv_iload hx hb dL_law_669 (lv_at hl 1 rfl) ?_
  refine lv_icmp_eq (tgt := 676) hx hb dL_law_671 (by decide) (fun _ => ?_) (fun z => absurd (thr_eq e0) z)
  refine lv_iload hx hb dL_law_676 (lv_at hl 1 rfl) ?_
  refine lv_if_ne (tgt := 700) hx hb dL_law_678 (by decide) (fun _ => ?_) (fun z => ?_)
  · refine lv_goto (tgt := 1244) hx hb dL_law_700 (by decide) ?_
    exact kk _ _ _ _ _ _ _ hm hH ⟨hl.1, hl.2.1, fun q hq => hl.2.2 q (List.mem_cons_of_mem _ (List.mem_cons_of_mem _ (hq)))⟩
  · refine lv_aload_n hx hb dL_law_681 rfl (lv_at hl 6 rfl) ?_
    refine lv_iconst (v := 0) hx hb dL_law_682 (by decide) ?_
    refine o_ald hx hb C0 hH dL_law_683 ?_
    refine lv_iload hx hb dL_law_684 (lv_at hl 0 rfl) ?_
    refine lv_if_eq (tgt := 693) hx hb dL_law_686 (by decide) (fun g => ?_) (fun g => ?_)
    · refine lv_lconst (v := 0) hx hb dL_law_693 (by decide) ?_
      refine l_cmpE hx hb (by rw [er z, if_pos g]) dL_law_694 ?_
      refine lv_if_eq (tgt := 700) hx hb dL_law_695 (by decide) (fun _ => ?_) (fun q => absurd rfl q)
      refine lv_goto (tgt := 1244) hx hb dL_law_700 (by decide) ?_
      exact kk _ _ _ _ _ _ _ hm hH ⟨hl.1, hl.2.1, fun q hq => hl.2.2 q (List.mem_cons_of_mem _ (List.mem_cons_of_mem _ (hq)))⟩
    · refine lv_lconst (v := 1) hx hb dL_law_689 (by decide) ?_
      refine lv_goto (tgt := 694) hx hb dL_law_690 (by decide) ?_
      refine l_cmpE hx hb (by rw [er z, if_neg g]) dL_law_694 ?_
      refine lv_if_eq (tgt := 700) hx hb dL_law_695 (by decide) (fun _ => ?_) (fun q => absurd rfl q)
      refine lv_goto (tgt := 1244) hx hb dL_law_700 (by decide) ?_
      exact kk _ _ _ _ _ _ _ hm hH ⟨hl.1, hl.2.1, fun q hq => hl.2.2 q (List.mem_cons_of_mem _ (List.mem_cons_of_mem _ (hq)))⟩
theorem k_mend (S : CallFix p m c cL_law 7 s args wsL_law RL) (C0 : LC l D cI cJ aX aM o s) (hX : va_X b L xs s s.heap) (hbl : b < s.heap.size) (hL : L ≤ 2560) (hi : i + 5 ≤ L) (hRm : 11 ≤ R.frames ∧ 432 ≤ R.locals) (hR : cells + 1 ≤ R.cells ∧ slots + 6 ≤ R.slots) (h : MI σ μ n) (hH : LH D cI cJ aX aM o s σ μ f H locs) (hl : lv_has ls 7 [(4, .int (nI i)), (0, .ref b), (1, .ref (aX 0)), (2, .ref (aM 0)), (3, .ref o)])
    (kk : ∀ (H1 : Heap) (locs1 : List Loc) (σ1 μ1 : Sg) (f1 : Nat → Int64) (n1 : Nat) (ls1 : Array Slot), MI σ1 μ1 n1 → LH D cI cJ aX aM o s σ1 μ1 f1 H1 locs1 → lv_has ls1 7 [(4, .int (nI i)), (0, .ref b), (1, .ref (aX 0)), (2, .ref (aM 0)), (3, .ref o)] → W p l e R s m args below meth c H1 locs1 (cells + 1) (slots + 6) Q (F0 m 1244 ls1 [])) : W p l e R s m args below meth c H locs cells slots Q (F0 m 703 ls []) := by
  have hx := S.1
  have hb := S.2.1
  have hts := S.2.2.2.2
  obtain ⟨k, σ', f', n', hA, e0, er, hm⟩ := act_mend (l := l) (D := D) (cI := cI) (cJ := cJ) (a := aX) (o := o) (sz := H.size) (f := f) (cy := xs (i + 1)) h C0.2.2.2.2.2.2.2.2.2.2.2
  refine lv_aload_n hx hb dL_law_703 rfl (lv_at hl 2 rfl) ?_
  refine sc_ld (j := 1) (i := i) (k0 := 1) (k4 := 0) hx hb hX hbl hL hH.2.2.2 hl rfl rfl (by omega) (by decide) dL_law_704 dL_law_705 dL_law_707 dL_law_708 dL_law_709 ?_
  refine lv_aload_n hx hb dL_law_710 rfl (lv_at hl 4 rfl) ?_
  refine L_call (n := 3) S C0 hH hA gL_law_L_mend rfl ⟨by decide, by decide, by decide +kernel⟩ (by decide) hRm rfl hl.1 rfl hR dL_law_711 (fun H locs hH => ?_)
  refine lv_istore (lv' := [(5, .int k), (4, .int (nI i)), (0, .ref b), (1, .ref (aX 0)), (2, .ref (aM 0)), (3, .ref o)]) hx hb dL_law_714 hl (by decide) rfl (fun ls hl => ?_)
  refine lv_aload_n hx hb dL_law_716 rfl (lv_at hl 4 rfl) ?_
  refine sc_ld (j := 1) (i := i) (k0 := 2) (k4 := 1) hx hb hX hbl hL hH.2.2.2 hl rfl rfl (by omega) (by decide) dL_law_717 dL_law_718 dL_law_720 dL_law_721 dL_law_722 ?_
  refine M_calli (As := [.int (xs (i + 1))]) (rest := []) S C0 hH (cg_X6_mend l D cI aM H.size μ (xs (i + 1)) n (lt_n h) h.2.2.1 (p_mend (cy := xs (i + 1)) h).2.2.2) (cwV 1 hts gL_law_X6_mend rfl rfl rfl (by decide +kernel) ⟨Nat.le_trans (Nat.le_of_ble_eq_true rfl) hRm.1, Nat.le_trans (Nat.le_of_ble_eq_true rfl) hRm.2⟩) rfl hl.1 rfl (Nat.le_of_ble_eq_true rfl) hR dL_law_723 (fun H locs hH => ?_)
  refine lv_istore (lv' := [(6, .int (r_X6_mend μ (xs (i + 1)) n)), (5, .int k), (4, .int (nI i)), (0, .ref b), (1, .ref (aX 0)), (2, .ref (aM 0)), (3, .ref o)]) hx hb dL_law_726 hl (by decide) rfl (fun ls hl => ?_)
  refine lv_aload_n hx hb dL_law_728 rfl (lv_at hl 5 rfl) ?_
  refine M_calli (As := []) (rest := []) S C0 hH (c_X6_thrown l D cI aM H.size (s_X6_mend μ (xs (i + 1)) n)) (cwV 0 hts gL_law_X6_thrown rfl rfl rfl (by decide +kernel) ⟨Nat.le_trans (Nat.le_of_ble_eq_true rfl) hRm.1, Nat.le_trans (Nat.le_of_ble_eq_true rfl) hRm.2⟩) rfl hl.1 rfl (Nat.le_of_ble_eq_true rfl) hR dL_law_729 (fun H locs hH => ?_)
  refine lv_iload hx hb dL_law_732 (lv_at hl 1 rfl) ?_
  refine lv_icmp_eq (tgt := 739) hx hb dL_law_734 (by decide) (fun _ => ?_) (fun z => absurd (thr_eq e0) z)
  refine lv_iload hx hb dL_law_739 (lv_at hl 1 rfl) ?_
  refine lv_if_ne (tgt := 763) hx hb dL_law_741 (by decide) (fun _ => ?_) (fun z => ?_)
  · refine lv_goto (tgt := 1244) hx hb dL_law_763 (by decide) ?_
    exact kk _ _ _ _ _ _ _ hm hH ⟨hl.1, hl.2.1, fun q hq => hl.2.2 q (List.mem_cons_of_mem _ (List.mem_cons_of_mem _ (hq)))⟩
  · refine lv_aload_n hx hb dL_law_744 rfl (lv_at hl 6 rfl) ?_
    refine lv_iconst (v := 0) hx hb dL_law_745 (by decide) ?_
    refine o_ald hx hb C0 hH dL_law_746 ?_
    refine lv_iload hx hb dL_law_747 (lv_at hl 0 rfl) ?_
    refine lv_if_eq (tgt := 756) hx hb dL_law_749 (by decide) (fun g => ?_) (fun g => ?_)
    · refine lv_lconst (v := 0) hx hb dL_law_756 (by decide) ?_
      refine l_cmpE hx hb (by rw [er z, if_pos g]) dL_law_757 ?_
      refine lv_if_eq (tgt := 763) hx hb dL_law_758 (by decide) (fun _ => ?_) (fun q => absurd rfl q)
      refine lv_goto (tgt := 1244) hx hb dL_law_763 (by decide) ?_
      exact kk _ _ _ _ _ _ _ hm hH ⟨hl.1, hl.2.1, fun q hq => hl.2.2 q (List.mem_cons_of_mem _ (List.mem_cons_of_mem _ (hq)))⟩
    · refine lv_lconst (v := 1) hx hb dL_law_752 (by decide) ?_
      refine lv_goto (tgt := 757) hx hb dL_law_753 (by decide) ?_
      refine l_cmpE hx hb (by rw [er z, if_neg g]) dL_law_757 ?_
      refine lv_if_eq (tgt := 763) hx hb dL_law_758 (by decide) (fun _ => ?_) (fun q => absurd rfl q)
      refine lv_goto (tgt := 1244) hx hb dL_law_763 (by decide) ?_
      exact kk _ _ _ _ _ _ _ hm hH ⟨hl.1, hl.2.1, fun q hq => hl.2.2 q (List.mem_cons_of_mem _ (List.mem_cons_of_mem _ (hq)))⟩
theorem k_price (S : CallFix p m c cL_law 7 s args wsL_law RL) (C0 : LC l D cI cJ aX aM o s) (hX : va_X b L xs s s.heap) (hbl : b < s.heap.size) (hL : L ≤ 2560) (hi : i + 5 ≤ L) (hRm : 11 ≤ R.frames ∧ 432 ≤ R.locals) (hR : cells + 1 ≤ R.cells ∧ slots + 6 ≤ R.slots) (h : MI σ μ n) (hH : LH D cI cJ aX aM o s σ μ f H locs) (hl : lv_has ls 7 [(4, .int (nI i)), (0, .ref b), (1, .ref (aX 0)), (2, .ref (aM 0)), (3, .ref o)])
    (kk : ∀ (H1 : Heap) (locs1 : List Loc) (σ1 μ1 : Sg) (f1 : Nat → Int64) (n1 : Nat) (ls1 : Array Slot), MI σ1 μ1 n1 → LH D cI cJ aX aM o s σ1 μ1 f1 H1 locs1 → lv_has ls1 7 [(4, .int (nI i)), (0, .ref b), (1, .ref (aX 0)), (2, .ref (aM 0)), (3, .ref o)] → W p l e R s m args below meth c H1 locs1 (cells + 1) (slots + 6) Q (F0 m 1244 ls1 [])) : W p l e R s m args below meth c H locs cells slots Q (F0 m 766 ls []) := by
  have hx := S.1
  have hb := S.2.1
  have hts := S.2.2.2.2
  obtain ⟨k, σ', f', n', hA, e0, hm⟩ := act_price (l := l) (D := D) (cI := cI) (cJ := cJ) (a := aX) (o := o) (sz := H.size) (f := f) (pr := xs (i + 1)) h C0.2.2.2.2.2.2.2.2.2.2.2
  refine lv_aload_n hx hb dL_law_766 rfl (lv_at hl 2 rfl) ?_
  refine sc_ld (j := 1) (i := i) (k0 := 1) (k4 := 0) hx hb hX hbl hL hH.2.2.2 hl rfl rfl (by omega) (by decide) dL_law_767 dL_law_768 dL_law_770 dL_law_771 dL_law_772 ?_
  refine L_call (n := 2) S C0 hH hA gL_law_L_price rfl ⟨by decide, by decide, by decide +kernel⟩ (by decide) hRm rfl hl.1 rfl hR dL_law_773 (fun H locs hH => ?_)
  refine lv_istore (lv' := [(5, .int k), (4, .int (nI i)), (0, .ref b), (1, .ref (aX 0)), (2, .ref (aM 0)), (3, .ref o)]) hx hb dL_law_776 hl (by decide) rfl (fun ls hl => ?_)
  refine lv_aload_n hx hb dL_law_778 rfl (lv_at hl 4 rfl) ?_
  refine sc_ld (j := 1) (i := i) (k0 := 2) (k4 := 1) hx hb hX hbl hL hH.2.2.2 hl rfl rfl (by omega) (by decide) dL_law_779 dL_law_780 dL_law_782 dL_law_783 dL_law_784 ?_
  refine M_callv (As := [.int (xs (i + 1))]) (rest := []) S C0 hH (c_X6_price l D cI aM H.size μ (xs (i + 1)) n (lt_n h) h.2.2.1) (cwV 1 hts gL_law_X6_price rfl rfl rfl (by decide +kernel) ⟨Nat.le_trans (Nat.le_of_ble_eq_true rfl) hRm.1, Nat.le_trans (Nat.le_of_ble_eq_true rfl) hRm.2⟩) rfl hl.1 rfl (Nat.le_of_ble_eq_true rfl) hR dL_law_785 (fun H locs hH => ?_)
  refine lv_aload_n hx hb dL_law_788 rfl (lv_at hl 4 rfl) ?_
  refine M_calli (As := []) (rest := []) S C0 hH (c_X6_thrown l D cI aM H.size (s_X6_price μ (xs (i + 1)) n)) (cwV 0 hts gL_law_X6_thrown rfl rfl rfl (by decide +kernel) ⟨Nat.le_trans (Nat.le_of_ble_eq_true rfl) hRm.1, Nat.le_trans (Nat.le_of_ble_eq_true rfl) hRm.2⟩) rfl hl.1 rfl (Nat.le_of_ble_eq_true rfl) hR dL_law_789 (fun H locs hH => ?_)
  refine lv_iload hx hb dL_law_792 (lv_at hl 0 rfl) ?_
  refine lv_icmp_eq (tgt := 799) hx hb dL_law_794 (by decide) (fun _ => ?_) (fun z => absurd (thr_eq e0) z)
  refine lv_goto (tgt := 1244) hx hb dL_law_799 (by decide) ?_
  exact kk _ _ _ _ _ _ _ hm hH ⟨hl.1, hl.2.1, fun q hq => hl.2.2 q (List.mem_cons_of_mem _ (hq))⟩
theorem k_promise (S : CallFix p m c cL_law 7 s args wsL_law RL) (C0 : LC l D cI cJ aX aM o s) (hX : va_X b L xs s s.heap) (hbl : b < s.heap.size) (hL : L ≤ 2560) (hi : i + 5 ≤ L) (hRm : 11 ≤ R.frames ∧ 432 ≤ R.locals) (hR : cells + 1 ≤ R.cells ∧ slots + 6 ≤ R.slots) (h : MI σ μ n) (hH : LH D cI cJ aX aM o s σ μ f H locs) (hl : lv_has ls 7 [(4, .int (nI i)), (0, .ref b), (1, .ref (aX 0)), (2, .ref (aM 0)), (3, .ref o)])
    (kk : ∀ (H1 : Heap) (locs1 : List Loc) (σ1 μ1 : Sg) (f1 : Nat → Int64) (n1 : Nat) (ls1 : Array Slot), MI σ1 μ1 n1 → LH D cI cJ aX aM o s σ1 μ1 f1 H1 locs1 → lv_has ls1 7 [(4, .int (nI i)), (0, .ref b), (1, .ref (aX 0)), (2, .ref (aM 0)), (3, .ref o)] → W p l e R s m args below meth c H1 locs1 (cells + 1) (slots + 6) Q (F0 m 1244 ls1 [])) : W p l e R s m args below meth c H locs cells slots Q (F0 m 802 ls []) := by
  have hx := S.1
  have hb := S.2.1
  have hts := S.2.2.2.2
  obtain ⟨k, σ', f', n', hA, e0, er, hm⟩ := act_promise (l := l) (D := D) (cI := cI) (cJ := cJ) (a := aX) (o := o) (sz := H.size) (f := f) (ri := xs (i + 1)) (st := xs (i + 2)) h C0.2.2.2.2.2.2.2.2.2.2.2
  refine lv_aload_n hx hb dL_law_802 rfl (lv_at hl 2 rfl) ?_
  refine sc_ld (j := 1) (i := i) (k0 := 1) (k4 := 0) hx hb hX hbl hL hH.2.2.2 hl rfl rfl (by omega) (by decide) dL_law_803 dL_law_804 dL_law_806 dL_law_807 dL_law_808 ?_
  refine sc_ld (j := 2) (i := i) (k0 := 1) (k4 := 0) hx hb hX hbl hL hH.2.2.2 hl rfl rfl (by omega) (by decide) dL_law_809 dL_law_810 dL_law_812 dL_law_813 dL_law_814 ?_
  refine lv_aload_n hx hb dL_law_815 rfl (lv_at hl 4 rfl) ?_
  refine L_call (n := 4) S C0 hH hA gL_law_L_promise rfl ⟨by decide, by decide, by decide +kernel⟩ (by decide) hRm rfl hl.1 rfl hR dL_law_816 (fun H locs hH => ?_)
  refine lv_istore (lv' := [(5, .int k), (4, .int (nI i)), (0, .ref b), (1, .ref (aX 0)), (2, .ref (aM 0)), (3, .ref o)]) hx hb dL_law_819 hl (by decide) rfl (fun ls hl => ?_)
  refine lv_aload_n hx hb dL_law_821 rfl (lv_at hl 4 rfl) ?_
  refine sc_ld (j := 1) (i := i) (k0 := 2) (k4 := 1) hx hb hX hbl hL hH.2.2.2 hl rfl rfl (by omega) (by decide) dL_law_822 dL_law_823 dL_law_825 dL_law_826 dL_law_827 ?_
  refine sc_ld (j := 2) (i := i) (k0 := 2) (k4 := 1) hx hb hX hbl hL hH.2.2.2 hl rfl rfl (by omega) (by decide) dL_law_828 dL_law_829 dL_law_831 dL_law_832 dL_law_833 ?_
  refine M_calli (As := [.int (xs (i + 1)), .int (xs (i + 2))]) (rest := []) S C0 hH (cg_X6_promise l D cI aM H.size μ (xs (i + 1)) (xs (i + 2)) n (lt_n h) h.2.2.1 (p_promise (ri := xs (i + 1)) (st := xs (i + 2)) h).2.2.2.2) (cwV 2 hts gL_law_X6_promise rfl rfl rfl (by decide +kernel) ⟨Nat.le_trans (Nat.le_of_ble_eq_true rfl) hRm.1, Nat.le_trans (Nat.le_of_ble_eq_true rfl) hRm.2⟩) rfl hl.1 rfl (Nat.le_of_ble_eq_true rfl) hR dL_law_834 (fun H locs hH => ?_)
  refine lv_istore (lv' := [(6, .int (r_X6_promise μ (xs (i + 1)) (xs (i + 2)) n)), (5, .int k), (4, .int (nI i)), (0, .ref b), (1, .ref (aX 0)), (2, .ref (aM 0)), (3, .ref o)]) hx hb dL_law_837 hl (by decide) rfl (fun ls hl => ?_)
  refine lv_aload_n hx hb dL_law_839 rfl (lv_at hl 5 rfl) ?_
  refine M_calli (As := []) (rest := []) S C0 hH (c_X6_thrown l D cI aM H.size (s_X6_promise μ (xs (i + 1)) (xs (i + 2)) n)) (cwV 0 hts gL_law_X6_thrown rfl rfl rfl (by decide +kernel) ⟨Nat.le_trans (Nat.le_of_ble_eq_true rfl) hRm.1, Nat.le_trans (Nat.le_of_ble_eq_true rfl) hRm.2⟩) rfl hl.1 rfl (Nat.le_of_ble_eq_true rfl) hR dL_law_840 (fun H locs hH => ?_)
  refine lv_iload hx hb dL_law_843 (lv_at hl 1 rfl) ?_
  refine lv_icmp_eq (tgt := 850) hx hb dL_law_845 (by decide) (fun _ => ?_) (fun z => absurd (thr_eq e0) z)
  refine lv_iload hx hb dL_law_850 (lv_at hl 1 rfl) ?_
  refine lv_if_ne (tgt := 874) hx hb dL_law_852 (by decide) (fun _ => ?_) (fun z => ?_)
  · refine lv_goto (tgt := 1244) hx hb dL_law_874 (by decide) ?_
    exact kk _ _ _ _ _ _ _ hm hH ⟨hl.1, hl.2.1, fun q hq => hl.2.2 q (List.mem_cons_of_mem _ (List.mem_cons_of_mem _ (hq)))⟩
  · refine lv_aload_n hx hb dL_law_855 rfl (lv_at hl 6 rfl) ?_
    refine lv_iconst (v := 0) hx hb dL_law_856 (by decide) ?_
    refine o_ald hx hb C0 hH dL_law_857 ?_
    refine lv_iload hx hb dL_law_858 (lv_at hl 0 rfl) ?_
    refine lv_if_eq (tgt := 867) hx hb dL_law_860 (by decide) (fun g => ?_) (fun g => ?_)
    · refine lv_lconst (v := 0) hx hb dL_law_867 (by decide) ?_
      refine l_cmpE hx hb (by rw [er z, if_pos g]) dL_law_868 ?_
      refine lv_if_eq (tgt := 874) hx hb dL_law_869 (by decide) (fun _ => ?_) (fun q => absurd rfl q)
      refine lv_goto (tgt := 1244) hx hb dL_law_874 (by decide) ?_
      exact kk _ _ _ _ _ _ _ hm hH ⟨hl.1, hl.2.1, fun q hq => hl.2.2 q (List.mem_cons_of_mem _ (List.mem_cons_of_mem _ (hq)))⟩
    · refine lv_lconst (v := 1) hx hb dL_law_863 (by decide) ?_
      refine lv_goto (tgt := 868) hx hb dL_law_864 (by decide) ?_
      refine l_cmpE hx hb (by rw [er z, if_neg g]) dL_law_868 ?_
      refine lv_if_eq (tgt := 874) hx hb dL_law_869 (by decide) (fun _ => ?_) (fun q => absurd rfl q)
      refine lv_goto (tgt := 1244) hx hb dL_law_874 (by decide) ?_
      exact kk _ _ _ _ _ _ _ hm hH ⟨hl.1, hl.2.1, fun q hq => hl.2.2 q (List.mem_cons_of_mem _ (List.mem_cons_of_mem _ (hq)))⟩
theorem k_cycle (S : CallFix p m c cL_law 7 s args wsL_law RL) (C0 : LC l D cI cJ aX aM o s) (hX : va_X b L xs s s.heap) (hbl : b < s.heap.size) (hL : L ≤ 2560) (hi : i + 5 ≤ L) (hRm : 11 ≤ R.frames ∧ 432 ≤ R.locals) (hR : cells + 1 ≤ R.cells ∧ slots + 6 ≤ R.slots) (h : MI σ μ n) (hH : LH D cI cJ aX aM o s σ μ f H locs) (hl : lv_has ls 7 [(4, .int (nI i)), (0, .ref b), (1, .ref (aX 0)), (2, .ref (aM 0)), (3, .ref o)])
    (kk : ∀ (H1 : Heap) (locs1 : List Loc) (σ1 μ1 : Sg) (f1 : Nat → Int64) (n1 : Nat) (ls1 : Array Slot), MI σ1 μ1 n1 → LH D cI cJ aX aM o s σ1 μ1 f1 H1 locs1 → lv_has ls1 7 [(4, .int (nI i)), (0, .ref b), (1, .ref (aX 0)), (2, .ref (aM 0)), (3, .ref o)] → W p l e R s m args below meth c H1 locs1 (cells + 1) (slots + 6) Q (F0 m 1244 ls1 [])) : W p l e R s m args below meth c H locs cells slots Q (F0 m 877 ls []) := by
  have hx := S.1
  have hb := S.2.1
  have hts := S.2.2.2.2
  obtain ⟨k, σ', f', n', hA, e0, er, hm⟩ := act_cycle (l := l) (D := D) (cI := cI) (cJ := cJ) (a := aX) (o := o) (sz := H.size) (f := f) (cy := xs (i + 1)) (its := xs (i + 2)) h C0.2.2.2.2.2.2.2.2.2.2.2
  refine lv_aload_n hx hb dL_law_877 rfl (lv_at hl 2 rfl) ?_
  refine sc_ld (j := 1) (i := i) (k0 := 1) (k4 := 0) hx hb hX hbl hL hH.2.2.2 hl rfl rfl (by omega) (by decide) dL_law_878 dL_law_879 dL_law_881 dL_law_882 dL_law_883 ?_
  refine sc_ld (j := 2) (i := i) (k0 := 1) (k4 := 0) hx hb hX hbl hL hH.2.2.2 hl rfl rfl (by omega) (by decide) dL_law_884 dL_law_885 dL_law_887 dL_law_888 dL_law_889 ?_
  refine lv_aload_n hx hb dL_law_890 rfl (lv_at hl 4 rfl) ?_
  refine L_call (n := 4) S C0 hH hA gL_law_L_cycle rfl ⟨by decide, by decide, by decide +kernel⟩ (by decide) hRm rfl hl.1 rfl hR dL_law_891 (fun H locs hH => ?_)
  refine lv_istore (lv' := [(5, .int k), (4, .int (nI i)), (0, .ref b), (1, .ref (aX 0)), (2, .ref (aM 0)), (3, .ref o)]) hx hb dL_law_894 hl (by decide) rfl (fun ls hl => ?_)
  refine lv_aload_n hx hb dL_law_896 rfl (lv_at hl 4 rfl) ?_
  refine sc_ld (j := 1) (i := i) (k0 := 2) (k4 := 1) hx hb hX hbl hL hH.2.2.2 hl rfl rfl (by omega) (by decide) dL_law_897 dL_law_898 dL_law_900 dL_law_901 dL_law_902 ?_
  refine sc_ld (j := 2) (i := i) (k0 := 2) (k4 := 1) hx hb hX hbl hL hH.2.2.2 hl rfl rfl (by omega) (by decide) dL_law_903 dL_law_904 dL_law_906 dL_law_907 dL_law_908 ?_
  refine M_calli (As := [.int (xs (i + 1)), .int (xs (i + 2))]) (rest := []) S C0 hH (c_X6_cycle l D cI aM H.size μ (xs (i + 1)) (xs (i + 2)) n (lt_n h) (p_cycle (cy := xs (i + 1)) (its := xs (i + 2)) h).2.2.2) (cwV 2 hts gL_law_X6_cycle rfl rfl rfl (by decide +kernel) ⟨Nat.le_trans (Nat.le_of_ble_eq_true rfl) hRm.1, Nat.le_trans (Nat.le_of_ble_eq_true rfl) hRm.2⟩) rfl hl.1 rfl (Nat.le_of_ble_eq_true rfl) hR dL_law_909 (fun H locs hH => ?_)
  refine lv_istore (lv' := [(6, .int (r_X6_cycle μ (xs (i + 1)) (xs (i + 2)) n)), (5, .int k), (4, .int (nI i)), (0, .ref b), (1, .ref (aX 0)), (2, .ref (aM 0)), (3, .ref o)]) hx hb dL_law_912 hl (by decide) rfl (fun ls hl => ?_)
  refine lv_aload_n hx hb dL_law_914 rfl (lv_at hl 5 rfl) ?_
  refine M_calli (As := []) (rest := []) S C0 hH (c_X6_thrown l D cI aM H.size (s_X6_cycle μ (xs (i + 1)) (xs (i + 2)) n)) (cwV 0 hts gL_law_X6_thrown rfl rfl rfl (by decide +kernel) ⟨Nat.le_trans (Nat.le_of_ble_eq_true rfl) hRm.1, Nat.le_trans (Nat.le_of_ble_eq_true rfl) hRm.2⟩) rfl hl.1 rfl (Nat.le_of_ble_eq_true rfl) hR dL_law_915 (fun H locs hH => ?_)
  refine lv_iload hx hb dL_law_918 (lv_at hl 1 rfl) ?_
  refine lv_icmp_eq (tgt := 925) hx hb dL_law_920 (by decide) (fun _ => ?_) (fun z => absurd (thr_eq e0) z)
  refine lv_iload hx hb dL_law_925 (lv_at hl 1 rfl) ?_
  refine lv_if_ne (tgt := 942) hx hb dL_law_927 (by decide) (fun _ => ?_) (fun z => ?_)
  · refine lv_goto (tgt := 1244) hx hb dL_law_942 (by decide) ?_
    exact kk _ _ _ _ _ _ _ hm hH ⟨hl.1, hl.2.1, fun q hq => hl.2.2 q (List.mem_cons_of_mem _ (List.mem_cons_of_mem _ (hq)))⟩
  · refine lv_aload_n hx hb dL_law_930 rfl (lv_at hl 6 rfl) ?_
    refine lv_iconst (v := 0) hx hb dL_law_931 (by decide) ?_
    refine o_ald hx hb C0 hH dL_law_932 ?_
    refine lv_iload hx hb dL_law_933 (lv_at hl 0 rfl) ?_
    refine lv_i2l hx hb dL_law_935 rfl ?_
    refine l_cmpE hx hb (er z) dL_law_936 ?_
    refine lv_if_eq (tgt := 942) hx hb dL_law_937 (by decide) (fun _ => ?_) (fun q => absurd rfl q)
    refine lv_goto (tgt := 1244) hx hb dL_law_942 (by decide) ?_
    exact kk _ _ _ _ _ _ _ hm hH ⟨hl.1, hl.2.1, fun q hq => hl.2.2 q (List.mem_cons_of_mem _ (List.mem_cons_of_mem _ (hq)))⟩
theorem k_station (S : CallFix p m c cL_law 7 s args wsL_law RL) (C0 : LC l D cI cJ aX aM o s) (hX : va_X b L xs s s.heap) (hbl : b < s.heap.size) (hL : L ≤ 2560) (hi : i + 5 ≤ L) (hRm : 11 ≤ R.frames ∧ 432 ≤ R.locals) (hR : cells + 1 ≤ R.cells ∧ slots + 6 ≤ R.slots) (h : MI σ μ n) (hH : LH D cI cJ aX aM o s σ μ f H locs) (hl : lv_has ls 7 [(4, .int (nI i)), (0, .ref b), (1, .ref (aX 0)), (2, .ref (aM 0)), (3, .ref o)])
    (kk : ∀ (H1 : Heap) (locs1 : List Loc) (σ1 μ1 : Sg) (f1 : Nat → Int64) (n1 : Nat) (ls1 : Array Slot), MI σ1 μ1 n1 → LH D cI cJ aX aM o s σ1 μ1 f1 H1 locs1 → lv_has ls1 7 [(4, .int (nI i)), (0, .ref b), (1, .ref (aX 0)), (2, .ref (aM 0)), (3, .ref o)] → W p l e R s m args below meth c H1 locs1 (cells + 1) (slots + 6) Q (F0 m 1244 ls1 [])) : W p l e R s m args below meth c H locs cells slots Q (F0 m 945 ls []) := by
  have hx := S.1
  have hb := S.2.1
  have hts := S.2.2.2.2
  obtain ⟨k, σ', f', n', hA, e0, er, hm⟩ := act_station (l := l) (D := D) (cI := cI) (cJ := cJ) (a := aX) (o := o) (sz := H.size) (f := f) (st := xs (i + 1)) (its := xs (i + 2)) h C0.2.2.2.2.2.2.2.2.2.2.2
  refine lv_aload_n hx hb dL_law_945 rfl (lv_at hl 2 rfl) ?_
  refine sc_ld (j := 1) (i := i) (k0 := 1) (k4 := 0) hx hb hX hbl hL hH.2.2.2 hl rfl rfl (by omega) (by decide) dL_law_946 dL_law_947 dL_law_949 dL_law_950 dL_law_951 ?_
  refine sc_ld (j := 2) (i := i) (k0 := 1) (k4 := 0) hx hb hX hbl hL hH.2.2.2 hl rfl rfl (by omega) (by decide) dL_law_952 dL_law_953 dL_law_955 dL_law_956 dL_law_957 ?_
  refine lv_aload_n hx hb dL_law_958 rfl (lv_at hl 4 rfl) ?_
  refine L_call (n := 4) S C0 hH hA gL_law_L_station rfl ⟨by decide, by decide, by decide +kernel⟩ (by decide) hRm rfl hl.1 rfl hR dL_law_959 (fun H locs hH => ?_)
  refine lv_istore (lv' := [(5, .int k), (4, .int (nI i)), (0, .ref b), (1, .ref (aX 0)), (2, .ref (aM 0)), (3, .ref o)]) hx hb dL_law_962 hl (by decide) rfl (fun ls hl => ?_)
  refine lv_aload_n hx hb dL_law_964 rfl (lv_at hl 4 rfl) ?_
  refine sc_ld (j := 1) (i := i) (k0 := 2) (k4 := 1) hx hb hX hbl hL hH.2.2.2 hl rfl rfl (by omega) (by decide) dL_law_965 dL_law_966 dL_law_968 dL_law_969 dL_law_970 ?_
  refine sc_ld (j := 2) (i := i) (k0 := 2) (k4 := 1) hx hb hX hbl hL hH.2.2.2 hl rfl rfl (by omega) (by decide) dL_law_971 dL_law_972 dL_law_974 dL_law_975 dL_law_976 ?_
  refine M_calli (As := [.int (xs (i + 1)), .int (xs (i + 2))]) (rest := []) S C0 hH (c_X6_station l D cI aM H.size μ (xs (i + 1)) (xs (i + 2)) n (lt_n h) (p_station (st := xs (i + 1)) (its := xs (i + 2)) h).2.2.2) (cwV 2 hts gL_law_X6_station rfl rfl rfl (by decide +kernel) ⟨Nat.le_trans (Nat.le_of_ble_eq_true rfl) hRm.1, Nat.le_trans (Nat.le_of_ble_eq_true rfl) hRm.2⟩) rfl hl.1 rfl (Nat.le_of_ble_eq_true rfl) hR dL_law_977 (fun H locs hH => ?_)
  refine lv_istore (lv' := [(6, .int (r_X6_station μ (xs (i + 1)) (xs (i + 2)) n)), (5, .int k), (4, .int (nI i)), (0, .ref b), (1, .ref (aX 0)), (2, .ref (aM 0)), (3, .ref o)]) hx hb dL_law_980 hl (by decide) rfl (fun ls hl => ?_)
  refine lv_aload_n hx hb dL_law_982 rfl (lv_at hl 5 rfl) ?_
  refine M_calli (As := []) (rest := []) S C0 hH (c_X6_thrown l D cI aM H.size (s_X6_station μ (xs (i + 1)) (xs (i + 2)) n)) (cwV 0 hts gL_law_X6_thrown rfl rfl rfl (by decide +kernel) ⟨Nat.le_trans (Nat.le_of_ble_eq_true rfl) hRm.1, Nat.le_trans (Nat.le_of_ble_eq_true rfl) hRm.2⟩) rfl hl.1 rfl (Nat.le_of_ble_eq_true rfl) hR dL_law_983 (fun H locs hH => ?_)
  refine lv_iload hx hb dL_law_986 (lv_at hl 1 rfl) ?_
  refine lv_icmp_eq (tgt := 993) hx hb dL_law_988 (by decide) (fun _ => ?_) (fun z => absurd (thr_eq e0) z)
  refine lv_iload hx hb dL_law_993 (lv_at hl 1 rfl) ?_
  refine lv_if_ne (tgt := 1010) hx hb dL_law_995 (by decide) (fun _ => ?_) (fun z => ?_)
  · refine lv_goto (tgt := 1244) hx hb dL_law_1010 (by decide) ?_
    exact kk _ _ _ _ _ _ _ hm hH ⟨hl.1, hl.2.1, fun q hq => hl.2.2 q (List.mem_cons_of_mem _ (List.mem_cons_of_mem _ (hq)))⟩
  · refine lv_aload_n hx hb dL_law_998 rfl (lv_at hl 6 rfl) ?_
    refine lv_iconst (v := 0) hx hb dL_law_999 (by decide) ?_
    refine o_ald hx hb C0 hH dL_law_1000 ?_
    refine lv_iload hx hb dL_law_1001 (lv_at hl 0 rfl) ?_
    refine lv_i2l hx hb dL_law_1003 rfl ?_
    refine l_cmpE hx hb (er z) dL_law_1004 ?_
    refine lv_if_eq (tgt := 1010) hx hb dL_law_1005 (by decide) (fun _ => ?_) (fun q => absurd rfl q)
    refine lv_goto (tgt := 1244) hx hb dL_law_1010 (by decide) ?_
    exact kk _ _ _ _ _ _ _ hm hH ⟨hl.1, hl.2.1, fun q hq => hl.2.2 q (List.mem_cons_of_mem _ (List.mem_cons_of_mem _ (hq)))⟩
theorem k_rider (S : CallFix p m c cL_law 7 s args wsL_law RL) (C0 : LC l D cI cJ aX aM o s) (hX : va_X b L xs s s.heap) (hbl : b < s.heap.size) (hL : L ≤ 2560) (hi : i + 5 ≤ L) (hRm : 11 ≤ R.frames ∧ 432 ≤ R.locals) (hR : cells + 1 ≤ R.cells ∧ slots + 6 ≤ R.slots) (h : MI σ μ n) (hH : LH D cI cJ aX aM o s σ μ f H locs) (hl : lv_has ls 7 [(4, .int (nI i)), (0, .ref b), (1, .ref (aX 0)), (2, .ref (aM 0)), (3, .ref o)])
    (kk : ∀ (H1 : Heap) (locs1 : List Loc) (σ1 μ1 : Sg) (f1 : Nat → Int64) (n1 : Nat) (ls1 : Array Slot), MI σ1 μ1 n1 → LH D cI cJ aX aM o s σ1 μ1 f1 H1 locs1 → lv_has ls1 7 [(4, .int (nI i)), (0, .ref b), (1, .ref (aX 0)), (2, .ref (aM 0)), (3, .ref o)] → W p l e R s m args below meth c H1 locs1 (cells + 1) (slots + 6) Q (F0 m 1244 ls1 [])) : W p l e R s m args below meth c H locs cells slots Q (F0 m 1013 ls []) := by
  have hx := S.1
  have hb := S.2.1
  have hts := S.2.2.2.2
  obtain ⟨k, σ', f', n', hA, e0, er, hm⟩ := act_rider (l := l) (D := D) (cI := cI) (cJ := cJ) (a := aX) (o := o) (sz := H.size) (f := f) (ri := xs (i + 1)) (its := xs (i + 2)) h C0.2.2.2.2.2.2.2.2.2.2.2
  refine lv_aload_n hx hb dL_law_1013 rfl (lv_at hl 2 rfl) ?_
  refine sc_ld (j := 1) (i := i) (k0 := 1) (k4 := 0) hx hb hX hbl hL hH.2.2.2 hl rfl rfl (by omega) (by decide) dL_law_1014 dL_law_1015 dL_law_1017 dL_law_1018 dL_law_1019 ?_
  refine sc_ld (j := 2) (i := i) (k0 := 1) (k4 := 0) hx hb hX hbl hL hH.2.2.2 hl rfl rfl (by omega) (by decide) dL_law_1020 dL_law_1021 dL_law_1023 dL_law_1024 dL_law_1025 ?_
  refine lv_aload_n hx hb dL_law_1026 rfl (lv_at hl 4 rfl) ?_
  refine L_call (n := 4) S C0 hH hA gL_law_L_rider rfl ⟨by decide, by decide, by decide +kernel⟩ (by decide) hRm rfl hl.1 rfl hR dL_law_1027 (fun H locs hH => ?_)
  refine lv_istore (lv' := [(5, .int k), (4, .int (nI i)), (0, .ref b), (1, .ref (aX 0)), (2, .ref (aM 0)), (3, .ref o)]) hx hb dL_law_1030 hl (by decide) rfl (fun ls hl => ?_)
  refine lv_aload_n hx hb dL_law_1032 rfl (lv_at hl 4 rfl) ?_
  refine sc_ld (j := 1) (i := i) (k0 := 2) (k4 := 1) hx hb hX hbl hL hH.2.2.2 hl rfl rfl (by omega) (by decide) dL_law_1033 dL_law_1034 dL_law_1036 dL_law_1037 dL_law_1038 ?_
  refine sc_ld (j := 2) (i := i) (k0 := 2) (k4 := 1) hx hb hX hbl hL hH.2.2.2 hl rfl rfl (by omega) (by decide) dL_law_1039 dL_law_1040 dL_law_1042 dL_law_1043 dL_law_1044 ?_
  refine M_calli (As := [.int (xs (i + 1)), .int (xs (i + 2))]) (rest := []) S C0 hH (c_X6_rider l D cI aM H.size μ (xs (i + 1)) (xs (i + 2)) n (lt_n h) (p_rider (ri := xs (i + 1)) (its := xs (i + 2)) h).2.2.2) (cwV 2 hts gL_law_X6_rider rfl rfl rfl (by decide +kernel) ⟨Nat.le_trans (Nat.le_of_ble_eq_true rfl) hRm.1, Nat.le_trans (Nat.le_of_ble_eq_true rfl) hRm.2⟩) rfl hl.1 rfl (Nat.le_of_ble_eq_true rfl) hR dL_law_1045 (fun H locs hH => ?_)
  refine lv_istore (lv' := [(6, .int (r_X6_rider μ (xs (i + 1)) (xs (i + 2)) n)), (5, .int k), (4, .int (nI i)), (0, .ref b), (1, .ref (aX 0)), (2, .ref (aM 0)), (3, .ref o)]) hx hb dL_law_1048 hl (by decide) rfl (fun ls hl => ?_)
  refine lv_aload_n hx hb dL_law_1050 rfl (lv_at hl 5 rfl) ?_
  refine M_calli (As := []) (rest := []) S C0 hH (c_X6_thrown l D cI aM H.size (s_X6_rider μ (xs (i + 1)) (xs (i + 2)) n)) (cwV 0 hts gL_law_X6_thrown rfl rfl rfl (by decide +kernel) ⟨Nat.le_trans (Nat.le_of_ble_eq_true rfl) hRm.1, Nat.le_trans (Nat.le_of_ble_eq_true rfl) hRm.2⟩) rfl hl.1 rfl (Nat.le_of_ble_eq_true rfl) hR dL_law_1051 (fun H locs hH => ?_)
  refine lv_iload hx hb dL_law_1054 (lv_at hl 1 rfl) ?_
  refine lv_icmp_eq (tgt := 1061) hx hb dL_law_1056 (by decide) (fun _ => ?_) (fun z => absurd (thr_eq e0) z)
  refine lv_iload hx hb dL_law_1061 (lv_at hl 1 rfl) ?_
  refine lv_if_ne (tgt := 1078) hx hb dL_law_1063 (by decide) (fun _ => ?_) (fun z => ?_)
  · refine lv_goto (tgt := 1244) hx hb dL_law_1078 (by decide) ?_
    exact kk _ _ _ _ _ _ _ hm hH ⟨hl.1, hl.2.1, fun q hq => hl.2.2 q (List.mem_cons_of_mem _ (List.mem_cons_of_mem _ (hq)))⟩
  · refine lv_aload_n hx hb dL_law_1066 rfl (lv_at hl 6 rfl) ?_
    refine lv_iconst (v := 0) hx hb dL_law_1067 (by decide) ?_
    refine o_ald hx hb C0 hH dL_law_1068 ?_
    refine lv_iload hx hb dL_law_1069 (lv_at hl 0 rfl) ?_
    refine lv_i2l hx hb dL_law_1071 rfl ?_
    refine l_cmpE hx hb (er z) dL_law_1072 ?_
    refine lv_if_eq (tgt := 1078) hx hb dL_law_1073 (by decide) (fun _ => ?_) (fun q => absurd rfl q)
    refine lv_goto (tgt := 1244) hx hb dL_law_1078 (by decide) ?_
    exact kk _ _ _ _ _ _ _ hm hH ⟨hl.1, hl.2.1, fun q hq => hl.2.2 q (List.mem_cons_of_mem _ (List.mem_cons_of_mem _ (hq)))⟩
theorem k_odd (S : CallFix p m c cL_law 7 s args wsL_law RL) (C0 : LC l D cI cJ aX aM o s) (hX : va_X b L xs s s.heap) (hbl : b < s.heap.size) (hL : L ≤ 2560) (hi : i + 5 ≤ L) (hRm : 11 ≤ R.frames ∧ 432 ≤ R.locals) (hR : cells + 1 ≤ R.cells ∧ slots + 6 ≤ R.slots) (h : MI σ μ n) (hH : LH D cI cJ aX aM o s σ μ f H locs) (hl : lv_has ls 7 [(4, .int (nI i)), (0, .ref b), (1, .ref (aX 0)), (2, .ref (aM 0)), (3, .ref o)])
    (kk : ∀ (H1 : Heap) (locs1 : List Loc) (σ1 μ1 : Sg) (f1 : Nat → Int64) (n1 : Nat) (ls1 : Array Slot), MI σ1 μ1 n1 → LH D cI cJ aX aM o s σ1 μ1 f1 H1 locs1 → lv_has ls1 7 [(4, .int (nI i)), (0, .ref b), (1, .ref (aX 0)), (2, .ref (aM 0)), (3, .ref o)] → W p l e R s m args below meth c H1 locs1 (cells + 1) (slots + 6) Q (F0 m 1244 ls1 [])) : W p l e R s m args below meth c H locs cells slots Q (F0 m 1081 ls []) := by
  have hx := S.1
  have hb := S.2.1
  have hts := S.2.2.2.2
  refine lv_aload_n hx hb dL_law_1081 rfl (lv_at hl 2 rfl) ?_
  refine X_calli (As := []) (rest := []) S C0 hH (c_X5_odd l D cI aX H.size σ) (cwV 0 hts gL_law_X5_odd rfl rfl rfl (by decide +kernel) ⟨Nat.le_trans (Nat.le_of_ble_eq_true rfl) hRm.1, Nat.le_trans (Nat.le_of_ble_eq_true rfl) hRm.2⟩) rfl hl.1 rfl (Nat.le_of_ble_eq_true rfl) ⟨by omega, by omega⟩ dL_law_1082 (fun H locs hH => ?_)
  refine lv_aload_n hx hb dL_law_1085 rfl (lv_at hl 3 rfl) ?_
  refine M_calli (As := []) (rest := [.int (r_X5_odd σ)]) S C0 hH (c_X6_odd l D cI aM H.size μ n (lt_n h) (p_odd h).1) (cwV 0 hts gL_law_X6_odd rfl rfl rfl (by decide +kernel) ⟨Nat.le_trans (Nat.le_of_ble_eq_true rfl) hRm.1, Nat.le_trans (Nat.le_of_ble_eq_true rfl) hRm.2⟩) rfl hl.1 rfl (Nat.le_of_ble_eq_true rfl) ⟨by omega, by omega⟩ dL_law_1086 (fun H locs hH => ?_)
  have hm := (p_odd h).2.2
  refine lv_icmp_eq (tgt := 1244) hx hb dL_law_1089 (by decide) (fun _ => ?_) (fun z => absurd (p_odd h).2.1 z)
  exact W.widen (k := cells + 1) (n := slots + 6) (by omega) (by omega) (kk _ _ _ _ _ _ _ hm hH hl)
theorem k_nearest (S : CallFix p m c cL_law 7 s args wsL_law RL) (C0 : LC l D cI cJ aX aM o s) (hX : va_X b L xs s s.heap) (hbl : b < s.heap.size) (hL : L ≤ 2560) (hi : i + 5 ≤ L) (hRm : 11 ≤ R.frames ∧ 432 ≤ R.locals) (hR : cells + 1 ≤ R.cells ∧ slots + 6 ≤ R.slots) (h : MI σ μ n) (hH : LH D cI cJ aX aM o s σ μ f H locs) (hl : lv_has ls 7 [(4, .int (nI i)), (0, .ref b), (1, .ref (aX 0)), (2, .ref (aM 0)), (3, .ref o)])
    (kk : ∀ (H1 : Heap) (locs1 : List Loc) (σ1 μ1 : Sg) (f1 : Nat → Int64) (n1 : Nat) (ls1 : Array Slot), MI σ1 μ1 n1 → LH D cI cJ aX aM o s σ1 μ1 f1 H1 locs1 → lv_has ls1 7 [(4, .int (nI i)), (0, .ref b), (1, .ref (aX 0)), (2, .ref (aM 0)), (3, .ref o)] → W p l e R s m args below meth c H1 locs1 (cells + 1) (slots + 6) Q (F0 m 1244 ls1 [])) : W p l e R s m args below meth c H locs cells slots Q (F0 m 1094 ls []) := by
  have hx := S.1
  have hb := S.2.1
  have hts := S.2.2.2.2
  obtain ⟨k, σ', f', n', hA, e0, er, hm⟩ := act_nearest (l := l) (D := D) (cI := cI) (cJ := cJ) (a := aX) (o := o) (sz := H.size) (f := f) (st := xs (i + 1)) h C0.2.2.2.2.2.2.2.2.2.2.2
  refine lv_aload_n hx hb dL_law_1094 rfl (lv_at hl 2 rfl) ?_
  refine sc_ld (j := 1) (i := i) (k0 := 1) (k4 := 0) hx hb hX hbl hL hH.2.2.2 hl rfl rfl (by omega) (by decide) dL_law_1095 dL_law_1096 dL_law_1098 dL_law_1099 dL_law_1100 ?_
  refine lv_aload_n hx hb dL_law_1101 rfl (lv_at hl 4 rfl) ?_
  refine L_call (n := 3) S C0 hH hA gL_law_L_nearest rfl ⟨by decide, by decide, by decide +kernel⟩ (by decide) hRm rfl hl.1 rfl hR dL_law_1102 (fun H locs hH => ?_)
  refine lv_istore (lv' := [(5, .int k), (4, .int (nI i)), (0, .ref b), (1, .ref (aX 0)), (2, .ref (aM 0)), (3, .ref o)]) hx hb dL_law_1105 hl (by decide) rfl (fun ls hl => ?_)
  refine lv_aload_n hx hb dL_law_1107 rfl (lv_at hl 4 rfl) ?_
  refine sc_ld (j := 1) (i := i) (k0 := 2) (k4 := 1) hx hb hX hbl hL hH.2.2.2 hl rfl rfl (by omega) (by decide) dL_law_1108 dL_law_1109 dL_law_1111 dL_law_1112 dL_law_1113 ?_
  refine M_calli (As := [.int (xs (i + 1))]) (rest := []) S C0 hH (c_X6_nearest l D cI aM H.size μ (xs (i + 1)) n (lt_n h) (p_nearest (st := xs (i + 1)) h).2.2.1 (p_nearest (st := xs (i + 1)) h).2.2.2) (cwV 1 hts gL_law_X6_nearest rfl rfl rfl (by decide +kernel) ⟨Nat.le_trans (Nat.le_of_ble_eq_true rfl) hRm.1, Nat.le_trans (Nat.le_of_ble_eq_true rfl) hRm.2⟩) rfl hl.1 rfl (Nat.le_of_ble_eq_true rfl) hR dL_law_1114 (fun H locs hH => ?_)
  refine lv_istore (lv' := [(6, .int (r_X6_nearest μ (xs (i + 1)) n)), (5, .int k), (4, .int (nI i)), (0, .ref b), (1, .ref (aX 0)), (2, .ref (aM 0)), (3, .ref o)]) hx hb dL_law_1117 hl (by decide) rfl (fun ls hl => ?_)
  refine lv_aload_n hx hb dL_law_1119 rfl (lv_at hl 5 rfl) ?_
  refine M_calli (As := []) (rest := []) S C0 hH (c_X6_thrown l D cI aM H.size (s_X6_nearest μ (xs (i + 1)) n)) (cwV 0 hts gL_law_X6_thrown rfl rfl rfl (by decide +kernel) ⟨Nat.le_trans (Nat.le_of_ble_eq_true rfl) hRm.1, Nat.le_trans (Nat.le_of_ble_eq_true rfl) hRm.2⟩) rfl hl.1 rfl (Nat.le_of_ble_eq_true rfl) hR dL_law_1120 (fun H locs hH => ?_)
  refine lv_iload hx hb dL_law_1123 (lv_at hl 1 rfl) ?_
  refine lv_icmp_eq (tgt := 1130) hx hb dL_law_1125 (by decide) (fun _ => ?_) (fun z => absurd (thr_eq e0) z)
  refine lv_iload hx hb dL_law_1130 (lv_at hl 1 rfl) ?_
  refine lv_if_ne (tgt := 1147) hx hb dL_law_1132 (by decide) (fun _ => ?_) (fun z => ?_)
  · refine lv_goto (tgt := 1244) hx hb dL_law_1147 (by decide) ?_
    exact kk _ _ _ _ _ _ _ hm hH ⟨hl.1, hl.2.1, fun q hq => hl.2.2 q (List.mem_cons_of_mem _ (List.mem_cons_of_mem _ (hq)))⟩
  · refine lv_aload_n hx hb dL_law_1135 rfl (lv_at hl 6 rfl) ?_
    refine lv_iconst (v := 0) hx hb dL_law_1136 (by decide) ?_
    refine o_ald hx hb C0 hH dL_law_1137 ?_
    refine lv_iload hx hb dL_law_1138 (lv_at hl 0 rfl) ?_
    refine lv_i2l hx hb dL_law_1140 rfl ?_
    refine l_cmpE hx hb (er z) dL_law_1141 ?_
    refine lv_if_eq (tgt := 1147) hx hb dL_law_1142 (by decide) (fun _ => ?_) (fun q => absurd rfl q)
    refine lv_goto (tgt := 1244) hx hb dL_law_1147 (by decide) ?_
    exact kk _ _ _ _ _ _ _ hm hH ⟨hl.1, hl.2.1, fun q hq => hl.2.2 q (List.mem_cons_of_mem _ (List.mem_cons_of_mem _ (hq)))⟩
theorem k_way (S : CallFix p m c cL_law 7 s args wsL_law RL) (C0 : LC l D cI cJ aX aM o s) (hX : va_X b L xs s s.heap) (hbl : b < s.heap.size) (hL : L ≤ 2560) (hi : i + 5 ≤ L) (hRm : 11 ≤ R.frames ∧ 432 ≤ R.locals) (hR : cells + 1 ≤ R.cells ∧ slots + 6 ≤ R.slots) (h : MI σ μ n) (hH : LH D cI cJ aX aM o s σ μ f H locs) (hl : lv_has ls 7 [(4, .int (nI i)), (0, .ref b), (1, .ref (aX 0)), (2, .ref (aM 0)), (3, .ref o)])
    (kk : ∀ (H1 : Heap) (locs1 : List Loc) (σ1 μ1 : Sg) (f1 : Nat → Int64) (n1 : Nat) (ls1 : Array Slot), MI σ1 μ1 n1 → LH D cI cJ aX aM o s σ1 μ1 f1 H1 locs1 → lv_has ls1 7 [(4, .int (nI i)), (0, .ref b), (1, .ref (aX 0)), (2, .ref (aM 0)), (3, .ref o)] → W p l e R s m args below meth c H1 locs1 (cells + 1) (slots + 6) Q (F0 m 1244 ls1 [])) : W p l e R s m args below meth c H locs cells slots Q (F0 m 1150 ls []) := by
  have hx := S.1
  have hb := S.2.1
  have hts := S.2.2.2.2
  obtain ⟨k, σ', f', n', hA, e0, er, hm⟩ := act_way (l := l) (D := D) (cI := cI) (cJ := cJ) (a := aX) (o := o) (sz := H.size) (f := f) (st := xs (i + 1)) (ot := xs (i + 2)) h C0.2.2.2.2.2.2.2.2.2.2.2
  refine lv_aload_n hx hb dL_law_1150 rfl (lv_at hl 2 rfl) ?_
  refine sc_ld (j := 1) (i := i) (k0 := 1) (k4 := 0) hx hb hX hbl hL hH.2.2.2 hl rfl rfl (by omega) (by decide) dL_law_1151 dL_law_1152 dL_law_1154 dL_law_1155 dL_law_1156 ?_
  refine sc_ld (j := 2) (i := i) (k0 := 1) (k4 := 0) hx hb hX hbl hL hH.2.2.2 hl rfl rfl (by omega) (by decide) dL_law_1157 dL_law_1158 dL_law_1160 dL_law_1161 dL_law_1162 ?_
  refine lv_aload_n hx hb dL_law_1163 rfl (lv_at hl 4 rfl) ?_
  refine L_call (n := 4) S C0 hH hA gL_law_L_way rfl ⟨by decide, by decide, by decide +kernel⟩ (by decide) hRm rfl hl.1 rfl hR dL_law_1164 (fun H locs hH => ?_)
  refine lv_istore (lv' := [(5, .int k), (4, .int (nI i)), (0, .ref b), (1, .ref (aX 0)), (2, .ref (aM 0)), (3, .ref o)]) hx hb dL_law_1167 hl (by decide) rfl (fun ls hl => ?_)
  refine lv_aload_n hx hb dL_law_1169 rfl (lv_at hl 4 rfl) ?_
  refine sc_ld (j := 1) (i := i) (k0 := 2) (k4 := 1) hx hb hX hbl hL hH.2.2.2 hl rfl rfl (by omega) (by decide) dL_law_1170 dL_law_1171 dL_law_1173 dL_law_1174 dL_law_1175 ?_
  refine sc_ld (j := 2) (i := i) (k0 := 2) (k4 := 1) hx hb hX hbl hL hH.2.2.2 hl rfl rfl (by omega) (by decide) dL_law_1176 dL_law_1177 dL_law_1179 dL_law_1180 dL_law_1181 ?_
  refine M_calli (As := [.int (xs (i + 1)), .int (xs (i + 2))]) (rest := []) S C0 hH (c_X6_way l D cI aM H.size μ (xs (i + 1)) (xs (i + 2)) (p_way (st := xs (i + 1)) (ot := xs (i + 2)) h).2.2.2) (cwV 2 hts gL_law_X6_way rfl rfl rfl (by decide +kernel) ⟨Nat.le_trans (Nat.le_of_ble_eq_true rfl) hRm.1, Nat.le_trans (Nat.le_of_ble_eq_true rfl) hRm.2⟩) rfl hl.1 rfl (Nat.le_of_ble_eq_true rfl) hR dL_law_1182 (fun H locs hH => ?_)
  refine lv_istore (lv' := [(6, .int (r_X6_way μ (xs (i + 1)) (xs (i + 2)))), (5, .int k), (4, .int (nI i)), (0, .ref b), (1, .ref (aX 0)), (2, .ref (aM 0)), (3, .ref o)]) hx hb dL_law_1185 hl (by decide) rfl (fun ls hl => ?_)
  refine lv_aload_n hx hb dL_law_1187 rfl (lv_at hl 5 rfl) ?_
  refine M_calli (As := []) (rest := []) S C0 hH (c_X6_thrown l D cI aM H.size (s_X6_way μ (xs (i + 1)) (xs (i + 2)))) (cwV 0 hts gL_law_X6_thrown rfl rfl rfl (by decide +kernel) ⟨Nat.le_trans (Nat.le_of_ble_eq_true rfl) hRm.1, Nat.le_trans (Nat.le_of_ble_eq_true rfl) hRm.2⟩) rfl hl.1 rfl (Nat.le_of_ble_eq_true rfl) hR dL_law_1188 (fun H locs hH => ?_)
  refine lv_iload hx hb dL_law_1191 (lv_at hl 1 rfl) ?_
  refine lv_icmp_eq (tgt := 1198) hx hb dL_law_1193 (by decide) (fun _ => ?_) (fun z => absurd (thr_eq e0) z)
  refine lv_iload hx hb dL_law_1198 (lv_at hl 1 rfl) ?_
  refine lv_if_ne (tgt := 1215) hx hb dL_law_1200 (by decide) (fun _ => ?_) (fun z => ?_)
  · refine lv_goto (tgt := 1244) hx hb dL_law_1215 (by decide) ?_
    exact kk _ _ _ _ _ _ _ hm hH ⟨hl.1, hl.2.1, fun q hq => hl.2.2 q (List.mem_cons_of_mem _ (List.mem_cons_of_mem _ (hq)))⟩
  · refine lv_aload_n hx hb dL_law_1203 rfl (lv_at hl 6 rfl) ?_
    refine lv_iconst (v := 0) hx hb dL_law_1204 (by decide) ?_
    refine o_ald hx hb C0 hH dL_law_1205 ?_
    refine lv_iload hx hb dL_law_1206 (lv_at hl 0 rfl) ?_
    refine lv_i2l hx hb dL_law_1208 rfl ?_
    refine l_cmpE hx hb (er z) dL_law_1209 ?_
    refine lv_if_eq (tgt := 1215) hx hb dL_law_1210 (by decide) (fun _ => ?_) (fun q => absurd rfl q)
    refine lv_goto (tgt := 1244) hx hb dL_law_1215 (by decide) ?_
    exact kk _ _ _ _ _ _ _ hm hH ⟨hl.1, hl.2.1, fun q hq => hl.2.2 q (List.mem_cons_of_mem _ (List.mem_cons_of_mem _ (hq)))⟩
theorem k_plan (S : CallFix p m c cL_law 7 s args wsL_law RL) (C0 : LC l D cI cJ aX aM o s) (hX : va_X b L xs s s.heap) (hbl : b < s.heap.size) (hL : L ≤ 2560) (hi : i + 5 ≤ L) (hRm : 11 ≤ R.frames ∧ 432 ≤ R.locals) (hR : cells + 1 ≤ R.cells ∧ slots + 6 ≤ R.slots) (h : MI σ μ n) (hH : LH D cI cJ aX aM o s σ μ f H locs) (hl : lv_has ls 7 [(4, .int (nI i)), (0, .ref b), (1, .ref (aX 0)), (2, .ref (aM 0)), (3, .ref o)])
    (kk : ∀ (H1 : Heap) (locs1 : List Loc) (σ1 μ1 : Sg) (f1 : Nat → Int64) (n1 : Nat) (ls1 : Array Slot), MI σ1 μ1 n1 → LH D cI cJ aX aM o s σ1 μ1 f1 H1 locs1 → lv_has ls1 7 [(4, .int (nI i)), (0, .ref b), (1, .ref (aX 0)), (2, .ref (aM 0)), (3, .ref o)] → W p l e R s m args below meth c H1 locs1 (cells + 1) (slots + 6) Q (F0 m 1244 ls1 [])) : W p l e R s m args below meth c H locs cells slots Q (F0 m 1218 ls []) := by
  have hx := S.1
  have hb := S.2.1
  have hts := S.2.2.2.2
  refine lv_aload_n hx hb dL_law_1218 rfl (lv_at hl 2 rfl) ?_
  refine X_calli (As := []) (rest := []) S C0 hH (c_X5_plan l D cI aX H.size σ) (cwV 0 hts gL_law_X5_plan rfl rfl rfl (by decide +kernel) ⟨Nat.le_trans (Nat.le_of_ble_eq_true rfl) hRm.1, Nat.le_trans (Nat.le_of_ble_eq_true rfl) hRm.2⟩) rfl hl.1 rfl (Nat.le_of_ble_eq_true rfl) ⟨by omega, by omega⟩ dL_law_1219 (fun H locs hH => ?_)
  refine lv_aload_n hx hb dL_law_1222 rfl (lv_at hl 3 rfl) ?_
  refine M_calli (As := []) (rest := [.int (r_X5_plan σ)]) S C0 hH (c_X6_plan l D cI aM H.size μ n (lt_n h) (p_plan h).1) (cwV 0 hts gL_law_X6_plan rfl rfl rfl (by decide +kernel) ⟨Nat.le_trans (Nat.le_of_ble_eq_true rfl) hRm.1, Nat.le_trans (Nat.le_of_ble_eq_true rfl) hRm.2⟩) rfl hl.1 rfl (Nat.le_of_ble_eq_true rfl) ⟨by omega, by omega⟩ dL_law_1223 (fun H locs hH => ?_)
  have hm := (p_plan h).2.2
  refine lv_icmp_eq (tgt := 1244) hx hb dL_law_1226 (by decide) (fun _ => ?_) (fun z => absurd (p_plan h).2.1 z)
  exact W.widen (k := cells + 1) (n := slots + 6) (by omega) (by omega) (kk _ _ _ _ _ _ _ hm hH hl)
theorem k_agrees (S : CallFix p m c cL_law 7 s args wsL_law RL) (C0 : LC l D cI cJ aX aM o s) (hX : va_X b L xs s s.heap) (hbl : b < s.heap.size) (hL : L ≤ 2560) (hi : i + 5 ≤ L) (hRm : 11 ≤ R.frames ∧ 432 ≤ R.locals) (hR : cells + 1 ≤ R.cells ∧ slots + 6 ≤ R.slots) (h : MI σ μ n) (hH : LH D cI cJ aX aM o s σ μ f H locs) (hl : lv_has ls 7 [(4, .int (nI i)), (0, .ref b), (1, .ref (aX 0)), (2, .ref (aM 0)), (3, .ref o)])
    (kk : ∀ (H1 : Heap) (locs1 : List Loc) (σ1 μ1 : Sg) (f1 : Nat → Int64) (n1 : Nat) (ls1 : Array Slot), MI σ1 μ1 n1 → LH D cI cJ aX aM o s σ1 μ1 f1 H1 locs1 → lv_has ls1 7 [(4, .int (nI i)), (0, .ref b), (1, .ref (aX 0)), (2, .ref (aM 0)), (3, .ref o)] → W p l e R s m args below meth c H1 locs1 (cells + 1) (slots + 6) Q (F0 m 1244 ls1 [])) : W p l e R s m args below meth c H locs cells slots Q (F0 m 1231 ls []) := by
  have hx := S.1
  have hb := S.2.1
  have hts := S.2.2.2.2
  refine lv_aload_n hx hb dL_law_1231 rfl (lv_at hl 2 rfl) ?_
  refine X_calli (As := []) (rest := []) S C0 hH (c_X5_agrees l D cI aX H.size σ) (cwV 0 hts gL_law_X5_agrees rfl rfl rfl (by decide +kernel) ⟨Nat.le_trans (Nat.le_of_ble_eq_true rfl) hRm.1, Nat.le_trans (Nat.le_of_ble_eq_true rfl) hRm.2⟩) rfl hl.1 rfl (Nat.le_of_ble_eq_true rfl) ⟨by omega, by omega⟩ dL_law_1232 (fun H locs hH => ?_)
  refine lv_aload_n hx hb dL_law_1235 rfl (lv_at hl 3 rfl) ?_
  refine M_calli (As := []) (rest := [.int (r_X5_agrees σ)]) S C0 hH (c_X6_agrees l D cI aM H.size μ) (cwV 0 hts gL_law_X6_agrees rfl rfl rfl (by decide +kernel) ⟨Nat.le_trans (Nat.le_of_ble_eq_true rfl) hRm.1, Nat.le_trans (Nat.le_of_ble_eq_true rfl) hRm.2⟩) rfl hl.1 rfl (Nat.le_of_ble_eq_true rfl) ⟨by omega, by omega⟩ dL_law_1236 (fun H locs hH => ?_)
  have hm := (p_agrees h).2
  refine lv_icmp_eq (tgt := 1244) hx hb dL_law_1239 (by decide) (fun _ => ?_) (fun z => absurd (p_agrees h).1 z)
  exact W.widen (k := cells + 1) (n := slots + 6) (by omega) (by omega) (kk _ _ _ _ _ _ _ hm hH hl)
end LCASE
