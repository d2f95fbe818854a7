-- the law's loop
section LLOOP
variable {p : Program} {l : Launch} {e : Env} {R : Room} {s : State} {m : MethodId} {args : Array Value} {below : List Frame} {meth : Method} {c : Code} {Q : State → Prop}
variable {D : va_G} {cI cJ : ClassId} {aX aM : Nat → Nat} {o b L : Nat} {xs : Nat → Int32}
theorem sw_19 {v : Int} (h1 : ¬ v < 0) (h2 : ¬ 18 < v) : v = 0 ∨ v = 1 ∨ v = 2 ∨ v = 3 ∨ v = 4 ∨ v = 5 ∨ v = 6 ∨ v = 7 ∨ v = 8 ∨ v = 9 ∨ v = 10 ∨ v = 11 ∨ v = 12 ∨ v = 13 ∨ v = 14 ∨ v = 15 ∨ v = 16 ∨ v = 17 ∨ v = 18 := by omega
/-- the loop's test -/
theorem l_test {i L : Nat} (hi : i ≤ L + 4) (hL : L ≤ 2560) : (nI L - nI 5 < nI i ↔ ¬ i + 5 ≤ L) := by
  have e1 : (nI i).toInt = (i : Int) := nI_toInt (by omega)
  have e2 : (nI L).toInt = (L : Int) := nI_toInt (by omega)
  have e3 : (nI 5).toInt = (5 : Int) := nI_toInt (by omega)
  have e4 : (nI L - nI 5).toInt = (L : Int) - 5 := by
    rw [Int32.toInt_sub, e2, e3]
    exact Int.bmod_eq_of_le (by omega) (by omega)
  rw [Int32.lt_iff_toInt_lt, e1, e4]
  omega
set_option maxHeartbeats 4000000 in
theorem law_loop {KC KS : Nat} (S : CallFix p m c cL_law 7 s args wsL_law RL) (C0 : LC l D cI cJ aX aM o s) (hX : va_X b L xs s s.heap) (hbl : b < s.heap.size) (hL : L ≤ 2560) (hRm : 11 ≤ R.frames ∧ 432 ≤ R.locals) (hK : KC ≤ R.cells ∧ KS ≤ R.slots)
    (kE : ∀ (H1 : Heap) (locs1 : List Loc) (ls1 : Array Slot) (cells1 slots1 : Nat), va_S (AN s) s.heap H1 locs1 → cells1 ≤ KC → slots1 ≤ KS → W p l e R s m args below meth c H1 locs1 cells1 slots1 Q (F0 m 1250 ls1 [])) :
    ∀ (N i cells slots n : Nat) (σ μ : Sg) (f : Nat → Int64) (H : Heap) (locs : List Loc) (ls : Array Slot), L < i + 5 * (N + 1) → i ≤ L + 4 → cells + N ≤ KC → slots + 6 * N ≤ KS → MI σ μ n → LH D cI cJ aX aM o s σ μ f H locs →
      lv_has ls 7 [(4, .int (nI i)), (0, .ref b), (1, .ref (aX 0)), (2, .ref (aM 0)), (3, .ref o)] → W p l e R s m args below meth c H locs cells slots Q (F0 m 23 ls []) := by
  have hx := S.1
  have hb := S.2.1
  intro N
  induction N with
  | zero =>
    intro i cells slots n σ μ f H locs ls hN hi hc hs h hH hl
    refine lv_iload hx hb dL_law_23 (lv_at hl 0 rfl) ?_
    refine lv_aload_n hx hb dL_law_25 rfl (lv_at hl 1 rfl) ?_
    refine va_slen hx hb hX hbl (fun z => absurd hbl (Nat.not_lt.mpr z)) hH.2.2.2 dL_law_26 ?_
    refine lv_iconst (v := nI 5) hx hb dL_law_27 (by decide) ?_
    refine lv_isub hx hb dL_law_28 ?_
    refine lv_icmp_gt (tgt := 1250) hx hb dL_law_29 (by decide) (fun _ => ?_) (fun z => ?_)
    · exact kE H locs ls cells slots hH.2.2.2 (by omega) (by omega)
    · exact absurd ((l_test hi hL).mpr (by omega)) z
  | succ N ih =>
    intro i cells slots n σ μ f H locs ls hN hi hc hs h hH hl
    refine lv_iload hx hb dL_law_23 (lv_at hl 0 rfl) ?_
    refine lv_aload_n hx hb dL_law_25 rfl (lv_at hl 1 rfl) ?_
    refine va_slen hx hb hX hbl (fun z => absurd hbl (Nat.not_lt.mpr z)) hH.2.2.2 dL_law_26 ?_
    refine lv_iconst (v := nI 5) hx hb dL_law_27 (by decide) ?_
    refine lv_isub hx hb dL_law_28 ?_
    refine lv_icmp_gt (tgt := 1250) hx hb dL_law_29 (by decide) (fun _ => ?_) (fun z => ?_)
    · exact kE H locs ls cells slots hH.2.2.2 (by omega) (by omega)
    have hi5 : i + 5 ≤ L := by
      by_cases q : i + 5 ≤ L
      · exact q
      · exact absurd ((l_test hi hL).mpr q) z
    have kn : ∀ (H1 : Heap) (locs1 : List Loc) (σ1 μ1 : Sg) (f1 : Nat → Int64) (n1 : Nat) (ls1 : Array Slot), MI σ1 μ1 n1 → LH D cI cJ aX aM o s σ1 μ1 f1 H1 locs1 → lv_has ls1 7 [(4, .int (nI i)), (0, .ref b), (1, .ref (aX 0)), (2, .ref (aM 0)), (3, .ref o)] → W p l e R s m args below meth c H1 locs1 (cells + 1) (slots + 6) Q (F0 m 1244 ls1 []) := by
      intro H1 locs1 σ1 μ1 f1 n1 ls1 hm1 hH1 hl1
      refine lv_iinc (k := 0) (v := nI (i + 5)) (lv' := [(4, .int (nI (i + 5))), (0, .ref b), (1, .ref (aX 0)), (2, .ref (aM 0)), (3, .ref o)]) hx hb dL_law_1244 hl1 rfl (nI_add i 5) (by decide) rfl (fun ls2 hl2 => ?_)
      refine lv_goto (tgt := 23) hx hb dL_law_1247 (by decide) ?_
      exact ih (i + 5) (cells + 1) (slots + 6) n1 σ1 μ1 f1 H1 locs1 ls2 (by omega) (by omega) (by omega) (by omega) hm1 hH1 hl2
    have hR : cells + 1 ≤ R.cells ∧ slots + 6 ≤ R.slots := ⟨by omega, by omega⟩
    refine sc_ld0 (i := i) (k0 := 1) (k4 := 0) hx hb hX hbl hL hH.2.2.2 hl rfl rfl (by omega) dL_law_32 dL_law_33 dL_law_35 ?_
    refine lv_bipush (v := 31) hx hb dL_law_36 (by decide) ?_
    refine lv_iand hx hb dL_law_38 ?_
    generalize xs i &&& 31 = w
    by_cases ho : w.toInt < 0 ∨ 18 < w.toInt
    · refine lv_tableOut (tgt := 1244) hx hb dL_law_39 ho (by decide) ?_
      exact W.widen (k := cells + 1) (n := slots + 6) (by omega) (by omega) (kn H locs σ μ f n ls h hH hl)
    have h1 : ¬ w.toInt < 0 := fun q => ho (Or.inl q)
    have h2 : ¬ 18 < w.toInt := fun q => ho (Or.inr q)
    rcases sw_19 h1 h2 with hv | hv | hv | hv | hv | hv | hv | hv | hv | hv | hv | hv | hv | hv | hv | hv | hv | hv | hv
    · exact lv_tableIn (off := 89) (tgt := 128) hx hb dL_law_39 h1 h2 (by rw [hv]; rfl) (by decide) (k_lies S C0 hX hbl hL hi5 hRm hR h hH hl kn)
    · exact lv_tableIn (off := 161) (tgt := 200) hx hb dL_law_39 h1 h2 (by rw [hv]; rfl) (by decide) (k_pass S C0 hX hbl hL hi5 hRm hR h hH hl kn)
    · exact lv_tableIn (off := 217) (tgt := 256) hx hb dL_law_39 h1 h2 (by rw [hv]; rfl) (by decide) (k_docks S C0 hX hbl hL hi5 hRm hR h hH hl kn)
    · exact lv_tableIn (off := 265) (tgt := 304) hx hb dL_law_39 h1 h2 (by rw [hv]; rfl) (by decide) (k_put S C0 hX hbl hL hi5 hRm hR h hH hl kn)
    · exact lv_tableIn (off := 340) (tgt := 379) hx hb dL_law_39 h1 h2 (by rw [hv]; rfl) (by decide) (k_take S C0 hX hbl hL hi5 hRm hR h hH hl kn)
    · exact lv_tableIn (off := 403) (tgt := 442) hx hb dL_law_39 h1 h2 (by rw [hv]; rfl) (by decide) (k_unlocked S C0 hX hbl hL hi5 hRm hR h hH hl kn)
    · exact lv_tableIn (off := 490) (tgt := 529) hx hb dL_law_39 h1 h2 (by rw [hv]; rfl) (by decide) (k_locked S C0 hX hbl hL hi5 hRm hR h hH hl kn)
    · exact lv_tableIn (off := 577) (tgt := 616) hx hb dL_law_39 h1 h2 (by rw [hv]; rfl) (by decide) (k_faulty S C0 hX hbl hL hi5 hRm hR h hH hl kn)
    · exact lv_tableIn (off := 664) (tgt := 703) hx hb dL_law_39 h1 h2 (by rw [hv]; rfl) (by decide) (k_mend S C0 hX hbl hL hi5 hRm hR h hH hl kn)
    · exact lv_tableIn (off := 727) (tgt := 766) hx hb dL_law_39 h1 h2 (by rw [hv]; rfl) (by decide) (k_price S C0 hX hbl hL hi5 hRm hR h hH hl kn)
    · exact lv_tableIn (off := 763) (tgt := 802) hx hb dL_law_39 h1 h2 (by rw [hv]; rfl) (by decide) (k_promise S C0 hX hbl hL hi5 hRm hR h hH hl kn)
    · exact lv_tableIn (off := 838) (tgt := 877) hx hb dL_law_39 h1 h2 (by rw [hv]; rfl) (by decide) (k_cycle S C0 hX hbl hL hi5 hRm hR h hH hl kn)
    · exact lv_tableIn (off := 906) (tgt := 945) hx hb dL_law_39 h1 h2 (by rw [hv]; rfl) (by decide) (k_station S C0 hX hbl hL hi5 hRm hR h hH hl kn)
    · exact lv_tableIn (off := 974) (tgt := 1013) hx hb dL_law_39 h1 h2 (by rw [hv]; rfl) (by decide) (k_rider S C0 hX hbl hL hi5 hRm hR h hH hl kn)
    · exact lv_tableIn (off := 1042) (tgt := 1081) hx hb dL_law_39 h1 h2 (by rw [hv]; rfl) (by decide) (k_odd S C0 hX hbl hL hi5 hRm hR h hH hl kn)
    · exact lv_tableIn (off := 1055) (tgt := 1094) hx hb dL_law_39 h1 h2 (by rw [hv]; rfl) (by decide) (k_nearest S C0 hX hbl hL hi5 hRm hR h hH hl kn)
    · exact lv_tableIn (off := 1111) (tgt := 1150) hx hb dL_law_39 h1 h2 (by rw [hv]; rfl) (by decide) (k_way S C0 hX hbl hL hi5 hRm hR h hH hl kn)
    · exact lv_tableIn (off := 1179) (tgt := 1218) hx hb dL_law_39 h1 h2 (by rw [hv]; rfl) (by decide) (k_plan S C0 hX hbl hL hi5 hRm hR h hH hl kn)
    · exact lv_tableIn (off := 1192) (tgt := 1231) hx hb dL_law_39 h1 h2 (by rw [hv]; rfl) (by decide) (k_agrees S C0 hX hbl hL hi5 hRm hR h hH hl kn)
end LLOOP
