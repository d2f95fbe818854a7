set_option maxRecDepth 100000 in
theorem bc_dec : ∀ m, m < 1024 → ((r_J6_bitCount_0f7a4 (fun _ _ => 0) (nI m) < 2) ↔ (itn (fun (i : Nat) (x : Int32) => x + (((nI m) >>> ((nI i) &&& 31)) &&& 1)) 10 0 ≤ 1)) := by decide +kernel
theorem q_blocked {σ μ : Sg} {w : Int32} {b cy : Nat} (h : QQ σ μ w) (hi : IQ σ b) (hc : cy < 30) : r_X0_isBlocked σ (nI cy) = r_X6_isBlocked μ (nI cy) := by
  have ec : (nI cy).toNatClampNeg = cy := nI_clamp (by omega)
  obtain ⟨m, hm, em⟩ := hi.2.2.1 cy hc
  have e18 := h.2.2.2.2.2.2.1 cy hc
  have hd := bc_dec m hm
  have e2 : itn (st_X6_isBlocked_4 μ (nI cy)) 10 0 = itn (fun (i : Nat) (x : Int32) => x + (((nI m) >>> ((nI i) &&& 31)) &&& 1)) 10 0 := by
    have e3 : st_X6_isBlocked_4 μ (nI cy) = fun (i : Nat) (x : Int32) => x + (((nI m) >>> ((nI i) &&& 31)) &&& 1) := by
      funext i x
      unfold st_X6_isBlocked_4
      rw [ec, ← e18, em]
    rw [e3]
  have e4 : r_J6_bitCount_0f7a4 σ (nI m) = r_J6_bitCount_0f7a4 (fun _ _ => 0) (nI m) := rfl
  unfold r_X0_isBlocked r_X6_isBlocked
  rw [ec, em, e2, e4]
  by_cases q : r_J6_bitCount_0f7a4 (fun _ _ => 0) (nI m) < 2
  · rw [if_pos q, if_pos (hd.mp q)]
  · rw [if_neg q, if_neg (fun z => q (hd.mpr z))]
