theorem lN_lt63 {a b : Nat} (ha : a < 2 ^ 63) (hb : b < 2 ^ 63) : lN a < lN b ↔ a < b := by
  rw [Int64.lt_iff_toInt_lt, pf_lI ha, pf_lI hb]; omega
theorem lN_le63 {a b : Nat} (ha : a < 2 ^ 63) (hb : b < 2 ^ 63) : lN a ≤ lN b ↔ a ≤ b := by
  rw [Int64.le_iff_toInt_le, pf_lI ha, pf_lI hb]; omega
theorem lN_eq63 {a b : Nat} (ha : a < 2 ^ 63) (hb : b < 2 ^ 63) : lN a = lN b ↔ a = b := by
  rw [← Int64.toInt_inj, pf_lI ha, pf_lI hb]; omega
def pw (s : Nat) : UInt64 := UInt64.ofNat ((1023 + s) * 2 ^ 52)
theorem pw_mul' : ∀ s, s < 60 → FP.dmul 4611686018427387904 (pw s) = pw (s + 1) := by decide +kernel
theorem pw_mul (s : Nat) (h : s < 60) : FP.dmul 4611686018427387904 (pw s) = pw (s + 1) := pw_mul' s h
theorem pw_l2d' : ∀ s, s < 60 → FP.l2d (lN (2 ^ s)) = pw s := by decide +kernel
theorem pw_l2d (s : Nat) (h : s < 60) : FP.l2d (lN (2 ^ s)) = pw s := pw_l2d' s h
theorem pw_nat {s : Nat} (h : s ≤ 60) : (pw s).toNat = (1023 + s) * 2 ^ 52 := by
  unfold pw
  rw [UInt64.toNat_ofNat', Nat.mod_eq_of_lt (by omega)]
theorem pw_n64 {s : Nat} (h : s ≤ 60) : vf_n64 (pw s) := n64_of (by rw [pw_nat h]; omega)
theorem rt_mag (x : Int64) {s : Nat} (h : s ≤ 60) : (FP.ddiv (FP.l2d x) (pw s)).toNat % 2 ^ 63 < 1089 * 2 ^ 52 :=
  Jvm.FP.Core.ddiv_mag (K := 1088) (L := 1023) (Jvm.FP.Core.l2d_mag x) (by rw [pw_nat h]; omega) (by rw [pw_nat h]; omega) (by decide) (by decide)
theorem rt_nan (x : Int64) {s : Nat} (h : s ≤ 60) : vf_n64 (FP.ddiv (FP.l2d x) (pw s)) := n64_of (Nat.lt_trans (rt_mag x h) (by decide))
/-- the root of n as the nearest double -/
def isRt (n : Nat) (v : UInt64) : Prop := ∃ s m, s ≤ 52 ∧ 2 ^ 52 ≤ m ∧ m < 2 ^ 53 ∧ m * m ≤ n * 4 ^ s ∧ n * 4 ^ s < (m + 1) * (m + 1) ∧ v = FP.ddiv (FP.l2d (lN (m + (if m < n * 4 ^ s - m * m then 1 else 0)))) (pw s)
theorem rt_s {n s m s' m' : Nat} (h1 : 2 ^ 52 ≤ m) (h3 : m * m ≤ n * 4 ^ s) (h2 : m' < 2 ^ 53) (h4 : n * 4 ^ s' < (m' + 1) * (m' + 1)) (q : s < s') : False := by
  have a : 2 ^ 52 * 2 ^ 52 ≤ n * 4 ^ s := Nat.le_trans (Nat.mul_le_mul h1 h1) h3
  have b : 4 ^ (s + 1) ≤ 4 ^ s' := Nat.pow_le_pow_right (by decide) q
  have c : n * 4 ^ (s + 1) ≤ n * 4 ^ s' := Nat.mul_le_mul_left n b
  have e : n * 4 ^ (s + 1) = 4 * (n * 4 ^ s) := by rw [Nat.pow_succ, ← Nat.mul_assoc, Nat.mul_comm]
  have d : (m' + 1) * (m' + 1) ≤ 2 ^ 53 * 2 ^ 53 := Nat.mul_le_mul (by omega) (by omega)
  rw [e] at c
  generalize n * 4 ^ s = x at *
  generalize n * 4 ^ s' = y at *
  generalize (m' + 1) * (m' + 1) = z at *
  omega
theorem rt_m {N m m' : Nat} (h3 : m * m ≤ N) (h4 : N < (m' + 1) * (m' + 1)) : m ≤ m' := by
  rcases Nat.lt_or_ge m' m with q | q
  · have := Nat.mul_le_mul (show m' + 1 ≤ m from q) (show m' + 1 ≤ m from q)
    omega
  · exact q
theorem isRt_u {n : Nat} {v v' : UInt64} (h : isRt n v) (h' : isRt n v') : v = v' := by
  obtain ⟨s, m, hs, h1, h2, h3, h4, rfl⟩ := h
  obtain ⟨s', m', hs', h1', h2', h3', h4', rfl⟩ := h'
  have es : s = s' := by
    rcases Nat.lt_trichotomy s s' with q | q | q
    · exact (rt_s h1 h3 h2' h4' q).elim
    · exact q
    · exact (rt_s h1' h3' h2 h4 q).elim
  subst es
  have em : m = m' := Nat.le_antisymm (rt_m h3 h4') (rt_m h3' h4)
  subst em
  rfl
noncomputable def rV (n : Nat) : UInt64 := if n = 0 then 0 else @Classical.epsilon UInt64 ⟨0⟩ (isRt n)
theorem rV_of {n : Nat} {v : UInt64} (hn : n ≠ 0) (h : isRt n v) : rV n = v := by
  unfold rV
  rw [if_neg hn]
  exact isRt_u (Classical.epsilon_spec ⟨v, h⟩) h
theorem sq_ex : ∀ N : Nat, ∃ m, m * m ≤ N ∧ N < (m + 1) * (m + 1) := by
  intro N
  induction N with
  | zero => exact ⟨0, by decide, by decide⟩
  | succ N ih =>
    obtain ⟨m, h1, h2⟩ := ih
    by_cases h : N + 1 < (m + 1) * (m + 1)
    · exact ⟨m, by omega, h⟩
    · have e : (m + 1 + 1) * (m + 1 + 1) = (m + 1) * (m + 1) + (2 * m + 3) := by grind
      exact ⟨m + 1, by omega, by rw [e]; omega⟩
theorem e_ex {n : Nat} (h0 : 0 < n) (hn : n < 19603) : ∃ e, e ≤ 7 ∧ 4 ^ e ≤ n ∧ n < 4 ^ (e + 1) := by
  by_cases h1 : n < 4
  · exact ⟨0, by decide, by omega, by omega⟩
  by_cases h2 : n < 16
  · exact ⟨1, by decide, by omega, by omega⟩
  by_cases h3 : n < 64
  · exact ⟨2, by decide, by omega, by omega⟩
  by_cases h4 : n < 256
  · exact ⟨3, by decide, by omega, by omega⟩
  by_cases h5 : n < 1024
  · exact ⟨4, by decide, by omega, by omega⟩
  by_cases h6 : n < 4096
  · exact ⟨5, by decide, by omega, by omega⟩
  by_cases h7 : n < 16384
  · exact ⟨6, by decide, by omega, by omega⟩
  exact ⟨7, by decide, by omega, by omega⟩
theorem e_lo {n e : Nat} (he : e ≤ 7) (h : 4 ^ e ≤ n) : 2 ^ 52 * 2 ^ 52 ≤ n * 4 ^ (52 - e) := by
  have h1 : 4 ^ e * 4 ^ (52 - e) ≤ n * 4 ^ (52 - e) := Nat.mul_le_mul_right _ h
  rw [← Nat.pow_add, show e + (52 - e) = 52 by omega] at h1
  exact h1
theorem e_hi {n e : Nat} (he : e ≤ 7) (h : n < 4 ^ (e + 1)) : n * 4 ^ (52 - e) < 2 ^ 53 * 2 ^ 53 := by
  have h1 : n * 4 ^ (52 - e) < 4 ^ (e + 1) * 4 ^ (52 - e) := Nat.mul_lt_mul_of_pos_right h (Nat.pow_pos (by decide))
  rw [← Nat.pow_add, show e + 1 + (52 - e) = 53 by omega] at h1
  exact h1
theorem m_lo {m N : Nat} (h : 2 ^ 52 * 2 ^ 52 ≤ N) (h4 : N < (m + 1) * (m + 1)) : 2 ^ 52 ≤ m := by
  rcases Nat.lt_or_ge m (2 ^ 52) with q | q
  · have := Nat.mul_le_mul (show m + 1 ≤ 2 ^ 52 from q) (show m + 1 ≤ 2 ^ 52 from q)
    omega
  · exact q
theorem m_hi {m N : Nat} (h : N < 2 ^ 53 * 2 ^ 53) (h3 : m * m ≤ N) : m < 2 ^ 53 := by
  rcases Nat.lt_or_ge m (2 ^ 53) with q | q
  · exact q
  · have := Nat.mul_le_mul q q
    omega
theorem rV_mag {n : Nat} (hn : n < 19603) : (rV n).toNat % 2 ^ 63 < 1089 * 2 ^ 52 := by
  by_cases h0 : n = 0
  · subst h0; unfold rV; rw [if_pos rfl]; decide
  · obtain ⟨e, he, h1, h2⟩ := e_ex (Nat.pos_of_ne_zero h0) hn
    obtain ⟨m, h3, h4⟩ := sq_ex (n * 4 ^ (52 - e))
    have h5 := m_lo (e_lo he h1) h4
    have h6 := m_hi (e_hi he h2) h3
    rw [rV_of h0 ⟨52 - e, m, by omega, h5, h6, h3, h4, rfl⟩]
    exact rt_mag _ (by omega)
/-- the class's root: place i -/
def nAt (n i : Nat) : Nat := if i ≤ 8 then n / 4 ^ (8 - i) else n * 4 ^ (i - 8)
def prI (n i : Nat) : Nat := if i < 8 then n / 4 ^ (7 - i) % 4 else 0
def shI (i : Nat) : Int32 := 14 - nI (2 * i)
def LI (n i rt re : Nat) : Prop := i ≤ 60 ∧ nAt n i = rt * rt + re ∧ re ≤ 2 * rt ∧ rt < 2 ^ 53
theorem pr_lt (n i : Nat) : prI n i < 4 := by unfold prI; split <;> omega
theorem pr_0 {n i : Nat} (h : ¬ i < 8) : prI n i = 0 := if_neg h
theorem shI_int {i : Nat} (h : i < 100) : (shI i).toInt = 14 - 2 * (i : Int) := by
  unfold shI
  have e : (nI (2 * i)).toInt = ((2 * i : Nat) : Int) := nI_toInt (by omega)
  have e2 : (14 : Int32).toInt = 14 := by decide
  rw [fb_subI (by rw [e, e2]; omega) (by rw [e, e2]; omega), e, e2]
  omega
theorem shI_s (i : Nat) : shI i + (-2) = shI (i + 1) := by
  unfold shI
  rw [show 2 * (i + 1) = 2 * i + 1 + 1 by omega, nI_succ, nI_succ]
  grind
theorem shI_gt {i : Nat} (h : i < 60) : ¬ shI i ≤ -128 := by
  rw [Int32.le_iff_toInt_le, shI_int (by omega), show (-128 : Int32).toInt = -128 by decide]; omega
theorem shI_nneg {i : Nat} (h : i < 8) : ¬ shI i < 0 := by
  rw [Int32.lt_iff_toInt_lt, shI_int (by omega), zI]; omega
theorem shI_neg {i : Nat} (h : ¬ i < 8) (h2 : i < 60) : shI i < 0 := by
  rw [Int32.lt_iff_toInt_lt, shI_int (by omega), zI]; omega
theorem shI_pos {i : Nat} (h : i < 8) : 0 ≤ shI i := by
  rw [Int32.le_iff_toInt_le, shI_int (by omega), zI]; omega
theorem shI_npos {i : Nat} (h : ¬ i < 8) (h2 : i < 60) : ¬ 0 ≤ shI i := by
  rw [Int32.le_iff_toInt_le, shI_int (by omega), zI]; omega
theorem i_shr {n k : Nat} (hn : n < 2 ^ 31) {d : Int32} (hd : (d.toBitVec.smod 32).toNat = k) : nI n >>> d = nI (n / 2 ^ k) := by
  have hle : n / 2 ^ k ≤ n := Nat.div_le_self _ _
  apply Int32.toInt_inj.mp
  have e : (nI n >>> d).toInt = (nI n).toInt >>> k := by
    rw [← hd]
    exact BitVec.toInt_sshiftRight ..
  rw [e, Int.shiftRight_eq_div_pow, nI_toInt hn, nI_toInt (by omega)]
  rfl
theorem sh_amt : ∀ i, i < 8 → (((shI i) &&& 31).toBitVec.smod 32).toNat = 14 - 2 * i := by decide +kernel
theorem p4 (k : Nat) : 4 ^ k = 2 ^ (2 * k) := by rw [show (4 : Nat) = 2 ^ 2 from rfl, ← Nat.pow_mul]
theorem fb_and3 (x : Nat) : nI x &&& 3 = nI (x % 4) := by
  apply Int32.toBitVec_inj.mp
  show (BitVec.ofNat 32 x &&& 3#32) = BitVec.ofNat 32 (x % 4)
  apply BitVec.eq_of_toNat_eq
  have h := Nat.and_two_pow_sub_one_eq_mod (x % 2 ^ 32) 2
  rw [BitVec.toNat_and, BitVec.toNat_ofNat, BitVec.toNat_ofNat]
  show x % 2 ^ 32 &&& 3 = _
  rw [show (3 : Nat) = 2 ^ 2 - 1 from rfl, h, BitVec.toNat_ofNat]
  omega
theorem pr_eq {n i : Nat} (hn : n < 19603) (hi : i < 8) : (((nI n) >>> ((shI i) &&& 31)) &&& 3).toInt64 = lN (prI n i) := by
  have e : ∀ x : Nat, nI x &&& 3 = nI (x % 4) := fun x => by
    have h := fb_and3 x
    exact h
  rw [i_shr (by omega) (sh_amt i hi), e]
  unfold prI
  rw [if_pos hi, p4, show 2 * (7 - i) = 14 - 2 * i by omega, nI_l (by omega)]
theorem nAt_s {n i : Nat} : nAt n (i + 1) = 4 * nAt n i + prI n i := by
  unfold nAt prI
  by_cases h : i < 8
  · rw [if_pos (by omega), if_pos (by omega), if_pos h, show 8 - (i + 1) = 7 - i by omega, show 8 - i = 7 - i + 1 by omega, Nat.pow_succ, ← Nat.div_div_eq_div_mul]
    omega
  · rw [if_neg (by omega), if_neg h]
    by_cases h2 : i ≤ 8
    · obtain rfl : i = 8 := by omega
      rw [if_pos (by omega), show 8 + 1 - 8 = 1 by omega, Nat.sub_self, Nat.pow_zero, Nat.pow_one, Nat.div_one]
      omega
    · rw [if_neg h2, show i + 1 - 8 = i - 8 + 1 by omega, Nat.pow_succ, ← Nat.mul_assoc]
      omega
theorem li_0 {n : Nat} (hn : n < 19603) : LI n 0 0 0 := by
  refine ⟨by decide, ?_, by decide, by decide⟩
  unfold nAt
  rw [if_pos (by decide)]
  omega
theorem li_60 {n i rt re : Nat} (h0 : 0 < n) (h : LI n i rt re) (h2 : rt < 2 ^ 52) : i < 60 := by
  obtain ⟨h1, h3, h4, h5⟩ := h
  rcases Nat.lt_or_ge i 60 with q | q
  · exact q
  · obtain rfl : i = 60 := by omega
    unfold nAt at h3
    rw [if_neg (by decide)] at h3
    have a : 1 * 4 ^ (60 - 8) ≤ n * 4 ^ (60 - 8) := Nat.mul_le_mul_right _ h0
    have b : (rt + 1) * (rt + 1) ≤ 2 ^ 52 * 2 ^ 52 := Nat.mul_le_mul (by omega) (by omega)
    have c : (rt + 1) * (rt + 1) = rt * rt + 2 * rt + 1 := by grind
    omega
theorem li_s {n i rt re rt' re' : Nat} (h : LI n i rt re) (hi : i < 60) (h2 : rt < 2 ^ 52) (hs : (4 * re + prI n i < 4 * rt + 1 ∧ rt' = 2 * rt ∧ re' = 4 * re + prI n i) ∨ (4 * rt + 1 ≤ 4 * re + prI n i ∧ rt' = 2 * rt + 1 ∧ re' = 4 * re + prI n i - (4 * rt + 1))) : LI n (i + 1) rt' re' := by
  obtain ⟨h1, h3, h4, h5⟩ := h
  have hp := pr_lt n i
  unfold LI
  rw [nAt_s, h3]
  rcases hs with ⟨a, rfl, rfl⟩ | ⟨a, rfl, rfl⟩
  · have c : 2 * rt * (2 * rt) = 4 * (rt * rt) := by grind
    exact ⟨by omega, by rw [c]; omega, by omega, by omega⟩
  · have c : (2 * rt + 1) * (2 * rt + 1) = 4 * (rt * rt) + 4 * rt + 1 := by grind
    exact ⟨by omega, by rw [c]; omega, by omega, by omega⟩
theorem rt_end {n i rt re : Nat} {x : Int64} (hn : n < 19603) (h0 : 0 < n) (h : LI n i rt re) (h2 : 2 ^ 52 ≤ rt) (hx : (rt < re ∧ x = lN rt + 1) ∨ (re ≤ rt ∧ x = lN rt)) : rV (nI n).toNatClampNeg = FP.ddiv (FP.l2d x) (pw (i - 8)) := by
  obtain ⟨h1, h3, h4, h5⟩ := h
  rw [nI_clamp (by omega)]
  have hi : 8 < i := by
    rcases Nat.lt_or_ge 8 i with q | q
    · exact q
    · unfold nAt at h3
      rw [if_pos q] at h3
      have a := Nat.div_le_self n (4 ^ (8 - i))
      have b := Nat.mul_le_mul h2 h2
      omega
  have c : (rt + 1) * (rt + 1) = rt * rt + 2 * rt + 1 := by grind
  unfold nAt at h3
  rw [if_neg (by omega)] at h3
  refine rV_of (by omega) ⟨i - 8, rt, by omega, h2, h5, by omega, by omega, ?_⟩
  rw [h3, Nat.add_sub_cancel_left]
  rcases hx with ⟨a, rfl⟩ | ⟨a, rfl⟩
  · rw [if_pos a, lN_1]
  · rw [if_neg (by omega)]
    rfl
theorem nI_pos0 {n : Nat} (h : 0 < nI n) : 0 < n := by
  rcases Nat.eq_zero_or_pos n with q | q
  · subst q; exact absurd h (by decide)
  · exact q
theorem rV_0 : rV 0 = 0 := by unfold rV; rw [if_pos rfl]
theorem rV_np {n : Nat} (hn : n < 19603) (h : ¬ 0 < nI n) : rV (nI n).toNatClampNeg = 0 := by
  rcases Nat.eq_zero_or_pos n with q | q
  · subst q; exact rV_0
  · exact absurd (show (0 : Int32) < nI n from nI_lt q (by omega)) h
theorem rV_z {n : Nat} (h : nI n = 0) : rV (nI n).toNatClampNeg = 0 := by rw [h]; exact rV_0
