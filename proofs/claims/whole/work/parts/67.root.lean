-- the root, in whole numbers
theorem lN_lt63 {a b : Nat} (ha : a < 2 ^ 63) (hb : b < 2 ^ 63) : lN a < lN b ↔ a < b := by
  rw [Int64.lt_iff_toInt_lt, pf_lI ha, pf_lI hb]; omega
theorem lN_le63 {a b : Nat} (ha : a < 2 ^ 63) (hb : b < 2 ^ 63) : lN a ≤ lN b ↔ a ≤ b := by
  rw [Int64.le_iff_toInt_le, pf_lI ha, pf_lI hb]; omega
theorem lN_eq63 {a b : Nat} (ha : a < 2 ^ 63) (hb : b < 2 ^ 63) : lN a = lN b ↔ a = b := by
  rw [← Int64.toInt_inj, pf_lI ha, pf_lI hb]; omega
def pw (s : Nat) : UInt64 := UInt64.ofNat ((1023 + s) * 2 ^ 52)
theorem pw_mul' : ∀ s, s < 60 → FP.dmul 4611686018427387904 (pw s) = pw (s + 1) := by decide +kernel
theorem pw_mul (s : Nat) (h : s < 60) : FP.dmul 4611686018427387904 (pw s) = pw (s + 1) := pw_mul' s h
theorem pw_l2d' : ∀ s, s < 60 → FP.l2d (lN (2 ^ s)) = pw s := by decide +kernel
theorem pw_l2d (s : Nat) (h : s < 60) : FP.l2d (lN (2 ^ s)) = pw s := pw_l2d' s h
theorem pw_nat {s : Nat} (h : s ≤ 60) : (pw s).toNat = (1023 + s) * 2 ^ 52 := by
  unfold pw
  rw [UInt64.toNat_ofNat', Nat.mod_eq_of_lt (by omega)]
theorem pw_n64 {s : Nat} (h : s ≤ 60) : vf_n64 (pw s) := n64_of (by rw [pw_nat h]; omega)
theorem rt_mag (x : Int64) {s : Nat} (h : s ≤ 60) : (FP.ddiv (FP.l2d x) (pw s)).toNat % 2 ^ 63 < 1089 * 2 ^ 52 :=
  Jvm.FP.Core.ddiv_mag (K := 1088) (L := 1023) (Jvm.FP.Core.l2d_mag x) (by rw [pw_nat h]; omega) (by rw [pw_nat h]; omega) (by decide) (by decide)
theorem rt_nan (x : Int64) {s : Nat} (h : s ≤ 60) : vf_n64 (FP.ddiv (FP.l2d x) (pw s)) := n64_of (Nat.lt_trans (rt_mag x h) (by decide))
/-- the root of n as the nearest double -/
def isRt (n : Nat) (v : UInt64) : Prop := ∃ s m, s ≤ 52 ∧ 2 ^ 52 ≤ m ∧ m < 2 ^ 53 ∧ m * m ≤ n * 4 ^ s ∧ n * 4 ^ s < (m + 1) * (m + 1) ∧ v = FP.ddiv (FP.l2d (lN (m + (if m < n * 4 ^ s - m * m then 1 else 0)))) (pw s)
theorem rt_s {n s m s' m' : Nat} (h1 : 2 ^ 52 ≤ m) (h3 : m * m ≤ n * 4 ^ s) (h2 : m' < 2 ^ 53) (h4 : n * 4 ^ s' < (m' + 1) * (m' + 1)) (q : s < s') : False := by
  have a : 2 ^ 52 * 2 ^ 52 ≤ n * 4 ^ s := Nat.le_trans (Nat.mul_le_mul h1 h1) h3
  have b : 4 ^ (s + 1) ≤ 4 ^ s' := Nat.pow_le_pow_right (by decide) q
  have c : n * 4 ^ (s + 1) ≤ n * 4 ^ s' := Nat.mul_le_mul_left n b
  have e : n * 4 ^ (s + 1) = 4 * (n * 4 ^ s) := by rw [Nat.pow_succ, ← Nat.mul_assoc, Nat.mul_comm]
  have d : (m' + 1) * (m' + 1) ≤ 2 ^ 53 * 2 ^ 53 := Nat.mul_le_mul (by omega) (by omega)
  rw [e] at c
  generalize n * 4 ^ s = x at *
  generalize n * 4 ^ s' = y at *
  generalize (m' + 1) * (m' + 1) = z at *
  omega
theorem rt_m {N m m' : Nat} (h3 : m * m ≤ N) (h4 : N < (m' + 1) * (m' + 1)) : m ≤ m' := by
  rcases Nat.lt_or_ge m' m with q | q
  · have := Nat.mul_le_mul (show m' + 1 ≤ m from q) (show m' + 1 ≤ m from q)
    omega
  · exact q
theorem isRt_u {n : Nat} {v v' : UInt64} (h : isRt n v) (h' : isRt n v') : v = v' := by
  obtain ⟨s, m, hs, h1, h2, h3, h4, rfl⟩ := h
  obtain ⟨s', m', hs', h1', h2', h3', h4', rfl⟩ := h'
  have es : s = s' := by
    rcases Nat.lt_trichotomy s s' with q | q | q
    · exact (rt_s h1 h3 h2' h4' q).elim
    · exact q
    · exact (rt_s h1' h3' h2 h4 q).elim
  subst es
  have em : m = m' := Nat.le_antisymm (rt_m h3 h4') (rt_m h3' h4)
  subst em
  rfl
noncomputable def rV (n : Nat) : UInt64 := if n = 0 then 0 else @Classical.epsilon UInt64 ⟨0⟩ (isRt n)
theorem rV_of {n : Nat} {v : UInt64} (hn : n ≠ 0) (h : isRt n v) : rV n = v := by
  unfold rV
  rw [if_neg hn]
  exact isRt_u (Classical.epsilon_spec ⟨v, h⟩) h
theorem sq_ex : ∀ N : Nat, ∃ m, m * m ≤ N ∧ N < (m + 1) * (m + 1) := by
  intro N
  induction N with
  | zero => exact ⟨0, by decide, by decide⟩
  | succ N ih =>
    obtain ⟨m, h1, h2⟩ := ih
    by_cases h : N + 1 < (m + 1) * (m + 1)
    · exact ⟨m, by omega, h⟩
    · have e : (m + 1 + 1) * (m + 1 + 1) = (m + 1) * (m + 1) + (2 * m + 3) := by grind
      exact ⟨m + 1, by omega, by rw [e]; omega⟩
theorem e_ex {n : Nat} (h0 : 0 < n) (hn : n < 19603) : ∃ e, e ≤ 7 ∧ 4 ^ e ≤ n ∧ n < 4 ^ (e + 1) := by
  by_cases h1 : n < 4
  · exact ⟨0, by decide, by omega, by omega⟩
  by_cases h2 : n < 16
  · exact ⟨1, by decide, by omega, by omega⟩
  by_cases h3 : n < 64
  · exact ⟨2, by decide, by omega, by omega⟩
  by_cases h4 : n < 256
  · exact ⟨3, by decide, by omega, by omega⟩
  by_cases h5 : n < 1024
  · exact ⟨4, by decide, by omega, by omega⟩
  by_cases h6 : n < 4096
  · exact ⟨5, by decide, by omega, by omega⟩
  by_cases h7 : n < 16384
  · exact ⟨6, by decide, by omega, by omega⟩
  exact ⟨7, by decide, by omega, by omega⟩
theorem e_lo {n e : Nat} (he : e ≤ 7) (h : 4 ^ e ≤ n) : 2 ^ 52 * 2 ^ 52 ≤ n * 4 ^ (52 - e) := by
  have h1 : 4 ^ e * 4 ^ (52 - e) ≤ n * 4 ^ (52 - e) := Nat.mul_le_mul_right _ h
  rw [← Nat.pow_add, show e + (52 - e) = 52 by omega] at h1
  exact h1
theorem e_hi {n e : Nat} (he : e ≤ 7) (h : n < 4 ^ (e + 1)) : n * 4 ^ (52 - e) < 2 ^ 53 * 2 ^ 53 := by
  have h1 : n * 4 ^ (52 - e) < 4 ^ (e + 1) * 4 ^ (52 - e) := Nat.mul_lt_mul_of_pos_right h (Nat.pow_pos (by decide))
  rw [← Nat.pow_add, show e + 1 + (52 - e) = 53 by omega] at h1
  exact h1
theorem m_lo {m N : Nat} (h : 2 ^ 52 * 2 ^ 52 ≤ N) (h4 : N < (m + 1) * (m + 1)) : 2 ^ 52 ≤ m := by
  rcases Nat.lt_or_ge m (2 ^ 52) with q | q
  · have := Nat.mul_le_mul (show m + 1 ≤ 2 ^ 52 from q) (show m + 1 ≤ 2 ^ 52 from q)
    omega
  · exact q
theorem m_hi {m N : Nat} (h : N < 2 ^ 53 * 2 ^ 53) (h3 : m * m ≤ N) : m < 2 ^ 53 := by
  rcases Nat.lt_or_ge m (2 ^ 53) with q | q
  · exact q
  · have := Nat.mul_le_mul q q
    omega
theorem rV_mag {n : Nat} (hn : n < 19603) : (rV n).toNat % 2 ^ 63 < 1089 * 2 ^ 52 := by
  by_cases h0 : n = 0
  · subst h0; unfold rV; rw [if_pos rfl]; decide
  · obtain ⟨e, he, h1, h2⟩ := e_ex (Nat.pos_of_ne_zero h0) hn
    obtain ⟨m, h3, h4⟩ := sq_ex (n * 4 ^ (52 - e))
    have h5 := m_lo (e_lo he h1) h4
    have h6 := m_hi (e_hi he h2) h3
    rw [rV_of h0 ⟨52 - e, m, by omega, h5, h6, h3, h4, rfl⟩]
    exact rt_mag _ (by omega)
/-- the class's root: place i -/
def nAt (n i : Nat) : Nat := if i ≤ 8 then n / 4 ^ (8 - i) else n * 4 ^ (i - 8)
def prI (n i : Nat) : Nat := if i < 8 then n / 4 ^ (7 - i) % 4 else 0
def shI (i : Nat) : Int32 := 14 - nI (2 * i)
def LI (n i rt re : Nat) : Prop := i ≤ 60 ∧ nAt n i = rt * rt + re ∧ re ≤ 2 * rt ∧ rt < 2 ^ 53
theorem pr_lt (n i : Nat) : prI n i < 4 := by unfold prI; split <;> omega
theorem pr_0 {n i : Nat} (h : ¬ i < 8) : prI n i = 0 := if_neg h
theorem shI_int {i : Nat} (h : i < 100) : (shI i).toInt = 14 - 2 * (i : Int) := by
  unfold shI
  have e : (nI (2 * i)).toInt = ((2 * i : Nat) : Int) := nI_toInt (by omega)
  have e2 : (14 : Int32).toInt = 14 := by decide
  rw [fb_subI (by rw [e, e2]; omega) (by rw [e, e2]; omega), e, e2]
  omega
theorem shI_s (i : Nat) : shI i + (-2) = shI (i + 1) := by
  unfold shI
  rw [show 2 * (i + 1) = 2 * i + 1 + 1 by omega, nI_succ, nI_succ]
  grind
theorem shI_gt {i : Nat} (h : i < 60) : ¬ shI i ≤ -128 := by
  rw [Int32.le_iff_toInt_le, shI_int (by omega), show (-128 : Int32).toInt = -128 by decide]; omega
theorem shI_nneg {i : Nat} (h : i < 8) : ¬ shI i < 0 := by
  rw [Int32.lt_iff_toInt_lt, shI_int (by omega), zI]; omega
theorem shI_neg {i : Nat} (h : ¬ i < 8) (h2 : i < 60) : shI i < 0 := by
  rw [Int32.lt_iff_toInt_lt, shI_int (by omega), zI]; omega
theorem shI_pos {i : Nat} (h : i < 8) : 0 ≤ shI i := by
  rw [Int32.le_iff_toInt_le, shI_int (by omega), zI]; omega
theorem shI_npos {i : Nat} (h : ¬ i < 8) (h2 : i < 60) : ¬ 0 ≤ shI i := by
  rw [Int32.le_iff_toInt_le, shI_int (by omega), zI]; omega
theorem i_shr {n k : Nat} (hn : n < 2 ^ 31) {d : Int32} (hd : (d.toBitVec.smod 32).toNat = k) : nI n >>> d = nI (n / 2 ^ k) := by
  have hle : n / 2 ^ k ≤ n := Nat.div_le_self _ _
  apply Int32.toInt_inj.mp
  have e : (nI n >>> d).toInt = (nI n).toInt >>> k := by
    rw [← hd]
    exact BitVec.toInt_sshiftRight ..
  rw [e, Int.shiftRight_eq_div_pow, nI_toInt hn, nI_toInt (by omega)]
  rfl
theorem sh_amt : ∀ i, i < 8 → (((shI i) &&& 31).toBitVec.smod 32).toNat = 14 - 2 * i := by decide +kernel
theorem p4 (k : Nat) : 4 ^ k = 2 ^ (2 * k) := by rw [show (4 : Nat) = 2 ^ 2 from rfl, ← Nat.pow_mul]
theorem fb_and3 (x : Nat) : nI x &&& 3 = nI (x % 4) := by
  apply Int32.toBitVec_inj.mp
  show (BitVec.ofNat 32 x &&& 3#32) = BitVec.ofNat 32 (x % 4)
  apply BitVec.eq_of_toNat_eq
  have h := Nat.and_two_pow_sub_one_eq_mod (x % 2 ^ 32) 2
  rw [BitVec.toNat_and, BitVec.toNat_ofNat, BitVec.toNat_ofNat]
  show x % 2 ^ 32 &&& 3 = _
  rw [show (3 : Nat) = 2 ^ 2 - 1 from rfl, h, BitVec.toNat_ofNat]
  omega
theorem pr_eq {n i : Nat} (hn : n < 19603) (hi : i < 8) : (((nI n) >>> ((shI i) &&& 31)) &&& 3).toInt64 = lN (prI n i) := by
  have e : ∀ x : Nat, nI x &&& 3 = nI (x % 4) := fun x => by
    have h := fb_and3 x
    exact h
  rw [i_shr (by omega) (sh_amt i hi), e]
  unfold prI
  rw [if_pos hi, p4, show 2 * (7 - i) = 14 - 2 * i by omega, nI_l (by omega)]
theorem nAt_s {n i : Nat} : nAt n (i + 1) = 4 * nAt n i + prI n i := by
  unfold nAt prI
  by_cases h : i < 8
  · rw [if_pos (by omega), if_pos (by omega), if_pos h, show 8 - (i + 1) = 7 - i by omega, show 8 - i = 7 - i + 1 by omega, Nat.pow_succ, ← Nat.div_div_eq_div_mul]
    omega
  · rw [if_neg (by omega), if_neg h]
    by_cases h2 : i ≤ 8
    · obtain rfl : i = 8 := by omega
      rw [if_pos (by omega), show 8 + 1 - 8 = 1 by omega, Nat.sub_self, Nat.pow_zero, Nat.pow_one, Nat.div_one]
      omega
    · rw [if_neg h2, show i + 1 - 8 = i - 8 + 1 by omega, Nat.pow_succ, ← Nat.mul_assoc]
      omega
theorem li_0 {n : Nat} (hn : n < 19603) : LI n 0 0 0 := by
  refine ⟨by decide, ?_, by decide, by decide⟩
  unfold nAt
  rw [if_pos (by decide)]
  omega
theorem li_60 {n i rt re : Nat} (h0 : 0 < n) (h : LI n i rt re) (h2 : rt < 2 ^ 52) : i < 60 := by
  obtain ⟨h1, h3, h4, h5⟩ := h
  rcases Nat.lt_or_ge i 60 with q | q
  · exact q
  · obtain rfl : i = 60 := by omega
    unfold nAt at h3
    rw [if_neg (by decide)] at h3
    have a : 1 * 4 ^ (60 - 8) ≤ n * 4 ^ (60 - 8) := Nat.mul_le_mul_right _ h0
    have b : (rt + 1) * (rt + 1) ≤ 2 ^ 52 * 2 ^ 52 := Nat.mul_le_mul (by omega) (by omega)
    have c : (rt + 1) * (rt + 1) = rt * rt + 2 * rt + 1 := by grind
    omega
theorem li_s {n i rt re rt' re' : Nat} (h : LI n i rt re) (hi : i < 60) (h2 : rt < 2 ^ 52) (hs : (4 * re + prI n i < 4 * rt + 1 ∧ rt' = 2 * rt ∧ re' = 4 * re + prI n i) ∨ (4 * rt + 1 ≤ 4 * re + prI n i ∧ rt' = 2 * rt + 1 ∧ re' = 4 * re + prI n i - (4 * rt + 1))) : LI n (i + 1) rt' re' := by
  obtain ⟨h1, h3, h4, h5⟩ := h
  have hp := pr_lt n i
  unfold LI
  rw [nAt_s, h3]
  rcases hs with ⟨a, rfl, rfl⟩ | ⟨a, rfl, rfl⟩
  · have c : 2 * rt * (2 * rt) = 4 * (rt * rt) := by grind
    exact ⟨by omega, by rw [c]; omega, by omega, by omega⟩
  · have c : (2 * rt + 1) * (2 * rt + 1) = 4 * (rt * rt) + 4 * rt + 1 := by grind
    exact ⟨by omega, by rw [c]; omega, by omega, by omega⟩
theorem rt_end {n i rt re : Nat} {x : Int64} (hn : n < 19603) (h0 : 0 < n) (h : LI n i rt re) (h2 : 2 ^ 52 ≤ rt) (hx : (rt < re ∧ x = lN rt + 1) ∨ (re ≤ rt ∧ x = lN rt)) : rV (nI n).toNatClampNeg = FP.ddiv (FP.l2d x) (pw (i - 8)) := by
  obtain ⟨h1, h3, h4, h5⟩ := h
  rw [nI_clamp (by omega)]
  have hi : 8 < i := by
    rcases Nat.lt_or_ge 8 i with q | q
    · exact q
    · unfold nAt at h3
      rw [if_pos q] at h3
      have a := Nat.div_le_self n (4 ^ (8 - i))
      have b := Nat.mul_le_mul h2 h2
      omega
  have c : (rt + 1) * (rt + 1) = rt * rt + 2 * rt + 1 := by grind
  unfold nAt at h3
  rw [if_neg (by omega)] at h3
  refine rV_of (by omega) ⟨i - 8, rt, by omega, h2, h5, by omega, by omega, ?_⟩
  rw [h3, Nat.add_sub_cancel_left]
  rcases hx with ⟨a, rfl⟩ | ⟨a, rfl⟩
  · rw [if_pos a, lN_1]
  · rw [if_neg (by omega)]
    rfl
theorem nI_pos0 {n : Nat} (h : 0 < nI n) : 0 < n := by
  rcases Nat.eq_zero_or_pos n with q | q
  · subst q; exact absurd h (by decide)
  · exact q
theorem rV_0 : rV 0 = 0 := by unfold rV; rw [if_pos rfl]
theorem rV_np {n : Nat} (hn : n < 19603) (h : ¬ 0 < nI n) : rV (nI n).toNatClampNeg = 0 := by
  rcases Nat.eq_zero_or_pos n with q | q
  · subst q; exact rV_0
  · exact absurd (show (0 : Int32) < nI n from nI_lt q (by omega)) h
theorem rV_z {n : Nat} (h : nI n = 0) : rV (nI n).toNatClampNeg = 0 := by rw [h]; exact rV_0
/-- the reference's test of a square -/
def sqb (A B M : Nat) : Int32 := if A * A ≤ B * 2 ^ M * 2 ^ 54 then 1 else 0
theorem sq_parts {A : Nat} (hA : A < 2 ^ 54) : (2 * (A / 2 ^ 27) * (A % 2 ^ 27)) < 2 ^ 56 ∧ ((2 * (A / 2 ^ 27) * (A % 2 ^ 27)) % 2 ^ 27 * 2 ^ 27 + (A % 2 ^ 27) * (A % 2 ^ 27)) < 2 ^ 56 ∧ True ∧ True ∧
    A * A = ((A / 2 ^ 27) * (A / 2 ^ 27) + (2 * (A / 2 ^ 27) * (A % 2 ^ 27)) / 2 ^ 27 + ((2 * (A / 2 ^ 27) * (A % 2 ^ 27)) % 2 ^ 27 * 2 ^ 27 + (A % 2 ^ 27) * (A % 2 ^ 27)) / 2 ^ 54) * 2 ^ 54 + ((2 * (A / 2 ^ 27) * (A % 2 ^ 27)) % 2 ^ 27 * 2 ^ 27 + (A % 2 ^ 27) * (A % 2 ^ 27)) % 2 ^ 54 ∧
    ((A / 2 ^ 27) * (A / 2 ^ 27) + (2 * (A / 2 ^ 27) * (A % 2 ^ 27)) / 2 ^ 27 + ((2 * (A / 2 ^ 27) * (A % 2 ^ 27)) % 2 ^ 27 * 2 ^ 27 + (A % 2 ^ 27) * (A % 2 ^ 27)) / 2 ^ 54) < 2 ^ 63 ∧
    ((2 * (A / 2 ^ 27) * (A % 2 ^ 27)) % 2 ^ 27 * 2 ^ 27 + (A % 2 ^ 27) * (A % 2 ^ 27)) % 2 ^ 54 < 2 ^ 54 := by
  have hh : A / 2 ^ 27 < 2 ^ 27 := by omega
  have hl : A % 2 ^ 27 < 2 ^ 27 := by omega
  have hAe : A = 2 ^ 27 * (A / 2 ^ 27) + A % 2 ^ 27 := by omega
  generalize A / 2 ^ 27 = h at *
  generalize A % 2 ^ 27 = k at *
  have e : A * A = 2 ^ 54 * (h * h) + 2 ^ 28 * (h * k) + k * k := by rw [hAe]; grind
  have m1 := Nat.mul_le_mul (Nat.le_of_lt hh) (Nat.le_of_lt hl)
  have m2 := Nat.mul_le_mul (Nat.le_of_lt hl) (Nat.le_of_lt hl)
  have m3 := Nat.mul_le_mul (Nat.le_of_lt hh) (Nat.le_of_lt hh)
  rw [e, Nat.mul_assoc 2 h k]
  generalize h * k = p at *
  generalize k * k = q at *
  generalize h * h = r at *
  refine ⟨?_, ?_, trivial, trivial, ?_, ?_, ?_⟩
  all_goals omega
theorem sq_t1 {A U L B M : Nat} (u5 : A * A = U * 2 ^ 54 + L) (u6 : U < 2 ^ 63) (u7 : L < 2 ^ 54) (hB : B * 2 ^ M < 2 ^ 54) (h : lg_cmp (lN U) (lN (B * 2 ^ M)) < 0) : sqb A B M = 1 := by
  have h1 := (lN_lt63 u6 (by omega)).mp ((lg_cmp_lt _ _).mp h)
  unfold sqb
  rw [if_pos (by omega)]
theorem sq_f1 {A U L B M : Nat} (u5 : A * A = U * 2 ^ 54 + L) (u6 : U < 2 ^ 63) (u7 : L < 2 ^ 54) (hB : B * 2 ^ M < 2 ^ 54) (h : ¬ lg_cmp (lN U) (lN (B * 2 ^ M)) < 0) (h2 : ¬ lg_cmp (lN U) (lN (B * 2 ^ M)) = 0) : sqb A B M = 0 := by
  have h1 : ¬ U < B * 2 ^ M := fun z => h ((lg_cmp_lt _ _).mpr ((lN_lt63 u6 (by omega)).mpr z))
  have h3 : ¬ U = B * 2 ^ M := fun z => h2 ((lg_cmp_eq _ _).mpr ((lN_eq63 u6 (by omega)).mpr z))
  unfold sqb
  rw [if_neg (by omega)]
theorem sq_f2 {A U L B M : Nat} (u5 : A * A = U * 2 ^ 54 + L) (u6 : U < 2 ^ 63) (u7 : L < 2 ^ 54) (hB : B * 2 ^ M < 2 ^ 54) (h : ¬ lg_cmp (lN U) (lN (B * 2 ^ M)) < 0) (h2 : lg_cmp (lN U) (lN (B * 2 ^ M)) = 0) (h3 : ¬ lg_cmp (lN L) 0 = 0) : sqb A B M = 0 := by
  have h1 := (lN_eq63 u6 (by omega)).mp ((lg_cmp_eq _ _).mp h2)
  have h4 : ¬ L = 0 := fun z => h3 ((lg_cmp_eq _ _).mpr (by rw [z]; rfl))
  unfold sqb
  rw [if_neg (by omega)]
theorem sq_t2 {A U L B M : Nat} (u5 : A * A = U * 2 ^ 54 + L) (u6 : U < 2 ^ 63) (u7 : L < 2 ^ 54) (hB : B * 2 ^ M < 2 ^ 54) (h : ¬ lg_cmp (lN U) (lN (B * 2 ^ M)) < 0) (h2 : lg_cmp (lN U) (lN (B * 2 ^ M)) = 0) (h3 : lg_cmp (lN L) 0 = 0) : sqb A B M = 1 := by
  have h1 := (lN_eq63 u6 (by omega)).mp ((lg_cmp_eq _ _).mp h2)
  have h4 : L = 0 := (lN_eq63 (b := 0) (by omega) (by omega)).mp ((lg_cmp_eq _ _).mp h3)
  unfold sqb
  rw [if_pos (by omega)]
theorem l2d_one (x : Int64) : FP.dmul (FP.l2d x) FP.dconst1 = FP.l2d x := Jvm.FP.Core.dmul_one (Jvm.FP.Core.l2d_fin x).ne_nan
theorem l2d_one_n (x : Int64) : vf_n64 (FP.dmul (FP.l2d x) FP.dconst1) := by
  rw [l2d_one]
  exact n64_of (Nat.lt_trans (Jvm.FP.Core.l2d_mag x) (by decide))
theorem e_amt : ∀ e, e < 8 → ((((2 * (nI e)) + 2) &&& 31).toBitVec.smod 32).toNat = 2 * e + 2 := by decide +kernel
theorem shr_e {N e : Nat} (hN : N < 19603) (he : e ≤ 7) : (nI N) >>> (((2 * (nI e)) + 2) &&& 31) = nI (N / 2 ^ (2 * e + 2)) := i_shr (by omega) (e_amt e (by omega))
theorem s_52' : ∀ e, e < 8 → (52 : Int32) - nI e = nI (52 - e) := by decide +kernel
theorem s_52 (e : Nat) (he : e ≤ 7) : (52 : Int32) - nI e = nI (52 - e) := s_52' e (by omega)
theorem s_54' : ∀ e, e < 8 → 2 * (nI (52 - e)) - 54 = nI (50 - 2 * e) := by decide +kernel
theorem s_54 (e : Nat) (he : e ≤ 7) : 2 * (nI (52 - e)) - 54 = nI (50 - 2 * e) := s_54' e (by omega)
theorem s_52b' : ∀ e, e < 8 → 2 * (nI (52 - e)) - 52 = nI (52 - 2 * e) := by decide +kernel
theorem s_52b (e : Nat) (he : e ≤ 7) : 2 * (nI (52 - e)) - 52 = nI (52 - 2 * e) := s_52b' e (by omega)
theorem sh_1' : ∀ e, e < 8 → (1 : Int64) <<< ((nI (52 - e)).toInt64 &&& 63) = lN (2 ^ (52 - e)) := by decide +kernel
theorem sh_1 (e : Nat) (he : e ≤ 7) : (1 : Int64) <<< ((nI (52 - e)).toInt64 &&& 63) = lN (2 ^ (52 - e)) := sh_1' e (by omega)
theorem rt_or {m k : Nat} (hk : k + 1 ≤ 53) (hm : m % 2 ^ (k + 1) = 0) (hb : m + 2 ^ (k + 1) ≤ 2 ^ 53) : (lN m) ||| (1 <<< ((nI (k + 1) - 1).toInt64 &&& 63)) = lN (m + 2 ^ k) := by
  have h1 : (1 : Int64) <<< ((nI k).toInt64 &&& 63) = lN (1 * 2 ^ k) := wb_shl 1 (k := k) (by omega)
  have hp : 2 ^ (k + 1) = 2 * 2 ^ k := by rw [Nat.pow_succ, Nat.mul_comm]
  have h3 : 2 ^ k < 2 ^ (k + 1) := Nat.pow_lt_pow_right (by decide) (by omega)
  have h2 : m ||| 2 ^ k = m + 2 ^ k := by
    have e : m = 2 ^ (k + 1) * (m / 2 ^ (k + 1)) := by
      have := Nat.div_add_mod m (2 ^ (k + 1))
      omega
    rw [e, ← Nat.two_pow_add_eq_or_of_lt h3]
  rw [nI_pred, h1, Nat.one_mul, wb_or (by omega) (by omega), h2]
theorem rb_m0 {m k : Nat} (hm : m % 2 ^ (k + 1) = 0) : m % 2 ^ k = 0 :=
  Nat.mod_eq_zero_of_dvd (Nat.dvd_trans (Nat.pow_dvd_pow 2 (Nat.le_succ k)) (Nat.dvd_of_mod_eq_zero hm))
theorem rb_m1 {m k : Nat} (hm : m % 2 ^ (k + 1) = 0) : (m + 2 ^ k) % 2 ^ k = 0 := by
  rw [Nat.add_mod_right]; exact rb_m0 hm
theorem rt_B1 {N e : Nat} (he : e ≤ 7) (h : N < 4 ^ (e + 1)) : N * 2 ^ (50 - 2 * e) < 2 ^ 54 := by
  have h1 : N * 2 ^ (50 - 2 * e) < 4 ^ (e + 1) * 2 ^ (50 - 2 * e) := Nat.mul_lt_mul_of_pos_right h (Nat.pow_pos (by decide))
  rw [p4, ← Nat.pow_add, show 2 * (e + 1) + (50 - 2 * e) = 52 by omega] at h1
  omega
theorem rt_B2 {N e : Nat} (he : e ≤ 7) (h : N < 4 ^ (e + 1)) : N * 2 ^ (52 - 2 * e) < 2 ^ 54 := by
  have h1 : N * 2 ^ (52 - 2 * e) < 4 ^ (e + 1) * 2 ^ (52 - 2 * e) := Nat.mul_lt_mul_of_pos_right h (Nat.pow_pos (by decide))
  rw [p4, ← Nat.pow_add, show 2 * (e + 1) + (52 - 2 * e) = 54 by omega] at h1
  exact h1
theorem sqb_b {N e : Nat} (he : e ≤ 7) : N * 2 ^ (50 - 2 * e) * 2 ^ 54 = N * 4 ^ (52 - e) := by
  rw [Nat.mul_assoc, ← Nat.pow_add, p4, show 50 - 2 * e + 54 = 2 * (52 - e) by omega]
theorem sqb_b2 {N e : Nat} (he : e ≤ 7) : N * 2 ^ (52 - 2 * e) * 2 ^ 54 = 4 * (N * 4 ^ (52 - e)) := by
  rw [Nat.mul_assoc, ← Nat.pow_add, p4, show 52 - 2 * e + 54 = 2 * (52 - e) + 2 by omega, Nat.pow_add]
  grind
theorem sqb_t1 {A N e : Nat} (he : e ≤ 7) (h : ¬ sqb A N (50 - 2 * e) = 0) : A * A ≤ N * 4 ^ (52 - e) := by
  unfold sqb at h
  rw [sqb_b he] at h
  rcases Nat.lt_or_ge (N * 4 ^ (52 - e)) (A * A) with q | q
  · rw [if_neg (by omega)] at h; exact absurd rfl h
  · exact q
theorem sqb_f1 {A N e : Nat} (he : e ≤ 7) (h : sqb A N (50 - 2 * e) = 0) : N * 4 ^ (52 - e) < A * A := by
  unfold sqb at h
  rw [sqb_b he] at h
  rcases Nat.lt_or_ge (N * 4 ^ (52 - e)) (A * A) with q | q
  · exact q
  · rw [if_pos q] at h; exact absurd h (by decide)
theorem nI_z0 {N e : Nat} (h : N < 4 ^ (e + 1)) : nI (N / 2 ^ (2 * e + 2)) ≤ 0 := by
  rw [p4, show 2 * (e + 1) = 2 * e + 2 by omega] at h
  rw [Nat.div_eq_of_lt h]
  decide
theorem nI_nz0 {N e : Nat} (hN : N < 19603) (h : ¬ N < 4 ^ (e + 1)) : ¬ nI (N / 2 ^ (2 * e + 2)) ≤ 0 := by
  rw [p4, show 2 * (e + 1) = 2 * e + 2 by omega] at h
  have h1 : 0 < N / 2 ^ (2 * e + 2) := Nat.div_pos (by omega) (Nat.pow_pos (by decide))
  have h2 := Nat.div_le_self N (2 ^ (2 * e + 2))
  exact nI_nle h1 (by omega)
theorem rt_hi {N e : Nat} (he : e ≤ 7) (h : N < 4 ^ (e + 1)) : N * 4 ^ (52 - e) < (0 + 2 ^ 53) * (0 + 2 ^ 53) := by
  rw [Nat.zero_add]; exact e_hi he h
theorem rt_end2 {N e m : Nat} {x : Int64} (hN : N < 19603) (h0 : 0 < N) (he : e ≤ 7) (hle : 4 ^ e ≤ N) (hlt : N < 4 ^ (e + 1)) (hm1 : m * m ≤ N * 4 ^ (52 - e)) (hm2 : N * 4 ^ (52 - e) < (m + 1) * (m + 1)) (hmb : m + 1 ≤ 2 ^ 53)
    (hx : (sqb (2 * m + 1) N (52 - 2 * e) = 0 ∧ x = lN m + 0) ∨ (¬ sqb (2 * m + 1) N (52 - 2 * e) = 0 ∧ x = lN m + 1)) : rV (nI N).toNatClampNeg = FP.ddiv (FP.dmul (FP.l2d x) FP.dconst1) (FP.l2d (lN (2 ^ (52 - e)))) := by
  rw [nI_clamp (by omega), l2d_one, pw_l2d (52 - e) (by omega)]
  refine rV_of (by omega) ⟨52 - e, m, by omega, m_lo (e_lo he hle) hm2, by omega, hm1, hm2, ?_⟩
  have c : (2 * m + 1) * (2 * m + 1) = 4 * (m * m) + 4 * m + 1 := by grind
  unfold sqb at hx
  rw [sqb_b2 he, c] at hx
  rcases hx with ⟨a, rfl⟩ | ⟨a, rfl⟩
  · have q : ¬ m < N * 4 ^ (52 - e) - m * m := fun z => by
      rw [if_pos (by omega)] at a
      exact absurd a (by decide)
    rw [if_neg q, show (0 : Int64) = lN 0 from rfl, lN_add]
  · have q : m < N * 4 ^ (52 - e) - m * m := by
      rcases Nat.lt_or_ge m (N * 4 ^ (52 - e) - m * m) with z | z
      · exact z
      · rw [if_neg (by omega)] at a
        exact absurd rfl a
    rw [if_pos q, lN_1]

theorem m1k (k : Nat) : nI k + (-1) = nI k - 1 := (Int32.sub_eq_add_neg _ _).symm
