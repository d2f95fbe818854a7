-- doubles: what is no NaN
theorem n64_of {r : UInt64} (h : r.toNat % 2 ^ 63 < 2047 * 2 ^ 52) : vf_n64 r := by
  unfold vf_n64
  rw [UInt64.le_iff_toNat_le, UInt64.toNat_and]
  have e1 : (0x7fffffffffffffff : UInt64).toNat = 2 ^ 63 - 1 := by decide
  have e2 : (0x7ff0000000000000 : UInt64).toNat = 2047 * 2 ^ 52 := by decide
  rw [e1, e2, Nat.and_two_pow_sub_one_eq_mod]
  omega
theorem n64_add {a b : UInt64} {K : Nat} (ha : a.toNat % 2 ^ 63 < K * 2 ^ 52) (hb : b.toNat % 2 ^ 63 < K * 2 ^ 52) (hK : K + 2 ≤ 2047) : vf_n64 (FP.dadd a b) := by
  have h := Jvm.FP.Core.dadd_mag ha hb (by omega)
  exact n64_of (by have h2 : (K + 2) * 2 ^ 52 ≤ 2047 * 2 ^ 52 := Nat.mul_le_mul_right _ hK
                   exact Nat.lt_of_lt_of_le h h2)
