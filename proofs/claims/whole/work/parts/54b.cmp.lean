/-! doubles that are no NaN are equal to themselves -/
theorem fl_v64 {x : UInt64} (h : vf_n64 x) : Jvm.FP.Core.val64 x ≠ .nan := by
  unfold vf_n64 at h
  rw [UInt64.le_iff_toNat_le, UInt64.toNat_and] at h
  have e1 : (0x7fffffffffffffff : UInt64).toNat = 2 ^ 63 - 1 := by decide
  have e2 : (0x7ff0000000000000 : UInt64).toNat = 2047 * 2 ^ 52 := by decide
  rw [e1, e2, Nat.and_two_pow_sub_one_eq_mod] at h
  simp only [Jvm.FP.Core.val64, Jvm.FP.Core.decode, Jvm.FP.Core.fieldE, Jvm.FP.Core.fieldT, show Jvm.FP.Core.Fmt.tails Jvm.FP.Core.b64 = 2 ^ 52 from by decide, show Jvm.FP.Core.Fmt.exps Jvm.FP.Core.b64 = 2 ^ 11 from by decide]
  by_cases c : x.toNat / 2 ^ 52 % 2 ^ 11 = 2 ^ 11 - 1
  · rw [if_pos c]
    by_cases c2 : x.toNat % 2 ^ 52 = 0
    · rw [if_pos c2]; exact fun h => nomatch h
    · omega
  · rw [if_neg c]
    split <;> exact fun h => nomatch h
theorem fl_cmp {x : UInt64} (h : vf_n64 x) : Op.cmpValue (FP.dcmp x x) .l = 0 := by
  have e : FP.dcmp x x = some .eq := Jvm.FP.Core.dcmp_self (fl_v64 h)
  rw [e]
  rfl
