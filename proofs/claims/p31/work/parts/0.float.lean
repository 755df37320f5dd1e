/-! no NaN -/
theorem fl_64 {x : UInt64} (h : Jvm.FP.Core.val64 x ≠ .nan) : vf_n64 x := by
  unfold vf_n64
  rw [UInt64.le_iff_toNat_le, UInt64.toNat_and]
  have e1 : (0x7fffffffffffffff : UInt64).toNat = 2 ^ 63 - 1 := by decide
  have e2 : (0x7ff0000000000000 : UInt64).toNat = 2047 * 2 ^ 52 := by decide
  rw [e1, e2, Nat.and_two_pow_sub_one_eq_mod]
  simp only [Jvm.FP.Core.val64, Jvm.FP.Core.decode, Jvm.FP.Core.fieldE, Jvm.FP.Core.fieldT, show Jvm.FP.Core.Fmt.tails Jvm.FP.Core.b64 = 2 ^ 52 from by decide, show Jvm.FP.Core.Fmt.exps Jvm.FP.Core.b64 = 2 ^ 11 from by decide] at h
  by_cases c : x.toNat / 2 ^ 52 % 2 ^ 11 = 2 ^ 11 - 1
  · rw [if_pos c] at h
    by_cases c2 : x.toNat % 2 ^ 52 = 0
    · omega
    · rw [if_neg c2] at h; exact absurd rfl h
  · omega
theorem fl_32 {x : UInt32} (h : Jvm.FP.Core.val32 x ≠ .nan) : vf_n32 x := by
  unfold vf_n32
  rw [UInt32.le_iff_toNat_le, UInt32.toNat_and]
  have e1 : (0x7fffffff : UInt32).toNat = 2 ^ 31 - 1 := by decide
  have e2 : (0x7f800000 : UInt32).toNat = 255 * 2 ^ 23 := by decide
  rw [e1, e2, Nat.and_two_pow_sub_one_eq_mod]
  simp only [Jvm.FP.Core.val32, Jvm.FP.Core.decode, Jvm.FP.Core.fieldE, Jvm.FP.Core.fieldT, show Jvm.FP.Core.Fmt.tails Jvm.FP.Core.b32 = 2 ^ 23 from by decide, show Jvm.FP.Core.Fmt.exps Jvm.FP.Core.b32 = 2 ^ 8 from by decide] at h
  by_cases c : x.toNat / 2 ^ 23 % 2 ^ 8 = 2 ^ 8 - 1
  · rw [if_pos c] at h
    by_cases c2 : x.toNat % 2 ^ 23 = 0
    · omega
    · rw [if_neg c2] at h; exact absurd rfl h
  · omega
/-- a rounded number is one -/
theorem fl_rr {f : Jvm.FP.Core.Fmt} (s : Bool) (n d : Nat) (e : Int) : Jvm.FP.Core.roundRatio f s n d e ≠ .nan := by
  unfold Jvm.FP.Core.roundRatio
  split
  · exact fun h => nomatch h
  · unfold Jvm.FP.Core.roundAt Jvm.FP.Core.settle Jvm.FP.Core.bound
    split <;> split <;> exact fun h => nomatch h
/-- whole numbers: a quotient by one that is not zero -/
theorem fl_q {f : Jvm.FP.Core.Fmt} {i j : Int} {a b : Jvm.FP.Core.Datum} (ha : Jvm.FP.Core.Whole i a) (hb : Jvm.FP.Core.Whole j b) (hj : j ≠ 0) : Jvm.FP.Core.quotient f a b ≠ .nan := by
  match a, ha with
  | .fin s c q, ha =>
    match b, hb with
    | .fin t d r, hb =>
      have hd : d ≠ 0 := fun z => hj ((Jvm.FP.Core.whole_zero hb).mp z)
      show (if d = 0 then _ else _) ≠ _
      rw [if_neg hd]
      exact fl_rr _ _ _ _
theorem fl_l2f {a : Int64} (h : a.toInt.natAbs ≤ 2 ^ 24) : Jvm.FP.Core.Whole a.toInt (Jvm.FP.Core.val32 (FP.l2f a)) := by
  show Jvm.FP.Core.Whole a.toInt (Jvm.FP.Core.val32 (Jvm.FP.Core.l2f a))
  rw [Jvm.FP.Core.val32_l2f]
  exact Jvm.FP.Core.whole_round Jvm.FP.Core.good_b32 Jvm.FP.Core.wide_b32 h (Jvm.FP.Core.whole_ofInt _)
theorem fl_fdiv {a b : Int64} (ha : a.toInt.natAbs ≤ 2 ^ 24) (hb : b.toInt.natAbs ≤ 2 ^ 24) (h0 : b.toInt ≠ 0) : vf_n32 (FP.fdiv (FP.l2f a) (FP.l2f b)) := by
  refine fl_32 ?_
  show Jvm.FP.Core.val32 (Jvm.FP.Core.fdiv (FP.l2f a) (FP.l2f b)) ≠ .nan
  rw [Jvm.FP.Core.val32_fdiv]
  exact fl_q (fl_l2f ha) (fl_l2f hb) h0
theorem fl_ddiv {a b : Int32} (h0 : b.toInt ≠ 0) : vf_n64 (FP.ddiv (FP.i2d a) (FP.i2d b)) := by
  refine fl_64 ?_
  show Jvm.FP.Core.val64 (Jvm.FP.Core.ddiv (Jvm.FP.Core.i2d a) (Jvm.FP.Core.i2d b)) ≠ .nan
  rw [Jvm.FP.Core.val64_ddiv]
  exact fl_q (Jvm.FP.Core.i2d_int a) (Jvm.FP.Core.i2d_int b) h0
theorem fl_l2d (x : Int32) : FP.l2d (Int32.toInt64 x) = FP.i2d x := by
  show UInt64.ofNat _ = UInt64.ofNat _
  rw [Int32.toInt_toInt64]
/-- a float that is no NaN, made a double -/
theorem fl_f2d {a b : Int64} (ha : a.toInt.natAbs ≤ 2 ^ 24) (hb : b.toInt.natAbs ≤ 2 ^ 24) (h0 : b.toInt ≠ 0) : vf_n64 (FP.f2d (FP.fdiv (FP.l2f a) (FP.l2f b))) := by
  refine fl_64 ?_
  have hv : Jvm.FP.Core.val32 (FP.fdiv (FP.l2f a) (FP.l2f b)) ≠ .nan := by
    show Jvm.FP.Core.val32 (Jvm.FP.Core.fdiv (FP.l2f a) (FP.l2f b)) ≠ .nan
    rw [Jvm.FP.Core.val32_fdiv]
    exact fl_q (fl_l2f ha) (fl_l2f hb) h0
  have hi : FP.fIsNaN (FP.fdiv (FP.l2f a) (FP.l2f b)) = false := by
    rw [← Bool.not_eq_true]
    exact fun z => hv ((Jvm.FP.Core.fIsNaN_iff _).mp z)
  rw [FP.f2d_core hi, Jvm.FP.Core.val64_f2d]
  obtain ⟨d, hd⟩ : ∃ d, d = Jvm.FP.Core.val32 (FP.fdiv (FP.l2f a) (FP.l2f b)) := ⟨_, rfl⟩
  rw [← hd] at hv ⊢
  match d, hv with
  | .inf s, _ => exact fun h => nomatch h
  | .fin s c q, _ => exact fl_rr _ _ _ _
/-! doubles that are no NaN are equal to themselves -/
theorem fl_v64 {x : UInt64} (h : vf_n64 x) : Jvm.FP.Core.val64 x ≠ .nan := by
  unfold vf_n64 at h
  rw [UInt64.le_iff_toNat_le, UInt64.toNat_and] at h
  have e1 : (0x7fffffffffffffff : UInt64).toNat = 2 ^ 63 - 1 := by decide
  have e2 : (0x7ff0000000000000 : UInt64).toNat = 2047 * 2 ^ 52 := by decide
  rw [e1, e2, Nat.and_two_pow_sub_one_eq_mod] at h
  simp only [Jvm.FP.Core.val64, Jvm.FP.Core.decode, Jvm.FP.Core.fieldE, Jvm.FP.Core.fieldT, show Jvm.FP.Core.Fmt.tails Jvm.FP.Core.b64 = 2 ^ 52 from by decide, show Jvm.FP.Core.Fmt.exps Jvm.FP.Core.b64 = 2 ^ 11 from by decide]
  by_cases c : x.toNat / 2 ^ 52 % 2 ^ 11 = 2 ^ 11 - 1
  · rw [if_pos c]
    by_cases c2 : x.toNat % 2 ^ 52 = 0
    · rw [if_pos c2]; exact fun h => nomatch h
    · omega
  · rw [if_neg c]
    split <;> exact fun h => nomatch h
theorem fl_cmp {x : UInt64} (h : vf_n64 x) : Op.cmpValue (FP.dcmp x x) .l = 0 := by
  have e : FP.dcmp x x = some .eq := Jvm.FP.Core.dcmp_self (fl_v64 h)
  rw [e]
  rfl
theorem fl_v32 {x : UInt32} (h : vf_n32 x) : Jvm.FP.Core.val32 x ≠ .nan := by
  unfold vf_n32 at h
  rw [UInt32.le_iff_toNat_le, UInt32.toNat_and] at h
  have e1 : (0x7fffffff : UInt32).toNat = 2 ^ 31 - 1 := by decide
  have e2 : (0x7f800000 : UInt32).toNat = 255 * 2 ^ 23 := by decide
  rw [e1, e2, Nat.and_two_pow_sub_one_eq_mod] at h
  simp only [Jvm.FP.Core.val32, Jvm.FP.Core.decode, Jvm.FP.Core.fieldE, Jvm.FP.Core.fieldT, show Jvm.FP.Core.Fmt.tails Jvm.FP.Core.b32 = 2 ^ 23 from by decide, show Jvm.FP.Core.Fmt.exps Jvm.FP.Core.b32 = 2 ^ 8 from by decide]
  by_cases c : x.toNat / 2 ^ 23 % 2 ^ 8 = 2 ^ 8 - 1
  · rw [if_pos c]
    by_cases c2 : x.toNat % 2 ^ 23 = 0
    · rw [if_pos c2]; exact fun h => nomatch h
    · omega
  · rw [if_neg c]
    split <;> exact fun h => nomatch h
theorem fl_fcmp {x : UInt32} (h : vf_n32 x) : Op.cmpValue (FP.fcmp x x) .l = 0 := by
  have e : FP.fcmp x x = some .eq := Jvm.FP.Core.fcmp_self (fl_v32 h)
  rw [e]
  rfl
