theorem ct_B_zero (cap w : Nat → Nat) (hpos : ∀ j, j < 10 → 0 < cap j → 0 < w j) : ∀ (k a left room : Nat), a + k ≤ 10 → (ct_B cap w k a left room).1 = 0 → ∀ j, (ct_B cap w k a left room).2 j = 0
  | 0, _, _, _, _, _, _ => rfl
  | k + 1, a, left, room, ha, h, j => by
    rw [ct_B_succ] at h ⊢
    obtain ⟨r, h1, h2⟩ := ct_D_ex (ct_f cap w k a left room) (min (min (cap a) left) (room / w a))
    rw [h2] at h ⊢
    have h3 : r * w a + (ct_B cap w k (a + 1) (left - r) (room - r * w a)).1 = 0 := h
    have h4 : r = 0 := by
      rcases Nat.eq_zero_or_pos r with q | q
      · exact q
      · have h5 := hpos a (by omega) (by omega)
        have := Nat.mul_pos q h5
        omega
    show (if j = a then r else (ct_B cap w k (a + 1) (left - r) (room - r * w a)).2 j) = 0
    by_cases e : j = a
    · rw [if_pos e]; exact h4
    · rw [if_neg e]; exact ct_B_zero cap w hpos k (a + 1) _ _ (by omega) (by omega) j
theorem sr_start {cp w : Nat → Nat} {bs2 : Int32} {fb2 : Nat → Int32} {tv : Nat → Nat} {rm : Nat} (hrm : rm ≤ 800) (hpos : ∀ j, j < 10 → 0 < cp j → 0 < w j)
    (h : sr_ok bs2 fb2 (ct_app ((0 : Int32), fun _ => 0) (0 + (ct_B cp w 10 0 6 (rm - 0)).1, ct_mix 0 tv (ct_B cp w 10 0 6 (rm - 0)).2))) :
    bs2 = nI (ct_B cp w 10 0 6 rm).1 ∧ ∀ j, j < 10 → fb2 j = nI ((ct_B cp w 10 0 6 rm).2 j) := by
  rw [Nat.sub_zero, Nat.zero_add] at h
  have hr := ct_B_room cp w 10 0 6 rm
  have e : ct_mix 0 tv (ct_B cp w 10 0 6 rm).2 = (ct_B cp w 10 0 6 rm).2 := by
    funext j
    simp only [ct_mix]
    rw [if_neg (Nat.not_lt_zero j)]
  rw [e] at h
  rcases Nat.eq_zero_or_pos (ct_B cp w 10 0 6 rm).1 with q | q
  · have e2 : ct_app ((0 : Int32), fun _ => 0) ((ct_B cp w 10 0 6 rm).1, (ct_B cp w 10 0 6 rm).2) = ((0 : Int32), fun _ => 0) := by
      refine if_neg ?_
      rw [q]
      exact fun z => absurd z (by decide)
    rw [e2] at h
    refine ⟨by rw [q]; exact h.1, fun j hj => ?_⟩
    rw [ct_B_zero cp w hpos 10 0 6 rm (by omega) q j]
    exact h.2 j hj
  · have e2 : ct_app ((0 : Int32), fun _ => 0) ((ct_B cp w 10 0 6 rm).1, (ct_B cp w 10 0 6 rm).2) = (nI (ct_B cp w 10 0 6 rm).1, (ct_B cp w 10 0 6 rm).2) :=
      if_pos ((nI_ltI (a := 0) (by omega) (by omega)).mpr q)
    rw [e2] at h
    exact h
def f_op (og ol : Nat → Int32) (k : Nat) : Nat → Bool := fun i => decide (0 < f_rl og ol (nI i) k)
