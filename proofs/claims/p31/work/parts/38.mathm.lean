/-! the reference's ways to say the same -/
theorem m_in {p : Int32} {G : Nat} (hG : G ≤ 1000) : (0 ≤ p ∧ p ≤ nI G - 1) ↔ (0 ≤ p ∧ p < nI G) := by
  have e : (nI G - 1).toInt = (G : Int) - 1 := pk_sub_toInt (a := G) (b := 1) (by omega) (by omega)
  have e2 : (nI G).toInt = G := nI_toInt (by omega)
  refine ⟨fun h => ⟨h.1, ?_⟩, fun h => ⟨h.1, ?_⟩⟩
  · have := h.2
    rw [fa_le, e] at this
    rw [fa_lt, e2]
    omega
  · have := h.2
    rw [fa_lt, e2] at this
    rw [fa_le, e]
    omega
def f_ho (og ol : Nat → Int32) (g : Int32) : Nat → Bool
  | 0 => false
  | i + 1 => f_ho og ol g i || (decide (og i = g) && decide (0 < ol i))
theorem f_rl_b {og ol : Nat → Int32} {g : Int32} (h : ∀ j, 0 ≤ (ol j).toInt ∧ (ol j).toInt ≤ 50) : ∀ k, k ≤ 1000 → 0 ≤ (f_rl og ol g k).toInt ∧ (f_rl og ol g k).toInt ≤ 50 * k ∧ (0 < (f_rl og ol g k).toInt ↔ f_ho og ol g k = true)
  | 0, _ => ⟨by rw [f_rl]; decide, by rw [f_rl]; decide, by simp [f_rl, f_ho]⟩
  | k + 1, hk => by
    obtain ⟨h1, h2, h3⟩ := f_rl_b (og := og) (g := g) h k (by omega)
    obtain ⟨q1, q2⟩ := h k
    rw [f_rl, f_ho]
    by_cases c : og k = g
    · rw [if_pos c]
      have e : (f_rl og ol g k + ol k).toInt = (f_rl og ol g k).toInt + (ol k).toInt := fb_addI (by omega) (by omega)
      rw [e]
      refine ⟨by omega, by omega, ?_⟩
      have e0 : (0 : Int32) < ol k ↔ 0 < (ol k).toInt := by rw [fa_lt]; exact Iff.rfl
      simp only [c, decide_true, Bool.true_and, Bool.or_eq_true, decide_eq_true_eq, ← h3, e0]
      omega
    · rw [if_neg c]
      refine ⟨h1, by omega, ?_⟩
      simp only [c, decide_false, Bool.false_and, Bool.or_false]
      exact h3
theorem f_op_ho {og ol : Nat → Int32} {k : Nat} (hk : k ≤ 1000) (h : ∀ j, 0 ≤ (ol j).toInt ∧ (ol j).toInt ≤ 50) (i : Nat) : f_op og ol k i = f_ho og ol (nI i) k := by
  have h3 := (f_rl_b (og := og) (g := nI i) h k hk).2.2
  have e0 : (0 : Int32) < f_rl og ol (nI i) k ↔ 0 < (f_rl og ol (nI i) k).toInt := by rw [fa_lt]; exact Iff.rfl
  unfold f_op
  rw [← Bool.decide_coe (f_ho og ol (nI i) k)]
  exact decide_eq_decide.mpr (e0.trans h3)
def f_nf (we : Nat → Int32) (op : Nat → Bool) (w a : Int32) : Nat → Int32
  | 0 => -1
  | i + 1 => if (op i = true ∧ (if a = 0 then we i < w else w < we i)) ∧ (f_nf we op w a i = -1 ∨ (if a = 0 then we (f_nf we op w a i).toNatClampNeg < we i else we i < we (f_nf we op w a i).toNatClampNeg)) then nI i else f_nf we op w a i
theorem f_nf_in (we : Nat → Int32) (op : Nat → Bool) (w a : Int32) : ∀ k, k ≤ 1000 → f_nf we op w a k = -1 ∨ ∃ j, j < k ∧ f_nf we op w a k = nI j
  | 0, _ => Or.inl rfl
  | k + 1, hk => by
    have q : f_nf we op w a (k + 1) = nI k ∨ f_nf we op w a (k + 1) = f_nf we op w a k := (Classical.em _).elim (fun c => Or.inl (if_pos c)) (fun c => Or.inr (if_neg c))
    rcases q with q | q
    · exact Or.inr ⟨k, by omega, q⟩
    · rw [q]
      rcases f_nf_in we op w a k (by omega) with h | ⟨j, h1, h2⟩
      · exact Or.inl h
      · exact Or.inr ⟨j, by omega, h2⟩
theorem f_nf_near {we : Nat → Int32} {op op2 : Nat → Bool} {w a : Int32} {G : Nat} (hG : G ≤ 1000) (hop : ∀ i, op i = op2 i) (hw : 0 ≤ w.toInt ∧ w.toInt ≤ 200) (hwe : ∀ j, j < G → 40 ≤ (we j).toInt ∧ (we j).toInt ≤ 200) : ∀ k, k ≤ G → f_near we op w a k = f_nf we op2 w a k
  | 0, _ => rfl
  | k + 1, hk => by
    have ih := f_nf_near hG hop hw hwe (a := a) k (by omega)
    rw [f_near, f_nf, ih, hop k]
    have hd : ∀ j, j < G → (f_dist we w a j).toInt = if a = 0 then w.toInt - (we j).toInt else (we j).toInt - w.toInt := fun j hj => by
      obtain ⟨q1, q2⟩ := hwe j hj
      unfold f_dist
      split
      · exact fb_subI (by omega) (by omega)
      · exact fb_subI (by omega) (by omega)
    have d1 := hd k (by omega)
    have e1 : (0 < f_dist we w a k) ↔ (if a = 0 then we k < w else w < we k) := by
      rw [fa_lt, d1]
      show (0 : Int) < _ ↔ _
      split
      · rw [fa_lt]; omega
      · rw [fa_lt]; omega
    have e2 : ∀ j, j < G → (f_dist we w a k < f_dist we w a j ↔ (if a = 0 then we j < we k else we k < we j)) := fun j hj => by
      rw [fa_lt, d1, hd j hj]
      split
      · rw [fa_lt]; omega
      · rw [fa_lt]; omega
    have e3 : (f_nf we op2 w a k = -1 ∨ f_dist we w a k < f_dist we w a (f_nf we op2 w a k).toNatClampNeg) ↔ (f_nf we op2 w a k = -1 ∨ (if a = 0 then we (f_nf we op2 w a k).toNatClampNeg < we k else we k < we (f_nf we op2 w a k).toNatClampNeg)) := by
      rcases f_nf_in we op2 w a k (by omega) with h | ⟨j, h1, h2⟩
      · exact ⟨fun _ => Or.inl h, fun _ => Or.inl h⟩
      · have ej : (f_nf we op2 w a k).toNatClampNeg = j := by rw [h2, nI_clamp (by omega)]
        rw [ej]
        exact or_congr Iff.rfl (e2 j (by omega))
    by_cases c : (op2 k = true ∧ (if a = 0 then we k < w else w < we k)) ∧ (f_nf we op2 w a k = -1 ∨ (if a = 0 then we (f_nf we op2 w a k).toNatClampNeg < we k else we k < we (f_nf we op2 w a k).toNatClampNeg))
    · rw [if_pos c, if_pos ⟨⟨e1.mpr c.1.2, e3.mpr c.2⟩, c.1.1⟩]
    · rw [if_neg c, if_neg (fun h => c ⟨⟨h.2, e1.mp h.1.1⟩, e3.mp h.1.2⟩)]
def f_iw (ol ow : Nat → Int32) (p : Int32) : Nat → Bool
  | 0 => false
  | i + 1 => f_iw ol ow p i || (decide (0 < ol i) && decide (p < ow i))
theorem f_iw_wo {ol ow : Nat → Int32} {p : Int32} (hp : 0 ≤ p) : ∀ k, f_iw ol ow p k = true ↔ p < f_wo ol ow k
  | 0 => by simp only [f_iw, f_wo]; exact ⟨fun h => absurd h Bool.false_ne_true, fun h => absurd h (Int32.not_lt.mpr hp)⟩
  | k + 1 => by
    have ih := f_iw_wo hp (ol := ol) (ow := ow) k
    rw [f_iw, f_wo, Bool.or_eq_true, ih]
    by_cases c : 0 < ol k
    · rw [if_pos c]
      simp only [c, decide_true, Bool.true_and, decide_eq_true_eq]
      by_cases c2 : f_wo ol ow k < ow k
      · rw [if_pos c2]
        exact ⟨fun h => h.elim (fun q => Int32.lt_trans q c2) id, Or.inr⟩
      · rw [if_neg c2]
        exact ⟨fun h => h.elim id (fun q => Int32.lt_of_lt_of_le q (Int32.not_lt.mp c2)), Or.inl⟩
    · rw [if_neg c]
      simp only [c, decide_false, Bool.false_and, Bool.false_eq_true, or_false]
/-- the reference's tries: what is kept for the first N orders -/
def sr_okN (N : Nat) (bs : Int32) (fb : Nat → Int32) (st : Int32 × (Nat → Nat)) : Prop := bs = st.1 ∧ ∀ j, j < N → fb j = nI (st.2 j)
theorem tr_start {cp w : Nat → Nat} {bs2 : Int32} {fb2 : Nat → Int32} {bv tv : Nat → Nat} {K rm : Nat} (hrm : rm ≤ 800)
    (h : sr_okN K bs2 fb2 (ct_app ((-1 : Int32), bv) (0 + (ct_B cp w K 0 (6 - 0) (rm - 0)).1, ct_mix 0 tv (ct_B cp w K 0 (6 - 0) (rm - 0)).2))) :
    bs2 = nI (ct_B cp w K 0 6 rm).1 ∧ ∀ j, j < K → fb2 j = nI ((ct_B cp w K 0 6 rm).2 j) := by
  simp only [Nat.sub_zero, Nat.zero_add] at h
  have hr := ct_B_room cp w K 0 6 rm
  have e : ct_mix 0 tv (ct_B cp w K 0 6 rm).2 = (ct_B cp w K 0 6 rm).2 := by
    funext j
    simp only [ct_mix]
    rw [if_neg (Nat.not_lt_zero j)]
  rw [e] at h
  have e2 : ct_app ((-1 : Int32), bv) ((ct_B cp w K 0 6 rm).1, (ct_B cp w K 0 6 rm).2) = (nI (ct_B cp w K 0 6 rm).1, (ct_B cp w K 0 6 rm).2) :=
    if_pos (Int32.lt_of_lt_of_le (by decide : (-1 : Int32) < 0) (nI_pos' (n := (ct_B cp w K 0 6 rm).1) (by omega)))
  rw [e2] at h
  exact h
/-- the cut by the reference's numbers is the class's -/
theorem c_B_ref (u : ST) (g : Int32) (hoc : s_oc u ≤ 10) : (ct_B (fun j => if s_og u j = g then c_lk u j else 0) (c_w u) (s_oc u) 0 6 (s_mw u)).1 = (c_B u g).1 ∧ ∀ j, (ct_B (fun j => if s_og u j = g then c_lk u j else 0) (c_w u) (s_oc u) 0 6 (s_mw u)).2 j = (c_B u g).2 j := by
  have e1 : ct_B (fun j => if s_og u j = g then c_lk u j else 0) (c_w u) (s_oc u) 0 6 (s_mw u) = ct_B (f_cap (s_og u) (c_lk u) (s_oc u) g) (c_w u) (s_oc u) 0 6 (s_mw u) := by
    refine ct_B_cong _ _ _ _ (fun j h1 h2 => ⟨?_, fun _ => rfl⟩)
    simp only [f_cap]
    by_cases c : s_og u j = g
    · rw [if_pos c, if_pos ⟨by omega, c⟩]; omega
    · rw [if_neg c, if_neg (fun h => c h.2)]
  have h := ct_B_more (f_cap (s_og u) (c_lk u) (s_oc u) g) (c_w u) (10 - s_oc u) (s_oc u) 0 6 (s_mw u) (fun j hj => by
    simp only [f_cap]
    rw [if_neg (fun z => absurd z.1 (by omega))])
  rw [show s_oc u + (10 - s_oc u) = 10 by omega] at h
  rw [e1]
  exact ⟨h.1.symm, fun j => (h.2 j).symm⟩
theorem tr_try {cp w : Nat → Nat} {k a rl sm rm t : Nat} {tv : Nat → Nat} {st : Int32 × (Nat → Nat)} (h1 : t ≤ 6 - rl) :
    ct_app st (sm + t * w a + (ct_B cp w k (a + 1) (6 - (rl + t)) (rm - (sm + t * w a))).1, ct_mix (a + 1) (fun j => if j = a then t else tv j) (ct_B cp w k (a + 1) (6 - (rl + t)) (rm - (sm + t * w a))).2) = ct_app st (ct_g cp w k a (6 - rl) (rm - sm) sm tv t) := by
  have e1 : ct_mix (a + 1) (fun j => if j = a then t else tv j) (ct_B cp w k (a + 1) (6 - (rl + t)) (rm - (sm + t * w a))).2 = ct_mix a tv (fun j => if j = a then t else (ct_B cp w k (a + 1) (6 - (rl + t)) (rm - (sm + t * w a))).2 j) :=
    ct_mix_succ (r := t) (fun j hj => if_neg (by omega)) (if_pos rfl)
  rw [e1, Nat.add_assoc]
  simp only [ct_g, ct_f]
  rw [Nat.sub_sub, Nat.sub_sub]
theorem tr_base {cp w : Nat → Nat} {bs : Int32} {fb fb2 ft : Nat → Int32} {bv tv : Nat → Nat} {K sm rm lf : Nat} (c : bs < nI sm) (h2 : ∀ j, j < K → fb2 j = ft j) (hft : ∀ j, j < K → ft j = nI (tv j)) :
    sr_okN K (nI sm) fb2 (ct_app (bs, bv) (sm + (ct_B cp w 0 K lf (rm - sm)).1, ct_mix K tv (ct_B cp w 0 K lf (rm - sm)).2)) := by
  simp only [ct_B, Nat.add_zero]
  rw [show ct_app (bs, bv) (sm, ct_mix K tv fun _ => 0) = (nI sm, ct_mix K tv fun _ => 0) from if_pos c]
  refine ⟨rfl, fun j hj => ?_⟩
  rw [h2 j hj, hft j hj]
  simp only [ct_mix]
  rw [if_pos hj]
theorem tr_base0 {cp w : Nat → Nat} {bs : Int32} {fb : Nat → Int32} {bv tv : Nat → Nat} {K sm rm lf : Nat} (c : ¬ bs < nI sm) (hfb : ∀ j, j < K → fb j = nI (bv j)) :
    sr_okN K bs fb (ct_app (bs, bv) (sm + (ct_B cp w 0 K lf (rm - sm)).1, ct_mix K tv (ct_B cp w 0 K lf (rm - sm)).2)) := by
  simp only [ct_B, Nat.add_zero]
  rw [show ct_app (bs, bv) (sm, ct_mix K tv fun _ => 0) = (bs, bv) from if_neg c]
  exact ⟨rfl, hfb⟩
theorem m_cost {li fp sp p : Int32} (hl : 0 ≤ li.toInt ∧ li.toInt ≤ 9999) (hf : 0 ≤ fp.toInt ∧ fp.toInt ≤ 99) (hs : 0 ≤ sp.toInt ∧ sp.toInt ≤ 99) (hp : 0 ≤ p.toInt ∧ p.toInt ≤ 16000) :
    Int32.toInt64 ((if p < li then p else li) * fp + (p - (if p < li then p else li)) * sp) = f_cost li fp sp p := by
  have e : (if p < li then p else li) = (if li < p then li else p) := by
    rcases fa_three p li with h | h | h
    · rw [if_pos h, if_neg (fa_of_lt h).2.2.1]
    · subst h; rw [if_neg (by rw [fa_lt]; omega)]
    · rw [if_pos h, if_neg (fa_of_lt h).2.2.1]
  rw [e]
  unfold f_cost
  obtain ⟨x, hx⟩ : ∃ x, x = (if li < p then li else p) := ⟨_, rfl⟩
  rw [← hx]
  have bx : 0 ≤ x.toInt ∧ x.toInt ≤ 9999 ∧ x.toInt ≤ p.toInt := by
    rw [hx]
    split
    · rename_i h; rw [fa_lt] at h; omega
    · rename_i h; rw [fa_lt] at h; omega
  have e1 : (x * fp).toInt = x.toInt * fp.toInt := by
    have h1 : 0 ≤ x.toInt * fp.toInt := Int.mul_nonneg bx.1 hf.1
    have h2 : x.toInt * fp.toInt ≤ 9999 * 99 := Int.mul_le_mul bx.2.1 hf.2 hf.1 (by decide)
    exact fb_mulI (by omega) (by omega)
  have e2 : (p - x).toInt = p.toInt - x.toInt := fb_subI (by omega) (by omega)
  have b3 : 0 ≤ (p.toInt - x.toInt) * sp.toInt := Int.mul_nonneg (by omega) hs.1
  have b4 : (p.toInt - x.toInt) * sp.toInt ≤ 16000 * 99 := Int.mul_le_mul (by omega) hs.2 hs.1 (by decide)
  have e3 : ((p - x) * sp).toInt = (p.toInt - x.toInt) * sp.toInt := by
    rw [← e2]
    exact fb_mulI (by rw [e2]; omega) (by rw [e2]; omega)
  have h1 : 0 ≤ x.toInt * fp.toInt := Int.mul_nonneg bx.1 hf.1
  have h2 : x.toInt * fp.toInt ≤ 9999 * 99 := Int.mul_le_mul bx.2.1 hf.2 hf.1 (by decide)
  apply Int64.toInt.inj
  have l1 : (Int32.toInt64 x * Int32.toInt64 fp).toInt = x.toInt * fp.toInt := by
    rw [fb_mulL (by rw [Int32.toInt_toInt64, Int32.toInt_toInt64]; omega) (by rw [Int32.toInt_toInt64, Int32.toInt_toInt64]; omega), Int32.toInt_toInt64, Int32.toInt_toInt64]
  have l2 : (Int32.toInt64 (p - x) * Int32.toInt64 sp).toInt = (p.toInt - x.toInt) * sp.toInt := by
    rw [fb_mulL (by rw [Int32.toInt_toInt64, Int32.toInt_toInt64, e2]; omega) (by rw [Int32.toInt_toInt64, Int32.toInt_toInt64, e2]; omega), Int32.toInt_toInt64, Int32.toInt_toInt64, e2]
  rw [fb_addL (by rw [l1, l2]; omega) (by rw [l1, l2]; omega), l1, l2, Int32.toInt_toInt64, fb_addI (by rw [e1, e3]; omega) (by rw [e1, e3]; omega), e1, e3]
/-- the grades that have orders -/
def f_hoz (og ol : Nat → Int32) (k : Nat) : Nat → Bool := fun i => f_ho og ol (nI i) k
/-- what a cut may take of each order -/
def m_cap (og : Nat → Int32) (lk : Nat → Nat) (g : Int32) : Nat → Nat := fun j => if og j = g then lk j else 0
theorem m_cap_t {og : Nat → Int32} {lk : Nat → Nat} {g : Int32} {j : Nat} (h : og j = g) : m_cap og lk g j = lk j := if_pos h
theorem m_cap_f {og : Nat → Int32} {lk : Nat → Nat} {g : Int32} {j : Nat} (h : og j ≠ g) : m_cap og lk g j = 0 := if_neg h
theorem m_cap_le {og : Nat → Int32} {lk : Nat → Nat} {g : Int32} {j : Nat} {M : Nat} (h : lk j ≤ M) : m_cap og lk g j ≤ M := by
  unfold m_cap; split <;> omega
theorem m_min_t {a b : Nat} (ha : a < 2 ^ 31) (hb : b < 2 ^ 31) (c : nI b ≤ nI a) : nI b = nI (min a b) := by
  rw [Nat.min_eq_right ((nI_leI hb ha).mp c)]
theorem m_min_f {a b : Nat} (ha : a < 2 ^ 31) (hb : b < 2 ^ 31) (c : ¬ nI b ≤ nI a) : nI a = nI (min a b) := by
  rw [Nat.min_eq_left (Nat.le_of_not_le (fun z => c ((nI_leI hb ha).mpr z)))]
