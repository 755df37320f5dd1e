/-! the best cut of the orders from a on: its sum and its rolls; of several, most rolls of the first order, and so on -/
def ct_D (f : Nat → Nat × (Nat → Nat)) : Nat → Nat × (Nat → Nat)
  | 0 => f 0
  | m + 1 => if (f (m + 1)).1 < (ct_D f m).1 then ct_D f m else f (m + 1)
def ct_B (cap w : Nat → Nat) : Nat → Nat → Nat → Nat → Nat × (Nat → Nat)
  | 0, _, _, _ => (0, fun _ => 0)
  | k + 1, a, left, room => ct_D (fun r => (r * w a + (ct_B cap w k (a + 1) (left - r) (room - r * w a)).1, fun j => if j = a then r else (ct_B cap w k (a + 1) (left - r) (room - r * w a)).2 j)) (min (min (cap a) left) (room / w a))
/-- the choices at a -/
def ct_f (cap w : Nat → Nat) (k a left room : Nat) : Nat → Nat × (Nat → Nat) := fun r => (r * w a + (ct_B cap w k (a + 1) (left - r) (room - r * w a)).1, fun j => if j = a then r else (ct_B cap w k (a + 1) (left - r) (room - r * w a)).2 j)
theorem ct_B_succ (cap w : Nat → Nat) (k a left room : Nat) : ct_B cap w (k + 1) a left room = ct_D (ct_f cap w k a left room) (min (min (cap a) left) (room / w a)) := rfl
theorem ct_D_le (f : Nat → Nat × (Nat → Nat)) : ∀ (m r : Nat), r ≤ m → (f r).1 ≤ (ct_D f m).1
  | 0, r, h => by
    have e : r = 0 := by omega
    subst e
    exact Nat.le_refl _
  | m + 1, r, h => by
    rw [ct_D]
    by_cases c : (f (m + 1)).1 < (ct_D f m).1
    · rw [if_pos c]
      rcases Nat.lt_or_ge m r with q | q
      · have e : r = m + 1 := by omega
        subst e
        omega
      · exact ct_D_le f m r q
    · rw [if_neg c]
      rcases Nat.lt_or_ge m r with q | q
      · have e : r = m + 1 := by omega
        subst e
        exact Nat.le_refl _
      · have := ct_D_le f m r q
        omega
theorem ct_D_ex (f : Nat → Nat × (Nat → Nat)) : ∀ m : Nat, ∃ r, r ≤ m ∧ ct_D f m = f r
  | 0 => ⟨0, Nat.le_refl _, rfl⟩
  | m + 1 => by
    rw [ct_D]
    by_cases c : (f (m + 1)).1 < (ct_D f m).1
    · rw [if_pos c]
      obtain ⟨r, h1, h2⟩ := ct_D_ex f m
      exact ⟨r, by omega, h2⟩
    · rw [if_neg c]
      exact ⟨m + 1, Nat.le_refl _, rfl⟩
theorem ct_mul {r w room : Nat} (h : r ≤ room / w) : r * w ≤ room := Nat.le_trans (Nat.mul_le_mul_right w h) (Nat.div_mul_le_self room w)
theorem ct_B_room (cap w : Nat → Nat) : ∀ (k a left room : Nat), (ct_B cap w k a left room).1 ≤ room
  | 0, _, _, _ => Nat.zero_le _
  | k + 1, a, left, room => by
    rw [ct_B_succ]
    obtain ⟨r, h1, h2⟩ := ct_D_ex (ct_f cap w k a left room) (min (min (cap a) left) (room / w a))
    rw [h2]
    have h3 : r * w a ≤ room := ct_mul (by omega)
    have h4 := ct_B_room cap w k (a + 1) (left - r) (room - r * w a)
    show r * w a + _ ≤ room
    omega
theorem ct_B_left (cap w : Nat → Nat) (M : Nat) : ∀ (k a left room : Nat), (∀ j, a ≤ j → j < a + k → 0 < cap j → w j ≤ M) → (ct_B cap w k a left room).1 ≤ left * M
  | 0, _, _, _, _ => Nat.zero_le _
  | k + 1, a, left, room, h => by
    rw [ct_B_succ]
    obtain ⟨r, h1, h2⟩ := ct_D_ex (ct_f cap w k a left room) (min (min (cap a) left) (room / w a))
    rw [h2]
    have h4 := ct_B_left cap w M k (a + 1) (left - r) (room - r * w a) (fun j q1 q2 => h j (by omega) (by omega))
    show r * w a + _ ≤ left * M
    rcases Nat.eq_zero_or_pos r with q | q
    · subst q
      simp only [Nat.zero_mul, Nat.zero_add, Nat.sub_zero] at h4 ⊢
      exact h4
    · have h5 : w a ≤ M := h a (Nat.le_refl _) (by omega) (by omega)
      have h6 : r * w a ≤ r * M := Nat.mul_le_mul_left r h5
      have h7 : (left - r) * M + r * M = left * M := by rw [← Nat.add_mul]; congr 1; omega
      omega
/-- orders that give nothing behind the last change nothing -/
theorem ct_B_more (cap w : Nat → Nat) (x : Nat) : ∀ (k a left room : Nat), (∀ j, a + k ≤ j → cap j = 0) → (ct_B cap w (k + x) a left room).1 = (ct_B cap w k a left room).1 ∧ ∀ j, (ct_B cap w (k + x) a left room).2 j = (ct_B cap w k a left room).2 j
  | 0, a, left, room, h => by
    induction x generalizing a left room with
    | zero => exact ⟨rfl, fun _ => rfl⟩
    | succ x ih =>
      have hc : cap a = 0 := h a (by omega)
      obtain ⟨h1, h2⟩ := ih (a + 1) left room (fun j q => h j (by omega))
      rw [show 0 + (x + 1) = (0 + x) + 1 from rfl, ct_B_succ, hc]
      simp only [Nat.zero_min, ct_D, ct_f, Nat.zero_mul, Nat.zero_add, Nat.sub_zero] at h1 h2 ⊢
      refine ⟨h1, fun j => ?_⟩
      by_cases e : j = a
      · rw [if_pos e]; rfl
      · rw [if_neg e]; exact h2 j
  | k + 1, a, left, room, h => by
    have hk : ∀ (l r : Nat), (ct_B cap w (k + x) (a + 1) l r).1 = (ct_B cap w k (a + 1) l r).1 ∧ ∀ j, (ct_B cap w (k + x) (a + 1) l r).2 j = (ct_B cap w k (a + 1) l r).2 j := fun l r => ct_B_more cap w x k (a + 1) l r (fun j q => h j (by omega))
    have e : ct_f cap w (k + x) a left room = ct_f cap w k a left room := by
      funext r
      simp only [ct_f]
      rw [(hk _ _).1]
      congr 1
      funext j
      rw [(hk _ _).2]
    rw [show k + 1 + x = (k + x) + 1 by omega, ct_B_succ, ct_B_succ, e]
    exact ⟨rfl, fun _ => rfl⟩
/-- only what the orders give matters, and their widths where they give something -/
theorem ct_B_cong {cap cap2 w w2 : Nat → Nat} : ∀ (k a left room : Nat), (∀ j, a ≤ j → j < a + k → min (cap j) left = min (cap2 j) left ∧ (0 < min (cap j) left → w j = w2 j)) → ct_B cap w k a left room = ct_B cap2 w2 k a left room
  | 0, _, _, _, _ => rfl
  | k + 1, a, left, room, h => by
    obtain ⟨h1, h2⟩ := h a (Nat.le_refl _) (by omega)
    rw [ct_B_succ, ct_B_succ, ← h1]
    rcases Nat.eq_zero_or_pos (min (cap a) left) with q | q
    · rw [q]
      simp only [Nat.zero_min, ct_D, ct_f, Nat.zero_mul, Nat.sub_zero]
      rw [ct_B_cong (cap := cap) (cap2 := cap2) (w := w) (w2 := w2) k (a + 1) left room (fun j q1 q2 => h j (by omega) (by omega))]
    · have ew := h2 q
      have e : ct_f cap w k a left room = ct_f cap2 w2 k a left room := by
        funext r
        simp only [ct_f]
        rw [← ew, ct_B_cong (cap := cap) (cap2 := cap2) (w := w) (w2 := w2) k (a + 1) (left - r) (room - r * w a) (fun j q1 q2 => by
          obtain ⟨g1, g2⟩ := h j (by omega) (by omega)
          exact ⟨by omega, fun g => g2 (by omega)⟩)]
      rw [e, ew]
/-! a search that keeps the best so far -/
def ct_app (st : Int32 × (Nat → Nat)) (x : Nat × (Nat → Nat)) : Int32 × (Nat → Nat) := if st.1 < nI x.1 then (nI x.1, x.2) else st
def ct_L (f : Nat → Nat × (Nat → Nat)) : Nat → Int32 × (Nat → Nat) → Int32 × (Nat → Nat)
  | 0, st => st
  | q + 1, st => ct_L f q (ct_app st (f q))
theorem ct_app2 (st : Int32 × (Nat → Nat)) {x y : Nat × (Nat → Nat)} (hx : x.1 < 2 ^ 31) (hy : y.1 < 2 ^ 31) : ct_app (ct_app st x) y = ct_app st (if x.1 < y.1 then y else x) := by
  have e := nI_ltI hx hy
  by_cases c2 : x.1 < y.1
  · rw [if_pos c2]
    by_cases c1 : st.1 < nI x.1
    · rw [show ct_app st x = (nI x.1, x.2) from if_pos c1, show ct_app (nI x.1, x.2) y = (nI y.1, y.2) from if_pos (e.mpr c2), show ct_app st y = (nI y.1, y.2) from if_pos (Int32.lt_trans c1 (e.mpr c2))]
    · rw [show ct_app st x = st from if_neg c1]
  · rw [if_neg c2]
    by_cases c1 : st.1 < nI x.1
    · rw [show ct_app st x = (nI x.1, x.2) from if_pos c1]
      exact if_neg (fun h => c2 (e.mp h))
    · rw [show ct_app st x = st from if_neg c1]
      exact if_neg (fun h => c1 (Int32.lt_of_lt_of_le h ((nI_leI hy hx).mpr (by omega))))
theorem ct_L_D (f : Nat → Nat × (Nat → Nat)) (hf : ∀ r, (f r).1 < 2 ^ 31) : ∀ (m : Nat) (st : Int32 × (Nat → Nat)), ct_L f (m + 1) st = ct_app st (ct_D f m)
  | 0, st => rfl
  | m + 1, st => by
    rw [ct_L, ct_L_D f hf m, ct_app2 st (hf _) (by obtain ⟨r, -, h⟩ := ct_D_ex f m; rw [h]; exact hf r), ct_D]
/-- the same with a sum before it and a beginning -/
def ct_mix (a : Nat) (tv v : Nat → Nat) : Nat → Nat := fun j => if j < a then tv j else v j
theorem ct_D_map (f : Nat → Nat × (Nat → Nat)) (n : Nat) (g : (Nat → Nat) → Nat → Nat) : ∀ m : Nat, ct_D (fun r => (n + (f r).1, g (f r).2)) m = (n + (ct_D f m).1, g (ct_D f m).2)
  | 0 => rfl
  | m + 1 => by
    simp only [ct_D]
    rw [ct_D_map f n g m]
    by_cases c : (f (m + 1)).1 < (ct_D f m).1
    · rw [if_pos c, if_pos (by simp only; omega)]
    · rw [if_neg c, if_neg (by simp only; omega)]
theorem ct_mix_succ {a r : Nat} {tv tv2 v : Nat → Nat} (h1 : ∀ j, j < a → tv2 j = tv j) (h2 : tv2 a = r) : ct_mix (a + 1) tv2 v = ct_mix a tv (fun j => if j = a then r else v j) := by
  funext j
  simp only [ct_mix]
  rcases Nat.lt_trichotomy j a with q | q | q
  · rw [if_pos (by omega), if_pos q, h1 j q]
  · subst q
    rw [if_pos (by omega), if_neg (by omega), if_pos rfl, h2]
  · rw [if_neg (by omega), if_neg (by omega), if_neg (by omega)]
/-- the candidates at a node of the search, with the sum so far and the rolls chosen so far -/
def ct_g (cap w : Nat → Nat) (k a left room sum : Nat) (tv : Nat → Nat) : Nat → Nat × (Nat → Nat) := fun r => (sum + (ct_f cap w k a left room r).1, ct_mix a tv (ct_f cap w k a left room r).2)
theorem ct_g_node (cap w : Nat → Nat) (k a left room sum : Nat) (tv : Nat → Nat) (hs : sum + room < 2 ^ 31) (st : Int32 × (Nat → Nat)) (m : Nat) (hm : m = min (min (cap a) left) (room / w a)) :
    ct_L (ct_g cap w k a left room sum tv) (m + 1) st = ct_app st (sum + (ct_B cap w (k + 1) a left room).1, ct_mix a tv (ct_B cap w (k + 1) a left room).2) := by
  -- beyond m the sums may be greater than the room: cut them off
  have key : ∀ (q : Nat) (st : Int32 × (Nat → Nat)), q ≤ m → ct_L (ct_g cap w k a left room sum tv) (q + 1) st = ct_app st (ct_D (ct_g cap w k a left room sum tv) q) := by
    intro q
    have hb : ∀ r, r ≤ m → (ct_g cap w k a left room sum tv r).1 < 2 ^ 31 := by
      intro r hr
      have h3 : r * w a ≤ room := ct_mul (by omega)
      have h4 := ct_B_room cap w k (a + 1) (left - r) (room - r * w a)
      show sum + (r * w a + _) < 2 ^ 31
      omega
    induction q with
    | zero => intro st _; rfl
    | succ q ih =>
      intro st hq
      rw [ct_L, ih _ (by omega), ct_app2 st (hb _ hq) (by obtain ⟨r, h0, h⟩ := ct_D_ex (ct_g cap w k a left room sum tv) q; rw [h]; exact hb r (by omega)), ct_D]
  rw [key m st (Nat.le_refl _), ct_B_succ, ← hm]
  congr 1
  exact ct_D_map (ct_f cap w k a left room) sum (ct_mix a tv) m
/-! what can be cut at all: the greatest sum is that of B -/
def ct_ok (cap : Nat → Nat) (r : Nat → Nat) : Prop := ∀ j, r j ≤ cap j
theorem ct_sm_shift (f : Nat → Nat) : ∀ n, fb_sm f (n + 1) = f 0 + fb_sm (fun j => f (j + 1)) n
  | 0 => by simp [fb_sm]
  | n + 1 => by rw [fb_sm_succ, ct_sm_shift f n, fb_sm_succ]; omega
theorem ct_B_is (cap w : Nat → Nat) : ∀ (k a left room : Nat), ∃ r : Nat → Nat, (∀ j, j < k → r j ≤ cap (a + j)) ∧ fb_sm r k ≤ left ∧ fb_sm (fun j => r j * w (a + j)) k = (ct_B cap w k a left room).1
  | 0, a, left, room => ⟨fun _ => 0, fun _ h => absurd h (Nat.not_lt_zero _), Nat.zero_le _, rfl⟩
  | k + 1, a, left, room => by
    obtain ⟨r0, h1, h2⟩ := ct_D_ex (ct_f cap w k a left room) (min (min (cap a) left) (room / w a))
    obtain ⟨r, g1, g2, g3⟩ := ct_B_is cap w k (a + 1) (left - r0) (room - r0 * w a)
    refine ⟨fun j => match j with | 0 => r0 | j + 1 => r j, fun j hj => ?_, ?_, ?_⟩
    · cases j with
      | zero => show r0 ≤ cap (a + 0); rw [Nat.add_zero]; omega
      | succ j => show r j ≤ cap (a + (j + 1)); rw [show a + (j + 1) = a + 1 + j by omega]; exact g1 j (by omega)
    · rw [ct_sm_shift]
      show r0 + fb_sm r k ≤ left
      omega
    · rw [ct_sm_shift, ct_B_succ, h2]
      show r0 * w (a + 0) + fb_sm (fun j => r j * w (a + (j + 1))) k = r0 * w a + _
      rw [← g3, Nat.add_zero]
      congr 1
      exact fb_sm_cong (fun j _ => by rw [show a + (j + 1) = a + 1 + j by omega])
theorem ct_B_max (cap w : Nat → Nat) : ∀ (k a left room : Nat) (r : Nat → Nat), (∀ j, j < k → r j ≤ cap (a + j)) → (∀ j, j < k → 0 < r j → 0 < w (a + j)) → fb_sm r k ≤ left → fb_sm (fun j => r j * w (a + j)) k ≤ room → fb_sm (fun j => r j * w (a + j)) k ≤ (ct_B cap w k a left room).1
  | 0, _, _, _, _, _, _, _, _ => Nat.zero_le _
  | k + 1, a, left, room, r, h1, hw, h2, h3 => by
    rw [ct_sm_shift] at h2 h3 ⊢
    simp only [Nat.add_zero] at h3 ⊢
    have e : fb_sm (fun j => r (j + 1) * w (a + (j + 1))) k = fb_sm (fun j => r (j + 1) * w (a + 1 + j)) k := fb_sm_cong (fun j _ => by rw [show a + (j + 1) = a + 1 + j by omega])
    rw [e] at h3 ⊢
    have ih := ct_B_max cap w k (a + 1) (left - r 0) (room - r 0 * w a) (fun j => r (j + 1)) (fun j hj => by rw [show a + 1 + j = a + (j + 1) by omega]; exact h1 (j + 1) (by omega)) (fun j hj h => by rw [show a + 1 + j = a + (j + 1) by omega]; exact hw (j + 1) (by omega) h) (by omega) (by omega)
    have hm : r 0 ≤ min (min (cap a) left) (room / w a) := by
      have q1 := h1 0 (by omega)
      rw [Nat.add_zero] at q1
      rcases Nat.eq_zero_or_pos (r 0) with q | q
      · rw [q]; exact Nat.zero_le _
      · have q2 := hw 0 (by omega) q
        rw [Nat.add_zero] at q2
        have q3 : r 0 ≤ room / w a := (Nat.le_div_iff_mul_le q2).mpr (by omega)
        omega
    have h9 := ct_D_le (ct_f cap w k a left room) _ _ hm
    rw [ct_B_succ]
    refine Nat.le_trans ?_ h9
    show _ ≤ r 0 * w a + _
    omega
