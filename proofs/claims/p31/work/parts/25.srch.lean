/-! the class's search: what is too wide is passed over, what cannot be greater is left out -/
def ct_Ls (f : Nat → Nat × (Nat → Nat)) (w room : Nat) : Nat → Int32 × (Nat → Nat) → Int32 × (Nat → Nat)
  | 0, st => st
  | q + 1, st => ct_Ls f w room q (if q * w ≤ room then ct_app st (f q) else st)
theorem ct_Ls_L (f : Nat → Nat × (Nat → Nat)) (w room : Nat) : ∀ (q : Nat) (st : Int32 × (Nat → Nat)), (∀ r, r < q → r * w ≤ room) → ct_Ls f w room q st = ct_L f q st
  | 0, _, _ => rfl
  | q + 1, st, h => by
    rw [ct_Ls, ct_L, if_pos (h q (by omega))]
    exact ct_Ls_L f w room q _ (fun r hr => h r (by omega))
theorem ct_Ls_skip (f : Nat → Nat × (Nat → Nat)) (w room : Nat) : ∀ (x q : Nat) (st : Int32 × (Nat → Nat)), (∀ r, q ≤ r → ¬ r * w ≤ room) → ct_Ls f w room (q + x) st = ct_Ls f w room q st
  | 0, _, _, _ => rfl
  | x + 1, q, st, h => by
    rw [show q + (x + 1) = (q + x) + 1 from rfl, ct_Ls, if_neg (h _ (by omega))]
    exact ct_Ls_skip f w room x q st h
theorem ct_Ls_node (cap w : Nat → Nat) (k a left room sum : Nat) (tv : Nat → Nat) (hs : sum + room < 2 ^ 31) (st : Int32 × (Nat → Nat)) (hpos : 0 < cap a → 0 < w a) :
    ct_Ls (ct_g cap w k a left room sum tv) (w a) room (min (cap a) left + 1) st = ct_app st (sum + (ct_B cap w (k + 1) a left room).1, ct_mix a tv (ct_B cap w (k + 1) a left room).2) := by
  rw [← ct_g_node cap w k a left room sum tv hs st _ rfl]
  rcases Nat.eq_zero_or_pos (w a) with q | q
  · have e : cap a = 0 := by
      rcases Nat.eq_zero_or_pos (cap a) with z | z
      · exact z
      · exact absurd (hpos z) (by omega)
    rw [e, Nat.zero_min, Nat.zero_min]
    exact ct_Ls_L _ _ _ 1 st (fun r hr => by rw [show r = 0 by omega, Nat.zero_mul]; exact Nat.zero_le _)
  · obtain ⟨x, hx⟩ : ∃ x, min (cap a) left + 1 = (min (min (cap a) left) (room / w a) + 1) + x := ⟨min (cap a) left - min (min (cap a) left) (room / w a), by omega⟩
    rcases Nat.lt_or_ge (room / w a) (min (cap a) left) with g | g
    · rw [hx, ct_Ls_skip]
      · exact ct_Ls_L _ _ _ _ st (fun r hr => ct_mul (by omega))
      · intro r hr h
        have := (Nat.le_div_iff_mul_le q).mpr h
        omega
    · rw [show min (min (cap a) left) (room / w a) = min (cap a) left by omega]
      exact ct_Ls_L _ _ _ _ st (fun r hr => ct_mul (by omega))
theorem sr_app_le {st : Int32 × (Nat → Nat)} {x : Nat × (Nat → Nat)} {n : Nat} (h : ¬ st.1 < nI n) (hx : x.1 ≤ n) (hn : n < 2 ^ 31) : ct_app st x = st :=
  if_neg (fun q => h (Int32.lt_of_lt_of_le q ((nI_leI (by omega) hn).mpr hx)))
/-- the state of a search: the greatest sum and its cut -/
def sr_ok (bs : Int32) (fb : Nat → Int32) (st : Int32 × (Nat → Nat)) : Prop := bs = st.1 ∧ ∀ j, j < 10 → fb j = nI (st.2 j)
theorem sr_base {cp w : Nat → Nat} {bs bs2 : Int32} {fb fb2 ft : Nat → Int32} {bv tv : Nat → Nat} {sm rm lf : Nat} (h1 : bs2 = (if bs < nI sm then nI sm else bs)) (h2 : ∀ j, j < 10 → fb2 j = if bs < nI sm then ft j else fb j) (hfb : ∀ j, j < 10 → fb j = nI (bv j)) (hft : ∀ j, j < 10 → ft j = nI (tv j)) :
    sr_ok bs2 fb2 (ct_app (bs, bv) (sm + (ct_B cp w 0 10 lf (rm - sm)).1, ct_mix 10 tv (ct_B cp w 0 10 lf (rm - sm)).2)) := by
  simp only [ct_B, Nat.add_zero]
  by_cases c : bs < nI sm
  · rw [show ct_app (bs, bv) (sm, ct_mix 10 tv fun _ => 0) = (nI sm, ct_mix 10 tv fun _ => 0) from if_pos c]
    refine ⟨by rw [h1, if_pos c], fun j hj => ?_⟩
    rw [h2 j hj, if_pos c, hft j hj]
    simp only [ct_mix]
    rw [if_pos hj]
  · rw [show ct_app (bs, bv) (sm, ct_mix 10 tv fun _ => 0) = (bs, bv) from if_neg c]
    refine ⟨by rw [h1, if_neg c], fun j hj => ?_⟩
    rw [h2 j hj, if_neg c, hfb j hj]
theorem sr_prune {cp w wf : Nat → Nat} {bs : Int32} {bv tv : Nat → Nat} {k a lf sm rm : Nat} (ha : a + (k + 1) = 10) (hrm : rm ≤ 800) (hsm : sm ≤ rm) (hbd : ∀ i j, i ≤ j → j < 10 → 0 < cp j → w j ≤ wf i) (hlw : lf * wf a ≤ 2400) (c : ¬ bs < nI (sm + min (lf * wf a) (rm - sm))) :
    ct_app (bs, bv) (sm + (ct_B cp w (k + 1) a lf (rm - sm)).1, ct_mix a tv (ct_B cp w (k + 1) a lf (rm - sm)).2) = (bs, bv) := by
  have h1 := ct_B_room cp w (k + 1) a lf (rm - sm)
  have h2 := ct_B_left cp w (wf a) (k + 1) a lf (rm - sm) (fun j q1 q2 q3 => hbd a j q1 (by omega) q3)
  exact sr_app_le c (by dsimp only; omega) (by omega)
/-- one choice tried -/
theorem sr_try {cp w : Nat → Nat} {k a lf sm rm t : Nat} {tv : Nat → Nat} {st : Int32 × (Nat → Nat)} (h : t * w a ≤ rm - sm) :
    ct_app st (sm + t * w a + (ct_B cp w k (a + 1) (lf - t) (rm - (sm + t * w a))).1, ct_mix (a + 1) (fun j => if j = a then t else tv j) (ct_B cp w k (a + 1) (lf - t) (rm - (sm + t * w a))).2) = ct_app st (ct_g cp w k a lf (rm - sm) sm tv t) := by
  have e1 : ct_mix (a + 1) (fun j => if j = a then t else tv j) (ct_B cp w k (a + 1) (lf - t) (rm - (sm + t * w a))).2 = ct_mix a tv (fun j => if j = a then t else (ct_B cp w k (a + 1) (lf - t) (rm - (sm + t * w a))).2 j) :=
    ct_mix_succ (r := t) (fun j hj => if_neg (by omega)) (if_pos rfl)
  rw [e1, Nat.add_assoc]
  simp only [ct_g, ct_f]
  rw [Nat.sub_sub]
theorem sr_tv {ft ft1 : Nat → Int32} {tv : Nat → Nat} {a t : Nat} (h1 : ∀ j, j < a → ft1 j = ft j) (h2 : ∀ j, j < a → ft j = nI (tv j)) : ∀ j, j < a + 1 → upd ft1 a (nI t) j = nI (if j = a then t else tv j) := by
  intro j hj
  by_cases e : j = a
  · subst e; rw [pk_us, if_pos rfl]
  · rw [pk_un e, if_neg e, h1 j (by omega), h2 j (by omega)]
