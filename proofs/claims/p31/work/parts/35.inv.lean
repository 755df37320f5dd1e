/-! what the invariant gives -/
theorem i_of {x : Int32} (h : 0 ≤ x.toInt) : x = nI x.toNatClampNeg := by
  obtain ⟨j, hj, rfl⟩ := nI_of (x := x) (by rw [fa_lt]; exact Int.not_lt.mpr h)
  rw [nI_clamp hj]
theorem i_to {x : Int32} (h : 0 ≤ x.toInt) : (x.toNatClampNeg : Int) = x.toInt := by
  obtain ⟨j, hj, rfl⟩ := nI_of (x := x) (by rw [fa_lt]; exact Int.not_lt.mpr h)
  rw [nI_clamp hj, nI_toInt hj]
theorem i_ix {p : Int32} {G : Nat} (hG : G ≤ 1000) (h : 0 ≤ p ∧ p < nI G) : ∃ j, j < G ∧ p = nI j := by
  obtain ⟨j, hj, rfl⟩ := nI_of (x := p) (Int32.not_lt.mpr h.1)
  exact ⟨j, (nI_ltI hj (by omega)).mp h.2, rfl⟩
section INV
variable {u : ST}
theorem inv_ow (h : Inv u) : ∀ j, j < 10 → s_ow u j = nI (c_w u j) := by
  obtain ⟨-, -, -, -, -, -, -, -, -, -, -, -, -, -, -, -, how, -, -, -⟩ := h
  exact fun j _ => i_of (how j).1
theorem inv_wb (h : Inv u) : ∀ j, j < 10 → c_w u j ≤ 400 := by
  obtain ⟨-, -, -, -, -, -, -, -, -, -, -, -, -, -, -, -, how, -, -, -⟩ := h
  intro j _
  have h1 := i_to (how j).1
  have h2 := (how j).2
  show (s_ow u j).toNatClampNeg ≤ 400
  omega
theorem inv_ol (h : Inv u) : ∀ j, j < 10 → s_ol u j = nI (c_lk u j) := by
  obtain ⟨-, -, -, -, -, -, -, -, -, -, -, -, -, -, -, -, -, -, hol, -⟩ := h
  exact fun j _ => i_of (hol j).1
theorem inv_lb (h : Inv u) : ∀ j, j < 10 → c_lk u j ≤ 1000 := by
  obtain ⟨-, -, -, -, -, -, -, -, -, -, -, -, -, -, -, -, -, -, hol, -⟩ := h
  intro j _
  have h1 := i_to (hol j).1
  have h2 := (hol j).2
  show (s_ol u j).toNatClampNeg ≤ 1000
  omega
theorem inv_pos (h : Inv u) (g : Int32) : ∀ j, j < 10 → 0 < f_cap (s_og u) (c_lk u) (s_oc u) g j → 0 < c_w u j := by
  obtain ⟨-, -, -, -, -, -, -, -, -, -, -, -, -, -, -, -, how, hord, -, -⟩ := h
  intro j _ hj
  simp only [f_cap] at hj
  by_cases c : j < s_oc u ∧ s_og u j = g
  · have h1 := i_to (how j).1
    have h2 := (hord j c.1).1
    show 0 < (s_ow u j).toNatClampNeg
    omega
  · rw [if_neg c] at hj
    exact absurd hj (by omega)
theorem inv_wf (h : Inv u) (g : Int32) : ∀ j, j < 10 → f_wf (f_cap (s_og u) (c_lk u) (s_oc u) g) (c_w u) (10 - j) ≤ 400 := fun _ _ => f_wf_le _ _ (inv_wb h) _
theorem inv_bd (u : ST) (g : Int32) : ∀ i j, i ≤ j → j < 10 → 0 < f_cap (s_og u) (c_lk u) (s_oc u) g j → c_w u j ≤ f_wf (f_cap (s_og u) (c_lk u) (s_oc u) g) (c_w u) (10 - i) := fun i j h1 h2 h3 => f_wf_ge _ _ (10 - i) j (by omega) h2 h3
theorem inv_B (u : ST) (g : Int32) : (c_B u g).1 ≤ s_mw u := ct_B_room _ _ _ _ _ _
/-- the machine's grade, where it has one -/
theorem inv_mg (h : Inv u) (c : 0 ≤ s_mg u) : ∃ g, g < s_gc u ∧ s_mg u = nI g := by
  obtain ⟨-, -, hmg, -⟩ := h
  rcases hmg with h1 | h1
  · rw [h1.1] at c; exact absurd c (by decide)
  · exact h1
theorem inv_mgn (h : Inv u) (c : ¬ (0 ≤ s_mg u ∧ s_mg u < nI (s_gc u))) : ¬ 0 ≤ s_mg u := by
  intro c2
  obtain ⟨g, hg, e⟩ := inv_mg h c2
  have hgc := h.1
  exact c ⟨c2, by rw [e]; exact (nI_ltI (by omega) (by omega)).mpr hg⟩
theorem inv_mg1 (h : Inv u) (c : ¬ 0 ≤ s_mg u) : s_mg u = -1 ∧ s_up u = 1 ∧ s_ch u = 0 := by
  obtain ⟨hgc, -, hmg, -⟩ := h
  rcases hmg with h1 | ⟨g, hg, e⟩
  · exact h1
  · rw [e] at c; exact absurd (nI_pos' (by omega)) c
theorem inv_ms (h : Inv u) {g : Nat} (hg : g < s_gc u) (e : s_mg u = nI g) : s_we u g * nI (s_mw u) / 10 = ms_u u := by
  have hgc := h.1
  show _ = s_we u (s_mg u).toNatClampNeg * nI (s_mw u) / 10
  rw [e, nI_clamp (by omega)]
end INV
theorem f_addN_cong {f g g2 : Nat → Int32} {k : Nat} (h : ∀ j, j < k → g j = g2 j) : f_addN f g k = f_addN f g2 k := by
  funext j
  simp only [f_addN]
  by_cases c : j < k
  · rw [if_pos c, if_pos c, h j c]
  · rw [if_neg c, if_neg c]
theorem f_subN_cong {f g g2 : Nat → Int32} {k : Nat} (h : ∀ j, j < k → g j = g2 j) : f_subN f g k = f_subN f g2 k := by
  funext j
  simp only [f_subN]
  by_cases c : j < k
  · rw [if_pos c, if_pos c, h j c]
  · rw [if_neg c, if_neg c]
theorem f_sum_cong {g g2 : Nat → Int32} : ∀ {k : Nat}, (∀ j, j < k → g j = g2 j) → f_sum g k = f_sum g2 k
  | 0, _ => rfl
  | k + 1, h => by rw [f_sum, f_sum, f_sum_cong (fun j hj => h j (by omega)), h k (by omega)]
theorem i_l_add {x y : Int32} (h1 : -2147483648 ≤ x.toInt + y.toInt) (h2 : x.toInt + y.toInt < 2147483648) : Int32.toInt64 x + Int32.toInt64 y = Int32.toInt64 (x + y) := by
  apply Int64.toInt.inj
  have hx := fb_rng x
  have hy := fb_rng y
  rw [fb_addL (by rw [Int32.toInt_toInt64, Int32.toInt_toInt64]; omega) (by rw [Int32.toInt_toInt64, Int32.toInt_toInt64]; omega)]
  rw [Int32.toInt_toInt64, Int32.toInt_toInt64, Int32.toInt_toInt64, fb_addI h1 h2]
theorem inv_ts {u : ST} (h : Inv u) : Int32.toInt64 (s_tr u) + Int32.toInt64 (tr_u u) = Int32.toInt64 (s_tr u + tr_u u) := by
  obtain ⟨-, ⟨hm1, hm2⟩, -, -, -, -, -, -, -, -, hhc, -, htr, -⟩ := h
  have hB := inv_B u (s_mg u)
  have e : (tr_u u).toInt = (s_mw u : Int) - (c_B u (s_mg u)).1 := pk_sub_toInt (by omega) (by omega)
  exact i_l_add (by omega) (by omega)
