/-! the hour keeps what holds -/
theorem kp_tr (u : ST) (h : Inv u) : ∃ t, t ≤ s_mw u ∧ tr_u u = nI t := by
  have hB := inv_B u (s_mg u)
  exact ⟨s_mw u - (c_B u (s_mg u)).1, Nat.sub_le _ _, pk_sub hB⟩
theorem kp_b {u : ST} (h : Inv u) {g : Nat} (hg : g < s_gc u) (eg : s_mg u = nI g) : (0 ≤ (ms_u u).toInt ∧ (ms_u u).toInt ≤ 16000) ∧ (0 ≤ (ms_u u - b_u u).toInt ∧ (ms_u u - b_u u).toInt ≤ 16000) := by
  obtain ⟨n, hn, en⟩ := ms_nat h hg
  have en : ms_u u = nI n := (inv_ms h hg eg).symm.trans en
  obtain ⟨t, ht, et⟩ := kp_tr u h
  obtain ⟨-, ⟨hm1, hm2⟩, -⟩ := h
  have hnt : n * t ≤ 16000 * 800 := Nat.mul_le_mul hn (by omega)
  have eb : b_u u = nI (n * t / s_mw u) := by
    unfold b_u
    rw [en, et, pk_mul]
    exact pk_div (by omega) (by omega) (by omega)
  have hle : n * t / s_mw u ≤ n := Nat.div_le_of_le_mul (by rw [Nat.mul_comm (s_mw u) n]; exact Nat.mul_le_mul_left n ht)
  rw [eb, en]
  obtain ⟨q, hq⟩ : ∃ q, q = n * t / s_mw u := ⟨_, rfl⟩
  rw [← hq] at hle ⊢
  rw [pk_sub hle, nI_toInt (by omega), nI_toInt (by omega)]
  omega
theorem kp_ro {u : ST} (h : Inv u) (j : Nat) : ∃ r, r ≤ (s_ol u j).toNatClampNeg ∧ ro_u u j = nI r := by
  refine ⟨(c_B u (s_mg u)).2 j, ?_, rfl⟩
  have h1 := ct_B_cap (f_cap (s_og u) (c_lk u) (s_oc u) (s_mg u)) (c_w u) 10 0 6 (s_mw u) j
  have h2 : f_cap (s_og u) (c_lk u) (s_oc u) (s_mg u) j ≤ (s_ol u j).toNatClampNeg := by
    show (if j < s_oc u ∧ s_og u j = s_mg u then min (c_lk u j) 6 else 0) ≤ _
    split
    · show min ((s_ol u j).toNatClampNeg) 6 ≤ _; omega
    · omega
  exact Nat.le_trans h1 h2
theorem kp_paper {u : ST} (h : Inv u) (hh : s_hc u < 400) {g : Nat} (hg : g < s_gc u) (eg : s_mg u = nI g) : Inv (u_paper u) := by
  have hinv := h
  obtain ⟨b1, b2⟩ := kp_b h hg eg
  have hM := kp_make (c := 112) h hh b1 b2
  obtain ⟨t, ht, et⟩ := kp_tr u h
  obtain ⟨hgc, hmw, hmg, hup, hch, hoc, hsh, hli, hfp, hsp, hhc, hph, htr, hma, hpa, hwe, how, hord, hol, hok⟩ := h
  obtain ⟨-, -, -, -, -, -, -, -, -, -, khc, -, -, kma, kpa, -⟩ := hM
  have e1 : (s_ph u + 1).toInt = (s_ph u).toInt + 1 := fb_addI (y := 1) (show (-2147483648 : Int) ≤ (s_ph u).toInt + 1 by omega) (show (s_ph u).toInt + 1 < (2147483648 : Int) by omega)
  have e2 : (tr_u u).toInt = t := by rw [et, nI_toInt (by omega)]
  have e3 : (s_tr u + tr_u u).toInt = (s_tr u).toInt + (tr_u u).toInt := fb_addI (by omega) (by omega)
  refine ⟨hgc, hmw, hmg, hup, hch, hoc, hsh, hli, hfp, hsp, khc, ⟨(show 0 ≤ (s_ph u + 1).toInt by omega), (show (s_ph u + 1).toInt ≤ (s_hc u + 1 : Nat) by omega)⟩, ⟨(show 0 ≤ (s_tr u + tr_u u).toInt by omega), (show (s_tr u + tr_u u).toInt ≤ 800 * (s_hc u + 1 : Nat) by omega)⟩, kma, kpa, hwe, how, hord, fun j => ?_, fun j hj => ?_⟩
  · show 0 ≤ (f_subN (s_ol u) (ro_u u) (s_oc u) j).toInt ∧ (f_subN (s_ol u) (ro_u u) (s_oc u) j).toInt ≤ 50
    simp only [f_subN]
    by_cases c : j < s_oc u
    · rw [if_pos c]
      obtain ⟨r, hr, er⟩ := kp_ro hinv j
      have b := hol j
      have e := i_to b.1
      rw [er, i_of b.1, pk_sub hr, nI_toInt (by omega)]
      omega
    · rw [if_neg c]; exact hol j
  · show f_addN (s_ok u) (ro_u u) (s_oc u) j = 0
    have hj : s_oc u ≤ j := hj
    simp only [f_addN]
    rw [if_neg (by omega)]; exact hok j hj
theorem kp_h {u : ST} (h : Inv u) (hh : s_hc u < 400) : Inv (h_u u) := by
  unfold h_u
  by_cases c1 : ¬ 0 ≤ s_mg u
  · rw [if_pos c1]; exact kp_none h hh
  · rw [if_neg c1]
    obtain ⟨g, hg, eg⟩ := inv_mg h (Classical.not_not.mp c1)
    obtain ⟨b1, b2⟩ := kp_b h hg eg
    by_cases c2 : 0 < s_ch u
    · rw [if_pos c2]
      have hM := kp_make (c := 99) (b := ms_u u) h hh b1 (by rw [Int32.sub_self]; decide)
      exact kp_chg hM ⟨g, hg, eg⟩ c2
    · rw [if_neg c2]
      by_cases c3 : 0 < (c_B u (s_mg u)).1
      · rw [if_pos c3]; exact kp_paper h hh hg eg
      · rw [if_neg c3]; exact kp_none h hh
theorem kp_hc (u : ST) : s_hc (h_u u) = s_hc u + 1 := by
  unfold h_u
  split
  · rfl
  · split
    · rfl
    · split <;> rfl
/-- hours before the last stay as they were -/
theorem f_fs_cong {a b c a2 b2 c2 : Nat → Int32} : ∀ k, (∀ j, j < k → a j = a2 j ∧ b j = b2 j ∧ c j = c2 j) → f_fs a b c k = f_fs a2 b2 c2 k
  | 0, _ => rfl
  | k + 1, h => by
    obtain ⟨h1, h2, h3⟩ := h k (Nat.lt_succ_self k)
    rw [f_fs, f_fs, f_fs_cong k (fun j hj => h j (Nat.lt_succ_of_lt hj)), h1, h2, h3]
theorem f_fs_upd (a b c : Nat → Int32) (k : Nat) (x y z : Int32) : f_fs (upd a k x) (upd b k y) (upd c k z) (k + 1) = f_fs a b c k + (x - y - z) := by
  rw [f_fs, pk_us, pk_us, pk_us, f_fs_cong k (fun j hj => ⟨pk_un (by omega), pk_un (by omega), pk_un (by omega)⟩)]
