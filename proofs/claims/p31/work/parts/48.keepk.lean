theorem kv_ring (k p q f b : Int32) : k + (p + q - f - (p - b) - q) = k + (b - f) := by grind
theorem kv_make {u : ST} {v : HX} (h : InvV u v) (c p b : Int32) : InvV (u_make u c p b) (v_make u v p b) := by
  show f_fs (upd v.1 (s_hc u) (m_fib p - m_fed (s_bk u) (s_sh u) p)) (upd v.2.1 (s_hc u) (p - b)) (upd v.2.2 (s_hc u) (p / 50)) (s_hc u + 1) = s_bk u + (b - m_fed (s_bk u) (s_sh u) p)
  rw [f_fs_upd, show f_fs v.1 v.2.1 v.2.2 (s_hc u) = s_bk u from h]
  exact kv_ring _ p (p / 50) _ b
theorem kv_none {u : ST} {v : HX} (h : InvV u v) : InvV (u_none u) (v_none u v) := by
  show f_fs (upd v.1 (s_hc u) 0) (upd v.2.1 (s_hc u) 0) (upd v.2.2 (s_hc u) 0) (s_hc u + 1) = s_bk u
  rw [f_fs_upd, show f_fs v.1 v.2.1 v.2.2 (s_hc u) = s_bk u from h]
  exact Int32.add_zero _
theorem kv_h {u : ST} {v : HX} (h : InvV u v) : InvV (h_u u) (h_v u v) := by
  unfold h_u h_v
  by_cases c1 : ¬ 0 ≤ s_mg u
  · rw [if_pos c1, if_pos c1]; exact kv_none h
  · rw [if_neg c1, if_neg c1]
    by_cases c2 : 0 < s_ch u
    · rw [if_pos c2, if_pos c2]; exact kv_make h 99 (ms_u u) (ms_u u)
    · rw [if_neg c2, if_neg c2]
      by_cases c3 : 0 < (c_B u (s_mg u)).1
      · rw [if_pos c3, if_pos c3]; exact kv_make h 112 (ms_u u) (b_u u)
      · rw [if_neg c3, if_neg c3]; exact kv_none h
theorem kd_upd {f : Nat → Int32} {k : Nat} {x : Int32} (h : ∀ j, narrow .char (.int (f j)) = .int (f j)) (hx : narrow .char (.int x) = .int x) (j : Nat) : narrow .char (.int (upd f k x j)) = .int (upd f k x j) := by
  by_cases c : j = k
  · subst c; rw [pk_us]; exact hx
  · rw [pk_un c]; exact h j
theorem kd_h {u : ST} (h : KD u) : KD (h_u u) := by
  unfold h_u
  by_cases c1 : ¬ 0 ≤ s_mg u
  · rw [if_pos c1]; exact fun j => kd_upd h (pk_charN (q := 110) (by decide)).1 j
  · rw [if_neg c1]
    by_cases c2 : 0 < s_ch u
    · rw [if_pos c2]; exact fun j => kd_upd h (pk_charN (q := 99) (by decide)).1 j
    · rw [if_neg c2]
      by_cases c3 : 0 < (c_B u (s_mg u)).1
      · rw [if_pos c3]; exact fun j => kd_upd h (pk_charN (q := 112) (by decide)).1 j
      · rw [if_neg c3]; exact fun j => kd_upd h (pk_charN (q := 110) (by decide)).1 j
theorem kp_p {u : ST} (h : Inv u) : ∀ k, s_hc u + k ≤ 400 → Inv (p_u u k) ∧ s_hc (p_u u k) = s_hc u + k
  | 0, _ => ⟨h, rfl⟩
  | k + 1, hk => by
    obtain ⟨h1, h2⟩ := kp_p h k (by omega)
    exact ⟨kp_h h1 (by omega), (kp_hc _).trans (by rw [h2]; rfl)⟩
theorem kv_p {u : ST} {v : HX} (h : InvV u v) : ∀ k, InvV (p_u u k) (p_v u v k)
  | 0 => h
  | k + 1 => kv_h (kv_p h k)
theorem kd_p {u : ST} (h : KD u) : ∀ k, KD (p_u u k)
  | 0 => h
  | k + 1 => kd_h (kd_p h k)
theorem kp_pass {u : ST} {v : HX} {p : Int32} (h : All u v) (hk : k_pass u p = 0) : All (p_u u p.toNatClampNeg) (p_v u v p.toNatClampNeg) := by
  refine ⟨(kp_p h.1 p.toNatClampNeg ?_).1, kv_p h.2.1 _, kd_p h.2.2 _⟩
  have hhc : s_hc u ≤ 400 := h.1.2.2.2.2.2.2.2.2.2.2.1
  unfold k_pass at hk
  by_cases c1 : ¬ (1 ≤ p ∧ p ≤ 48)
  · rw [if_pos c1] at hk; exact absurd hk (by decide)
  · rw [if_neg c1] at hk
    have hp : 1 ≤ p ∧ p ≤ 48 := Classical.not_not.mp c1
    obtain ⟨n, hn, rfl⟩ : ∃ n, n ≤ 48 ∧ p = nI n := nI_of2 (M := 48) (n := 48) rfl (fun h => absurd (Int32.lt_of_lt_of_le h (by decide : (0 : Int32) ≤ 1)) (Int32.not_lt.mpr hp.1)) hp.2
    rw [nI_clamp (by omega)]
    by_cases c2 : nI (400 - s_hc u) < nI n
    · rw [if_pos c2] at hk; exact absurd hk (by decide)
    · have : ¬ 400 - s_hc u < n := fun z => c2 ((nI_ltI (by omega) (by omega)).mpr z)
      omega
