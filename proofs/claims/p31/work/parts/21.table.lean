/-! the table of fewest rolls for each sum -/
def tb_cap (cap : Nat → Nat) (i q : Nat) : Nat → Nat := fun j => if j < i then cap j else if j = i then q else 0
theorem tb_cap_i (cap : Nat → Nat) (i q : Nat) : tb_cap cap i q i = q := by
  simp only [tb_cap]
  rw [if_neg (Nat.lt_irrefl i), if_pos trivial]
theorem tb_cap_ne (cap : Nat → Nat) {i j : Nat} (q q2 : Nat) (h : ¬ j = i) : tb_cap cap i q j = tb_cap cap i q2 j := by
  simp only [tb_cap]
  rw [if_neg h, if_neg h]
def tb_R (cap w : Nat → Nat) (i q c s : Nat) : Prop := ∃ r : Nat → Nat, (∀ j, j < 10 → r j ≤ tb_cap cap i q j) ∧ fb_sm r 10 = c ∧ fb_sm (fun j => r j * w j) 10 = s
def tb_I (cap w : Nat → Nat) (room i q : Nat) (f : Nat → Nat) : Prop := (∀ s, s ≤ room → f s ≤ 6 → tb_R cap w i q (f s) s) ∧ ∀ c s, c ≤ 6 → s ≤ room → tb_R cap w i q c s → f s ≤ c
def tb_add (w room : Nat) (f : Nat → Nat) : Nat → Nat := fun s => if w ≤ s ∧ s ≤ room then min (f s) (f (s - w) + 1) else f s
theorem tb_0 (cap w : Nat → Nat) (room : Nat) (f : Nat → Nat) (h0 : f 0 = 0) (h : ∀ s, 0 < s → s ≤ room → f s = 7) : tb_I cap w room 0 0 f := by
  refine ⟨fun s hs h6 => ?_, fun c s hc hs hr => ?_⟩
  · rcases Nat.eq_zero_or_pos s with q | q
    · subst q
      refine ⟨fun _ => 0, fun _ _ => Nat.zero_le _, ?_, ?_⟩
      · rw [h0]; exact (fb_sm_const 0 10)
      · simp only [Nat.zero_mul]; exact (fb_sm_const 0 10)
    · have := h s q hs
      omega
  · obtain ⟨r, h1, h2, h3⟩ := hr
    have hz : ∀ j, j < 10 → r j = 0 := fun j hj => by
      have := h1 j hj
      simp only [tb_cap] at this
      rw [if_neg (by omega)] at this
      split at this <;> omega
    have e : s = 0 := by
      rw [← h3, fb_sm_cong (g := fun _ => 0) (fun j hj => by rw [hz j hj, Nat.zero_mul])]
      exact fb_sm_const 0 10
    subst e
    rw [h0]
    exact Nat.zero_le _
theorem tb_next {cap w : Nat → Nat} {room i : Nat} {f : Nat → Nat} (h : tb_I cap w room i (cap i) f) : tb_I cap w room (i + 1) 0 f := by
  have e : ∀ j, tb_cap cap i (cap i) j = tb_cap cap (i + 1) 0 j := fun j => by
    simp only [tb_cap]
    rcases Nat.lt_trichotomy j i with q | q | q
    · rw [if_pos q, if_pos (by omega)]
    · subst q
      rw [if_neg (by omega), if_pos rfl, if_pos (by omega)]
    · rw [if_neg (by omega), if_neg (by omega), if_neg (by omega)]
      by_cases q2 : j = i + 1
      · rw [if_pos q2]
      · rw [if_neg q2]
  have e2 : ∀ c s, tb_R cap w i (cap i) c s ↔ tb_R cap w (i + 1) 0 c s := fun c s => by
    simp only [tb_R, e]
  exact ⟨fun s hs h6 => (e2 _ _).mp (h.1 s hs h6), fun c s hc hs hr => h.2 c s hc hs ((e2 _ _).mpr hr)⟩
theorem tb_step {cap w : Nat → Nat} {room i q : Nat} {f : Nat → Nat} (hi : i < 10) (hw : 0 < w i) (h : tb_I cap w room i q f) : tb_I cap w room i (q + 1) (tb_add (w i) room f) := by
  have mono : ∀ c s, tb_R cap w i q c s → tb_R cap w i (q + 1) c s := fun c s hr => by
    obtain ⟨r, h1, h2, h3⟩ := hr
    refine ⟨r, fun j hj => Nat.le_trans (h1 j hj) ?_, h2, h3⟩
    simp only [tb_cap]
    split
    · exact Nat.le_refl _
    · split <;> omega
  refine ⟨fun s hs h6 => ?_, fun c s hc hs hr => ?_⟩
  · simp only [tb_add] at h6 ⊢
    by_cases c1 : w i ≤ s ∧ s ≤ room
    · rw [if_pos c1] at h6 ⊢
      rcases Nat.lt_or_ge (f (s - w i) + 1) (f s) with g | g
      · rw [Nat.min_eq_right (by omega)] at h6 ⊢
        obtain ⟨r, h1, h2, h3⟩ := h.1 (s - w i) (by omega) (by omega)
        have u1 := fb_sm_upd r (r i + 1) hi
        have u2 := fb_sm_upd (fun j => r j * w j) ((r i + 1) * w i) hi
        refine ⟨fun k => if k = i then r i + 1 else r k, fun j hj => ?_, by omega, ?_⟩
        · have := h1 j hj
          by_cases e : j = i
          · subst e
            rw [tb_cap_i] at this ⊢
            dsimp only
            rw [if_pos rfl]
            omega
          · rw [tb_cap_ne cap q (q + 1) e] at this
            dsimp only
            rw [if_neg e]
            exact this
        · have e : fb_sm (fun j => (if j = i then r i + 1 else r j) * w j) 10 = fb_sm (fun k => if k = i then (r i + 1) * w i else r k * w k) 10 := fb_sm_cong (fun j _ => by
            by_cases e : j = i
            · subst e; rw [if_pos rfl, if_pos rfl]
            · rw [if_neg e, if_neg e])
          rw [e]
          have e3 : (r i + 1) * w i = r i * w i + w i := Nat.succ_mul _ _
          omega
      · rw [Nat.min_eq_left (by omega)] at h6 ⊢
        exact mono _ _ (h.1 s hs h6)
    · rw [if_neg c1] at h6 ⊢
      exact mono _ _ (h.1 s hs h6)
  · obtain ⟨r, h1, h2, h3⟩ := hr
    have hri := h1 i hi
    rw [tb_cap_i] at hri
    rcases Nat.lt_or_ge q (r i) with g | g
    · have hri2 : r i = q + 1 := by omega
      have u1 := fb_sm_upd r q hi
      have u2 := fb_sm_upd (fun j => r j * w j) (q * w i) hi
      have e3 : r i * w i = q * w i + w i := by rw [hri2]; exact Nat.succ_mul _ _
      have e : fb_sm (fun j => (if j = i then q else r j) * w j) 10 = fb_sm (fun k => if k = i then q * w i else r k * w k) 10 := fb_sm_cong (fun j _ => by
        by_cases e : j = i
        · subst e; rw [if_pos rfl, if_pos rfl]
        · rw [if_neg e, if_neg e])
      have hle := h.2 (c - 1) (s - w i) (by omega) (by omega) ⟨fun k => if k = i then q else r k, fun j hj => by
        have := h1 j hj
        by_cases e : j = i
        · subst e
          dsimp only
          rw [if_pos rfl, tb_cap_i]
          exact Nat.le_refl _
        · rw [tb_cap_ne cap (q + 1) q e] at this
          dsimp only
          rw [if_neg e]
          exact this, by omega, by rw [e]; omega⟩
      simp only [tb_add]
      rw [if_pos (by omega)]
      omega
    · have hle := h.2 c s hc hs ⟨r, fun j hj => by
        have := h1 j hj
        by_cases e : j = i
        · subst e
          rw [tb_cap_i]
          exact g
        · rw [tb_cap_ne cap (q + 1) q e] at this
          exact this, h2, h3⟩
      simp only [tb_add]
      split
      · omega
      · exact hle
theorem tb_end {cap w : Nat → Nat} {room R : Nat} {f : Nat → Nat} (hw : ∀ j, j < 10 → 0 < cap j → 0 < w j) (h : tb_I cap w room 10 0 f) (h1 : R ≤ room) (h2 : 0 < R → f R ≤ 6) (h3 : ∀ s, R < s → s ≤ room → ¬ f s ≤ 6) : R = (ct_B cap w 10 0 6 room).1 := by
  have cap10 : ∀ j, j < 10 → tb_cap cap 10 0 j = cap j := fun j hj => by simp only [tb_cap]; rw [if_pos hj]
  apply Nat.le_antisymm
  · rcases Nat.eq_zero_or_pos R with q | q
    · rw [q]; exact Nat.zero_le _
    · obtain ⟨r, g1, g2, g3⟩ := h.1 R h1 (h2 q)
      have := ct_B_max cap w 10 0 6 room r (fun j hj => by rw [Nat.zero_add, ← cap10 j hj]; exact g1 j hj) (fun j hj hr => by rw [Nat.zero_add]; exact hw j hj (by have := g1 j hj; rw [cap10 j hj] at this; omega)) (by rw [g2]; exact h2 q) (by simp only [Nat.zero_add]; rw [g3]; exact h1)
      simp only [Nat.zero_add] at this
      rw [g3] at this
      exact this
  · obtain ⟨r, g1, g2, g3⟩ := ct_B_is cap w 10 0 6 room
    have hr := ct_B_room cap w 10 0 6 room
    rcases Nat.lt_or_ge R (ct_B cap w 10 0 6 room).1 with q | q
    · have := h.2 (fb_sm r 10) (ct_B cap w 10 0 6 room).1 g2 hr ⟨r, fun j hj => by rw [cap10 j hj]; have := g1 j hj; rw [Nat.zero_add] at this; exact this, rfl, by simp only [Nat.zero_add] at g3; exact g3⟩
      exact absurd (Nat.le_trans this g2) (h3 _ q hr)
    · exact q
