/-! the best cut, said by what it is: the greatest sum; of several the one that has most of the first, and so on -/
def bs_S (n : Nat) (w v : Nat → Nat) : Nat := fb_sm (fun j => v j * w j) n
def bs_v (n : Nat) (cap w : Nat → Nat) (left room : Nat) (v : Nat → Nat) : Prop := (∀ j, j < n → v j ≤ cap j) ∧ fb_sm v n ≤ left ∧ bs_S n w v ≤ room
def bs_e (n : Nat) (a b : Nat → Nat) : Prop := ∀ j, j < n → a j = b j
def bs_l (n : Nat) (a b : Nat → Nat) : Prop := ∃ k, k < n ∧ a k < b k ∧ ∀ j, j < k → a j = b j
def bs_B (n : Nat) (cap w : Nat → Nat) (left room : Nat) (b : Nat → Nat) : Prop := bs_v n cap w left room b ∧ ∀ v, bs_v n cap w left room v → bs_S n w v < bs_S n w b ∨ (bs_S n w v = bs_S n w b ∧ (bs_e n v b ∨ bs_l n v b))
theorem bs_l_not {n : Nat} {a b : Nat → Nat} (h : bs_l n a b) (g : bs_e n b a ∨ bs_l n b a) : False := by
  obtain ⟨k, hk, h1, h2⟩ := h
  rcases g with g | ⟨i, hi, g1, g2⟩
  · have := g k hk; omega
  · rcases Nat.lt_trichotomy i k with q | q | q
    · have := h2 i q; omega
    · subst q; omega
    · have := g2 k q; omega
theorem bs_B_one {n : Nat} {cap w : Nat → Nat} {left room : Nat} {b c : Nat → Nat} (hb : bs_B n cap w left room b) (hc : bs_B n cap w left room c) : bs_e n b c := by
  rcases hb.2 c hc.1 with h | ⟨h, h2⟩
  · rcases hc.2 b hb.1 with g | ⟨g, -⟩ <;> omega
  · rcases hc.2 b hb.1 with g | ⟨g, g2⟩
    · omega
    · rcases g2 with g2 | g2
      · exact g2
      · exact (bs_l_not g2 h2).elim
theorem ct_D_last (f : Nat → Nat × (Nat → Nat)) : ∀ m : Nat, ∃ r, r ≤ m ∧ ct_D f m = f r ∧ (∀ q, q ≤ m → (f q).1 ≤ (f r).1) ∧ ∀ q, q ≤ m → (f q).1 = (f r).1 → q ≤ r
  | 0 => ⟨0, Nat.le_refl _, rfl, fun q hq => by obtain rfl : q = 0 := by omega
                                                exact Nat.le_refl _, fun q hq _ => hq⟩
  | m + 1 => by
    obtain ⟨r, h1, h2, h3, h4⟩ := ct_D_last f m
    rw [ct_D]
    by_cases c : (f (m + 1)).1 < (ct_D f m).1
    · rw [if_pos c]
      rw [h2] at c
      refine ⟨r, by omega, h2, fun q hq => ?_, fun q hq e => ?_⟩
      · rcases Nat.lt_or_ge m q with z | z
        · obtain rfl : q = m + 1 := by omega
          omega
        · exact h3 q z
      · rcases Nat.lt_or_ge m q with z | z
        · obtain rfl : q = m + 1 := by omega
          omega
        · exact h4 q z e
    · rw [if_neg c]
      rw [h2] at c
      refine ⟨m + 1, Nat.le_refl _, rfl, fun q hq => ?_, fun q hq _ => hq⟩
      rcases Nat.lt_or_ge m q with z | z
      · obtain rfl : q = m + 1 := by omega
        exact Nat.le_refl _
      · have := h3 q z
        omega
theorem bs_cons {n : Nat} {cap w : Nat → Nat} {left room m r : Nat} {t : Nat → Nat → Nat} {b : Nat → Nat} (hm : m = min (min (cap 0) left) (room / w 0)) (hw : 0 < cap 0 → 0 < w 0)
    (hT : ∀ q, q ≤ m → bs_B n (fun j => cap (j + 1)) (fun j => w (j + 1)) (left - q) (room - q * w 0) (t q)) (hr : r ≤ m)
    (hmax : ∀ q, q ≤ m → q * w 0 + bs_S n (fun j => w (j + 1)) (t q) ≤ r * w 0 + bs_S n (fun j => w (j + 1)) (t r))
    (hlast : ∀ q, q ≤ m → q * w 0 + bs_S n (fun j => w (j + 1)) (t q) = r * w 0 + bs_S n (fun j => w (j + 1)) (t r) → q ≤ r)
    (hb0 : b 0 = r) (hb : ∀ j, b (j + 1) = t r j) : bs_B (n + 1) cap w left room b ∧ bs_S (n + 1) w b = r * w 0 + bs_S n (fun j => w (j + 1)) (t r) := by
  have eS : ∀ v : Nat → Nat, bs_S (n + 1) w v = v 0 * w 0 + bs_S n (fun j => w (j + 1)) (fun j => v (j + 1)) := fun v => ct_sm_shift (fun j => v j * w j) n
  have eN : ∀ v : Nat → Nat, fb_sm v (n + 1) = v 0 + fb_sm (fun j => v (j + 1)) n := fun v => ct_sm_shift v n
  have ebt : (fun j => b (j + 1)) = t r := funext hb
  have hSb : bs_S (n + 1) w b = r * w 0 + bs_S n (fun j => w (j + 1)) (t r) := by rw [eS, hb0, ebt]
  have hrw : r * w 0 ≤ room := ct_mul (by omega)
  obtain ⟨⟨t1, t2, t3⟩, t4⟩ := hT r hr
  refine ⟨⟨⟨fun j hj => ?_, ?_, ?_⟩, fun v hv => ?_⟩, hSb⟩
  · cases j with
    | zero => rw [hb0]; omega
    | succ j => rw [hb]; exact t1 j (by omega)
  · rw [eN, hb0, ebt]; omega
  · rw [hSb]; omega
  · obtain ⟨v1, v2, v3⟩ := hv
    rw [eN] at v2
    rw [eS] at v3
    have q0 : v 0 ≤ m := by
      have c0 := v1 0 (by omega)
      rcases Nat.eq_zero_or_pos (v 0) with z | z
      · omega
      · have h5 := hw (by omega)
        have h6 : v 0 ≤ room / w 0 := (Nat.le_div_iff_mul_le h5).mpr (by omega)
        omega
    have hv2 : bs_v n (fun j => cap (j + 1)) (fun j => w (j + 1)) (left - v 0) (room - v 0 * w 0) (fun j => v (j + 1)) := ⟨fun j hj => v1 (j + 1) (by omega), by omega, by omega⟩
    have m1 := hmax (v 0) q0
    rw [eS v, hSb]
    rcases (hT (v 0) q0).2 _ hv2 with g | ⟨g, g2⟩
    · exact Or.inl (by omega)
    · rcases Nat.lt_or_ge (v 0 * w 0 + bs_S n (fun j => w (j + 1)) (t (v 0))) (r * w 0 + bs_S n (fun j => w (j + 1)) (t r)) with z | z
      · exact Or.inl (by omega)
      · have e : v 0 * w 0 + bs_S n (fun j => w (j + 1)) (t (v 0)) = r * w 0 + bs_S n (fun j => w (j + 1)) (t r) := by omega
        have l := hlast (v 0) q0 e
        refine Or.inr ⟨by omega, ?_⟩
        rcases Nat.lt_or_ge (v 0) r with y | y
        · exact Or.inr ⟨0, by omega, by rw [hb0]; exact y, fun j hj => absurd hj (Nat.not_lt_zero j)⟩
        · have e0 : v 0 = r := by omega
          rw [e0] at g2
          rcases g2 with g2 | ⟨i, hi, i1, i2⟩
          · exact Or.inl (fun j hj => by
              cases j with
              | zero => rw [hb0]; exact e0
              | succ j => rw [hb]; exact g2 j (by omega))
          · exact Or.inr ⟨i + 1, by omega, by rw [hb]; exact i1, fun j hj => by
              cases j with
              | zero => rw [hb0]; exact e0
              | succ j => rw [hb]; exact i2 j (by omega)⟩
/-- ct_B is that -/
theorem bs_ct (cap w : Nat → Nat) : ∀ (k a left room : Nat), (∀ j, j < k → 0 < cap (a + j) → 0 < w (a + j)) →
    bs_B k (fun j => cap (a + j)) (fun j => w (a + j)) left room (fun j => (ct_B cap w k a left room).2 (a + j)) ∧ bs_S k (fun j => w (a + j)) (fun j => (ct_B cap w k a left room).2 (a + j)) = (ct_B cap w k a left room).1
  | 0, a, left, room, _ => ⟨⟨⟨fun j hj => absurd hj (Nat.not_lt_zero j), Nat.zero_le _, Nat.zero_le _⟩, fun v _ => Or.inr ⟨rfl, Or.inl (fun j hj => absurd hj (Nat.not_lt_zero j))⟩⟩, rfl⟩
  | k + 1, a, left, room, hpos => by
    obtain ⟨r, h1, h2, h3, h4⟩ := ct_D_last (ct_f cap w k a left room) (min (min (cap a) left) (room / w a))
    have sh : ∀ g : Nat → Nat, (fun j => g (a + 1 + j)) = fun j => g (a + (j + 1)) := fun g => funext fun j => by rw [show a + 1 + j = a + (j + 1) by omega]
    have IH : ∀ q, bs_B k (fun j => cap (a + (j + 1))) (fun j => w (a + (j + 1))) (left - q) (room - q * w a) (fun j => (ct_B cap w k (a + 1) (left - q) (room - q * w a)).2 (a + (j + 1))) ∧ bs_S k (fun j => w (a + (j + 1))) (fun j => (ct_B cap w k (a + 1) (left - q) (room - q * w a)).2 (a + (j + 1))) = (ct_B cap w k (a + 1) (left - q) (room - q * w a)).1 := fun q => by
      have h := bs_ct cap w k (a + 1) (left - q) (room - q * w a) (fun j hj h => by
        rw [show a + 1 + j = a + (j + 1) by omega] at h ⊢
        exact hpos (j + 1) (by omega) h)
      rw [sh cap, sh w, sh (ct_B cap w k (a + 1) (left - q) (room - q * w a)).2] at h
      exact h
    rw [ct_B_succ, h2]
    have X := bs_cons (n := k) (cap := fun j => cap (a + j)) (w := fun j => w (a + j)) (left := left) (room := room) (m := min (min (cap a) left) (room / w a)) (r := r) (t := fun q j => (ct_B cap w k (a + 1) (left - q) (room - q * w a)).2 (a + (j + 1))) (b := fun j => (ct_f cap w k a left room r).2 (a + j)) rfl (hpos 0 (by omega))
      (fun q _ => (IH q).1) h1
      (fun q hq => (show q * w a + bs_S k (fun j => w (a + (j + 1))) (fun j => (ct_B cap w k (a + 1) (left - q) (room - q * w a)).2 (a + (j + 1))) ≤ r * w a + bs_S k (fun j => w (a + (j + 1))) (fun j => (ct_B cap w k (a + 1) (left - r) (room - r * w a)).2 (a + (j + 1))) from by rw [(IH q).2, (IH r).2]; exact h3 q hq))
      (fun q hq => (show q * w a + bs_S k (fun j => w (a + (j + 1))) (fun j => (ct_B cap w k (a + 1) (left - q) (room - q * w a)).2 (a + (j + 1))) = r * w a + bs_S k (fun j => w (a + (j + 1))) (fun j => (ct_B cap w k (a + 1) (left - r) (room - r * w a)).2 (a + (j + 1))) → q ≤ r from by rw [(IH q).2, (IH r).2]; exact h4 q hq))
      (by show (if a + 0 = a then r else _) = r; rw [if_pos (Nat.add_zero a)])
      (fun j => by show (if a + (j + 1) = a then r else _) = _; rw [if_neg (by omega)])
    refine ⟨X.1, X.2.trans ?_⟩
    show r * w a + bs_S k (fun j => w (a + (j + 1))) (fun j => (ct_B cap w k (a + 1) (left - r) (room - r * w a)).2 (a + (j + 1))) = r * w a + (ct_B cap w k (a + 1) (left - r) (room - r * w a)).1
    rw [(IH r).2]
theorem bs_ct0 (cap w : Nat → Nat) (k left room : Nat) (hpos : ∀ j, j < k → 0 < cap j → 0 < w j) : bs_B k cap w left room (ct_B cap w k 0 left room).2 ∧ bs_S k w (ct_B cap w k 0 left room).2 = (ct_B cap w k 0 left room).1 := by
  have h := bs_ct cap w k 0 left room (fun j hj => by rw [Nat.zero_add]; exact hpos j hj)
  have sh : ∀ g : Nat → Nat, (fun j => g (0 + j)) = g := fun g => funext fun j => by rw [Nat.zero_add]
  rw [sh cap, sh w, sh (ct_B cap w k 0 left room).2] at h
  exact h
/-! all cuts, one behind the other -/
def bs_P (n : Nat) (cap w : Nat → Nat) (mw : Nat) (L : (Nat → Nat) → Prop) (bv : Nat → Nat) : Prop := ∀ v, bs_v n cap w 6 mw v → L v → bs_S n w v < bs_S n w bv ∨ (bs_S n w v = bs_S n w bv ∧ (bs_e n v bv ∨ bs_l n v bv))
theorem bs_S_e {n : Nat} {w a b : Nat → Nat} (h : bs_e n a b) : bs_S n w a = bs_S n w b := fb_sm_cong (fun j hj => by rw [h j hj])
theorem bs_no1 {n mw : Nat} {cap w av bv : Nat → Nat} (hP : bs_P n cap w mw (fun v => bs_l n v av) bv) (h : 6 < fb_sm av n) : bs_P n cap w mw (fun v => bs_e n v av ∨ bs_l n v av) bv := by
  intro v hv hL
  rcases hL with hL | hL
  · have e : fb_sm v n = fb_sm av n := fb_sm_cong hL
    have := hv.2.1
    omega
  · exact hP v hv hL
theorem bs_no2 {n mw : Nat} {cap w av bv : Nat → Nat} (hP : bs_P n cap w mw (fun v => bs_l n v av) bv) (h : mw < bs_S n w av) : bs_P n cap w mw (fun v => bs_e n v av ∨ bs_l n v av) bv := by
  intro v hv hL
  rcases hL with hL | hL
  · have e : bs_S n w v = bs_S n w av := bs_S_e hL
    have := hv.2.2
    omega
  · exact hP v hv hL
theorem bs_no3 {n mw : Nat} {cap w av bv : Nat → Nat} (hP : bs_P n cap w mw (fun v => bs_l n v av) bv) (h : bs_S n w av < bs_S n w bv) : bs_P n cap w mw (fun v => bs_e n v av ∨ bs_l n v av) bv := by
  intro v hv hL
  rcases hL with hL | hL
  · have e : bs_S n w v = bs_S n w av := bs_S_e hL
    exact Or.inl (by omega)
  · exact hP v hv hL
theorem bs_yes {n mw : Nat} {cap w av bv : Nat → Nat} (hP : bs_P n cap w mw (fun v => bs_l n v av) bv) (h : bs_S n w bv ≤ bs_S n w av) : bs_P n cap w mw (fun v => bs_e n v av ∨ bs_l n v av) av := by
  intro v hv hL
  rcases hL with hL | hL
  · exact Or.inr ⟨bs_S_e hL, Or.inl hL⟩
  · rcases hP v hv hL with g | ⟨g, -⟩
    · exact Or.inl (by omega)
    · rcases Nat.lt_or_ge (bs_S n w v) (bs_S n w av) with z | z
      · exact Or.inl z
      · exact Or.inr ⟨by omega, Or.inr hL⟩
def bs_nx (t : Nat) (av : Nat → Nat) : Nat → Nat := fun j => if j < t then av j else if j = t then av t + 1 else 0
theorem bs_nx_t (t : Nat) (av : Nat → Nat) : bs_nx t av t = av t + 1 := (if_neg (Nat.lt_irrefl t)).trans (if_pos rfl)
theorem bs_nx_P {n mw t : Nat} {cap w av bv : Nat → Nat} (hP : bs_P n cap w mw (fun v => bs_e n v av ∨ bs_l n v av) bv) (ht : t < n) (hfull : ∀ j, j < n → t + 1 ≤ j → av j = cap j) : bs_P n cap w mw (fun v => bs_l n v (bs_nx t av)) bv := by
  intro v hv hL
  obtain ⟨i, hi, h1, h2⟩ := hL
  refine hP v hv ?_
  have ej : ∀ j, j < i → j < t → v j = av j := fun j hj hjt => by have := h2 j hj; simp only [bs_nx] at this; rw [if_pos hjt] at this; exact this
  simp only [bs_nx] at h1
  rcases Nat.lt_trichotomy i t with q | q | q
  · rw [if_pos q] at h1
    exact Or.inr ⟨i, hi, h1, fun j hj => ej j hj (by omega)⟩
  · subst q
    rw [if_neg (by omega), if_pos rfl] at h1
    rcases Nat.lt_or_ge (v i) (av i) with z | z
    · exact Or.inr ⟨i, hi, z, fun j hj => ej j hj hj⟩
    · have ei : v i = av i := by omega
      by_cases c : bs_e n v av
      · exact Or.inl c
      · have hex : ∃ j, j < n ∧ ¬ v j = av j := Classical.byContradiction (fun z => c (fun j hj => Classical.byContradiction (fun y => z ⟨j, hj, y⟩)))
        obtain ⟨j, ⟨hj, hne⟩, hmin⟩ := pk_least (fun j => j < n ∧ ¬ v j = av j) hex
        have hji : i < j := by
          rcases Nat.lt_trichotomy j i with y | y | y
          · exact absurd (ej j y y) hne
          · subst y; exact absurd ei hne
          · exact y
        have hc := hv.1 j hj
        have hf := hfull j hj (by omega)
        exact Or.inr ⟨j, hj, by omega, fun x hx => Classical.byContradiction (fun y => hmin x hx ⟨by omega, y⟩)⟩
  · rw [if_neg (by omega), if_neg (by omega)] at h1
    exact absurd h1 (Nat.not_lt_zero _)
theorem bs_end_P {n mw : Nat} {cap w av bv : Nat → Nat} (hP : bs_P n cap w mw (fun v => bs_e n v av ∨ bs_l n v av) bv) (hfull : ∀ j, j < n → av j = cap j) : bs_P n cap w mw (fun _ => True) bv := by
  intro v hv _
  refine hP v hv ?_
  by_cases c : bs_e n v av
  · exact Or.inl c
  · have hex : ∃ j, j < n ∧ ¬ v j = av j := Classical.byContradiction (fun z => c (fun j hj => Classical.byContradiction (fun y => z ⟨j, hj, y⟩)))
    obtain ⟨j, ⟨hj, hne⟩, hmin⟩ := pk_least (fun j => j < n ∧ ¬ v j = av j) hex
    have hc := hv.1 j hj
    have hf := hfull j hj
    exact Or.inr ⟨j, hj, by omega, fun x hx => Classical.byContradiction (fun y => hmin x hx ⟨by omega, y⟩)⟩
/-- the number that the digits are -/
def bs_rk : Nat → (Nat → Nat) → Nat
  | 0, _ => 0
  | n + 1, a => bs_rk n a * 7 + a n
theorem bs_rk_e {a b : Nat → Nat} : ∀ {n : Nat}, bs_e n a b → bs_rk n a = bs_rk n b
  | 0, _ => rfl
  | n + 1, h => by rw [bs_rk, bs_rk, bs_rk_e (fun j hj => h j (by omega)), h n (by omega)]
theorem bs_rk_lt {a b : Nat → Nat} : ∀ {n : Nat}, (∀ j, j < n → a j ≤ 6) → bs_l n a b → bs_rk n a < bs_rk n b
  | 0, _, h => by obtain ⟨k, hk, -⟩ := h; exact absurd hk (Nat.not_lt_zero k)
  | n + 1, ha, h => by
    obtain ⟨k, hk, h1, h2⟩ := h
    have h6 := ha n (by omega)
    rw [bs_rk, bs_rk]
    rcases Nat.lt_or_ge k n with q | q
    · have := bs_rk_lt (n := n) (fun j hj => ha j (by omega)) ⟨k, q, h1, h2⟩
      omega
    · obtain rfl : k = n := by omega
      have e := bs_rk_e (n := k) (a := a) (b := b) h2
      omega
theorem bs_rk_top {a : Nat → Nat} : ∀ {n : Nat}, (∀ j, j < n → a j ≤ 6) → bs_rk n a < 7 ^ n
  | 0, _ => Nat.one_pos
  | n + 1, h => by
    have h1 := bs_rk_top (n := n) (a := a) (fun j hj => h j (by omega))
    have h2 := h n (by omega)
    rw [bs_rk, Nat.pow_succ]
    omega
/-- the state of the search for the best: the cut that is looked at, the best so far -/
def bs_I (n : Nat) (cap w : Nat → Nat) (mw : Nat) (av bv : Nat → Nat) (fa fb : Nat → Int32) (mo im : Int32) : Prop :=
  (∀ j, j < n → fa j = nI (av j)) ∧ (∀ j, j < n → av j ≤ cap j) ∧ (∀ j, j < n → fb j = nI (bv j)) ∧ mo = nI (bs_S n w bv) ∧ bs_v n cap w 6 mw bv ∧ (im = 1 ∧ bs_P n cap w mw (fun v => bs_l n v av) bv ∨ im = 0 ∧ bs_P n cap w mw (fun _ => True) bv)
theorem bs_S_0 (n : Nat) (w : Nat → Nat) : bs_S n w (fun _ => 0) = 0 := by
  unfold bs_S
  rw [fb_sm_cong (g := fun _ => 0) (fun j _ => Nat.zero_mul _), fb_sm_const]
  exact Nat.mul_zero n
theorem bs_I_0 (n : Nat) (cap w : Nat → Nat) (mw : Nat) : bs_I n cap w mw (fun _ => 0) (fun _ => 0) (fun _ => 0) (fun _ => 0) 0 1 := by
  refine ⟨fun _ _ => rfl, fun _ _ => Nat.zero_le _, fun _ _ => rfl, by rw [bs_S_0]; rfl, ⟨fun _ _ => Nat.zero_le _, by rw [fb_sm_const]; omega, by rw [bs_S_0]; exact Nat.zero_le _⟩, Or.inl ⟨rfl, fun v _ hL => ?_⟩⟩
  obtain ⟨k, -, h, -⟩ := hL
  exact absurd h (Nat.not_lt_zero _)
theorem bs_bd {n : Nat} {w av : Nat → Nat} (hn : n ≤ 10) (hw : ∀ j, j < n → w j ≤ 400) (ha : ∀ j, j < n → av j ≤ 6) : fb_sm av n ≤ 60 ∧ bs_S n w av ≤ 24000 := by
  have h1 := fb_sm_bound (f := av) (c := 6) (n := n) ha
  have h2 : bs_S n w av ≤ n * 2400 := fb_sm_bound (fun j hj => Nat.mul_le_mul (ha j hj) (hw j hj))
  omega
theorem bs_step {n mw t : Nat} {cap w av bv : Nat → Nat} {fa2 fb : Nat → Int32} {mo : Int32} (hcap : ∀ j, j < n → cap j ≤ 6) (hav : ∀ j, j < n → av j ≤ cap j) (hfb : ∀ j, j < n → fb j = nI (bv j)) (hmo : mo = nI (bs_S n w bv)) (hbv : bs_v n cap w 6 mw bv) (hP : bs_P n cap w mw (fun v => bs_e n v av ∨ bs_l n v av) bv)
    (ht : t < n) (hfull : ∀ j, j < n → t + 1 ≤ j → av j = cap j) (hne : av t ≠ cap t) (hfa : ∀ j, j < n → fa2 j = nI (if j < t + 1 then av j else 0)) :
    bs_I n cap w mw (bs_nx t av) bv (upd fa2 t (fa2 t + 1)) fb mo 1 ∧ 7 ^ n - bs_rk n (bs_nx t av) < 7 ^ n - bs_rk n av := by
  have hat := hav t ht
  have hnx : ∀ j, j < n → bs_nx t av j ≤ cap j := fun j hj => by
    simp only [bs_nx]
    by_cases c : j < t
    · rw [if_pos c]; exact hav j hj
    · rw [if_neg c]
      by_cases c2 : j = t
      · subst c2; rw [if_pos rfl]; omega
      · rw [if_neg c2]; exact Nat.zero_le _
  refine ⟨⟨fun j hj => ?_, hnx, hfb, hmo, hbv, Or.inl ⟨rfl, bs_nx_P hP ht hfull⟩⟩, ?_⟩
  · by_cases c : j = t
    · subst c
      rw [pk_us, hfa j hj, if_pos (by omega), nI_1, bs_nx_t]
    · rw [pk_un c, hfa j hj]
      simp only [bs_nx]
      by_cases c2 : j < t
      · rw [if_pos (by omega), if_pos c2]
      · rw [if_neg (by omega), if_neg c2, if_neg c]
  · have h1 := bs_rk_lt (n := n) (a := av) (b := bs_nx t av) (fun j hj => Nat.le_trans (hav j hj) (hcap j hj)) ⟨t, ht, by rw [bs_nx_t]; omega, fun j hj => by simp only [bs_nx]; rw [if_pos hj]⟩
    have h2 := bs_rk_top (n := n) (a := bs_nx t av) (fun j hj => Nat.le_trans (hnx j hj) (hcap j hj))
    omega
theorem bs_last {n mw : Nat} {cap w av bv : Nat → Nat} {fa2 fb : Nat → Int32} {mo : Int32} (hfb : ∀ j, j < n → fb j = nI (bv j)) (hmo : mo = nI (bs_S n w bv)) (hbv : bs_v n cap w 6 mw bv) (hP : bs_P n cap w mw (fun v => bs_e n v av ∨ bs_l n v av) bv)
    (hfull : ∀ j, j < n → 0 ≤ j → av j = cap j) (hfa : ∀ j, j < n → fa2 j = nI (if j < 0 then av j else 0)) : bs_I n cap w mw (fun _ => 0) bv fa2 fb mo 0 :=
  ⟨fun j hj => by rw [hfa j hj, if_neg (Nat.not_lt_zero j)], fun _ _ => Nat.zero_le _, hfb, hmo, hbv, Or.inr ⟨rfl, bs_end_P hP (fun j hj => hfull j hj (Nat.zero_le j))⟩⟩
theorem bs_top {n : Nat} {cap av : Nat → Nat} (hcap : ∀ j, j < n → cap j ≤ 6) (hav : ∀ j, j < n → av j ≤ cap j) : 0 < 7 ^ n - bs_rk n av := by
  have h2 := bs_rk_top (n := n) (a := av) (fun j hj => Nat.le_trans (hav j hj) (hcap j hj))
  omega
/-! orders of one grade among all orders -/
theorem cu_sm {f wh : Nat → Nat} : ∀ (N m : Nat), (∀ a b, a < b → b < m → wh a < wh b) → (∀ t, t < m → wh t < N) → (∀ j, j < N → (∀ t, t < m → wh t ≠ j) → f j = 0) → fb_sm f N = fb_sm (fun t => f (wh t)) m
  | 0, m, _, h2, _ => by
    rcases Nat.eq_zero_or_pos m with q | q
    · subst q; rfl
    · exact absurd (h2 0 q) (Nat.not_lt_zero _)
  | N + 1, m, h1, h2, h3 => by
    rw [fb_sm_succ]
    by_cases c : ∃ t, t < m ∧ wh t = N
    · obtain ⟨t, ht, e⟩ := c
      obtain ⟨p, rfl⟩ : ∃ p, m = p + 1 := ⟨m - 1, by omega⟩
      have htp : t = p := by
        rcases Nat.lt_or_ge t p with z | z
        · have a1 := h1 t p z (by omega)
          have a2 := h2 p (by omega)
          omega
        · omega
      subst htp
      rw [fb_sm_succ, cu_sm N t (fun a b hab hb => h1 a b hab (by omega)) (fun s hs => by have := h1 s t hs (by omega); omega) (fun j hj hn => h3 j (by omega) (fun s hs => by
        rcases Nat.lt_or_ge s t with z | z
        · exact hn s z
        · obtain rfl : s = t := by omega
          omega)), e]
    · have hz : f N = 0 := h3 N (by omega) (fun t ht e => c ⟨t, ht, e⟩)
      rw [hz, Nat.add_zero]
      exact cu_sm N m h1 (fun t ht => by
        have := h2 t ht
        rcases Nat.lt_or_ge (wh t) N with z | z
        · exact z
        · exact absurd ⟨t, ht, by omega⟩ c) (fun j hj hn => h3 j (by omega) hn)
def cu_I (og ow ol : Nat → Int32) (g : Int32) (i mm : Nat) (f1 f2 f3 : Nat → Int32) : Prop :=
  ∃ wh : Nat → Nat, mm ≤ i ∧ (∀ t, t < mm → f1 t = ow (wh t) ∧ f2 t = ol (wh t) ∧ f3 t = nI (wh t) ∧ wh t < i ∧ og (wh t) = g ∧ 0 < ol (wh t)) ∧ (∀ a b, a < b → b < mm → wh a < wh b) ∧ ∀ j, j < i → og j = g → 0 < ol j → ∃ t, t < mm ∧ wh t = j
theorem cu_0 (og ow ol : Nat → Int32) (g : Int32) (f1 f2 f3 : Nat → Int32) : cu_I og ow ol g 0 0 f1 f2 f3 :=
  ⟨fun _ => 0, Nat.le_refl _, fun t ht => absurd ht (Nat.not_lt_zero t), fun _ b _ hb => absurd hb (Nat.not_lt_zero b), fun j hj => absurd hj (Nat.not_lt_zero j)⟩
theorem cu_no {og ow ol : Nat → Int32} {g : Int32} {i mm : Nat} {f1 f2 f3 : Nat → Int32} (h : cu_I og ow ol g i mm f1 f2 f3) (hn : ¬ (og i = g ∧ 0 < ol i)) : cu_I og ow ol g (i + 1) mm f1 f2 f3 := by
  obtain ⟨wh, h0, h1, h2, h3⟩ := h
  refine ⟨wh, by omega, fun t ht => ?_, h2, fun j hj e1 e2 => ?_⟩
  · obtain ⟨a1, a2, a3, a4, a5⟩ := h1 t ht
    exact ⟨a1, a2, a3, by omega, a5⟩
  · rcases Nat.lt_or_ge j i with z | z
    · exact h3 j z e1 e2
    · obtain rfl : j = i := by omega
      exact absurd ⟨e1, e2⟩ hn
theorem cu_yes {og ow ol : Nat → Int32} {g : Int32} {i mm : Nat} {f1 f2 f3 : Nat → Int32} (h : cu_I og ow ol g i mm f1 f2 f3) (hy : og i = g ∧ 0 < ol i) : cu_I og ow ol g (i + 1) (mm + 1) (upd f1 mm (ow i)) (upd f2 mm (ol i)) (upd f3 mm (nI i)) := by
  obtain ⟨wh, h0, h1, h2, h3⟩ := h
  refine ⟨fun t => if t < mm then wh t else i, by omega, fun t ht => ?_, fun a b hab hb => ?_, fun j hj e1 e2 => ?_⟩
  · by_cases c : t < mm
    · obtain ⟨a1, a2, a3, a4, a5⟩ := h1 t c
      dsimp only
      rw [if_pos c, pk_un (by omega), pk_un (by omega), pk_un (by omega)]
      exact ⟨a1, a2, a3, by omega, a5⟩
    · obtain rfl : t = mm := by omega
      dsimp only
      rw [if_neg c, pk_us, pk_us, pk_us]
      exact ⟨rfl, rfl, rfl, by omega, hy⟩
  · dsimp only
    by_cases c : b < mm
    · rw [if_pos (by omega), if_pos c]; exact h2 a b hab c
    · rw [if_pos (by omega), if_neg c]; exact (h1 a (by omega)).2.2.2.1
  · rcases Nat.lt_or_ge j i with z | z
    · obtain ⟨t, ht, e⟩ := h3 j z e1 e2
      exact ⟨t, by omega, by dsimp only; rw [if_pos ht]; exact e⟩
    · obtain rfl : j = i := by omega
      exact ⟨mm, by omega, by dsimp only; rw [if_neg (by omega)]⟩
/-- the rolls that are written back are those of ct_B -/
theorem cu_end {og ow ol : Nat → Int32} {g : Int32} {k mm mw : Nat} {w lk wh b : Nat → Nat} {fr : Nat → Int32} (hk : k ≤ 10) (how : ∀ j, j < 10 → ow j = nI (w j)) (hol : ∀ j, j < 10 → ol j = nI (lk j)) (hlk : ∀ j, j < 10 → lk j ≤ 1000) (hpos : ∀ j, j < k → 0 < w j)
    (h1 : ∀ t, t < mm → wh t < k ∧ og (wh t) = g ∧ 0 < ol (wh t)) (h2 : ∀ a b, a < b → b < mm → wh a < wh b) (h3 : ∀ j, j < k → og j = g → 0 < ol j → ∃ t, t < mm ∧ wh t = j)
    (hB : bs_B mm (fun t => min 6 (lk (wh t))) (fun t => w (wh t)) 6 mw b) (hf1 : ∀ t, t < mm → fr (wh t) = nI (b t)) (hf0 : ∀ j, (∀ t, t < mm → wh t ≠ j) → fr j = 0) :
    ∀ j, j < 10 → fr j = nI ((ct_B (f_cap og lk k g) w 10 0 6 mw).2 j) := by
  obtain ⟨⟨C1, C2⟩, -⟩ := bs_ct0 (f_cap og lk k g) w 10 6 mw (fun j hj h => by
    simp only [f_cap] at h
    by_cases c : j < k ∧ og j = g
    · exact hpos j c.1
    · rw [if_neg c] at h; exact absurd h (Nat.lt_irrefl 0))
  obtain ⟨c, hc⟩ : ∃ c, c = (ct_B (f_cap og lk k g) w 10 0 6 mw).2 := ⟨_, rfl⟩
  rw [← hc] at C1 C2 ⊢
  have hlt : ∀ t, t < mm → wh t < 10 := fun t ht => by have := (h1 t ht).1; omega
  have hcap : ∀ t, t < mm → f_cap og lk k g (wh t) = min 6 (lk (wh t)) := fun t ht => by
    simp only [f_cap]
    rw [if_pos ⟨(h1 t ht).1, (h1 t ht).2.1⟩, Nat.min_comm]
  have hout : ∀ v : Nat → Nat, (∀ j, j < 10 → v j ≤ f_cap og lk k g j) → ∀ j, j < 10 → (∀ t, t < mm → wh t ≠ j) → v j = 0 := fun v hv j hj hn => by
    have h := hv j hj
    simp only [f_cap] at h
    by_cases e : j < k ∧ og j = g
    · rw [if_pos e] at h
      rcases Nat.eq_zero_or_pos (lk j) with z | z
      · omega
      · have hp : 0 < ol j := by rw [hol j hj]; exact (nI_ltI (a := 0) (by omega) (by have := hlk j hj; omega)).mpr z
        obtain ⟨t, ht, et⟩ := h3 j e.1 e.2 hp
        exact absurd et (hn t ht)
    · rw [if_neg e] at h; omega
  have hS : ∀ v : Nat → Nat, (∀ j, j < 10 → v j ≤ f_cap og lk k g j) → bs_S 10 w v = bs_S mm (fun t => w (wh t)) (fun t => v (wh t)) := fun v hv => cu_sm (f := fun j => v j * w j) 10 mm h2 hlt (fun j hj hn => by show v j * w j = 0; rw [hout v hv j hj hn, Nat.zero_mul])
  have hN : ∀ v : Nat → Nat, (∀ j, j < 10 → v j ≤ f_cap og lk k g j) → fb_sm v 10 = fb_sm (fun t => v (wh t)) mm := fun v hv => cu_sm (f := v) 10 mm h2 hlt (hout v hv)
  have hV : ∀ v : Nat → Nat, bs_v 10 (f_cap og lk k g) w 6 mw v → bs_v mm (fun t => min 6 (lk (wh t))) (fun t => w (wh t)) 6 mw (fun t => v (wh t)) := fun v hv => ⟨fun t ht => by show v (wh t) ≤ min 6 (lk (wh t)); rw [← hcap t ht]; exact hv.1 _ (hlt t ht), by rw [← hN v hv.1]; exact hv.2.1, by rw [← hS v hv.1]; exact hv.2.2⟩
  -- the rolls as a vector over all orders
  have hex : ∃ R : Nat → Nat, (∀ t, t < mm → R (wh t) = b t) ∧ ∀ j, (∀ t, t < mm → wh t ≠ j) → R j = 0 := by
    refine ⟨fun j => (fr j).toNatClampNeg, fun t ht => ?_, fun j hn => ?_⟩
    · have hb := hB.1.1 t ht
      dsimp only at hb ⊢
      rw [hf1 t ht]
      exact nI_clamp (by omega)
    · dsimp only
      rw [hf0 j hn]
      rfl
  obtain ⟨R, hR1, hR0⟩ := hex
  have hRc : ∀ j, j < 10 → R j ≤ f_cap og lk k g j := fun j _ => by
    by_cases e : ∃ t, t < mm ∧ wh t = j
    · obtain ⟨t, ht, et⟩ := e
      subst et
      rw [hR1 t ht, hcap t ht]
      exact hB.1.1 t ht
    · rw [hR0 j (fun t ht et => e ⟨t, ht, et⟩)]; exact Nat.zero_le _
  have hRe : bs_e mm (fun t => R (wh t)) b := fun t ht => hR1 t ht
  have hRv : bs_v 10 (f_cap og lk k g) w 6 mw R := ⟨hRc, by rw [hN R hRc, fb_sm_cong (g := b) hRe]; exact hB.1.2.1, by rw [hS R hRc, bs_S_e hRe]; exact hB.1.2.2⟩
  have hRB : bs_B 10 (f_cap og lk k g) w 6 mw R := by
    refine ⟨hRv, fun v hv => ?_⟩
    rw [hS v hv.1, hS R hRc, bs_S_e hRe]
    rcases hB.2 _ (hV v hv) with h | ⟨h, h4⟩
    · exact Or.inl h
    · refine Or.inr ⟨h, ?_⟩
      have key : ∀ j, j < 10 → (∀ t, t < mm → wh t = j → v j = R j) → v j = R j := fun j hj hh => by
        by_cases e : ∃ t, t < mm ∧ wh t = j
        · obtain ⟨t, ht, et⟩ := e
          exact hh t ht et
        · have hn : ∀ t, t < mm → wh t ≠ j := fun t ht et => e ⟨t, ht, et⟩
          rw [hout v hv.1 j hj hn, hR0 j hn]
      rcases h4 with h4 | ⟨i, hi, i1, i2⟩
      · exact Or.inl (fun j hj => key j hj (fun t ht et => by subst et; rw [hR1 t ht]; exact h4 t ht))
      · refine Or.inr ⟨wh i, hlt i hi, by rw [hR1 i hi]; exact i1, fun j hj => key j (by have := hlt i hi; omega) (fun t ht et => ?_)⟩
        subst et
        rw [hR1 t ht]
        refine i2 t ?_
        rcases Nat.lt_trichotomy t i with z | z | z
        · exact z
        · subst z; exact absurd hj (Nat.lt_irrefl _)
        · have := h2 i t z ht; omega
  have hE := bs_B_one hRB ⟨C1, C2⟩
  intro j hj
  rw [← hE j hj]
  by_cases e : ∃ t, t < mm ∧ wh t = j
  · obtain ⟨t, ht, et⟩ := e
    subst et
    rw [hf1 t ht, hR1 t ht]
  · have hn : ∀ t, t < mm → wh t ≠ j := fun t ht et => e ⟨t, ht, et⟩
    rw [hf0 j hn, hR0 j hn]
    rfl
