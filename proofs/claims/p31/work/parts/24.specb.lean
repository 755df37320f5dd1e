/-! facts for the cutter's rows -/
def f_fill (v : Int32) (n : Nat) (f : Nat → Int32) : Nat → Int32 := fun j => if j < n then v else f j
theorem f_fill_0 (v : Int32) (f : Nat → Int32) : f_fill v 0 f = f := by funext j; simp [f_fill]
theorem f_fill_s (v : Int32) (i : Nat) (f : Nat → Int32) : upd (f_fill v i f) i v = f_fill v (i + 1) f := by
  funext j
  simp only [upd, f_fill]
  by_cases h : j = i
  · subst h; simp
  · rw [if_neg h]
    by_cases h2 : j < i
    · rw [if_pos h2, if_pos (by omega)]
    · rw [if_neg h2, if_neg (by omega)]
theorem i_min {a b : Nat} (ha : a < 2 ^ 31) (hb : b < 2 ^ 31) : (if nI a < nI b then nI a else nI b) = nI (min b a) := by
  by_cases h : a < b
  · rw [if_pos ((nI_ltI ha hb).mpr h), Nat.min_eq_right (by omega)]
  · rw [if_neg (fun q => h ((nI_ltI ha hb).mp q)), Nat.min_eq_left (by omega)]
theorem i_max {a b : Nat} (ha : a < 2 ^ 31) (hb : b < 2 ^ 31) : (if nI a < nI b then nI b else nI a) = nI (max a b) := by
  by_cases h : a < b
  · rw [if_pos ((nI_ltI ha hb).mpr h), Nat.max_eq_right (by omega)]
  · rw [if_neg (fun q => h ((nI_ltI ha hb).mp q)), Nat.max_eq_left (by omega)]
theorem i_m1 (t : Nat) : nI t + (-1) = nI t - 1 := (Int32.sub_eq_add_neg (nI t) 1).symm
/-- one step of the table, in the row -/
theorem tb_row {g : Nat → Int32} {f : Nat → Nat} {rm wd x : Nat} (hf : ∀ s, s ≤ 800 → f s ≤ 7) (hrm : rm ≤ 800) (hw : 0 < wd) (h1 : x ≤ rm) (h2 : ∀ s, s ≤ 800 → g s = nI (if x < s then tb_add wd rm f s else f s)) (hx : wd ≤ x) :
    ∀ s, s ≤ 800 → upd g x (if g (x - wd) + 1 < g x then g (x - wd) + 1 else g x) s = nI (if x - 1 < s then tb_add wd rm f s else f s) := by
  intro s hs
  have e1 : g x = nI (f x) := by rw [h2 x (by omega), if_neg (by omega)]
  have e2 : g (x - wd) = nI (f (x - wd)) := by rw [h2 (x - wd) (by omega), if_neg (by omega)]
  have b1 := hf x (by omega)
  have b2 := hf (x - wd) (by omega)
  by_cases e : s = x
  · subst e
    rw [pk_us, e1, e2, nI_1, i_min (by omega) (by omega), if_pos (by omega)]
    simp only [tb_add]
    rw [if_pos ⟨hx, h1⟩]
  · rw [pk_un e, h2 s hs]
    by_cases q : x < s
    · rw [if_pos q, if_pos (by omega)]
    · rw [if_neg q, if_neg (by omega)]
/-- what the orders of one grade give to a cut -/
def f_cap (og : Nat → Int32) (lk : Nat → Nat) (k : Nat) (g : Int32) : Nat → Nat := fun j => if j < k ∧ og j = g then min (lk j) 6 else 0
def f_wf (cp w : Nat → Nat) : Nat → Nat
  | 0 => 0
  | q + 1 => if 0 < cp (9 - q) then max (f_wf cp w q) (w (9 - q)) else f_wf cp w q
theorem f_wf_le (cp w : Nat → Nat) (hw : ∀ j, j < 10 → w j ≤ 400) : ∀ q, f_wf cp w q ≤ 400
  | 0 => Nat.zero_le _
  | q + 1 => by
    rw [f_wf]
    have h1 := f_wf_le cp w hw q
    have h2 := hw (9 - q) (by omega)
    split <;> omega
theorem f_wf_ge (cp w : Nat → Nat) : ∀ (q j : Nat), 10 - q ≤ j → j < 10 → 0 < cp j → w j ≤ f_wf cp w q
  | 0, j, h1, h2, _ => absurd h2 (by omega)
  | q + 1, j, h1, h2, h3 => by
    rw [f_wf]
    rcases Nat.lt_or_ge j (10 - q) with g | g
    · rcases Nat.lt_or_ge 9 q with q9 | q9
      · have := f_wf_ge cp w q j (by omega) h2 h3
        split <;> omega
      · have e : 9 - q = j := by omega
        rw [e, if_pos h3]
        omega
    · have := f_wf_ge cp w q j g h2 h3
      split <;> omega
theorem f_wf_s (cp w : Nat → Nat) {t : Nat} (ht : t < 10) : f_wf cp w (10 - t) = if 0 < cp t then max (f_wf cp w (10 - (t + 1))) (w t) else f_wf cp w (10 - (t + 1)) := by
  rw [show 10 - t = (10 - (t + 1)) + 1 by omega, f_wf, show 9 - (10 - (t + 1)) = t by omega]
theorem ld_row {f : Nat → Int32} (F : Nat → Nat) {v : Int32} {t : Nat} (h : ∀ j, t + 1 ≤ j → j < 10 → f j = nI (F j)) (hv : v = nI (F t)) : ∀ j, t ≤ j → j < 10 → upd f t v j = nI (F j) := by
  intro j h1 h2
  by_cases e : j = t
  · subst e; rw [pk_us]; exact hv
  · rw [pk_un e]; exact h j (by omega) h2
theorem ld_room {rm : Nat} (h : rm ≤ 800) : (if (0 : Int32) < (if (800 : Int32) < nI rm then 800 else nI rm) then (if (800 : Int32) < nI rm then 800 else nI rm) else 0) = nI rm := by
  have h1 : ¬ (800 : Int32) < nI rm := fun q => absurd ((nI_ltI (a := 800) (by omega) (by omega)).mp q) (by omega)
  rw [if_neg h1]
  rcases Nat.eq_zero_or_pos rm with q | q
  · subst q; rfl
  · exact if_pos ((nI_ltI (a := 0) (by omega) (by omega)).mpr q)
theorem ld_cap {og : Nat → Int32} {lk : Nat → Nat} {k t : Nat} {g : Int32} {ol : Nat → Int32} (h : t < k ∧ og t = g) (hl : ol t = nI (lk t)) (hb : lk t ≤ 1000) : (if (6 : Int32) < ol t then 6 else ol t) = nI (f_cap og lk k g t) := by
  simp only [f_cap]
  rw [if_pos h, hl]
  exact i_min (a := 6) (by omega) (by omega)
theorem ld_cap0 {og : Nat → Int32} {lk : Nat → Nat} {k t : Nat} {g : Int32} (h : ¬ (t < k ∧ og t = g)) : (0 : Int32) = nI (f_cap og lk k g t) := by
  simp only [f_cap]
  rw [if_neg h]; rfl
theorem f_cap_le (og : Nat → Int32) (lk : Nat → Nat) (k : Nat) (g : Int32) (t : Nat) : f_cap og lk k g t ≤ 6 := by
  simp only [f_cap]
  split <;> omega
theorem ld_w1 {cp w : Nat → Nat} {fm fw : Nat → Int32} {v wi wv : Int32} {t : Nat} (ht : t < 10) (hb : cp t ≤ 6) (hw : ∀ j, j < 10 → w j ≤ 400) (hv : v = nI (cp t)) (c : ¬ upd fm t v t ≤ 0) (hwi : wi = nI (f_wf cp w (10 - (t + 1)))) (hwv : wv = nI (w t)) : (if wi < upd fw t wv t then upd fw t wv t else wi) = nI (f_wf cp w (10 - t)) := by
  rw [pk_us, hv] at c
  have h0 : 0 < cp t := by
    rcases Nat.eq_zero_or_pos (cp t) with q | q
    · rw [q] at c; exact absurd (by decide) c
    · exact q
  have b1 := f_wf_le cp w hw (10 - (t + 1))
  have b2 := hw t ht
  rw [pk_us, hwi, hwv, i_max (by omega) (by omega), f_wf_s cp w ht, if_pos h0]
theorem ld_w0 {cp w : Nat → Nat} {fm : Nat → Int32} {v wi : Int32} {t : Nat} (ht : t < 10) (hb : cp t ≤ 6) (hv : v = nI (cp t)) (c : upd fm t v t ≤ 0) (hwi : wi = nI (f_wf cp w (10 - (t + 1)))) : wi = nI (f_wf cp w (10 - t)) := by
  rw [pk_us, hv] at c
  have h0 : ¬ 0 < cp t := fun q => absurd ((nI_leI (b := 0) (by omega) (by omega)).mp c) (by omega)
  rw [hwi, f_wf_s cp w ht, if_neg h0]
