/-! what small methods answer, as functions of rows -/
def f_wo (ol ow : Nat → Int32) : Nat → Int32
  | 0 => 0
  | i + 1 => if 0 < ol i then (if f_wo ol ow i < ow i then ow i else f_wo ol ow i) else f_wo ol ow i
def f_rl (og ol : Nat → Int32) (g : Int32) : Nat → Int32
  | 0 => 0
  | i + 1 => if og i = g then f_rl og ol g i + ol i else f_rl og ol g i
def f_wl (og ol ow : Nat → Int32) (g : Int32) : Nat → Int32
  | 0 => 0
  | i + 1 => if og i = g then f_wl og ol ow g i + ol i * ow i else f_wl og ol ow g i
def f_sum (f : Nat → Int32) : Nat → Int32
  | 0 => 0
  | i + 1 => f_sum f i + f i
def f_addN (f g : Nat → Int32) (i : Nat) : Nat → Int32 := fun j => if j < i then f j + g j else f j
def f_subN (f g : Nat → Int32) (i : Nat) : Nat → Int32 := fun j => if j < i then f j - g j else f j
theorem f_addN_0 (f g : Nat → Int32) : f_addN f g 0 = f := by funext j; simp [f_addN]
theorem f_subN_0 (f g : Nat → Int32) : f_subN f g 0 = f := by funext j; simp [f_subN]
theorem f_addN_i (f g : Nat → Int32) (i : Nat) : f_addN f g i i = f i := by simp [f_addN]
theorem f_subN_i (f g : Nat → Int32) (i : Nat) : f_subN f g i i = f i := by simp [f_subN]
theorem f_addN_s (f g : Nat → Int32) (i : Nat) : upd (f_addN f g i) i (f i + g i) = f_addN f g (i + 1) := by
  funext j
  simp only [upd, f_addN]
  by_cases h : j = i
  · subst h; simp
  · rw [if_neg h]
    by_cases h2 : j < i
    · rw [if_pos h2, if_pos (by omega)]
    · rw [if_neg h2, if_neg (by omega)]
theorem f_subN_s (f g : Nat → Int32) (i : Nat) : upd (f_subN f g i) i (f i - g i) = f_subN f g (i + 1) := by
  funext j
  simp only [upd, f_subN]
  by_cases h : j = i
  · subst h; simp
  · rw [if_neg h]
    by_cases h2 : j < i
    · rw [if_pos h2, if_pos (by omega)]
    · rw [if_neg h2, if_neg (by omega)]
def f_cost (li fp sp x : Int32) : Int64 := Int32.toInt64 (if li < x then li else x) * Int32.toInt64 fp + Int32.toInt64 (x - (if li < x then li else x)) * Int32.toInt64 sp
def f_fs (fi po lo : Nat → Int32) : Nat → Int32
  | 0 => 0
  | i + 1 => f_fs fi po lo i + (fi i - po i - lo i)
def f_tk (we : Nat → Int32) (w : Int32) : Nat → Bool
  | 0 => false
  | i + 1 => f_tk we w i || we i == w
theorem f_tk_mono {we : Nat → Int32} {w : Int32} {i : Nat} (h : f_tk we w (i + 1) = true) : ∀ k, i < k → f_tk we w k = true
  | 0, hk => absurd hk (Nat.not_lt_zero _)
  | k + 1, hk => by
    rcases Nat.lt_or_ge i k with q | q
    · rw [f_tk, f_tk_mono h k q]; rfl
    · have e : i = k := by omega
      subst e
      exact h
def f_dist (we : Nat → Int32) (w a : Int32) (i : Nat) : Int32 := if a = 0 then w - we i else we i - w
def f_near (we : Nat → Int32) (op : Nat → Bool) (w a : Int32) : Nat → Int32
  | 0 => -1
  | i + 1 => if (0 < f_dist we w a i ∧ (f_near we op w a i = -1 ∨ f_dist we w a i < f_dist we w a (f_near we op w a i).toNatClampNeg)) ∧ op i = true then nI i else f_near we op w a i
