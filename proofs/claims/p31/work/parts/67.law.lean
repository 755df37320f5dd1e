/-! what holds between the law's turns -/
def LA (u : ST) (v : HX) (y : MX) : Prop := All u v ∧ InvB u ∧ Wt u ∧ InvL u y
theorem la_s0 {u : ST} (h : Inv u) (hw : Wt u) : ∃ s0, s0 ≤ 3 ∧ s_mg u = nI s0 - 1 := by
  by_cases c : 0 ≤ s_mg u
  · obtain ⟨g, hg, eg⟩ := inv_mg h c
    exact ⟨g + 1, by have := hw.1; omega, by rw [eg]; exact (nI_pred g).symm⟩
  · exact ⟨0, by omega, (inv_mg1 h c).1⟩
/-- a number drawn out of an int -/
def lo_ (p : Int32) (N : Nat) : Nat := p.toBitVec.toNat % 2 ^ 31 % N
theorem lo_lt (p : Int32) {N : Nat} (h : 0 < N) : lo_ p N < N := Nat.mod_lt _ h
theorem la_low (p : Int32) {N : Nat} (h : 0 < N) (hN : N ≤ 1000000) : (p &&& 2147483647) - (p &&& 2147483647) / nI N * nI N = nI (lo_ p N) := by
  rw [pk_and p 31 (by decide)]
  exact pk_rem (Nat.mod_lt _ (Nat.two_pow_pos 31)) h (by omega)
theorem la_order {u : ST} {v : HX} {y : MX} (h : LA u v y) {j wj lj : Nat} (hj : j < 3) (ho : s_oc u < 10) (hw : wj < min 400 (s_mw u) - 19) (hl : lj < 8) : k_order u (nI j) (nI (20 + wj)) (nI (1 + lj)) = 0 := by
  obtain ⟨⟨hinv, -, -⟩, -, hwt, -⟩ := h
  have hmw := hinv.2.1
  have h1 : 0 ≤ nI j ∧ nI j < nI (s_gc u) := ⟨nI_pos' (by omega), by rw [hwt.1]; exact nI_lt hj (by decide)⟩
  have h2 : ¬ (¬ (20 ≤ nI (20 + wj) ∧ nI (20 + wj) ≤ 400) ∨ ¬ (1 ≤ nI (1 + lj) ∧ nI (1 + lj) ≤ 50)) := fun z => z.elim (fun q => q ⟨nI_le (a := 20) (by omega) (by omega), nI_le (b := 400) (by omega) (by decide)⟩) (fun q => q ⟨nI_le (a := 1) (by omega) (by omega), nI_le (b := 50) (by omega) (by decide)⟩)
  have h3 : ¬ nI (s_mw u) < nI (20 + wj) := fun z => by have := (nI_ltI (by omega) (by omega)).mp z; omega
  exact (if_neg (not_not_intro h1)).trans ((if_neg h2).trans ((if_neg h3).trans (if_neg (by omega))))
theorem la_change {u : ST} {v : HX} {y : MX} (h : LA u v y) {j : Nat} (hj : j < 3) (c1 : ¬ nI j = s_mg u) (c2 : ¬ 0 < s_ch u) : k_change u (nI j) = 0 := by
  have h1 : 0 ≤ nI j ∧ nI j < nI (s_gc u) := ⟨nI_pos' (by omega), by rw [h.2.2.1.1]; exact nI_lt hj (by decide)⟩
  exact (if_neg (not_not_intro h1)).trans ((if_neg c1).trans (if_neg c2))
theorem la_share {u : ST} {j : Nat} (hj : j < 51) : k_setShare u (nI j) = 0 := if_pos ⟨nI_pos' (by omega), nI_le (b := 50) (by omega) (by decide)⟩
theorem la_contract {u : ST} {a b c : Nat} (ha : a < 6000) (hb : b < 100) (hc : c < 100) : k_setContract u (nI a) (nI b) (nI c) = 0 :=
  if_pos ⟨⟨nI_pos' (by omega), nI_le (b := 9999) (by omega) (by decide)⟩, ⟨nI_pos' (by omega), nI_le (b := 99) (by omega) (by decide)⟩, ⟨nI_pos' (by omega), nI_le (b := 99) (by omega) (by decide)⟩⟩
/-- the widest open order so far, and no less than 200 -/
def wo_I (u : ST) (i : Nat) (x : Int32) : Prop := ∃ wd, 200 ≤ wd ∧ wd ≤ 400 ∧ x = nI wd ∧ f_wo (s_ol u) (s_ow u) i ≤ x
theorem wo_0 (u : ST) : wo_I u 0 200 := ⟨200, Nat.le_refl _, by omega, rfl, by show (0 : Int32) ≤ 200; decide⟩
theorem wo_no {u : ST} {i : Nat} {x : Int32} (h : wo_I u i x) (c : ¬ 0 < s_ol u i) : wo_I u (i + 1) x := by
  obtain ⟨wd, h1, h2, h3, h4⟩ := h
  exact ⟨wd, h1, h2, h3, by rw [f_wo, if_neg c]; exact h4⟩
theorem wo_yes {u : ST} (hinv : Inv u) {i : Nat} {x : Int32} (h : wo_I u i x) (c : 0 < s_ol u i) : wo_I u (i + 1) (if x < s_ow u i then s_ow u i else x) := by
  obtain ⟨wd, h1, h2, h3, h4⟩ := h
  obtain ⟨-, -, -, -, -, -, -, -, -, -, -, -, -, -, -, -, how, -, -, -⟩ := hinv
  have e := i_of (how i).1
  have e2 := i_to (how i).1
  have hb := (how i).2
  have hf : f_wo (s_ol u) (s_ow u) (i + 1) = if f_wo (s_ol u) (s_ow u) i < s_ow u i then s_ow u i else f_wo (s_ol u) (s_ow u) i := by rw [f_wo, if_pos c]
  by_cases c2 : x < s_ow u i
  · rw [if_pos c2]
    have c3 := c2
    rw [h3, e] at c3
    have := (nI_ltI (by omega) (by omega)).mp c3
    refine ⟨(s_ow u i).toNatClampNeg, by omega, by omega, e, ?_⟩
    rw [hf]
    split
    · exact Int32.le_refl _
    · exact Int32.le_trans h4 (fa_of_lt c2).1
  · rw [if_neg c2]
    refine ⟨wd, h1, h2, h3, ?_⟩
    rw [hf]
    split
    · exact Int32.not_lt.mp c2
    · exact h4
theorem la_width {u : ST} {wd d : Nat} (h1 : 200 ≤ wd) (h2 : wd ≤ 400) (hd : d < 801 - wd) (hw : f_wo (s_ol u) (s_ow u) (s_oc u) ≤ nI wd) : k_setWidth u (nI (wd + d)) = 0 := by
  refine (if_neg (not_not_intro ⟨nI_le (a := 200) (by omega) (by omega), nI_le (b := 800) (by omega) (by decide)⟩)).trans (if_neg (Int32.not_lt.mpr (Int32.le_trans hw (nI_le (by omega) (by omega)))))
theorem la_n_order {u : ST} {v : HX} {y : MX} {p q r : Int32} (h : LA u v y) (hk : k_order u p q r = 0) : LA (n_order u p q r) v y := by
  obtain ⟨⟨hi, hv, hd⟩, hB, hw, hl⟩ := h
  refine ⟨⟨kp_order hi hk, ?_, ?_⟩, ?_, ?_, ?_⟩
  · dsimp only [InvV, n_order, s_hc, s_bk] at hv ⊢; exact hv
  · dsimp only [KD, n_order, s_kd] at hd ⊢; exact hd
  · dsimp only [InvB, n_order, s_fr, s_pa, s_lo, s_bk] at hB ⊢; exact hB
  · dsimp only [Wt, n_order, s_gc, s_we] at hw ⊢; exact hw
  · dsimp only [InvL, n_order, s_hc, s_kd] at hl ⊢; exact hl
theorem la_n_change {u : ST} {v : HX} {y : MX} {p : Int32} (h : LA u v y) (hk : k_change u p = 0) : LA (n_change u p) v y := by
  obtain ⟨⟨hi, hv, hd⟩, hB, hw, hl⟩ := h
  refine ⟨⟨kp_change hi hk, ?_, ?_⟩, ?_, ?_, ?_⟩
  · dsimp only [InvV, n_change, s_hc, s_bk] at hv ⊢; exact hv
  · dsimp only [KD, n_change, s_kd] at hd ⊢; exact hd
  · dsimp only [InvB, n_change, s_fr, s_pa, s_lo, s_bk] at hB ⊢; exact hB
  · dsimp only [Wt, n_change, s_gc, s_we] at hw ⊢; exact hw
  · dsimp only [InvL, n_change, s_hc, s_kd] at hl ⊢; exact hl
theorem la_n_setShare {u : ST} {v : HX} {y : MX} {p : Int32} (h : LA u v y) (hk : k_setShare u p = 0) : LA (n_setShare u p) v y := by
  obtain ⟨⟨hi, hv, hd⟩, hB, hw, hl⟩ := h
  refine ⟨⟨kp_setShare hi hk, ?_, ?_⟩, ?_, ?_, ?_⟩
  · dsimp only [InvV, n_setShare, s_hc, s_bk] at hv ⊢; exact hv
  · dsimp only [KD, n_setShare, s_kd] at hd ⊢; exact hd
  · dsimp only [InvB, n_setShare, s_fr, s_pa, s_lo, s_bk] at hB ⊢; exact hB
  · dsimp only [Wt, n_setShare, s_gc, s_we] at hw ⊢; exact hw
  · dsimp only [InvL, n_setShare, s_hc, s_kd] at hl ⊢; exact hl
theorem la_n_setContract {u : ST} {v : HX} {y : MX} {p q r : Int32} (h : LA u v y) (hk : k_setContract u p q r = 0) : LA (n_setContract u p q r) v y := by
  obtain ⟨⟨hi, hv, hd⟩, hB, hw, hl⟩ := h
  refine ⟨⟨kp_setContract hi hk, ?_, ?_⟩, ?_, ?_, ?_⟩
  · dsimp only [InvV, n_setContract, s_hc, s_bk] at hv ⊢; exact hv
  · dsimp only [KD, n_setContract, s_kd] at hd ⊢; exact hd
  · dsimp only [InvB, n_setContract, s_fr, s_pa, s_lo, s_bk] at hB ⊢; exact hB
  · dsimp only [Wt, n_setContract, s_gc, s_we] at hw ⊢; exact hw
  · dsimp only [InvL, n_setContract, s_hc, s_kd] at hl ⊢; exact hl
theorem la_n_setWidth {u : ST} {v : HX} {y : MX} {p : Int32} (h : LA u v y) (hk : k_setWidth u p = 0) : LA (n_setWidth u p) v y := by
  obtain ⟨⟨hi, hv, hd⟩, hB, hw, hl⟩ := h
  refine ⟨⟨kp_setWidth hi hk, ?_, ?_⟩, ?_, ?_, ?_⟩
  · dsimp only [InvV, n_setWidth, s_hc, s_bk] at hv ⊢; exact hv
  · dsimp only [KD, n_setWidth, s_kd] at hd ⊢; exact hd
  · dsimp only [InvB, n_setWidth, s_fr, s_pa, s_lo, s_bk] at hB ⊢; exact hB
  · dsimp only [Wt, n_setWidth, s_gc, s_we] at hw ⊢; exact hw
  · dsimp only [InvL, n_setWidth, s_hc, s_kd] at hl ⊢; exact hl
theorem la_pass {u : ST} {v : HX} {y y1 : MX} {n : Nat} (h : LA u v y) (h1 : 1 ≤ n) (h4 : n ≤ 4) (hh : s_hc u + 4 ≤ 400) (hl : InvL (p_u u n) y1) : LA (p_u u n) (p_v u v n) y1 ∧ s_hc (p_u u n) ≤ s_hc u + 4 := by
  have hp := kp_p h.1.1 n (by omega)
  exact ⟨⟨⟨hp.1, kv_p h.1.2.1 n, kd_p h.1.2.2 n⟩, kb_p h.2.1 n, wt_p h.2.2.1 n, hl⟩, by rw [hp.2]; omega⟩
theorem la_kpass {u : ST} {n : Nat} (h1 : 1 ≤ n) (h4 : n ≤ 4) (hh : s_hc u + 4 ≤ 400) : k_pass u (nI n) = 0 :=
  (if_neg (not_not_intro ⟨nI_le (a := 1) (by omega) (by omega), nI_le (b := 48) (by omega) (by decide)⟩)).trans (if_neg (fun z => by have := (nI_ltI (by omega) (by omega)).mp z; omega))
theorem la_last {u : ST} {y2 : MX} {i : Nat} (h : y2 = s_kd (h_u (p_u u i)) (s_hc (p_u u i))) : InvL (p_u u (i + 1)) y2 := by
  refine Or.inr ?_
  show y2 = s_kd (h_u (p_u u i)) (s_hc (h_u (p_u u i)) - 1)
  rw [kp_hc]
  exact h
/-- a loop whose turns take room, at an instruction -/
theorem k_loopW {p : Program} {l : Launch} {e : Env} {R : Room} {s : State} {m : MethodId} {args : Array Value} {below : List Frame} {meth : Method} {c : Code} {cells slots : Nat} {Q : State → Prop} {pc : Nat} {D : va_G} {ty : List (ClassId × FieldType)} {A : Nat → Prop} {σ : Type} {nL : Nat} (I : σ → Prop) (mu : σ → Nat) (w : σ → va_W) (lv : σ → List (Nat × Value)) (cs ss : σ → Nat) (x0 : σ) (hc : cs x0 = cells) (hs : ss x0 = slots) (h0 : I x0)
    (step : ∀ x : σ, I x → (∀ (x' : σ) (H : Heap) (locs : List Loc) (ls : Array Slot), I x' → mu x' < mu x → kW D ty s A (w x') H locs → lv_has ls nL (lv x') → W p l e R s m args below meth c H locs (cs x') (ss x') Q (F0 m pc ls [])) → ∀ (H : Heap) (locs : List Loc) (ls : Array Slot), kW D ty s A (w x) H locs → lv_has ls nL (lv x) → W p l e R s m args below meth c H locs (cs x) (ss x) Q (F0 m pc ls [])) :
    ∀ (H : Heap) (locs : List Loc) (ls : Array Slot), kW D ty s A (w x0) H locs → lv_has ls nL (lv x0) → W p l e R s m args below meth c H locs cells slots Q (F0 m pc ls []) := by
  subst hc
  subst hs
  exact k_loopR (W' := fun x H locs ls => W p l e R s m args below meth c H locs (cs x) (ss x) Q (F0 m pc ls [])) I mu w lv x0 h0 step
theorem la_dpos {u : ST} (hinv : Inv u) (hw : Wt u) {g j : Nat} (hg : g < 3) (hj : j < 3) : 0 < s_we u j - s_we u g ↔ g < j := by
  have b1 := inv_we hinv (g := j) (by rw [hw.1]; exact hj)
  have b2 := inv_we hinv (g := g) (by rw [hw.1]; exact hg)
  have e : (s_we u j - s_we u g).toInt = (s_we u j).toInt - (s_we u g).toInt := fb_subI (by omega) (by omega)
  rw [← wt_iff hw hg hj, fa_lt, fa_lt, e]
  show (0 : Int) < _ ↔ _
  omega
