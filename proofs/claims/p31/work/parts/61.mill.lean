/-! the law's mill beside the class's state -/
theorem mi_cost {li fp sp p : Int32} (hl : 0 ≤ li.toInt ∧ li.toInt ≤ 9999) (hf : 0 ≤ fp.toInt ∧ fp.toInt ≤ 99) (hs : 0 ≤ sp.toInt ∧ sp.toInt ≤ 99) (hp : 0 ≤ p.toInt ∧ p.toInt ≤ 16000) :
    Int32.toInt64 ((if p < li then p else li) * fp + (if 0 < p - li then p - li else 0) * sp) = f_cost li fp sp p := by
  have e : (if 0 < p - li then p - li else 0) = p - (if p < li then p else li) := by
    have e2 : (p - li).toInt = p.toInt - li.toInt := fb_subI (by omega) (by omega)
    have e0 : (0 : Int32).toInt = 0 := by decide
    by_cases c : p < li
    · rw [if_pos c, Int32.sub_self, if_neg]
      rw [fa_lt, e2, e0]
      rw [fa_lt] at c
      omega
    · rw [if_neg c]
      by_cases c2 : 0 < p - li
      · rw [if_pos c2]
      · rw [if_neg c2]
        apply Int32.toInt.inj
        rw [fa_lt, e2, e0] at c2
        rw [fa_lt] at c
        rw [e2, e0]
        omega
  rw [e]
  exact m_cost hl hf hs hp
theorem mi_cut {f : Nat → Nat} {k : Nat} (hk : k ≤ 10) (h0 : ∀ j, k ≤ j → j < 10 → f j = 0) : fb_sm f 10 = fb_sm f k := by
  obtain ⟨n, hn⟩ : ∃ n, 10 = k + n := ⟨10 - k, by omega⟩
  rw [hn, fb_sm_split, fb_sm_cong (f := fun j => f (k + j)) (g := fun _ => 0) (fun j hj => h0 (k + j) (by omega) (by omega)), fb_sm_const]
  omega
theorem mi_R0 {u : ST} (g : Int32) {j : Nat} (hj : s_oc u ≤ j) : (c_B u g).2 j = 0 := by
  have h := ct_B_cap (f_cap (s_og u) (c_lk u) (s_oc u) g) (c_w u) 10 0 6 (s_mw u) j
  have e : f_cap (s_og u) (c_lk u) (s_oc u) g j = 0 := if_neg (fun z => absurd z.1 (by omega))
  have h2 : (c_B u g).2 j ≤ f_cap (s_og u) (c_lk u) (s_oc u) g j := h
  omega
theorem mi_sum {u : ST} (h : Inv u) (g : Int32) : fb_sm (fun j => (c_B u g).2 j * c_w u j) (s_oc u) = (c_B u g).1 := by
  have hoc : s_oc u ≤ 10 := h.2.2.2.2.2.1
  rw [← mi_cut hoc (fun j h1 _ => by rw [mi_R0 g h1, Nat.zero_mul])]
  exact (bs_ct0 (f_cap (s_og u) (c_lk u) (s_oc u) g) (c_w u) 10 6 (s_mw u) (inv_pos h g)).2
theorem mi_fsum (R : Nat → Nat) : ∀ k, f_sum (fun j => nI (R j)) k = nI (fb_sm R k)
  | 0 => rfl
  | k + 1 => by rw [f_sum, mi_fsum R k, nI_add]; rfl
theorem mi_n {u : ST} (h : Inv u) : ∃ n : Nat, n ≤ 6 ∧ f_sum (ro_u u) (s_oc u) = nI n ∧ (0 < (c_B u (s_mg u)).1 ↔ 0 < n) ∧ (n = 0 → ∀ j, (c_B u (s_mg u)).2 j = 0) := by
  have hoc : s_oc u ≤ 10 := h.2.2.2.2.2.1
  have h6 : fb_sm (c_B u (s_mg u)).2 10 ≤ 6 := (bs_ct0 (f_cap (s_og u) (c_lk u) (s_oc u) (s_mg u)) (c_w u) 10 6 (s_mw u) (inv_pos h (s_mg u))).1.1.2.1
  rw [mi_cut hoc (fun j h1 _ => mi_R0 (s_mg u) h1)] at h6
  have hz : fb_sm (c_B u (s_mg u)).2 (s_oc u) = 0 → ∀ j, (c_B u (s_mg u)).2 j = 0 := fun z j => by
    rcases Nat.lt_or_ge j (s_oc u) with q | q
    · exact fb_sm_zero z j q
    · exact mi_R0 (s_mg u) q
  refine ⟨_, h6, mi_fsum _ _, ⟨fun hp => ?_, fun hp => ?_⟩, hz⟩
  · rcases Nat.eq_zero_or_pos (fb_sm (c_B u (s_mg u)).2 (s_oc u)) with q | q
    · have e := mi_sum h (s_mg u)
      rw [fb_sm_cong (g := fun _ => 0) (fun j _ => by rw [hz q j, Nat.zero_mul]), fb_sm_const] at e
      omega
    · exact q
  · rcases Nat.eq_zero_or_pos (c_B u (s_mg u)).1 with q | q
    · have e : ∀ j, (c_B u (s_mg u)).2 j = 0 := ct_B_zero (f_cap (s_og u) (c_lk u) (s_oc u) (s_mg u)) (c_w u) (inv_pos h (s_mg u)) 10 0 6 (s_mw u) (by omega) q
      rw [fb_sm_cong (g := fun _ => 0) (fun j _ => e j), fb_sm_const] at hp
      omega
    · exact q
/-- the broke is what went in and did not come out -/
def InvB (u : ST) : Prop := Int64.toInt32 (s_fr u - s_pa u - s_lo u) = s_bk u
/-- the law's mill knows what the last hour was -/
def InvL (u : ST) (y : MX) : Prop := s_hc u = 0 ∨ y = s_kd u (s_hc u - 1)
/-- three grades, the heavier the later -/
def Wt (u : ST) : Prop := s_gc u = 3 ∧ s_we u 0 < s_we u 1 ∧ s_we u 1 < s_we u 2
theorem kb_ring (a b c f q x y z : Int32) (h : a - b - c = x) : (a + (y + q - f)) - (b + (y - z)) - (c + q) = x + (z - f) := by
  rw [← h]; grind
theorem kb_make {u : ST} (h : InvB u) (c p b : Int32) : InvB (u_make u c p b) := by
  have h : Int64.toInt32 (s_fr u - s_pa u - s_lo u) = s_bk u := h
  show Int64.toInt32 ((s_fr u + Int32.toInt64 (m_fib p - m_fed (s_bk u) (s_sh u) p)) - (s_pa u + Int32.toInt64 (p - b)) - (s_lo u + Int32.toInt64 (p / 50))) = s_bk u + (b - m_fed (s_bk u) (s_sh u) p)
  rw [Int64.toInt32_sub, Int64.toInt32_sub] at h ⊢
  rw [Int64.toInt32_add, Int64.toInt32_add, Int64.toInt32_add, Int32.toInt32_toInt64, Int32.toInt32_toInt64, Int32.toInt32_toInt64]
  exact kb_ring _ _ _ _ (p / 50) _ p b h
theorem kb_none {u : ST} (h : InvB u) : InvB (u_none u) := by
  rw [r_none_e]
  exact h
theorem kb_chg (w : ST) (h : InvB w) : InvB (u_chg w) := by
  dsimp only [InvB, u_chg, s_fr, s_pa, s_lo, s_bk] at h ⊢
  exact h
def u_pp (u w : ST) : ST := (s_gc w, s_mw w, s_mg w, s_ch w, s_up w, s_oc w, s_sh w, s_bk w, s_li w, s_fp w, s_sp w, s_hc w, s_ph w + 1, s_tr w + tr_u u, s_st w, s_fr w, s_pa w, s_lo w, s_ma w, s_we w, s_og w, s_ow w, f_subN (s_ol u) (ro_u u) (s_oc u), f_addN (s_ok u) (ro_u u) (s_oc u), s_kd w)
theorem kb_pp (u w : ST) (h : InvB w) : InvB (u_pp u w) := by
  dsimp only [InvB, u_pp, s_fr, s_pa, s_lo, s_bk] at h ⊢
  exact h
theorem u_pp_e (u : ST) : u_paper u = u_pp u (u_make u 112 (ms_u u) (b_u u)) := rfl
theorem kb_h {u : ST} (h : InvB u) : InvB (h_u u) := by
  have h1 := kb_none h
  have h2 := kb_chg _ (kb_make h 99 (ms_u u) (ms_u u))
  have h3 := kb_pp u _ (kb_make h 112 (ms_u u) (b_u u))
  rw [← u_pp_e] at h3
  unfold h_u
  split
  · exact h1
  · split
    · exact h2
    · split
      · exact h3
      · exact h1
theorem kb_p {u : ST} (h : InvB u) : ∀ k, InvB (p_u u k)
  | 0 => h
  | k + 1 => kb_h (kb_p h k)
theorem wt_h {u : ST} (h : Wt u) : Wt (h_u u) := by
  unfold h_u
  by_cases c1 : ¬ 0 ≤ s_mg u
  · rw [if_pos c1]; exact h
  · rw [if_neg c1]
    by_cases c2 : 0 < s_ch u
    · rw [if_pos c2]; exact h
    · rw [if_neg c2]
      by_cases c3 : 0 < (c_B u (s_mg u)).1
      · rw [if_pos c3]; exact h
      · rw [if_neg c3]; exact h
theorem wt_p {u : ST} (h : Wt u) : ∀ k, Wt (p_u u k)
  | 0 => h
  | k + 1 => wt_h (wt_p h k)
/-! the next grade, as the law's mill finds it -/
def nx_U (H : Nat → Bool) (s0 : Nat) (r : Int32) : Prop := ∃ q, s0 ≤ q ∧ q < 3 ∧ H q = true ∧ (∀ g, s0 ≤ g → g < q → H g = false) ∧ r = nI q
def nx_Un (H : Nat → Bool) (s0 : Nat) : Prop := ∀ g, s0 ≤ g → g < 3 → H g = false
def nx_D (H : Nat → Bool) (s0 : Nat) (r : Int32) : Prop := ∃ q, q + 1 < s0 ∧ H q = true ∧ (∀ g, q < g → g + 1 < s0 → H g = false) ∧ r = nI q
def nx_Dn (H : Nat → Bool) (s0 : Nat) : Prop := ∀ g, g + 1 < s0 → H g = false
def nx_P (H : Nat → Bool) (s0 : Nat) (up r : Int32) : Prop := (up = 1 ∧ (nx_U H s0 r ∨ nx_Un H s0 ∧ (nx_D H s0 r ∨ nx_Dn H s0 ∧ r = -1))) ∨ (up = 0 ∧ (nx_D H s0 r ∨ nx_Dn H s0 ∧ (nx_U H s0 r ∨ nx_Un H s0 ∧ r = -1)))
theorem nx_m2 (t : Nat) : nI (t + 2) - 1 - 1 = nI t := by
  rw [show nI (t + 2) - 1 = nI (t + 1) from nI_pred (t + 1), nI_pred]
theorem nx_m3 (t : Nat) : nI t + (-1) = nI (t + 1) - 1 - 1 := by rw [nI_pred, i_m1]
theorem nx_p1 (s0 : Nat) : nI s0 - 1 + 1 = nI s0 := Int32.sub_add_cancel _ _
theorem nI_m1 {q : Nat} (h : q < 2 ^ 31) : ¬ nI q = -1 := fun e => absurd (e ▸ nI_pos' h : (0 : Int32) ≤ -1) (by decide)
theorem nf_up {we : Nat → Int32} {op : Nat → Bool} {w : Int32} {s0 G : Nat} (hG : G ≤ 1000) (hab : ∀ i, i < G → (w < we i ↔ s0 ≤ i)) (hinc : ∀ i j, i < j → j < G → we i < we j) :
    ∀ k, k ≤ G → (f_nf we op w 1 k = -1 ∧ ∀ g, s0 ≤ g → g < k → op g = false) ∨ ∃ q, s0 ≤ q ∧ q < k ∧ op q = true ∧ (∀ g, s0 ≤ g → g < q → op g = false) ∧ f_nf we op w 1 k = nI q
  | 0, _ => Or.inl ⟨rfl, fun g _ h => absurd h (Nat.not_lt_zero g)⟩
  | k + 1, hk => by
    have IH := nf_up hG hab hinc (op := op) k (by omega)
    rw [f_nf]
    simp only [if_neg (by decide : ¬ (1 : Int32) = 0)]
    by_cases c : op k = true ∧ w < we k
    · have hs := (hab k (by omega)).mp c.2
      rcases IH with ⟨e, hn⟩ | ⟨q, h1, h2, h3, h4, e⟩
      · rw [if_pos ⟨c, Or.inl e⟩]
        exact Or.inr ⟨k, hs, by omega, c.1, hn, rfl⟩
      · rw [if_neg (fun z => ?_)]
        · exact Or.inr ⟨q, h1, by omega, h3, h4, e⟩
        · rcases z.2 with z | z
          · exact nI_m1 (by omega) (e.symm.trans z)
          · rw [e, nI_clamp (by omega)] at z
            exact (fa_of_lt (hinc q k h2 (by omega))).2.2.1 z
    · rw [if_neg (fun z => c z.1)]
      have hk0 : s0 ≤ k → op k = false := fun hs => by
        have := (hab k (by omega)).mpr hs
        rw [← Bool.not_eq_true]
        exact fun z => c ⟨z, this⟩
      rcases IH with ⟨e, hn⟩ | ⟨q, h1, h2, h3, h4, e⟩
      · refine Or.inl ⟨e, fun g h1 h2 => ?_⟩
        rcases Nat.lt_or_ge g k with y | y
        · exact hn g h1 y
        · obtain rfl : g = k := by omega
          exact hk0 h1
      · exact Or.inr ⟨q, h1, by omega, h3, h4, e⟩
theorem nf_dn {we : Nat → Int32} {op : Nat → Bool} {w : Int32} {s0 G : Nat} (hG : G ≤ 1000) (hab : ∀ i, i < G → (we i < w ↔ i + 1 < s0)) (hinc : ∀ i j, i < j → j < G → we i < we j) :
    ∀ k, k ≤ G → (f_nf we op w 0 k = -1 ∧ ∀ g, g < k → g + 1 < s0 → op g = false) ∨ ∃ q, q < k ∧ q + 1 < s0 ∧ op q = true ∧ (∀ g, q < g → g < k → g + 1 < s0 → op g = false) ∧ f_nf we op w 0 k = nI q
  | 0, _ => Or.inl ⟨rfl, fun g h => absurd h (Nat.not_lt_zero g)⟩
  | k + 1, hk => by
    have IH := nf_dn hG hab hinc (op := op) k (by omega)
    rw [f_nf]
    simp only [if_true]
    by_cases c : op k = true ∧ we k < w
    · have hs := (hab k (by omega)).mp c.2
      rcases IH with ⟨e, hn⟩ | ⟨q, h1, h2, h3, h4, e⟩
      · rw [if_pos ⟨c, Or.inl e⟩]
        exact Or.inr ⟨k, by omega, hs, c.1, fun g h5 h6 => absurd h6 (by omega), rfl⟩
      · rw [if_pos ⟨c, Or.inr (by rw [e, nI_clamp (by omega)]; exact hinc q k h1 (by omega))⟩]
        exact Or.inr ⟨k, by omega, hs, c.1, fun g h5 h6 => absurd h6 (by omega), rfl⟩
    · rw [if_neg (fun z => c z.1)]
      have hk0 : k + 1 < s0 → op k = false := fun hs => by
        have := (hab k (by omega)).mpr hs
        rw [← Bool.not_eq_true]
        exact fun z => c ⟨z, this⟩
      rcases IH with ⟨e, hn⟩ | ⟨q, h1, h2, h3, h4, e⟩
      · refine Or.inl ⟨e, fun g h1 h2 => ?_⟩
        rcases Nat.lt_or_ge g k with y | y
        · exact hn g y h2
        · obtain rfl : g = k := by omega
          exact hk0 h2
      · refine Or.inr ⟨q, by omega, h2, h3, fun g h5 h6 h7 => ?_, e⟩
        rcases Nat.lt_or_ge g k with y | y
        · exact h4 g h5 y h7
        · obtain rfl : g = k := by omega
          exact hk0 h7
theorem nx_Ue {H : Nat → Bool} {s0 : Nat} {r f : Int32} (h : nx_U H s0 r) (n : (f = -1 ∧ ∀ g, s0 ≤ g → g < 3 → H g = false) ∨ ∃ q, s0 ≤ q ∧ q < 3 ∧ H q = true ∧ (∀ g, s0 ≤ g → g < q → H g = false) ∧ f = nI q) : f = r ∧ ¬ f = -1 := by
  obtain ⟨q, h1, h2, h3, h4, rfl⟩ := h
  rcases n with ⟨-, n⟩ | ⟨p, n1, n2, n3, n4, rfl⟩
  · rw [n q h1 h2] at h3; exact absurd h3 Bool.false_ne_true
  · rcases Nat.lt_trichotomy p q with z | z | z
    · rw [h4 p n1 z] at n3; exact absurd n3 Bool.false_ne_true
    · subst z; exact ⟨rfl, nI_m1 (by omega)⟩
    · rw [n4 q h1 z] at h3; exact absurd h3 Bool.false_ne_true
theorem nx_Une {H : Nat → Bool} {s0 : Nat} {f : Int32} (h : nx_Un H s0) (n : (f = -1 ∧ ∀ g, s0 ≤ g → g < 3 → H g = false) ∨ ∃ q, s0 ≤ q ∧ q < 3 ∧ H q = true ∧ (∀ g, s0 ≤ g → g < q → H g = false) ∧ f = nI q) : f = -1 := by
  rcases n with ⟨n, -⟩ | ⟨p, n1, n2, n3, -, -⟩
  · exact n
  · rw [h p n1 n2] at n3; exact absurd n3 Bool.false_ne_true
theorem nx_De {H : Nat → Bool} {s0 : Nat} (hs : s0 ≤ 3) {r f : Int32} (h : nx_D H s0 r) (n : (f = -1 ∧ ∀ g, g < 3 → g + 1 < s0 → H g = false) ∨ ∃ q, q < 3 ∧ q + 1 < s0 ∧ H q = true ∧ (∀ g, q < g → g < 3 → g + 1 < s0 → H g = false) ∧ f = nI q) : f = r ∧ ¬ f = -1 := by
  obtain ⟨q, h2, h3, h4, rfl⟩ := h
  rcases n with ⟨-, n⟩ | ⟨p, n1, n2, n3, n4, rfl⟩
  · rw [n q (by omega) h2] at h3; exact absurd h3 Bool.false_ne_true
  · rcases Nat.lt_trichotomy p q with z | z | z
    · rw [n4 q z (by omega) h2] at h3; exact absurd h3 Bool.false_ne_true
    · subst z; exact ⟨rfl, nI_m1 (by omega)⟩
    · rw [h4 p z n2] at n3; exact absurd n3 Bool.false_ne_true
theorem nx_Dne {H : Nat → Bool} {s0 : Nat} {f : Int32} (h : nx_Dn H s0) (n : (f = -1 ∧ ∀ g, g < 3 → g + 1 < s0 → H g = false) ∨ ∃ q, q < 3 ∧ q + 1 < s0 ∧ H q = true ∧ (∀ g, q < g → g < 3 → g + 1 < s0 → H g = false) ∧ f = nI q) : f = -1 := by
  rcases n with ⟨n, -⟩ | ⟨p, n1, n2, n3, -, -⟩
  · exact n
  · rw [h p n2] at n3; exact absurd n3 Bool.false_ne_true
theorem wt_inc {u : ST} (h : Wt u) : ∀ i j, i < j → j < 3 → s_we u i < s_we u j := by
  intro i j hij hj
  rcases (show (i = 0 ∧ j = 1) ∨ (i = 0 ∧ j = 2) ∨ (i = 1 ∧ j = 2) by omega) with ⟨rfl, rfl⟩ | ⟨rfl, rfl⟩ | ⟨rfl, rfl⟩
  · exact h.2.1
  · exact Int32.lt_trans h.2.1 h.2.2
  · exact h.2.2
theorem wt_iff {u : ST} (h : Wt u) {i j : Nat} (hi : i < 3) (hj : j < 3) : s_we u i < s_we u j ↔ i < j := by
  refine ⟨fun q => ?_, fun q => wt_inc h i j q hj⟩
  rcases Nat.lt_trichotomy i j with z | z | z
  · exact z
  · subst z; exact absurd q Int32.lt_irrefl
  · exact absurd q (fa_of_lt (wt_inc h j i z hi)).2.2.1
theorem nx_ok {u : ST} (h : Inv u) (hw : Wt u) {s0 : Nat} (hs : s_mg u = nI s0 - 1) (hs0 : s0 ≤ 3) {r : Int32} (hr : nx_P (f_hoz (s_og u) (s_ol u) (s_oc u)) s0 (s_up u) r) : r = v_next u := by
  have hg3 := hw.1
  unfold v_next
  rcases Nat.eq_zero_or_pos s0 with z | z
  · subst z
    have hm : s_mg u = -1 := hs
    have hn : ¬ 0 ≤ s_mg u := by rw [hm]; decide
    have hup : s_up u = 1 := (inv_mg1 h hn).2.1
    rw [if_neg hn, nr_nf h (by decide) 1, hg3]
    have n := nf_up (G := 3) (w := 0) (s0 := 0) (op := f_hoz (s_og u) (s_ol u) (s_oc u)) (by omega) (fun i hi => ⟨fun _ => Nat.zero_le i, fun _ => by
      have hwe := h.2.2.2.2.2.2.2.2.2.2.2.2.2.2.2.1 i (by omega)
      rw [fa_lt]
      show (0 : Int) < _
      omega⟩) (wt_inc hw) 3 (Nat.le_refl 3)
    rcases hr with ⟨-, hr⟩ | ⟨e, -⟩
    · rcases hr with hr | ⟨hr, hr2⟩
      · exact (nx_Ue hr n).1.symm
      · rcases hr2 with ⟨q, hq, -⟩ | ⟨-, hr2⟩
        · exact absurd hq (Nat.not_lt_zero _)
        · exact hr2.trans (nx_Une hr n).symm
    · rw [hup] at e; exact absurd e (by decide)
  · obtain ⟨g, rfl⟩ : ∃ g, s0 = g + 1 := ⟨s0 - 1, by omega⟩
    have hm : s_mg u = nI g := hs.trans (nI_pred g)
    have hp : 0 ≤ s_mg u := by rw [hm]; exact nI_pos' (by omega)
    have hb := inv_we h (g := g) (by omega)
    rw [if_pos hp, show (s_mg u).toNatClampNeg = g from by rw [hm]; exact nI_clamp (by omega)]
    have n1 := nf_up (G := 3) (w := s_we u g) (s0 := g + 1) (op := f_hoz (s_og u) (s_ol u) (s_oc u)) (by omega) (fun i hi => (wt_iff hw (by omega) hi).trans ⟨fun q => q, fun q => q⟩) (wt_inc hw) 3 (Nat.le_refl 3)
    have n0 := nf_dn (G := 3) (w := s_we u g) (s0 := g + 1) (op := f_hoz (s_og u) (s_ol u) (s_oc u)) (by omega) (fun i hi => (wt_iff hw hi (by omega)).trans ⟨fun q => by omega, fun q => by omega⟩) (wt_inc hw) 3 (Nat.le_refl 3)
    rcases hr with ⟨e, hr⟩ | ⟨e, hr⟩
    · rw [e, if_neg (by decide : ¬ (1 : Int32) = 0), nr_nf h hb 1, nr_nf h hb 0, hg3]
      rcases hr with hr | ⟨hr, hr2⟩
      · obtain ⟨a, b⟩ := nx_Ue hr n1
        rw [if_neg b, a]
      · rw [if_pos (nx_Une hr n1)]
        rcases hr2 with hr2 | ⟨hr2, rfl⟩
        · exact (nx_De hs0 hr2 n0).1.symm
        · exact (nx_Dne hr2 n0).symm
    · rw [e, if_pos rfl, nr_nf h hb 1, nr_nf h hb 0, hg3]
      rcases hr with hr | ⟨hr, hr2⟩
      · obtain ⟨a, b⟩ := nx_De hs0 hr n0
        rw [if_neg b, a]
      · rw [if_pos (nx_Dne hr n0)]
        rcases hr2 with hr2 | ⟨hr2, rfl⟩
        · exact (nx_Ue hr2 n1).1.symm
        · exact (nx_Une hr2 n1).symm
theorem mi_pa0 (x : Int32) {z : Int64} : (if (0 : Int32) = 0 then (0 : Int64) else z) = Int32.toInt64 (x - x) := by
  rw [if_pos rfl, Int32.sub_self]; rfl
theorem mi_pa1 {z : Int64} : (if (1 : Int32) = 0 then (0 : Int64) else z) = z := if_neg (by decide)
theorem mi_add0 {f g : Nat → Int32} {k : Nat} (h : ∀ j, j < k → g j = 0) : f_addN f g k = f := by
  funext j
  simp only [f_addN]
  by_cases c : j < k
  · rw [if_pos c, h j c, Int32.add_zero]
  · rw [if_neg c]
theorem mi_sub0 {f g : Nat → Int32} {k : Nat} (h : ∀ j, j < k → g j = 0) : f_subN f g k = f := by
  funext j
  simp only [f_subN]
  by_cases c : j < k
  · rw [if_pos c, h j c, Int32.sub_zero]
  · rw [if_neg c]
