/-! what holds between calls, kept by each call -/
theorem ct_B_cap (cap w : Nat → Nat) : ∀ (k a left room j : Nat), (ct_B cap w k a left room).2 j ≤ cap j
  | 0, _, _, _, _ => Nat.zero_le _
  | k + 1, a, left, room, j => by
    rw [ct_B_succ]
    obtain ⟨r, h1, h2⟩ := ct_D_ex (ct_f cap w k a left room) (min (min (cap a) left) (room / w a))
    rw [h2]
    show (if j = a then r else (ct_B cap w k (a + 1) (left - r) (room - r * w a)).2 j) ≤ cap j
    by_cases c : j = a
    · rw [if_pos c]; subst c; omega
    · rw [if_neg c]; exact ct_B_cap cap w k (a + 1) (left - r) (room - r * w a) j
def KD (u : ST) : Prop := ∀ j, narrow .char (.int (s_kd u j)) = .int (s_kd u j)
/-- all that holds between calls -/
def All (u : ST) (v : HX) : Prop := Inv u ∧ InvV u v ∧ KD u
theorem kp_addGrade {u : ST} {p : Int32} (h : Inv u) (hk : k_addGrade u p = 0) : Inv (n_addGrade u p) := by
  obtain ⟨hgc, hmw, hmg, hup, hch, hoc, hsh, hli, hfp, hsp, hhc, hph, htr, hma, hpa, hwe, how, hord, hol, hok⟩ := h
  unfold k_addGrade at hk
  by_cases c1 : ¬ (40 ≤ p ∧ p ≤ 200) ∨ f_tk (s_we u) p (s_gc u) = true
  · rw [if_pos c1] at hk; exact absurd hk (by decide)
  · rw [if_neg c1] at hk
    by_cases c2 : 6 ≤ s_gc u
    · rw [if_pos c2] at hk; exact absurd hk (by decide)
    · have hp : 40 ≤ p ∧ p ≤ 200 := Classical.byContradiction (fun z => c1 (Or.inl z))
      have hp1 : (40 : Int) ≤ p.toInt := (fa_le _ _).mp hp.1
      have hp2 : p.toInt ≤ (200 : Int) := (fa_le _ _).mp hp.2
      refine ⟨(show s_gc u + 1 ≤ 6 by omega), hmw, hmg.imp id (fun ⟨g, hg, e⟩ => ⟨g, (show g < s_gc u + 1 by omega), e⟩), hup, hch, hoc, hsh, hli, hfp, hsp, hhc, hph, htr, hma, hpa, fun j hj => ?_, how, fun j hj => ⟨(hord j hj).1, (hord j hj).2.imp (fun g e => ⟨(show g < s_gc u + 1 from Nat.lt_succ_of_lt e.1), e.2⟩)⟩, hol, hok⟩
      show 40 ≤ (upd (s_we u) (s_gc u) p j).toInt ∧ (upd (s_we u) (s_gc u) p j).toInt ≤ 200
      by_cases c : j = s_gc u
      · subst c; rw [pk_us]; exact ⟨hp1, hp2⟩
      · rw [pk_un c]; exact hwe j (by have : j < s_gc u + 1 := hj; omega)
theorem kp_setWidth {u : ST} {p : Int32} (h : Inv u) (hk : k_setWidth u p = 0) : Inv (n_setWidth u p) := by
  obtain ⟨hgc, hmw, hmg, hup, hch, hoc, hsh, hli, hfp, hsp, hhc, hph, htr, hma, hpa, hwe, how, hord, hol, hok⟩ := h
  unfold k_setWidth at hk
  by_cases c1 : ¬ (200 ≤ p ∧ p ≤ 800)
  · rw [if_pos c1] at hk; exact absurd hk (by decide)
  · have hp : 200 ≤ p ∧ p ≤ 800 := Classical.not_not.mp c1
    have hp1 : (200 : Int) ≤ p.toInt := (fa_le _ _).mp hp.1
    have hp2 : p.toInt ≤ (800 : Int) := (fa_le _ _).mp hp.2
    have e := i_to (x := p) (by omega)
    exact ⟨hgc, ⟨(show 200 ≤ p.toNatClampNeg by omega), (show p.toNatClampNeg ≤ 800 by omega)⟩, hmg, hup, hch, hoc, hsh, hli, hfp, hsp, hhc, hph, htr, hma, hpa, hwe, how, hord, hol, hok⟩
theorem kp_change {u : ST} {p : Int32} (h : Inv u) (hk : k_change u p = 0) : Inv (n_change u p) := by
  have hinv := h
  obtain ⟨hgc, hmw, hmg, hup, hch, hoc, hsh, hli, hfp, hsp, hhc, hph, htr, hma, hpa, hwe, how, hord, hol, hok⟩ := h
  unfold k_change at hk
  by_cases c1 : ¬ (0 ≤ p ∧ p < nI (s_gc u))
  · rw [if_pos c1] at hk; exact absurd hk (by decide)
  · have hp : 0 ≤ p ∧ p < nI (s_gc u) := Classical.not_not.mp c1
    obtain ⟨j, hj, rfl⟩ := i_ix (by omega) hp
    refine ⟨hgc, hmw, Or.inr ⟨j, hj, rfl⟩, ?_, ?_, hoc, hsh, hli, hfp, hsp, hhc, hph, htr, hma, hpa, hwe, how, hord, hol, hok⟩
    · show (if 0 ≤ s_mg u then (if 0 < d_change u (nI j) then (1 : Int32) else 0) else s_up u) = 0 ∨ (if 0 ≤ s_mg u then (if 0 < d_change u (nI j) then (1 : Int32) else 0) else s_up u) = 1
      by_cases c : 0 ≤ s_mg u
      · rw [if_pos c]
        by_cases c2 : 0 < d_change u (nI j)
        · rw [if_pos c2]; exact Or.inr rfl
        · rw [if_neg c2]; exact Or.inl rfl
      · rw [if_neg c]; exact hup
    · show 0 ≤ (t_change u (nI j)).toInt
      unfold t_change
      by_cases c : 0 ≤ s_mg u
      · rw [if_pos c]
        obtain ⟨g, hg, eg⟩ := inv_mg hinv c
        have b1 := inv_we hinv hj
        have b2 := inv_we hinv hg
        have ed : d_change u (nI j) = s_we u j - s_we u g := by unfold d_change; rw [eg, nI_clamp (by omega), nI_clamp (by omega)]
        have e1 : (s_we u j - s_we u g).toInt = (s_we u j).toInt - (s_we u g).toInt := fb_subI (by omega) (by omega)
        have ha : ∃ n, n ≤ 200 ∧ (if 0 ≤ d_change u (nI j) then d_change u (nI j) else 0 - d_change u (nI j)) = nI n := by
          rw [ed]
          by_cases c2 : 0 ≤ s_we u j - s_we u g
          · rw [if_pos c2]
            have q := (fa_le _ _).mp c2
            rw [e1] at q
            have q0 : (0 : Int) ≤ (s_we u j).toInt - (s_we u g).toInt := q
            refine ⟨(s_we u j - s_we u g).toNatClampNeg, ?_, i_of (by omega)⟩
            have := i_to (x := s_we u j - s_we u g) (by omega)
            omega
          · rw [if_neg c2]
            have q := fun z => c2 ((fa_le _ _).mpr z)
            rw [e1] at q
            have q0 : ¬ (0 : Int) ≤ (s_we u j).toInt - (s_we u g).toInt := q
            have e2 : (0 - (s_we u j - s_we u g)).toInt = 0 - (s_we u j - s_we u g).toInt := fb_subI (x := 0) (by rw [e1]; show (-2147483648 : Int) ≤ 0 - _; omega) (by rw [e1]; show (0 : Int) - _ < _; omega)
            refine ⟨(0 - (s_we u j - s_we u g)).toNatClampNeg, ?_, i_of (by omega)⟩
            have := i_to (x := 0 - (s_we u j - s_we u g)) (by omega)
            omega
        obtain ⟨n, hn, en⟩ := ha
        rw [en, show nI n / 40 = nI (n / 40) from pk_div (d := 40) (by omega) (by decide) (by decide), show (1 : Int32) + nI (n / 40) = nI (1 + n / 40) from nI_add 1 _, nI_toInt (by omega)]
        omega
      · rw [if_neg c]; decide
theorem kp_order {u : ST} {p q r : Int32} (h : Inv u) (hk : k_order u p q r = 0) : Inv (n_order u p q r) := by
  obtain ⟨hgc, hmw, hmg, hup, hch, hoc, hsh, hli, hfp, hsp, hhc, hph, htr, hma, hpa, hwe, how, hord, hol, hok⟩ := h
  unfold k_order at hk
  by_cases c1 : ¬ (0 ≤ p ∧ p < nI (s_gc u))
  · rw [if_pos c1] at hk; exact absurd hk (by decide)
  rw [if_neg c1] at hk
  by_cases c2 : ¬ (20 ≤ q ∧ q ≤ 400) ∨ ¬ (1 ≤ r ∧ r ≤ 50)
  · rw [if_pos c2] at hk; exact absurd hk (by decide)
  rw [if_neg c2] at hk
  by_cases c3 : nI (s_mw u) < q
  · rw [if_pos c3] at hk; exact absurd hk (by decide)
  rw [if_neg c3] at hk
  by_cases c4 : 10 ≤ s_oc u
  · rw [if_pos c4] at hk; exact absurd hk (by decide)
  have hp : 0 ≤ p ∧ p < nI (s_gc u) := Classical.not_not.mp c1
  obtain ⟨g, hg, rfl⟩ := i_ix (by omega) hp
  have hq : 20 ≤ q ∧ q ≤ 400 := Classical.byContradiction (fun z => c2 (Or.inl z))
  have hr : 1 ≤ r ∧ r ≤ 50 := Classical.byContradiction (fun z => c2 (Or.inr z))
  have q1 : (20 : Int) ≤ q.toInt := (fa_le _ _).mp hq.1
  have q2 : q.toInt ≤ (400 : Int) := (fa_le _ _).mp hq.2
  have r1 : (1 : Int) ≤ r.toInt := (fa_le _ _).mp hr.1
  have r2 : r.toInt ≤ (50 : Int) := (fa_le _ _).mp hr.2
  refine ⟨hgc, hmw, hmg, hup, hch, (show s_oc u + 1 ≤ 10 by omega), hsh, hli, hfp, hsp, hhc, hph, htr, hma, hpa, hwe, fun j => ?_, fun j hj => ?_, fun j => ?_, fun j hj => hok j (by have : s_oc u + 1 ≤ j := hj; omega)⟩
  · show 0 ≤ (upd (s_ow u) (s_oc u) q j).toInt ∧ (upd (s_ow u) (s_oc u) q j).toInt ≤ 400
    by_cases c : j = s_oc u
    · subst c; rw [pk_us]; omega
    · rw [pk_un c]; exact how j
  · show 20 ≤ (upd (s_ow u) (s_oc u) q j).toInt ∧ ∃ g', g' < s_gc u ∧ upd (s_og u) (s_oc u) (nI g) j = nI g'
    by_cases c : j = s_oc u
    · subst c; rw [pk_us, pk_us]; exact ⟨q1, g, hg, rfl⟩
    · rw [pk_un c, pk_un c]; exact hord j (by have : j < s_oc u + 1 := hj; omega)
  · show 0 ≤ (upd (s_ol u) (s_oc u) r j).toInt ∧ (upd (s_ol u) (s_oc u) r j).toInt ≤ 50
    by_cases c : j = s_oc u
    · subst c; rw [pk_us]; omega
    · rw [pk_un c]; exact hol j
theorem kp_cancel {u : ST} {p : Int32} (h : Inv u) : Inv (n_cancel u p) := by
  obtain ⟨hgc, hmw, hmg, hup, hch, hoc, hsh, hli, hfp, hsp, hhc, hph, htr, hma, hpa, hwe, how, hord, hol, hok⟩ := h
  refine ⟨hgc, hmw, hmg, hup, hch, hoc, hsh, hli, hfp, hsp, hhc, hph, htr, hma, hpa, hwe, how, hord, fun j => ?_, hok⟩
  show 0 ≤ (upd (s_ol u) p.toNatClampNeg 0 j).toInt ∧ (upd (s_ol u) p.toNatClampNeg 0 j).toInt ≤ 50
  by_cases c : j = p.toNatClampNeg
  · subst c; rw [pk_us]; decide
  · rw [pk_un c]; exact hol j
theorem kp_setShare {u : ST} {p : Int32} (h : Inv u) (hk : k_setShare u p = 0) : Inv (n_setShare u p) := by
  obtain ⟨hgc, hmw, hmg, hup, hch, hoc, hsh, hli, hfp, hsp, hhc, hph, htr, hma, hpa, hwe, how, hord, hol, hok⟩ := h
  unfold k_setShare at hk
  by_cases c1 : 0 ≤ p ∧ p ≤ 50
  · exact ⟨hgc, hmw, hmg, hup, hch, hoc, ⟨(fa_le _ _).mp c1.1, (fa_le _ _).mp c1.2⟩, hli, hfp, hsp, hhc, hph, htr, hma, hpa, hwe, how, hord, hol, hok⟩
  · rw [if_neg c1] at hk; exact absurd hk (by decide)
theorem kp_setContract {u : ST} {p q r : Int32} (h : Inv u) (hk : k_setContract u p q r = 0) : Inv (n_setContract u p q r) := by
  obtain ⟨hgc, hmw, hmg, hup, hch, hoc, hsh, hli, hfp, hsp, hhc, hph, htr, hma, hpa, hwe, how, hord, hol, hok⟩ := h
  unfold k_setContract at hk
  by_cases c1 : (0 ≤ p ∧ p ≤ 9999) ∧ (0 ≤ q ∧ q ≤ 99) ∧ (0 ≤ r ∧ r ≤ 99)
  · exact ⟨hgc, hmw, hmg, hup, hch, hoc, hsh, ⟨(fa_le _ _).mp c1.1.1, (fa_le _ _).mp c1.1.2⟩, ⟨(fa_le _ _).mp c1.2.1.1, (fa_le _ _).mp c1.2.1.2⟩, ⟨(fa_le _ _).mp c1.2.2.1, (fa_le _ _).mp c1.2.2.2⟩, hhc, hph, htr, hma, hpa, hwe, how, hord, hol, hok⟩
  · rw [if_neg c1] at hk; exact absurd hk (by decide)
/-! an hour -/
theorem kp_none {u : ST} (h : Inv u) (hh : s_hc u < 400) : Inv (u_none u) := by
  rw [r_none_e]
  obtain ⟨hgc, hmw, hmg, hup, hch, hoc, hsh, hli, hfp, hsp, hhc, hph, htr, hma, hpa, hwe, how, hord, hol, hok⟩ := h
  exact ⟨hgc, hmw, hmg, hup, hch, hoc, hsh, hli, hfp, hsp, (show s_hc u + 1 ≤ 400 by omega), ⟨hph.1, (show (s_ph u).toInt ≤ (s_hc u + 1 : Nat) by omega)⟩, ⟨htr.1, (show (s_tr u).toInt ≤ 800 * (s_hc u + 1 : Nat) by omega)⟩, ⟨hma.1, (show (s_ma u).toInt ≤ 16000 * (s_hc u + 1 : Nat) by omega)⟩, ⟨hpa.1, (show (s_pa u).toInt ≤ 16000 * (s_hc u + 1 : Nat) by omega)⟩, hwe, how, hord, hol, hok⟩
theorem i_to64 {x : Int32} {y : Int64} {N : Nat} (hN : N ≤ 16000 * 400) (hy : 0 ≤ y.toInt ∧ y.toInt ≤ N) (hx : 0 ≤ x.toInt ∧ x.toInt ≤ 16000) : 0 ≤ (y + Int32.toInt64 x).toInt ∧ (y + Int32.toInt64 x).toInt ≤ N + 16000 := by
  rw [fb_addL (by rw [Int32.toInt_toInt64]; omega) (by rw [Int32.toInt_toInt64]; omega), Int32.toInt_toInt64]
  omega
theorem kp_make {u : ST} {c p b : Int32} (h : Inv u) (hh : s_hc u < 400) (hp : 0 ≤ p.toInt ∧ p.toInt ≤ 16000) (hb : 0 ≤ (p - b).toInt ∧ (p - b).toInt ≤ 16000) : Inv (u_make u c p b) := by
  obtain ⟨hgc, hmw, hmg, hup, hch, hoc, hsh, hli, hfp, hsp, hhc, hph, htr, hma, hpa, hwe, how, hord, hol, hok⟩ := h
  have m1 := i_to64 (x := p) (y := s_ma u) (N := 16000 * s_hc u) (by omega) (by omega) hp
  have m2 := i_to64 (x := p - b) (y := s_pa u) (N := 16000 * s_hc u) (by omega) (by omega) hb
  exact ⟨hgc, hmw, hmg, hup, hch, hoc, hsh, hli, hfp, hsp, (show s_hc u + 1 ≤ 400 by omega), ⟨hph.1, (show (s_ph u).toInt ≤ (s_hc u + 1 : Nat) by omega)⟩, ⟨htr.1, (show (s_tr u).toInt ≤ 800 * (s_hc u + 1 : Nat) by omega)⟩, ⟨m1.1, (show (s_ma u + Int32.toInt64 p).toInt ≤ 16000 * (s_hc u + 1 : Nat) by omega)⟩, ⟨m2.1, (show (s_pa u + Int32.toInt64 (p - b)).toInt ≤ 16000 * (s_hc u + 1 : Nat) by omega)⟩, hwe, how, hord, hol, hok⟩
theorem kp_chg {u : ST} (h : Inv u) (hm : ∃ g, g < s_gc u ∧ s_mg u = nI g) (hc : 0 < s_ch u) : Inv (u_chg u) := by
  obtain ⟨hgc, hmw, hmg, hup, hch, hoc, hsh, hli, hfp, hsp, hhc, hph, htr, hma, hpa, hwe, how, hord, hol, hok⟩ := h
  have q : (0 : Int) < (s_ch u).toInt := (fa_lt _ _).mp hc
  have hr := fb_rng (s_ch u)
  have e : (s_ch u - 1).toInt = (s_ch u).toInt - 1 := fb_subI (y := 1) (show (-2147483648 : Int) ≤ (s_ch u).toInt - 1 by omega) (show (s_ch u).toInt - 1 < (2147483648 : Int) by omega)
  exact ⟨hgc, hmw, Or.inr hm, hup, (show 0 ≤ (s_ch u - 1).toInt by omega), hoc, hsh, hli, hfp, hsp, hhc, hph, htr, hma, hpa, hwe, how, hord, hol, hok⟩
