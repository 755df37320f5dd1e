/-! what the reference's calls need of the invariant -/
theorem inv_wp {u : ST} (h : Inv u) : ∀ j, j < s_oc u → 0 < c_w u j := by
  obtain ⟨-, -, -, -, -, -, -, -, -, -, -, -, -, -, -, -, how, hord, -, -⟩ := h
  intro j hj
  have h1 := i_to (how j).1
  have h2 := (hord j hj).1
  show 0 < (s_ow u j).toNatClampNeg
  omega
theorem inv_g1 {u : ST} (h : Inv u) (c : ¬ s_mg u = -1) : ∃ g, g < s_gc u ∧ s_mg u = nI g := by
  obtain ⟨-, -, hmg, -⟩ := h
  exact hmg.resolve_left (fun z => c z.1)
theorem inv_p1 {u : ST} (h : Inv u) (c : ¬ s_mg u = -1) : 0 ≤ s_mg u := by
  obtain ⟨g, hg, e⟩ := inv_g1 h c
  have := h.1
  rw [e]; exact nI_pos' (by omega)
theorem inv_n1 {u : ST} (c : s_mg u = -1) : ¬ 0 ≤ s_mg u := by rw [c]; decide
theorem nr_nf {u : ST} (h : Inv u) {w : Int32} (hw : 0 ≤ w.toInt ∧ w.toInt ≤ 200) (a : Int32) : nr_u u w a = f_nf (s_we u) (f_hoz (s_og u) (s_ol u) (s_oc u)) w a (s_gc u) := by
  obtain ⟨hgc, -, -, -, -, hoc, -, -, -, -, -, -, -, -, -, hwe, -, -, hol, -⟩ := h
  exact f_nf_near (by omega) (fun i => f_op_ho (by omega) hol i) hw hwe (s_gc u) (Nat.le_refl _)
theorem inv_we {u : ST} (h : Inv u) {g : Nat} (hg : g < s_gc u) : 0 ≤ (s_we u g).toInt ∧ (s_we u g).toInt ≤ 200 := by
  obtain ⟨-, -, -, -, -, -, -, -, -, -, -, -, -, -, -, hwe, -, -, -, -⟩ := h
  have := hwe g hg
  omega
theorem ms_nat {u : ST} (h : Inv u) {g : Nat} (hg : g < s_gc u) : ∃ n, n ≤ 16000 ∧ s_we u g * nI (s_mw u) / 10 = nI n := by
  have h1 := inv_we h hg
  have e := i_of h1.1
  have e2 := i_to h1.1
  obtain ⟨-, ⟨hm1, hm2⟩, -⟩ := h
  have hb : (s_we u g).toNatClampNeg * s_mw u ≤ 200 * 800 := Nat.mul_le_mul (by omega) hm2
  refine ⟨(s_we u g).toNatClampNeg * s_mw u / 10, by omega, ?_⟩
  rw [e, nI_clamp (by omega), pk_mul]
  exact pk_div (d := 10) (by omega) (by decide) (by decide)
theorem ms_half {u : ST} (h : Inv u) {g : Nat} (hg : g < s_gc u) : 0 ≤ (s_we u g * nI (s_mw u) / 10 / 2).toInt ∧ (s_we u g * nI (s_mw u) / 10 / 2).toInt ≤ 16000 := by
  obtain ⟨n, hn, e⟩ := ms_nat h hg
  have e2 : s_we u g * nI (s_mw u) / 10 / 2 = nI (n / 2) := by rw [e]; exact pk_div (d := 2) (by omega) (by decide) (by decide)
  rw [e2, nI_toInt (by omega)]
  omega
/-- an hour without paper, as the reference writes it -/
def r_none (u : ST) : ST := (s_gc u, s_mw u, s_mg u, s_ch u, s_up u, s_oc u, s_sh u, s_bk u, s_li u, s_fp u, s_sp u, s_hc u + 1, s_ph u, s_tr u, s_st u, s_fr u, s_pa u, s_lo u, s_ma u, s_we u, s_og u, s_ow u, s_ol u, s_ok u, upd (s_kd u) (s_hc u) 110)
theorem r_none_e (u : ST) : u_none u = r_none u := by
  have e : ∀ x : Int64, x + Int32.toInt64 0 = x := fun x => Int64.add_zero x
  unfold u_none r_none
  rw [e, e, e]
/-- the hour's cut before the hour is counted -/
def q_hc (u w : ST) : ST := (s_gc w, s_mw w, s_mg w, s_ch w, s_up w, s_oc w, s_sh w, s_bk w, s_li w, s_fp w, s_sp w, s_hc u, s_ph w, s_tr w, s_st w, s_fr w, s_pa w, s_lo w, s_ma w, s_we w, s_og w, s_ow w, s_ol w, s_ok w, s_kd w)
def q_cuts (u : ST) : ST := if 0 < (c_B u (s_mg u)).1 then q_hc u (u_paper u) else q_hc u (r_none u)
def v_cuts (u : ST) : Int32 := if 0 < (c_B u (s_mg u)).1 then f_sum (ro_u u) (s_oc u) else 0
theorem nI_sur (x : Int32) : x = nI x.toBitVec.toNat := Int32.toBitVec_inj.mp (BitVec.eq_of_toNat_eq (pk_tn x.toBitVec.isLt).symm)
theorem m_max_t {a b : Int32} (h : a ≤ b) : (if a < b then b else a) = b := by
  by_cases c : a < b
  · rw [if_pos c]
  · rw [if_neg c]; exact Int32.le_antisymm h (Int32.not_lt.mp c)
theorem m_max_f {a b : Int32} (h : ¬ a ≤ b) : (if a < b then b else a) = a := if_neg (fun q => h (fa_of_lt q).1)
