/-! the state of the mill, as the class and the reference both hold it -/
abbrev ST : Type := (Nat) × (Nat) × (Int32) × (Int32) × (Int32) × (Nat) × (Int32) × (Int32) × (Int32) × (Int32) × (Int32) × (Nat) × (Int32) × (Int32) × (Int64) × (Int64) × (Int64) × (Int64) × (Int64) × (Nat → Int32) × (Nat → Int32) × (Nat → Int32) × (Nat → Int32) × (Nat → Int32) × (Nat → Int32)
def s_gc (u : ST) : Nat := u.1
def s_mw (u : ST) : Nat := u.2.1
def s_mg (u : ST) : Int32 := u.2.2.1
def s_ch (u : ST) : Int32 := u.2.2.2.1
def s_up (u : ST) : Int32 := u.2.2.2.2.1
def s_oc (u : ST) : Nat := u.2.2.2.2.2.1
def s_sh (u : ST) : Int32 := u.2.2.2.2.2.2.1
def s_bk (u : ST) : Int32 := u.2.2.2.2.2.2.2.1
def s_li (u : ST) : Int32 := u.2.2.2.2.2.2.2.2.1
def s_fp (u : ST) : Int32 := u.2.2.2.2.2.2.2.2.2.1
def s_sp (u : ST) : Int32 := u.2.2.2.2.2.2.2.2.2.2.1
def s_hc (u : ST) : Nat := u.2.2.2.2.2.2.2.2.2.2.2.1
def s_ph (u : ST) : Int32 := u.2.2.2.2.2.2.2.2.2.2.2.2.1
def s_tr (u : ST) : Int32 := u.2.2.2.2.2.2.2.2.2.2.2.2.2.1
def s_st (u : ST) : Int64 := u.2.2.2.2.2.2.2.2.2.2.2.2.2.2.1
def s_fr (u : ST) : Int64 := u.2.2.2.2.2.2.2.2.2.2.2.2.2.2.2.1
def s_pa (u : ST) : Int64 := u.2.2.2.2.2.2.2.2.2.2.2.2.2.2.2.2.1
def s_lo (u : ST) : Int64 := u.2.2.2.2.2.2.2.2.2.2.2.2.2.2.2.2.2.1
def s_ma (u : ST) : Int64 := u.2.2.2.2.2.2.2.2.2.2.2.2.2.2.2.2.2.2.1
def s_we (u : ST) : Nat → Int32 := u.2.2.2.2.2.2.2.2.2.2.2.2.2.2.2.2.2.2.2.1
def s_og (u : ST) : Nat → Int32 := u.2.2.2.2.2.2.2.2.2.2.2.2.2.2.2.2.2.2.2.2.1
def s_ow (u : ST) : Nat → Int32 := u.2.2.2.2.2.2.2.2.2.2.2.2.2.2.2.2.2.2.2.2.2.1
def s_ol (u : ST) : Nat → Int32 := u.2.2.2.2.2.2.2.2.2.2.2.2.2.2.2.2.2.2.2.2.2.2.1
def s_ok (u : ST) : Nat → Int32 := u.2.2.2.2.2.2.2.2.2.2.2.2.2.2.2.2.2.2.2.2.2.2.2.1
def s_kd (u : ST) : Nat → Int32 := u.2.2.2.2.2.2.2.2.2.2.2.2.2.2.2.2.2.2.2.2.2.2.2.2
/-- what each hour took and gave -/
abbrev HX : Type := (Nat → Int32) × (Nat → Int32) × (Nat → Int32)
/-- the cutter's rows -/
abbrev CX : Type := (Nat → Int32) × (Nat → Int32) × (Nat → Int32) × (Nat → Int32) × (Nat → Int32) × (Nat → Int32) × Int32 × Int32
/-- the law's mill's own: what the last hour was -/
abbrev MX : Type := Int32
def wX (cI cC : ClassId) (ad : Nat → Nat) (u : ST) (v : HX) (x : CX) : va_W :=
  [(ad 0, .inr (4, [.ref (ad 1), .int (nI (s_gc u)), .int (nI (s_mw u)), .int (s_mg u), .int (s_ch u), .int (s_up u), .ref (ad 2), .ref (ad 7), .ref (ad 14), .ref (ad 15), .int (s_sh u), .int (s_bk u), .long (s_st u)])), (ad 1, .inl (cI, 6, .inl (s_we u))),
   (ad 2, .inr (3, [.ref (ad 3), .ref (ad 4), .ref (ad 5), .ref (ad 6), .int (nI (s_oc u))])), (ad 3, .inl (cI, 10, .inl (s_og u))), (ad 4, .inl (cI, 10, .inl (s_ow u))), (ad 5, .inl (cI, 10, .inl (s_ok u))), (ad 6, .inl (cI, 10, .inl (s_ol u))),
   (ad 7, .inr (1, [.ref (ad 8), .ref (ad 9), .ref (ad 10), .ref (ad 11), .ref (ad 12), .ref (ad 13), .int x.2.2.2.2.2.2.1, .int x.2.2.2.2.2.2.2])), (ad 8, .inl (cI, 10, .inl x.1)), (ad 9, .inl (cI, 10, .inl x.2.1)), (ad 10, .inl (cI, 10, .inl x.2.2.1)), (ad 11, .inl (cI, 10, .inl x.2.2.2.1)), (ad 12, .inl (cI, 10, .inl x.2.2.2.2.1)), (ad 13, .inl (cI, 801, .inl x.2.2.2.2.2.1)),
   (ad 14, .inr (0, [.int (s_li u), .int (s_fp u), .int (s_sp u)])),
   (ad 15, .inr (2, [.ref (ad 16), .ref (ad 17), .ref (ad 18), .ref (ad 19), .int (nI (s_hc u)), .long (s_fr u), .long (s_pa u), .long (s_lo u), .long (s_ma u), .long (Int32.toInt64 (s_tr u)), .int (s_ph u)])), (ad 16, .inl (cC, 400, .inl (s_kd u))), (ad 17, .inl (cI, 400, .inl v.1)), (ad 18, .inl (cI, 400, .inl v.2.1)), (ad 19, .inl (cI, 400, .inl v.2.2))]
def wM (cI cC : ClassId) (bd : Nat → Nat) (u : ST) (y : MX) : va_W :=
  [(bd 0, .inr (5, [.ref (bd 1), .ref (bd 2), .ref (bd 3), .ref (bd 4), .ref (bd 5), .int (nI (s_oc u)), .int (nI (s_mw u)), .int (s_mg u), .int (s_ch u), .int (s_up u), .int (s_sh u), .int (s_li u), .int (s_fp u), .int (s_sp u), .int (nI (s_hc u)), .long (s_fr u), .long (s_pa u), .long (s_lo u), .long (s_ma u), .long (s_st u), .int (s_ph u), .int (s_tr u), .int y])),
   (bd 1, .inl (cI, 3, .inl (s_we u))), (bd 2, .inl (cI, 10, .inl (s_og u))), (bd 3, .inl (cI, 10, .inl (s_ow u))), (bd 4, .inl (cI, 10, .inl (s_ol u))), (bd 5, .inl (cI, 10, .inl (s_ok u)))]
def isG (u : ST) (g : Int32) : Prop := 0 ≤ g ∧ g < nI (s_gc u)
def isO (u : ST) (o : Int32) : Prop := 0 ≤ o ∧ o < nI (s_oc u)
def k_addGrade (u : ST) (p : Int32) : Int32 := if ¬ (40 ≤ p ∧ p ≤ 200) ∨ f_tk (s_we u) p (s_gc u) = true then 1 else if 6 ≤ s_gc u then 2 else 0
def n_addGrade (u : ST) (p : Int32) : ST := (s_gc u + 1, s_mw u, s_mg u, s_ch u, s_up u, s_oc u, s_sh u, s_bk u, s_li u, s_fp u, s_sp u, s_hc u, s_ph u, s_tr u, s_st u, s_fr u, s_pa u, s_lo u, s_ma u, upd (s_we u) (s_gc u) p, s_og u, s_ow u, s_ol u, s_ok u, s_kd u)
def k_setWidth (u : ST) (p : Int32) : Int32 := if ¬ (200 ≤ p ∧ p ≤ 800) then 1 else if p < f_wo (s_ol u) (s_ow u) (s_oc u) then 2 else 0
def n_setWidth (u : ST) (p : Int32) : ST := (s_gc u, p.toNatClampNeg, s_mg u, s_ch u, s_up u, s_oc u, s_sh u, s_bk u, s_li u, s_fp u, s_sp u, s_hc u, s_ph u, s_tr u, s_st u, s_fr u, s_pa u, s_lo u, s_ma u, s_we u, s_og u, s_ow u, s_ol u, s_ok u, s_kd u)
def k_change (u : ST) (p : Int32) : Int32 := if ¬ (0 ≤ p ∧ p < nI (s_gc u)) then 1 else if p = s_mg u then 2 else if 0 < s_ch u then 3 else 0
def d_change (u : ST) (p : Int32) : Int32 := s_we u p.toNatClampNeg - s_we u (s_mg u).toNatClampNeg
def t_change (u : ST) (p : Int32) : Int32 := if 0 ≤ s_mg u then 1 + (if 0 ≤ d_change u p then d_change u p else 0 - d_change u p) / 40 else 1
def n_change (u : ST) (p : Int32) : ST := (s_gc u, s_mw u, p, t_change u p, (if 0 ≤ s_mg u then (if 0 < d_change u p then 1 else 0) else s_up u), s_oc u, s_sh u, s_bk u, s_li u, s_fp u, s_sp u, s_hc u, s_ph u, s_tr u, s_st u, s_fr u, s_pa u, s_lo u, s_ma u, s_we u, s_og u, s_ow u, s_ol u, s_ok u, s_kd u)
def k_grade (u : ST) : Int32 := if 0 ≤ s_mg u then 0 else 1
def op_u (u : ST) : Nat → Bool := fun i => decide (0 < f_rl (s_og u) (s_ol u) (nI i) (s_oc u))
def nr_u (u : ST) (w a : Int32) : Int32 := f_near (s_we u) (op_u u) w a (s_gc u)
def v_next (u : ST) : Int32 := if 0 ≤ s_mg u then (if nr_u u (s_we u (s_mg u).toNatClampNeg) (s_up u) = -1 then nr_u u (s_we u (s_mg u).toNatClampNeg) (if s_up u = 0 then 1 else 0) else nr_u u (s_we u (s_mg u).toNatClampNeg) (s_up u)) else nr_u u 0 1
def k_next (u : ST) : Int32 := if v_next u = -1 then 1 else 0
def v_mass (u : ST) (p : Int32) : Int32 := s_we u p.toNatClampNeg * nI (s_mw u) / 10
def k_mass (u : ST) (p : Int32) : Int32 := if 0 ≤ p ∧ p < nI (s_gc u) then 0 else 1
def k_order (u : ST) (p q r : Int32) : Int32 := if ¬ (0 ≤ p ∧ p < nI (s_gc u)) then 1 else if ¬ (20 ≤ q ∧ q ≤ 400) ∨ ¬ (1 ≤ r ∧ r ≤ 50) then 2 else if nI (s_mw u) < q then 3 else if 10 ≤ s_oc u then 4 else 0
def n_order (u : ST) (p q r : Int32) : ST := (s_gc u, s_mw u, s_mg u, s_ch u, s_up u, s_oc u + 1, s_sh u, s_bk u, s_li u, s_fp u, s_sp u, s_hc u, s_ph u, s_tr u, s_st u, s_fr u, s_pa u, s_lo u, s_ma u, s_we u, upd (s_og u) (s_oc u) p, upd (s_ow u) (s_oc u) q, upd (s_ol u) (s_oc u) r, s_ok u, s_kd u)
def k_ord (u : ST) (p : Int32) : Int32 := if 0 ≤ p ∧ p < nI (s_oc u) then 0 else 1
def k_cancel (u : ST) (p : Int32) : Int32 := if ¬ (0 ≤ p ∧ p < nI (s_oc u)) then 1 else if s_ol u p.toNatClampNeg ≤ 0 then 2 else 0
def n_cancel (u : ST) (p : Int32) : ST := (s_gc u, s_mw u, s_mg u, s_ch u, s_up u, s_oc u, s_sh u, s_bk u, s_li u, s_fp u, s_sp u, s_hc u, s_ph u, s_tr u, s_st u, s_fr u, s_pa u, s_lo u, s_ma u, s_we u, s_og u, s_ow u, upd (s_ol u) p.toNatClampNeg 0, s_ok u, s_kd u)
/-- the cut of a grade: its sum and its rolls -/
def c_w (u : ST) : Nat → Nat := fun j => (s_ow u j).toNatClampNeg
def c_lk (u : ST) : Nat → Nat := fun j => (s_ol u j).toNatClampNeg
def c_B (u : ST) (g : Int32) : Nat × (Nat → Nat) := ct_B (f_cap (s_og u) (c_lk u) (s_oc u) g) (c_w u) 10 0 6 (s_mw u)
def v_least (u : ST) (g : Int32) : Int32 := if (f_wl (s_og u) (s_ol u) (s_ow u) g (s_oc u) + nI (s_mw u) - 1) / nI (s_mw u) < (f_rl (s_og u) (s_ol u) g (s_oc u) + 6 - 1) / 6 then (f_rl (s_og u) (s_ol u) g (s_oc u) + 6 - 1) / 6 else (f_wl (s_og u) (s_ol u) (s_ow u) g (s_oc u) + nI (s_mw u) - 1) / nI (s_mw u)
def k_setShare (u : ST) (p : Int32) : Int32 := if 0 ≤ p ∧ p ≤ 50 then 0 else 1
def n_setShare (u : ST) (p : Int32) : ST := (s_gc u, s_mw u, s_mg u, s_ch u, s_up u, s_oc u, p, s_bk u, s_li u, s_fp u, s_sp u, s_hc u, s_ph u, s_tr u, s_st u, s_fr u, s_pa u, s_lo u, s_ma u, s_we u, s_og u, s_ow u, s_ol u, s_ok u, s_kd u)
def k_setContract (u : ST) (p q r : Int32) : Int32 := if (0 ≤ p ∧ p ≤ 9999) ∧ (0 ≤ q ∧ q ≤ 99) ∧ (0 ≤ r ∧ r ≤ 99) then 0 else 1
def n_setContract (u : ST) (p q r : Int32) : ST := (s_gc u, s_mw u, s_mg u, s_ch u, s_up u, s_oc u, s_sh u, s_bk u, p, q, r, s_hc u, s_ph u, s_tr u, s_st u, s_fr u, s_pa u, s_lo u, s_ma u, s_we u, s_og u, s_ow u, s_ol u, s_ok u, s_kd u)
def m_fib (p : Int32) : Int32 := p + p / 50
def m_fed (bk sh p : Int32) : Int32 := if m_fib p * sh / 100 < bk then m_fib p * sh / 100 else bk
/-- an hour that makes the mass p, of which b is broke; its sign is c -/
def u_make (u : ST) (c p b : Int32) : ST := (s_gc u, s_mw u, s_mg u, s_ch u, s_up u, s_oc u, s_sh u, s_bk u + (b - m_fed (s_bk u) (s_sh u) p), s_li u, s_fp u, s_sp u, s_hc u + 1, s_ph u, s_tr u, s_st u + f_cost (s_li u) (s_fp u) (s_sp u) (p / 2), s_fr u + Int32.toInt64 (m_fib p - m_fed (s_bk u) (s_sh u) p), s_pa u + Int32.toInt64 (p - b), s_lo u + Int32.toInt64 (p / 50), s_ma u + Int32.toInt64 p, s_we u, s_og u, s_ow u, s_ol u, s_ok u, upd (s_kd u) (s_hc u) c)
def v_make (u : ST) (v : HX) (p b : Int32) : HX := (upd v.1 (s_hc u) (m_fib p - m_fed (s_bk u) (s_sh u) p), upd v.2.1 (s_hc u) (p - b), upd v.2.2 (s_hc u) (p / 50))
def u_none (u : ST) : ST := (s_gc u, s_mw u, s_mg u, s_ch u, s_up u, s_oc u, s_sh u, s_bk u, s_li u, s_fp u, s_sp u, s_hc u + 1, s_ph u, s_tr u, s_st u, s_fr u + Int32.toInt64 0, s_pa u + Int32.toInt64 0, s_lo u + Int32.toInt64 0, s_ma u, s_we u, s_og u, s_ow u, s_ol u, s_ok u, upd (s_kd u) (s_hc u) 110)
def v_none (u : ST) (v : HX) : HX := (upd v.1 (s_hc u) 0, upd v.2.1 (s_hc u) 0, upd v.2.2 (s_hc u) 0)
def u_chg (u : ST) : ST := (s_gc u, s_mw u, s_mg u, s_ch u - 1, s_up u, s_oc u, s_sh u, s_bk u, s_li u, s_fp u, s_sp u, s_hc u, s_ph u, s_tr u, s_st u, s_fr u, s_pa u, s_lo u, s_ma u, s_we u, s_og u, s_ow u, s_ol u, s_ok u, s_kd u)
def ro_u (u : ST) : Nat → Int32 := fun j => nI ((c_B u (s_mg u)).2 j)
def u_cut (u : ST) (t : Int32) : ST := (s_gc u, s_mw u, s_mg u, s_ch u, s_up u, s_oc u, s_sh u, s_bk u, s_li u, s_fp u, s_sp u, s_hc u, s_ph u + 1, s_tr u + t, s_st u, s_fr u, s_pa u, s_lo u, s_ma u, s_we u, s_og u, s_ow u, f_subN (s_ol u) (ro_u u) (s_oc u), f_addN (s_ok u) (ro_u u) (s_oc u), s_kd u)
def ms_u (u : ST) : Int32 := v_mass u (s_mg u)
def tr_u (u : ST) : Int32 := nI (s_mw u) - nI (c_B u (s_mg u)).1
def b_u (u : ST) : Int32 := ms_u u * tr_u u / nI (s_mw u)
/-- an hour: rolls that are cut, the state and the book behind it -/
def h_r (u : ST) : Int32 := if ¬ 0 ≤ s_mg u then 0 else if 0 < s_ch u then 0 else if 0 < (c_B u (s_mg u)).1 then f_sum (ro_u u) (s_oc u) else 0
def u_paper (u : ST) : ST := (fun w : ST => (s_gc w, s_mw w, s_mg w, s_ch w, s_up w, s_oc w, s_sh w, s_bk w, s_li w, s_fp w, s_sp w, s_hc w, s_ph w + 1, s_tr w + tr_u u, s_st w, s_fr w, s_pa w, s_lo w, s_ma w, s_we w, s_og w, s_ow w, f_subN (s_ol u) (ro_u u) (s_oc u), f_addN (s_ok u) (ro_u u) (s_oc u), s_kd w)) (u_make u 112 (ms_u u) (b_u u))
def h_u (u : ST) : ST := if ¬ 0 ≤ s_mg u then u_none u else if 0 < s_ch u then u_chg (u_make u 99 (ms_u u) (ms_u u)) else if 0 < (c_B u (s_mg u)).1 then u_paper u else u_none u
def h_v (u : ST) (v : HX) : HX := if ¬ 0 ≤ s_mg u then v_none u v else if 0 < s_ch u then v_make u v (ms_u u) (ms_u u) else if 0 < (c_B u (s_mg u)).1 then v_make u v (ms_u u) (b_u u) else v_none u v
def p_u (u : ST) : Nat → ST
  | 0 => u
  | k + 1 => h_u (p_u u k)
def p_r (u : ST) : Nat → Int32
  | 0 => 0
  | k + 1 => p_r u k + h_r (p_u u k)
def p_v (u : ST) (v : HX) : Nat → HX
  | 0 => v
  | k + 1 => h_v (p_u u k) (p_v u v k)
def k_pass (u : ST) (p : Int32) : Int32 := if ¬ (1 ≤ p ∧ p ≤ 48) then 1 else if nI (400 - s_hc u) < p then 2 else 0
def k_made (u : ST) (p : Int32) : Int32 := if 0 ≤ p ∧ p < nI (s_hc u) then 0 else 1
def k_share (u : ST) : Int32 := if 0 < s_ma u then 0 else 1
def k_trim (u : ST) : Int32 := if 0 < s_ph u then 0 else 1
/-- what holds between calls -/
def Inv (u : ST) : Prop :=
  s_gc u ≤ 6 ∧ (200 ≤ s_mw u ∧ s_mw u ≤ 800) ∧ (s_mg u = -1 ∧ s_up u = 1 ∧ s_ch u = 0 ∨ ∃ g, g < s_gc u ∧ s_mg u = nI g) ∧ (s_up u = 0 ∨ s_up u = 1) ∧ 0 ≤ (s_ch u).toInt ∧ s_oc u ≤ 10 ∧ (0 ≤ (s_sh u).toInt ∧ (s_sh u).toInt ≤ 50) ∧
  (0 ≤ (s_li u).toInt ∧ (s_li u).toInt ≤ 9999) ∧ (0 ≤ (s_fp u).toInt ∧ (s_fp u).toInt ≤ 99) ∧ (0 ≤ (s_sp u).toInt ∧ (s_sp u).toInt ≤ 99) ∧ s_hc u ≤ 400 ∧ (0 ≤ (s_ph u).toInt ∧ (s_ph u).toInt ≤ s_hc u) ∧ (0 ≤ (s_tr u).toInt ∧ (s_tr u).toInt ≤ 800 * s_hc u) ∧ (0 ≤ (s_ma u).toInt ∧ (s_ma u).toInt ≤ 16000 * s_hc u) ∧ (0 ≤ (s_pa u).toInt ∧ (s_pa u).toInt ≤ 16000 * s_hc u) ∧
  (∀ j, j < s_gc u → 40 ≤ (s_we u j).toInt ∧ (s_we u j).toInt ≤ 200) ∧ (∀ j, 0 ≤ (s_ow u j).toInt ∧ (s_ow u j).toInt ≤ 400) ∧ (∀ j, j < s_oc u → 20 ≤ (s_ow u j).toInt ∧ ∃ g, g < s_gc u ∧ s_og u j = nI g) ∧ (∀ j, 0 ≤ (s_ol u j).toInt ∧ (s_ol u j).toInt ≤ 50) ∧ (∀ j, s_oc u ≤ j → s_ok u j = 0)
/-- the class's book of hours holds the broke -/
def InvV (u : ST) (v : HX) : Prop := f_fs v.1 v.2.1 v.2.2 (s_hc u) = s_bk u
