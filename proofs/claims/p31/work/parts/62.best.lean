set_option maxRecDepth 100000 in
set_option maxHeartbeats 4000000 in
/-- L_best -/
theorem c_L_best (l : Launch) (D : va_G) (cI cC cJ cG : ClassId) (a0 a1 : Nat) (sz : Nat) (n mw : Nat) (fw fl : Nat → Int32) (w lk : Nat → Nat) (hn : n ≤ 10) (hmw : mw ≤ 800) (hfw : ∀ j, j < n → fw j = nI (w j)) (hwb : ∀ j, j < n → w j ≤ 400) (hfl : ∀ j, j < n → fl j = nI (lk j)) (hlk : ∀ j, j < n → lk j ≤ 1000) : kMr l yL_best wsL_best ({ frames := 1, cells := 2, slots := 20, locals := 14 }) D (kty cI cC cJ cG) [.ref a0, .ref a1, .int (nI n), .int (nI mw)] [(a0, .inl (cI, 10, .inl fw)), (a1, .inl (cI, 10, .inl fl))] sz 2 20 (fun (fb : Nat → Int32) => ∃ b : Nat → Nat, (∀ j, j < n → fb j = nI (b j)) ∧ bs_B n (fun j => min 6 (lk j)) w 6 mw b) (fun (fb : Nat → Int32) (ra : Nat) => [(a0, .inl (cI, 10, .inl fw)), (a1, .inl (cI, 10, .inl fl)), (ra, .inl (cI, n, .inl fb))]) := by
  unfold kMr
  refine k_ofW (cc := cL_best) (maxL := 11) (ret := (some (.array .int))) (lv := [(0, .ref a0), (1, .ref a1), (2, .int (nI n)), (3, .int (nI mw))]) (by decide) rfl (Nat.le_of_ble_eq_true rfl) rfl ?_
  intro p e s m args below meth c ls H locs hE hsz hw hl
  obtain ⟨hx, hb, hr, hml, hown, hts, hlocks⟩ := hE
  subst hsz
  have hown : s.vm.findClass RL = some m.cls := hown
  have k_ac_int : (Cond.arrayClass .int).before args s = true := hts _ (by decide +kernel)
  have k_m9 : (Cond.methodLink RL 9 Lib.Math.min.name).before args s = true := hts _ (by decide +kernel)
  have k_s_min : (Cond.static Lib.Math.min.name).before args s = true := hts _ (by decide +kernel)
  have k_imath : (Cond.initialized "java/lang/Math").before args s = true := hts _ (by decide +kernel)
  have k_c_min : (Cond.code Lib.Math.min.name Lib.Math.min.code 2 (some .int)).before args s = true := hts _ (by decide +kernel)
  refine lv_iload_n hx hb dL_best_0 rfl (lv_at hl 2 rfl) ?_
  refine k_newa (atype := .int) (a0 := (n, .inl (fun _ => 0))) hx hb k_ac_int rfl hw 0 rfl one_i (fun _ => rfl) (nI_pos (by omega)) (nI_clamp (by omega)) (by show n * 4 ≤ 536870912; omega) (Nat.le_of_ble_eq_true rfl) (show 0 + n ≤ 20 by omega) dL_best_1 (fun q1 H hwn => ?_)
  clear hw
  have hw := hwn
  clear hwn
  replace hw : kW D (kty cI cC cJ cG) s (va_A [(a0, .inl (cI, 10, .inl fw)), (a1, .inl (cI, 10, .inl fl))] s.heap.size) [(a0, .inl (cI, 10, .inl fw)), (a1, .inl (cI, 10, .inl fl)), (q1, .inl (cI, n, .inl (fun _ => 0)))] H locs := hw
  refine lv_astore (lv' := [(4, .ref q1), (0, .ref a0), (1, .ref a1), (2, .int (nI n)), (3, .int (nI mw))]) hx hb dL_best_3 hl (by decide) rfl (fun ls hl => ?_)
  refine lv_iload_n hx hb dL_best_5 rfl (lv_at hl 3 rfl) ?_
  refine k_newa (atype := .int) (a0 := (n, .inl (fun _ => 0))) hx hb k_ac_int rfl hw 0 rfl one_i (fun _ => rfl) (nI_pos (by omega)) (nI_clamp (by omega)) (by show n * 4 ≤ 536870912; omega) (Nat.le_of_ble_eq_true rfl) (show 0 + n + n ≤ 20 by omega) dL_best_6 (fun q6 H hwn => ?_)
  clear hw
  have hw := hwn
  clear hwn
  replace hw : kW D (kty cI cC cJ cG) s (va_A [(a0, .inl (cI, 10, .inl fw)), (a1, .inl (cI, 10, .inl fl))] s.heap.size) [(a0, .inl (cI, 10, .inl fw)), (a1, .inl (cI, 10, .inl fl)), (q1, .inl (cI, n, .inl (fun _ => 0))), (q6, .inl (cI, n, .inl (fun _ => 0)))] H locs := hw
  refine lv_astore (lv' := [(5, .ref q6), (4, .ref q1), (0, .ref a0), (1, .ref a1), (2, .int (nI n)), (3, .int (nI mw))]) hx hb dL_best_8 hl (by decide) rfl (fun ls hl => ?_)
  refine lv_iconst (v := 0) hx hb dL_best_10 (by decide) ?_
  refine lv_istore (lv' := [(6, .int 0), (5, .ref q6), (4, .ref q1), (0, .ref a0), (1, .ref a1), (2, .int (nI n)), (3, .int (nI mw))]) hx hb dL_best_11 hl (by decide) rfl (fun ls hl => ?_)
  refine lv_iconst (v := 1) hx hb dL_best_13 (by decide) ?_
  refine lv_istore (lv' := [(7, .int 1), (6, .int 0), (5, .ref q6), (4, .ref q1), (0, .ref a0), (1, .ref a1), (2, .int (nI n)), (3, .int (nI mw))]) hx hb dL_best_14 hl (by decide) rfl (fun ls hl => ?_)
  replace hl : lv_has _ 11 [(7, .int 1), (6, .int 0), (5, .ref q6), (4, .ref q1), (0, .ref a0), (1, .ref a1), (2, .int (nI n)), (3, .int (nI mw))] := lv_sub hl [0, 1, 2, 3, 4, 5, 6, 7] rfl
  replace hw : kW D (kty cI cC cJ cG) s (va_A [(a0, .inl (cI, 10, .inl fw)), (a1, .inl (cI, 10, .inl fl))] s.heap.size) [(a0, .inl (cI, 10, .inl fw)), (a1, .inl (cI, 10, .inl fl)), (q1, .inl (cI, n, .inl (fun _ => 0))), (q6, .inl (cI, n, .inl (fun _ => 0)))] H locs := hw
  revert hl; revert hw; revert ls; revert locs; revert H
  refine k_loop (fun ((av, bv, fa, fb, mo, im) : (Nat → Nat) × (Nat → Nat) × (Nat → Int32) × (Nat → Int32) × (Int32) × (Int32)) => bs_I n (fun j => min 6 (lk j)) w mw av bv fa fb mo im) (fun ((av, bv, fa, fb, mo, im) : (Nat → Nat) × (Nat → Nat) × (Nat → Int32) × (Nat → Int32) × (Int32) × (Int32)) => (if im = 0 then 0 else 7 ^ n - bs_rk n av)) (fun ((av, bv, fa, fb, mo, im) : (Nat → Nat) × (Nat → Nat) × (Nat → Int32) × (Nat → Int32) × (Int32) × (Int32)) => [(a0, .inl (cI, 10, .inl fw)), (a1, .inl (cI, 10, .inl fl)), (q1, .inl (cI, n, .inl fa)), (q6, .inl (cI, n, .inl fb))]) (fun ((av, bv, fa, fb, mo, im) : (Nat → Nat) × (Nat → Nat) × (Nat → Int32) × (Nat → Int32) × (Int32) × (Int32)) => [(7, .int im), (6, .int mo), (5, .ref q6), (4, .ref q1), (0, .ref a0), (1, .ref a1), (2, .int (nI n)), (3, .int (nI mw))]) ((fun _ => 0), (fun _ => 0), (fun _ => 0), (fun _ => 0), 0, 1) (show bs_I n (fun j => min 6 (lk j)) w mw (fun _ => 0 : Nat → Nat) (fun _ => 0 : Nat → Nat) (fun _ => 0 : Nat → Int32) (fun _ => 0 : Nat → Int32) (0 : Int32) (1 : Int32) from bs_I_0 n (fun j => min 6 (lk j)) w mw) ?_
  intro ⟨av, bv, fa, fb, mo, im⟩ hI ih16 H locs ls hw hl
  replace hI : bs_I n (fun j => min 6 (lk j)) w mw av bv fa fb mo im := hI
  replace hw : kW D (kty cI cC cJ cG) s (va_A [(a0, .inl (cI, 10, .inl fw)), (a1, .inl (cI, 10, .inl fl))] s.heap.size) [(a0, .inl (cI, 10, .inl fw)), (a1, .inl (cI, 10, .inl fl)), (q1, .inl (cI, n, .inl fa)), (q6, .inl (cI, n, .inl fb))] H locs := hw
  replace hl : lv_has ls 11 [(7, .int im), (6, .int mo), (5, .ref q6), (4, .ref q1), (0, .ref a0), (1, .ref a1), (2, .int (nI n)), (3, .int (nI mw))] := hl
  refine lv_iload hx hb dL_best_16 (lv_at hl 0 rfl) ?_
  refine lv_if_eq (tgt := 184) hx hb dL_best_18 (by decide) (fun c18 => ?_) (fun c18 => ?_)
  · obtain ⟨hfa, hav, hfb, hmo, hbv, hor⟩ := hI
    have hB : bs_B n (fun j => min 6 (lk j)) w 6 mw bv := by rcases hor with h | h; exact absurd (h.1.symm.trans c18) (by decide); exact ⟨hbv, fun v hv => h.2 v hv trivial⟩
    refine lv_aload hx hb dL_best_184 (lv_at hl 2 rfl) ?_
    replace hw := hw.pick (ws' := [(a0, .inl (cI, 10, .inl fw)), (a1, .inl (cI, 10, .inl fl)), (q6, .inl (cI, n, .inl fb))]) [0, 1, 3] (by decide) rfl
    refine W.widen (k := 2) (n := 20) (by omega) (by omega) ?_
    exact k_aret fb q6 hx hb hr hlocks hw ⟨bv, hfb, hB⟩ dL_best_186
  · obtain ⟨hfa, hav, hfb, hmo, hbv, hor⟩ := hI
    have hP : bs_P n (fun j => min 6 (lk j)) w mw (fun v => bs_l n v av) bv := by rcases hor with h | h; exact h.2; exact absurd h.1 c18
    refine lv_iconst (v := 0) hx hb dL_best_21 (by decide) ?_
    refine lv_istore (lv' := [(8, .int 0), (7, .int im), (6, .int mo), (5, .ref q6), (4, .ref q1), (0, .ref a0), (1, .ref a1), (2, .int (nI n)), (3, .int (nI mw))]) hx hb dL_best_22 hl (by decide) rfl (fun ls hl => ?_)
    refine lv_iconst (v := 0) hx hb dL_best_24 (by decide) ?_
    refine lv_istore (lv' := [(9, .int 0), (8, .int 0), (7, .int im), (6, .int mo), (5, .ref q6), (4, .ref q1), (0, .ref a0), (1, .ref a1), (2, .int (nI n)), (3, .int (nI mw))]) hx hb dL_best_25 hl (by decide) rfl (fun ls hl => ?_)
    refine lv_iconst (v := 0) hx hb dL_best_27 (by decide) ?_
    refine lv_istore (lv' := [(10, .int 0), (9, .int 0), (8, .int 0), (7, .int im), (6, .int mo), (5, .ref q6), (4, .ref q1), (0, .ref a0), (1, .ref a1), (2, .int (nI n)), (3, .int (nI mw))]) hx hb dL_best_28 hl (by decide) rfl (fun ls hl => ?_)
    replace hl : lv_has _ 11 [(10, .int (nI 0)), (9, .int 0), (8, .int 0), (7, .int im), (6, .int mo), (5, .ref q6), (4, .ref q1), (0, .ref a0), (1, .ref a1), (2, .int (nI n)), (3, .int (nI mw))] := hl
    replace hw : kW D (kty cI cC cJ cG) s (va_A [(a0, .inl (cI, 10, .inl fw)), (a1, .inl (cI, 10, .inl fl))] s.heap.size) [(a0, .inl (cI, 10, .inl fw)), (a1, .inl (cI, 10, .inl fl)), (q1, .inl (cI, n, .inl fa)), (q6, .inl (cI, n, .inl fb))] H locs := hw
    revert hl; revert hw; revert ls; revert locs; revert H
    refine k_loop (fun ((kx, ro, su) : (Nat) × (Int32) × (Int32)) => kx ≤ n ∧ ro = nI (fb_sm av kx) ∧ su = nI (bs_S kx w av)) (fun ((kx, ro, su) : (Nat) × (Int32) × (Int32)) => n - kx) (fun ((kx, ro, su) : (Nat) × (Int32) × (Int32)) => [(a0, .inl (cI, 10, .inl fw)), (a1, .inl (cI, 10, .inl fl)), (q1, .inl (cI, n, .inl fa)), (q6, .inl (cI, n, .inl fb))]) (fun ((kx, ro, su) : (Nat) × (Int32) × (Int32)) => [(10, .int (nI kx)), (9, .int su), (8, .int ro), (7, .int im), (6, .int mo), (5, .ref q6), (4, .ref q1), (0, .ref a0), (1, .ref a1), (2, .int (nI n)), (3, .int (nI mw))]) (0, 0, 0) (show (0 : Nat) ≤ n ∧ (0 : Int32) = nI (fb_sm av (0 : Nat)) ∧ (0 : Int32) = nI (bs_S (0 : Nat) w av) from ⟨Nat.zero_le _, rfl, rfl⟩) ?_
    intro ⟨kx, ro, su⟩ hI ih30 H locs ls hw hl
    replace hI : kx ≤ n ∧ ro = nI (fb_sm av kx) ∧ su = nI (bs_S kx w av) := hI
    replace hw : kW D (kty cI cC cJ cG) s (va_A [(a0, .inl (cI, 10, .inl fw)), (a1, .inl (cI, 10, .inl fl))] s.heap.size) [(a0, .inl (cI, 10, .inl fw)), (a1, .inl (cI, 10, .inl fl)), (q1, .inl (cI, n, .inl fa)), (q6, .inl (cI, n, .inl fb))] H locs := hw
    replace hl : lv_has ls 11 [(10, .int (nI kx)), (9, .int su), (8, .int ro), (7, .int im), (6, .int mo), (5, .ref q6), (4, .ref q1), (0, .ref a0), (1, .ref a1), (2, .int (nI n)), (3, .int (nI mw))] := hl
    refine lv_iload hx hb dL_best_30 (lv_at hl 0 rfl) ?_
    refine lv_iload_n hx hb dL_best_32 rfl (lv_at hl 9 rfl) ?_
    refine lv_icmp_ge (tgt := 67) hx hb dL_best_33 (by decide) (fun c33 => ?_) (fun c33 => ?_)
    · have hkn : kx = n := by have := k_le c33 (by omega) (by omega); omega
      obtain ⟨-, rfl, rfl⟩ : True ∧ ro = nI (fb_sm av n) ∧ su = nI (bs_S n w av) := ⟨trivial, by rw [← hkn]; exact hI.2.1, by rw [← hkn]; exact hI.2.2⟩
      obtain ⟨hb1, hb2⟩ := bs_bd hn hwb (fun j hj => Nat.le_trans (hav j hj) (Nat.min_le_left 6 (lk j)))
      obtain ⟨-, hb3⟩ := bs_bd hn hwb (fun j hj => Nat.le_trans (hbv.1 j hj) (Nat.min_le_left 6 (lk j)))
      refine lv_iload hx hb dL_best_67 (lv_at hl 2 rfl) ?_
      refine lv_bipush (v := 6) hx hb dL_best_69 (by decide) ?_
      refine lv_icmp_gt (tgt := 116) hx hb dL_best_71 (by decide) (fun c71 => ?_) (fun c71 => ?_)
      · have hQ : bs_P n (fun j => min 6 (lk j)) w mw (fun v => bs_e n v av ∨ bs_l n v av) bv := bs_no1 hP ((nI_ltI (a := 6) (by omega) (by omega)).mp c71)
        refine lv_iload_n hx hb dL_best_116 rfl (lv_at hl 9 rfl) ?_
        refine lv_iconst (v := 1) hx hb dL_best_117 (by decide) ?_
        refine lv_isub hx hb dL_best_118 ?_
        refine lv_istore (lv' := [(10, .int ((nI n) - 1)), (9, .int (nI (bs_S n w av))), (8, .int (nI (fb_sm av n))), (7, .int im), (6, .int mo), (5, .ref q6), (4, .ref q1), (0, .ref a0), (1, .ref a1), (2, .int (nI n)), (3, .int (nI mw))]) hx hb dL_best_119 hl (by decide) rfl (fun ls hl => ?_)
        have hfa0 := hfa
        replace hl : lv_has _ 11 [(10, .int ((nI n) - 1)), (9, .int (nI (bs_S n w av))), (8, .int (nI (fb_sm av n))), (7, .int im), (6, .int mo), (5, .ref q6), (4, .ref q1), (0, .ref a0), (1, .ref a1), (2, .int (nI n)), (3, .int (nI mw))] := hl
        replace hw : kW D (kty cI cC cJ cG) s (va_A [(a0, .inl (cI, 10, .inl fw)), (a1, .inl (cI, 10, .inl fl))] s.heap.size) [(a0, .inl (cI, 10, .inl fw)), (a1, .inl (cI, 10, .inl fl)), (q1, .inl (cI, n, .inl fa)), (q6, .inl (cI, n, .inl fb))] H locs := hw
        revert hl; revert hw; revert ls; revert locs; revert H
        refine k_loop (fun ((q, x, fa2) : (Nat) × (Int32) × (Nat → Int32)) => q ≤ n ∧ x = nI q - 1 ∧ (∀ j, j < n → q ≤ j → av j = min 6 (lk j)) ∧ ∀ j, j < n → fa2 j = nI (if j < q then av j else 0)) (fun ((q, x, fa2) : (Nat) × (Int32) × (Nat → Int32)) => q) (fun ((q, x, fa2) : (Nat) × (Int32) × (Nat → Int32)) => [(a0, .inl (cI, 10, .inl fw)), (a1, .inl (cI, 10, .inl fl)), (q1, .inl (cI, n, .inl fa2)), (q6, .inl (cI, n, .inl fb))]) (fun ((q, x, fa2) : (Nat) × (Int32) × (Nat → Int32)) => [(10, .int x), (9, .int (nI (bs_S n w av))), (8, .int (nI (fb_sm av n))), (7, .int im), (6, .int mo), (5, .ref q6), (4, .ref q1), (0, .ref a0), (1, .ref a1), (2, .int (nI n)), (3, .int (nI mw))]) (n, (nI n) - 1, fa) (show n ≤ n ∧ ((nI n) - 1) = nI n - 1 ∧ (∀ j, j < n → n ≤ j → av j = min 6 (lk j)) ∧ ∀ j, j < n → fa j = nI (if j < n then av j else 0) from ⟨Nat.le_refl _, rfl, fun j h1 h2 => absurd h2 (Nat.not_le.mpr h1), fun j hj => by rw [if_pos hj]; exact hfa j hj⟩) ?_
        intro ⟨q, x, fa2⟩ hI ih121 H locs ls hw hl
        replace hI : q ≤ n ∧ x = nI q - 1 ∧ (∀ j, j < n → q ≤ j → av j = min 6 (lk j)) ∧ ∀ j, j < n → fa2 j = nI (if j < q then av j else 0) := hI
        replace hw : kW D (kty cI cC cJ cG) s (va_A [(a0, .inl (cI, 10, .inl fw)), (a1, .inl (cI, 10, .inl fl))] s.heap.size) [(a0, .inl (cI, 10, .inl fw)), (a1, .inl (cI, 10, .inl fl)), (q1, .inl (cI, n, .inl fa2)), (q6, .inl (cI, n, .inl fb))] H locs := hw
        replace hl : lv_has ls 11 [(10, .int x), (9, .int (nI (bs_S n w av))), (8, .int (nI (fb_sm av n))), (7, .int im), (6, .int mo), (5, .ref q6), (4, .ref q1), (0, .ref a0), (1, .ref a1), (2, .int (nI n)), (3, .int (nI mw))] := hl
        refine lv_iload hx hb dL_best_121 (lv_at hl 0 rfl) ?_
        refine lv_if_lt (tgt := 155) hx hb dL_best_123 (by decide) (fun c123 => ?_) (fun c123 => ?_)
        · have hq0 : q = 0 := by rcases Nat.eq_zero_or_pos q with z | z; exact z; (obtain ⟨t, rfl⟩ : ∃ t, q = t + 1 := ⟨q - 1, by omega⟩); (rw [hI.2.1, nI_pred] at c123); exact absurd c123 (Int32.not_lt.mpr (nI_pos' (by omega)))
          subst hq0
          refine lv_iload hx hb dL_best_155 (lv_at hl 0 rfl) ?_
          refine lv_if_lt (tgt := 164) hx hb dL_best_157 (by decide) (fun c157 => ?_) (fun c157 => False.elim (c157 c123))
          refine lv_iconst (v := 0) hx hb dL_best_164 (by decide) ?_
          refine lv_istore (lv' := [(7, .int 0), (10, .int x), (9, .int (nI (bs_S n w av))), (8, .int (nI (fb_sm av n))), (6, .int mo), (5, .ref q6), (4, .ref q1), (0, .ref a0), (1, .ref a1), (2, .int (nI n)), (3, .int (nI mw))]) hx hb dL_best_165 hl (by decide) rfl (fun ls hl => ?_)
          refine lv_iload hx hb dL_best_167 (lv_at hl 0 rfl) ?_
          refine lv_if_eq (tgt := 181) hx hb dL_best_169 (by decide) (fun _ => ?_) (fun h => absurd h (by decide))
          refine lv_goto (tgt := 16) hx hb dL_best_181 (by decide) ?_
          exact ih16 ((fun _ => 0), bv, fa2, fb, mo, 0) _ _ _ (show bs_I n (fun j => min 6 (lk j)) w mw ((fun _ => 0) : Nat → Nat) bv fa2 fb mo (0 : Int32) from bs_last hfb hmo hbv hQ hI.2.2.1 hI.2.2.2) (show (if (0 : Int32) = 0 then 0 else 7 ^ n - bs_rk n ((fun _ => 0) : Nat → Nat)) < (if im = 0 then 0 else 7 ^ n - bs_rk n av) from (by rw [if_pos rfl, if_neg c18]; exact bs_top (fun j hj => Nat.min_le_left _ _) hav)) hw (lv_sub hl [0, 4, 5, 6, 7, 8, 9, 10] rfl)
        · obtain ⟨t, rfl⟩ : ∃ t, q = t + 1 := ⟨q - 1, by rcases Nat.eq_zero_or_pos q with z | z; (subst z; exact absurd (by rw [hI.2.1]; decide) c123); omega⟩
          obtain rfl : x = nI t := by rw [hI.2.1]; exact nI_pred t
          have ht : t < n := by omega
          refine lv_aload hx hb dL_best_126 (lv_at hl 6 rfl) ?_
          refine lv_iload hx hb dL_best_128 (lv_at hl 0 rfl) ?_
          refine k_iald hx hb hw 2 0 rfl rfl t rfl (by omega) (by omega) dL_best_130 ?_
          refine k_eqi (y := nI (av t)) ((hI.2.2.2 t ht).trans (by rw [if_pos (Nat.lt_succ_self t)])) ?_
          refine lv_bipush (v := 6) hx hb dL_best_131 (by decide) ?_
          refine lv_aload_n hx hb dL_best_133 rfl (lv_at hl 8 rfl) ?_
          refine lv_iload hx hb dL_best_134 (lv_at hl 0 rfl) ?_
          refine k_iald hx hb hw 1 0 rfl rfl t rfl (by omega) (Nat.le_of_ble_eq_true rfl) dL_best_136 ?_
          refine k_eqi (y := nI (lk t)) (hfl t ht) ?_
          refine va_mmin hx hb (hml.trans hl.1.symm) hown k_m9 k_s_min k_imath k_c_min (by first | exact Nat.le_of_ble_eq_true rfl | (simp <;> omega)) (by first | exact Nat.le_of_ble_eq_true rfl | (simp <;> omega)) (by first | exact Nat.le_of_ble_eq_true rfl | (simp <;> omega)) (by first | exact Nat.le_of_ble_eq_true rfl | (simp <;> omega)) dL_best_137 ?_
          refine k_eqi (y := nI (min 6 (lk t))) (i_min (b := 6) (by have := hlk t ht; omega) (by decide)) ?_
          refine lv_icmp_ne (tgt := 155) hx hb dL_best_140 (by decide) (fun c140 => ?_) (fun c140 => ?_)
          · have hne : av t ≠ min 6 (lk t) := fun z => c140 (by rw [z])
            refine lv_iload hx hb dL_best_155 (lv_at hl 0 rfl) ?_
            refine lv_if_lt (tgt := 164) hx hb dL_best_157 (by decide) (fun c157 => False.elim (c123 c157)) (fun c157 => ?_)
            refine lv_iconst (v := 1) hx hb dL_best_160 (by decide) ?_
            refine lv_goto (tgt := 165) hx hb dL_best_161 (by decide) ?_
            refine lv_istore (lv' := [(7, .int 1), (10, .int (nI t)), (9, .int (nI (bs_S n w av))), (8, .int (nI (fb_sm av n))), (6, .int mo), (5, .ref q6), (4, .ref q1), (0, .ref a0), (1, .ref a1), (2, .int (nI n)), (3, .int (nI mw))]) hx hb dL_best_165 hl (by decide) rfl (fun ls hl => ?_)
            refine lv_iload hx hb dL_best_167 (lv_at hl 0 rfl) ?_
            refine lv_if_eq (tgt := 181) hx hb dL_best_169 (by decide) (fun h => absurd h (by decide)) (fun _ => ?_)
            refine lv_aload hx hb dL_best_172 (lv_at hl 6 rfl) ?_
            refine lv_iload hx hb dL_best_174 (lv_at hl 1 rfl) ?_
            refine lv_dup2_11 hx hb dL_best_176 rfl rfl ?_
            refine k_iald hx hb hw 2 0 rfl rfl t rfl (by omega) (by omega) dL_best_177 ?_
            refine lv_iconst (v := 1) hx hb dL_best_178 (by decide) ?_
            refine lv_iadd hx hb dL_best_179 ?_
            refine k_iast (ws' := [(a0, .inl (cI, 10, .inl fw)), (a1, .inl (cI, 10, .inl fl)), (q1, .inl (cI, n, .inl (upd fa2 t ((fa2 t) + 1)))), (q6, .inl (cI, n, .inl fb))]) hx hb hw 2 0 rfl rfl t rfl (by omega) (by omega) rfl dL_best_180 (fun H locs hw => ?_)
            refine lv_goto (tgt := 16) hx hb dL_best_181 (by decide) ?_
            have hst := bs_step (t := t) (fun j hj => Nat.min_le_left 6 (lk j)) hav hfb hmo hbv hQ ht hI.2.2.1 hne hI.2.2.2
            exact ih16 ((bs_nx t av), bv, upd fa2 t ((fa2 t) + 1), fb, mo, 1) _ _ _ (show bs_I n (fun j => min 6 (lk j)) w mw (bs_nx t av) bv (upd fa2 t ((fa2 t) + 1)) fb mo (1 : Int32) from hst.1) (show (if (1 : Int32) = 0 then 0 else 7 ^ n - bs_rk n (bs_nx t av)) < (if im = 0 then 0 else 7 ^ n - bs_rk n av) from (by rw [if_neg (by decide), if_neg c18]; exact hst.2)) hw (lv_sub hl [0, 4, 5, 6, 7, 8, 9, 10] rfl)
          · have hcut : av t = min 6 (lk t) := (nI_eq (by have h9 : av t ≤ min 6 (lk t) := hav t ht; omega) (by omega)).mp c140
            refine lv_aload hx hb dL_best_143 (lv_at hl 6 rfl) ?_
            refine lv_iload hx hb dL_best_145 (lv_at hl 0 rfl) ?_
            refine lv_iconst (v := 0) hx hb dL_best_147 (by decide) ?_
            refine k_iast (ws' := [(a0, .inl (cI, 10, .inl fw)), (a1, .inl (cI, 10, .inl fl)), (q1, .inl (cI, n, .inl (upd fa2 t 0))), (q6, .inl (cI, n, .inl fb))]) hx hb hw 2 0 rfl rfl t rfl (by omega) (by omega) rfl dL_best_148 (fun H locs hw => ?_)
            refine lv_iinc (v := (nI t) + (-1)) (lv' := [(10, .int ((nI t) + (-1))), (9, .int (nI (bs_S n w av))), (8, .int (nI (fb_sm av n))), (7, .int im), (6, .int mo), (5, .ref q6), (4, .ref q1), (0, .ref a0), (1, .ref a1), (2, .int (nI n)), (3, .int (nI mw))]) hx hb dL_best_149 hl (k := 0) rfl rfl (by decide) rfl (fun ls hl => ?_)
            refine lv_goto (tgt := 121) hx hb dL_best_152 (by decide) ?_
            exact ih121 (t, (nI t) + (-1), upd fa2 t 0) _ _ _ (show t ≤ n ∧ ((nI t) + (-1)) = nI t - 1 ∧ (∀ j, j < n → t ≤ j → av j = min 6 (lk j)) ∧ ∀ j, j < n → (upd fa2 t 0) j = nI (if j < t then av j else 0) from ⟨by omega, i_m1 t, fun j h1 h2 => (by rcases Nat.eq_or_lt_of_le h2 with z | z; (subst z; exact hcut); exact hI.2.2.1 j h1 z), fun j hj => (by by_cases z : j = t; (subst z; rw [pk_us, if_neg (Nat.lt_irrefl _)]; rfl); rw [pk_un z, hI.2.2.2 j hj]; congr 1; by_cases z2 : j < t; (rw [if_pos z2, if_pos (by omega)]); rw [if_neg z2, if_neg (by omega)])⟩) (show t < (t + 1) from by omega) hw (lv_sub hl [0, 1, 2, 3, 4, 5, 6, 7, 8, 9, 10] rfl)
      · refine lv_iload hx hb dL_best_74 (lv_at hl 1 rfl) ?_
        refine lv_iload_n hx hb dL_best_76 rfl (lv_at hl 10 rfl) ?_
        refine lv_icmp_gt (tgt := 116) hx hb dL_best_77 (by decide) (fun c77 => ?_) (fun c77 => ?_)
        · have hQ : bs_P n (fun j => min 6 (lk j)) w mw (fun v => bs_e n v av ∨ bs_l n v av) bv := bs_no2 hP ((nI_ltI (by omega) (by omega)).mp c77)
          refine lv_iload_n hx hb dL_best_116 rfl (lv_at hl 9 rfl) ?_
          refine lv_iconst (v := 1) hx hb dL_best_117 (by decide) ?_
          refine lv_isub hx hb dL_best_118 ?_
          refine lv_istore (lv' := [(10, .int ((nI n) - 1)), (9, .int (nI (bs_S n w av))), (8, .int (nI (fb_sm av n))), (7, .int im), (6, .int mo), (5, .ref q6), (4, .ref q1), (0, .ref a0), (1, .ref a1), (2, .int (nI n)), (3, .int (nI mw))]) hx hb dL_best_119 hl (by decide) rfl (fun ls hl => ?_)
          have hfa0 := hfa
          replace hl : lv_has _ 11 [(10, .int ((nI n) - 1)), (9, .int (nI (bs_S n w av))), (8, .int (nI (fb_sm av n))), (7, .int im), (6, .int mo), (5, .ref q6), (4, .ref q1), (0, .ref a0), (1, .ref a1), (2, .int (nI n)), (3, .int (nI mw))] := hl
          replace hw : kW D (kty cI cC cJ cG) s (va_A [(a0, .inl (cI, 10, .inl fw)), (a1, .inl (cI, 10, .inl fl))] s.heap.size) [(a0, .inl (cI, 10, .inl fw)), (a1, .inl (cI, 10, .inl fl)), (q1, .inl (cI, n, .inl fa)), (q6, .inl (cI, n, .inl fb))] H locs := hw
          revert hl; revert hw; revert ls; revert locs; revert H
          refine k_loop (fun ((q, x, fa2) : (Nat) × (Int32) × (Nat → Int32)) => q ≤ n ∧ x = nI q - 1 ∧ (∀ j, j < n → q ≤ j → av j = min 6 (lk j)) ∧ ∀ j, j < n → fa2 j = nI (if j < q then av j else 0)) (fun ((q, x, fa2) : (Nat) × (Int32) × (Nat → Int32)) => q) (fun ((q, x, fa2) : (Nat) × (Int32) × (Nat → Int32)) => [(a0, .inl (cI, 10, .inl fw)), (a1, .inl (cI, 10, .inl fl)), (q1, .inl (cI, n, .inl fa2)), (q6, .inl (cI, n, .inl fb))]) (fun ((q, x, fa2) : (Nat) × (Int32) × (Nat → Int32)) => [(10, .int x), (9, .int (nI (bs_S n w av))), (8, .int (nI (fb_sm av n))), (7, .int im), (6, .int mo), (5, .ref q6), (4, .ref q1), (0, .ref a0), (1, .ref a1), (2, .int (nI n)), (3, .int (nI mw))]) (n, (nI n) - 1, fa) (show n ≤ n ∧ ((nI n) - 1) = nI n - 1 ∧ (∀ j, j < n → n ≤ j → av j = min 6 (lk j)) ∧ ∀ j, j < n → fa j = nI (if j < n then av j else 0) from ⟨Nat.le_refl _, rfl, fun j h1 h2 => absurd h2 (Nat.not_le.mpr h1), fun j hj => by rw [if_pos hj]; exact hfa j hj⟩) ?_
          intro ⟨q, x, fa2⟩ hI ih121 H locs ls hw hl
          replace hI : q ≤ n ∧ x = nI q - 1 ∧ (∀ j, j < n → q ≤ j → av j = min 6 (lk j)) ∧ ∀ j, j < n → fa2 j = nI (if j < q then av j else 0) := hI
          replace hw : kW D (kty cI cC cJ cG) s (va_A [(a0, .inl (cI, 10, .inl fw)), (a1, .inl (cI, 10, .inl fl))] s.heap.size) [(a0, .inl (cI, 10, .inl fw)), (a1, .inl (cI, 10, .inl fl)), (q1, .inl (cI, n, .inl fa2)), (q6, .inl (cI, n, .inl fb))] H locs := hw
          replace hl : lv_has ls 11 [(10, .int x), (9, .int (nI (bs_S n w av))), (8, .int (nI (fb_sm av n))), (7, .int im), (6, .int mo), (5, .ref q6), (4, .ref q1), (0, .ref a0), (1, .ref a1), (2, .int (nI n)), (3, .int (nI mw))] := hl
          refine lv_iload hx hb dL_best_121 (lv_at hl 0 rfl) ?_
          refine lv_if_lt (tgt := 155) hx hb dL_best_123 (by decide) (fun c123 => ?_) (fun c123 => ?_)
          · have hq0 : q = 0 := by rcases Nat.eq_zero_or_pos q with z | z; exact z; (obtain ⟨t, rfl⟩ : ∃ t, q = t + 1 := ⟨q - 1, by omega⟩); (rw [hI.2.1, nI_pred] at c123); exact absurd c123 (Int32.not_lt.mpr (nI_pos' (by omega)))
            subst hq0
            refine lv_iload hx hb dL_best_155 (lv_at hl 0 rfl) ?_
            refine lv_if_lt (tgt := 164) hx hb dL_best_157 (by decide) (fun c157 => ?_) (fun c157 => False.elim (c157 c123))
            refine lv_iconst (v := 0) hx hb dL_best_164 (by decide) ?_
            refine lv_istore (lv' := [(7, .int 0), (10, .int x), (9, .int (nI (bs_S n w av))), (8, .int (nI (fb_sm av n))), (6, .int mo), (5, .ref q6), (4, .ref q1), (0, .ref a0), (1, .ref a1), (2, .int (nI n)), (3, .int (nI mw))]) hx hb dL_best_165 hl (by decide) rfl (fun ls hl => ?_)
            refine lv_iload hx hb dL_best_167 (lv_at hl 0 rfl) ?_
            refine lv_if_eq (tgt := 181) hx hb dL_best_169 (by decide) (fun _ => ?_) (fun h => absurd h (by decide))
            refine lv_goto (tgt := 16) hx hb dL_best_181 (by decide) ?_
            exact ih16 ((fun _ => 0), bv, fa2, fb, mo, 0) _ _ _ (show bs_I n (fun j => min 6 (lk j)) w mw ((fun _ => 0) : Nat → Nat) bv fa2 fb mo (0 : Int32) from bs_last hfb hmo hbv hQ hI.2.2.1 hI.2.2.2) (show (if (0 : Int32) = 0 then 0 else 7 ^ n - bs_rk n ((fun _ => 0) : Nat → Nat)) < (if im = 0 then 0 else 7 ^ n - bs_rk n av) from (by rw [if_pos rfl, if_neg c18]; exact bs_top (fun j hj => Nat.min_le_left _ _) hav)) hw (lv_sub hl [0, 4, 5, 6, 7, 8, 9, 10] rfl)
          · obtain ⟨t, rfl⟩ : ∃ t, q = t + 1 := ⟨q - 1, by rcases Nat.eq_zero_or_pos q with z | z; (subst z; exact absurd (by rw [hI.2.1]; decide) c123); omega⟩
            obtain rfl : x = nI t := by rw [hI.2.1]; exact nI_pred t
            have ht : t < n := by omega
            refine lv_aload hx hb dL_best_126 (lv_at hl 6 rfl) ?_
            refine lv_iload hx hb dL_best_128 (lv_at hl 0 rfl) ?_
            refine k_iald hx hb hw 2 0 rfl rfl t rfl (by omega) (by omega) dL_best_130 ?_
            refine k_eqi (y := nI (av t)) ((hI.2.2.2 t ht).trans (by rw [if_pos (Nat.lt_succ_self t)])) ?_
            refine lv_bipush (v := 6) hx hb dL_best_131 (by decide) ?_
            refine lv_aload_n hx hb dL_best_133 rfl (lv_at hl 8 rfl) ?_
            refine lv_iload hx hb dL_best_134 (lv_at hl 0 rfl) ?_
            refine k_iald hx hb hw 1 0 rfl rfl t rfl (by omega) (Nat.le_of_ble_eq_true rfl) dL_best_136 ?_
            refine k_eqi (y := nI (lk t)) (hfl t ht) ?_
            refine va_mmin hx hb (hml.trans hl.1.symm) hown k_m9 k_s_min k_imath k_c_min (by first | exact Nat.le_of_ble_eq_true rfl | (simp <;> omega)) (by first | exact Nat.le_of_ble_eq_true rfl | (simp <;> omega)) (by first | exact Nat.le_of_ble_eq_true rfl | (simp <;> omega)) (by first | exact Nat.le_of_ble_eq_true rfl | (simp <;> omega)) dL_best_137 ?_
            refine k_eqi (y := nI (min 6 (lk t))) (i_min (b := 6) (by have := hlk t ht; omega) (by decide)) ?_
            refine lv_icmp_ne (tgt := 155) hx hb dL_best_140 (by decide) (fun c140 => ?_) (fun c140 => ?_)
            · have hne : av t ≠ min 6 (lk t) := fun z => c140 (by rw [z])
              refine lv_iload hx hb dL_best_155 (lv_at hl 0 rfl) ?_
              refine lv_if_lt (tgt := 164) hx hb dL_best_157 (by decide) (fun c157 => False.elim (c123 c157)) (fun c157 => ?_)
              refine lv_iconst (v := 1) hx hb dL_best_160 (by decide) ?_
              refine lv_goto (tgt := 165) hx hb dL_best_161 (by decide) ?_
              refine lv_istore (lv' := [(7, .int 1), (10, .int (nI t)), (9, .int (nI (bs_S n w av))), (8, .int (nI (fb_sm av n))), (6, .int mo), (5, .ref q6), (4, .ref q1), (0, .ref a0), (1, .ref a1), (2, .int (nI n)), (3, .int (nI mw))]) hx hb dL_best_165 hl (by decide) rfl (fun ls hl => ?_)
              refine lv_iload hx hb dL_best_167 (lv_at hl 0 rfl) ?_
              refine lv_if_eq (tgt := 181) hx hb dL_best_169 (by decide) (fun h => absurd h (by decide)) (fun _ => ?_)
              refine lv_aload hx hb dL_best_172 (lv_at hl 6 rfl) ?_
              refine lv_iload hx hb dL_best_174 (lv_at hl 1 rfl) ?_
              refine lv_dup2_11 hx hb dL_best_176 rfl rfl ?_
              refine k_iald hx hb hw 2 0 rfl rfl t rfl (by omega) (by omega) dL_best_177 ?_
              refine lv_iconst (v := 1) hx hb dL_best_178 (by decide) ?_
              refine lv_iadd hx hb dL_best_179 ?_
              refine k_iast (ws' := [(a0, .inl (cI, 10, .inl fw)), (a1, .inl (cI, 10, .inl fl)), (q1, .inl (cI, n, .inl (upd fa2 t ((fa2 t) + 1)))), (q6, .inl (cI, n, .inl fb))]) hx hb hw 2 0 rfl rfl t rfl (by omega) (by omega) rfl dL_best_180 (fun H locs hw => ?_)
              refine lv_goto (tgt := 16) hx hb dL_best_181 (by decide) ?_
              have hst := bs_step (t := t) (fun j hj => Nat.min_le_left 6 (lk j)) hav hfb hmo hbv hQ ht hI.2.2.1 hne hI.2.2.2
              exact ih16 ((bs_nx t av), bv, upd fa2 t ((fa2 t) + 1), fb, mo, 1) _ _ _ (show bs_I n (fun j => min 6 (lk j)) w mw (bs_nx t av) bv (upd fa2 t ((fa2 t) + 1)) fb mo (1 : Int32) from hst.1) (show (if (1 : Int32) = 0 then 0 else 7 ^ n - bs_rk n (bs_nx t av)) < (if im = 0 then 0 else 7 ^ n - bs_rk n av) from (by rw [if_neg (by decide), if_neg c18]; exact hst.2)) hw (lv_sub hl [0, 4, 5, 6, 7, 8, 9, 10] rfl)
            · have hcut : av t = min 6 (lk t) := (nI_eq (by have h9 : av t ≤ min 6 (lk t) := hav t ht; omega) (by omega)).mp c140
              refine lv_aload hx hb dL_best_143 (lv_at hl 6 rfl) ?_
              refine lv_iload hx hb dL_best_145 (lv_at hl 0 rfl) ?_
              refine lv_iconst (v := 0) hx hb dL_best_147 (by decide) ?_
              refine k_iast (ws' := [(a0, .inl (cI, 10, .inl fw)), (a1, .inl (cI, 10, .inl fl)), (q1, .inl (cI, n, .inl (upd fa2 t 0))), (q6, .inl (cI, n, .inl fb))]) hx hb hw 2 0 rfl rfl t rfl (by omega) (by omega) rfl dL_best_148 (fun H locs hw => ?_)
              refine lv_iinc (v := (nI t) + (-1)) (lv' := [(10, .int ((nI t) + (-1))), (9, .int (nI (bs_S n w av))), (8, .int (nI (fb_sm av n))), (7, .int im), (6, .int mo), (5, .ref q6), (4, .ref q1), (0, .ref a0), (1, .ref a1), (2, .int (nI n)), (3, .int (nI mw))]) hx hb dL_best_149 hl (k := 0) rfl rfl (by decide) rfl (fun ls hl => ?_)
              refine lv_goto (tgt := 121) hx hb dL_best_152 (by decide) ?_
              exact ih121 (t, (nI t) + (-1), upd fa2 t 0) _ _ _ (show t ≤ n ∧ ((nI t) + (-1)) = nI t - 1 ∧ (∀ j, j < n → t ≤ j → av j = min 6 (lk j)) ∧ ∀ j, j < n → (upd fa2 t 0) j = nI (if j < t then av j else 0) from ⟨by omega, i_m1 t, fun j h1 h2 => (by rcases Nat.eq_or_lt_of_le h2 with z | z; (subst z; exact hcut); exact hI.2.2.1 j h1 z), fun j hj => (by by_cases z : j = t; (subst z; rw [pk_us, if_neg (Nat.lt_irrefl _)]; rfl); rw [pk_un z, hI.2.2.2 j hj]; congr 1; by_cases z2 : j < t; (rw [if_pos z2, if_pos (by omega)]); rw [if_neg z2, if_neg (by omega)])⟩) (show t < (t + 1) from by omega) hw (lv_sub hl [0, 1, 2, 3, 4, 5, 6, 7, 8, 9, 10] rfl)
        · refine lv_iload hx hb dL_best_80 (lv_at hl 1 rfl) ?_
          refine lv_iload hx hb dL_best_82 (lv_at hl 4 rfl) ?_
          refine lv_icmp_lt (tgt := 116) hx hb dL_best_84 (by decide) (fun c84 => ?_) (fun c84 => ?_)
          · have hQ : bs_P n (fun j => min 6 (lk j)) w mw (fun v => bs_e n v av ∨ bs_l n v av) bv := bs_no3 hP ((nI_ltI (by omega) (by omega)).mp (by rw [hmo] at c84; exact c84))
            refine lv_iload_n hx hb dL_best_116 rfl (lv_at hl 9 rfl) ?_
            refine lv_iconst (v := 1) hx hb dL_best_117 (by decide) ?_
            refine lv_isub hx hb dL_best_118 ?_
            refine lv_istore (lv' := [(10, .int ((nI n) - 1)), (9, .int (nI (bs_S n w av))), (8, .int (nI (fb_sm av n))), (7, .int im), (6, .int mo), (5, .ref q6), (4, .ref q1), (0, .ref a0), (1, .ref a1), (2, .int (nI n)), (3, .int (nI mw))]) hx hb dL_best_119 hl (by decide) rfl (fun ls hl => ?_)
            have hfa0 := hfa
            replace hl : lv_has _ 11 [(10, .int ((nI n) - 1)), (9, .int (nI (bs_S n w av))), (8, .int (nI (fb_sm av n))), (7, .int im), (6, .int mo), (5, .ref q6), (4, .ref q1), (0, .ref a0), (1, .ref a1), (2, .int (nI n)), (3, .int (nI mw))] := hl
            replace hw : kW D (kty cI cC cJ cG) s (va_A [(a0, .inl (cI, 10, .inl fw)), (a1, .inl (cI, 10, .inl fl))] s.heap.size) [(a0, .inl (cI, 10, .inl fw)), (a1, .inl (cI, 10, .inl fl)), (q1, .inl (cI, n, .inl fa)), (q6, .inl (cI, n, .inl fb))] H locs := hw
            revert hl; revert hw; revert ls; revert locs; revert H
            refine k_loop (fun ((q, x, fa2) : (Nat) × (Int32) × (Nat → Int32)) => q ≤ n ∧ x = nI q - 1 ∧ (∀ j, j < n → q ≤ j → av j = min 6 (lk j)) ∧ ∀ j, j < n → fa2 j = nI (if j < q then av j else 0)) (fun ((q, x, fa2) : (Nat) × (Int32) × (Nat → Int32)) => q) (fun ((q, x, fa2) : (Nat) × (Int32) × (Nat → Int32)) => [(a0, .inl (cI, 10, .inl fw)), (a1, .inl (cI, 10, .inl fl)), (q1, .inl (cI, n, .inl fa2)), (q6, .inl (cI, n, .inl fb))]) (fun ((q, x, fa2) : (Nat) × (Int32) × (Nat → Int32)) => [(10, .int x), (9, .int (nI (bs_S n w av))), (8, .int (nI (fb_sm av n))), (7, .int im), (6, .int mo), (5, .ref q6), (4, .ref q1), (0, .ref a0), (1, .ref a1), (2, .int (nI n)), (3, .int (nI mw))]) (n, (nI n) - 1, fa) (show n ≤ n ∧ ((nI n) - 1) = nI n - 1 ∧ (∀ j, j < n → n ≤ j → av j = min 6 (lk j)) ∧ ∀ j, j < n → fa j = nI (if j < n then av j else 0) from ⟨Nat.le_refl _, rfl, fun j h1 h2 => absurd h2 (Nat.not_le.mpr h1), fun j hj => by rw [if_pos hj]; exact hfa j hj⟩) ?_
            intro ⟨q, x, fa2⟩ hI ih121 H locs ls hw hl
            replace hI : q ≤ n ∧ x = nI q - 1 ∧ (∀ j, j < n → q ≤ j → av j = min 6 (lk j)) ∧ ∀ j, j < n → fa2 j = nI (if j < q then av j else 0) := hI
            replace hw : kW D (kty cI cC cJ cG) s (va_A [(a0, .inl (cI, 10, .inl fw)), (a1, .inl (cI, 10, .inl fl))] s.heap.size) [(a0, .inl (cI, 10, .inl fw)), (a1, .inl (cI, 10, .inl fl)), (q1, .inl (cI, n, .inl fa2)), (q6, .inl (cI, n, .inl fb))] H locs := hw
            replace hl : lv_has ls 11 [(10, .int x), (9, .int (nI (bs_S n w av))), (8, .int (nI (fb_sm av n))), (7, .int im), (6, .int mo), (5, .ref q6), (4, .ref q1), (0, .ref a0), (1, .ref a1), (2, .int (nI n)), (3, .int (nI mw))] := hl
            refine lv_iload hx hb dL_best_121 (lv_at hl 0 rfl) ?_
            refine lv_if_lt (tgt := 155) hx hb dL_best_123 (by decide) (fun c123 => ?_) (fun c123 => ?_)
            · have hq0 : q = 0 := by rcases Nat.eq_zero_or_pos q with z | z; exact z; (obtain ⟨t, rfl⟩ : ∃ t, q = t + 1 := ⟨q - 1, by omega⟩); (rw [hI.2.1, nI_pred] at c123); exact absurd c123 (Int32.not_lt.mpr (nI_pos' (by omega)))
              subst hq0
              refine lv_iload hx hb dL_best_155 (lv_at hl 0 rfl) ?_
              refine lv_if_lt (tgt := 164) hx hb dL_best_157 (by decide) (fun c157 => ?_) (fun c157 => False.elim (c157 c123))
              refine lv_iconst (v := 0) hx hb dL_best_164 (by decide) ?_
              refine lv_istore (lv' := [(7, .int 0), (10, .int x), (9, .int (nI (bs_S n w av))), (8, .int (nI (fb_sm av n))), (6, .int mo), (5, .ref q6), (4, .ref q1), (0, .ref a0), (1, .ref a1), (2, .int (nI n)), (3, .int (nI mw))]) hx hb dL_best_165 hl (by decide) rfl (fun ls hl => ?_)
              refine lv_iload hx hb dL_best_167 (lv_at hl 0 rfl) ?_
              refine lv_if_eq (tgt := 181) hx hb dL_best_169 (by decide) (fun _ => ?_) (fun h => absurd h (by decide))
              refine lv_goto (tgt := 16) hx hb dL_best_181 (by decide) ?_
              exact ih16 ((fun _ => 0), bv, fa2, fb, mo, 0) _ _ _ (show bs_I n (fun j => min 6 (lk j)) w mw ((fun _ => 0) : Nat → Nat) bv fa2 fb mo (0 : Int32) from bs_last hfb hmo hbv hQ hI.2.2.1 hI.2.2.2) (show (if (0 : Int32) = 0 then 0 else 7 ^ n - bs_rk n ((fun _ => 0) : Nat → Nat)) < (if im = 0 then 0 else 7 ^ n - bs_rk n av) from (by rw [if_pos rfl, if_neg c18]; exact bs_top (fun j hj => Nat.min_le_left _ _) hav)) hw (lv_sub hl [0, 4, 5, 6, 7, 8, 9, 10] rfl)
            · obtain ⟨t, rfl⟩ : ∃ t, q = t + 1 := ⟨q - 1, by rcases Nat.eq_zero_or_pos q with z | z; (subst z; exact absurd (by rw [hI.2.1]; decide) c123); omega⟩
              obtain rfl : x = nI t := by rw [hI.2.1]; exact nI_pred t
              have ht : t < n := by omega
              refine lv_aload hx hb dL_best_126 (lv_at hl 6 rfl) ?_
              refine lv_iload hx hb dL_best_128 (lv_at hl 0 rfl) ?_
              refine k_iald hx hb hw 2 0 rfl rfl t rfl (by omega) (by omega) dL_best_130 ?_
              refine k_eqi (y := nI (av t)) ((hI.2.2.2 t ht).trans (by rw [if_pos (Nat.lt_succ_self t)])) ?_
              refine lv_bipush (v := 6) hx hb dL_best_131 (by decide) ?_
              refine lv_aload_n hx hb dL_best_133 rfl (lv_at hl 8 rfl) ?_
              refine lv_iload hx hb dL_best_134 (lv_at hl 0 rfl) ?_
              refine k_iald hx hb hw 1 0 rfl rfl t rfl (by omega) (Nat.le_of_ble_eq_true rfl) dL_best_136 ?_
              refine k_eqi (y := nI (lk t)) (hfl t ht) ?_
              refine va_mmin hx hb (hml.trans hl.1.symm) hown k_m9 k_s_min k_imath k_c_min (by first | exact Nat.le_of_ble_eq_true rfl | (simp <;> omega)) (by first | exact Nat.le_of_ble_eq_true rfl | (simp <;> omega)) (by first | exact Nat.le_of_ble_eq_true rfl | (simp <;> omega)) (by first | exact Nat.le_of_ble_eq_true rfl | (simp <;> omega)) dL_best_137 ?_
              refine k_eqi (y := nI (min 6 (lk t))) (i_min (b := 6) (by have := hlk t ht; omega) (by decide)) ?_
              refine lv_icmp_ne (tgt := 155) hx hb dL_best_140 (by decide) (fun c140 => ?_) (fun c140 => ?_)
              · have hne : av t ≠ min 6 (lk t) := fun z => c140 (by rw [z])
                refine lv_iload hx hb dL_best_155 (lv_at hl 0 rfl) ?_
                refine lv_if_lt (tgt := 164) hx hb dL_best_157 (by decide) (fun c157 => False.elim (c123 c157)) (fun c157 => ?_)
                refine lv_iconst (v := 1) hx hb dL_best_160 (by decide) ?_
                refine lv_goto (tgt := 165) hx hb dL_best_161 (by decide) ?_
                refine lv_istore (lv' := [(7, .int 1), (10, .int (nI t)), (9, .int (nI (bs_S n w av))), (8, .int (nI (fb_sm av n))), (6, .int mo), (5, .ref q6), (4, .ref q1), (0, .ref a0), (1, .ref a1), (2, .int (nI n)), (3, .int (nI mw))]) hx hb dL_best_165 hl (by decide) rfl (fun ls hl => ?_)
                refine lv_iload hx hb dL_best_167 (lv_at hl 0 rfl) ?_
                refine lv_if_eq (tgt := 181) hx hb dL_best_169 (by decide) (fun h => absurd h (by decide)) (fun _ => ?_)
                refine lv_aload hx hb dL_best_172 (lv_at hl 6 rfl) ?_
                refine lv_iload hx hb dL_best_174 (lv_at hl 1 rfl) ?_
                refine lv_dup2_11 hx hb dL_best_176 rfl rfl ?_
                refine k_iald hx hb hw 2 0 rfl rfl t rfl (by omega) (by omega) dL_best_177 ?_
                refine lv_iconst (v := 1) hx hb dL_best_178 (by decide) ?_
                refine lv_iadd hx hb dL_best_179 ?_
                refine k_iast (ws' := [(a0, .inl (cI, 10, .inl fw)), (a1, .inl (cI, 10, .inl fl)), (q1, .inl (cI, n, .inl (upd fa2 t ((fa2 t) + 1)))), (q6, .inl (cI, n, .inl fb))]) hx hb hw 2 0 rfl rfl t rfl (by omega) (by omega) rfl dL_best_180 (fun H locs hw => ?_)
                refine lv_goto (tgt := 16) hx hb dL_best_181 (by decide) ?_
                have hst := bs_step (t := t) (fun j hj => Nat.min_le_left 6 (lk j)) hav hfb hmo hbv hQ ht hI.2.2.1 hne hI.2.2.2
                exact ih16 ((bs_nx t av), bv, upd fa2 t ((fa2 t) + 1), fb, mo, 1) _ _ _ (show bs_I n (fun j => min 6 (lk j)) w mw (bs_nx t av) bv (upd fa2 t ((fa2 t) + 1)) fb mo (1 : Int32) from hst.1) (show (if (1 : Int32) = 0 then 0 else 7 ^ n - bs_rk n (bs_nx t av)) < (if im = 0 then 0 else 7 ^ n - bs_rk n av) from (by rw [if_neg (by decide), if_neg c18]; exact hst.2)) hw (lv_sub hl [0, 4, 5, 6, 7, 8, 9, 10] rfl)
              · have hcut : av t = min 6 (lk t) := (nI_eq (by have h9 : av t ≤ min 6 (lk t) := hav t ht; omega) (by omega)).mp c140
                refine lv_aload hx hb dL_best_143 (lv_at hl 6 rfl) ?_
                refine lv_iload hx hb dL_best_145 (lv_at hl 0 rfl) ?_
                refine lv_iconst (v := 0) hx hb dL_best_147 (by decide) ?_
                refine k_iast (ws' := [(a0, .inl (cI, 10, .inl fw)), (a1, .inl (cI, 10, .inl fl)), (q1, .inl (cI, n, .inl (upd fa2 t 0))), (q6, .inl (cI, n, .inl fb))]) hx hb hw 2 0 rfl rfl t rfl (by omega) (by omega) rfl dL_best_148 (fun H locs hw => ?_)
                refine lv_iinc (v := (nI t) + (-1)) (lv' := [(10, .int ((nI t) + (-1))), (9, .int (nI (bs_S n w av))), (8, .int (nI (fb_sm av n))), (7, .int im), (6, .int mo), (5, .ref q6), (4, .ref q1), (0, .ref a0), (1, .ref a1), (2, .int (nI n)), (3, .int (nI mw))]) hx hb dL_best_149 hl (k := 0) rfl rfl (by decide) rfl (fun ls hl => ?_)
                refine lv_goto (tgt := 121) hx hb dL_best_152 (by decide) ?_
                exact ih121 (t, (nI t) + (-1), upd fa2 t 0) _ _ _ (show t ≤ n ∧ ((nI t) + (-1)) = nI t - 1 ∧ (∀ j, j < n → t ≤ j → av j = min 6 (lk j)) ∧ ∀ j, j < n → (upd fa2 t 0) j = nI (if j < t then av j else 0) from ⟨by omega, i_m1 t, fun j h1 h2 => (by rcases Nat.eq_or_lt_of_le h2 with z | z; (subst z; exact hcut); exact hI.2.2.1 j h1 z), fun j hj => (by by_cases z : j = t; (subst z; rw [pk_us, if_neg (Nat.lt_irrefl _)]; rfl); rw [pk_un z, hI.2.2.2 j hj]; congr 1; by_cases z2 : j < t; (rw [if_pos z2, if_pos (by omega)]); rw [if_neg z2, if_neg (by omega)])⟩) (show t < (t + 1) from by omega) hw (lv_sub hl [0, 1, 2, 3, 4, 5, 6, 7, 8, 9, 10] rfl)
          · refine lv_iload hx hb dL_best_87 (lv_at hl 1 rfl) ?_
            refine lv_istore (lv' := [(6, .int (nI (bs_S n w av))), (10, .int (nI kx)), (9, .int (nI (bs_S n w av))), (8, .int (nI (fb_sm av n))), (7, .int im), (5, .ref q6), (4, .ref q1), (0, .ref a0), (1, .ref a1), (2, .int (nI n)), (3, .int (nI mw))]) hx hb dL_best_89 hl (by decide) rfl (fun ls hl => ?_)
            refine lv_iconst (v := 0) hx hb dL_best_91 (by decide) ?_
            refine lv_istore (lv' := [(10, .int 0), (6, .int (nI (bs_S n w av))), (9, .int (nI (bs_S n w av))), (8, .int (nI (fb_sm av n))), (7, .int im), (5, .ref q6), (4, .ref q1), (0, .ref a0), (1, .ref a1), (2, .int (nI n)), (3, .int (nI mw))]) hx hb dL_best_92 hl (by decide) rfl (fun ls hl => ?_)
            replace hl : lv_has _ 11 [(10, .int (nI 0)), (6, .int (nI (bs_S n w av))), (9, .int (nI (bs_S n w av))), (8, .int (nI (fb_sm av n))), (7, .int im), (5, .ref q6), (4, .ref q1), (0, .ref a0), (1, .ref a1), (2, .int (nI n)), (3, .int (nI mw))] := hl
            replace hw : kW D (kty cI cC cJ cG) s (va_A [(a0, .inl (cI, 10, .inl fw)), (a1, .inl (cI, 10, .inl fl))] s.heap.size) [(a0, .inl (cI, 10, .inl fw)), (a1, .inl (cI, 10, .inl fl)), (q1, .inl (cI, n, .inl fa)), (q6, .inl (cI, n, .inl fb))] H locs := hw
            revert hl; revert hw; revert ls; revert locs; revert H
            refine k_loop (fun ((kx, fb2) : (Nat) × (Nat → Int32)) => kx ≤ n ∧ ∀ j, j < kx → fb2 j = fa j) (fun ((kx, fb2) : (Nat) × (Nat → Int32)) => n - kx) (fun ((kx, fb2) : (Nat) × (Nat → Int32)) => [(a0, .inl (cI, 10, .inl fw)), (a1, .inl (cI, 10, .inl fl)), (q1, .inl (cI, n, .inl fa)), (q6, .inl (cI, n, .inl fb2))]) (fun ((kx, fb2) : (Nat) × (Nat → Int32)) => [(10, .int (nI kx)), (6, .int (nI (bs_S n w av))), (9, .int (nI (bs_S n w av))), (8, .int (nI (fb_sm av n))), (7, .int im), (5, .ref q6), (4, .ref q1), (0, .ref a0), (1, .ref a1), (2, .int (nI n)), (3, .int (nI mw))]) (0, fb) (show (0 : Nat) ≤ n ∧ ∀ j, j < (0 : Nat) → fb j = fa j from ⟨Nat.zero_le _, fun j hj => absurd hj (Nat.not_lt_zero j)⟩) ?_
            intro ⟨kx, fb2⟩ hI ih94 H locs ls hw hl
            replace hI : kx ≤ n ∧ ∀ j, j < kx → fb2 j = fa j := hI
            replace hw : kW D (kty cI cC cJ cG) s (va_A [(a0, .inl (cI, 10, .inl fw)), (a1, .inl (cI, 10, .inl fl))] s.heap.size) [(a0, .inl (cI, 10, .inl fw)), (a1, .inl (cI, 10, .inl fl)), (q1, .inl (cI, n, .inl fa)), (q6, .inl (cI, n, .inl fb2))] H locs := hw
            replace hl : lv_has ls 11 [(10, .int (nI kx)), (6, .int (nI (bs_S n w av))), (9, .int (nI (bs_S n w av))), (8, .int (nI (fb_sm av n))), (7, .int im), (5, .ref q6), (4, .ref q1), (0, .ref a0), (1, .ref a1), (2, .int (nI n)), (3, .int (nI mw))] := hl
            refine lv_iload hx hb dL_best_94 (lv_at hl 0 rfl) ?_
            refine lv_iload_n hx hb dL_best_96 rfl (lv_at hl 9 rfl) ?_
            refine lv_icmp_ge (tgt := 116) hx hb dL_best_97 (by decide) (fun c97 => ?_) (fun c97 => ?_)
            · have hkn2 : kx = n := by have := k_le c97 (by omega) (by omega); omega
              have hQ : bs_P n (fun j => min 6 (lk j)) w mw (fun v => bs_e n v av ∨ bs_l n v av) av := bs_yes hP (Nat.not_lt.mp (fun z => c84 (by rw [hmo]; exact (nI_ltI (by omega) (by omega)).mpr z)))
              have hav6 : bs_v n (fun j => min 6 (lk j)) w 6 mw av := ⟨hav, Nat.not_lt.mp (fun z => c71 ((nI_ltI (a := 6) (by omega) (by omega)).mpr z)), Nat.not_lt.mp (fun z => c77 ((nI_ltI (by omega) (by omega)).mpr z))⟩
              have hfb9 : ∀ j, j < n → fb2 j = nI (av j) := fun j hj => (hI.2 j (by omega)).trans (hfa j hj)
              refine lv_iload_n hx hb dL_best_116 rfl (lv_at hl 9 rfl) ?_
              refine lv_iconst (v := 1) hx hb dL_best_117 (by decide) ?_
              refine lv_isub hx hb dL_best_118 ?_
              refine lv_istore (lv' := [(10, .int ((nI n) - 1)), (6, .int (nI (bs_S n w av))), (9, .int (nI (bs_S n w av))), (8, .int (nI (fb_sm av n))), (7, .int im), (5, .ref q6), (4, .ref q1), (0, .ref a0), (1, .ref a1), (2, .int (nI n)), (3, .int (nI mw))]) hx hb dL_best_119 hl (by decide) rfl (fun ls hl => ?_)
              have hfa0 := hfa
              replace hl : lv_has _ 11 [(10, .int ((nI n) - 1)), (6, .int (nI (bs_S n w av))), (9, .int (nI (bs_S n w av))), (8, .int (nI (fb_sm av n))), (7, .int im), (5, .ref q6), (4, .ref q1), (0, .ref a0), (1, .ref a1), (2, .int (nI n)), (3, .int (nI mw))] := hl
              replace hw : kW D (kty cI cC cJ cG) s (va_A [(a0, .inl (cI, 10, .inl fw)), (a1, .inl (cI, 10, .inl fl))] s.heap.size) [(a0, .inl (cI, 10, .inl fw)), (a1, .inl (cI, 10, .inl fl)), (q1, .inl (cI, n, .inl fa)), (q6, .inl (cI, n, .inl fb2))] H locs := hw
              revert hl; revert hw; revert ls; revert locs; revert H
              refine k_loop (fun ((q, x, fa2) : (Nat) × (Int32) × (Nat → Int32)) => q ≤ n ∧ x = nI q - 1 ∧ (∀ j, j < n → q ≤ j → av j = min 6 (lk j)) ∧ ∀ j, j < n → fa2 j = nI (if j < q then av j else 0)) (fun ((q, x, fa2) : (Nat) × (Int32) × (Nat → Int32)) => q) (fun ((q, x, fa2) : (Nat) × (Int32) × (Nat → Int32)) => [(a0, .inl (cI, 10, .inl fw)), (a1, .inl (cI, 10, .inl fl)), (q1, .inl (cI, n, .inl fa2)), (q6, .inl (cI, n, .inl fb2))]) (fun ((q, x, fa2) : (Nat) × (Int32) × (Nat → Int32)) => [(10, .int x), (6, .int (nI (bs_S n w av))), (9, .int (nI (bs_S n w av))), (8, .int (nI (fb_sm av n))), (7, .int im), (5, .ref q6), (4, .ref q1), (0, .ref a0), (1, .ref a1), (2, .int (nI n)), (3, .int (nI mw))]) (n, (nI n) - 1, fa) (show n ≤ n ∧ ((nI n) - 1) = nI n - 1 ∧ (∀ j, j < n → n ≤ j → av j = min 6 (lk j)) ∧ ∀ j, j < n → fa j = nI (if j < n then av j else 0) from ⟨Nat.le_refl _, rfl, fun j h1 h2 => absurd h2 (Nat.not_le.mpr h1), fun j hj => by rw [if_pos hj]; exact hfa j hj⟩) ?_
              intro ⟨q, x, fa2⟩ hI ih121 H locs ls hw hl
              replace hI : q ≤ n ∧ x = nI q - 1 ∧ (∀ j, j < n → q ≤ j → av j = min 6 (lk j)) ∧ ∀ j, j < n → fa2 j = nI (if j < q then av j else 0) := hI
              replace hw : kW D (kty cI cC cJ cG) s (va_A [(a0, .inl (cI, 10, .inl fw)), (a1, .inl (cI, 10, .inl fl))] s.heap.size) [(a0, .inl (cI, 10, .inl fw)), (a1, .inl (cI, 10, .inl fl)), (q1, .inl (cI, n, .inl fa2)), (q6, .inl (cI, n, .inl fb2))] H locs := hw
              replace hl : lv_has ls 11 [(10, .int x), (6, .int (nI (bs_S n w av))), (9, .int (nI (bs_S n w av))), (8, .int (nI (fb_sm av n))), (7, .int im), (5, .ref q6), (4, .ref q1), (0, .ref a0), (1, .ref a1), (2, .int (nI n)), (3, .int (nI mw))] := hl
              refine lv_iload hx hb dL_best_121 (lv_at hl 0 rfl) ?_
              refine lv_if_lt (tgt := 155) hx hb dL_best_123 (by decide) (fun c123 => ?_) (fun c123 => ?_)
              · have hq0 : q = 0 := by rcases Nat.eq_zero_or_pos q with z | z; exact z; (obtain ⟨t, rfl⟩ : ∃ t, q = t + 1 := ⟨q - 1, by omega⟩); (rw [hI.2.1, nI_pred] at c123); exact absurd c123 (Int32.not_lt.mpr (nI_pos' (by omega)))
                subst hq0
                refine lv_iload hx hb dL_best_155 (lv_at hl 0 rfl) ?_
                refine lv_if_lt (tgt := 164) hx hb dL_best_157 (by decide) (fun c157 => ?_) (fun c157 => False.elim (c157 c123))
                refine lv_iconst (v := 0) hx hb dL_best_164 (by decide) ?_
                refine lv_istore (lv' := [(7, .int 0), (10, .int x), (6, .int (nI (bs_S n w av))), (9, .int (nI (bs_S n w av))), (8, .int (nI (fb_sm av n))), (5, .ref q6), (4, .ref q1), (0, .ref a0), (1, .ref a1), (2, .int (nI n)), (3, .int (nI mw))]) hx hb dL_best_165 hl (by decide) rfl (fun ls hl => ?_)
                refine lv_iload hx hb dL_best_167 (lv_at hl 0 rfl) ?_
                refine lv_if_eq (tgt := 181) hx hb dL_best_169 (by decide) (fun _ => ?_) (fun h => absurd h (by decide))
                refine lv_goto (tgt := 16) hx hb dL_best_181 (by decide) ?_
                exact ih16 ((fun _ => 0), av, fa2, fb2, nI (bs_S n w av), 0) _ _ _ (show bs_I n (fun j => min 6 (lk j)) w mw ((fun _ => 0) : Nat → Nat) av fa2 fb2 (nI (bs_S n w av)) (0 : Int32) from bs_last hfb9 rfl hav6 hQ hI.2.2.1 hI.2.2.2) (show (if (0 : Int32) = 0 then 0 else 7 ^ n - bs_rk n ((fun _ => 0) : Nat → Nat)) < (if im = 0 then 0 else 7 ^ n - bs_rk n av) from (by rw [if_pos rfl, if_neg c18]; exact bs_top (fun j hj => Nat.min_le_left _ _) hav)) hw (lv_sub hl [0, 2, 5, 6, 7, 8, 9, 10] rfl)
              · obtain ⟨t, rfl⟩ : ∃ t, q = t + 1 := ⟨q - 1, by rcases Nat.eq_zero_or_pos q with z | z; (subst z; exact absurd (by rw [hI.2.1]; decide) c123); omega⟩
                obtain rfl : x = nI t := by rw [hI.2.1]; exact nI_pred t
                have ht : t < n := by omega
                refine lv_aload hx hb dL_best_126 (lv_at hl 6 rfl) ?_
                refine lv_iload hx hb dL_best_128 (lv_at hl 0 rfl) ?_
                refine k_iald hx hb hw 2 0 rfl rfl t rfl (by omega) (by omega) dL_best_130 ?_
                refine k_eqi (y := nI (av t)) ((hI.2.2.2 t ht).trans (by rw [if_pos (Nat.lt_succ_self t)])) ?_
                refine lv_bipush (v := 6) hx hb dL_best_131 (by decide) ?_
                refine lv_aload_n hx hb dL_best_133 rfl (lv_at hl 8 rfl) ?_
                refine lv_iload hx hb dL_best_134 (lv_at hl 0 rfl) ?_
                refine k_iald hx hb hw 1 0 rfl rfl t rfl (by omega) (Nat.le_of_ble_eq_true rfl) dL_best_136 ?_
                refine k_eqi (y := nI (lk t)) (hfl t ht) ?_
                refine va_mmin hx hb (hml.trans hl.1.symm) hown k_m9 k_s_min k_imath k_c_min (by first | exact Nat.le_of_ble_eq_true rfl | (simp <;> omega)) (by first | exact Nat.le_of_ble_eq_true rfl | (simp <;> omega)) (by first | exact Nat.le_of_ble_eq_true rfl | (simp <;> omega)) (by first | exact Nat.le_of_ble_eq_true rfl | (simp <;> omega)) dL_best_137 ?_
                refine k_eqi (y := nI (min 6 (lk t))) (i_min (b := 6) (by have := hlk t ht; omega) (by decide)) ?_
                refine lv_icmp_ne (tgt := 155) hx hb dL_best_140 (by decide) (fun c140 => ?_) (fun c140 => ?_)
                · have hne : av t ≠ min 6 (lk t) := fun z => c140 (by rw [z])
                  refine lv_iload hx hb dL_best_155 (lv_at hl 0 rfl) ?_
                  refine lv_if_lt (tgt := 164) hx hb dL_best_157 (by decide) (fun c157 => False.elim (c123 c157)) (fun c157 => ?_)
                  refine lv_iconst (v := 1) hx hb dL_best_160 (by decide) ?_
                  refine lv_goto (tgt := 165) hx hb dL_best_161 (by decide) ?_
                  refine lv_istore (lv' := [(7, .int 1), (10, .int (nI t)), (6, .int (nI (bs_S n w av))), (9, .int (nI (bs_S n w av))), (8, .int (nI (fb_sm av n))), (5, .ref q6), (4, .ref q1), (0, .ref a0), (1, .ref a1), (2, .int (nI n)), (3, .int (nI mw))]) hx hb dL_best_165 hl (by decide) rfl (fun ls hl => ?_)
                  refine lv_iload hx hb dL_best_167 (lv_at hl 0 rfl) ?_
                  refine lv_if_eq (tgt := 181) hx hb dL_best_169 (by decide) (fun h => absurd h (by decide)) (fun _ => ?_)
                  refine lv_aload hx hb dL_best_172 (lv_at hl 6 rfl) ?_
                  refine lv_iload hx hb dL_best_174 (lv_at hl 1 rfl) ?_
                  refine lv_dup2_11 hx hb dL_best_176 rfl rfl ?_
                  refine k_iald hx hb hw 2 0 rfl rfl t rfl (by omega) (by omega) dL_best_177 ?_
                  refine lv_iconst (v := 1) hx hb dL_best_178 (by decide) ?_
                  refine lv_iadd hx hb dL_best_179 ?_
                  refine k_iast (ws' := [(a0, .inl (cI, 10, .inl fw)), (a1, .inl (cI, 10, .inl fl)), (q1, .inl (cI, n, .inl (upd fa2 t ((fa2 t) + 1)))), (q6, .inl (cI, n, .inl fb2))]) hx hb hw 2 0 rfl rfl t rfl (by omega) (by omega) rfl dL_best_180 (fun H locs hw => ?_)
                  refine lv_goto (tgt := 16) hx hb dL_best_181 (by decide) ?_
                  have hst := bs_step (t := t) (fun j hj => Nat.min_le_left 6 (lk j)) hav hfb9 rfl hav6 hQ ht hI.2.2.1 hne hI.2.2.2
                  exact ih16 ((bs_nx t av), av, upd fa2 t ((fa2 t) + 1), fb2, nI (bs_S n w av), 1) _ _ _ (show bs_I n (fun j => min 6 (lk j)) w mw (bs_nx t av) av (upd fa2 t ((fa2 t) + 1)) fb2 (nI (bs_S n w av)) (1 : Int32) from hst.1) (show (if (1 : Int32) = 0 then 0 else 7 ^ n - bs_rk n (bs_nx t av)) < (if im = 0 then 0 else 7 ^ n - bs_rk n av) from (by rw [if_neg (by decide), if_neg c18]; exact hst.2)) hw (lv_sub hl [0, 2, 5, 6, 7, 8, 9, 10] rfl)
                · have hcut : av t = min 6 (lk t) := (nI_eq (by have h9 : av t ≤ min 6 (lk t) := hav t ht; omega) (by omega)).mp c140
                  refine lv_aload hx hb dL_best_143 (lv_at hl 6 rfl) ?_
                  refine lv_iload hx hb dL_best_145 (lv_at hl 0 rfl) ?_
                  refine lv_iconst (v := 0) hx hb dL_best_147 (by decide) ?_
                  refine k_iast (ws' := [(a0, .inl (cI, 10, .inl fw)), (a1, .inl (cI, 10, .inl fl)), (q1, .inl (cI, n, .inl (upd fa2 t 0))), (q6, .inl (cI, n, .inl fb2))]) hx hb hw 2 0 rfl rfl t rfl (by omega) (by omega) rfl dL_best_148 (fun H locs hw => ?_)
                  refine lv_iinc (v := (nI t) + (-1)) (lv' := [(10, .int ((nI t) + (-1))), (6, .int (nI (bs_S n w av))), (9, .int (nI (bs_S n w av))), (8, .int (nI (fb_sm av n))), (7, .int im), (5, .ref q6), (4, .ref q1), (0, .ref a0), (1, .ref a1), (2, .int (nI n)), (3, .int (nI mw))]) hx hb dL_best_149 hl (k := 0) rfl rfl (by decide) rfl (fun ls hl => ?_)
                  refine lv_goto (tgt := 121) hx hb dL_best_152 (by decide) ?_
                  exact ih121 (t, (nI t) + (-1), upd fa2 t 0) _ _ _ (show t ≤ n ∧ ((nI t) + (-1)) = nI t - 1 ∧ (∀ j, j < n → t ≤ j → av j = min 6 (lk j)) ∧ ∀ j, j < n → (upd fa2 t 0) j = nI (if j < t then av j else 0) from ⟨by omega, i_m1 t, fun j h1 h2 => (by rcases Nat.eq_or_lt_of_le h2 with z | z; (subst z; exact hcut); exact hI.2.2.1 j h1 z), fun j hj => (by by_cases z : j = t; (subst z; rw [pk_us, if_neg (Nat.lt_irrefl _)]; rfl); rw [pk_un z, hI.2.2.2 j hj]; congr 1; by_cases z2 : j < t; (rw [if_pos z2, if_pos (by omega)]); rw [if_neg z2, if_neg (by omega)])⟩) (show t < (t + 1) from by omega) hw (lv_sub hl [0, 1, 2, 3, 4, 5, 6, 7, 8, 9, 10] rfl)
            · have hi : kx < n := k_lt c97 (by omega) (by omega)
              refine lv_aload hx hb dL_best_100 (lv_at hl 5 rfl) ?_
              refine lv_iload hx hb dL_best_102 (lv_at hl 0 rfl) ?_
              refine lv_aload hx hb dL_best_104 (lv_at hl 6 rfl) ?_
              refine lv_iload hx hb dL_best_106 (lv_at hl 0 rfl) ?_
              refine k_iald hx hb hw 2 0 rfl rfl kx rfl (by omega) (by omega) dL_best_108 ?_
              refine k_iast (ws' := [(a0, .inl (cI, 10, .inl fw)), (a1, .inl (cI, 10, .inl fl)), (q1, .inl (cI, n, .inl fa)), (q6, .inl (cI, n, .inl (upd fb2 kx (fa kx))))]) hx hb hw 3 0 rfl rfl kx rfl (by omega) (by omega) rfl dL_best_109 (fun H locs hw => ?_)
              refine lv_iinc (v := nI (kx + 1)) (lv' := [(10, .int (nI (kx + 1))), (6, .int (nI (bs_S n w av))), (9, .int (nI (bs_S n w av))), (8, .int (nI (fb_sm av n))), (7, .int im), (5, .ref q6), (4, .ref q1), (0, .ref a0), (1, .ref a1), (2, .int (nI n)), (3, .int (nI mw))]) hx hb dL_best_110 hl (k := 0) rfl (nI_1 kx) (by decide) rfl (fun ls hl => ?_)
              refine lv_goto (tgt := 94) hx hb dL_best_113 (by decide) ?_
              exact ih94 ((kx + 1), upd fb2 kx (fa kx)) _ _ _ (show (kx + 1) ≤ n ∧ ∀ j, j < (kx + 1) → (upd fb2 kx (fa kx)) j = fa j from ⟨by omega, fun j hj => (by by_cases z : j = kx; (subst z; exact pk_us); rw [pk_un z]; exact hI.2 j (by omega))⟩) (show n - (kx + 1) < n - kx from by omega) hw (lv_sub hl [0, 1, 2, 3, 4, 5, 6, 7, 8, 9, 10] rfl)
    · have hi : kx < n := k_lt c33 (by omega) (by omega)
      refine lv_iload hx hb dL_best_36 (lv_at hl 2 rfl) ?_
      refine lv_aload hx hb dL_best_38 (lv_at hl 6 rfl) ?_
      refine lv_iload hx hb dL_best_40 (lv_at hl 0 rfl) ?_
      refine k_iald hx hb hw 2 0 rfl rfl kx rfl (by omega) (by omega) dL_best_42 ?_
      refine lv_iadd hx hb dL_best_43 ?_
      refine lv_istore (lv' := [(8, .int (ro + (fa kx))), (10, .int (nI kx)), (9, .int su), (7, .int im), (6, .int mo), (5, .ref q6), (4, .ref q1), (0, .ref a0), (1, .ref a1), (2, .int (nI n)), (3, .int (nI mw))]) hx hb dL_best_44 hl (by decide) rfl (fun ls hl => ?_)
      refine lv_iload hx hb dL_best_46 (lv_at hl 2 rfl) ?_
      refine lv_aload hx hb dL_best_48 (lv_at hl 6 rfl) ?_
      refine lv_iload hx hb dL_best_50 (lv_at hl 1 rfl) ?_
      refine k_iald hx hb hw 2 0 rfl rfl kx rfl (by omega) (by omega) dL_best_52 ?_
      refine lv_aload_n hx hb dL_best_53 rfl (lv_at hl 7 rfl) ?_
      refine lv_iload hx hb dL_best_54 (lv_at hl 1 rfl) ?_
      refine k_iald hx hb hw 0 0 rfl rfl kx rfl (by omega) (Nat.le_of_ble_eq_true rfl) dL_best_56 ?_
      refine lv_imul hx hb dL_best_57 ?_
      refine lv_iadd hx hb dL_best_58 ?_
      refine lv_istore (lv' := [(9, .int (su + ((fa kx) * (fw kx)))), (8, .int (ro + (fa kx))), (10, .int (nI kx)), (7, .int im), (6, .int mo), (5, .ref q6), (4, .ref q1), (0, .ref a0), (1, .ref a1), (2, .int (nI n)), (3, .int (nI mw))]) hx hb dL_best_59 hl (by decide) rfl (fun ls hl => ?_)
      refine lv_iinc (v := nI (kx + 1)) (lv' := [(10, .int (nI (kx + 1))), (9, .int (su + ((fa kx) * (fw kx)))), (8, .int (ro + (fa kx))), (7, .int im), (6, .int mo), (5, .ref q6), (4, .ref q1), (0, .ref a0), (1, .ref a1), (2, .int (nI n)), (3, .int (nI mw))]) hx hb dL_best_61 hl (k := 2) rfl (nI_1 kx) (by decide) rfl (fun ls hl => ?_)
      refine lv_goto (tgt := 30) hx hb dL_best_64 (by decide) ?_
      exact ih30 ((kx + 1), ro + (fa kx), su + ((fa kx) * (fw kx))) _ _ _ (show (kx + 1) ≤ n ∧ (ro + (fa kx)) = nI (fb_sm av (kx + 1)) ∧ (su + ((fa kx) * (fw kx))) = nI (bs_S (kx + 1) w av) from ⟨by omega, by rw [hI.2.1, hfa kx hi, nI_add]; rfl, by rw [hI.2.2, hfa kx hi, hfw kx hi, pk_mul, nI_add]; rfl⟩) (show n - (kx + 1) < n - kx from by omega) hw (lv_sub hl [0, 1, 2, 3, 4, 5, 6, 7, 8, 9, 10] rfl)
