set_option maxRecDepth 100000 in
set_option maxHeartbeats 4000000 in
/-- X5_next -/
theorem c_X5_next (l : Launch) (D : va_G) (cI cC cJ cG : ClassId) (h0 z2 z4 : Nat) (sz : Nat) (z1 z3 z5 : Nat) (k mw : Nat) (mg ch up sh li fp sp hc : Int32) (inn pa lo ma st : Int64) (ph tr la : Int32) (og ol : Nat → Int32) (s0 : Nat) (hk : k ≤ 10) (hs0 : s0 ≤ 3) (hmg : mg = nI s0 - 1) (hog : ∀ j, j < k → ∃ g, g < 3 ∧ og j = nI g) (hup : up = 0 ∨ up = 1) : kMi l yX5_next wsX5_next ({ frames := 0, cells := 1, slots := 3, locals := 0 }) D (kty cI cC cJ cG) [.ref h0] [(h0, .inr (5, [.ref z1, .ref z2, .ref z3, .ref z4, .ref z5, .int (nI k), .int (nI mw), .int mg, .int ch, .int up, .int sh, .int li, .int fp, .int sp, .int hc, .long inn, .long pa, .long lo, .long ma, .long st, .int ph, .int tr, .int la])), (z2, .inl (cI, 10, .inl og)), (z4, .inl (cI, 10, .inl ol))] sz 1 3 (fun (r : Int32) (_ : Unit) => nx_P (f_hoz og ol k) s0 up r) (fun (_ : Unit) => [(h0, .inr (5, [.ref z1, .ref z2, .ref z3, .ref z4, .ref z5, .int (nI k), .int (nI mw), .int mg, .int ch, .int up, .int sh, .int li, .int fp, .int sp, .int hc, .long inn, .long pa, .long lo, .long ma, .long st, .int ph, .int tr, .int la])), (z2, .inl (cI, 10, .inl og)), (z4, .inl (cI, 10, .inl ol))]) := by
  unfold kMi
  refine k_ofW (cc := cX5_next) (maxL := 5) (ret := (some .int)) (lv := [(0, .ref h0)]) (by decide) rfl (Nat.le_of_ble_eq_true rfl) rfl ?_
  intro p e s m args below meth c ls H locs hE hsz hw hl
  obtain ⟨hx, hb, hr, hml, hown, hts, hlocks⟩ := hE
  subst hsz
  have hown : s.vm.findClass RX5 = some m.cls := hown
  have k_ac_boolean : (Cond.arrayClass .boolean).before args s = true := hts _ (by decide +kernel)
  have k_f58 : (Cond.fieldLink RX5 58 "PaperMachineLaw$Mill" "orders" "I").before args s = true := hts _ (by decide +kernel)
  have k_f32 : (Cond.fieldLink RX5 32 "PaperMachineLaw$Mill" "isUp" "Z").before args s = true := hts _ (by decide +kernel)
  have k_f29 : (Cond.fieldLink RX5 29 "PaperMachineLaw$Mill" "now" "I").before args s = true := hts _ (by decide +kernel)
  have k_f13 : (Cond.fieldLink RX5 13 "PaperMachineLaw$Mill" "grade" "[I").before args s = true := hts _ (by decide +kernel)
  have k_f19 : (Cond.fieldLink RX5 19 "PaperMachineLaw$Mill" "lacks" "[I").before args s = true := hts _ (by decide +kernel)
  have i_X5 : ∀ w ∈ u_ws RX5 TX5 23, w ∈ wsX5_next := fun _ h => List.mem_cons_of_mem _ (List.mem_append_right _ h)
  refine lv_iconst (v := 3) hx hb dX5_next_0 (by decide) ?_
  refine k_newa (atype := .boolean) (a0 := (3, .inl (fun _ => 0))) hx hb k_ac_boolean rfl hw 2 rfl one_z (fun _ => rfl) (by decide) (nI_clamp (n := 3) (by decide)) (by decide +kernel) (Nat.le_of_ble_eq_true rfl) (Nat.le_of_ble_eq_true rfl) dX5_next_1 (fun q1 H hwn => ?_)
  clear hw
  have hw := hwn
  clear hwn
  replace hw : kW D (kty cI cC cJ cG) s (va_A [(h0, .inr (5, [.ref z1, .ref z2, .ref z3, .ref z4, .ref z5, .int (nI k), .int (nI mw), .int mg, .int ch, .int up, .int sh, .int li, .int fp, .int sp, .int hc, .long inn, .long pa, .long lo, .long ma, .long st, .int ph, .int tr, .int la])), (z2, .inl (cI, 10, .inl og)), (z4, .inl (cI, 10, .inl ol))] s.heap.size) [(h0, .inr (5, [.ref z1, .ref z2, .ref z3, .ref z4, .ref z5, .int (nI k), .int (nI mw), .int mg, .int ch, .int up, .int sh, .int li, .int fp, .int sp, .int hc, .long inn, .long pa, .long lo, .long ma, .long st, .int ph, .int tr, .int la])), (z2, .inl (cI, 10, .inl og)), (z4, .inl (cI, 10, .inl ol)), (q1, .inl (cJ, 3, .inl (fun _ => 0)))] H locs := hw
  refine lv_astore_n (lv' := [(1, .ref q1), (0, .ref h0)]) hx hb dX5_next_3 rfl hl (by decide) rfl (fun ls hl => ?_)
  refine lv_iconst (v := 0) hx hb dX5_next_4 (by decide) ?_
  refine lv_istore_n (lv' := [(2, .int 0), (1, .ref q1), (0, .ref h0)]) hx hb dX5_next_5 rfl hl (by decide) rfl (fun ls hl => ?_)
  replace hl : lv_has _ 5 [(2, .int (nI 0)), (1, .ref q1), (0, .ref h0)] := hl
  replace hw : kW D (kty cI cC cJ cG) s (va_A [(h0, .inr (5, [.ref z1, .ref z2, .ref z3, .ref z4, .ref z5, .int (nI k), .int (nI mw), .int mg, .int ch, .int up, .int sh, .int li, .int fp, .int sp, .int hc, .long inn, .long pa, .long lo, .long ma, .long st, .int ph, .int tr, .int la])), (z2, .inl (cI, 10, .inl og)), (z4, .inl (cI, 10, .inl ol))] s.heap.size) [(h0, .inr (5, [.ref z1, .ref z2, .ref z3, .ref z4, .ref z5, .int (nI k), .int (nI mw), .int mg, .int ch, .int up, .int sh, .int li, .int fp, .int sp, .int hc, .long inn, .long pa, .long lo, .long ma, .long st, .int ph, .int tr, .int la])), (z2, .inl (cI, 10, .inl og)), (z4, .inl (cI, 10, .inl ol)), (q1, .inl (cJ, 3, .inl (fun _ => 0)))] H locs := hw
  revert hl; revert hw; revert ls; revert locs; revert H
  refine k_loop (fun ((i, fz) : (Nat) × (Nat → Int32)) => i ≤ k ∧ ∀ gg, gg < 3 → fz gg = (if f_ho og ol (nI gg) i = true then 1 else 0)) (fun ((i, fz) : (Nat) × (Nat → Int32)) => k - i) (fun ((i, fz) : (Nat) × (Nat → Int32)) => [(h0, .inr (5, [.ref z1, .ref z2, .ref z3, .ref z4, .ref z5, .int (nI k), .int (nI mw), .int mg, .int ch, .int up, .int sh, .int li, .int fp, .int sp, .int hc, .long inn, .long pa, .long lo, .long ma, .long st, .int ph, .int tr, .int la])), (z2, .inl (cI, 10, .inl og)), (z4, .inl (cI, 10, .inl ol)), (q1, .inl (cJ, 3, .inl fz))]) (fun ((i, fz) : (Nat) × (Nat → Int32)) => [(2, .int (nI i)), (1, .ref q1), (0, .ref h0)]) (0, (fun _ => 0)) (show (0 : Nat) ≤ k ∧ ∀ gg, gg < 3 → (fun _ => 0 : Nat → Int32) gg = (if f_ho og ol (nI gg) (0 : Nat) = true then 1 else 0) from ⟨Nat.zero_le _, fun _ _ => rfl⟩) ?_
  intro ⟨i, fz⟩ hI ih6 H locs ls hw hl
  replace hI : i ≤ k ∧ ∀ gg, gg < 3 → fz gg = (if f_ho og ol (nI gg) i = true then 1 else 0) := hI
  replace hw : kW D (kty cI cC cJ cG) s (va_A [(h0, .inr (5, [.ref z1, .ref z2, .ref z3, .ref z4, .ref z5, .int (nI k), .int (nI mw), .int mg, .int ch, .int up, .int sh, .int li, .int fp, .int sp, .int hc, .long inn, .long pa, .long lo, .long ma, .long st, .int ph, .int tr, .int la])), (z2, .inl (cI, 10, .inl og)), (z4, .inl (cI, 10, .inl ol))] s.heap.size) [(h0, .inr (5, [.ref z1, .ref z2, .ref z3, .ref z4, .ref z5, .int (nI k), .int (nI mw), .int mg, .int ch, .int up, .int sh, .int li, .int fp, .int sp, .int hc, .long inn, .long pa, .long lo, .long ma, .long st, .int ph, .int tr, .int la])), (z2, .inl (cI, 10, .inl og)), (z4, .inl (cI, 10, .inl ol)), (q1, .inl (cJ, 3, .inl fz))] H locs := hw
  replace hl : lv_has ls 5 [(2, .int (nI i)), (1, .ref q1), (0, .ref h0)] := hl
  refine lv_iload_n hx hb dX5_next_6 rfl (lv_at hl 0 rfl) ?_
  refine lv_aload_n hx hb dX5_next_7 rfl (lv_at hl 2 rfl) ?_
  refine k_get hx hb hts i_X5 hown hw 0 5 rfl rfl (by decide) k_f58 rfl dX5_next_8 ?_
  refine lv_icmp_ge (tgt := 53) hx hb dX5_next_11 (by decide) (fun c11 => ?_) (fun c11 => ?_)
  · have hi : k ≤ i := k_le c11 (by omega) (by omega)
    have hfz : ∀ gg, gg < 3 → fz gg = (if f_ho og ol (nI gg) k = true then 1 else 0) := by have h := hI.2; rw [show i = k by omega] at h; exact h
    refine lv_iconst (v := 0) hx hb dX5_next_53 (by decide) ?_
    refine lv_istore_n (lv' := [(2, .int 0), (1, .ref q1), (0, .ref h0)]) hx hb dX5_next_54 rfl hl (by decide) rfl (fun ls hl => ?_)
    refine lv_iload_n hx hb dX5_next_55 rfl (lv_at hl 0 rfl) ?_
    refine lv_iconst (v := 2) hx hb dX5_next_56 (by decide) ?_
    refine lv_icmp_ge (tgt := 147) hx hb dX5_next_57 (by decide) (fun h => absurd h (by decide)) (fun _ => ?_)
    refine lv_aload_n hx hb dX5_next_60 rfl (lv_at hl 2 rfl) ?_
    refine k_get hx hb hts i_X5 hown hw 0 9 rfl rfl (by decide) k_f32 rfl dX5_next_61 ?_
    refine lv_iload_n hx hb dX5_next_64 rfl (lv_at hl 0 rfl) ?_
    refine lv_if_ne (tgt := 72) hx hb dX5_next_65 (by decide) (fun h => absurd h (by decide)) (fun _ => ?_)
    refine lv_iconst (v := 1) hx hb dX5_next_68 (by decide) ?_
    refine lv_goto (tgt := 73) hx hb dX5_next_69 (by decide) ?_
    refine lv_icmp_ne (tgt := 80) hx hb dX5_next_73 (by decide) (fun c73 => ?_) (fun c73 => ?_)
    · refine lv_iconst (v := 0) hx hb dX5_next_80 (by decide) ?_
      refine lv_istore_n (lv' := [(3, .int 0), (2, .int 0), (1, .ref q1), (0, .ref h0)]) hx hb dX5_next_81 rfl hl (by decide) rfl (fun ls hl => ?_)
      refine lv_iload_n hx hb dX5_next_82 rfl (lv_at hl 0 rfl) ?_
      refine lv_if_eq (tgt := 95) hx hb dX5_next_83 (by decide) (fun _ => ?_) (fun h => absurd h (by decide))
      refine lv_aload_n hx hb dX5_next_95 rfl (lv_at hl 3 rfl) ?_
      refine k_get hx hb hts i_X5 hown hw 0 7 rfl rfl (by decide) k_f29 rfl dX5_next_96 ?_
      refine lv_iconst (v := 1) hx hb dX5_next_99 (by decide) ?_
      refine lv_isub hx hb dX5_next_100 ?_
      refine lv_istore (lv' := [(4, .int (mg - 1)), (3, .int 0), (2, .int 0), (1, .ref q1), (0, .ref h0)]) hx hb dX5_next_101 hl (by decide) rfl (fun ls hl => ?_)
      replace hl : lv_has _ 5 [(4, .int (mg - 1)), (3, .int 0), (2, .int 0), (1, .ref q1), (0, .ref h0)] := lv_sub hl [0, 1, 2, 3, 4] rfl
      replace hw : kW D (kty cI cC cJ cG) s (va_A [(h0, .inr (5, [.ref z1, .ref z2, .ref z3, .ref z4, .ref z5, .int (nI k), .int (nI mw), .int mg, .int ch, .int up, .int sh, .int li, .int fp, .int sp, .int hc, .long inn, .long pa, .long lo, .long ma, .long st, .int ph, .int tr, .int la])), (z2, .inl (cI, 10, .inl og)), (z4, .inl (cI, 10, .inl ol))] s.heap.size) [(h0, .inr (5, [.ref z1, .ref z2, .ref z3, .ref z4, .ref z5, .int (nI k), .int (nI mw), .int mg, .int ch, .int up, .int sh, .int li, .int fp, .int sp, .int hc, .long inn, .long pa, .long lo, .long ma, .long st, .int ph, .int tr, .int la])), (z2, .inl (cI, 10, .inl og)), (z4, .inl (cI, 10, .inl ol)), (q1, .inl (cJ, 3, .inl fz))] H locs := hw
      revert hl; revert hw; revert ls; revert locs; revert H
      refine k_loop (fun ((q, x) : (Nat) × (Int32)) => q ≤ s0 ∧ x = nI q - 1 - 1 ∧ ∀ g, q ≤ g + 1 → g + 1 < s0 → f_hoz og ol k g = false) (fun ((q, x) : (Nat) × (Int32)) => q) (fun ((q, x) : (Nat) × (Int32)) => [(h0, .inr (5, [.ref z1, .ref z2, .ref z3, .ref z4, .ref z5, .int (nI k), .int (nI mw), .int mg, .int ch, .int up, .int sh, .int li, .int fp, .int sp, .int hc, .long inn, .long pa, .long lo, .long ma, .long st, .int ph, .int tr, .int la])), (z2, .inl (cI, 10, .inl og)), (z4, .inl (cI, 10, .inl ol)), (q1, .inl (cJ, 3, .inl fz))]) (fun ((q, x) : (Nat) × (Int32)) => [(4, .int x), (3, .int 0), (2, .int 0), (1, .ref q1), (0, .ref h0)]) (s0, mg - 1) (show s0 ≤ s0 ∧ (mg - 1) = nI s0 - 1 - 1 ∧ ∀ g, s0 ≤ g + 1 → g + 1 < s0 → f_hoz og ol k g = false from ⟨Nat.le_refl _, by rw [hmg], fun g h1 h2 => absurd h2 (Nat.not_lt.mpr h1)⟩) ?_
      intro ⟨q, x⟩ hI ih103 H locs ls hw hl
      replace hI : q ≤ s0 ∧ x = nI q - 1 - 1 ∧ ∀ g, q ≤ g + 1 → g + 1 < s0 → f_hoz og ol k g = false := hI
      replace hw : kW D (kty cI cC cJ cG) s (va_A [(h0, .inr (5, [.ref z1, .ref z2, .ref z3, .ref z4, .ref z5, .int (nI k), .int (nI mw), .int mg, .int ch, .int up, .int sh, .int li, .int fp, .int sp, .int hc, .long inn, .long pa, .long lo, .long ma, .long st, .int ph, .int tr, .int la])), (z2, .inl (cI, 10, .inl og)), (z4, .inl (cI, 10, .inl ol))] s.heap.size) [(h0, .inr (5, [.ref z1, .ref z2, .ref z3, .ref z4, .ref z5, .int (nI k), .int (nI mw), .int mg, .int ch, .int up, .int sh, .int li, .int fp, .int sp, .int hc, .long inn, .long pa, .long lo, .long ma, .long st, .int ph, .int tr, .int la])), (z2, .inl (cI, 10, .inl og)), (z4, .inl (cI, 10, .inl ol)), (q1, .inl (cJ, 3, .inl fz))] H locs := hw
      replace hl : lv_has ls 5 [(4, .int x), (3, .int 0), (2, .int 0), (1, .ref q1), (0, .ref h0)] := hl
      refine lv_iload hx hb dX5_next_103 (lv_at hl 0 rfl) ?_
      refine lv_if_lt (tgt := 141) hx hb dX5_next_105 (by decide) (fun c105 => ?_) (fun c105 => ?_)
      · have hDn : nx_Dn (f_hoz og ol k) s0 := fun g h2 => hI.2.2 g (by rcases Nat.lt_or_ge q 2 with z | z; omega; (obtain ⟨t, rfl⟩ : ∃ t, q = t + 2 := ⟨q - 2, by omega⟩); (rw [hI.2.1, nx_m2] at c105); exact absurd c105 (Int32.not_lt.mpr (nI_pos' (by have := hI.1; omega)))) h2
        have hup1 : up = 0 := hup.resolve_right c73
        refine lv_iinc (v := 1) (lv' := [(2, .int 1), (4, .int x), (3, .int 0), (1, .ref q1), (0, .ref h0)]) hx hb dX5_next_141 hl (k := 2) rfl (by decide) (by decide) rfl (fun ls hl => ?_)
        refine lv_goto (tgt := 55) hx hb dX5_next_144 (by decide) ?_
        refine lv_iload_n hx hb dX5_next_55 rfl (lv_at hl 0 rfl) ?_
        refine lv_iconst (v := 2) hx hb dX5_next_56 (by decide) ?_
        refine lv_icmp_ge (tgt := 147) hx hb dX5_next_57 (by decide) (fun h => absurd h (by decide)) (fun _ => ?_)
        refine lv_aload_n hx hb dX5_next_60 rfl (lv_at hl 4 rfl) ?_
        refine k_get hx hb hts i_X5 hown hw 0 9 rfl rfl (by decide) k_f32 rfl dX5_next_61 ?_
        refine lv_iload_n hx hb dX5_next_64 rfl (lv_at hl 0 rfl) ?_
        refine lv_if_ne (tgt := 72) hx hb dX5_next_65 (by decide) (fun _ => ?_) (fun h => absurd h (by decide))
        refine lv_iconst (v := 0) hx hb dX5_next_72 (by decide) ?_
        refine lv_icmp_ne (tgt := 80) hx hb dX5_next_73 (by decide) (fun c73 => False.elim (c73 hup1)) (fun c73 => ?_)
        refine lv_iconst (v := 1) hx hb dX5_next_76 (by decide) ?_
        refine lv_goto (tgt := 81) hx hb dX5_next_77 (by decide) ?_
        refine lv_istore_n (lv' := [(3, .int 1), (2, .int 1), (4, .int x), (1, .ref q1), (0, .ref h0)]) hx hb dX5_next_81 rfl hl (by decide) rfl (fun ls hl => ?_)
        refine lv_iload_n hx hb dX5_next_82 rfl (lv_at hl 0 rfl) ?_
        refine lv_if_eq (tgt := 95) hx hb dX5_next_83 (by decide) (fun h => absurd h (by decide)) (fun _ => ?_)
        refine lv_aload_n hx hb dX5_next_86 rfl (lv_at hl 4 rfl) ?_
        refine k_get hx hb hts i_X5 hown hw 0 7 rfl rfl (by decide) k_f29 rfl dX5_next_87 ?_
        refine lv_iconst (v := 1) hx hb dX5_next_90 (by decide) ?_
        refine lv_iadd hx hb dX5_next_91 ?_
        refine k_eqi (y := nI s0) (by rw [hmg]; exact nx_p1 s0) ?_
        refine lv_goto (tgt := 101) hx hb dX5_next_92 (by decide) ?_
        refine lv_istore (lv' := [(4, .int (nI s0)), (3, .int 1), (2, .int 1), (1, .ref q1), (0, .ref h0)]) hx hb dX5_next_101 hl (by decide) rfl (fun ls hl => ?_)
        replace hl : lv_has _ 5 [(4, .int (nI s0)), (3, .int 1), (2, .int 1), (1, .ref q1), (0, .ref h0)] := lv_sub hl [0, 1, 2, 3, 4] rfl
        replace hw : kW D (kty cI cC cJ cG) s (va_A [(h0, .inr (5, [.ref z1, .ref z2, .ref z3, .ref z4, .ref z5, .int (nI k), .int (nI mw), .int mg, .int ch, .int up, .int sh, .int li, .int fp, .int sp, .int hc, .long inn, .long pa, .long lo, .long ma, .long st, .int ph, .int tr, .int la])), (z2, .inl (cI, 10, .inl og)), (z4, .inl (cI, 10, .inl ol))] s.heap.size) [(h0, .inr (5, [.ref z1, .ref z2, .ref z3, .ref z4, .ref z5, .int (nI k), .int (nI mw), .int mg, .int ch, .int up, .int sh, .int li, .int fp, .int sp, .int hc, .long inn, .long pa, .long lo, .long ma, .long st, .int ph, .int tr, .int la])), (z2, .inl (cI, 10, .inl og)), (z4, .inl (cI, 10, .inl ol)), (q1, .inl (cJ, 3, .inl fz))] H locs := hw
        revert hl; revert hw; revert ls; revert locs; revert H
        refine k_loop (fun (q : (Nat)) => s0 ≤ q ∧ q ≤ 3 ∧ ∀ g, s0 ≤ g → g < q → f_hoz og ol k g = false) (fun (q : (Nat)) => 3 - q) (fun (q : (Nat)) => [(h0, .inr (5, [.ref z1, .ref z2, .ref z3, .ref z4, .ref z5, .int (nI k), .int (nI mw), .int mg, .int ch, .int up, .int sh, .int li, .int fp, .int sp, .int hc, .long inn, .long pa, .long lo, .long ma, .long st, .int ph, .int tr, .int la])), (z2, .inl (cI, 10, .inl og)), (z4, .inl (cI, 10, .inl ol)), (q1, .inl (cJ, 3, .inl fz))]) (fun (q : (Nat)) => [(4, .int (nI q)), (3, .int 1), (2, .int 1), (1, .ref q1), (0, .ref h0)]) s0 (show s0 ≤ s0 ∧ s0 ≤ 3 ∧ ∀ g, s0 ≤ g → g < s0 → f_hoz og ol k g = false from ⟨Nat.le_refl _, hs0, fun g h1 h2 => absurd h2 (Nat.not_lt.mpr h1)⟩) ?_
        intro q hI ih103 H locs ls hw hl
        replace hI : s0 ≤ q ∧ q ≤ 3 ∧ ∀ g, s0 ≤ g → g < q → f_hoz og ol k g = false := hI
        replace hw : kW D (kty cI cC cJ cG) s (va_A [(h0, .inr (5, [.ref z1, .ref z2, .ref z3, .ref z4, .ref z5, .int (nI k), .int (nI mw), .int mg, .int ch, .int up, .int sh, .int li, .int fp, .int sp, .int hc, .long inn, .long pa, .long lo, .long ma, .long st, .int ph, .int tr, .int la])), (z2, .inl (cI, 10, .inl og)), (z4, .inl (cI, 10, .inl ol))] s.heap.size) [(h0, .inr (5, [.ref z1, .ref z2, .ref z3, .ref z4, .ref z5, .int (nI k), .int (nI mw), .int mg, .int ch, .int up, .int sh, .int li, .int fp, .int sp, .int hc, .long inn, .long pa, .long lo, .long ma, .long st, .int ph, .int tr, .int la])), (z2, .inl (cI, 10, .inl og)), (z4, .inl (cI, 10, .inl ol)), (q1, .inl (cJ, 3, .inl fz))] H locs := hw
        replace hl : lv_has ls 5 [(4, .int (nI q)), (3, .int 1), (2, .int 1), (1, .ref q1), (0, .ref h0)] := hl
        refine lv_iload hx hb dX5_next_103 (lv_at hl 0 rfl) ?_
        refine lv_if_lt (tgt := 141) hx hb dX5_next_105 (by decide) (fun c105 => False.elim (absurd c105 (Int32.not_lt.mpr (nI_pos' (by omega))))) (fun c105 => ?_)
        refine lv_iload hx hb dX5_next_108 (lv_at hl 0 rfl) ?_
        refine lv_iconst (v := 3) hx hb dX5_next_110 (by decide) ?_
        refine lv_icmp_ge (tgt := 141) hx hb dX5_next_111 (by decide) (fun c111 => ?_) (fun c111 => ?_)
        · have hUn : nx_Un (f_hoz og ol k) s0 := fun g h1 h2 => hI.2.2 g h1 (by have := k_le (b := 3) c111 (by omega) (by omega); omega)
          refine lv_iinc (v := 2) (lv' := [(2, .int 2), (4, .int (nI q)), (3, .int 1), (1, .ref q1), (0, .ref h0)]) hx hb dX5_next_141 hl (k := 2) rfl (by decide) (by decide) rfl (fun ls hl => ?_)
          refine lv_goto (tgt := 55) hx hb dX5_next_144 (by decide) ?_
          refine lv_iload_n hx hb dX5_next_55 rfl (lv_at hl 0 rfl) ?_
          refine lv_iconst (v := 2) hx hb dX5_next_56 (by decide) ?_
          refine lv_icmp_ge (tgt := 147) hx hb dX5_next_57 (by decide) (fun _ => ?_) (fun h => absurd h (by decide))
          refine lv_iconst (v := (-1)) hx hb dX5_next_147 (by decide) ?_
          replace hw := hw.pick (ws' := [(h0, .inr (5, [.ref z1, .ref z2, .ref z3, .ref z4, .ref z5, .int (nI k), .int (nI mw), .int mg, .int ch, .int up, .int sh, .int li, .int fp, .int sp, .int hc, .long inn, .long pa, .long lo, .long ma, .long st, .int ph, .int tr, .int la])), (z2, .inl (cI, 10, .inl og)), (z4, .inl (cI, 10, .inl ol))]) [0, 1, 2] (by decide) rfl
          refine W.widen (k := 1) (n := 3) (by omega) (by omega) ?_
          exact k_iret () hx hb hr hlocks hw (Or.inr ⟨hup1, Or.inr ⟨hDn, Or.inr ⟨hUn, rfl⟩⟩⟩) dX5_next_148
        · have hq3 : q < 3 := k_lt (b := 3) c111 (by omega) (by omega)
          refine lv_aload_n hx hb dX5_next_114 rfl (lv_at hl 3 rfl) ?_
          refine lv_iload hx hb dX5_next_115 (lv_at hl 0 rfl) ?_
          refine k_zald hx hb hw 3 2 rfl rfl q rfl (by omega) (Nat.le_of_ble_eq_true rfl) dX5_next_117 ?_
          refine lv_if_eq (tgt := 124) hx hb dX5_next_118 (by decide) (fun c118 => ?_) (fun c118 => ?_)
          · have hno : f_hoz og ol k q = false := by rw [← Bool.not_eq_true]; exact fun z => absurd (c118.symm.trans ((hfz q (by omega)).trans (if_pos z))) (by decide)
            refine lv_iload hx hb dX5_next_124 (lv_at hl 0 rfl) ?_
            refine lv_iload_n hx hb dX5_next_126 rfl (lv_at hl 1 rfl) ?_
            refine lv_if_eq (tgt := 134) hx hb dX5_next_127 (by decide) (fun h => absurd h (by decide)) (fun _ => ?_)
            refine lv_iconst (v := 1) hx hb dX5_next_130 (by decide) ?_
            refine lv_goto (tgt := 135) hx hb dX5_next_131 (by decide) ?_
            refine lv_iadd hx hb dX5_next_135 ?_
            refine k_eqi (nI_1 q) ?_
            refine lv_istore (lv' := [(4, .int (nI (q + 1))), (3, .int 1), (2, .int 1), (1, .ref q1), (0, .ref h0)]) hx hb dX5_next_136 hl (by decide) rfl (fun ls hl => ?_)
            refine lv_goto (tgt := 103) hx hb dX5_next_138 (by decide) ?_
            exact ih103 (q + 1) _ _ _ (show s0 ≤ (q + 1) ∧ (q + 1) ≤ 3 ∧ ∀ g, s0 ≤ g → g < (q + 1) → f_hoz og ol k g = false from ⟨by omega, by omega, fun g h1 h2 => (by rcases Nat.lt_or_ge g q with z | z; exact hI.2.2 g h1 z; (obtain rfl : g = q := by omega); exact hno)⟩) (show 3 - (q + 1) < 3 - q from by omega) hw (lv_sub hl [0, 1, 2, 3, 4] rfl)
          · have hyes : f_hoz og ol k q = true := Classical.byContradiction (fun z => c118 ((hfz q (by omega)).trans (if_neg z)))
            refine lv_iload hx hb dX5_next_121 (lv_at hl 0 rfl) ?_
            replace hw := hw.pick (ws' := [(h0, .inr (5, [.ref z1, .ref z2, .ref z3, .ref z4, .ref z5, .int (nI k), .int (nI mw), .int mg, .int ch, .int up, .int sh, .int li, .int fp, .int sp, .int hc, .long inn, .long pa, .long lo, .long ma, .long st, .int ph, .int tr, .int la])), (z2, .inl (cI, 10, .inl og)), (z4, .inl (cI, 10, .inl ol))]) [0, 1, 2] (by decide) rfl
            refine W.widen (k := 1) (n := 3) (by omega) (by omega) ?_
            exact k_iret () hx hb hr hlocks hw (Or.inr ⟨hup1, Or.inr ⟨hDn, Or.inl ⟨q, hI.1, by omega, hyes, hI.2.2, rfl⟩⟩⟩) dX5_next_123
      · obtain ⟨t, rfl⟩ : ∃ t, q = t + 2 := ⟨q - 2, by rcases Nat.lt_or_ge q 2 with z | z; (exfalso; rcases (show q = 0 ∨ q = 1 by omega) with e | e <;> (subst e; exact c105 (by rw [hI.2.1]; decide))); omega⟩
        obtain rfl : x = nI t := by rw [hI.2.1]; exact nx_m2 t
        have ht3 : t + 2 ≤ 3 := Nat.le_trans hI.1 hs0
        refine lv_iload hx hb dX5_next_108 (lv_at hl 0 rfl) ?_
        refine lv_iconst (v := 3) hx hb dX5_next_110 (by decide) ?_
        refine lv_icmp_ge (tgt := 141) hx hb dX5_next_111 (by decide) (fun c111 => False.elim (absurd ((nI_leI (a := 3) (by omega) (by omega)).mp c111) (by omega))) (fun c111 => ?_)
        refine lv_aload_n hx hb dX5_next_114 rfl (lv_at hl 3 rfl) ?_
        refine lv_iload hx hb dX5_next_115 (lv_at hl 0 rfl) ?_
        refine k_zald hx hb hw 3 2 rfl rfl t rfl (by omega) (Nat.le_of_ble_eq_true rfl) dX5_next_117 ?_
        refine lv_if_eq (tgt := 124) hx hb dX5_next_118 (by decide) (fun c118 => ?_) (fun c118 => ?_)
        · have hno : f_hoz og ol k t = false := by rw [← Bool.not_eq_true]; exact fun z => absurd (c118.symm.trans ((hfz t (by omega)).trans (if_pos z))) (by decide)
          refine lv_iload hx hb dX5_next_124 (lv_at hl 0 rfl) ?_
          refine lv_iload_n hx hb dX5_next_126 rfl (lv_at hl 1 rfl) ?_
          refine lv_if_eq (tgt := 134) hx hb dX5_next_127 (by decide) (fun _ => ?_) (fun h => absurd h (by decide))
          refine lv_iconst (v := (-1)) hx hb dX5_next_134 (by decide) ?_
          refine lv_iadd hx hb dX5_next_135 ?_
          refine lv_istore (lv' := [(4, .int ((nI t) + (-1))), (3, .int 0), (2, .int 0), (1, .ref q1), (0, .ref h0)]) hx hb dX5_next_136 hl (by decide) rfl (fun ls hl => ?_)
          refine lv_goto (tgt := 103) hx hb dX5_next_138 (by decide) ?_
          exact ih103 ((t + 1), (nI t) + (-1)) _ _ _ (show (t + 1) ≤ s0 ∧ ((nI t) + (-1)) = nI (t + 1) - 1 - 1 ∧ ∀ g, (t + 1) ≤ g + 1 → g + 1 < s0 → f_hoz og ol k g = false from ⟨by omega, nx_m3 t, fun g h1 h2 => (by rcases Nat.lt_or_ge t g with z | z; exact hI.2.2 g (by omega) h2; (obtain rfl : g = t := by omega); exact hno)⟩) (show (t + 1) < (t + 2) from by omega) hw (lv_sub hl [0, 1, 2, 3, 4] rfl)
        · have hyes : f_hoz og ol k t = true := Classical.byContradiction (fun z => c118 ((hfz t (by omega)).trans (if_neg z)))
          refine lv_iload hx hb dX5_next_121 (lv_at hl 0 rfl) ?_
          replace hw := hw.pick (ws' := [(h0, .inr (5, [.ref z1, .ref z2, .ref z3, .ref z4, .ref z5, .int (nI k), .int (nI mw), .int mg, .int ch, .int up, .int sh, .int li, .int fp, .int sp, .int hc, .long inn, .long pa, .long lo, .long ma, .long st, .int ph, .int tr, .int la])), (z2, .inl (cI, 10, .inl og)), (z4, .inl (cI, 10, .inl ol))]) [0, 1, 2] (by decide) rfl
          refine W.widen (k := 1) (n := 3) (by omega) (by omega) ?_
          exact k_iret () hx hb hr hlocks hw (Or.inr ⟨hup.resolve_right c73, Or.inl ⟨t, by omega, hyes, fun g h1 h2 => hI.2.2 g (by omega) h2, rfl⟩⟩) dX5_next_123
    · refine lv_iconst (v := 1) hx hb dX5_next_76 (by decide) ?_
      refine lv_goto (tgt := 81) hx hb dX5_next_77 (by decide) ?_
      refine lv_istore_n (lv' := [(3, .int 1), (2, .int 0), (1, .ref q1), (0, .ref h0)]) hx hb dX5_next_81 rfl hl (by decide) rfl (fun ls hl => ?_)
      refine lv_iload_n hx hb dX5_next_82 rfl (lv_at hl 0 rfl) ?_
      refine lv_if_eq (tgt := 95) hx hb dX5_next_83 (by decide) (fun h => absurd h (by decide)) (fun _ => ?_)
      refine lv_aload_n hx hb dX5_next_86 rfl (lv_at hl 3 rfl) ?_
      refine k_get hx hb hts i_X5 hown hw 0 7 rfl rfl (by decide) k_f29 rfl dX5_next_87 ?_
      refine lv_iconst (v := 1) hx hb dX5_next_90 (by decide) ?_
      refine lv_iadd hx hb dX5_next_91 ?_
      refine k_eqi (y := nI s0) (by rw [hmg]; exact nx_p1 s0) ?_
      refine lv_goto (tgt := 101) hx hb dX5_next_92 (by decide) ?_
      refine lv_istore (lv' := [(4, .int (nI s0)), (3, .int 1), (2, .int 0), (1, .ref q1), (0, .ref h0)]) hx hb dX5_next_101 hl (by decide) rfl (fun ls hl => ?_)
      replace hl : lv_has _ 5 [(4, .int (nI s0)), (3, .int 1), (2, .int 0), (1, .ref q1), (0, .ref h0)] := lv_sub hl [0, 1, 2, 3, 4] rfl
      replace hw : kW D (kty cI cC cJ cG) s (va_A [(h0, .inr (5, [.ref z1, .ref z2, .ref z3, .ref z4, .ref z5, .int (nI k), .int (nI mw), .int mg, .int ch, .int up, .int sh, .int li, .int fp, .int sp, .int hc, .long inn, .long pa, .long lo, .long ma, .long st, .int ph, .int tr, .int la])), (z2, .inl (cI, 10, .inl og)), (z4, .inl (cI, 10, .inl ol))] s.heap.size) [(h0, .inr (5, [.ref z1, .ref z2, .ref z3, .ref z4, .ref z5, .int (nI k), .int (nI mw), .int mg, .int ch, .int up, .int sh, .int li, .int fp, .int sp, .int hc, .long inn, .long pa, .long lo, .long ma, .long st, .int ph, .int tr, .int la])), (z2, .inl (cI, 10, .inl og)), (z4, .inl (cI, 10, .inl ol)), (q1, .inl (cJ, 3, .inl fz))] H locs := hw
      revert hl; revert hw; revert ls; revert locs; revert H
      refine k_loop (fun (q : (Nat)) => s0 ≤ q ∧ q ≤ 3 ∧ ∀ g, s0 ≤ g → g < q → f_hoz og ol k g = false) (fun (q : (Nat)) => 3 - q) (fun (q : (Nat)) => [(h0, .inr (5, [.ref z1, .ref z2, .ref z3, .ref z4, .ref z5, .int (nI k), .int (nI mw), .int mg, .int ch, .int up, .int sh, .int li, .int fp, .int sp, .int hc, .long inn, .long pa, .long lo, .long ma, .long st, .int ph, .int tr, .int la])), (z2, .inl (cI, 10, .inl og)), (z4, .inl (cI, 10, .inl ol)), (q1, .inl (cJ, 3, .inl fz))]) (fun (q : (Nat)) => [(4, .int (nI q)), (3, .int 1), (2, .int 0), (1, .ref q1), (0, .ref h0)]) s0 (show s0 ≤ s0 ∧ s0 ≤ 3 ∧ ∀ g, s0 ≤ g → g < s0 → f_hoz og ol k g = false from ⟨Nat.le_refl _, hs0, fun g h1 h2 => absurd h2 (Nat.not_lt.mpr h1)⟩) ?_
      intro q hI ih103 H locs ls hw hl
      replace hI : s0 ≤ q ∧ q ≤ 3 ∧ ∀ g, s0 ≤ g → g < q → f_hoz og ol k g = false := hI
      replace hw : kW D (kty cI cC cJ cG) s (va_A [(h0, .inr (5, [.ref z1, .ref z2, .ref z3, .ref z4, .ref z5, .int (nI k), .int (nI mw), .int mg, .int ch, .int up, .int sh, .int li, .int fp, .int sp, .int hc, .long inn, .long pa, .long lo, .long ma, .long st, .int ph, .int tr, .int la])), (z2, .inl (cI, 10, .inl og)), (z4, .inl (cI, 10, .inl ol))] s.heap.size) [(h0, .inr (5, [.ref z1, .ref z2, .ref z3, .ref z4, .ref z5, .int (nI k), .int (nI mw), .int mg, .int ch, .int up, .int sh, .int li, .int fp, .int sp, .int hc, .long inn, .long pa, .long lo, .long ma, .long st, .int ph, .int tr, .int la])), (z2, .inl (cI, 10, .inl og)), (z4, .inl (cI, 10, .inl ol)), (q1, .inl (cJ, 3, .inl fz))] H locs := hw
      replace hl : lv_has ls 5 [(4, .int (nI q)), (3, .int 1), (2, .int 0), (1, .ref q1), (0, .ref h0)] := hl
      refine lv_iload hx hb dX5_next_103 (lv_at hl 0 rfl) ?_
      refine lv_if_lt (tgt := 141) hx hb dX5_next_105 (by decide) (fun c105 => False.elim (absurd c105 (Int32.not_lt.mpr (nI_pos' (by omega))))) (fun c105 => ?_)
      refine lv_iload hx hb dX5_next_108 (lv_at hl 0 rfl) ?_
      refine lv_iconst (v := 3) hx hb dX5_next_110 (by decide) ?_
      refine lv_icmp_ge (tgt := 141) hx hb dX5_next_111 (by decide) (fun c111 => ?_) (fun c111 => ?_)
      · have hUn : nx_Un (f_hoz og ol k) s0 := fun g h1 h2 => hI.2.2 g h1 (by have := k_le (b := 3) c111 (by omega) (by omega); omega)
        have hup1 : up = 1 := c73
        refine lv_iinc (v := 1) (lv' := [(2, .int 1), (4, .int (nI q)), (3, .int 1), (1, .ref q1), (0, .ref h0)]) hx hb dX5_next_141 hl (k := 2) rfl (by decide) (by decide) rfl (fun ls hl => ?_)
        refine lv_goto (tgt := 55) hx hb dX5_next_144 (by decide) ?_
        refine lv_iload_n hx hb dX5_next_55 rfl (lv_at hl 0 rfl) ?_
        refine lv_iconst (v := 2) hx hb dX5_next_56 (by decide) ?_
        refine lv_icmp_ge (tgt := 147) hx hb dX5_next_57 (by decide) (fun h => absurd h (by decide)) (fun _ => ?_)
        refine lv_aload_n hx hb dX5_next_60 rfl (lv_at hl 4 rfl) ?_
        refine k_get hx hb hts i_X5 hown hw 0 9 rfl rfl (by decide) k_f32 rfl dX5_next_61 ?_
        refine lv_iload_n hx hb dX5_next_64 rfl (lv_at hl 0 rfl) ?_
        refine lv_if_ne (tgt := 72) hx hb dX5_next_65 (by decide) (fun _ => ?_) (fun h => absurd h (by decide))
        refine lv_iconst (v := 0) hx hb dX5_next_72 (by decide) ?_
        refine lv_icmp_ne (tgt := 80) hx hb dX5_next_73 (by decide) (fun c73 => ?_) (fun c73 => False.elim (absurd (hup1.symm.trans c73) (by decide)))
        refine lv_iconst (v := 0) hx hb dX5_next_80 (by decide) ?_
        refine lv_istore_n (lv' := [(3, .int 0), (2, .int 1), (4, .int (nI q)), (1, .ref q1), (0, .ref h0)]) hx hb dX5_next_81 rfl hl (by decide) rfl (fun ls hl => ?_)
        refine lv_iload_n hx hb dX5_next_82 rfl (lv_at hl 0 rfl) ?_
        refine lv_if_eq (tgt := 95) hx hb dX5_next_83 (by decide) (fun _ => ?_) (fun h => absurd h (by decide))
        refine lv_aload_n hx hb dX5_next_95 rfl (lv_at hl 4 rfl) ?_
        refine k_get hx hb hts i_X5 hown hw 0 7 rfl rfl (by decide) k_f29 rfl dX5_next_96 ?_
        refine lv_iconst (v := 1) hx hb dX5_next_99 (by decide) ?_
        refine lv_isub hx hb dX5_next_100 ?_
        refine lv_istore (lv' := [(4, .int (mg - 1)), (3, .int 0), (2, .int 1), (1, .ref q1), (0, .ref h0)]) hx hb dX5_next_101 hl (by decide) rfl (fun ls hl => ?_)
        replace hl : lv_has _ 5 [(4, .int (mg - 1)), (3, .int 0), (2, .int 1), (1, .ref q1), (0, .ref h0)] := lv_sub hl [0, 1, 2, 3, 4] rfl
        replace hw : kW D (kty cI cC cJ cG) s (va_A [(h0, .inr (5, [.ref z1, .ref z2, .ref z3, .ref z4, .ref z5, .int (nI k), .int (nI mw), .int mg, .int ch, .int up, .int sh, .int li, .int fp, .int sp, .int hc, .long inn, .long pa, .long lo, .long ma, .long st, .int ph, .int tr, .int la])), (z2, .inl (cI, 10, .inl og)), (z4, .inl (cI, 10, .inl ol))] s.heap.size) [(h0, .inr (5, [.ref z1, .ref z2, .ref z3, .ref z4, .ref z5, .int (nI k), .int (nI mw), .int mg, .int ch, .int up, .int sh, .int li, .int fp, .int sp, .int hc, .long inn, .long pa, .long lo, .long ma, .long st, .int ph, .int tr, .int la])), (z2, .inl (cI, 10, .inl og)), (z4, .inl (cI, 10, .inl ol)), (q1, .inl (cJ, 3, .inl fz))] H locs := hw
        revert hl; revert hw; revert ls; revert locs; revert H
        refine k_loop (fun ((q, x) : (Nat) × (Int32)) => q ≤ s0 ∧ x = nI q - 1 - 1 ∧ ∀ g, q ≤ g + 1 → g + 1 < s0 → f_hoz og ol k g = false) (fun ((q, x) : (Nat) × (Int32)) => q) (fun ((q, x) : (Nat) × (Int32)) => [(h0, .inr (5, [.ref z1, .ref z2, .ref z3, .ref z4, .ref z5, .int (nI k), .int (nI mw), .int mg, .int ch, .int up, .int sh, .int li, .int fp, .int sp, .int hc, .long inn, .long pa, .long lo, .long ma, .long st, .int ph, .int tr, .int la])), (z2, .inl (cI, 10, .inl og)), (z4, .inl (cI, 10, .inl ol)), (q1, .inl (cJ, 3, .inl fz))]) (fun ((q, x) : (Nat) × (Int32)) => [(4, .int x), (3, .int 0), (2, .int 1), (1, .ref q1), (0, .ref h0)]) (s0, mg - 1) (show s0 ≤ s0 ∧ (mg - 1) = nI s0 - 1 - 1 ∧ ∀ g, s0 ≤ g + 1 → g + 1 < s0 → f_hoz og ol k g = false from ⟨Nat.le_refl _, by rw [hmg], fun g h1 h2 => absurd h2 (Nat.not_lt.mpr h1)⟩) ?_
        intro ⟨q, x⟩ hI ih103 H locs ls hw hl
        replace hI : q ≤ s0 ∧ x = nI q - 1 - 1 ∧ ∀ g, q ≤ g + 1 → g + 1 < s0 → f_hoz og ol k g = false := hI
        replace hw : kW D (kty cI cC cJ cG) s (va_A [(h0, .inr (5, [.ref z1, .ref z2, .ref z3, .ref z4, .ref z5, .int (nI k), .int (nI mw), .int mg, .int ch, .int up, .int sh, .int li, .int fp, .int sp, .int hc, .long inn, .long pa, .long lo, .long ma, .long st, .int ph, .int tr, .int la])), (z2, .inl (cI, 10, .inl og)), (z4, .inl (cI, 10, .inl ol))] s.heap.size) [(h0, .inr (5, [.ref z1, .ref z2, .ref z3, .ref z4, .ref z5, .int (nI k), .int (nI mw), .int mg, .int ch, .int up, .int sh, .int li, .int fp, .int sp, .int hc, .long inn, .long pa, .long lo, .long ma, .long st, .int ph, .int tr, .int la])), (z2, .inl (cI, 10, .inl og)), (z4, .inl (cI, 10, .inl ol)), (q1, .inl (cJ, 3, .inl fz))] H locs := hw
        replace hl : lv_has ls 5 [(4, .int x), (3, .int 0), (2, .int 1), (1, .ref q1), (0, .ref h0)] := hl
        refine lv_iload hx hb dX5_next_103 (lv_at hl 0 rfl) ?_
        refine lv_if_lt (tgt := 141) hx hb dX5_next_105 (by decide) (fun c105 => ?_) (fun c105 => ?_)
        · have hDn : nx_Dn (f_hoz og ol k) s0 := fun g h2 => hI.2.2 g (by rcases Nat.lt_or_ge q 2 with z | z; omega; (obtain ⟨t, rfl⟩ : ∃ t, q = t + 2 := ⟨q - 2, by omega⟩); (rw [hI.2.1, nx_m2] at c105); exact absurd c105 (Int32.not_lt.mpr (nI_pos' (by have := hI.1; omega)))) h2
          refine lv_iinc (v := 2) (lv' := [(2, .int 2), (4, .int x), (3, .int 0), (1, .ref q1), (0, .ref h0)]) hx hb dX5_next_141 hl (k := 2) rfl (by decide) (by decide) rfl (fun ls hl => ?_)
          refine lv_goto (tgt := 55) hx hb dX5_next_144 (by decide) ?_
          refine lv_iload_n hx hb dX5_next_55 rfl (lv_at hl 0 rfl) ?_
          refine lv_iconst (v := 2) hx hb dX5_next_56 (by decide) ?_
          refine lv_icmp_ge (tgt := 147) hx hb dX5_next_57 (by decide) (fun _ => ?_) (fun h => absurd h (by decide))
          refine lv_iconst (v := (-1)) hx hb dX5_next_147 (by decide) ?_
          replace hw := hw.pick (ws' := [(h0, .inr (5, [.ref z1, .ref z2, .ref z3, .ref z4, .ref z5, .int (nI k), .int (nI mw), .int mg, .int ch, .int up, .int sh, .int li, .int fp, .int sp, .int hc, .long inn, .long pa, .long lo, .long ma, .long st, .int ph, .int tr, .int la])), (z2, .inl (cI, 10, .inl og)), (z4, .inl (cI, 10, .inl ol))]) [0, 1, 2] (by decide) rfl
          refine W.widen (k := 1) (n := 3) (by omega) (by omega) ?_
          exact k_iret () hx hb hr hlocks hw (Or.inl ⟨hup1, Or.inr ⟨hUn, Or.inr ⟨hDn, rfl⟩⟩⟩) dX5_next_148
        · obtain ⟨t, rfl⟩ : ∃ t, q = t + 2 := ⟨q - 2, by rcases Nat.lt_or_ge q 2 with z | z; (exfalso; rcases (show q = 0 ∨ q = 1 by omega) with e | e <;> (subst e; exact c105 (by rw [hI.2.1]; decide))); omega⟩
          obtain rfl : x = nI t := by rw [hI.2.1]; exact nx_m2 t
          have ht3 : t + 2 ≤ 3 := Nat.le_trans hI.1 hs0
          refine lv_iload hx hb dX5_next_108 (lv_at hl 0 rfl) ?_
          refine lv_iconst (v := 3) hx hb dX5_next_110 (by decide) ?_
          refine lv_icmp_ge (tgt := 141) hx hb dX5_next_111 (by decide) (fun c111 => False.elim (absurd ((nI_leI (a := 3) (by omega) (by omega)).mp c111) (by omega))) (fun c111 => ?_)
          refine lv_aload_n hx hb dX5_next_114 rfl (lv_at hl 3 rfl) ?_
          refine lv_iload hx hb dX5_next_115 (lv_at hl 0 rfl) ?_
          refine k_zald hx hb hw 3 2 rfl rfl t rfl (by omega) (Nat.le_of_ble_eq_true rfl) dX5_next_117 ?_
          refine lv_if_eq (tgt := 124) hx hb dX5_next_118 (by decide) (fun c118 => ?_) (fun c118 => ?_)
          · have hno : f_hoz og ol k t = false := by rw [← Bool.not_eq_true]; exact fun z => absurd (c118.symm.trans ((hfz t (by omega)).trans (if_pos z))) (by decide)
            refine lv_iload hx hb dX5_next_124 (lv_at hl 0 rfl) ?_
            refine lv_iload_n hx hb dX5_next_126 rfl (lv_at hl 1 rfl) ?_
            refine lv_if_eq (tgt := 134) hx hb dX5_next_127 (by decide) (fun _ => ?_) (fun h => absurd h (by decide))
            refine lv_iconst (v := (-1)) hx hb dX5_next_134 (by decide) ?_
            refine lv_iadd hx hb dX5_next_135 ?_
            refine lv_istore (lv' := [(4, .int ((nI t) + (-1))), (3, .int 0), (2, .int 1), (1, .ref q1), (0, .ref h0)]) hx hb dX5_next_136 hl (by decide) rfl (fun ls hl => ?_)
            refine lv_goto (tgt := 103) hx hb dX5_next_138 (by decide) ?_
            exact ih103 ((t + 1), (nI t) + (-1)) _ _ _ (show (t + 1) ≤ s0 ∧ ((nI t) + (-1)) = nI (t + 1) - 1 - 1 ∧ ∀ g, (t + 1) ≤ g + 1 → g + 1 < s0 → f_hoz og ol k g = false from ⟨by omega, nx_m3 t, fun g h1 h2 => (by rcases Nat.lt_or_ge t g with z | z; exact hI.2.2 g (by omega) h2; (obtain rfl : g = t := by omega); exact hno)⟩) (show (t + 1) < (t + 2) from by omega) hw (lv_sub hl [0, 1, 2, 3, 4] rfl)
          · have hyes : f_hoz og ol k t = true := Classical.byContradiction (fun z => c118 ((hfz t (by omega)).trans (if_neg z)))
            refine lv_iload hx hb dX5_next_121 (lv_at hl 0 rfl) ?_
            replace hw := hw.pick (ws' := [(h0, .inr (5, [.ref z1, .ref z2, .ref z3, .ref z4, .ref z5, .int (nI k), .int (nI mw), .int mg, .int ch, .int up, .int sh, .int li, .int fp, .int sp, .int hc, .long inn, .long pa, .long lo, .long ma, .long st, .int ph, .int tr, .int la])), (z2, .inl (cI, 10, .inl og)), (z4, .inl (cI, 10, .inl ol))]) [0, 1, 2] (by decide) rfl
            refine W.widen (k := 1) (n := 3) (by omega) (by omega) ?_
            exact k_iret () hx hb hr hlocks hw (Or.inl ⟨hup1, Or.inr ⟨hUn, Or.inl ⟨t, by omega, hyes, fun g h1 h2 => hI.2.2 g (by omega) h2, rfl⟩⟩⟩) dX5_next_123
      · have hq3 : q < 3 := k_lt (b := 3) c111 (by omega) (by omega)
        refine lv_aload_n hx hb dX5_next_114 rfl (lv_at hl 3 rfl) ?_
        refine lv_iload hx hb dX5_next_115 (lv_at hl 0 rfl) ?_
        refine k_zald hx hb hw 3 2 rfl rfl q rfl (by omega) (Nat.le_of_ble_eq_true rfl) dX5_next_117 ?_
        refine lv_if_eq (tgt := 124) hx hb dX5_next_118 (by decide) (fun c118 => ?_) (fun c118 => ?_)
        · have hno : f_hoz og ol k q = false := by rw [← Bool.not_eq_true]; exact fun z => absurd (c118.symm.trans ((hfz q (by omega)).trans (if_pos z))) (by decide)
          refine lv_iload hx hb dX5_next_124 (lv_at hl 0 rfl) ?_
          refine lv_iload_n hx hb dX5_next_126 rfl (lv_at hl 1 rfl) ?_
          refine lv_if_eq (tgt := 134) hx hb dX5_next_127 (by decide) (fun h => absurd h (by decide)) (fun _ => ?_)
          refine lv_iconst (v := 1) hx hb dX5_next_130 (by decide) ?_
          refine lv_goto (tgt := 135) hx hb dX5_next_131 (by decide) ?_
          refine lv_iadd hx hb dX5_next_135 ?_
          refine k_eqi (nI_1 q) ?_
          refine lv_istore (lv' := [(4, .int (nI (q + 1))), (3, .int 1), (2, .int 0), (1, .ref q1), (0, .ref h0)]) hx hb dX5_next_136 hl (by decide) rfl (fun ls hl => ?_)
          refine lv_goto (tgt := 103) hx hb dX5_next_138 (by decide) ?_
          exact ih103 (q + 1) _ _ _ (show s0 ≤ (q + 1) ∧ (q + 1) ≤ 3 ∧ ∀ g, s0 ≤ g → g < (q + 1) → f_hoz og ol k g = false from ⟨by omega, by omega, fun g h1 h2 => (by rcases Nat.lt_or_ge g q with z | z; exact hI.2.2 g h1 z; (obtain rfl : g = q := by omega); exact hno)⟩) (show 3 - (q + 1) < 3 - q from by omega) hw (lv_sub hl [0, 1, 2, 3, 4] rfl)
        · have hyes : f_hoz og ol k q = true := Classical.byContradiction (fun z => c118 ((hfz q (by omega)).trans (if_neg z)))
          refine lv_iload hx hb dX5_next_121 (lv_at hl 0 rfl) ?_
          replace hw := hw.pick (ws' := [(h0, .inr (5, [.ref z1, .ref z2, .ref z3, .ref z4, .ref z5, .int (nI k), .int (nI mw), .int mg, .int ch, .int up, .int sh, .int li, .int fp, .int sp, .int hc, .long inn, .long pa, .long lo, .long ma, .long st, .int ph, .int tr, .int la])), (z2, .inl (cI, 10, .inl og)), (z4, .inl (cI, 10, .inl ol))]) [0, 1, 2] (by decide) rfl
          refine W.widen (k := 1) (n := 3) (by omega) (by omega) ?_
          exact k_iret () hx hb hr hlocks hw (Or.inl ⟨c73, Or.inl ⟨q, hI.1, by omega, hyes, hI.2.2, rfl⟩⟩) dX5_next_123
  · have hi : i < k := k_lt c11 (by omega) (by omega)
    obtain ⟨g, hg, eg⟩ := hog i hi
    refine lv_aload_n hx hb dX5_next_14 rfl (lv_at hl 1 rfl) ?_
    refine lv_aload_n hx hb dX5_next_15 rfl (lv_at hl 2 rfl) ?_
    refine k_get hx hb hts i_X5 hown hw 0 1 rfl rfl (by decide) k_f13 rfl dX5_next_16 ?_
    refine lv_iload_n hx hb dX5_next_19 rfl (lv_at hl 0 rfl) ?_
    refine k_iald hx hb hw 1 0 rfl rfl i rfl (by omega) (Nat.le_of_ble_eq_true rfl) dX5_next_20 ?_
    refine k_eqi (y := nI g) eg ?_
    refine lv_aload_n hx hb dX5_next_21 rfl (lv_at hl 1 rfl) ?_
    refine lv_aload_n hx hb dX5_next_22 rfl (lv_at hl 2 rfl) ?_
    refine k_get hx hb hts i_X5 hown hw 0 1 rfl rfl (by decide) k_f13 rfl dX5_next_23 ?_
    refine lv_iload_n hx hb dX5_next_26 rfl (lv_at hl 0 rfl) ?_
    refine k_iald hx hb hw 1 0 rfl rfl i rfl (by omega) (Nat.le_of_ble_eq_true rfl) dX5_next_27 ?_
    refine k_eqi (y := nI g) eg ?_
    refine k_zald hx hb hw 3 2 rfl rfl g rfl (by omega) (Nat.le_of_ble_eq_true rfl) dX5_next_28 ?_
    refine lv_if_ne (tgt := 41) hx hb dX5_next_29 (by decide) (fun c29 => ?_) (fun c29 => ?_)
    · refine lv_iconst (v := 1) hx hb dX5_next_41 (by decide) ?_
      refine lv_goto (tgt := 46) hx hb dX5_next_42 (by decide) ?_
      refine k_zast (ws' := [(h0, .inr (5, [.ref z1, .ref z2, .ref z3, .ref z4, .ref z5, .int (nI k), .int (nI mw), .int mg, .int ch, .int up, .int sh, .int li, .int fp, .int sp, .int hc, .long inn, .long pa, .long lo, .long ma, .long st, .int ph, .int tr, .int la])), (z2, .inl (cI, 10, .inl og)), (z4, .inl (cI, 10, .inl ol)), (q1, .inl (cJ, 3, .inl (upd fz g 1)))]) hx hb hw 3 2 rfl rfl g rfl (by omega) (Nat.le_of_ble_eq_true rfl) rfl rfl dX5_next_46 (fun H locs hw => ?_)
      refine lv_iinc (v := nI (i + 1)) (lv' := [(2, .int (nI (i + 1))), (1, .ref q1), (0, .ref h0)]) hx hb dX5_next_47 hl (k := 0) rfl (nI_1 i) (by decide) rfl (fun ls hl => ?_)
      refine lv_goto (tgt := 6) hx hb dX5_next_50 (by decide) ?_
      exact ih6 ((i + 1), upd fz g 1) _ _ _ (show (i + 1) ≤ k ∧ ∀ gg, gg < 3 → (upd fz g 1) gg = (if f_ho og ol (nI gg) (i + 1) = true then 1 else 0) from ⟨by omega, fun x hx => (by by_cases zz : x = g; (rw [zz, pk_us, if_pos (by rw [f_ho, Bool.or_eq_true]; exact Or.inl (Classical.byContradiction (fun q => c29 ((hI.2 g hg).trans (if_neg q)))))]); (rw [pk_un zz, hI.2 x hx]; congr 1; rw [f_ho, eg, decide_eq_false (fun q => zz ((nI_eq (by omega) (by omega)).mp q).symm), Bool.false_and, Bool.or_false]))⟩) (show k - (i + 1) < k - i from by omega) hw (lv_sub hl [0, 1, 2] rfl)
    · refine lv_aload_n hx hb dX5_next_32 rfl (lv_at hl 2 rfl) ?_
      refine k_get hx hb hts i_X5 hown hw 0 3 rfl rfl (by decide) k_f19 rfl dX5_next_33 ?_
      refine lv_iload_n hx hb dX5_next_36 rfl (lv_at hl 0 rfl) ?_
      refine k_iald hx hb hw 2 0 rfl rfl i rfl (by omega) (Nat.le_of_ble_eq_true rfl) dX5_next_37 ?_
      refine lv_if_le (tgt := 45) hx hb dX5_next_38 (by decide) (fun c38 => ?_) (fun c38 => ?_)
      · refine lv_iconst (v := 0) hx hb dX5_next_45 (by decide) ?_
        refine k_zast (ws' := [(h0, .inr (5, [.ref z1, .ref z2, .ref z3, .ref z4, .ref z5, .int (nI k), .int (nI mw), .int mg, .int ch, .int up, .int sh, .int li, .int fp, .int sp, .int hc, .long inn, .long pa, .long lo, .long ma, .long st, .int ph, .int tr, .int la])), (z2, .inl (cI, 10, .inl og)), (z4, .inl (cI, 10, .inl ol)), (q1, .inl (cJ, 3, .inl (upd fz g 0)))]) hx hb hw 3 2 rfl rfl g rfl (by omega) (Nat.le_of_ble_eq_true rfl) rfl rfl dX5_next_46 (fun H locs hw => ?_)
        refine lv_iinc (v := nI (i + 1)) (lv' := [(2, .int (nI (i + 1))), (1, .ref q1), (0, .ref h0)]) hx hb dX5_next_47 hl (k := 0) rfl (nI_1 i) (by decide) rfl (fun ls hl => ?_)
        refine lv_goto (tgt := 6) hx hb dX5_next_50 (by decide) ?_
        exact ih6 ((i + 1), upd fz g 0) _ _ _ (show (i + 1) ≤ k ∧ ∀ gg, gg < 3 → (upd fz g 0) gg = (if f_ho og ol (nI gg) (i + 1) = true then 1 else 0) from ⟨by omega, fun x hx => (by by_cases zz : x = g; (rw [zz, pk_us, if_neg (by rw [f_ho, decide_eq_false (Int32.not_lt.mpr c38), Bool.and_false, Bool.or_false]; exact fun q => absurd (c29.symm.trans ((hI.2 g hg).trans (if_pos q))) (by decide))]); (rw [pk_un zz, hI.2 x hx]; congr 1; rw [f_ho, eg, decide_eq_false (fun q => zz ((nI_eq (by omega) (by omega)).mp q).symm), Bool.false_and, Bool.or_false]))⟩) (show k - (i + 1) < k - i from by omega) hw (lv_sub hl [0, 1, 2] rfl)
      · refine lv_iconst (v := 1) hx hb dX5_next_41 (by decide) ?_
        refine lv_goto (tgt := 46) hx hb dX5_next_42 (by decide) ?_
        refine k_zast (ws' := [(h0, .inr (5, [.ref z1, .ref z2, .ref z3, .ref z4, .ref z5, .int (nI k), .int (nI mw), .int mg, .int ch, .int up, .int sh, .int li, .int fp, .int sp, .int hc, .long inn, .long pa, .long lo, .long ma, .long st, .int ph, .int tr, .int la])), (z2, .inl (cI, 10, .inl og)), (z4, .inl (cI, 10, .inl ol)), (q1, .inl (cJ, 3, .inl (upd fz g 1)))]) hx hb hw 3 2 rfl rfl g rfl (by omega) (Nat.le_of_ble_eq_true rfl) rfl rfl dX5_next_46 (fun H locs hw => ?_)
        refine lv_iinc (v := nI (i + 1)) (lv' := [(2, .int (nI (i + 1))), (1, .ref q1), (0, .ref h0)]) hx hb dX5_next_47 hl (k := 0) rfl (nI_1 i) (by decide) rfl (fun ls hl => ?_)
        refine lv_goto (tgt := 6) hx hb dX5_next_50 (by decide) ?_
        exact ih6 ((i + 1), upd fz g 1) _ _ _ (show (i + 1) ≤ k ∧ ∀ gg, gg < 3 → (upd fz g 1) gg = (if f_ho og ol (nI gg) (i + 1) = true then 1 else 0) from ⟨by omega, fun x hx => (by by_cases zz : x = g; (rw [zz, pk_us, if_pos (by rw [f_ho, Bool.or_eq_true]; exact Or.inr (by rw [eg, decide_eq_true (Int32.not_le.mp c38), decide_eq_true rfl]; rfl))]); (rw [pk_un zz, hI.2 x hx]; congr 1; rw [f_ho, eg, decide_eq_false (fun q => zz ((nI_eq (by omega) (by omega)).mp q).symm), Bool.false_and, Bool.or_false]))⟩) (show k - (i + 1) < k - i from by omega) hw (lv_sub hl [0, 1, 2] rfl)
