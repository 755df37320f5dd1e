set_option maxRecDepth 100000 in
set_option maxHeartbeats 4000000 in
/-- X5_cutOf -/
theorem c_X5_cutOf (l : Launch) (D : va_G) (cI cC cJ cG : ClassId) (h0 z2 z3 z4 : Nat) (sz : Nat) (z1 z5 : Nat) (k mw : Nat) (mg ch up sh li fp sp hc : Int32) (inn pa lo ma st : Int64) (ph tr la : Int32) (og ow ol : Nat → Int32) (p0 : Int32) (w lk : Nat → Nat) (hk : k ≤ 10) (hmw : mw ≤ 800) (how : ∀ j, j < 10 → ow j = nI (w j)) (hwb : ∀ j, j < 10 → w j ≤ 400) (hol : ∀ j, j < 10 → ol j = nI (lk j)) (hlk : ∀ j, j < 10 → lk j ≤ 1000) (hpos : ∀ j, j < k → 0 < w j) : k9r l yX5_cutOf wsX5_cutOf ({ frames := 2, cells := 6, slots := 60, locals := 44 }) D (kty cI cC cJ cG) [.ref h0, .int p0] [(h0, .inr (5, [.ref z1, .ref z2, .ref z3, .ref z4, .ref z5, .int (nI k), .int (nI mw), .int mg, .int ch, .int up, .int sh, .int li, .int fp, .int sp, .int hc, .long inn, .long pa, .long lo, .long ma, .long st, .int ph, .int tr, .int la])), (z2, .inl (cI, 10, .inl og)), (z3, .inl (cI, 10, .inl ow)), (z4, .inl (cI, 10, .inl ol))] sz 6 60 (fun (fr : Nat → Int32) => ∀ j, j < 10 → fr j = nI ((ct_B (f_cap og lk k p0) w 10 0 6 mw).2 j)) (fun (fr : Nat → Int32) (ra : Nat) => [(h0, .inr (5, [.ref z1, .ref z2, .ref z3, .ref z4, .ref z5, .int (nI k), .int (nI mw), .int mg, .int ch, .int up, .int sh, .int li, .int fp, .int sp, .int hc, .long inn, .long pa, .long lo, .long ma, .long st, .int ph, .int tr, .int la])), (z2, .inl (cI, 10, .inl og)), (z3, .inl (cI, 10, .inl ow)), (z4, .inl (cI, 10, .inl ol)), (ra, .inl (cI, 10, .inl fr))]) := by
  unfold k9r
  refine k_of9 (cc := cX5_cutOf) (maxL := 9) (ret := (some (.array .int))) (lv := [(0, .ref h0), (1, .int p0)]) (by decide) rfl (Nat.le_of_ble_eq_true rfl) rfl ?_
  intro p e s m args below meth c ls H locs hE hN hsz hZ hw hl
  obtain ⟨hx, hb, hr, hml, hown, hts, hlocks⟩ := hE
  subst hsz
  have hown : s.vm.findClass RX5 = some m.cls := hown
  have k_ac_int : (Cond.arrayClass .int).before args s = true := hts _ (by decide +kernel)
  have k_f58 : (Cond.fieldLink RX5 58 "PaperMachineLaw$Mill" "orders" "I").before args s = true := hts _ (by decide +kernel)
  have k_f25 : (Cond.fieldLink RX5 25 "PaperMachineLaw$Mill" "machine" "I").before args s = true := hts _ (by decide +kernel)
  have k_ini_L : (Cond.initialized RL).before args s = true := hts _ (by decide +kernel)
  have k_st_L_best : (Cond.static yL_best).before args s = true := hts _ (by decide +kernel)
  have k_f13 : (Cond.fieldLink RX5 13 "PaperMachineLaw$Mill" "grade" "[I").before args s = true := hts _ (by decide +kernel)
  have k_f19 : (Cond.fieldLink RX5 19 "PaperMachineLaw$Mill" "lacks" "[I").before args s = true := hts _ (by decide +kernel)
  have k_f16 : (Cond.fieldLink RX5 16 "PaperMachineLaw$Mill" "width" "[I").before args s = true := hts _ (by decide +kernel)
  have i_X5 : ∀ w ∈ u_ws RX5 TX5 23, w ∈ wsX5_cutOf := fun _ h => List.mem_cons_of_mem _ (List.mem_append_right _ h)
  refine lv_bipush (v := 10) hx hb dX5_cutOf_0 (by decide) ?_
  refine k_newa (atype := .int) (a0 := (10, .inl (fun _ => 0))) hx hb k_ac_int rfl hw 0 rfl one_i (fun _ => rfl) (by decide) (nI_clamp (n := 10) (by decide)) (by decide +kernel) (Nat.le_of_ble_eq_true rfl) (Nat.le_of_ble_eq_true rfl) dX5_cutOf_2 (fun q2 H hwn => ?_)
  clear hw
  have hw := hwn
  clear hwn
  replace hw : kW D (kty cI cC cJ cG) s (va_A [(h0, .inr (5, [.ref z1, .ref z2, .ref z3, .ref z4, .ref z5, .int (nI k), .int (nI mw), .int mg, .int ch, .int up, .int sh, .int li, .int fp, .int sp, .int hc, .long inn, .long pa, .long lo, .long ma, .long st, .int ph, .int tr, .int la])), (z2, .inl (cI, 10, .inl og)), (z3, .inl (cI, 10, .inl ow)), (z4, .inl (cI, 10, .inl ol))] s.heap.size) [(h0, .inr (5, [.ref z1, .ref z2, .ref z3, .ref z4, .ref z5, .int (nI k), .int (nI mw), .int mg, .int ch, .int up, .int sh, .int li, .int fp, .int sp, .int hc, .long inn, .long pa, .long lo, .long ma, .long st, .int ph, .int tr, .int la])), (z2, .inl (cI, 10, .inl og)), (z3, .inl (cI, 10, .inl ow)), (z4, .inl (cI, 10, .inl ol)), (q2, .inl (cI, 10, .inl (fun _ => 0)))] H locs := hw
  refine lv_astore_n (lv' := [(2, .ref q2), (0, .ref h0), (1, .int p0)]) hx hb dX5_cutOf_4 rfl hl (by decide) rfl (fun ls hl => ?_)
  refine lv_bipush (v := 10) hx hb dX5_cutOf_5 (by decide) ?_
  refine k_newa (atype := .int) (a0 := (10, .inl (fun _ => 0))) hx hb k_ac_int rfl hw 0 rfl one_i (fun _ => rfl) (by decide) (nI_clamp (n := 10) (by decide)) (by decide +kernel) (Nat.le_of_ble_eq_true rfl) (Nat.le_of_ble_eq_true rfl) dX5_cutOf_7 (fun q7 H hwn => ?_)
  clear hw
  have hw := hwn
  clear hwn
  replace hw : kW D (kty cI cC cJ cG) s (va_A [(h0, .inr (5, [.ref z1, .ref z2, .ref z3, .ref z4, .ref z5, .int (nI k), .int (nI mw), .int mg, .int ch, .int up, .int sh, .int li, .int fp, .int sp, .int hc, .long inn, .long pa, .long lo, .long ma, .long st, .int ph, .int tr, .int la])), (z2, .inl (cI, 10, .inl og)), (z3, .inl (cI, 10, .inl ow)), (z4, .inl (cI, 10, .inl ol))] s.heap.size) [(h0, .inr (5, [.ref z1, .ref z2, .ref z3, .ref z4, .ref z5, .int (nI k), .int (nI mw), .int mg, .int ch, .int up, .int sh, .int li, .int fp, .int sp, .int hc, .long inn, .long pa, .long lo, .long ma, .long st, .int ph, .int tr, .int la])), (z2, .inl (cI, 10, .inl og)), (z3, .inl (cI, 10, .inl ow)), (z4, .inl (cI, 10, .inl ol)), (q2, .inl (cI, 10, .inl (fun _ => 0))), (q7, .inl (cI, 10, .inl (fun _ => 0)))] H locs := hw
  refine lv_astore_n (lv' := [(3, .ref q7), (2, .ref q2), (0, .ref h0), (1, .int p0)]) hx hb dX5_cutOf_9 rfl hl (by decide) rfl (fun ls hl => ?_)
  refine lv_bipush (v := 10) hx hb dX5_cutOf_10 (by decide) ?_
  refine k_newa (atype := .int) (a0 := (10, .inl (fun _ => 0))) hx hb k_ac_int rfl hw 0 rfl one_i (fun _ => rfl) (by decide) (nI_clamp (n := 10) (by decide)) (by decide +kernel) (Nat.le_of_ble_eq_true rfl) (Nat.le_of_ble_eq_true rfl) dX5_cutOf_12 (fun q12 H hwn => ?_)
  clear hw
  have hw := hwn
  clear hwn
  replace hw : kW D (kty cI cC cJ cG) s (va_A [(h0, .inr (5, [.ref z1, .ref z2, .ref z3, .ref z4, .ref z5, .int (nI k), .int (nI mw), .int mg, .int ch, .int up, .int sh, .int li, .int fp, .int sp, .int hc, .long inn, .long pa, .long lo, .long ma, .long st, .int ph, .int tr, .int la])), (z2, .inl (cI, 10, .inl og)), (z3, .inl (cI, 10, .inl ow)), (z4, .inl (cI, 10, .inl ol))] s.heap.size) [(h0, .inr (5, [.ref z1, .ref z2, .ref z3, .ref z4, .ref z5, .int (nI k), .int (nI mw), .int mg, .int ch, .int up, .int sh, .int li, .int fp, .int sp, .int hc, .long inn, .long pa, .long lo, .long ma, .long st, .int ph, .int tr, .int la])), (z2, .inl (cI, 10, .inl og)), (z3, .inl (cI, 10, .inl ow)), (z4, .inl (cI, 10, .inl ol)), (q2, .inl (cI, 10, .inl (fun _ => 0))), (q7, .inl (cI, 10, .inl (fun _ => 0))), (q12, .inl (cI, 10, .inl (fun _ => 0)))] H locs := hw
  refine lv_astore (lv' := [(4, .ref q12), (3, .ref q7), (2, .ref q2), (0, .ref h0), (1, .int p0)]) hx hb dX5_cutOf_14 hl (by decide) rfl (fun ls hl => ?_)
  refine lv_iconst (v := 0) hx hb dX5_cutOf_16 (by decide) ?_
  refine lv_istore (lv' := [(5, .int 0), (4, .ref q12), (3, .ref q7), (2, .ref q2), (0, .ref h0), (1, .int p0)]) hx hb dX5_cutOf_17 hl (by decide) rfl (fun ls hl => ?_)
  refine lv_iconst (v := 0) hx hb dX5_cutOf_19 (by decide) ?_
  refine lv_istore (lv' := [(6, .int 0), (5, .int 0), (4, .ref q12), (3, .ref q7), (2, .ref q2), (0, .ref h0), (1, .int p0)]) hx hb dX5_cutOf_20 hl (by decide) rfl (fun ls hl => ?_)
  replace hl : lv_has _ 9 [(6, .int (nI 0)), (5, .int (nI 0)), (4, .ref q12), (3, .ref q7), (2, .ref q2), (0, .ref h0), (1, .int p0)] := hl
  replace hw : kW D (kty cI cC cJ cG) s (va_A [(h0, .inr (5, [.ref z1, .ref z2, .ref z3, .ref z4, .ref z5, .int (nI k), .int (nI mw), .int mg, .int ch, .int up, .int sh, .int li, .int fp, .int sp, .int hc, .long inn, .long pa, .long lo, .long ma, .long st, .int ph, .int tr, .int la])), (z2, .inl (cI, 10, .inl og)), (z3, .inl (cI, 10, .inl ow)), (z4, .inl (cI, 10, .inl ol))] s.heap.size) [(h0, .inr (5, [.ref z1, .ref z2, .ref z3, .ref z4, .ref z5, .int (nI k), .int (nI mw), .int mg, .int ch, .int up, .int sh, .int li, .int fp, .int sp, .int hc, .long inn, .long pa, .long lo, .long ma, .long st, .int ph, .int tr, .int la])), (z2, .inl (cI, 10, .inl og)), (z3, .inl (cI, 10, .inl ow)), (z4, .inl (cI, 10, .inl ol)), (q2, .inl (cI, 10, .inl (fun _ => 0))), (q7, .inl (cI, 10, .inl (fun _ => 0))), (q12, .inl (cI, 10, .inl (fun _ => 0)))] H locs := hw
  revert hl; revert hw; revert ls; revert locs; revert H
  refine k_loop (fun ((i, mm, f1, f2, f3) : (Nat) × (Nat) × (Nat → Int32) × (Nat → Int32) × (Nat → Int32)) => i ≤ k ∧ cu_I og ow ol p0 i mm f1 f2 f3) (fun ((i, mm, f1, f2, f3) : (Nat) × (Nat) × (Nat → Int32) × (Nat → Int32) × (Nat → Int32)) => k - i) (fun ((i, mm, f1, f2, f3) : (Nat) × (Nat) × (Nat → Int32) × (Nat → Int32) × (Nat → Int32)) => [(h0, .inr (5, [.ref z1, .ref z2, .ref z3, .ref z4, .ref z5, .int (nI k), .int (nI mw), .int mg, .int ch, .int up, .int sh, .int li, .int fp, .int sp, .int hc, .long inn, .long pa, .long lo, .long ma, .long st, .int ph, .int tr, .int la])), (z2, .inl (cI, 10, .inl og)), (z3, .inl (cI, 10, .inl ow)), (z4, .inl (cI, 10, .inl ol)), (q2, .inl (cI, 10, .inl f1)), (q7, .inl (cI, 10, .inl f2)), (q12, .inl (cI, 10, .inl f3))]) (fun ((i, mm, f1, f2, f3) : (Nat) × (Nat) × (Nat → Int32) × (Nat → Int32) × (Nat → Int32)) => [(6, .int (nI i)), (5, .int (nI mm)), (4, .ref q12), (3, .ref q7), (2, .ref q2), (0, .ref h0), (1, .int p0)]) (0, 0, (fun _ => 0), (fun _ => 0), (fun _ => 0)) (show (0 : Nat) ≤ k ∧ cu_I og ow ol p0 (0 : Nat) (0 : Nat) (fun _ => 0 : Nat → Int32) (fun _ => 0 : Nat → Int32) (fun _ => 0 : Nat → Int32) from ⟨Nat.zero_le _, cu_0 _ _ _ _ _ _ _⟩) ?_
  intro ⟨i, mm, f1, f2, f3⟩ hI ih22 H locs ls hw hl
  replace hI : i ≤ k ∧ cu_I og ow ol p0 i mm f1 f2 f3 := hI
  replace hw : kW D (kty cI cC cJ cG) s (va_A [(h0, .inr (5, [.ref z1, .ref z2, .ref z3, .ref z4, .ref z5, .int (nI k), .int (nI mw), .int mg, .int ch, .int up, .int sh, .int li, .int fp, .int sp, .int hc, .long inn, .long pa, .long lo, .long ma, .long st, .int ph, .int tr, .int la])), (z2, .inl (cI, 10, .inl og)), (z3, .inl (cI, 10, .inl ow)), (z4, .inl (cI, 10, .inl ol))] s.heap.size) [(h0, .inr (5, [.ref z1, .ref z2, .ref z3, .ref z4, .ref z5, .int (nI k), .int (nI mw), .int mg, .int ch, .int up, .int sh, .int li, .int fp, .int sp, .int hc, .long inn, .long pa, .long lo, .long ma, .long st, .int ph, .int tr, .int la])), (z2, .inl (cI, 10, .inl og)), (z3, .inl (cI, 10, .inl ow)), (z4, .inl (cI, 10, .inl ol)), (q2, .inl (cI, 10, .inl f1)), (q7, .inl (cI, 10, .inl f2)), (q12, .inl (cI, 10, .inl f3))] H locs := hw
  replace hl : lv_has ls 9 [(6, .int (nI i)), (5, .int (nI mm)), (4, .ref q12), (3, .ref q7), (2, .ref q2), (0, .ref h0), (1, .int p0)] := hl
  refine lv_iload hx hb dX5_cutOf_22 (lv_at hl 0 rfl) ?_
  refine lv_aload_n hx hb dX5_cutOf_24 rfl (lv_at hl 5 rfl) ?_
  refine k_get hx hb hts i_X5 hown hw 0 5 rfl rfl (by decide) k_f58 rfl dX5_cutOf_25 ?_
  refine lv_icmp_ge (tgt := 90) hx hb dX5_cutOf_28 (by decide) (fun c28 => ?_) (fun c28 => ?_)
  · have hi : k ≤ i := k_le c28 (by omega) (by omega)
    have hik : i = k := by omega
    obtain ⟨wh, hm0, hw1, hw2, hw3⟩ := hI.2
    rw [hik] at hm0 hw1 hw3
    refine lv_bipush (v := 10) hx hb dX5_cutOf_90 (by decide) ?_
    refine k_newa (atype := .int) (a0 := (10, .inl (fun _ => 0))) hx hb k_ac_int rfl hw 0 rfl one_i (fun _ => rfl) (by decide) (nI_clamp (n := 10) (by decide)) (by decide +kernel) (Nat.le_of_ble_eq_true rfl) (Nat.le_of_ble_eq_true rfl) dX5_cutOf_92 (fun q92 H hwn => ?_)
    clear hw
    have hw := hwn
    clear hwn
    replace hw : kW D (kty cI cC cJ cG) s (va_A [(h0, .inr (5, [.ref z1, .ref z2, .ref z3, .ref z4, .ref z5, .int (nI k), .int (nI mw), .int mg, .int ch, .int up, .int sh, .int li, .int fp, .int sp, .int hc, .long inn, .long pa, .long lo, .long ma, .long st, .int ph, .int tr, .int la])), (z2, .inl (cI, 10, .inl og)), (z3, .inl (cI, 10, .inl ow)), (z4, .inl (cI, 10, .inl ol))] s.heap.size) [(h0, .inr (5, [.ref z1, .ref z2, .ref z3, .ref z4, .ref z5, .int (nI k), .int (nI mw), .int mg, .int ch, .int up, .int sh, .int li, .int fp, .int sp, .int hc, .long inn, .long pa, .long lo, .long ma, .long st, .int ph, .int tr, .int la])), (z2, .inl (cI, 10, .inl og)), (z3, .inl (cI, 10, .inl ow)), (z4, .inl (cI, 10, .inl ol)), (q2, .inl (cI, 10, .inl f1)), (q7, .inl (cI, 10, .inl f2)), (q12, .inl (cI, 10, .inl f3)), (q92, .inl (cI, 10, .inl (fun _ => 0)))] H locs := hw
    refine lv_astore (lv' := [(6, .ref q92), (5, .int (nI mm)), (4, .ref q12), (3, .ref q7), (2, .ref q2), (0, .ref h0), (1, .int p0)]) hx hb dX5_cutOf_94 hl (by decide) rfl (fun ls hl => ?_)
    refine lv_aload_n hx hb dX5_cutOf_96 rfl (lv_at hl 4 rfl) ?_
    refine lv_aload_n hx hb dX5_cutOf_97 rfl (lv_at hl 3 rfl) ?_
    refine lv_iload hx hb dX5_cutOf_98 (lv_at hl 1 rfl) ?_
    refine lv_aload_n hx hb dX5_cutOf_100 rfl (lv_at hl 5 rfl) ?_
    refine k_get hx hb hts i_X5 hown hw 0 6 rfl rfl (by decide) k_f25 rfl dX5_cutOf_101 ?_
    refine k_callr (wr := [(h0, .inr (5, [.ref z1, .ref z2, .ref z3, .ref z4, .ref z5, .int (nI k), .int (nI mw), .int mg, .int ch, .int up, .int sh, .int li, .int fp, .int sp, .int hc, .long inn, .long pa, .long lo, .long ma, .long st, .int ph, .int tr, .int la])), (z2, .inl (cI, 10, .inl og)), (z3, .inl (cI, 10, .inl ow)), (z4, .inl (cI, 10, .inl ol)), (q12, .inl (cI, 10, .inl f3)), (q92, .inl (cI, 10, .inl (fun _ => 0)))]) (k_runSN (wc := [(q2, .inl (cI, 10, .inl f1)), (q7, .inl (cI, 10, .inl f2))]) (As := [.ref q2, .ref q7, .int (nI mm), .int (nI mw)]) (rest := []) ⟨hx, hb, hml, hown, hts⟩ (c_L_best l D cI cC cJ cG q2 q7 H.size mm mw f1 f2 (fun t => w (wh t)) (fun t => lk (wh t)) (by omega) hmw (fun t ht => by rw [(hw1 t ht).1]; exact how _ (by have := (hw1 t ht).2.2.2.1; omega)) (fun t ht => hwb _ (by have := (hw1 t ht).2.2.2.1; omega)) (fun t ht => by rw [(hw1 t ht).2.1]; exact hol _ (by have := (hw1 t ht).2.2.2.1; omega)) (fun t ht => hlk _ (by have := (hw1 t ht).2.2.2.1; omega))) ⟨va_cnB (host := RL) 4 hts gX5_cutOf_L_best_n61 rfl rfl rfl (hN _ (by decide +kernel)) k_ini_L (by decide +kernel) ⟨Nat.le_of_ble_eq_true rfl, Nat.le_of_ble_eq_true rfl⟩, k_st_L_best, trivial⟩ hw [4, 5] (by decide) rfl rfl hl.1 rfl (Nat.le_of_ble_eq_true rfl) dX5_cutOf_104 ⟨Nat.le_of_ble_eq_true rfl, Nat.le_of_ble_eq_true rfl⟩) hw [4, 5] [0, 1, 2, 3, 6, 7] rfl rfl (by decide) (by decide) (fun r104 u104 H locs w104 hw => ?_)
    obtain ⟨fb_104, rfl⟩ : ∃ z, z = u104 := ⟨_, rfl⟩
    replace hw : kW D (kty cI cC cJ cG) s (va_A [(h0, .inr (5, [.ref z1, .ref z2, .ref z3, .ref z4, .ref z5, .int (nI k), .int (nI mw), .int mg, .int ch, .int up, .int sh, .int li, .int fp, .int sp, .int hc, .long inn, .long pa, .long lo, .long ma, .long st, .int ph, .int tr, .int la])), (z2, .inl (cI, 10, .inl og)), (z3, .inl (cI, 10, .inl ow)), (z4, .inl (cI, 10, .inl ol))] s.heap.size) [(h0, .inr (5, [.ref z1, .ref z2, .ref z3, .ref z4, .ref z5, .int (nI k), .int (nI mw), .int mg, .int ch, .int up, .int sh, .int li, .int fp, .int sp, .int hc, .long inn, .long pa, .long lo, .long ma, .long st, .int ph, .int tr, .int la])), (z2, .inl (cI, 10, .inl og)), (z3, .inl (cI, 10, .inl ow)), (z4, .inl (cI, 10, .inl ol)), (q12, .inl (cI, 10, .inl f3)), (q92, .inl (cI, 10, .inl (fun _ => 0))), (q2, .inl (cI, 10, .inl f1)), (q7, .inl (cI, 10, .inl f2)), (r104, .inl (cI, mm, .inl fb_104))] H locs := hw
    replace w104 : ∃ b : Nat → Nat, (∀ j, j < mm → fb_104 j = nI (b j)) ∧ bs_B mm (fun j => min 6 ((fun t => lk (wh t)) j)) (fun t => w (wh t)) 6 mw b := w104
    obtain ⟨b, hfb, hB⟩ := w104
    refine lv_astore (lv' := [(7, .ref r104), (6, .ref q92), (5, .int (nI mm)), (4, .ref q12), (3, .ref q7), (2, .ref q2), (0, .ref h0), (1, .int p0)]) hx hb dX5_cutOf_107 hl (by decide) rfl (fun ls hl => ?_)
    refine lv_iconst (v := 0) hx hb dX5_cutOf_109 (by decide) ?_
    refine lv_istore (lv' := [(8, .int 0), (7, .ref r104), (6, .ref q92), (5, .int (nI mm)), (4, .ref q12), (3, .ref q7), (2, .ref q2), (0, .ref h0), (1, .int p0)]) hx hb dX5_cutOf_110 hl (by decide) rfl (fun ls hl => ?_)
    replace hl : lv_has _ 9 [(8, .int (nI 0)), (7, .ref r104), (6, .ref q92), (5, .int (nI mm)), (4, .ref q12), (3, .ref q7), (2, .ref q2), (0, .ref h0), (1, .int p0)] := hl
    replace hw : kW D (kty cI cC cJ cG) s (va_A [(h0, .inr (5, [.ref z1, .ref z2, .ref z3, .ref z4, .ref z5, .int (nI k), .int (nI mw), .int mg, .int ch, .int up, .int sh, .int li, .int fp, .int sp, .int hc, .long inn, .long pa, .long lo, .long ma, .long st, .int ph, .int tr, .int la])), (z2, .inl (cI, 10, .inl og)), (z3, .inl (cI, 10, .inl ow)), (z4, .inl (cI, 10, .inl ol))] s.heap.size) [(h0, .inr (5, [.ref z1, .ref z2, .ref z3, .ref z4, .ref z5, .int (nI k), .int (nI mw), .int mg, .int ch, .int up, .int sh, .int li, .int fp, .int sp, .int hc, .long inn, .long pa, .long lo, .long ma, .long st, .int ph, .int tr, .int la])), (z2, .inl (cI, 10, .inl og)), (z3, .inl (cI, 10, .inl ow)), (z4, .inl (cI, 10, .inl ol)), (q12, .inl (cI, 10, .inl f3)), (q92, .inl (cI, 10, .inl (fun _ => 0))), (q2, .inl (cI, 10, .inl f1)), (q7, .inl (cI, 10, .inl f2)), (r104, .inl (cI, mm, .inl fb_104))] H locs := hw
    revert hl; revert hw; revert ls; revert locs; revert H
    refine k_loop (fun ((xx, fr) : (Nat) × (Nat → Int32)) => xx ≤ mm ∧ (∀ t, t < xx → fr (wh t) = nI (b t)) ∧ ∀ j, (∀ t, t < xx → wh t ≠ j) → fr j = 0) (fun ((xx, fr) : (Nat) × (Nat → Int32)) => mm - xx) (fun ((xx, fr) : (Nat) × (Nat → Int32)) => [(h0, .inr (5, [.ref z1, .ref z2, .ref z3, .ref z4, .ref z5, .int (nI k), .int (nI mw), .int mg, .int ch, .int up, .int sh, .int li, .int fp, .int sp, .int hc, .long inn, .long pa, .long lo, .long ma, .long st, .int ph, .int tr, .int la])), (z2, .inl (cI, 10, .inl og)), (z3, .inl (cI, 10, .inl ow)), (z4, .inl (cI, 10, .inl ol)), (q12, .inl (cI, 10, .inl f3)), (q92, .inl (cI, 10, .inl fr)), (q2, .inl (cI, 10, .inl f1)), (q7, .inl (cI, 10, .inl f2)), (r104, .inl (cI, mm, .inl fb_104))]) (fun ((xx, fr) : (Nat) × (Nat → Int32)) => [(8, .int (nI xx)), (7, .ref r104), (6, .ref q92), (5, .int (nI mm)), (4, .ref q12), (3, .ref q7), (2, .ref q2), (0, .ref h0), (1, .int p0)]) (0, (fun _ => 0)) (show (0 : Nat) ≤ mm ∧ (∀ t, t < (0 : Nat) → (fun _ => 0 : Nat → Int32) (wh t) = nI (b t)) ∧ ∀ j, (∀ t, t < (0 : Nat) → wh t ≠ j) → (fun _ => 0 : Nat → Int32) j = 0 from ⟨Nat.zero_le _, fun t ht => absurd ht (Nat.not_lt_zero t), fun _ _ => rfl⟩) ?_
    intro ⟨xx, fr⟩ hI ih112 H locs ls hw hl
    replace hI : xx ≤ mm ∧ (∀ t, t < xx → fr (wh t) = nI (b t)) ∧ ∀ j, (∀ t, t < xx → wh t ≠ j) → fr j = 0 := hI
    replace hw : kW D (kty cI cC cJ cG) s (va_A [(h0, .inr (5, [.ref z1, .ref z2, .ref z3, .ref z4, .ref z5, .int (nI k), .int (nI mw), .int mg, .int ch, .int up, .int sh, .int li, .int fp, .int sp, .int hc, .long inn, .long pa, .long lo, .long ma, .long st, .int ph, .int tr, .int la])), (z2, .inl (cI, 10, .inl og)), (z3, .inl (cI, 10, .inl ow)), (z4, .inl (cI, 10, .inl ol))] s.heap.size) [(h0, .inr (5, [.ref z1, .ref z2, .ref z3, .ref z4, .ref z5, .int (nI k), .int (nI mw), .int mg, .int ch, .int up, .int sh, .int li, .int fp, .int sp, .int hc, .long inn, .long pa, .long lo, .long ma, .long st, .int ph, .int tr, .int la])), (z2, .inl (cI, 10, .inl og)), (z3, .inl (cI, 10, .inl ow)), (z4, .inl (cI, 10, .inl ol)), (q12, .inl (cI, 10, .inl f3)), (q92, .inl (cI, 10, .inl fr)), (q2, .inl (cI, 10, .inl f1)), (q7, .inl (cI, 10, .inl f2)), (r104, .inl (cI, mm, .inl fb_104))] H locs := hw
    replace hl : lv_has ls 9 [(8, .int (nI xx)), (7, .ref r104), (6, .ref q92), (5, .int (nI mm)), (4, .ref q12), (3, .ref q7), (2, .ref q2), (0, .ref h0), (1, .int p0)] := hl
    refine lv_iload hx hb dX5_cutOf_112 (lv_at hl 0 rfl) ?_
    refine lv_iload hx hb dX5_cutOf_114 (lv_at hl 3 rfl) ?_
    refine lv_icmp_ge (tgt := 138) hx hb dX5_cutOf_116 (by decide) (fun c116 => ?_) (fun c116 => ?_)
    · have hxm : xx = mm := by have := k_le c116 (by omega) (by omega); omega
      refine lv_aload hx hb dX5_cutOf_138 (lv_at hl 2 rfl) ?_
      replace hw := hw.pick (ws' := [(h0, .inr (5, [.ref z1, .ref z2, .ref z3, .ref z4, .ref z5, .int (nI k), .int (nI mw), .int mg, .int ch, .int up, .int sh, .int li, .int fp, .int sp, .int hc, .long inn, .long pa, .long lo, .long ma, .long st, .int ph, .int tr, .int la])), (z2, .inl (cI, 10, .inl og)), (z3, .inl (cI, 10, .inl ow)), (z4, .inl (cI, 10, .inl ol)), (q92, .inl (cI, 10, .inl fr))]) [0, 1, 2, 3, 5] (by decide) rfl
      refine W.widen (k := 6) (n := 60) (by omega) (by omega) ?_
      exact k_aret fr q92 hx hb hr hlocks hw (cu_end hk how hol hlk hpos (fun t ht => ⟨(hw1 t ht).2.2.2.1, (hw1 t ht).2.2.2.2.1, (hw1 t ht).2.2.2.2.2⟩) hw2 hw3 hB (by rw [← hxm]; exact hI.2.1) (by rw [← hxm]; exact hI.2.2)) dX5_cutOf_140
    · have hi : xx < mm := k_lt c116 (by omega) (by omega)
      have hwx := (hw1 xx hi).2.2.2.1
      refine lv_aload hx hb dX5_cutOf_119 (lv_at hl 2 rfl) ?_
      refine lv_aload hx hb dX5_cutOf_121 (lv_at hl 4 rfl) ?_
      refine lv_iload hx hb dX5_cutOf_123 (lv_at hl 0 rfl) ?_
      refine k_iald hx hb hw 4 0 rfl rfl xx rfl (by omega) (Nat.le_of_ble_eq_true rfl) dX5_cutOf_125 ?_
      refine k_eqi (y := nI (wh xx)) ((hw1 xx hi).2.2.1) ?_
      refine lv_aload hx hb dX5_cutOf_126 (lv_at hl 1 rfl) ?_
      refine lv_iload hx hb dX5_cutOf_128 (lv_at hl 0 rfl) ?_
      refine k_iald hx hb hw 8 0 rfl rfl xx rfl (by omega) (by omega) dX5_cutOf_130 ?_
      refine k_eqi (y := nI (b xx)) (hfb xx hi) ?_
      refine k_iast (ws' := [(h0, .inr (5, [.ref z1, .ref z2, .ref z3, .ref z4, .ref z5, .int (nI k), .int (nI mw), .int mg, .int ch, .int up, .int sh, .int li, .int fp, .int sp, .int hc, .long inn, .long pa, .long lo, .long ma, .long st, .int ph, .int tr, .int la])), (z2, .inl (cI, 10, .inl og)), (z3, .inl (cI, 10, .inl ow)), (z4, .inl (cI, 10, .inl ol)), (q12, .inl (cI, 10, .inl f3)), (q92, .inl (cI, 10, .inl (upd fr (wh xx) (nI (b xx))))), (q2, .inl (cI, 10, .inl f1)), (q7, .inl (cI, 10, .inl f2)), (r104, .inl (cI, mm, .inl fb_104))]) hx hb hw 5 0 rfl rfl (wh xx) rfl (by omega) (Nat.le_of_ble_eq_true rfl) rfl dX5_cutOf_131 (fun H locs hw => ?_)
      refine lv_iinc (v := nI (xx + 1)) (lv' := [(8, .int (nI (xx + 1))), (7, .ref r104), (6, .ref q92), (5, .int (nI mm)), (4, .ref q12), (3, .ref q7), (2, .ref q2), (0, .ref h0), (1, .int p0)]) hx hb dX5_cutOf_132 hl (k := 0) rfl (nI_1 xx) (by decide) rfl (fun ls hl => ?_)
      refine lv_goto (tgt := 112) hx hb dX5_cutOf_135 (by decide) ?_
      exact ih112 ((xx + 1), upd fr (wh xx) (nI (b xx))) _ _ _ (show (xx + 1) ≤ mm ∧ (∀ t, t < (xx + 1) → (upd fr (wh xx) (nI (b xx))) (wh t) = nI (b t)) ∧ ∀ j, (∀ t, t < (xx + 1) → wh t ≠ j) → (upd fr (wh xx) (nI (b xx))) j = 0 from ⟨by omega, fun t ht => (by by_cases z : t = xx; (subst z; exact pk_us); have hlt := hw2 t xx (by omega) hi; rw [pk_un (by omega)]; exact hI.2.1 t (by omega)), fun j hj => (by rw [pk_un (fun z => hj xx (by omega) z.symm)]; exact hI.2.2 j (fun t ht => hj t (by omega)))⟩) (show mm - (xx + 1) < mm - xx from by omega) hw (lv_sub hl [0, 1, 2, 3, 4, 5, 6, 7, 8] rfl)
  · have hi : i < k := k_lt c28 (by omega) (by omega)
    have hmm : mm ≤ i := by obtain ⟨wh, h, -⟩ := hI.2; exact h
    refine lv_aload_n hx hb dX5_cutOf_31 rfl (lv_at hl 5 rfl) ?_
    refine k_get hx hb hts i_X5 hown hw 0 1 rfl rfl (by decide) k_f13 rfl dX5_cutOf_32 ?_
    refine lv_iload hx hb dX5_cutOf_35 (lv_at hl 0 rfl) ?_
    refine k_iald hx hb hw 1 0 rfl rfl i rfl (by omega) (Nat.le_of_ble_eq_true rfl) dX5_cutOf_37 ?_
    refine lv_iload_n hx hb dX5_cutOf_38 rfl (lv_at hl 6 rfl) ?_
    refine lv_icmp_ne (tgt := 84) hx hb dX5_cutOf_39 (by decide) (fun c39 => ?_) (fun c39 => ?_)
    · refine lv_iinc (v := nI (i + 1)) (lv' := [(6, .int (nI (i + 1))), (5, .int (nI mm)), (4, .ref q12), (3, .ref q7), (2, .ref q2), (0, .ref h0), (1, .int p0)]) hx hb dX5_cutOf_84 hl (k := 0) rfl (nI_1 i) (by decide) rfl (fun ls hl => ?_)
      refine lv_goto (tgt := 22) hx hb dX5_cutOf_87 (by decide) ?_
      exact ih22 ((i + 1), mm, f1, f2, f3) _ _ _ (show (i + 1) ≤ k ∧ cu_I og ow ol p0 (i + 1) mm f1 f2 f3 from ⟨by omega, cu_no hI.2 (fun z => c39 z.1)⟩) (show k - (i + 1) < k - i from by omega) hw (lv_sub hl [0, 1, 2, 3, 4, 5, 6] rfl)
    · refine lv_aload_n hx hb dX5_cutOf_42 rfl (lv_at hl 5 rfl) ?_
      refine k_get hx hb hts i_X5 hown hw 0 3 rfl rfl (by decide) k_f19 rfl dX5_cutOf_43 ?_
      refine lv_iload hx hb dX5_cutOf_46 (lv_at hl 0 rfl) ?_
      refine k_iald hx hb hw 3 0 rfl rfl i rfl (by omega) (Nat.le_of_ble_eq_true rfl) dX5_cutOf_48 ?_
      refine lv_if_le (tgt := 84) hx hb dX5_cutOf_49 (by decide) (fun c49 => ?_) (fun c49 => ?_)
      · refine lv_iinc (v := nI (i + 1)) (lv' := [(6, .int (nI (i + 1))), (5, .int (nI mm)), (4, .ref q12), (3, .ref q7), (2, .ref q2), (0, .ref h0), (1, .int p0)]) hx hb dX5_cutOf_84 hl (k := 0) rfl (nI_1 i) (by decide) rfl (fun ls hl => ?_)
        refine lv_goto (tgt := 22) hx hb dX5_cutOf_87 (by decide) ?_
        exact ih22 ((i + 1), mm, f1, f2, f3) _ _ _ (show (i + 1) ≤ k ∧ cu_I og ow ol p0 (i + 1) mm f1 f2 f3 from ⟨by omega, cu_no hI.2 (fun z => absurd z.2 (Int32.not_lt.mpr c49))⟩) (show k - (i + 1) < k - i from by omega) hw (lv_sub hl [0, 1, 2, 3, 4, 5, 6] rfl)
      · refine lv_aload_n hx hb dX5_cutOf_52 rfl (lv_at hl 4 rfl) ?_
        refine lv_iload hx hb dX5_cutOf_53 (lv_at hl 1 rfl) ?_
        refine lv_aload_n hx hb dX5_cutOf_55 rfl (lv_at hl 5 rfl) ?_
        refine k_get hx hb hts i_X5 hown hw 0 2 rfl rfl (by decide) k_f16 rfl dX5_cutOf_56 ?_
        refine lv_iload hx hb dX5_cutOf_59 (lv_at hl 0 rfl) ?_
        refine k_iald hx hb hw 2 0 rfl rfl i rfl (by omega) (Nat.le_of_ble_eq_true rfl) dX5_cutOf_61 ?_
        refine k_iast (ws' := [(h0, .inr (5, [.ref z1, .ref z2, .ref z3, .ref z4, .ref z5, .int (nI k), .int (nI mw), .int mg, .int ch, .int up, .int sh, .int li, .int fp, .int sp, .int hc, .long inn, .long pa, .long lo, .long ma, .long st, .int ph, .int tr, .int la])), (z2, .inl (cI, 10, .inl og)), (z3, .inl (cI, 10, .inl ow)), (z4, .inl (cI, 10, .inl ol)), (q2, .inl (cI, 10, .inl (upd f1 mm (ow i)))), (q7, .inl (cI, 10, .inl f2)), (q12, .inl (cI, 10, .inl f3))]) hx hb hw 4 0 rfl rfl mm rfl (by omega) (Nat.le_of_ble_eq_true rfl) rfl dX5_cutOf_62 (fun H locs hw => ?_)
        refine lv_aload_n hx hb dX5_cutOf_63 rfl (lv_at hl 3 rfl) ?_
        refine lv_iload hx hb dX5_cutOf_64 (lv_at hl 1 rfl) ?_
        refine lv_aload_n hx hb dX5_cutOf_66 rfl (lv_at hl 5 rfl) ?_
        refine k_get hx hb hts i_X5 hown hw 0 3 rfl rfl (by decide) k_f19 rfl dX5_cutOf_67 ?_
        refine lv_iload hx hb dX5_cutOf_70 (lv_at hl 0 rfl) ?_
        refine k_iald hx hb hw 3 0 rfl rfl i rfl (by omega) (Nat.le_of_ble_eq_true rfl) dX5_cutOf_72 ?_
        refine k_iast (ws' := [(h0, .inr (5, [.ref z1, .ref z2, .ref z3, .ref z4, .ref z5, .int (nI k), .int (nI mw), .int mg, .int ch, .int up, .int sh, .int li, .int fp, .int sp, .int hc, .long inn, .long pa, .long lo, .long ma, .long st, .int ph, .int tr, .int la])), (z2, .inl (cI, 10, .inl og)), (z3, .inl (cI, 10, .inl ow)), (z4, .inl (cI, 10, .inl ol)), (q2, .inl (cI, 10, .inl (upd f1 mm (ow i)))), (q7, .inl (cI, 10, .inl (upd f2 mm (ol i)))), (q12, .inl (cI, 10, .inl f3))]) hx hb hw 5 0 rfl rfl mm rfl (by omega) (Nat.le_of_ble_eq_true rfl) rfl dX5_cutOf_73 (fun H locs hw => ?_)
        refine lv_aload hx hb dX5_cutOf_74 (lv_at hl 2 rfl) ?_
        refine lv_iload hx hb dX5_cutOf_76 (lv_at hl 1 rfl) ?_
        refine lv_iinc (v := nI (mm + 1)) (lv' := [(5, .int (nI (mm + 1))), (6, .int (nI i)), (4, .ref q12), (3, .ref q7), (2, .ref q2), (0, .ref h0), (1, .int p0)]) hx hb dX5_cutOf_78 hl (k := 1) rfl (nI_1 mm) (by decide) rfl (fun ls hl => ?_)
        refine lv_iload hx hb dX5_cutOf_81 (lv_at hl 1 rfl) ?_
        refine k_iast (ws' := [(h0, .inr (5, [.ref z1, .ref z2, .ref z3, .ref z4, .ref z5, .int (nI k), .int (nI mw), .int mg, .int ch, .int up, .int sh, .int li, .int fp, .int sp, .int hc, .long inn, .long pa, .long lo, .long ma, .long st, .int ph, .int tr, .int la])), (z2, .inl (cI, 10, .inl og)), (z3, .inl (cI, 10, .inl ow)), (z4, .inl (cI, 10, .inl ol)), (q2, .inl (cI, 10, .inl (upd f1 mm (ow i)))), (q7, .inl (cI, 10, .inl (upd f2 mm (ol i)))), (q12, .inl (cI, 10, .inl (upd f3 mm (nI i))))]) hx hb hw 6 0 rfl rfl mm rfl (by omega) (Nat.le_of_ble_eq_true rfl) rfl dX5_cutOf_83 (fun H locs hw => ?_)
        refine lv_iinc (v := nI (i + 1)) (lv' := [(6, .int (nI (i + 1))), (5, .int (nI (mm + 1))), (4, .ref q12), (3, .ref q7), (2, .ref q2), (0, .ref h0), (1, .int p0)]) hx hb dX5_cutOf_84 hl (k := 1) rfl (nI_1 i) (by decide) rfl (fun ls hl => ?_)
        refine lv_goto (tgt := 22) hx hb dX5_cutOf_87 (by decide) ?_
        exact ih22 ((i + 1), (mm + 1), upd f1 mm (ow i), upd f2 mm (ol i), upd f3 mm (nI i)) _ _ _ (show (i + 1) ≤ k ∧ cu_I og ow ol p0 (i + 1) (mm + 1) (upd f1 mm (ow i)) (upd f2 mm (ol i)) (upd f3 mm (nI i)) from ⟨by omega, cu_yes hI.2 ⟨c39, Int32.not_le.mp c49⟩⟩) (show k - (i + 1) < k - i from by omega) hw (lv_sub hl [0, 1, 2, 3, 4, 5, 6] rfl)

set_option maxRecDepth 100000 in
set_option maxHeartbeats 4000000 in
/-- X5_sumOf -/
theorem c_X5_sumOf (l : Launch) (D : va_G) (cI cC cJ cG : ClassId) (h0 z3 a1 : Nat) (sz : Nat) (z1 z2 z4 z5 : Nat) (k mw : Nat) (mg ch up sh li fp sp hc : Int32) (inn pa lo ma st : Int64) (ph tr la : Int32) (ow ro : Nat → Int32) (w rv : Nat → Nat) (hk : k ≤ 10) (how : ∀ j, j < 10 → ow j = nI (w j)) (hro : ∀ j, j < 10 → ro j = nI (rv j)) : kMi l yX5_sumOf wsX5_sumOf ({ frames := 0, cells := 0, slots := 0, locals := 0 }) D (kty cI cC cJ cG) [.ref h0, .ref a1] [(h0, .inr (5, [.ref z1, .ref z2, .ref z3, .ref z4, .ref z5, .int (nI k), .int (nI mw), .int mg, .int ch, .int up, .int sh, .int li, .int fp, .int sp, .int hc, .long inn, .long pa, .long lo, .long ma, .long st, .int ph, .int tr, .int la])), (z3, .inl (cI, 10, .inl ow)), (a1, .inl (cI, 10, .inl ro))] sz 0 0 (fun (r : Int32) (_ : Unit) => r = nI (fb_sm (fun j => rv j * w j) k)) (fun (_ : Unit) => [(h0, .inr (5, [.ref z1, .ref z2, .ref z3, .ref z4, .ref z5, .int (nI k), .int (nI mw), .int mg, .int ch, .int up, .int sh, .int li, .int fp, .int sp, .int hc, .long inn, .long pa, .long lo, .long ma, .long st, .int ph, .int tr, .int la])), (z3, .inl (cI, 10, .inl ow)), (a1, .inl (cI, 10, .inl ro))]) := by
  unfold kMi
  refine k_ofW (cc := cX5_sumOf) (maxL := 4) (ret := (some .int)) (lv := [(0, .ref h0), (1, .ref a1)]) (by decide) rfl (Nat.le_of_ble_eq_true rfl) rfl ?_
  intro p e s m args below meth c ls H locs hE hsz hw hl
  obtain ⟨hx, hb, hr, hml, hown, hts, hlocks⟩ := hE
  subst hsz
  have hown : s.vm.findClass RX5 = some m.cls := hown
  have k_f58 : (Cond.fieldLink RX5 58 "PaperMachineLaw$Mill" "orders" "I").before args s = true := hts _ (by decide +kernel)
  have k_f16 : (Cond.fieldLink RX5 16 "PaperMachineLaw$Mill" "width" "[I").before args s = true := hts _ (by decide +kernel)
  have i_X5 : ∀ w ∈ u_ws RX5 TX5 23, w ∈ wsX5_sumOf := fun _ h => List.mem_cons_of_mem _ (List.mem_append_right _ h)
  refine lv_iconst (v := 0) hx hb dX5_sumOf_0 (by decide) ?_
  refine lv_istore_n (lv' := [(2, .int 0), (0, .ref h0), (1, .ref a1)]) hx hb dX5_sumOf_1 rfl hl (by decide) rfl (fun ls hl => ?_)
  refine lv_iconst (v := 0) hx hb dX5_sumOf_2 (by decide) ?_
  refine lv_istore_n (lv' := [(3, .int 0), (2, .int 0), (0, .ref h0), (1, .ref a1)]) hx hb dX5_sumOf_3 rfl hl (by decide) rfl (fun ls hl => ?_)
  replace hl : lv_has _ 4 [(3, .int (nI 0)), (2, .int 0), (0, .ref h0), (1, .ref a1)] := hl
  replace hw : kW D (kty cI cC cJ cG) s (va_A [(h0, .inr (5, [.ref z1, .ref z2, .ref z3, .ref z4, .ref z5, .int (nI k), .int (nI mw), .int mg, .int ch, .int up, .int sh, .int li, .int fp, .int sp, .int hc, .long inn, .long pa, .long lo, .long ma, .long st, .int ph, .int tr, .int la])), (z3, .inl (cI, 10, .inl ow)), (a1, .inl (cI, 10, .inl ro))] s.heap.size) [(h0, .inr (5, [.ref z1, .ref z2, .ref z3, .ref z4, .ref z5, .int (nI k), .int (nI mw), .int mg, .int ch, .int up, .int sh, .int li, .int fp, .int sp, .int hc, .long inn, .long pa, .long lo, .long ma, .long st, .int ph, .int tr, .int la])), (z3, .inl (cI, 10, .inl ow)), (a1, .inl (cI, 10, .inl ro))] H locs := hw
  revert hl; revert hw; revert ls; revert locs; revert H
  refine k_loop (fun ((i, x) : (Nat) × (Int32)) => i ≤ k ∧ x = nI (fb_sm (fun j => rv j * w j) i)) (fun ((i, x) : (Nat) × (Int32)) => k - i) (fun ((i, x) : (Nat) × (Int32)) => [(h0, .inr (5, [.ref z1, .ref z2, .ref z3, .ref z4, .ref z5, .int (nI k), .int (nI mw), .int mg, .int ch, .int up, .int sh, .int li, .int fp, .int sp, .int hc, .long inn, .long pa, .long lo, .long ma, .long st, .int ph, .int tr, .int la])), (z3, .inl (cI, 10, .inl ow)), (a1, .inl (cI, 10, .inl ro))]) (fun ((i, x) : (Nat) × (Int32)) => [(3, .int (nI i)), (2, .int x), (0, .ref h0), (1, .ref a1)]) (0, 0) (show (0 : Nat) ≤ k ∧ (0 : Int32) = nI (fb_sm (fun j => rv j * w j) (0 : Nat)) from ⟨Nat.zero_le _, rfl⟩) ?_
  intro ⟨i, x⟩ hI ih4 H locs ls hw hl
  replace hI : i ≤ k ∧ x = nI (fb_sm (fun j => rv j * w j) i) := hI
  replace hw : kW D (kty cI cC cJ cG) s (va_A [(h0, .inr (5, [.ref z1, .ref z2, .ref z3, .ref z4, .ref z5, .int (nI k), .int (nI mw), .int mg, .int ch, .int up, .int sh, .int li, .int fp, .int sp, .int hc, .long inn, .long pa, .long lo, .long ma, .long st, .int ph, .int tr, .int la])), (z3, .inl (cI, 10, .inl ow)), (a1, .inl (cI, 10, .inl ro))] s.heap.size) [(h0, .inr (5, [.ref z1, .ref z2, .ref z3, .ref z4, .ref z5, .int (nI k), .int (nI mw), .int mg, .int ch, .int up, .int sh, .int li, .int fp, .int sp, .int hc, .long inn, .long pa, .long lo, .long ma, .long st, .int ph, .int tr, .int la])), (z3, .inl (cI, 10, .inl ow)), (a1, .inl (cI, 10, .inl ro))] H locs := hw
  replace hl : lv_has ls 4 [(3, .int (nI i)), (2, .int x), (0, .ref h0), (1, .ref a1)] := hl
  refine lv_iload_n hx hb dX5_sumOf_4 rfl (lv_at hl 0 rfl) ?_
  refine lv_aload_n hx hb dX5_sumOf_5 rfl (lv_at hl 2 rfl) ?_
  refine k_get hx hb hts i_X5 hown hw 0 5 rfl rfl (by decide) k_f58 rfl dX5_sumOf_6 ?_
  refine lv_icmp_ge (tgt := 31) hx hb dX5_sumOf_9 (by decide) (fun c9 => ?_) (fun c9 => ?_)
  · have hi : k ≤ i := k_le c9 (by omega) (by omega)
    refine lv_iload_n hx hb dX5_sumOf_31 rfl (lv_at hl 1 rfl) ?_
    exact k_iret () hx hb hr hlocks hw (show x = nI (fb_sm (fun j => rv j * w j) k) from by rw [hI.2, show i = k by omega]) dX5_sumOf_32
  · have hi : i < k := k_lt c9 (by omega) (by omega)
    refine lv_iload_n hx hb dX5_sumOf_12 rfl (lv_at hl 1 rfl) ?_
    refine lv_aload_n hx hb dX5_sumOf_13 rfl (lv_at hl 3 rfl) ?_
    refine lv_iload_n hx hb dX5_sumOf_14 rfl (lv_at hl 0 rfl) ?_
    refine k_iald hx hb hw 2 0 rfl rfl i rfl (by omega) (Nat.le_of_ble_eq_true rfl) dX5_sumOf_15 ?_
    refine lv_aload_n hx hb dX5_sumOf_16 rfl (lv_at hl 2 rfl) ?_
    refine k_get hx hb hts i_X5 hown hw 0 2 rfl rfl (by decide) k_f16 rfl dX5_sumOf_17 ?_
    refine lv_iload_n hx hb dX5_sumOf_20 rfl (lv_at hl 0 rfl) ?_
    refine k_iald hx hb hw 1 0 rfl rfl i rfl (by omega) (Nat.le_of_ble_eq_true rfl) dX5_sumOf_21 ?_
    refine lv_imul hx hb dX5_sumOf_22 ?_
    refine lv_iadd hx hb dX5_sumOf_23 ?_
    refine lv_istore_n (lv' := [(2, .int (x + ((ro i) * (ow i)))), (3, .int (nI i)), (0, .ref h0), (1, .ref a1)]) hx hb dX5_sumOf_24 rfl hl (by decide) rfl (fun ls hl => ?_)
    refine lv_iinc (v := nI (i + 1)) (lv' := [(3, .int (nI (i + 1))), (2, .int (x + ((ro i) * (ow i)))), (0, .ref h0), (1, .ref a1)]) hx hb dX5_sumOf_25 hl (k := 1) rfl (nI_1 i) (by decide) rfl (fun ls hl => ?_)
    refine lv_goto (tgt := 4) hx hb dX5_sumOf_28 (by decide) ?_
    exact ih4 ((i + 1), x + ((ro i) * (ow i))) _ _ _ (show (i + 1) ≤ k ∧ (x + ((ro i) * (ow i))) = nI (fb_sm (fun j => rv j * w j) (i + 1)) from ⟨by omega, by rw [hI.2, hro i (by omega), how i (by omega), pk_mul, nI_add]; rfl⟩) (show k - (i + 1) < k - i from by omega) hw (lv_sub hl [0, 1, 2, 3] rfl)
