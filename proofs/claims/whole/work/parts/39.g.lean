set_option maxRecDepth 100000 in
set_option maxHeartbeats 4000000 in
/-- X5_in -/
theorem c_X5_in (l : Launch) (D : va_G) (cI cC cJ cG : ClassId) (sz : Nat) (p0 p1 p2 : Int32) : kMi l yX5_in wsX5_in ({ frames := 0, cells := 0, slots := 0, locals := 0 }) D (kty cI cC cJ cG) [.int p0, .int p1, .int p2] [] sz 0 0 (fun (r : Int32) (_ : Unit) => r = if p1 ≤ p0 ∧ p0 ≤ p2 then 1 else 0) (fun (_ : Unit) => []) := by
  unfold kMi
  refine k_ofW (cc := cX5_in) (maxL := 3) (ret := (some .boolean)) (lv := [(0, .int p0), (1, .int p1), (2, .int p2)]) (by decide) rfl (Nat.le_of_ble_eq_true rfl) rfl ?_
  intro p e s m args below meth c ls H locs hE hsz hw hl
  obtain ⟨hx, hb, hr, hml, hown, hts, hlocks⟩ := hE
  subst hsz
  have hown : s.vm.findClass RX5 = some m.cls := hown
  refine lv_iload_n hx hb dX5_in_0 rfl (lv_at hl 0 rfl) ?_
  refine lv_iload_n hx hb dX5_in_1 rfl (lv_at hl 1 rfl) ?_
  refine lv_icmp_lt (tgt := 14) hx hb dX5_in_2 (by decide) (fun c2 => ?_) (fun c2 => ?_)
  · refine lv_iconst (v := 0) hx hb dX5_in_14 (by decide) ?_
    exact k_zret () hx hb hr rfl hlocks hw (show (0 : Int32) = if p1 ≤ p0 ∧ p0 ≤ p2 then 1 else 0 from by rw [if_neg (fun h => absurd h.1 (Int32.not_le.mpr c2))]) dX5_in_15
  · refine lv_iload_n hx hb dX5_in_5 rfl (lv_at hl 0 rfl) ?_
    refine lv_iload_n hx hb dX5_in_6 rfl (lv_at hl 2 rfl) ?_
    refine lv_icmp_gt (tgt := 14) hx hb dX5_in_7 (by decide) (fun c7 => ?_) (fun c7 => ?_)
    · refine lv_iconst (v := 0) hx hb dX5_in_14 (by decide) ?_
      exact k_zret () hx hb hr rfl hlocks hw (show (0 : Int32) = if p1 ≤ p0 ∧ p0 ≤ p2 then 1 else 0 from by rw [if_neg (fun h => absurd h.2 (Int32.not_le.mpr c7))]) dX5_in_15
    · refine lv_iconst (v := 1) hx hb dX5_in_10 (by decide) ?_
      refine lv_goto (tgt := 15) hx hb dX5_in_11 (by decide) ?_
      exact k_zret () hx hb hr rfl hlocks hw (show (1 : Int32) = if p1 ≤ p0 ∧ p0 ≤ p2 then 1 else 0 from by rw [if_pos ⟨Int32.not_lt.mp c2, Int32.not_lt.mp c7⟩]) dX5_in_15

set_option maxRecDepth 100000 in
set_option maxHeartbeats 4000000 in
/-- X5_goesOn -/
theorem c_X5_goesOn (l : Launch) (D : va_G) (cI cC cJ cG : ClassId) (h0 : Nat) (sz : Nat) (z1 z2 z3 z4 z5 z6 z7 z8 : Nat) (th : Int32) (G mw : Nat) (mg up ch : Int32) (k : Nat) (sh li fp sp : Int32) (hc : Nat) (bk : Int32) (fr pa lo st ma : Int64) (ph tr bs : Int32) (p0 : Int32) : kMi l yX5_goesOn wsX5_goesOn ({ frames := 0, cells := 0, slots := 0, locals := 0 }) D (kty cI cC cJ cG) [.ref h0, .int p0] [(h0, .inr (7, [.int th, .int (nI G), .ref z1, .int (nI mw), .int mg, .int up, .int ch, .int (nI k), .ref z2, .ref z3, .ref z4, .ref z5, .int sh, .int li, .int fp, .int sp, .int (nI hc), .ref z6, .int bk, .long fr, .long pa, .long lo, .long st, .long ma, .int ph, .int tr, .int bs, .ref z7, .ref z8]))] sz 0 0 (fun (r : Int32) (_ : Unit) => r = if p0 = (0 : Int32) then 1 else 0) (fun (_ : Unit) => [(h0, .inr (7, [.int p0, .int (nI G), .ref z1, .int (nI mw), .int mg, .int up, .int ch, .int (nI k), .ref z2, .ref z3, .ref z4, .ref z5, .int sh, .int li, .int fp, .int sp, .int (nI hc), .ref z6, .int bk, .long fr, .long pa, .long lo, .long st, .long ma, .int ph, .int tr, .int bs, .ref z7, .ref z8]))]) := by
  unfold kMi
  refine k_ofW (cc := cX5_goesOn) (maxL := 2) (ret := (some .boolean)) (lv := [(0, .ref h0), (1, .int p0)]) (by decide) rfl (Nat.le_of_ble_eq_true rfl) rfl ?_
  intro p e s m args below meth c ls H locs hE hsz hw hl
  obtain ⟨hx, hb, hr, hml, hown, hts, hlocks⟩ := hE
  subst hsz
  have hown : s.vm.findClass RX5 = some m.cls := hown
  have k_f58 : (Cond.fieldLink RX5 58 "PaperMachineModel" "thrown" "I").before args s = true := hts _ (by decide +kernel)
  have i_X5 : ∀ w ∈ u_ws RX5 TX5 29, w ∈ wsX5_goesOn := fun _ h => List.mem_cons_of_mem _ (List.mem_append_right _ h)
  refine lv_aload_n hx hb dX5_goesOn_0 rfl (lv_at hl 0 rfl) ?_
  refine lv_iload_n hx hb dX5_goesOn_1 rfl (lv_at hl 1 rfl) ?_
  refine k_put hx hb hts i_X5 tyX5_ok nmX5 hown hw 0 0 (ws' := [(h0, .inr (7, [.int p0, .int (nI G), .ref z1, .int (nI mw), .int mg, .int up, .int ch, .int (nI k), .ref z2, .ref z3, .ref z4, .ref z5, .int sh, .int li, .int fp, .int sp, .int (nI hc), .ref z6, .int bk, .long fr, .long pa, .long lo, .long st, .long ma, .int ph, .int tr, .int bs, .ref z7, .ref z8]))]) rfl rfl (by decide) k_f58 rfl rfl rfl (Nat.le_of_ble_eq_true rfl) rfl dX5_goesOn_2 (fun H locs hw => ?_)
  refine lv_iload_n hx hb dX5_goesOn_5 rfl (lv_at hl 1 rfl) ?_
  refine lv_if_ne (tgt := 13) hx hb dX5_goesOn_6 (by decide) (fun c6 => ?_) (fun c6 => ?_)
  · refine lv_iconst (v := 0) hx hb dX5_goesOn_13 (by decide) ?_
    exact k_zret () hx hb hr rfl hlocks hw (show (0 : Int32) = if p0 = (0 : Int32) then 1 else 0 from by rw [if_neg c6]) dX5_goesOn_14
  · refine lv_iconst (v := 1) hx hb dX5_goesOn_9 (by decide) ?_
    refine lv_goto (tgt := 14) hx hb dX5_goesOn_10 (by decide) ?_
    exact k_zret () hx hb hr rfl hlocks hw (show (1 : Int32) = if p0 = (0 : Int32) then 1 else 0 from by rw [if_pos c6]) dX5_goesOn_14

set_option maxRecDepth 100000 in
set_option maxHeartbeats 4000000 in
/-- X5_isGrade -/
theorem c_X5_isGrade (l : Launch) (D : va_G) (cI cC cJ cG : ClassId) (h0 : Nat) (sz : Nat) (z1 z2 z3 z4 z5 z6 z7 z8 : Nat) (th : Int32) (G mw : Nat) (mg up ch : Int32) (k : Nat) (sh li fp sp : Int32) (hc : Nat) (bk : Int32) (fr pa lo st ma : Int64) (ph tr bs : Int32) (p0 : Int32) (hn : G ≤ 1000) : kMi l yX5_isGrade wsX5_isGrade ({ frames := 1, cells := 0, slots := 0, locals := 22 }) D (kty cI cC cJ cG) [.ref h0, .int p0] [(h0, .inr (7, [.int th, .int (nI G), .ref z1, .int (nI mw), .int mg, .int up, .int ch, .int (nI k), .ref z2, .ref z3, .ref z4, .ref z5, .int sh, .int li, .int fp, .int sp, .int (nI hc), .ref z6, .int bk, .long fr, .long pa, .long lo, .long st, .long ma, .int ph, .int tr, .int bs, .ref z7, .ref z8]))] sz 0 0 (fun (r : Int32) (_ : Unit) => r = if 0 ≤ p0 ∧ p0 < nI G then 1 else 0) (fun (_ : Unit) => [(h0, .inr (7, [.int th, .int (nI G), .ref z1, .int (nI mw), .int mg, .int up, .int ch, .int (nI k), .ref z2, .ref z3, .ref z4, .ref z5, .int sh, .int li, .int fp, .int sp, .int (nI hc), .ref z6, .int bk, .long fr, .long pa, .long lo, .long st, .long ma, .int ph, .int tr, .int bs, .ref z7, .ref z8]))]) := by
  unfold kMi
  refine k_ofW (cc := cX5_isGrade) (maxL := 2) (ret := (some .boolean)) (lv := [(0, .ref h0), (1, .int p0)]) (by decide) rfl (Nat.le_of_ble_eq_true rfl) rfl ?_
  intro p e s m args below meth c ls H locs hE hsz hw hl
  obtain ⟨hx, hb, hr, hml, hown, hts, hlocks⟩ := hE
  subst hsz
  have hown : s.vm.findClass RX5 = some m.cls := hown
  have k_f61 : (Cond.fieldLink RX5 61 "PaperMachineModel" "grades" "I").before args s = true := hts _ (by decide +kernel)
  have i_X5 : ∀ w ∈ u_ws RX5 TX5 29, w ∈ wsX5_isGrade := fun _ h => List.mem_cons_of_mem _ (List.mem_append_right _ h)
  refine lv_iload_n hx hb dX5_isGrade_0 rfl (lv_at hl 1 rfl) ?_
  refine lv_iconst (v := 0) hx hb dX5_isGrade_1 (by decide) ?_
  refine lv_aload_n hx hb dX5_isGrade_2 rfl (lv_at hl 0 rfl) ?_
  refine k_get hx hb hts i_X5 hown hw 0 1 rfl rfl (by decide) k_f61 rfl dX5_isGrade_3 ?_
  refine lv_iconst (v := 1) hx hb dX5_isGrade_6 (by decide) ?_
  refine lv_isub hx hb dX5_isGrade_7 ?_
  refine k_calli (wr := [(h0, .inr (7, [.int th, .int (nI G), .ref z1, .int (nI mw), .int mg, .int up, .int ch, .int (nI k), .ref z2, .ref z3, .ref z4, .ref z5, .int sh, .int li, .int fp, .int sp, .int (nI hc), .ref z6, .int bk, .long fr, .long pa, .long lo, .long st, .long ma, .int ph, .int tr, .int bs, .ref z7, .ref z8]))]) (k_runS (wc := []) (As := [.int p0, .int 0, .int ((nI G) - 1)]) (rest := []) ⟨hx, hb, hml, hown, hts⟩ (c_X5_in l D cI cC cJ cG H.size p0 0 ((nI G) - 1)) (va_cwS 3 hts gX5_isGrade_X5_in rfl rfl rfl (by decide +kernel) ⟨Nat.le_of_ble_eq_true rfl, Nat.le_of_ble_eq_true rfl⟩) hw [] (by decide) rfl rfl hl.1 rfl (Nat.le_of_ble_eq_true rfl) dX5_isGrade_8 ⟨Nat.zero_le _, Nat.zero_le _⟩) hw [] [0] rfl rfl (by decide) (by decide) (fun r8 u8 H locs w8 hw => ?_)
  replace hw : kW D (kty cI cC cJ cG) s (va_A [(h0, .inr (7, [.int th, .int (nI G), .ref z1, .int (nI mw), .int mg, .int up, .int ch, .int (nI k), .ref z2, .ref z3, .ref z4, .ref z5, .int sh, .int li, .int fp, .int sp, .int (nI hc), .ref z6, .int bk, .long fr, .long pa, .long lo, .long st, .long ma, .int ph, .int tr, .int bs, .ref z7, .ref z8]))] s.heap.size) [(h0, .inr (7, [.int th, .int (nI G), .ref z1, .int (nI mw), .int mg, .int up, .int ch, .int (nI k), .ref z2, .ref z3, .ref z4, .ref z5, .int sh, .int li, .int fp, .int sp, .int (nI hc), .ref z6, .int bk, .long fr, .long pa, .long lo, .long st, .long ma, .int ph, .int tr, .int bs, .ref z7, .ref z8]))] H locs := hw
  replace w8 : r8 = if 0 ≤ p0 ∧ p0 ≤ ((nI G) - 1) then 1 else 0 := w8
  by_cases b8 : 0 ≤ p0 ∧ p0 ≤ ((nI G) - 1)
  · rw [if_pos b8] at w8
    subst w8
    exact k_zret () hx hb hr rfl hlocks hw (show (1 : Int32) = if 0 ≤ p0 ∧ p0 < nI G then 1 else 0 from by rw [if_pos ((m_in hn).mp b8)]) dX5_isGrade_11
  · rw [if_neg b8] at w8
    subst w8
    exact k_zret () hx hb hr rfl hlocks hw (show (0 : Int32) = if 0 ≤ p0 ∧ p0 < nI G then 1 else 0 from by rw [if_neg (fun h => b8 ((m_in hn).mpr h))]) dX5_isGrade_11

set_option maxRecDepth 100000 in
set_option maxHeartbeats 4000000 in
/-- X5_isOrder -/
theorem c_X5_isOrder (l : Launch) (D : va_G) (cI cC cJ cG : ClassId) (h0 : Nat) (sz : Nat) (z1 z2 z3 z4 z5 z6 z7 z8 : Nat) (th : Int32) (G mw : Nat) (mg up ch : Int32) (k : Nat) (sh li fp sp : Int32) (hc : Nat) (bk : Int32) (fr pa lo st ma : Int64) (ph tr bs : Int32) (p0 : Int32) (hn : k ≤ 1000) : kMi l yX5_isOrder wsX5_isOrder ({ frames := 1, cells := 0, slots := 0, locals := 22 }) D (kty cI cC cJ cG) [.ref h0, .int p0] [(h0, .inr (7, [.int th, .int (nI G), .ref z1, .int (nI mw), .int mg, .int up, .int ch, .int (nI k), .ref z2, .ref z3, .ref z4, .ref z5, .int sh, .int li, .int fp, .int sp, .int (nI hc), .ref z6, .int bk, .long fr, .long pa, .long lo, .long st, .long ma, .int ph, .int tr, .int bs, .ref z7, .ref z8]))] sz 0 0 (fun (r : Int32) (_ : Unit) => r = if 0 ≤ p0 ∧ p0 < nI k then 1 else 0) (fun (_ : Unit) => [(h0, .inr (7, [.int th, .int (nI G), .ref z1, .int (nI mw), .int mg, .int up, .int ch, .int (nI k), .ref z2, .ref z3, .ref z4, .ref z5, .int sh, .int li, .int fp, .int sp, .int (nI hc), .ref z6, .int bk, .long fr, .long pa, .long lo, .long st, .long ma, .int ph, .int tr, .int bs, .ref z7, .ref z8]))]) := by
  unfold kMi
  refine k_ofW (cc := cX5_isOrder) (maxL := 2) (ret := (some .boolean)) (lv := [(0, .ref h0), (1, .int p0)]) (by decide) rfl (Nat.le_of_ble_eq_true rfl) rfl ?_
  intro p e s m args below meth c ls H locs hE hsz hw hl
  obtain ⟨hx, hb, hr, hml, hown, hts, hlocks⟩ := hE
  subst hsz
  have hown : s.vm.findClass RX5 = some m.cls := hown
  have k_f68 : (Cond.fieldLink RX5 68 "PaperMachineModel" "orders" "I").before args s = true := hts _ (by decide +kernel)
  have i_X5 : ∀ w ∈ u_ws RX5 TX5 29, w ∈ wsX5_isOrder := fun _ h => List.mem_cons_of_mem _ (List.mem_append_right _ h)
  refine lv_iload_n hx hb dX5_isOrder_0 rfl (lv_at hl 1 rfl) ?_
  refine lv_iconst (v := 0) hx hb dX5_isOrder_1 (by decide) ?_
  refine lv_aload_n hx hb dX5_isOrder_2 rfl (lv_at hl 0 rfl) ?_
  refine k_get hx hb hts i_X5 hown hw 0 7 rfl rfl (by decide) k_f68 rfl dX5_isOrder_3 ?_
  refine lv_iconst (v := 1) hx hb dX5_isOrder_6 (by decide) ?_
  refine lv_isub hx hb dX5_isOrder_7 ?_
  refine k_calli (wr := [(h0, .inr (7, [.int th, .int (nI G), .ref z1, .int (nI mw), .int mg, .int up, .int ch, .int (nI k), .ref z2, .ref z3, .ref z4, .ref z5, .int sh, .int li, .int fp, .int sp, .int (nI hc), .ref z6, .int bk, .long fr, .long pa, .long lo, .long st, .long ma, .int ph, .int tr, .int bs, .ref z7, .ref z8]))]) (k_runS (wc := []) (As := [.int p0, .int 0, .int ((nI k) - 1)]) (rest := []) ⟨hx, hb, hml, hown, hts⟩ (c_X5_in l D cI cC cJ cG H.size p0 0 ((nI k) - 1)) (va_cwS 3 hts gX5_isOrder_X5_in rfl rfl rfl (by decide +kernel) ⟨Nat.le_of_ble_eq_true rfl, Nat.le_of_ble_eq_true rfl⟩) hw [] (by decide) rfl rfl hl.1 rfl (Nat.le_of_ble_eq_true rfl) dX5_isOrder_8 ⟨Nat.zero_le _, Nat.zero_le _⟩) hw [] [0] rfl rfl (by decide) (by decide) (fun r8 u8 H locs w8 hw => ?_)
  replace hw : kW D (kty cI cC cJ cG) s (va_A [(h0, .inr (7, [.int th, .int (nI G), .ref z1, .int (nI mw), .int mg, .int up, .int ch, .int (nI k), .ref z2, .ref z3, .ref z4, .ref z5, .int sh, .int li, .int fp, .int sp, .int (nI hc), .ref z6, .int bk, .long fr, .long pa, .long lo, .long st, .long ma, .int ph, .int tr, .int bs, .ref z7, .ref z8]))] s.heap.size) [(h0, .inr (7, [.int th, .int (nI G), .ref z1, .int (nI mw), .int mg, .int up, .int ch, .int (nI k), .ref z2, .ref z3, .ref z4, .ref z5, .int sh, .int li, .int fp, .int sp, .int (nI hc), .ref z6, .int bk, .long fr, .long pa, .long lo, .long st, .long ma, .int ph, .int tr, .int bs, .ref z7, .ref z8]))] H locs := hw
  replace w8 : r8 = if 0 ≤ p0 ∧ p0 ≤ ((nI k) - 1) then 1 else 0 := w8
  by_cases b8 : 0 ≤ p0 ∧ p0 ≤ ((nI k) - 1)
  · rw [if_pos b8] at w8
    subst w8
    exact k_zret () hx hb hr rfl hlocks hw (show (1 : Int32) = if 0 ≤ p0 ∧ p0 < nI k then 1 else 0 from by rw [if_pos ((m_in hn).mp b8)]) dX5_isOrder_11
  · rw [if_neg b8] at w8
    subst w8
    exact k_zret () hx hb hr rfl hlocks hw (show (0 : Int32) = if 0 ≤ p0 ∧ p0 < nI k then 1 else 0 from by rw [if_neg (fun h => b8 ((m_in hn).mpr h))]) dX5_isOrder_11

set_option maxRecDepth 100000 in
set_option maxHeartbeats 4000000 in
/-- X5_hasWeight -/
theorem c_X5_hasWeight (l : Launch) (D : va_G) (cI cC cJ cG : ClassId) (h0 z1 : Nat) (sz : Nat) (z2 z3 z4 z5 z6 z7 z8 : Nat) (th : Int32) (G mw : Nat) (mg up ch : Int32) (k : Nat) (sh li fp sp : Int32) (hc : Nat) (bk : Int32) (fr pa lo st ma : Int64) (ph tr bs : Int32) (we : Nat → Int32) (p0 : Int32) (hG : G ≤ 6) : kMi l yX5_hasWeight wsX5_hasWeight ({ frames := 0, cells := 0, slots := 0, locals := 0 }) D (kty cI cC cJ cG) [.ref h0, .int p0] [(h0, .inr (7, [.int th, .int (nI G), .ref z1, .int (nI mw), .int mg, .int up, .int ch, .int (nI k), .ref z2, .ref z3, .ref z4, .ref z5, .int sh, .int li, .int fp, .int sp, .int (nI hc), .ref z6, .int bk, .long fr, .long pa, .long lo, .long st, .long ma, .int ph, .int tr, .int bs, .ref z7, .ref z8])), (z1, .inl (cI, 6, .inl we))] sz 0 0 (fun (r : Int32) (_ : Unit) => r = if f_tk we p0 G = true then 1 else 0) (fun (_ : Unit) => [(h0, .inr (7, [.int th, .int (nI G), .ref z1, .int (nI mw), .int mg, .int up, .int ch, .int (nI k), .ref z2, .ref z3, .ref z4, .ref z5, .int sh, .int li, .int fp, .int sp, .int (nI hc), .ref z6, .int bk, .long fr, .long pa, .long lo, .long st, .long ma, .int ph, .int tr, .int bs, .ref z7, .ref z8])), (z1, .inl (cI, 6, .inl we))]) := by
  unfold kMi
  refine k_ofW (cc := cX5_hasWeight) (maxL := 4) (ret := (some .boolean)) (lv := [(0, .ref h0), (1, .int p0)]) (by decide) rfl (Nat.le_of_ble_eq_true rfl) rfl ?_
  intro p e s m args below meth c ls H locs hE hsz hw hl
  obtain ⟨hx, hb, hr, hml, hown, hts, hlocks⟩ := hE
  subst hsz
  have hown : s.vm.findClass RX5 = some m.cls := hown
  have k_f61 : (Cond.fieldLink RX5 61 "PaperMachineModel" "grades" "I").before args s = true := hts _ (by decide +kernel)
  have k_f9 : (Cond.fieldLink RX5 9 "PaperMachineModel" "weight" "[I").before args s = true := hts _ (by decide +kernel)
  have i_X5 : ∀ w ∈ u_ws RX5 TX5 29, w ∈ wsX5_hasWeight := fun _ h => List.mem_cons_of_mem _ (List.mem_append_left _ (List.mem_append_right _ h))
  refine lv_iconst (v := 0) hx hb dX5_hasWeight_0 (by decide) ?_
  refine lv_istore_n (lv' := [(2, .int 0), (0, .ref h0), (1, .int p0)]) hx hb dX5_hasWeight_1 rfl hl (by decide) rfl (fun ls hl => ?_)
  refine lv_iconst (v := 0) hx hb dX5_hasWeight_2 (by decide) ?_
  refine lv_istore_n (lv' := [(3, .int 0), (2, .int 0), (0, .ref h0), (1, .int p0)]) hx hb dX5_hasWeight_3 rfl hl (by decide) rfl (fun ls hl => ?_)
  replace hl : lv_has _ 4 [(3, .int (nI 0)), (2, .int 0), (0, .ref h0), (1, .int p0)] := hl
  replace hw : kW D (kty cI cC cJ cG) s (va_A [(h0, .inr (7, [.int th, .int (nI G), .ref z1, .int (nI mw), .int mg, .int up, .int ch, .int (nI k), .ref z2, .ref z3, .ref z4, .ref z5, .int sh, .int li, .int fp, .int sp, .int (nI hc), .ref z6, .int bk, .long fr, .long pa, .long lo, .long st, .long ma, .int ph, .int tr, .int bs, .ref z7, .ref z8])), (z1, .inl (cI, 6, .inl we))] s.heap.size) [(h0, .inr (7, [.int th, .int (nI G), .ref z1, .int (nI mw), .int mg, .int up, .int ch, .int (nI k), .ref z2, .ref z3, .ref z4, .ref z5, .int sh, .int li, .int fp, .int sp, .int (nI hc), .ref z6, .int bk, .long fr, .long pa, .long lo, .long st, .long ma, .int ph, .int tr, .int bs, .ref z7, .ref z8])), (z1, .inl (cI, 6, .inl we))] H locs := hw
  revert hl; revert hw; revert ls; revert locs; revert H
  refine k_loop (fun ((i, x) : (Nat) × (Int32)) => i ≤ G ∧ x = (if f_tk we p0 i = true then 1 else 0)) (fun ((i, x) : (Nat) × (Int32)) => G - i) (fun ((i, x) : (Nat) × (Int32)) => [(h0, .inr (7, [.int th, .int (nI G), .ref z1, .int (nI mw), .int mg, .int up, .int ch, .int (nI k), .ref z2, .ref z3, .ref z4, .ref z5, .int sh, .int li, .int fp, .int sp, .int (nI hc), .ref z6, .int bk, .long fr, .long pa, .long lo, .long st, .long ma, .int ph, .int tr, .int bs, .ref z7, .ref z8])), (z1, .inl (cI, 6, .inl we))]) (fun ((i, x) : (Nat) × (Int32)) => [(3, .int (nI i)), (2, .int x), (0, .ref h0), (1, .int p0)]) (0, 0) (show (0 : Nat) ≤ G ∧ (0 : Int32) = (if f_tk we p0 (0 : Nat) = true then 1 else 0) from ⟨Nat.zero_le _, rfl⟩) ?_
  intro ⟨i, x⟩ hI ih4 H locs ls hw hl
  replace hI : i ≤ G ∧ x = (if f_tk we p0 i = true then 1 else 0) := hI
  replace hw : kW D (kty cI cC cJ cG) s (va_A [(h0, .inr (7, [.int th, .int (nI G), .ref z1, .int (nI mw), .int mg, .int up, .int ch, .int (nI k), .ref z2, .ref z3, .ref z4, .ref z5, .int sh, .int li, .int fp, .int sp, .int (nI hc), .ref z6, .int bk, .long fr, .long pa, .long lo, .long st, .long ma, .int ph, .int tr, .int bs, .ref z7, .ref z8])), (z1, .inl (cI, 6, .inl we))] s.heap.size) [(h0, .inr (7, [.int th, .int (nI G), .ref z1, .int (nI mw), .int mg, .int up, .int ch, .int (nI k), .ref z2, .ref z3, .ref z4, .ref z5, .int sh, .int li, .int fp, .int sp, .int (nI hc), .ref z6, .int bk, .long fr, .long pa, .long lo, .long st, .long ma, .int ph, .int tr, .int bs, .ref z7, .ref z8])), (z1, .inl (cI, 6, .inl we))] H locs := hw
  replace hl : lv_has ls 4 [(3, .int (nI i)), (2, .int x), (0, .ref h0), (1, .int p0)] := hl
  refine lv_iload_n hx hb dX5_hasWeight_4 rfl (lv_at hl 0 rfl) ?_
  refine lv_aload_n hx hb dX5_hasWeight_5 rfl (lv_at hl 2 rfl) ?_
  refine k_get hx hb hts i_X5 hown hw 0 1 rfl rfl (by decide) k_f61 rfl dX5_hasWeight_6 ?_
  refine lv_icmp_ge (tgt := 38) hx hb dX5_hasWeight_9 (by decide) (fun c9 => ?_) (fun c9 => ?_)
  · have hi : G ≤ i := k_le c9 (by omega) (by omega)
    have hiG : i = G := by omega
    refine lv_iload_n hx hb dX5_hasWeight_38 rfl (lv_at hl 1 rfl) ?_
    exact k_zret () hx hb hr (by rw [hI.2]; split <;> rfl) hlocks hw (by rw [← hiG]; exact hI.2) dX5_hasWeight_39
  · have hi : i < G := k_lt c9 (by omega) (by omega)
    refine lv_iload_n hx hb dX5_hasWeight_12 rfl (lv_at hl 1 rfl) ?_
    refine lv_if_ne (tgt := 26) hx hb dX5_hasWeight_13 (by decide) (fun c13 => ?_) (fun c13 => ?_)
    · refine lv_iconst (v := 1) hx hb dX5_hasWeight_26 (by decide) ?_
      refine lv_goto (tgt := 31) hx hb dX5_hasWeight_27 (by decide) ?_
      refine lv_istore_n (lv' := [(2, .int 1), (3, .int (nI i)), (0, .ref h0), (1, .int p0)]) hx hb dX5_hasWeight_31 rfl hl (by decide) rfl (fun ls hl => ?_)
      refine lv_iinc (v := nI (i + 1)) (lv' := [(3, .int (nI (i + 1))), (2, .int 1), (0, .ref h0), (1, .int p0)]) hx hb dX5_hasWeight_32 hl (k := 1) rfl (nI_1 i) (by decide) rfl (fun ls hl => ?_)
      refine lv_goto (tgt := 4) hx hb dX5_hasWeight_35 (by decide) ?_
      exact ih4 ((i + 1), 1) _ _ _ (show (i + 1) ≤ G ∧ (1 : Int32) = (if f_tk we p0 (i + 1) = true then 1 else 0) from ⟨by omega, (by have ht : f_tk we p0 i = true := Classical.byContradiction (fun q => c13 (by rw [hI.2, if_neg q])); rw [f_tk, ht, Bool.true_or, if_pos rfl])⟩) (show G - (i + 1) < G - i from by omega) hw (lv_sub hl [0, 1, 2, 3] rfl)
    · refine lv_aload_n hx hb dX5_hasWeight_16 rfl (lv_at hl 2 rfl) ?_
      refine k_get hx hb hts i_X5 hown hw 0 2 rfl rfl (by decide) k_f9 rfl dX5_hasWeight_17 ?_
      refine lv_iload_n hx hb dX5_hasWeight_20 rfl (lv_at hl 0 rfl) ?_
      refine k_iald hx hb hw 1 0 rfl rfl i rfl (by omega) (Nat.le_of_ble_eq_true rfl) dX5_hasWeight_21 ?_
      refine lv_iload_n hx hb dX5_hasWeight_22 rfl (lv_at hl 3 rfl) ?_
      refine lv_icmp_ne (tgt := 30) hx hb dX5_hasWeight_23 (by decide) (fun c23 => ?_) (fun c23 => ?_)
      · refine lv_iconst (v := 0) hx hb dX5_hasWeight_30 (by decide) ?_
        refine lv_istore_n (lv' := [(2, .int 0), (3, .int (nI i)), (0, .ref h0), (1, .int p0)]) hx hb dX5_hasWeight_31 rfl hl (by decide) rfl (fun ls hl => ?_)
        refine lv_iinc (v := nI (i + 1)) (lv' := [(3, .int (nI (i + 1))), (2, .int 0), (0, .ref h0), (1, .int p0)]) hx hb dX5_hasWeight_32 hl (k := 1) rfl (nI_1 i) (by decide) rfl (fun ls hl => ?_)
        refine lv_goto (tgt := 4) hx hb dX5_hasWeight_35 (by decide) ?_
        exact ih4 ((i + 1), 0) _ _ _ (show (i + 1) ≤ G ∧ (0 : Int32) = (if f_tk we p0 (i + 1) = true then 1 else 0) from ⟨by omega, (by have hf : f_tk we p0 i = false := Bool.eq_false_iff.mpr (fun q => absurd c13 (by rw [hI.2, if_pos q]; decide)); rw [f_tk, hf, Bool.false_or, beq_false_of_ne c23, if_neg Bool.false_ne_true])⟩) (show G - (i + 1) < G - i from by omega) hw (lv_sub hl [0, 1, 2, 3] rfl)
      · refine lv_iconst (v := 1) hx hb dX5_hasWeight_26 (by decide) ?_
        refine lv_goto (tgt := 31) hx hb dX5_hasWeight_27 (by decide) ?_
        refine lv_istore_n (lv' := [(2, .int 1), (3, .int (nI i)), (0, .ref h0), (1, .int p0)]) hx hb dX5_hasWeight_31 rfl hl (by decide) rfl (fun ls hl => ?_)
        refine lv_iinc (v := nI (i + 1)) (lv' := [(3, .int (nI (i + 1))), (2, .int 1), (0, .ref h0), (1, .int p0)]) hx hb dX5_hasWeight_32 hl (k := 1) rfl (nI_1 i) (by decide) rfl (fun ls hl => ?_)
        refine lv_goto (tgt := 4) hx hb dX5_hasWeight_35 (by decide) ?_
        exact ih4 ((i + 1), 1) _ _ _ (show (i + 1) ≤ G ∧ (1 : Int32) = (if f_tk we p0 (i + 1) = true then 1 else 0) from ⟨by omega, (by have hf : f_tk we p0 i = false := Bool.eq_false_iff.mpr (fun q => absurd c13 (by rw [hI.2, if_pos q]; decide)); rw [f_tk, hf, Bool.false_or, c23, beq_self_eq_true, if_pos rfl])⟩) (show G - (i + 1) < G - i from by omega) hw (lv_sub hl [0, 1, 2, 3] rfl)

set_option maxRecDepth 100000 in
set_option maxHeartbeats 4000000 in
/-- X5_hasOrders -/
theorem c_X5_hasOrders (l : Launch) (D : va_G) (cI cC cJ cG : ClassId) (h0 z2 z4 : Nat) (sz : Nat) (z1 z3 z5 z6 z7 z8 : Nat) (th : Int32) (G mw : Nat) (mg up ch : Int32) (k : Nat) (sh li fp sp : Int32) (hc : Nat) (bk : Int32) (fr pa lo st ma : Int64) (ph tr bs : Int32) (og ol : Nat → Int32) (p0 : Int32) (hk : k ≤ 10) : kMi l yX5_hasOrders wsX5_hasOrders ({ frames := 0, cells := 0, slots := 0, locals := 0 }) D (kty cI cC cJ cG) [.ref h0, .int p0] [(h0, .inr (7, [.int th, .int (nI G), .ref z1, .int (nI mw), .int mg, .int up, .int ch, .int (nI k), .ref z2, .ref z3, .ref z4, .ref z5, .int sh, .int li, .int fp, .int sp, .int (nI hc), .ref z6, .int bk, .long fr, .long pa, .long lo, .long st, .long ma, .int ph, .int tr, .int bs, .ref z7, .ref z8])), (z2, .inl (cI, 10, .inl og)), (z4, .inl (cI, 10, .inl ol))] sz 0 0 (fun (r : Int32) (_ : Unit) => r = if f_ho og ol p0 k = true then 1 else 0) (fun (_ : Unit) => [(h0, .inr (7, [.int th, .int (nI G), .ref z1, .int (nI mw), .int mg, .int up, .int ch, .int (nI k), .ref z2, .ref z3, .ref z4, .ref z5, .int sh, .int li, .int fp, .int sp, .int (nI hc), .ref z6, .int bk, .long fr, .long pa, .long lo, .long st, .long ma, .int ph, .int tr, .int bs, .ref z7, .ref z8])), (z2, .inl (cI, 10, .inl og)), (z4, .inl (cI, 10, .inl ol))]) := by
  unfold kMi
  refine k_ofW (cc := cX5_hasOrders) (maxL := 4) (ret := (some .boolean)) (lv := [(0, .ref h0), (1, .int p0)]) (by decide) rfl (Nat.le_of_ble_eq_true rfl) rfl ?_
  intro p e s m args below meth c ls H locs hE hsz hw hl
  obtain ⟨hx, hb, hr, hml, hown, hts, hlocks⟩ := hE
  subst hsz
  have hown : s.vm.findClass RX5 = some m.cls := hown
  have k_f68 : (Cond.fieldLink RX5 68 "PaperMachineModel" "orders" "I").before args s = true := hts _ (by decide +kernel)
  have k_f24 : (Cond.fieldLink RX5 24 "PaperMachineModel" "orderGrade" "[I").before args s = true := hts _ (by decide +kernel)
  have k_f30 : (Cond.fieldLink RX5 30 "PaperMachineModel" "lacks" "[I").before args s = true := hts _ (by decide +kernel)
  have i_X5 : ∀ w ∈ u_ws RX5 TX5 29, w ∈ wsX5_hasOrders := fun _ h => List.mem_cons_of_mem _ (List.mem_append_left _ (List.mem_append_right _ h))
  refine lv_iconst (v := 0) hx hb dX5_hasOrders_0 (by decide) ?_
  refine lv_istore_n (lv' := [(2, .int 0), (0, .ref h0), (1, .int p0)]) hx hb dX5_hasOrders_1 rfl hl (by decide) rfl (fun ls hl => ?_)
  refine lv_iconst (v := 0) hx hb dX5_hasOrders_2 (by decide) ?_
  refine lv_istore_n (lv' := [(3, .int 0), (2, .int 0), (0, .ref h0), (1, .int p0)]) hx hb dX5_hasOrders_3 rfl hl (by decide) rfl (fun ls hl => ?_)
  replace hl : lv_has _ 4 [(3, .int (nI 0)), (2, .int 0), (0, .ref h0), (1, .int p0)] := hl
  replace hw : kW D (kty cI cC cJ cG) s (va_A [(h0, .inr (7, [.int th, .int (nI G), .ref z1, .int (nI mw), .int mg, .int up, .int ch, .int (nI k), .ref z2, .ref z3, .ref z4, .ref z5, .int sh, .int li, .int fp, .int sp, .int (nI hc), .ref z6, .int bk, .long fr, .long pa, .long lo, .long st, .long ma, .int ph, .int tr, .int bs, .ref z7, .ref z8])), (z2, .inl (cI, 10, .inl og)), (z4, .inl (cI, 10, .inl ol))] s.heap.size) [(h0, .inr (7, [.int th, .int (nI G), .ref z1, .int (nI mw), .int mg, .int up, .int ch, .int (nI k), .ref z2, .ref z3, .ref z4, .ref z5, .int sh, .int li, .int fp, .int sp, .int (nI hc), .ref z6, .int bk, .long fr, .long pa, .long lo, .long st, .long ma, .int ph, .int tr, .int bs, .ref z7, .ref z8])), (z2, .inl (cI, 10, .inl og)), (z4, .inl (cI, 10, .inl ol))] H locs := hw
  revert hl; revert hw; revert ls; revert locs; revert H
  refine k_loop (fun ((i, x) : (Nat) × (Int32)) => i ≤ k ∧ x = (if f_ho og ol p0 i = true then 1 else 0)) (fun ((i, x) : (Nat) × (Int32)) => k - i) (fun ((i, x) : (Nat) × (Int32)) => [(h0, .inr (7, [.int th, .int (nI G), .ref z1, .int (nI mw), .int mg, .int up, .int ch, .int (nI k), .ref z2, .ref z3, .ref z4, .ref z5, .int sh, .int li, .int fp, .int sp, .int (nI hc), .ref z6, .int bk, .long fr, .long pa, .long lo, .long st, .long ma, .int ph, .int tr, .int bs, .ref z7, .ref z8])), (z2, .inl (cI, 10, .inl og)), (z4, .inl (cI, 10, .inl ol))]) (fun ((i, x) : (Nat) × (Int32)) => [(3, .int (nI i)), (2, .int x), (0, .ref h0), (1, .int p0)]) (0, 0) (show (0 : Nat) ≤ k ∧ (0 : Int32) = (if f_ho og ol p0 (0 : Nat) = true then 1 else 0) from ⟨Nat.zero_le _, rfl⟩) ?_
  intro ⟨i, x⟩ hI ih4 H locs ls hw hl
  replace hI : i ≤ k ∧ x = (if f_ho og ol p0 i = true then 1 else 0) := hI
  replace hw : kW D (kty cI cC cJ cG) s (va_A [(h0, .inr (7, [.int th, .int (nI G), .ref z1, .int (nI mw), .int mg, .int up, .int ch, .int (nI k), .ref z2, .ref z3, .ref z4, .ref z5, .int sh, .int li, .int fp, .int sp, .int (nI hc), .ref z6, .int bk, .long fr, .long pa, .long lo, .long st, .long ma, .int ph, .int tr, .int bs, .ref z7, .ref z8])), (z2, .inl (cI, 10, .inl og)), (z4, .inl (cI, 10, .inl ol))] s.heap.size) [(h0, .inr (7, [.int th, .int (nI G), .ref z1, .int (nI mw), .int mg, .int up, .int ch, .int (nI k), .ref z2, .ref z3, .ref z4, .ref z5, .int sh, .int li, .int fp, .int sp, .int (nI hc), .ref z6, .int bk, .long fr, .long pa, .long lo, .long st, .long ma, .int ph, .int tr, .int bs, .ref z7, .ref z8])), (z2, .inl (cI, 10, .inl og)), (z4, .inl (cI, 10, .inl ol))] H locs := hw
  replace hl : lv_has ls 4 [(3, .int (nI i)), (2, .int x), (0, .ref h0), (1, .int p0)] := hl
  refine lv_iload_n hx hb dX5_hasOrders_4 rfl (lv_at hl 0 rfl) ?_
  refine lv_aload_n hx hb dX5_hasOrders_5 rfl (lv_at hl 2 rfl) ?_
  refine k_get hx hb hts i_X5 hown hw 0 7 rfl rfl (by decide) k_f68 rfl dX5_hasOrders_6 ?_
  refine lv_icmp_ge (tgt := 47) hx hb dX5_hasOrders_9 (by decide) (fun c9 => ?_) (fun c9 => ?_)
  · have hi : k ≤ i := k_le c9 (by omega) (by omega)
    have hik : i = k := by omega
    refine lv_iload_n hx hb dX5_hasOrders_47 rfl (lv_at hl 1 rfl) ?_
    exact k_zret () hx hb hr (by rw [hI.2]; split <;> rfl) hlocks hw (by rw [← hik]; exact hI.2) dX5_hasOrders_48
  · have hi : i < k := k_lt c9 (by omega) (by omega)
    refine lv_iload_n hx hb dX5_hasOrders_12 rfl (lv_at hl 1 rfl) ?_
    refine lv_if_ne (tgt := 35) hx hb dX5_hasOrders_13 (by decide) (fun c13 => ?_) (fun c13 => ?_)
    · refine lv_iconst (v := 1) hx hb dX5_hasOrders_35 (by decide) ?_
      refine lv_goto (tgt := 40) hx hb dX5_hasOrders_36 (by decide) ?_
      refine lv_istore_n (lv' := [(2, .int 1), (3, .int (nI i)), (0, .ref h0), (1, .int p0)]) hx hb dX5_hasOrders_40 rfl hl (by decide) rfl (fun ls hl => ?_)
      refine lv_iinc (v := nI (i + 1)) (lv' := [(3, .int (nI (i + 1))), (2, .int 1), (0, .ref h0), (1, .int p0)]) hx hb dX5_hasOrders_41 hl (k := 1) rfl (nI_1 i) (by decide) rfl (fun ls hl => ?_)
      refine lv_goto (tgt := 4) hx hb dX5_hasOrders_44 (by decide) ?_
      exact ih4 ((i + 1), 1) _ _ _ (show (i + 1) ≤ k ∧ (1 : Int32) = (if f_ho og ol p0 (i + 1) = true then 1 else 0) from ⟨by omega, (by have ht : f_ho og ol p0 i = true := Classical.byContradiction (fun q => c13 (by rw [hI.2, if_neg q])); rw [f_ho, ht, Bool.true_or, if_pos rfl])⟩) (show k - (i + 1) < k - i from by omega) hw (lv_sub hl [0, 1, 2, 3] rfl)
    · refine lv_aload_n hx hb dX5_hasOrders_16 rfl (lv_at hl 2 rfl) ?_
      refine k_get hx hb hts i_X5 hown hw 0 8 rfl rfl (by decide) k_f24 rfl dX5_hasOrders_17 ?_
      refine lv_iload_n hx hb dX5_hasOrders_20 rfl (lv_at hl 0 rfl) ?_
      refine k_iald hx hb hw 1 0 rfl rfl i rfl (by omega) (Nat.le_of_ble_eq_true rfl) dX5_hasOrders_21 ?_
      refine lv_iload_n hx hb dX5_hasOrders_22 rfl (lv_at hl 3 rfl) ?_
      refine lv_icmp_ne (tgt := 39) hx hb dX5_hasOrders_23 (by decide) (fun c23 => ?_) (fun c23 => ?_)
      · refine lv_iconst (v := 0) hx hb dX5_hasOrders_39 (by decide) ?_
        refine lv_istore_n (lv' := [(2, .int 0), (3, .int (nI i)), (0, .ref h0), (1, .int p0)]) hx hb dX5_hasOrders_40 rfl hl (by decide) rfl (fun ls hl => ?_)
        refine lv_iinc (v := nI (i + 1)) (lv' := [(3, .int (nI (i + 1))), (2, .int 0), (0, .ref h0), (1, .int p0)]) hx hb dX5_hasOrders_41 hl (k := 1) rfl (nI_1 i) (by decide) rfl (fun ls hl => ?_)
        refine lv_goto (tgt := 4) hx hb dX5_hasOrders_44 (by decide) ?_
        exact ih4 ((i + 1), 0) _ _ _ (show (i + 1) ≤ k ∧ (0 : Int32) = (if f_ho og ol p0 (i + 1) = true then 1 else 0) from ⟨by omega, (by have hf : f_ho og ol p0 i = false := Bool.eq_false_iff.mpr (fun q => absurd c13 (by rw [hI.2, if_pos q]; decide)); rw [f_ho, hf, Bool.false_or, decide_eq_false c23, Bool.false_and, if_neg Bool.false_ne_true])⟩) (show k - (i + 1) < k - i from by omega) hw (lv_sub hl [0, 1, 2, 3] rfl)
      · refine lv_aload_n hx hb dX5_hasOrders_26 rfl (lv_at hl 2 rfl) ?_
        refine k_get hx hb hts i_X5 hown hw 0 10 rfl rfl (by decide) k_f30 rfl dX5_hasOrders_27 ?_
        refine lv_iload_n hx hb dX5_hasOrders_30 rfl (lv_at hl 0 rfl) ?_
        refine k_iald hx hb hw 2 0 rfl rfl i rfl (by omega) (Nat.le_of_ble_eq_true rfl) dX5_hasOrders_31 ?_
        refine lv_if_le (tgt := 39) hx hb dX5_hasOrders_32 (by decide) (fun c32 => ?_) (fun c32 => ?_)
        · refine lv_iconst (v := 0) hx hb dX5_hasOrders_39 (by decide) ?_
          refine lv_istore_n (lv' := [(2, .int 0), (3, .int (nI i)), (0, .ref h0), (1, .int p0)]) hx hb dX5_hasOrders_40 rfl hl (by decide) rfl (fun ls hl => ?_)
          refine lv_iinc (v := nI (i + 1)) (lv' := [(3, .int (nI (i + 1))), (2, .int 0), (0, .ref h0), (1, .int p0)]) hx hb dX5_hasOrders_41 hl (k := 1) rfl (nI_1 i) (by decide) rfl (fun ls hl => ?_)
          refine lv_goto (tgt := 4) hx hb dX5_hasOrders_44 (by decide) ?_
          exact ih4 ((i + 1), 0) _ _ _ (show (i + 1) ≤ k ∧ (0 : Int32) = (if f_ho og ol p0 (i + 1) = true then 1 else 0) from ⟨by omega, (by have hf : f_ho og ol p0 i = false := Bool.eq_false_iff.mpr (fun q => absurd c13 (by rw [hI.2, if_pos q]; decide)); rw [f_ho, hf, Bool.false_or, decide_eq_true c23, Bool.true_and, decide_eq_false (Int32.not_lt.mpr c32), if_neg Bool.false_ne_true])⟩) (show k - (i + 1) < k - i from by omega) hw (lv_sub hl [0, 1, 2, 3] rfl)
        · refine lv_iconst (v := 1) hx hb dX5_hasOrders_35 (by decide) ?_
          refine lv_goto (tgt := 40) hx hb dX5_hasOrders_36 (by decide) ?_
          refine lv_istore_n (lv' := [(2, .int 1), (3, .int (nI i)), (0, .ref h0), (1, .int p0)]) hx hb dX5_hasOrders_40 rfl hl (by decide) rfl (fun ls hl => ?_)
          refine lv_iinc (v := nI (i + 1)) (lv' := [(3, .int (nI (i + 1))), (2, .int 1), (0, .ref h0), (1, .int p0)]) hx hb dX5_hasOrders_41 hl (k := 1) rfl (nI_1 i) (by decide) rfl (fun ls hl => ?_)
          refine lv_goto (tgt := 4) hx hb dX5_hasOrders_44 (by decide) ?_
          exact ih4 ((i + 1), 1) _ _ _ (show (i + 1) ≤ k ∧ (1 : Int32) = (if f_ho og ol p0 (i + 1) = true then 1 else 0) from ⟨by omega, (by have hf : f_ho og ol p0 i = false := Bool.eq_false_iff.mpr (fun q => absurd c13 (by rw [hI.2, if_pos q]; decide)); rw [f_ho, hf, Bool.false_or, decide_eq_true c23, Bool.true_and, decide_eq_true (Int32.not_le.mp c32), if_pos rfl])⟩) (show k - (i + 1) < k - i from by omega) hw (lv_sub hl [0, 1, 2, 3] rfl)

set_option maxRecDepth 100000 in
set_option maxHeartbeats 4000000 in
/-- X5_nextFrom -/
theorem c_X5_nextFrom (l : Launch) (D : va_G) (cI cC cJ cG : ClassId) (h0 z1 z2 z4 : Nat) (sz : Nat) (z3 z5 z6 z7 z8 : Nat) (th : Int32) (G mw : Nat) (mg up ch : Int32) (k : Nat) (sh li fp sp : Int32) (hc : Nat) (bk : Int32) (fr pa lo st ma : Int64) (ph tr bs : Int32) (we og ol : Nat → Int32) (p0 p1 : Int32) (hG : G ≤ 6) (hk : k ≤ 10) : kMi l yX5_nextFrom wsX5_nextFrom ({ frames := 1, cells := 0, slots := 0, locals := 23 }) D (kty cI cC cJ cG) [.ref h0, .int p0, .int p1] [(h0, .inr (7, [.int th, .int (nI G), .ref z1, .int (nI mw), .int mg, .int up, .int ch, .int (nI k), .ref z2, .ref z3, .ref z4, .ref z5, .int sh, .int li, .int fp, .int sp, .int (nI hc), .ref z6, .int bk, .long fr, .long pa, .long lo, .long st, .long ma, .int ph, .int tr, .int bs, .ref z7, .ref z8])), (z1, .inl (cI, 6, .inl we)), (z2, .inl (cI, 10, .inl og)), (z4, .inl (cI, 10, .inl ol))] sz 0 0 (fun (r : Int32) (_ : Unit) => r = f_nf we (f_hoz og ol k) p0 p1 G) (fun (_ : Unit) => [(h0, .inr (7, [.int th, .int (nI G), .ref z1, .int (nI mw), .int mg, .int up, .int ch, .int (nI k), .ref z2, .ref z3, .ref z4, .ref z5, .int sh, .int li, .int fp, .int sp, .int (nI hc), .ref z6, .int bk, .long fr, .long pa, .long lo, .long st, .long ma, .int ph, .int tr, .int bs, .ref z7, .ref z8])), (z1, .inl (cI, 6, .inl we)), (z2, .inl (cI, 10, .inl og)), (z4, .inl (cI, 10, .inl ol))]) := by
  unfold kMi
  refine k_ofW (cc := cX5_nextFrom) (maxL := 7) (ret := (some .int)) (lv := [(0, .ref h0), (1, .int p0), (2, .int p1)]) (by decide) rfl (Nat.le_of_ble_eq_true rfl) rfl ?_
  intro p e s m args below meth c ls H locs hE hsz hw hl
  obtain ⟨hx, hb, hr, hml, hown, hts, hlocks⟩ := hE
  subst hsz
  have hown : s.vm.findClass RX5 = some m.cls := hown
  have k_f61 : (Cond.fieldLink RX5 61 "PaperMachineModel" "grades" "I").before args s = true := hts _ (by decide +kernel)
  have k_f9 : (Cond.fieldLink RX5 9 "PaperMachineModel" "weight" "[I").before args s = true := hts _ (by decide +kernel)
  have i_X5 : ∀ w ∈ u_ws RX5 TX5 29, w ∈ wsX5_nextFrom := fun _ h => List.mem_cons_of_mem _ (List.mem_append_left _ (List.mem_append_right _ h))
  refine lv_iconst (v := (-1)) hx hb dX5_nextFrom_0 (by decide) ?_
  refine lv_istore_n (lv' := [(3, .int (-1)), (0, .ref h0), (1, .int p0), (2, .int p1)]) hx hb dX5_nextFrom_1 rfl hl (by decide) rfl (fun ls hl => ?_)
  refine lv_iconst (v := 0) hx hb dX5_nextFrom_2 (by decide) ?_
  refine lv_istore (lv' := [(4, .int 0), (3, .int (-1)), (0, .ref h0), (1, .int p0), (2, .int p1)]) hx hb dX5_nextFrom_3 hl (by decide) rfl (fun ls hl => ?_)
  replace hl : lv_has _ 7 [(4, .int (nI 0)), (3, .int (-1)), (0, .ref h0), (1, .int p0), (2, .int p1)] := hl
  replace hw : kW D (kty cI cC cJ cG) s (va_A [(h0, .inr (7, [.int th, .int (nI G), .ref z1, .int (nI mw), .int mg, .int up, .int ch, .int (nI k), .ref z2, .ref z3, .ref z4, .ref z5, .int sh, .int li, .int fp, .int sp, .int (nI hc), .ref z6, .int bk, .long fr, .long pa, .long lo, .long st, .long ma, .int ph, .int tr, .int bs, .ref z7, .ref z8])), (z1, .inl (cI, 6, .inl we)), (z2, .inl (cI, 10, .inl og)), (z4, .inl (cI, 10, .inl ol))] s.heap.size) [(h0, .inr (7, [.int th, .int (nI G), .ref z1, .int (nI mw), .int mg, .int up, .int ch, .int (nI k), .ref z2, .ref z3, .ref z4, .ref z5, .int sh, .int li, .int fp, .int sp, .int (nI hc), .ref z6, .int bk, .long fr, .long pa, .long lo, .long st, .long ma, .int ph, .int tr, .int bs, .ref z7, .ref z8])), (z1, .inl (cI, 6, .inl we)), (z2, .inl (cI, 10, .inl og)), (z4, .inl (cI, 10, .inl ol))] H locs := hw
  revert hl; revert hw; revert ls; revert locs; revert H
  refine k_loop (fun ((i, fo) : (Nat) × (Int32)) => i ≤ G ∧ fo = f_nf we (f_hoz og ol k) p0 p1 i) (fun ((i, fo) : (Nat) × (Int32)) => G - i) (fun ((i, fo) : (Nat) × (Int32)) => [(h0, .inr (7, [.int th, .int (nI G), .ref z1, .int (nI mw), .int mg, .int up, .int ch, .int (nI k), .ref z2, .ref z3, .ref z4, .ref z5, .int sh, .int li, .int fp, .int sp, .int (nI hc), .ref z6, .int bk, .long fr, .long pa, .long lo, .long st, .long ma, .int ph, .int tr, .int bs, .ref z7, .ref z8])), (z1, .inl (cI, 6, .inl we)), (z2, .inl (cI, 10, .inl og)), (z4, .inl (cI, 10, .inl ol))]) (fun ((i, fo) : (Nat) × (Int32)) => [(4, .int (nI i)), (3, .int fo), (0, .ref h0), (1, .int p0), (2, .int p1)]) (0, (-1)) (show (0 : Nat) ≤ G ∧ ((-1) : Int32) = f_nf we (f_hoz og ol k) p0 p1 (0 : Nat) from ⟨Nat.zero_le _, rfl⟩) ?_
  intro ⟨i, fo⟩ hI ih5 H locs ls hw hl
  replace hI : i ≤ G ∧ fo = f_nf we (f_hoz og ol k) p0 p1 i := hI
  replace hw : kW D (kty cI cC cJ cG) s (va_A [(h0, .inr (7, [.int th, .int (nI G), .ref z1, .int (nI mw), .int mg, .int up, .int ch, .int (nI k), .ref z2, .ref z3, .ref z4, .ref z5, .int sh, .int li, .int fp, .int sp, .int (nI hc), .ref z6, .int bk, .long fr, .long pa, .long lo, .long st, .long ma, .int ph, .int tr, .int bs, .ref z7, .ref z8])), (z1, .inl (cI, 6, .inl we)), (z2, .inl (cI, 10, .inl og)), (z4, .inl (cI, 10, .inl ol))] s.heap.size) [(h0, .inr (7, [.int th, .int (nI G), .ref z1, .int (nI mw), .int mg, .int up, .int ch, .int (nI k), .ref z2, .ref z3, .ref z4, .ref z5, .int sh, .int li, .int fp, .int sp, .int (nI hc), .ref z6, .int bk, .long fr, .long pa, .long lo, .long st, .long ma, .int ph, .int tr, .int bs, .ref z7, .ref z8])), (z1, .inl (cI, 6, .inl we)), (z2, .inl (cI, 10, .inl og)), (z4, .inl (cI, 10, .inl ol))] H locs := hw
  replace hl : lv_has ls 7 [(4, .int (nI i)), (3, .int fo), (0, .ref h0), (1, .int p0), (2, .int p1)] := hl
  refine lv_iload hx hb dX5_nextFrom_5 (lv_at hl 0 rfl) ?_
  refine lv_aload_n hx hb dX5_nextFrom_7 rfl (lv_at hl 2 rfl) ?_
  refine k_get hx hb hts i_X5 hown hw 0 1 rfl rfl (by decide) k_f61 rfl dX5_nextFrom_8 ?_
  refine lv_icmp_ge (tgt := 133) hx hb dX5_nextFrom_11 (by decide) (fun c11 => ?_) (fun c11 => ?_)
  · have hi : G ≤ i := k_le c11 (by omega) (by omega)
    refine lv_iload_n hx hb dX5_nextFrom_133 rfl (lv_at hl 1 rfl) ?_
    exact k_iret () hx hb hr hlocks hw (show fo = f_nf we (f_hoz og ol k) p0 p1 G from by rw [hI.2, show i = G by omega]) dX5_nextFrom_134
  · have hi : i < G := k_lt c11 (by omega) (by omega)
    refine lv_aload_n hx hb dX5_nextFrom_14 rfl (lv_at hl 2 rfl) ?_
    refine lv_iload hx hb dX5_nextFrom_15 (lv_at hl 0 rfl) ?_
    refine k_calli (wr := [(z1, .inl (cI, 6, .inl we))]) (k_runV (wc := [(h0, .inr (7, [.int th, .int (nI G), .ref z1, .int (nI mw), .int mg, .int up, .int ch, .int (nI k), .ref z2, .ref z3, .ref z4, .ref z5, .int sh, .int li, .int fp, .int sp, .int (nI hc), .ref z6, .int bk, .long fr, .long pa, .long lo, .long st, .long ma, .int ph, .int tr, .int bs, .ref z7, .ref z8])), (z2, .inl (cI, 10, .inl og)), (z4, .inl (cI, 10, .inl ol))]) (As := [.int (nI i)]) (rest := []) ⟨hx, hb, hml, hown, hts⟩ (c_X5_hasOrders l D cI cC cJ cG h0 z2 z4 H.size z1 z3 z5 z6 z7 z8 th G mw mg up ch k sh li fp sp hc bk fr pa lo st ma ph tr bs og ol (nI i) hk) (cwV 1 hts gX5_nextFrom_X5_hasOrders rfl rfl rfl (by decide +kernel) ⟨Nat.le_of_ble_eq_true rfl, Nat.le_of_ble_eq_true rfl⟩) hw [0, 2, 3] (by decide) rfl 0 rfl rfl rfl hl.1 rfl (Nat.le_of_ble_eq_true rfl) dX5_nextFrom_17 ⟨Nat.zero_le _, Nat.zero_le _⟩) hw [0, 2, 3] [1] rfl rfl (by decide) (by decide) (fun r17 u17 H locs w17 hw => ?_)
    replace hw : kW D (kty cI cC cJ cG) s (va_A [(h0, .inr (7, [.int th, .int (nI G), .ref z1, .int (nI mw), .int mg, .int up, .int ch, .int (nI k), .ref z2, .ref z3, .ref z4, .ref z5, .int sh, .int li, .int fp, .int sp, .int (nI hc), .ref z6, .int bk, .long fr, .long pa, .long lo, .long st, .long ma, .int ph, .int tr, .int bs, .ref z7, .ref z8])), (z1, .inl (cI, 6, .inl we)), (z2, .inl (cI, 10, .inl og)), (z4, .inl (cI, 10, .inl ol))] s.heap.size) [(z1, .inl (cI, 6, .inl we)), (h0, .inr (7, [.int th, .int (nI G), .ref z1, .int (nI mw), .int mg, .int up, .int ch, .int (nI k), .ref z2, .ref z3, .ref z4, .ref z5, .int sh, .int li, .int fp, .int sp, .int (nI hc), .ref z6, .int bk, .long fr, .long pa, .long lo, .long st, .long ma, .int ph, .int tr, .int bs, .ref z7, .ref z8])), (z2, .inl (cI, 10, .inl og)), (z4, .inl (cI, 10, .inl ol))] H locs := hw
    replace w17 : r17 = if f_ho og ol (nI i) k = true then 1 else 0 := w17
    by_cases b17 : f_ho og ol (nI i) k = true
    · rw [if_pos b17] at w17
      subst w17
      refine lv_if_eq (tgt := 56) hx hb dX5_nextFrom_20 (by decide) (fun h => absurd h (by decide)) (fun _ => ?_)
      have b17 : f_hoz og ol k i = true := b17
      refine lv_iload_n hx hb dX5_nextFrom_23 rfl (lv_at hl 4 rfl) ?_
      refine lv_if_eq (tgt := 41) hx hb dX5_nextFrom_24 (by decide) (fun c24 => ?_) (fun c24 => ?_)
      · refine lv_aload_n hx hb dX5_nextFrom_41 rfl (lv_at hl 2 rfl) ?_
        refine k_get hx hb hts i_X5 hown hw 1 2 rfl rfl (by decide) k_f9 rfl dX5_nextFrom_42 ?_
        refine lv_iload hx hb dX5_nextFrom_45 (lv_at hl 0 rfl) ?_
        refine k_iald hx hb hw 0 0 rfl rfl i rfl (by omega) (Nat.le_of_ble_eq_true rfl) dX5_nextFrom_47 ?_
        refine lv_iload_n hx hb dX5_nextFrom_48 rfl (lv_at hl 3 rfl) ?_
        refine lv_icmp_ge (tgt := 56) hx hb dX5_nextFrom_49 (by decide) (fun c49 => ?_) (fun c49 => ?_)
        · refine lv_iconst (v := 0) hx hb dX5_nextFrom_56 (by decide) ?_
          refine lv_istore (lv' := [(5, .int 0), (4, .int (nI i)), (3, .int fo), (0, .ref h0), (1, .int p0), (2, .int p1)]) hx hb dX5_nextFrom_57 hl (by decide) rfl (fun ls hl => ?_)
          refine lv_iload_n hx hb dX5_nextFrom_59 rfl (lv_at hl 2 rfl) ?_
          refine lv_iconst (v := (-1)) hx hb dX5_nextFrom_60 (by decide) ?_
          refine lv_icmp_eq (tgt := 103) hx hb dX5_nextFrom_61 (by decide) (fun c61 => ?_) (fun c61 => ?_)
          · refine lv_iconst (v := 1) hx hb dX5_nextFrom_103 (by decide) ?_
            refine lv_goto (tgt := 108) hx hb dX5_nextFrom_104 (by decide) ?_
            refine lv_istore (lv' := [(6, .int 1), (5, .int 0), (4, .int (nI i)), (3, .int fo), (0, .ref h0), (1, .int p0), (2, .int p1)]) hx hb dX5_nextFrom_108 hl (by decide) rfl (fun ls hl => ?_)
            refine lv_iload hx hb dX5_nextFrom_110 (lv_at hl 1 rfl) ?_
            refine lv_if_eq (tgt := 125) hx hb dX5_nextFrom_112 (by decide) (fun _ => ?_) (fun h => absurd h (by decide))
            refine lv_iload_n hx hb dX5_nextFrom_125 rfl (lv_at hl 3 rfl) ?_
            refine lv_istore_n (lv' := [(3, .int fo), (6, .int 1), (5, .int 0), (4, .int (nI i)), (0, .ref h0), (1, .int p0), (2, .int p1)]) hx hb dX5_nextFrom_126 rfl hl (by decide) rfl (fun ls hl => ?_)
            refine lv_iinc (v := nI (i + 1)) (lv' := [(4, .int (nI (i + 1))), (3, .int fo), (6, .int 1), (5, .int 0), (0, .ref h0), (1, .int p0), (2, .int p1)]) hx hb dX5_nextFrom_127 hl (k := 3) rfl (nI_1 i) (by decide) rfl (fun ls hl => ?_)
            refine lv_goto (tgt := 5) hx hb dX5_nextFrom_130 (by decide) ?_
            replace hw := hw.pick (ws' := [(h0, .inr (7, [.int th, .int (nI G), .ref z1, .int (nI mw), .int mg, .int up, .int ch, .int (nI k), .ref z2, .ref z3, .ref z4, .ref z5, .int sh, .int li, .int fp, .int sp, .int (nI hc), .ref z6, .int bk, .long fr, .long pa, .long lo, .long st, .long ma, .int ph, .int tr, .int bs, .ref z7, .ref z8])), (z1, .inl (cI, 6, .inl we)), (z2, .inl (cI, 10, .inl og)), (z4, .inl (cI, 10, .inl ol))]) [1, 0, 2, 3] (by decide) rfl
            exact ih5 ((i + 1), fo) _ _ _ (show (i + 1) ≤ G ∧ fo = f_nf we (f_hoz og ol k) p0 p1 (i + 1) from ⟨by omega, by rw [f_nf, if_neg (fun h => absurd h.1.2 (by rw [if_pos c24]; exact Int32.not_lt.mpr c49))]; exact hI.2⟩) (show G - (i + 1) < G - i from by omega) hw (lv_sub hl [0, 1, 4, 5, 6] rfl)
          · obtain ⟨fj, hfj, efj⟩ := (f_nf_in we (f_hoz og ol k) p0 p1 i (by omega)).resolve_left (fun q => c61 (hI.2.trans q))
            have efo : fo.toNatClampNeg = fj := by rw [hI.2, efj, nI_clamp (by omega)]
            have efo2 : fo = nI fj := hI.2.trans efj
            refine lv_iload_n hx hb dX5_nextFrom_64 rfl (lv_at hl 5 rfl) ?_
            refine lv_if_eq (tgt := 87) hx hb dX5_nextFrom_65 (by decide) (fun c65 => ?_) (fun c65 => False.elim (c65 c24))
            refine lv_aload_n hx hb dX5_nextFrom_87 rfl (lv_at hl 3 rfl) ?_
            refine k_get hx hb hts i_X5 hown hw 1 2 rfl rfl (by decide) k_f9 rfl dX5_nextFrom_88 ?_
            refine lv_iload hx hb dX5_nextFrom_91 (lv_at hl 1 rfl) ?_
            refine k_iald hx hb hw 0 0 rfl rfl i rfl (by omega) (Nat.le_of_ble_eq_true rfl) dX5_nextFrom_93 ?_
            refine lv_aload_n hx hb dX5_nextFrom_94 rfl (lv_at hl 3 rfl) ?_
            refine k_get hx hb hts i_X5 hown hw 1 2 rfl rfl (by decide) k_f9 rfl dX5_nextFrom_95 ?_
            refine lv_iload_n hx hb dX5_nextFrom_98 rfl (lv_at hl 2 rfl) ?_
            refine k_iald hx hb hw 0 0 rfl rfl fj efo2 (by omega) (Nat.le_of_ble_eq_true rfl) dX5_nextFrom_99 ?_
            refine lv_icmp_le (tgt := 107) hx hb dX5_nextFrom_100 (by decide) (fun c100 => ?_) (fun c100 => ?_)
            · refine lv_iconst (v := 0) hx hb dX5_nextFrom_107 (by decide) ?_
              refine lv_istore (lv' := [(6, .int 0), (5, .int 0), (4, .int (nI i)), (3, .int fo), (0, .ref h0), (1, .int p0), (2, .int p1)]) hx hb dX5_nextFrom_108 hl (by decide) rfl (fun ls hl => ?_)
              refine lv_iload hx hb dX5_nextFrom_110 (lv_at hl 1 rfl) ?_
              refine lv_if_eq (tgt := 125) hx hb dX5_nextFrom_112 (by decide) (fun _ => ?_) (fun h => absurd h (by decide))
              refine lv_iload_n hx hb dX5_nextFrom_125 rfl (lv_at hl 3 rfl) ?_
              refine lv_istore_n (lv' := [(3, .int fo), (6, .int 0), (5, .int 0), (4, .int (nI i)), (0, .ref h0), (1, .int p0), (2, .int p1)]) hx hb dX5_nextFrom_126 rfl hl (by decide) rfl (fun ls hl => ?_)
              refine lv_iinc (v := nI (i + 1)) (lv' := [(4, .int (nI (i + 1))), (3, .int fo), (6, .int 0), (5, .int 0), (0, .ref h0), (1, .int p0), (2, .int p1)]) hx hb dX5_nextFrom_127 hl (k := 3) rfl (nI_1 i) (by decide) rfl (fun ls hl => ?_)
              refine lv_goto (tgt := 5) hx hb dX5_nextFrom_130 (by decide) ?_
              replace hw := hw.pick (ws' := [(h0, .inr (7, [.int th, .int (nI G), .ref z1, .int (nI mw), .int mg, .int up, .int ch, .int (nI k), .ref z2, .ref z3, .ref z4, .ref z5, .int sh, .int li, .int fp, .int sp, .int (nI hc), .ref z6, .int bk, .long fr, .long pa, .long lo, .long st, .long ma, .int ph, .int tr, .int bs, .ref z7, .ref z8])), (z1, .inl (cI, 6, .inl we)), (z2, .inl (cI, 10, .inl og)), (z4, .inl (cI, 10, .inl ol))]) [1, 0, 2, 3] (by decide) rfl
              exact ih5 ((i + 1), fo) _ _ _ (show (i + 1) ≤ G ∧ fo = f_nf we (f_hoz og ol k) p0 p1 (i + 1) from ⟨by omega, by rw [f_nf, if_neg (fun h => absurd h.1.2 (by rw [if_pos c24]; exact Int32.not_lt.mpr c49))]; exact hI.2⟩) (show G - (i + 1) < G - i from by omega) hw (lv_sub hl [0, 1, 4, 5, 6] rfl)
            · refine lv_iconst (v := 1) hx hb dX5_nextFrom_103 (by decide) ?_
              refine lv_goto (tgt := 108) hx hb dX5_nextFrom_104 (by decide) ?_
              refine lv_istore (lv' := [(6, .int 1), (5, .int 0), (4, .int (nI i)), (3, .int fo), (0, .ref h0), (1, .int p0), (2, .int p1)]) hx hb dX5_nextFrom_108 hl (by decide) rfl (fun ls hl => ?_)
              refine lv_iload hx hb dX5_nextFrom_110 (lv_at hl 1 rfl) ?_
              refine lv_if_eq (tgt := 125) hx hb dX5_nextFrom_112 (by decide) (fun _ => ?_) (fun h => absurd h (by decide))
              refine lv_iload_n hx hb dX5_nextFrom_125 rfl (lv_at hl 3 rfl) ?_
              refine lv_istore_n (lv' := [(3, .int fo), (6, .int 1), (5, .int 0), (4, .int (nI i)), (0, .ref h0), (1, .int p0), (2, .int p1)]) hx hb dX5_nextFrom_126 rfl hl (by decide) rfl (fun ls hl => ?_)
              refine lv_iinc (v := nI (i + 1)) (lv' := [(4, .int (nI (i + 1))), (3, .int fo), (6, .int 1), (5, .int 0), (0, .ref h0), (1, .int p0), (2, .int p1)]) hx hb dX5_nextFrom_127 hl (k := 3) rfl (nI_1 i) (by decide) rfl (fun ls hl => ?_)
              refine lv_goto (tgt := 5) hx hb dX5_nextFrom_130 (by decide) ?_
              replace hw := hw.pick (ws' := [(h0, .inr (7, [.int th, .int (nI G), .ref z1, .int (nI mw), .int mg, .int up, .int ch, .int (nI k), .ref z2, .ref z3, .ref z4, .ref z5, .int sh, .int li, .int fp, .int sp, .int (nI hc), .ref z6, .int bk, .long fr, .long pa, .long lo, .long st, .long ma, .int ph, .int tr, .int bs, .ref z7, .ref z8])), (z1, .inl (cI, 6, .inl we)), (z2, .inl (cI, 10, .inl og)), (z4, .inl (cI, 10, .inl ol))]) [1, 0, 2, 3] (by decide) rfl
              exact ih5 ((i + 1), fo) _ _ _ (show (i + 1) ≤ G ∧ fo = f_nf we (f_hoz og ol k) p0 p1 (i + 1) from ⟨by omega, by rw [f_nf, if_neg (fun h => absurd h.1.2 (by rw [if_pos c24]; exact Int32.not_lt.mpr c49))]; exact hI.2⟩) (show G - (i + 1) < G - i from by omega) hw (lv_sub hl [0, 1, 4, 5, 6] rfl)
        · refine lv_iconst (v := 1) hx hb dX5_nextFrom_52 (by decide) ?_
          refine lv_goto (tgt := 57) hx hb dX5_nextFrom_53 (by decide) ?_
          refine lv_istore (lv' := [(5, .int 1), (4, .int (nI i)), (3, .int fo), (0, .ref h0), (1, .int p0), (2, .int p1)]) hx hb dX5_nextFrom_57 hl (by decide) rfl (fun ls hl => ?_)
          refine lv_iload_n hx hb dX5_nextFrom_59 rfl (lv_at hl 2 rfl) ?_
          refine lv_iconst (v := (-1)) hx hb dX5_nextFrom_60 (by decide) ?_
          refine lv_icmp_eq (tgt := 103) hx hb dX5_nextFrom_61 (by decide) (fun c61 => ?_) (fun c61 => ?_)
          · refine lv_iconst (v := 1) hx hb dX5_nextFrom_103 (by decide) ?_
            refine lv_goto (tgt := 108) hx hb dX5_nextFrom_104 (by decide) ?_
            refine lv_istore (lv' := [(6, .int 1), (5, .int 1), (4, .int (nI i)), (3, .int fo), (0, .ref h0), (1, .int p0), (2, .int p1)]) hx hb dX5_nextFrom_108 hl (by decide) rfl (fun ls hl => ?_)
            refine lv_iload hx hb dX5_nextFrom_110 (lv_at hl 1 rfl) ?_
            refine lv_if_eq (tgt := 125) hx hb dX5_nextFrom_112 (by decide) (fun h => absurd h (by decide)) (fun _ => ?_)
            refine lv_iload hx hb dX5_nextFrom_115 (lv_at hl 0 rfl) ?_
            refine lv_if_eq (tgt := 125) hx hb dX5_nextFrom_117 (by decide) (fun h => absurd h (by decide)) (fun _ => ?_)
            refine lv_iload hx hb dX5_nextFrom_120 (lv_at hl 2 rfl) ?_
            refine lv_goto (tgt := 126) hx hb dX5_nextFrom_122 (by decide) ?_
            refine lv_istore_n (lv' := [(3, .int (nI i)), (6, .int 1), (5, .int 1), (4, .int (nI i)), (0, .ref h0), (1, .int p0), (2, .int p1)]) hx hb dX5_nextFrom_126 rfl hl (by decide) rfl (fun ls hl => ?_)
            refine lv_iinc (v := nI (i + 1)) (lv' := [(4, .int (nI (i + 1))), (3, .int (nI i)), (6, .int 1), (5, .int 1), (0, .ref h0), (1, .int p0), (2, .int p1)]) hx hb dX5_nextFrom_127 hl (k := 3) rfl (nI_1 i) (by decide) rfl (fun ls hl => ?_)
            refine lv_goto (tgt := 5) hx hb dX5_nextFrom_130 (by decide) ?_
            replace hw := hw.pick (ws' := [(h0, .inr (7, [.int th, .int (nI G), .ref z1, .int (nI mw), .int mg, .int up, .int ch, .int (nI k), .ref z2, .ref z3, .ref z4, .ref z5, .int sh, .int li, .int fp, .int sp, .int (nI hc), .ref z6, .int bk, .long fr, .long pa, .long lo, .long st, .long ma, .int ph, .int tr, .int bs, .ref z7, .ref z8])), (z1, .inl (cI, 6, .inl we)), (z2, .inl (cI, 10, .inl og)), (z4, .inl (cI, 10, .inl ol))]) [1, 0, 2, 3] (by decide) rfl
            exact ih5 ((i + 1), nI i) _ _ _ (show (i + 1) ≤ G ∧ (nI i) = f_nf we (f_hoz og ol k) p0 p1 (i + 1) from ⟨by omega, by rw [f_nf, if_pos ⟨⟨b17, by rw [if_pos c24]; exact Int32.not_le.mp c49⟩, Or.inl (hI.2.symm.trans c61)⟩]⟩) (show G - (i + 1) < G - i from by omega) hw (lv_sub hl [0, 1, 4, 5, 6] rfl)
          · obtain ⟨fj, hfj, efj⟩ := (f_nf_in we (f_hoz og ol k) p0 p1 i (by omega)).resolve_left (fun q => c61 (hI.2.trans q))
            have efo : fo.toNatClampNeg = fj := by rw [hI.2, efj, nI_clamp (by omega)]
            have efo2 : fo = nI fj := hI.2.trans efj
            refine lv_iload_n hx hb dX5_nextFrom_64 rfl (lv_at hl 5 rfl) ?_
            refine lv_if_eq (tgt := 87) hx hb dX5_nextFrom_65 (by decide) (fun c65 => ?_) (fun c65 => False.elim (c65 c24))
            refine lv_aload_n hx hb dX5_nextFrom_87 rfl (lv_at hl 3 rfl) ?_
            refine k_get hx hb hts i_X5 hown hw 1 2 rfl rfl (by decide) k_f9 rfl dX5_nextFrom_88 ?_
            refine lv_iload hx hb dX5_nextFrom_91 (lv_at hl 1 rfl) ?_
            refine k_iald hx hb hw 0 0 rfl rfl i rfl (by omega) (Nat.le_of_ble_eq_true rfl) dX5_nextFrom_93 ?_
            refine lv_aload_n hx hb dX5_nextFrom_94 rfl (lv_at hl 3 rfl) ?_
            refine k_get hx hb hts i_X5 hown hw 1 2 rfl rfl (by decide) k_f9 rfl dX5_nextFrom_95 ?_
            refine lv_iload_n hx hb dX5_nextFrom_98 rfl (lv_at hl 2 rfl) ?_
            refine k_iald hx hb hw 0 0 rfl rfl fj efo2 (by omega) (Nat.le_of_ble_eq_true rfl) dX5_nextFrom_99 ?_
            refine lv_icmp_le (tgt := 107) hx hb dX5_nextFrom_100 (by decide) (fun c100 => ?_) (fun c100 => ?_)
            · refine lv_iconst (v := 0) hx hb dX5_nextFrom_107 (by decide) ?_
              refine lv_istore (lv' := [(6, .int 0), (5, .int 1), (4, .int (nI i)), (3, .int fo), (0, .ref h0), (1, .int p0), (2, .int p1)]) hx hb dX5_nextFrom_108 hl (by decide) rfl (fun ls hl => ?_)
              refine lv_iload hx hb dX5_nextFrom_110 (lv_at hl 1 rfl) ?_
              refine lv_if_eq (tgt := 125) hx hb dX5_nextFrom_112 (by decide) (fun h => absurd h (by decide)) (fun _ => ?_)
              refine lv_iload hx hb dX5_nextFrom_115 (lv_at hl 0 rfl) ?_
              refine lv_if_eq (tgt := 125) hx hb dX5_nextFrom_117 (by decide) (fun _ => ?_) (fun h => absurd h (by decide))
              refine lv_iload_n hx hb dX5_nextFrom_125 rfl (lv_at hl 3 rfl) ?_
              refine lv_istore_n (lv' := [(3, .int fo), (6, .int 0), (5, .int 1), (4, .int (nI i)), (0, .ref h0), (1, .int p0), (2, .int p1)]) hx hb dX5_nextFrom_126 rfl hl (by decide) rfl (fun ls hl => ?_)
              refine lv_iinc (v := nI (i + 1)) (lv' := [(4, .int (nI (i + 1))), (3, .int fo), (6, .int 0), (5, .int 1), (0, .ref h0), (1, .int p0), (2, .int p1)]) hx hb dX5_nextFrom_127 hl (k := 3) rfl (nI_1 i) (by decide) rfl (fun ls hl => ?_)
              refine lv_goto (tgt := 5) hx hb dX5_nextFrom_130 (by decide) ?_
              replace hw := hw.pick (ws' := [(h0, .inr (7, [.int th, .int (nI G), .ref z1, .int (nI mw), .int mg, .int up, .int ch, .int (nI k), .ref z2, .ref z3, .ref z4, .ref z5, .int sh, .int li, .int fp, .int sp, .int (nI hc), .ref z6, .int bk, .long fr, .long pa, .long lo, .long st, .long ma, .int ph, .int tr, .int bs, .ref z7, .ref z8])), (z1, .inl (cI, 6, .inl we)), (z2, .inl (cI, 10, .inl og)), (z4, .inl (cI, 10, .inl ol))]) [1, 0, 2, 3] (by decide) rfl
              exact ih5 ((i + 1), fo) _ _ _ (show (i + 1) ≤ G ∧ fo = f_nf we (f_hoz og ol k) p0 p1 (i + 1) from ⟨by omega, by rw [f_nf, if_neg (fun h => h.2.elim (fun q => c61 (hI.2.trans q)) (fun q => absurd q (by rw [if_pos c24, ← hI.2, efo]; exact Int32.not_lt.mpr c100)))]; exact hI.2⟩) (show G - (i + 1) < G - i from by omega) hw (lv_sub hl [0, 1, 4, 5, 6] rfl)
            · refine lv_iconst (v := 1) hx hb dX5_nextFrom_103 (by decide) ?_
              refine lv_goto (tgt := 108) hx hb dX5_nextFrom_104 (by decide) ?_
              refine lv_istore (lv' := [(6, .int 1), (5, .int 1), (4, .int (nI i)), (3, .int fo), (0, .ref h0), (1, .int p0), (2, .int p1)]) hx hb dX5_nextFrom_108 hl (by decide) rfl (fun ls hl => ?_)
              refine lv_iload hx hb dX5_nextFrom_110 (lv_at hl 1 rfl) ?_
              refine lv_if_eq (tgt := 125) hx hb dX5_nextFrom_112 (by decide) (fun h => absurd h (by decide)) (fun _ => ?_)
              refine lv_iload hx hb dX5_nextFrom_115 (lv_at hl 0 rfl) ?_
              refine lv_if_eq (tgt := 125) hx hb dX5_nextFrom_117 (by decide) (fun h => absurd h (by decide)) (fun _ => ?_)
              refine lv_iload hx hb dX5_nextFrom_120 (lv_at hl 2 rfl) ?_
              refine lv_goto (tgt := 126) hx hb dX5_nextFrom_122 (by decide) ?_
              refine lv_istore_n (lv' := [(3, .int (nI i)), (6, .int 1), (5, .int 1), (4, .int (nI i)), (0, .ref h0), (1, .int p0), (2, .int p1)]) hx hb dX5_nextFrom_126 rfl hl (by decide) rfl (fun ls hl => ?_)
              refine lv_iinc (v := nI (i + 1)) (lv' := [(4, .int (nI (i + 1))), (3, .int (nI i)), (6, .int 1), (5, .int 1), (0, .ref h0), (1, .int p0), (2, .int p1)]) hx hb dX5_nextFrom_127 hl (k := 3) rfl (nI_1 i) (by decide) rfl (fun ls hl => ?_)
              refine lv_goto (tgt := 5) hx hb dX5_nextFrom_130 (by decide) ?_
              replace hw := hw.pick (ws' := [(h0, .inr (7, [.int th, .int (nI G), .ref z1, .int (nI mw), .int mg, .int up, .int ch, .int (nI k), .ref z2, .ref z3, .ref z4, .ref z5, .int sh, .int li, .int fp, .int sp, .int (nI hc), .ref z6, .int bk, .long fr, .long pa, .long lo, .long st, .long ma, .int ph, .int tr, .int bs, .ref z7, .ref z8])), (z1, .inl (cI, 6, .inl we)), (z2, .inl (cI, 10, .inl og)), (z4, .inl (cI, 10, .inl ol))]) [1, 0, 2, 3] (by decide) rfl
              exact ih5 ((i + 1), nI i) _ _ _ (show (i + 1) ≤ G ∧ (nI i) = f_nf we (f_hoz og ol k) p0 p1 (i + 1) from ⟨by omega, by rw [f_nf, if_pos ⟨⟨b17, by rw [if_pos c24]; exact Int32.not_le.mp c49⟩, Or.inr (by rw [if_pos c24, ← hI.2, efo]; exact Int32.not_le.mp c100)⟩]⟩) (show G - (i + 1) < G - i from by omega) hw (lv_sub hl [0, 1, 4, 5, 6] rfl)
      · refine lv_aload_n hx hb dX5_nextFrom_27 rfl (lv_at hl 2 rfl) ?_
        refine k_get hx hb hts i_X5 hown hw 1 2 rfl rfl (by decide) k_f9 rfl dX5_nextFrom_28 ?_
        refine lv_iload hx hb dX5_nextFrom_31 (lv_at hl 0 rfl) ?_
        refine k_iald hx hb hw 0 0 rfl rfl i rfl (by omega) (Nat.le_of_ble_eq_true rfl) dX5_nextFrom_33 ?_
        refine lv_iload_n hx hb dX5_nextFrom_34 rfl (lv_at hl 3 rfl) ?_
        refine lv_icmp_le (tgt := 56) hx hb dX5_nextFrom_35 (by decide) (fun c35 => ?_) (fun c35 => ?_)
        · refine lv_iconst (v := 0) hx hb dX5_nextFrom_56 (by decide) ?_
          refine lv_istore (lv' := [(5, .int 0), (4, .int (nI i)), (3, .int fo), (0, .ref h0), (1, .int p0), (2, .int p1)]) hx hb dX5_nextFrom_57 hl (by decide) rfl (fun ls hl => ?_)
          refine lv_iload_n hx hb dX5_nextFrom_59 rfl (lv_at hl 2 rfl) ?_
          refine lv_iconst (v := (-1)) hx hb dX5_nextFrom_60 (by decide) ?_
          refine lv_icmp_eq (tgt := 103) hx hb dX5_nextFrom_61 (by decide) (fun c61 => ?_) (fun c61 => ?_)
          · refine lv_iconst (v := 1) hx hb dX5_nextFrom_103 (by decide) ?_
            refine lv_goto (tgt := 108) hx hb dX5_nextFrom_104 (by decide) ?_
            refine lv_istore (lv' := [(6, .int 1), (5, .int 0), (4, .int (nI i)), (3, .int fo), (0, .ref h0), (1, .int p0), (2, .int p1)]) hx hb dX5_nextFrom_108 hl (by decide) rfl (fun ls hl => ?_)
            refine lv_iload hx hb dX5_nextFrom_110 (lv_at hl 1 rfl) ?_
            refine lv_if_eq (tgt := 125) hx hb dX5_nextFrom_112 (by decide) (fun _ => ?_) (fun h => absurd h (by decide))
            refine lv_iload_n hx hb dX5_nextFrom_125 rfl (lv_at hl 3 rfl) ?_
            refine lv_istore_n (lv' := [(3, .int fo), (6, .int 1), (5, .int 0), (4, .int (nI i)), (0, .ref h0), (1, .int p0), (2, .int p1)]) hx hb dX5_nextFrom_126 rfl hl (by decide) rfl (fun ls hl => ?_)
            refine lv_iinc (v := nI (i + 1)) (lv' := [(4, .int (nI (i + 1))), (3, .int fo), (6, .int 1), (5, .int 0), (0, .ref h0), (1, .int p0), (2, .int p1)]) hx hb dX5_nextFrom_127 hl (k := 3) rfl (nI_1 i) (by decide) rfl (fun ls hl => ?_)
            refine lv_goto (tgt := 5) hx hb dX5_nextFrom_130 (by decide) ?_
            replace hw := hw.pick (ws' := [(h0, .inr (7, [.int th, .int (nI G), .ref z1, .int (nI mw), .int mg, .int up, .int ch, .int (nI k), .ref z2, .ref z3, .ref z4, .ref z5, .int sh, .int li, .int fp, .int sp, .int (nI hc), .ref z6, .int bk, .long fr, .long pa, .long lo, .long st, .long ma, .int ph, .int tr, .int bs, .ref z7, .ref z8])), (z1, .inl (cI, 6, .inl we)), (z2, .inl (cI, 10, .inl og)), (z4, .inl (cI, 10, .inl ol))]) [1, 0, 2, 3] (by decide) rfl
            exact ih5 ((i + 1), fo) _ _ _ (show (i + 1) ≤ G ∧ fo = f_nf we (f_hoz og ol k) p0 p1 (i + 1) from ⟨by omega, by rw [f_nf, if_neg (fun h => absurd h.1.2 (by rw [if_neg c24]; exact Int32.not_lt.mpr c35))]; exact hI.2⟩) (show G - (i + 1) < G - i from by omega) hw (lv_sub hl [0, 1, 4, 5, 6] rfl)
          · obtain ⟨fj, hfj, efj⟩ := (f_nf_in we (f_hoz og ol k) p0 p1 i (by omega)).resolve_left (fun q => c61 (hI.2.trans q))
            have efo : fo.toNatClampNeg = fj := by rw [hI.2, efj, nI_clamp (by omega)]
            have efo2 : fo = nI fj := hI.2.trans efj
            refine lv_iload_n hx hb dX5_nextFrom_64 rfl (lv_at hl 5 rfl) ?_
            refine lv_if_eq (tgt := 87) hx hb dX5_nextFrom_65 (by decide) (fun c65 => False.elim (c24 c65)) (fun c65 => ?_)
            refine lv_aload_n hx hb dX5_nextFrom_68 rfl (lv_at hl 3 rfl) ?_
            refine k_get hx hb hts i_X5 hown hw 1 2 rfl rfl (by decide) k_f9 rfl dX5_nextFrom_69 ?_
            refine lv_iload hx hb dX5_nextFrom_72 (lv_at hl 1 rfl) ?_
            refine k_iald hx hb hw 0 0 rfl rfl i rfl (by omega) (Nat.le_of_ble_eq_true rfl) dX5_nextFrom_74 ?_
            refine lv_aload_n hx hb dX5_nextFrom_75 rfl (lv_at hl 3 rfl) ?_
            refine k_get hx hb hts i_X5 hown hw 1 2 rfl rfl (by decide) k_f9 rfl dX5_nextFrom_76 ?_
            refine lv_iload_n hx hb dX5_nextFrom_79 rfl (lv_at hl 2 rfl) ?_
            refine k_iald hx hb hw 0 0 rfl rfl fj efo2 (by omega) (Nat.le_of_ble_eq_true rfl) dX5_nextFrom_80 ?_
            refine lv_icmp_ge (tgt := 107) hx hb dX5_nextFrom_81 (by decide) (fun c81 => ?_) (fun c81 => ?_)
            · refine lv_iconst (v := 0) hx hb dX5_nextFrom_107 (by decide) ?_
              refine lv_istore (lv' := [(6, .int 0), (5, .int 0), (4, .int (nI i)), (3, .int fo), (0, .ref h0), (1, .int p0), (2, .int p1)]) hx hb dX5_nextFrom_108 hl (by decide) rfl (fun ls hl => ?_)
              refine lv_iload hx hb dX5_nextFrom_110 (lv_at hl 1 rfl) ?_
              refine lv_if_eq (tgt := 125) hx hb dX5_nextFrom_112 (by decide) (fun _ => ?_) (fun h => absurd h (by decide))
              refine lv_iload_n hx hb dX5_nextFrom_125 rfl (lv_at hl 3 rfl) ?_
              refine lv_istore_n (lv' := [(3, .int fo), (6, .int 0), (5, .int 0), (4, .int (nI i)), (0, .ref h0), (1, .int p0), (2, .int p1)]) hx hb dX5_nextFrom_126 rfl hl (by decide) rfl (fun ls hl => ?_)
              refine lv_iinc (v := nI (i + 1)) (lv' := [(4, .int (nI (i + 1))), (3, .int fo), (6, .int 0), (5, .int 0), (0, .ref h0), (1, .int p0), (2, .int p1)]) hx hb dX5_nextFrom_127 hl (k := 3) rfl (nI_1 i) (by decide) rfl (fun ls hl => ?_)
              refine lv_goto (tgt := 5) hx hb dX5_nextFrom_130 (by decide) ?_
              replace hw := hw.pick (ws' := [(h0, .inr (7, [.int th, .int (nI G), .ref z1, .int (nI mw), .int mg, .int up, .int ch, .int (nI k), .ref z2, .ref z3, .ref z4, .ref z5, .int sh, .int li, .int fp, .int sp, .int (nI hc), .ref z6, .int bk, .long fr, .long pa, .long lo, .long st, .long ma, .int ph, .int tr, .int bs, .ref z7, .ref z8])), (z1, .inl (cI, 6, .inl we)), (z2, .inl (cI, 10, .inl og)), (z4, .inl (cI, 10, .inl ol))]) [1, 0, 2, 3] (by decide) rfl
              exact ih5 ((i + 1), fo) _ _ _ (show (i + 1) ≤ G ∧ fo = f_nf we (f_hoz og ol k) p0 p1 (i + 1) from ⟨by omega, by rw [f_nf, if_neg (fun h => absurd h.1.2 (by rw [if_neg c24]; exact Int32.not_lt.mpr c35))]; exact hI.2⟩) (show G - (i + 1) < G - i from by omega) hw (lv_sub hl [0, 1, 4, 5, 6] rfl)
            · refine lv_goto (tgt := 103) hx hb dX5_nextFrom_84 (by decide) ?_
              refine lv_iconst (v := 1) hx hb dX5_nextFrom_103 (by decide) ?_
              refine lv_goto (tgt := 108) hx hb dX5_nextFrom_104 (by decide) ?_
              refine lv_istore (lv' := [(6, .int 1), (5, .int 0), (4, .int (nI i)), (3, .int fo), (0, .ref h0), (1, .int p0), (2, .int p1)]) hx hb dX5_nextFrom_108 hl (by decide) rfl (fun ls hl => ?_)
              refine lv_iload hx hb dX5_nextFrom_110 (lv_at hl 1 rfl) ?_
              refine lv_if_eq (tgt := 125) hx hb dX5_nextFrom_112 (by decide) (fun _ => ?_) (fun h => absurd h (by decide))
              refine lv_iload_n hx hb dX5_nextFrom_125 rfl (lv_at hl 3 rfl) ?_
              refine lv_istore_n (lv' := [(3, .int fo), (6, .int 1), (5, .int 0), (4, .int (nI i)), (0, .ref h0), (1, .int p0), (2, .int p1)]) hx hb dX5_nextFrom_126 rfl hl (by decide) rfl (fun ls hl => ?_)
              refine lv_iinc (v := nI (i + 1)) (lv' := [(4, .int (nI (i + 1))), (3, .int fo), (6, .int 1), (5, .int 0), (0, .ref h0), (1, .int p0), (2, .int p1)]) hx hb dX5_nextFrom_127 hl (k := 3) rfl (nI_1 i) (by decide) rfl (fun ls hl => ?_)
              refine lv_goto (tgt := 5) hx hb dX5_nextFrom_130 (by decide) ?_
              replace hw := hw.pick (ws' := [(h0, .inr (7, [.int th, .int (nI G), .ref z1, .int (nI mw), .int mg, .int up, .int ch, .int (nI k), .ref z2, .ref z3, .ref z4, .ref z5, .int sh, .int li, .int fp, .int sp, .int (nI hc), .ref z6, .int bk, .long fr, .long pa, .long lo, .long st, .long ma, .int ph, .int tr, .int bs, .ref z7, .ref z8])), (z1, .inl (cI, 6, .inl we)), (z2, .inl (cI, 10, .inl og)), (z4, .inl (cI, 10, .inl ol))]) [1, 0, 2, 3] (by decide) rfl
              exact ih5 ((i + 1), fo) _ _ _ (show (i + 1) ≤ G ∧ fo = f_nf we (f_hoz og ol k) p0 p1 (i + 1) from ⟨by omega, by rw [f_nf, if_neg (fun h => absurd h.1.2 (by rw [if_neg c24]; exact Int32.not_lt.mpr c35))]; exact hI.2⟩) (show G - (i + 1) < G - i from by omega) hw (lv_sub hl [0, 1, 4, 5, 6] rfl)
        · refine lv_goto (tgt := 52) hx hb dX5_nextFrom_38 (by decide) ?_
          refine lv_iconst (v := 1) hx hb dX5_nextFrom_52 (by decide) ?_
          refine lv_goto (tgt := 57) hx hb dX5_nextFrom_53 (by decide) ?_
          refine lv_istore (lv' := [(5, .int 1), (4, .int (nI i)), (3, .int fo), (0, .ref h0), (1, .int p0), (2, .int p1)]) hx hb dX5_nextFrom_57 hl (by decide) rfl (fun ls hl => ?_)
          refine lv_iload_n hx hb dX5_nextFrom_59 rfl (lv_at hl 2 rfl) ?_
          refine lv_iconst (v := (-1)) hx hb dX5_nextFrom_60 (by decide) ?_
          refine lv_icmp_eq (tgt := 103) hx hb dX5_nextFrom_61 (by decide) (fun c61 => ?_) (fun c61 => ?_)
          · refine lv_iconst (v := 1) hx hb dX5_nextFrom_103 (by decide) ?_
            refine lv_goto (tgt := 108) hx hb dX5_nextFrom_104 (by decide) ?_
            refine lv_istore (lv' := [(6, .int 1), (5, .int 1), (4, .int (nI i)), (3, .int fo), (0, .ref h0), (1, .int p0), (2, .int p1)]) hx hb dX5_nextFrom_108 hl (by decide) rfl (fun ls hl => ?_)
            refine lv_iload hx hb dX5_nextFrom_110 (lv_at hl 1 rfl) ?_
            refine lv_if_eq (tgt := 125) hx hb dX5_nextFrom_112 (by decide) (fun h => absurd h (by decide)) (fun _ => ?_)
            refine lv_iload hx hb dX5_nextFrom_115 (lv_at hl 0 rfl) ?_
            refine lv_if_eq (tgt := 125) hx hb dX5_nextFrom_117 (by decide) (fun h => absurd h (by decide)) (fun _ => ?_)
            refine lv_iload hx hb dX5_nextFrom_120 (lv_at hl 2 rfl) ?_
            refine lv_goto (tgt := 126) hx hb dX5_nextFrom_122 (by decide) ?_
            refine lv_istore_n (lv' := [(3, .int (nI i)), (6, .int 1), (5, .int 1), (4, .int (nI i)), (0, .ref h0), (1, .int p0), (2, .int p1)]) hx hb dX5_nextFrom_126 rfl hl (by decide) rfl (fun ls hl => ?_)
            refine lv_iinc (v := nI (i + 1)) (lv' := [(4, .int (nI (i + 1))), (3, .int (nI i)), (6, .int 1), (5, .int 1), (0, .ref h0), (1, .int p0), (2, .int p1)]) hx hb dX5_nextFrom_127 hl (k := 3) rfl (nI_1 i) (by decide) rfl (fun ls hl => ?_)
            refine lv_goto (tgt := 5) hx hb dX5_nextFrom_130 (by decide) ?_
            replace hw := hw.pick (ws' := [(h0, .inr (7, [.int th, .int (nI G), .ref z1, .int (nI mw), .int mg, .int up, .int ch, .int (nI k), .ref z2, .ref z3, .ref z4, .ref z5, .int sh, .int li, .int fp, .int sp, .int (nI hc), .ref z6, .int bk, .long fr, .long pa, .long lo, .long st, .long ma, .int ph, .int tr, .int bs, .ref z7, .ref z8])), (z1, .inl (cI, 6, .inl we)), (z2, .inl (cI, 10, .inl og)), (z4, .inl (cI, 10, .inl ol))]) [1, 0, 2, 3] (by decide) rfl
            exact ih5 ((i + 1), nI i) _ _ _ (show (i + 1) ≤ G ∧ (nI i) = f_nf we (f_hoz og ol k) p0 p1 (i + 1) from ⟨by omega, by rw [f_nf, if_pos ⟨⟨b17, by rw [if_neg c24]; exact Int32.not_le.mp c35⟩, Or.inl (hI.2.symm.trans c61)⟩]⟩) (show G - (i + 1) < G - i from by omega) hw (lv_sub hl [0, 1, 4, 5, 6] rfl)
          · obtain ⟨fj, hfj, efj⟩ := (f_nf_in we (f_hoz og ol k) p0 p1 i (by omega)).resolve_left (fun q => c61 (hI.2.trans q))
            have efo : fo.toNatClampNeg = fj := by rw [hI.2, efj, nI_clamp (by omega)]
            have efo2 : fo = nI fj := hI.2.trans efj
            refine lv_iload_n hx hb dX5_nextFrom_64 rfl (lv_at hl 5 rfl) ?_
            refine lv_if_eq (tgt := 87) hx hb dX5_nextFrom_65 (by decide) (fun c65 => False.elim (c24 c65)) (fun c65 => ?_)
            refine lv_aload_n hx hb dX5_nextFrom_68 rfl (lv_at hl 3 rfl) ?_
            refine k_get hx hb hts i_X5 hown hw 1 2 rfl rfl (by decide) k_f9 rfl dX5_nextFrom_69 ?_
            refine lv_iload hx hb dX5_nextFrom_72 (lv_at hl 1 rfl) ?_
            refine k_iald hx hb hw 0 0 rfl rfl i rfl (by omega) (Nat.le_of_ble_eq_true rfl) dX5_nextFrom_74 ?_
            refine lv_aload_n hx hb dX5_nextFrom_75 rfl (lv_at hl 3 rfl) ?_
            refine k_get hx hb hts i_X5 hown hw 1 2 rfl rfl (by decide) k_f9 rfl dX5_nextFrom_76 ?_
            refine lv_iload_n hx hb dX5_nextFrom_79 rfl (lv_at hl 2 rfl) ?_
            refine k_iald hx hb hw 0 0 rfl rfl fj efo2 (by omega) (Nat.le_of_ble_eq_true rfl) dX5_nextFrom_80 ?_
            refine lv_icmp_ge (tgt := 107) hx hb dX5_nextFrom_81 (by decide) (fun c81 => ?_) (fun c81 => ?_)
            · refine lv_iconst (v := 0) hx hb dX5_nextFrom_107 (by decide) ?_
              refine lv_istore (lv' := [(6, .int 0), (5, .int 1), (4, .int (nI i)), (3, .int fo), (0, .ref h0), (1, .int p0), (2, .int p1)]) hx hb dX5_nextFrom_108 hl (by decide) rfl (fun ls hl => ?_)
              refine lv_iload hx hb dX5_nextFrom_110 (lv_at hl 1 rfl) ?_
              refine lv_if_eq (tgt := 125) hx hb dX5_nextFrom_112 (by decide) (fun h => absurd h (by decide)) (fun _ => ?_)
              refine lv_iload hx hb dX5_nextFrom_115 (lv_at hl 0 rfl) ?_
              refine lv_if_eq (tgt := 125) hx hb dX5_nextFrom_117 (by decide) (fun _ => ?_) (fun h => absurd h (by decide))
              refine lv_iload_n hx hb dX5_nextFrom_125 rfl (lv_at hl 3 rfl) ?_
              refine lv_istore_n (lv' := [(3, .int fo), (6, .int 0), (5, .int 1), (4, .int (nI i)), (0, .ref h0), (1, .int p0), (2, .int p1)]) hx hb dX5_nextFrom_126 rfl hl (by decide) rfl (fun ls hl => ?_)
              refine lv_iinc (v := nI (i + 1)) (lv' := [(4, .int (nI (i + 1))), (3, .int fo), (6, .int 0), (5, .int 1), (0, .ref h0), (1, .int p0), (2, .int p1)]) hx hb dX5_nextFrom_127 hl (k := 3) rfl (nI_1 i) (by decide) rfl (fun ls hl => ?_)
              refine lv_goto (tgt := 5) hx hb dX5_nextFrom_130 (by decide) ?_
              replace hw := hw.pick (ws' := [(h0, .inr (7, [.int th, .int (nI G), .ref z1, .int (nI mw), .int mg, .int up, .int ch, .int (nI k), .ref z2, .ref z3, .ref z4, .ref z5, .int sh, .int li, .int fp, .int sp, .int (nI hc), .ref z6, .int bk, .long fr, .long pa, .long lo, .long st, .long ma, .int ph, .int tr, .int bs, .ref z7, .ref z8])), (z1, .inl (cI, 6, .inl we)), (z2, .inl (cI, 10, .inl og)), (z4, .inl (cI, 10, .inl ol))]) [1, 0, 2, 3] (by decide) rfl
              exact ih5 ((i + 1), fo) _ _ _ (show (i + 1) ≤ G ∧ fo = f_nf we (f_hoz og ol k) p0 p1 (i + 1) from ⟨by omega, by rw [f_nf, if_neg (fun h => h.2.elim (fun q => c61 (hI.2.trans q)) (fun q => absurd q (by rw [if_neg c24, ← hI.2, efo]; exact Int32.not_lt.mpr c81)))]; exact hI.2⟩) (show G - (i + 1) < G - i from by omega) hw (lv_sub hl [0, 1, 4, 5, 6] rfl)
            · refine lv_goto (tgt := 103) hx hb dX5_nextFrom_84 (by decide) ?_
              refine lv_iconst (v := 1) hx hb dX5_nextFrom_103 (by decide) ?_
              refine lv_goto (tgt := 108) hx hb dX5_nextFrom_104 (by decide) ?_
              refine lv_istore (lv' := [(6, .int 1), (5, .int 1), (4, .int (nI i)), (3, .int fo), (0, .ref h0), (1, .int p0), (2, .int p1)]) hx hb dX5_nextFrom_108 hl (by decide) rfl (fun ls hl => ?_)
              refine lv_iload hx hb dX5_nextFrom_110 (lv_at hl 1 rfl) ?_
              refine lv_if_eq (tgt := 125) hx hb dX5_nextFrom_112 (by decide) (fun h => absurd h (by decide)) (fun _ => ?_)
              refine lv_iload hx hb dX5_nextFrom_115 (lv_at hl 0 rfl) ?_
              refine lv_if_eq (tgt := 125) hx hb dX5_nextFrom_117 (by decide) (fun h => absurd h (by decide)) (fun _ => ?_)
              refine lv_iload hx hb dX5_nextFrom_120 (lv_at hl 2 rfl) ?_
              refine lv_goto (tgt := 126) hx hb dX5_nextFrom_122 (by decide) ?_
              refine lv_istore_n (lv' := [(3, .int (nI i)), (6, .int 1), (5, .int 1), (4, .int (nI i)), (0, .ref h0), (1, .int p0), (2, .int p1)]) hx hb dX5_nextFrom_126 rfl hl (by decide) rfl (fun ls hl => ?_)
              refine lv_iinc (v := nI (i + 1)) (lv' := [(4, .int (nI (i + 1))), (3, .int (nI i)), (6, .int 1), (5, .int 1), (0, .ref h0), (1, .int p0), (2, .int p1)]) hx hb dX5_nextFrom_127 hl (k := 3) rfl (nI_1 i) (by decide) rfl (fun ls hl => ?_)
              refine lv_goto (tgt := 5) hx hb dX5_nextFrom_130 (by decide) ?_
              replace hw := hw.pick (ws' := [(h0, .inr (7, [.int th, .int (nI G), .ref z1, .int (nI mw), .int mg, .int up, .int ch, .int (nI k), .ref z2, .ref z3, .ref z4, .ref z5, .int sh, .int li, .int fp, .int sp, .int (nI hc), .ref z6, .int bk, .long fr, .long pa, .long lo, .long st, .long ma, .int ph, .int tr, .int bs, .ref z7, .ref z8])), (z1, .inl (cI, 6, .inl we)), (z2, .inl (cI, 10, .inl og)), (z4, .inl (cI, 10, .inl ol))]) [1, 0, 2, 3] (by decide) rfl
              exact ih5 ((i + 1), nI i) _ _ _ (show (i + 1) ≤ G ∧ (nI i) = f_nf we (f_hoz og ol k) p0 p1 (i + 1) from ⟨by omega, by rw [f_nf, if_pos ⟨⟨b17, by rw [if_neg c24]; exact Int32.not_le.mp c35⟩, Or.inr (by rw [if_neg c24, ← hI.2, efo]; exact Int32.not_le.mp c81)⟩]⟩) (show G - (i + 1) < G - i from by omega) hw (lv_sub hl [0, 1, 4, 5, 6] rfl)
    · rw [if_neg b17] at w17
      subst w17
      refine lv_if_eq (tgt := 56) hx hb dX5_nextFrom_20 (by decide) (fun _ => ?_) (fun h => absurd h (by decide))
      refine lv_iconst (v := 0) hx hb dX5_nextFrom_56 (by decide) ?_
      refine lv_istore (lv' := [(5, .int 0), (4, .int (nI i)), (3, .int fo), (0, .ref h0), (1, .int p0), (2, .int p1)]) hx hb dX5_nextFrom_57 hl (by decide) rfl (fun ls hl => ?_)
      refine lv_iload_n hx hb dX5_nextFrom_59 rfl (lv_at hl 2 rfl) ?_
      refine lv_iconst (v := (-1)) hx hb dX5_nextFrom_60 (by decide) ?_
      refine lv_icmp_eq (tgt := 103) hx hb dX5_nextFrom_61 (by decide) (fun c61 => ?_) (fun c61 => ?_)
      · refine lv_iconst (v := 1) hx hb dX5_nextFrom_103 (by decide) ?_
        refine lv_goto (tgt := 108) hx hb dX5_nextFrom_104 (by decide) ?_
        refine lv_istore (lv' := [(6, .int 1), (5, .int 0), (4, .int (nI i)), (3, .int fo), (0, .ref h0), (1, .int p0), (2, .int p1)]) hx hb dX5_nextFrom_108 hl (by decide) rfl (fun ls hl => ?_)
        refine lv_iload hx hb dX5_nextFrom_110 (lv_at hl 1 rfl) ?_
        refine lv_if_eq (tgt := 125) hx hb dX5_nextFrom_112 (by decide) (fun _ => ?_) (fun h => absurd h (by decide))
        refine lv_iload_n hx hb dX5_nextFrom_125 rfl (lv_at hl 3 rfl) ?_
        refine lv_istore_n (lv' := [(3, .int fo), (6, .int 1), (5, .int 0), (4, .int (nI i)), (0, .ref h0), (1, .int p0), (2, .int p1)]) hx hb dX5_nextFrom_126 rfl hl (by decide) rfl (fun ls hl => ?_)
        refine lv_iinc (v := nI (i + 1)) (lv' := [(4, .int (nI (i + 1))), (3, .int fo), (6, .int 1), (5, .int 0), (0, .ref h0), (1, .int p0), (2, .int p1)]) hx hb dX5_nextFrom_127 hl (k := 3) rfl (nI_1 i) (by decide) rfl (fun ls hl => ?_)
        refine lv_goto (tgt := 5) hx hb dX5_nextFrom_130 (by decide) ?_
        replace hw := hw.pick (ws' := [(h0, .inr (7, [.int th, .int (nI G), .ref z1, .int (nI mw), .int mg, .int up, .int ch, .int (nI k), .ref z2, .ref z3, .ref z4, .ref z5, .int sh, .int li, .int fp, .int sp, .int (nI hc), .ref z6, .int bk, .long fr, .long pa, .long lo, .long st, .long ma, .int ph, .int tr, .int bs, .ref z7, .ref z8])), (z1, .inl (cI, 6, .inl we)), (z2, .inl (cI, 10, .inl og)), (z4, .inl (cI, 10, .inl ol))]) [1, 0, 2, 3] (by decide) rfl
        exact ih5 ((i + 1), fo) _ _ _ (show (i + 1) ≤ G ∧ fo = f_nf we (f_hoz og ol k) p0 p1 (i + 1) from ⟨by omega, by rw [f_nf, if_neg (fun h => b17 h.1.1)]; exact hI.2⟩) (show G - (i + 1) < G - i from by omega) hw (lv_sub hl [0, 1, 4, 5, 6] rfl)
      · obtain ⟨fj, hfj, efj⟩ := (f_nf_in we (f_hoz og ol k) p0 p1 i (by omega)).resolve_left (fun q => c61 (hI.2.trans q))
        have efo : fo.toNatClampNeg = fj := by rw [hI.2, efj, nI_clamp (by omega)]
        have efo2 : fo = nI fj := hI.2.trans efj
        refine lv_iload_n hx hb dX5_nextFrom_64 rfl (lv_at hl 5 rfl) ?_
        refine lv_if_eq (tgt := 87) hx hb dX5_nextFrom_65 (by decide) (fun c65 => ?_) (fun c65 => ?_)
        · refine lv_aload_n hx hb dX5_nextFrom_87 rfl (lv_at hl 3 rfl) ?_
          refine k_get hx hb hts i_X5 hown hw 1 2 rfl rfl (by decide) k_f9 rfl dX5_nextFrom_88 ?_
          refine lv_iload hx hb dX5_nextFrom_91 (lv_at hl 1 rfl) ?_
          refine k_iald hx hb hw 0 0 rfl rfl i rfl (by omega) (Nat.le_of_ble_eq_true rfl) dX5_nextFrom_93 ?_
          refine lv_aload_n hx hb dX5_nextFrom_94 rfl (lv_at hl 3 rfl) ?_
          refine k_get hx hb hts i_X5 hown hw 1 2 rfl rfl (by decide) k_f9 rfl dX5_nextFrom_95 ?_
          refine lv_iload_n hx hb dX5_nextFrom_98 rfl (lv_at hl 2 rfl) ?_
          refine k_iald hx hb hw 0 0 rfl rfl fj efo2 (by omega) (Nat.le_of_ble_eq_true rfl) dX5_nextFrom_99 ?_
          refine lv_icmp_le (tgt := 107) hx hb dX5_nextFrom_100 (by decide) (fun c100 => ?_) (fun c100 => ?_)
          · refine lv_iconst (v := 0) hx hb dX5_nextFrom_107 (by decide) ?_
            refine lv_istore (lv' := [(6, .int 0), (5, .int 0), (4, .int (nI i)), (3, .int fo), (0, .ref h0), (1, .int p0), (2, .int p1)]) hx hb dX5_nextFrom_108 hl (by decide) rfl (fun ls hl => ?_)
            refine lv_iload hx hb dX5_nextFrom_110 (lv_at hl 1 rfl) ?_
            refine lv_if_eq (tgt := 125) hx hb dX5_nextFrom_112 (by decide) (fun _ => ?_) (fun h => absurd h (by decide))
            refine lv_iload_n hx hb dX5_nextFrom_125 rfl (lv_at hl 3 rfl) ?_
            refine lv_istore_n (lv' := [(3, .int fo), (6, .int 0), (5, .int 0), (4, .int (nI i)), (0, .ref h0), (1, .int p0), (2, .int p1)]) hx hb dX5_nextFrom_126 rfl hl (by decide) rfl (fun ls hl => ?_)
            refine lv_iinc (v := nI (i + 1)) (lv' := [(4, .int (nI (i + 1))), (3, .int fo), (6, .int 0), (5, .int 0), (0, .ref h0), (1, .int p0), (2, .int p1)]) hx hb dX5_nextFrom_127 hl (k := 3) rfl (nI_1 i) (by decide) rfl (fun ls hl => ?_)
            refine lv_goto (tgt := 5) hx hb dX5_nextFrom_130 (by decide) ?_
            replace hw := hw.pick (ws' := [(h0, .inr (7, [.int th, .int (nI G), .ref z1, .int (nI mw), .int mg, .int up, .int ch, .int (nI k), .ref z2, .ref z3, .ref z4, .ref z5, .int sh, .int li, .int fp, .int sp, .int (nI hc), .ref z6, .int bk, .long fr, .long pa, .long lo, .long st, .long ma, .int ph, .int tr, .int bs, .ref z7, .ref z8])), (z1, .inl (cI, 6, .inl we)), (z2, .inl (cI, 10, .inl og)), (z4, .inl (cI, 10, .inl ol))]) [1, 0, 2, 3] (by decide) rfl
            exact ih5 ((i + 1), fo) _ _ _ (show (i + 1) ≤ G ∧ fo = f_nf we (f_hoz og ol k) p0 p1 (i + 1) from ⟨by omega, by rw [f_nf, if_neg (fun h => b17 h.1.1)]; exact hI.2⟩) (show G - (i + 1) < G - i from by omega) hw (lv_sub hl [0, 1, 4, 5, 6] rfl)
          · refine lv_iconst (v := 1) hx hb dX5_nextFrom_103 (by decide) ?_
            refine lv_goto (tgt := 108) hx hb dX5_nextFrom_104 (by decide) ?_
            refine lv_istore (lv' := [(6, .int 1), (5, .int 0), (4, .int (nI i)), (3, .int fo), (0, .ref h0), (1, .int p0), (2, .int p1)]) hx hb dX5_nextFrom_108 hl (by decide) rfl (fun ls hl => ?_)
            refine lv_iload hx hb dX5_nextFrom_110 (lv_at hl 1 rfl) ?_
            refine lv_if_eq (tgt := 125) hx hb dX5_nextFrom_112 (by decide) (fun _ => ?_) (fun h => absurd h (by decide))
            refine lv_iload_n hx hb dX5_nextFrom_125 rfl (lv_at hl 3 rfl) ?_
            refine lv_istore_n (lv' := [(3, .int fo), (6, .int 1), (5, .int 0), (4, .int (nI i)), (0, .ref h0), (1, .int p0), (2, .int p1)]) hx hb dX5_nextFrom_126 rfl hl (by decide) rfl (fun ls hl => ?_)
            refine lv_iinc (v := nI (i + 1)) (lv' := [(4, .int (nI (i + 1))), (3, .int fo), (6, .int 1), (5, .int 0), (0, .ref h0), (1, .int p0), (2, .int p1)]) hx hb dX5_nextFrom_127 hl (k := 3) rfl (nI_1 i) (by decide) rfl (fun ls hl => ?_)
            refine lv_goto (tgt := 5) hx hb dX5_nextFrom_130 (by decide) ?_
            replace hw := hw.pick (ws' := [(h0, .inr (7, [.int th, .int (nI G), .ref z1, .int (nI mw), .int mg, .int up, .int ch, .int (nI k), .ref z2, .ref z3, .ref z4, .ref z5, .int sh, .int li, .int fp, .int sp, .int (nI hc), .ref z6, .int bk, .long fr, .long pa, .long lo, .long st, .long ma, .int ph, .int tr, .int bs, .ref z7, .ref z8])), (z1, .inl (cI, 6, .inl we)), (z2, .inl (cI, 10, .inl og)), (z4, .inl (cI, 10, .inl ol))]) [1, 0, 2, 3] (by decide) rfl
            exact ih5 ((i + 1), fo) _ _ _ (show (i + 1) ≤ G ∧ fo = f_nf we (f_hoz og ol k) p0 p1 (i + 1) from ⟨by omega, by rw [f_nf, if_neg (fun h => b17 h.1.1)]; exact hI.2⟩) (show G - (i + 1) < G - i from by omega) hw (lv_sub hl [0, 1, 4, 5, 6] rfl)
        · refine lv_aload_n hx hb dX5_nextFrom_68 rfl (lv_at hl 3 rfl) ?_
          refine k_get hx hb hts i_X5 hown hw 1 2 rfl rfl (by decide) k_f9 rfl dX5_nextFrom_69 ?_
          refine lv_iload hx hb dX5_nextFrom_72 (lv_at hl 1 rfl) ?_
          refine k_iald hx hb hw 0 0 rfl rfl i rfl (by omega) (Nat.le_of_ble_eq_true rfl) dX5_nextFrom_74 ?_
          refine lv_aload_n hx hb dX5_nextFrom_75 rfl (lv_at hl 3 rfl) ?_
          refine k_get hx hb hts i_X5 hown hw 1 2 rfl rfl (by decide) k_f9 rfl dX5_nextFrom_76 ?_
          refine lv_iload_n hx hb dX5_nextFrom_79 rfl (lv_at hl 2 rfl) ?_
          refine k_iald hx hb hw 0 0 rfl rfl fj efo2 (by omega) (Nat.le_of_ble_eq_true rfl) dX5_nextFrom_80 ?_
          refine lv_icmp_ge (tgt := 107) hx hb dX5_nextFrom_81 (by decide) (fun c81 => ?_) (fun c81 => ?_)
          · refine lv_iconst (v := 0) hx hb dX5_nextFrom_107 (by decide) ?_
            refine lv_istore (lv' := [(6, .int 0), (5, .int 0), (4, .int (nI i)), (3, .int fo), (0, .ref h0), (1, .int p0), (2, .int p1)]) hx hb dX5_nextFrom_108 hl (by decide) rfl (fun ls hl => ?_)
            refine lv_iload hx hb dX5_nextFrom_110 (lv_at hl 1 rfl) ?_
            refine lv_if_eq (tgt := 125) hx hb dX5_nextFrom_112 (by decide) (fun _ => ?_) (fun h => absurd h (by decide))
            refine lv_iload_n hx hb dX5_nextFrom_125 rfl (lv_at hl 3 rfl) ?_
            refine lv_istore_n (lv' := [(3, .int fo), (6, .int 0), (5, .int 0), (4, .int (nI i)), (0, .ref h0), (1, .int p0), (2, .int p1)]) hx hb dX5_nextFrom_126 rfl hl (by decide) rfl (fun ls hl => ?_)
            refine lv_iinc (v := nI (i + 1)) (lv' := [(4, .int (nI (i + 1))), (3, .int fo), (6, .int 0), (5, .int 0), (0, .ref h0), (1, .int p0), (2, .int p1)]) hx hb dX5_nextFrom_127 hl (k := 3) rfl (nI_1 i) (by decide) rfl (fun ls hl => ?_)
            refine lv_goto (tgt := 5) hx hb dX5_nextFrom_130 (by decide) ?_
            replace hw := hw.pick (ws' := [(h0, .inr (7, [.int th, .int (nI G), .ref z1, .int (nI mw), .int mg, .int up, .int ch, .int (nI k), .ref z2, .ref z3, .ref z4, .ref z5, .int sh, .int li, .int fp, .int sp, .int (nI hc), .ref z6, .int bk, .long fr, .long pa, .long lo, .long st, .long ma, .int ph, .int tr, .int bs, .ref z7, .ref z8])), (z1, .inl (cI, 6, .inl we)), (z2, .inl (cI, 10, .inl og)), (z4, .inl (cI, 10, .inl ol))]) [1, 0, 2, 3] (by decide) rfl
            exact ih5 ((i + 1), fo) _ _ _ (show (i + 1) ≤ G ∧ fo = f_nf we (f_hoz og ol k) p0 p1 (i + 1) from ⟨by omega, by rw [f_nf, if_neg (fun h => b17 h.1.1)]; exact hI.2⟩) (show G - (i + 1) < G - i from by omega) hw (lv_sub hl [0, 1, 4, 5, 6] rfl)
          · refine lv_goto (tgt := 103) hx hb dX5_nextFrom_84 (by decide) ?_
            refine lv_iconst (v := 1) hx hb dX5_nextFrom_103 (by decide) ?_
            refine lv_goto (tgt := 108) hx hb dX5_nextFrom_104 (by decide) ?_
            refine lv_istore (lv' := [(6, .int 1), (5, .int 0), (4, .int (nI i)), (3, .int fo), (0, .ref h0), (1, .int p0), (2, .int p1)]) hx hb dX5_nextFrom_108 hl (by decide) rfl (fun ls hl => ?_)
            refine lv_iload hx hb dX5_nextFrom_110 (lv_at hl 1 rfl) ?_
            refine lv_if_eq (tgt := 125) hx hb dX5_nextFrom_112 (by decide) (fun _ => ?_) (fun h => absurd h (by decide))
            refine lv_iload_n hx hb dX5_nextFrom_125 rfl (lv_at hl 3 rfl) ?_
            refine lv_istore_n (lv' := [(3, .int fo), (6, .int 1), (5, .int 0), (4, .int (nI i)), (0, .ref h0), (1, .int p0), (2, .int p1)]) hx hb dX5_nextFrom_126 rfl hl (by decide) rfl (fun ls hl => ?_)
            refine lv_iinc (v := nI (i + 1)) (lv' := [(4, .int (nI (i + 1))), (3, .int fo), (6, .int 1), (5, .int 0), (0, .ref h0), (1, .int p0), (2, .int p1)]) hx hb dX5_nextFrom_127 hl (k := 3) rfl (nI_1 i) (by decide) rfl (fun ls hl => ?_)
            refine lv_goto (tgt := 5) hx hb dX5_nextFrom_130 (by decide) ?_
            replace hw := hw.pick (ws' := [(h0, .inr (7, [.int th, .int (nI G), .ref z1, .int (nI mw), .int mg, .int up, .int ch, .int (nI k), .ref z2, .ref z3, .ref z4, .ref z5, .int sh, .int li, .int fp, .int sp, .int (nI hc), .ref z6, .int bk, .long fr, .long pa, .long lo, .long st, .long ma, .int ph, .int tr, .int bs, .ref z7, .ref z8])), (z1, .inl (cI, 6, .inl we)), (z2, .inl (cI, 10, .inl og)), (z4, .inl (cI, 10, .inl ol))]) [1, 0, 2, 3] (by decide) rfl
            exact ih5 ((i + 1), fo) _ _ _ (show (i + 1) ≤ G ∧ fo = f_nf we (f_hoz og ol k) p0 p1 (i + 1) from ⟨by omega, by rw [f_nf, if_neg (fun h => b17 h.1.1)]; exact hI.2⟩) (show G - (i + 1) < G - i from by omega) hw (lv_sub hl [0, 1, 4, 5, 6] rfl)

set_option maxRecDepth 100000 in
set_option maxHeartbeats 4000000 in
/-- X5_massOf -/
theorem c_X5_massOf (l : Launch) (D : va_G) (cI cC cJ cG : ClassId) (h0 z1 : Nat) (sz : Nat) (z2 z3 z4 z5 z6 z7 z8 : Nat) (th : Int32) (G mw : Nat) (mg up ch : Int32) (k : Nat) (sh li fp sp : Int32) (hc : Nat) (bk : Int32) (fr pa lo st ma : Int64) (ph tr bs : Int32) (we : Nat → Int32) (g : Nat) (hg : g < 6) : kMi l yX5_massOf wsX5_massOf ({ frames := 0, cells := 0, slots := 0, locals := 0 }) D (kty cI cC cJ cG) [.ref h0, .int (nI g)] [(h0, .inr (7, [.int th, .int (nI G), .ref z1, .int (nI mw), .int mg, .int up, .int ch, .int (nI k), .ref z2, .ref z3, .ref z4, .ref z5, .int sh, .int li, .int fp, .int sp, .int (nI hc), .ref z6, .int bk, .long fr, .long pa, .long lo, .long st, .long ma, .int ph, .int tr, .int bs, .ref z7, .ref z8])), (z1, .inl (cI, 6, .inl we))] sz 0 0 (fun (r : Int32) (_ : Unit) => r = we g * nI mw / 10) (fun (_ : Unit) => [(h0, .inr (7, [.int th, .int (nI G), .ref z1, .int (nI mw), .int mg, .int up, .int ch, .int (nI k), .ref z2, .ref z3, .ref z4, .ref z5, .int sh, .int li, .int fp, .int sp, .int (nI hc), .ref z6, .int bk, .long fr, .long pa, .long lo, .long st, .long ma, .int ph, .int tr, .int bs, .ref z7, .ref z8])), (z1, .inl (cI, 6, .inl we))]) := by
  unfold kMi
  refine k_ofW (cc := cX5_massOf) (maxL := 2) (ret := (some .int)) (lv := [(0, .ref h0), (1, .int (nI g))]) (by decide) rfl (Nat.le_of_ble_eq_true rfl) rfl ?_
  intro p e s m args below meth c ls H locs hE hsz hw hl
  obtain ⟨hx, hb, hr, hml, hown, hts, hlocks⟩ := hE
  subst hsz
  have hown : s.vm.findClass RX5 = some m.cls := hown
  have k_f9 : (Cond.fieldLink RX5 9 "PaperMachineModel" "weight" "[I").before args s = true := hts _ (by decide +kernel)
  have k_f13 : (Cond.fieldLink RX5 13 "PaperMachineModel" "width" "I").before args s = true := hts _ (by decide +kernel)
  have i_X5 : ∀ w ∈ u_ws RX5 TX5 29, w ∈ wsX5_massOf := fun _ h => List.mem_cons_of_mem _ (List.mem_append_left _ (List.mem_append_right _ h))
  refine lv_aload_n hx hb dX5_massOf_0 rfl (lv_at hl 0 rfl) ?_
  refine k_get hx hb hts i_X5 hown hw 0 2 rfl rfl (by decide) k_f9 rfl dX5_massOf_1 ?_
  refine lv_iload_n hx hb dX5_massOf_4 rfl (lv_at hl 1 rfl) ?_
  refine k_iald hx hb hw 1 0 rfl rfl g rfl (by omega) (Nat.le_of_ble_eq_true rfl) dX5_massOf_5 ?_
  refine lv_aload_n hx hb dX5_massOf_6 rfl (lv_at hl 0 rfl) ?_
  refine k_get hx hb hts i_X5 hown hw 0 3 rfl rfl (by decide) k_f13 rfl dX5_massOf_7 ?_
  refine lv_imul hx hb dX5_massOf_10 ?_
  refine lv_bipush (v := 10) hx hb dX5_massOf_11 (by decide) ?_
  refine lv_idiv hx hb dX5_massOf_13 (by decide) ?_
  exact k_iret () hx hb hr hlocks hw rfl dX5_massOf_14

set_option maxRecDepth 100000 in
set_option maxHeartbeats 4000000 in
/-- X5_makes -/
theorem c_X5_makes (l : Launch) (D : va_G) (cI cC cJ cG : ClassId) (h0 : Nat) (sz : Nat) (z1 z2 z3 z4 z5 z6 z7 z8 : Nat) (th : Int32) (G mw : Nat) (mg up ch : Int32) (k : Nat) (sh li fp sp : Int32) (hc : Nat) (bk : Int32) (fr pa lo st ma : Int64) (ph tr bs : Int32) (p0 p1 : Int32) (hli : 0 ≤ li.toInt ∧ li.toInt ≤ 9999) (hfp : 0 ≤ fp.toInt ∧ fp.toInt ≤ 99) (hsp : 0 ≤ sp.toInt ∧ sp.toInt ≤ 99) (hp : 0 ≤ (p0 / 2).toInt ∧ (p0 / 2).toInt ≤ 16000) : kMv l yX5_makes wsX5_makes ({ frames := 0, cells := 0, slots := 0, locals := 0 }) D (kty cI cC cJ cG) [.ref h0, .int p0, .int p1] [(h0, .inr (7, [.int th, .int (nI G), .ref z1, .int (nI mw), .int mg, .int up, .int ch, .int (nI k), .ref z2, .ref z3, .ref z4, .ref z5, .int sh, .int li, .int fp, .int sp, .int (nI hc), .ref z6, .int bk, .long fr, .long pa, .long lo, .long st, .long ma, .int ph, .int tr, .int bs, .ref z7, .ref z8]))] sz 0 0 (fun (_ : Unit) => True) (fun (_ : Unit) => [(h0, .inr (7, [.int th, .int (nI G), .ref z1, .int (nI mw), .int mg, .int up, .int ch, .int (nI k), .ref z2, .ref z3, .ref z4, .ref z5, .int sh, .int li, .int fp, .int sp, .int (nI hc), .ref z6, .int (bk + (p1 - m_fed bk sh p0)), .long (fr + Int32.toInt64 (m_fib p0 - m_fed bk sh p0)), .long (pa + Int32.toInt64 (p0 - p1)), .long (lo + Int32.toInt64 (p0 / 50)), .long (st + f_cost li fp sp (p0 / 2)), .long (ma + Int32.toInt64 p0), .int ph, .int tr, .int bs, .ref z7, .ref z8]))]) := by
  unfold kMv
  refine k_ofW (cc := cX5_makes) (maxL := 7) (ret := none) (lv := [(0, .ref h0), (1, .int p0), (2, .int p1)]) (by decide) rfl (Nat.le_of_ble_eq_true rfl) rfl ?_
  intro p e s m args below meth c ls H locs hE hsz hw hl
  obtain ⟨hx, hb, hr, hml, hown, hts, hlocks⟩ := hE
  subst hsz
  have hown : s.vm.findClass RX5 = some m.cls := hown
  have k_f36 : (Cond.fieldLink RX5 36 "PaperMachineModel" "share" "I").before args s = true := hts _ (by decide +kernel)
  have k_f111 : (Cond.fieldLink RX5 111 "PaperMachineModel" "broke" "I").before args s = true := hts _ (by decide +kernel)
  have k_f114 : (Cond.fieldLink RX5 114 "PaperMachineModel" "fresh" "J").before args s = true := hts _ (by decide +kernel)
  have k_f118 : (Cond.fieldLink RX5 118 "PaperMachineModel" "paper" "J").before args s = true := hts _ (by decide +kernel)
  have k_f121 : (Cond.fieldLink RX5 121 "PaperMachineModel" "lost" "J").before args s = true := hts _ (by decide +kernel)
  have k_f124 : (Cond.fieldLink RX5 124 "PaperMachineModel" "mass" "J").before args s = true := hts _ (by decide +kernel)
  have k_f39 : (Cond.fieldLink RX5 39 "PaperMachineModel" "limit" "I").before args s = true := hts _ (by decide +kernel)
  have k_f127 : (Cond.fieldLink RX5 127 "PaperMachineModel" "steam" "J").before args s = true := hts _ (by decide +kernel)
  have k_f42 : (Cond.fieldLink RX5 42 "PaperMachineModel" "firstPrice" "I").before args s = true := hts _ (by decide +kernel)
  have k_f45 : (Cond.fieldLink RX5 45 "PaperMachineModel" "secondPrice" "I").before args s = true := hts _ (by decide +kernel)
  have i_X5 : ∀ w ∈ u_ws RX5 TX5 29, w ∈ wsX5_makes := fun _ h => List.mem_cons_of_mem _ (List.mem_append_right _ h)
  refine lv_iload_n hx hb dX5_makes_0 rfl (lv_at hl 1 rfl) ?_
  refine lv_bipush (v := 50) hx hb dX5_makes_1 (by decide) ?_
  refine lv_idiv hx hb dX5_makes_3 (by decide) ?_
  refine lv_istore_n (lv' := [(3, .int (p0 / 50)), (0, .ref h0), (1, .int p0), (2, .int p1)]) hx hb dX5_makes_4 rfl hl (by decide) rfl (fun ls hl => ?_)
  refine lv_iload_n hx hb dX5_makes_5 rfl (lv_at hl 2 rfl) ?_
  refine lv_iload_n hx hb dX5_makes_6 rfl (lv_at hl 0 rfl) ?_
  refine lv_iadd hx hb dX5_makes_7 ?_
  refine lv_aload_n hx hb dX5_makes_8 rfl (lv_at hl 1 rfl) ?_
  refine k_get hx hb hts i_X5 hown hw 0 12 rfl rfl (by decide) k_f36 rfl dX5_makes_9 ?_
  refine lv_imul hx hb dX5_makes_12 ?_
  refine lv_bipush (v := 100) hx hb dX5_makes_13 (by decide) ?_
  refine lv_idiv hx hb dX5_makes_15 (by decide) ?_
  refine lv_istore (lv' := [(4, .int (((p0 + (p0 / 50)) * sh) / 100)), (3, .int (p0 / 50)), (0, .ref h0), (1, .int p0), (2, .int p1)]) hx hb dX5_makes_16 hl (by decide) rfl (fun ls hl => ?_)
  refine lv_iload hx hb dX5_makes_18 (lv_at hl 0 rfl) ?_
  refine lv_aload_n hx hb dX5_makes_20 rfl (lv_at hl 2 rfl) ?_
  refine k_get hx hb hts i_X5 hown hw 0 18 rfl rfl (by decide) k_f111 rfl dX5_makes_21 ?_
  refine lv_icmp_ge (tgt := 32) hx hb dX5_makes_24 (by decide) (fun c24 => ?_) (fun c24 => ?_)
  · refine lv_aload_n hx hb dX5_makes_32 rfl (lv_at hl 2 rfl) ?_
    refine k_get hx hb hts i_X5 hown hw 0 18 rfl rfl (by decide) k_f111 rfl dX5_makes_33 ?_
    refine k_eqi (y := m_fed bk sh p0) (if_neg (Int32.not_lt.mpr c24)).symm ?_
    refine lv_istore (lv' := [(4, .int (m_fed bk sh p0)), (3, .int (p0 / 50)), (0, .ref h0), (1, .int p0), (2, .int p1)]) hx hb dX5_makes_36 hl (by decide) rfl (fun ls hl => ?_)
    refine lv_aload_n hx hb dX5_makes_38 rfl (lv_at hl 2 rfl) ?_
    refine lv_dup hx hb dX5_makes_39 rfl ?_
    refine k_get hx hb hts i_X5 hown hw 0 18 rfl rfl (by decide) k_f111 rfl dX5_makes_40 ?_
    refine lv_iload_n hx hb dX5_makes_43 rfl (lv_at hl 4 rfl) ?_
    refine lv_iload hx hb dX5_makes_44 (lv_at hl 0 rfl) ?_
    refine lv_isub hx hb dX5_makes_46 ?_
    refine lv_iadd hx hb dX5_makes_47 ?_
    refine k_put hx hb hts i_X5 tyX5_ok nmX5 hown hw 0 18 (ws' := [(h0, .inr (7, [.int th, .int (nI G), .ref z1, .int (nI mw), .int mg, .int up, .int ch, .int (nI k), .ref z2, .ref z3, .ref z4, .ref z5, .int sh, .int li, .int fp, .int sp, .int (nI hc), .ref z6, .int (bk + (p1 - (m_fed bk sh p0))), .long fr, .long pa, .long lo, .long st, .long ma, .int ph, .int tr, .int bs, .ref z7, .ref z8]))]) rfl rfl (by decide) k_f111 rfl rfl rfl (Nat.le_of_ble_eq_true rfl) rfl dX5_makes_48 (fun H locs hw => ?_)
    refine lv_aload_n hx hb dX5_makes_51 rfl (lv_at hl 2 rfl) ?_
    refine lv_dup hx hb dX5_makes_52 rfl ?_
    refine k_get hx hb hts i_X5 hown hw 0 19 rfl rfl (by decide) k_f114 rfl dX5_makes_53 ?_
    refine lv_iload_n hx hb dX5_makes_56 rfl (lv_at hl 3 rfl) ?_
    refine lv_iload_n hx hb dX5_makes_57 rfl (lv_at hl 1 rfl) ?_
    refine lv_iadd hx hb dX5_makes_58 ?_
    refine k_eqi (y := m_fib p0) rfl ?_
    refine lv_iload hx hb dX5_makes_59 (lv_at hl 0 rfl) ?_
    refine lv_isub hx hb dX5_makes_61 ?_
    refine lv_i2l (v := Int32.toInt64 ((m_fib p0) - (m_fed bk sh p0))) hx hb dX5_makes_62 rfl ?_
    refine lv_ladd hx hb dX5_makes_63 ?_
    refine k_put hx hb hts i_X5 tyX5_ok nmX5 hown hw 0 19 (ws' := [(h0, .inr (7, [.int th, .int (nI G), .ref z1, .int (nI mw), .int mg, .int up, .int ch, .int (nI k), .ref z2, .ref z3, .ref z4, .ref z5, .int sh, .int li, .int fp, .int sp, .int (nI hc), .ref z6, .int (bk + (p1 - (m_fed bk sh p0))), .long (fr + (Int32.toInt64 ((m_fib p0) - (m_fed bk sh p0)))), .long pa, .long lo, .long st, .long ma, .int ph, .int tr, .int bs, .ref z7, .ref z8]))]) rfl rfl (by decide) k_f114 rfl rfl rfl (Nat.le_of_ble_eq_true rfl) rfl dX5_makes_64 (fun H locs hw => ?_)
    refine lv_aload_n hx hb dX5_makes_67 rfl (lv_at hl 2 rfl) ?_
    refine lv_dup hx hb dX5_makes_68 rfl ?_
    refine k_get hx hb hts i_X5 hown hw 0 20 rfl rfl (by decide) k_f118 rfl dX5_makes_69 ?_
    refine lv_iload_n hx hb dX5_makes_72 rfl (lv_at hl 3 rfl) ?_
    refine lv_iload_n hx hb dX5_makes_73 rfl (lv_at hl 4 rfl) ?_
    refine lv_isub hx hb dX5_makes_74 ?_
    refine lv_i2l (v := Int32.toInt64 (p0 - p1)) hx hb dX5_makes_75 rfl ?_
    refine lv_ladd hx hb dX5_makes_76 ?_
    refine k_put hx hb hts i_X5 tyX5_ok nmX5 hown hw 0 20 (ws' := [(h0, .inr (7, [.int th, .int (nI G), .ref z1, .int (nI mw), .int mg, .int up, .int ch, .int (nI k), .ref z2, .ref z3, .ref z4, .ref z5, .int sh, .int li, .int fp, .int sp, .int (nI hc), .ref z6, .int (bk + (p1 - (m_fed bk sh p0))), .long (fr + (Int32.toInt64 ((m_fib p0) - (m_fed bk sh p0)))), .long (pa + (Int32.toInt64 (p0 - p1))), .long lo, .long st, .long ma, .int ph, .int tr, .int bs, .ref z7, .ref z8]))]) rfl rfl (by decide) k_f118 rfl rfl rfl (Nat.le_of_ble_eq_true rfl) rfl dX5_makes_77 (fun H locs hw => ?_)
    refine lv_aload_n hx hb dX5_makes_80 rfl (lv_at hl 2 rfl) ?_
    refine lv_dup hx hb dX5_makes_81 rfl ?_
    refine k_get hx hb hts i_X5 hown hw 0 21 rfl rfl (by decide) k_f121 rfl dX5_makes_82 ?_
    refine lv_iload_n hx hb dX5_makes_85 rfl (lv_at hl 1 rfl) ?_
    refine lv_i2l (v := Int32.toInt64 (p0 / 50)) hx hb dX5_makes_86 rfl ?_
    refine lv_ladd hx hb dX5_makes_87 ?_
    refine k_put hx hb hts i_X5 tyX5_ok nmX5 hown hw 0 21 (ws' := [(h0, .inr (7, [.int th, .int (nI G), .ref z1, .int (nI mw), .int mg, .int up, .int ch, .int (nI k), .ref z2, .ref z3, .ref z4, .ref z5, .int sh, .int li, .int fp, .int sp, .int (nI hc), .ref z6, .int (bk + (p1 - (m_fed bk sh p0))), .long (fr + (Int32.toInt64 ((m_fib p0) - (m_fed bk sh p0)))), .long (pa + (Int32.toInt64 (p0 - p1))), .long (lo + (Int32.toInt64 (p0 / 50))), .long st, .long ma, .int ph, .int tr, .int bs, .ref z7, .ref z8]))]) rfl rfl (by decide) k_f121 rfl rfl rfl (Nat.le_of_ble_eq_true rfl) rfl dX5_makes_88 (fun H locs hw => ?_)
    refine lv_aload_n hx hb dX5_makes_91 rfl (lv_at hl 2 rfl) ?_
    refine lv_dup hx hb dX5_makes_92 rfl ?_
    refine k_get hx hb hts i_X5 hown hw 0 23 rfl rfl (by decide) k_f124 rfl dX5_makes_93 ?_
    refine lv_iload_n hx hb dX5_makes_96 rfl (lv_at hl 3 rfl) ?_
    refine lv_i2l (v := Int32.toInt64 p0) hx hb dX5_makes_97 rfl ?_
    refine lv_ladd hx hb dX5_makes_98 ?_
    refine k_put hx hb hts i_X5 tyX5_ok nmX5 hown hw 0 23 (ws' := [(h0, .inr (7, [.int th, .int (nI G), .ref z1, .int (nI mw), .int mg, .int up, .int ch, .int (nI k), .ref z2, .ref z3, .ref z4, .ref z5, .int sh, .int li, .int fp, .int sp, .int (nI hc), .ref z6, .int (bk + (p1 - (m_fed bk sh p0))), .long (fr + (Int32.toInt64 ((m_fib p0) - (m_fed bk sh p0)))), .long (pa + (Int32.toInt64 (p0 - p1))), .long (lo + (Int32.toInt64 (p0 / 50))), .long st, .long (ma + (Int32.toInt64 p0)), .int ph, .int tr, .int bs, .ref z7, .ref z8]))]) rfl rfl (by decide) k_f124 rfl rfl rfl (Nat.le_of_ble_eq_true rfl) rfl dX5_makes_99 (fun H locs hw => ?_)
    refine lv_iload_n hx hb dX5_makes_102 rfl (lv_at hl 3 rfl) ?_
    refine lv_iconst (v := 2) hx hb dX5_makes_103 (by decide) ?_
    refine lv_idiv hx hb dX5_makes_104 (by decide) ?_
    refine lv_istore (lv' := [(5, .int (p0 / 2)), (4, .int (m_fed bk sh p0)), (3, .int (p0 / 50)), (0, .ref h0), (1, .int p0), (2, .int p1)]) hx hb dX5_makes_105 hl (by decide) rfl (fun ls hl => ?_)
    refine lv_iload hx hb dX5_makes_107 (lv_at hl 0 rfl) ?_
    refine lv_aload_n hx hb dX5_makes_109 rfl (lv_at hl 3 rfl) ?_
    refine k_get hx hb hts i_X5 hown hw 0 13 rfl rfl (by decide) k_f39 rfl dX5_makes_110 ?_
    refine lv_icmp_ge (tgt := 121) hx hb dX5_makes_113 (by decide) (fun c113 => ?_) (fun c113 => ?_)
    · refine lv_aload_n hx hb dX5_makes_121 rfl (lv_at hl 3 rfl) ?_
      refine k_get hx hb hts i_X5 hown hw 0 13 rfl rfl (by decide) k_f39 rfl dX5_makes_122 ?_
      refine k_eqi (y := if p0 / 2 < li then p0 / 2 else li) (if_neg (Int32.not_lt.mpr c113)).symm ?_
      refine lv_istore (lv' := [(6, .int (if p0 / 2 < li then p0 / 2 else li)), (5, .int (p0 / 2)), (4, .int (m_fed bk sh p0)), (3, .int (p0 / 50)), (0, .ref h0), (1, .int p0), (2, .int p1)]) hx hb dX5_makes_125 hl (by decide) rfl (fun ls hl => ?_)
      refine lv_aload_n hx hb dX5_makes_127 rfl (lv_at hl 4 rfl) ?_
      refine lv_dup hx hb dX5_makes_128 rfl ?_
      refine k_get hx hb hts i_X5 hown hw 0 22 rfl rfl (by decide) k_f127 rfl dX5_makes_129 ?_
      refine lv_iload hx hb dX5_makes_132 (lv_at hl 0 rfl) ?_
      refine lv_aload_n hx hb dX5_makes_134 rfl (lv_at hl 4 rfl) ?_
      refine k_get hx hb hts i_X5 hown hw 0 14 rfl rfl (by decide) k_f42 rfl dX5_makes_135 ?_
      refine lv_imul hx hb dX5_makes_138 ?_
      refine lv_iload hx hb dX5_makes_139 (lv_at hl 1 rfl) ?_
      refine lv_iload hx hb dX5_makes_141 (lv_at hl 0 rfl) ?_
      refine lv_isub hx hb dX5_makes_143 ?_
      refine lv_aload_n hx hb dX5_makes_144 rfl (lv_at hl 4 rfl) ?_
      refine k_get hx hb hts i_X5 hown hw 0 15 rfl rfl (by decide) k_f45 rfl dX5_makes_145 ?_
      refine lv_imul hx hb dX5_makes_148 ?_
      refine lv_iadd hx hb dX5_makes_149 ?_
      refine lv_i2l (v := Int32.toInt64 (((if p0 / 2 < li then p0 / 2 else li) * fp) + (((p0 / 2) - (if p0 / 2 < li then p0 / 2 else li)) * sp))) hx hb dX5_makes_150 rfl ?_
      refine k_eql (y := f_cost li fp sp (p0 / 2)) (m_cost hli hfp hsp hp) ?_
      refine lv_ladd hx hb dX5_makes_151 ?_
      refine k_put hx hb hts i_X5 tyX5_ok nmX5 hown hw 0 22 (ws' := [(h0, .inr (7, [.int th, .int (nI G), .ref z1, .int (nI mw), .int mg, .int up, .int ch, .int (nI k), .ref z2, .ref z3, .ref z4, .ref z5, .int sh, .int li, .int fp, .int sp, .int (nI hc), .ref z6, .int (bk + (p1 - (m_fed bk sh p0))), .long (fr + (Int32.toInt64 ((m_fib p0) - (m_fed bk sh p0)))), .long (pa + (Int32.toInt64 (p0 - p1))), .long (lo + (Int32.toInt64 (p0 / 50))), .long (st + (f_cost li fp sp (p0 / 2))), .long (ma + (Int32.toInt64 p0)), .int ph, .int tr, .int bs, .ref z7, .ref z8]))]) rfl rfl (by decide) k_f127 rfl rfl rfl (Nat.le_of_ble_eq_true rfl) rfl dX5_makes_152 (fun H locs hw => ?_)
      exact k_vret () hx hb hr hlocks hw trivial dX5_makes_155
    · refine lv_iload hx hb dX5_makes_116 (lv_at hl 0 rfl) ?_
      refine k_eqi (y := if p0 / 2 < li then p0 / 2 else li) (if_pos (Int32.not_le.mp c113)).symm ?_
      refine lv_goto (tgt := 125) hx hb dX5_makes_118 (by decide) ?_
      refine lv_istore (lv' := [(6, .int (if p0 / 2 < li then p0 / 2 else li)), (5, .int (p0 / 2)), (4, .int (m_fed bk sh p0)), (3, .int (p0 / 50)), (0, .ref h0), (1, .int p0), (2, .int p1)]) hx hb dX5_makes_125 hl (by decide) rfl (fun ls hl => ?_)
      refine lv_aload_n hx hb dX5_makes_127 rfl (lv_at hl 4 rfl) ?_
      refine lv_dup hx hb dX5_makes_128 rfl ?_
      refine k_get hx hb hts i_X5 hown hw 0 22 rfl rfl (by decide) k_f127 rfl dX5_makes_129 ?_
      refine lv_iload hx hb dX5_makes_132 (lv_at hl 0 rfl) ?_
      refine lv_aload_n hx hb dX5_makes_134 rfl (lv_at hl 4 rfl) ?_
      refine k_get hx hb hts i_X5 hown hw 0 14 rfl rfl (by decide) k_f42 rfl dX5_makes_135 ?_
      refine lv_imul hx hb dX5_makes_138 ?_
      refine lv_iload hx hb dX5_makes_139 (lv_at hl 1 rfl) ?_
      refine lv_iload hx hb dX5_makes_141 (lv_at hl 0 rfl) ?_
      refine lv_isub hx hb dX5_makes_143 ?_
      refine lv_aload_n hx hb dX5_makes_144 rfl (lv_at hl 4 rfl) ?_
      refine k_get hx hb hts i_X5 hown hw 0 15 rfl rfl (by decide) k_f45 rfl dX5_makes_145 ?_
      refine lv_imul hx hb dX5_makes_148 ?_
      refine lv_iadd hx hb dX5_makes_149 ?_
      refine lv_i2l (v := Int32.toInt64 (((if p0 / 2 < li then p0 / 2 else li) * fp) + (((p0 / 2) - (if p0 / 2 < li then p0 / 2 else li)) * sp))) hx hb dX5_makes_150 rfl ?_
      refine k_eql (y := f_cost li fp sp (p0 / 2)) (m_cost hli hfp hsp hp) ?_
      refine lv_ladd hx hb dX5_makes_151 ?_
      refine k_put hx hb hts i_X5 tyX5_ok nmX5 hown hw 0 22 (ws' := [(h0, .inr (7, [.int th, .int (nI G), .ref z1, .int (nI mw), .int mg, .int up, .int ch, .int (nI k), .ref z2, .ref z3, .ref z4, .ref z5, .int sh, .int li, .int fp, .int sp, .int (nI hc), .ref z6, .int (bk + (p1 - (m_fed bk sh p0))), .long (fr + (Int32.toInt64 ((m_fib p0) - (m_fed bk sh p0)))), .long (pa + (Int32.toInt64 (p0 - p1))), .long (lo + (Int32.toInt64 (p0 / 50))), .long (st + (f_cost li fp sp (p0 / 2))), .long (ma + (Int32.toInt64 p0)), .int ph, .int tr, .int bs, .ref z7, .ref z8]))]) rfl rfl (by decide) k_f127 rfl rfl rfl (Nat.le_of_ble_eq_true rfl) rfl dX5_makes_152 (fun H locs hw => ?_)
      exact k_vret () hx hb hr hlocks hw trivial dX5_makes_155
  · refine lv_iload hx hb dX5_makes_27 (lv_at hl 0 rfl) ?_
    refine k_eqi (y := m_fed bk sh p0) (if_pos (Int32.not_le.mp c24)).symm ?_
    refine lv_goto (tgt := 36) hx hb dX5_makes_29 (by decide) ?_
    refine lv_istore (lv' := [(4, .int (m_fed bk sh p0)), (3, .int (p0 / 50)), (0, .ref h0), (1, .int p0), (2, .int p1)]) hx hb dX5_makes_36 hl (by decide) rfl (fun ls hl => ?_)
    refine lv_aload_n hx hb dX5_makes_38 rfl (lv_at hl 2 rfl) ?_
    refine lv_dup hx hb dX5_makes_39 rfl ?_
    refine k_get hx hb hts i_X5 hown hw 0 18 rfl rfl (by decide) k_f111 rfl dX5_makes_40 ?_
    refine lv_iload_n hx hb dX5_makes_43 rfl (lv_at hl 4 rfl) ?_
    refine lv_iload hx hb dX5_makes_44 (lv_at hl 0 rfl) ?_
    refine lv_isub hx hb dX5_makes_46 ?_
    refine lv_iadd hx hb dX5_makes_47 ?_
    refine k_put hx hb hts i_X5 tyX5_ok nmX5 hown hw 0 18 (ws' := [(h0, .inr (7, [.int th, .int (nI G), .ref z1, .int (nI mw), .int mg, .int up, .int ch, .int (nI k), .ref z2, .ref z3, .ref z4, .ref z5, .int sh, .int li, .int fp, .int sp, .int (nI hc), .ref z6, .int (bk + (p1 - (m_fed bk sh p0))), .long fr, .long pa, .long lo, .long st, .long ma, .int ph, .int tr, .int bs, .ref z7, .ref z8]))]) rfl rfl (by decide) k_f111 rfl rfl rfl (Nat.le_of_ble_eq_true rfl) rfl dX5_makes_48 (fun H locs hw => ?_)
    refine lv_aload_n hx hb dX5_makes_51 rfl (lv_at hl 2 rfl) ?_
    refine lv_dup hx hb dX5_makes_52 rfl ?_
    refine k_get hx hb hts i_X5 hown hw 0 19 rfl rfl (by decide) k_f114 rfl dX5_makes_53 ?_
    refine lv_iload_n hx hb dX5_makes_56 rfl (lv_at hl 3 rfl) ?_
    refine lv_iload_n hx hb dX5_makes_57 rfl (lv_at hl 1 rfl) ?_
    refine lv_iadd hx hb dX5_makes_58 ?_
    refine k_eqi (y := m_fib p0) rfl ?_
    refine lv_iload hx hb dX5_makes_59 (lv_at hl 0 rfl) ?_
    refine lv_isub hx hb dX5_makes_61 ?_
    refine lv_i2l (v := Int32.toInt64 ((m_fib p0) - (m_fed bk sh p0))) hx hb dX5_makes_62 rfl ?_
    refine lv_ladd hx hb dX5_makes_63 ?_
    refine k_put hx hb hts i_X5 tyX5_ok nmX5 hown hw 0 19 (ws' := [(h0, .inr (7, [.int th, .int (nI G), .ref z1, .int (nI mw), .int mg, .int up, .int ch, .int (nI k), .ref z2, .ref z3, .ref z4, .ref z5, .int sh, .int li, .int fp, .int sp, .int (nI hc), .ref z6, .int (bk + (p1 - (m_fed bk sh p0))), .long (fr + (Int32.toInt64 ((m_fib p0) - (m_fed bk sh p0)))), .long pa, .long lo, .long st, .long ma, .int ph, .int tr, .int bs, .ref z7, .ref z8]))]) rfl rfl (by decide) k_f114 rfl rfl rfl (Nat.le_of_ble_eq_true rfl) rfl dX5_makes_64 (fun H locs hw => ?_)
    refine lv_aload_n hx hb dX5_makes_67 rfl (lv_at hl 2 rfl) ?_
    refine lv_dup hx hb dX5_makes_68 rfl ?_
    refine k_get hx hb hts i_X5 hown hw 0 20 rfl rfl (by decide) k_f118 rfl dX5_makes_69 ?_
    refine lv_iload_n hx hb dX5_makes_72 rfl (lv_at hl 3 rfl) ?_
    refine lv_iload_n hx hb dX5_makes_73 rfl (lv_at hl 4 rfl) ?_
    refine lv_isub hx hb dX5_makes_74 ?_
    refine lv_i2l (v := Int32.toInt64 (p0 - p1)) hx hb dX5_makes_75 rfl ?_
    refine lv_ladd hx hb dX5_makes_76 ?_
    refine k_put hx hb hts i_X5 tyX5_ok nmX5 hown hw 0 20 (ws' := [(h0, .inr (7, [.int th, .int (nI G), .ref z1, .int (nI mw), .int mg, .int up, .int ch, .int (nI k), .ref z2, .ref z3, .ref z4, .ref z5, .int sh, .int li, .int fp, .int sp, .int (nI hc), .ref z6, .int (bk + (p1 - (m_fed bk sh p0))), .long (fr + (Int32.toInt64 ((m_fib p0) - (m_fed bk sh p0)))), .long (pa + (Int32.toInt64 (p0 - p1))), .long lo, .long st, .long ma, .int ph, .int tr, .int bs, .ref z7, .ref z8]))]) rfl rfl (by decide) k_f118 rfl rfl rfl (Nat.le_of_ble_eq_true rfl) rfl dX5_makes_77 (fun H locs hw => ?_)
    refine lv_aload_n hx hb dX5_makes_80 rfl (lv_at hl 2 rfl) ?_
    refine lv_dup hx hb dX5_makes_81 rfl ?_
    refine k_get hx hb hts i_X5 hown hw 0 21 rfl rfl (by decide) k_f121 rfl dX5_makes_82 ?_
    refine lv_iload_n hx hb dX5_makes_85 rfl (lv_at hl 1 rfl) ?_
    refine lv_i2l (v := Int32.toInt64 (p0 / 50)) hx hb dX5_makes_86 rfl ?_
    refine lv_ladd hx hb dX5_makes_87 ?_
    refine k_put hx hb hts i_X5 tyX5_ok nmX5 hown hw 0 21 (ws' := [(h0, .inr (7, [.int th, .int (nI G), .ref z1, .int (nI mw), .int mg, .int up, .int ch, .int (nI k), .ref z2, .ref z3, .ref z4, .ref z5, .int sh, .int li, .int fp, .int sp, .int (nI hc), .ref z6, .int (bk + (p1 - (m_fed bk sh p0))), .long (fr + (Int32.toInt64 ((m_fib p0) - (m_fed bk sh p0)))), .long (pa + (Int32.toInt64 (p0 - p1))), .long (lo + (Int32.toInt64 (p0 / 50))), .long st, .long ma, .int ph, .int tr, .int bs, .ref z7, .ref z8]))]) rfl rfl (by decide) k_f121 rfl rfl rfl (Nat.le_of_ble_eq_true rfl) rfl dX5_makes_88 (fun H locs hw => ?_)
    refine lv_aload_n hx hb dX5_makes_91 rfl (lv_at hl 2 rfl) ?_
    refine lv_dup hx hb dX5_makes_92 rfl ?_
    refine k_get hx hb hts i_X5 hown hw 0 23 rfl rfl (by decide) k_f124 rfl dX5_makes_93 ?_
    refine lv_iload_n hx hb dX5_makes_96 rfl (lv_at hl 3 rfl) ?_
    refine lv_i2l (v := Int32.toInt64 p0) hx hb dX5_makes_97 rfl ?_
    refine lv_ladd hx hb dX5_makes_98 ?_
    refine k_put hx hb hts i_X5 tyX5_ok nmX5 hown hw 0 23 (ws' := [(h0, .inr (7, [.int th, .int (nI G), .ref z1, .int (nI mw), .int mg, .int up, .int ch, .int (nI k), .ref z2, .ref z3, .ref z4, .ref z5, .int sh, .int li, .int fp, .int sp, .int (nI hc), .ref z6, .int (bk + (p1 - (m_fed bk sh p0))), .long (fr + (Int32.toInt64 ((m_fib p0) - (m_fed bk sh p0)))), .long (pa + (Int32.toInt64 (p0 - p1))), .long (lo + (Int32.toInt64 (p0 / 50))), .long st, .long (ma + (Int32.toInt64 p0)), .int ph, .int tr, .int bs, .ref z7, .ref z8]))]) rfl rfl (by decide) k_f124 rfl rfl rfl (Nat.le_of_ble_eq_true rfl) rfl dX5_makes_99 (fun H locs hw => ?_)
    refine lv_iload_n hx hb dX5_makes_102 rfl (lv_at hl 3 rfl) ?_
    refine lv_iconst (v := 2) hx hb dX5_makes_103 (by decide) ?_
    refine lv_idiv hx hb dX5_makes_104 (by decide) ?_
    refine lv_istore (lv' := [(5, .int (p0 / 2)), (4, .int (m_fed bk sh p0)), (3, .int (p0 / 50)), (0, .ref h0), (1, .int p0), (2, .int p1)]) hx hb dX5_makes_105 hl (by decide) rfl (fun ls hl => ?_)
    refine lv_iload hx hb dX5_makes_107 (lv_at hl 0 rfl) ?_
    refine lv_aload_n hx hb dX5_makes_109 rfl (lv_at hl 3 rfl) ?_
    refine k_get hx hb hts i_X5 hown hw 0 13 rfl rfl (by decide) k_f39 rfl dX5_makes_110 ?_
    refine lv_icmp_ge (tgt := 121) hx hb dX5_makes_113 (by decide) (fun c113 => ?_) (fun c113 => ?_)
    · refine lv_aload_n hx hb dX5_makes_121 rfl (lv_at hl 3 rfl) ?_
      refine k_get hx hb hts i_X5 hown hw 0 13 rfl rfl (by decide) k_f39 rfl dX5_makes_122 ?_
      refine k_eqi (y := if p0 / 2 < li then p0 / 2 else li) (if_neg (Int32.not_lt.mpr c113)).symm ?_
      refine lv_istore (lv' := [(6, .int (if p0 / 2 < li then p0 / 2 else li)), (5, .int (p0 / 2)), (4, .int (m_fed bk sh p0)), (3, .int (p0 / 50)), (0, .ref h0), (1, .int p0), (2, .int p1)]) hx hb dX5_makes_125 hl (by decide) rfl (fun ls hl => ?_)
      refine lv_aload_n hx hb dX5_makes_127 rfl (lv_at hl 4 rfl) ?_
      refine lv_dup hx hb dX5_makes_128 rfl ?_
      refine k_get hx hb hts i_X5 hown hw 0 22 rfl rfl (by decide) k_f127 rfl dX5_makes_129 ?_
      refine lv_iload hx hb dX5_makes_132 (lv_at hl 0 rfl) ?_
      refine lv_aload_n hx hb dX5_makes_134 rfl (lv_at hl 4 rfl) ?_
      refine k_get hx hb hts i_X5 hown hw 0 14 rfl rfl (by decide) k_f42 rfl dX5_makes_135 ?_
      refine lv_imul hx hb dX5_makes_138 ?_
      refine lv_iload hx hb dX5_makes_139 (lv_at hl 1 rfl) ?_
      refine lv_iload hx hb dX5_makes_141 (lv_at hl 0 rfl) ?_
      refine lv_isub hx hb dX5_makes_143 ?_
      refine lv_aload_n hx hb dX5_makes_144 rfl (lv_at hl 4 rfl) ?_
      refine k_get hx hb hts i_X5 hown hw 0 15 rfl rfl (by decide) k_f45 rfl dX5_makes_145 ?_
      refine lv_imul hx hb dX5_makes_148 ?_
      refine lv_iadd hx hb dX5_makes_149 ?_
      refine lv_i2l (v := Int32.toInt64 (((if p0 / 2 < li then p0 / 2 else li) * fp) + (((p0 / 2) - (if p0 / 2 < li then p0 / 2 else li)) * sp))) hx hb dX5_makes_150 rfl ?_
      refine k_eql (y := f_cost li fp sp (p0 / 2)) (m_cost hli hfp hsp hp) ?_
      refine lv_ladd hx hb dX5_makes_151 ?_
      refine k_put hx hb hts i_X5 tyX5_ok nmX5 hown hw 0 22 (ws' := [(h0, .inr (7, [.int th, .int (nI G), .ref z1, .int (nI mw), .int mg, .int up, .int ch, .int (nI k), .ref z2, .ref z3, .ref z4, .ref z5, .int sh, .int li, .int fp, .int sp, .int (nI hc), .ref z6, .int (bk + (p1 - (m_fed bk sh p0))), .long (fr + (Int32.toInt64 ((m_fib p0) - (m_fed bk sh p0)))), .long (pa + (Int32.toInt64 (p0 - p1))), .long (lo + (Int32.toInt64 (p0 / 50))), .long (st + (f_cost li fp sp (p0 / 2))), .long (ma + (Int32.toInt64 p0)), .int ph, .int tr, .int bs, .ref z7, .ref z8]))]) rfl rfl (by decide) k_f127 rfl rfl rfl (Nat.le_of_ble_eq_true rfl) rfl dX5_makes_152 (fun H locs hw => ?_)
      exact k_vret () hx hb hr hlocks hw trivial dX5_makes_155
    · refine lv_iload hx hb dX5_makes_116 (lv_at hl 0 rfl) ?_
      refine k_eqi (y := if p0 / 2 < li then p0 / 2 else li) (if_pos (Int32.not_le.mp c113)).symm ?_
      refine lv_goto (tgt := 125) hx hb dX5_makes_118 (by decide) ?_
      refine lv_istore (lv' := [(6, .int (if p0 / 2 < li then p0 / 2 else li)), (5, .int (p0 / 2)), (4, .int (m_fed bk sh p0)), (3, .int (p0 / 50)), (0, .ref h0), (1, .int p0), (2, .int p1)]) hx hb dX5_makes_125 hl (by decide) rfl (fun ls hl => ?_)
      refine lv_aload_n hx hb dX5_makes_127 rfl (lv_at hl 4 rfl) ?_
      refine lv_dup hx hb dX5_makes_128 rfl ?_
      refine k_get hx hb hts i_X5 hown hw 0 22 rfl rfl (by decide) k_f127 rfl dX5_makes_129 ?_
      refine lv_iload hx hb dX5_makes_132 (lv_at hl 0 rfl) ?_
      refine lv_aload_n hx hb dX5_makes_134 rfl (lv_at hl 4 rfl) ?_
      refine k_get hx hb hts i_X5 hown hw 0 14 rfl rfl (by decide) k_f42 rfl dX5_makes_135 ?_
      refine lv_imul hx hb dX5_makes_138 ?_
      refine lv_iload hx hb dX5_makes_139 (lv_at hl 1 rfl) ?_
      refine lv_iload hx hb dX5_makes_141 (lv_at hl 0 rfl) ?_
      refine lv_isub hx hb dX5_makes_143 ?_
      refine lv_aload_n hx hb dX5_makes_144 rfl (lv_at hl 4 rfl) ?_
      refine k_get hx hb hts i_X5 hown hw 0 15 rfl rfl (by decide) k_f45 rfl dX5_makes_145 ?_
      refine lv_imul hx hb dX5_makes_148 ?_
      refine lv_iadd hx hb dX5_makes_149 ?_
      refine lv_i2l (v := Int32.toInt64 (((if p0 / 2 < li then p0 / 2 else li) * fp) + (((p0 / 2) - (if p0 / 2 < li then p0 / 2 else li)) * sp))) hx hb dX5_makes_150 rfl ?_
      refine k_eql (y := f_cost li fp sp (p0 / 2)) (m_cost hli hfp hsp hp) ?_
      refine lv_ladd hx hb dX5_makes_151 ?_
      refine k_put hx hb hts i_X5 tyX5_ok nmX5 hown hw 0 22 (ws' := [(h0, .inr (7, [.int th, .int (nI G), .ref z1, .int (nI mw), .int mg, .int up, .int ch, .int (nI k), .ref z2, .ref z3, .ref z4, .ref z5, .int sh, .int li, .int fp, .int sp, .int (nI hc), .ref z6, .int (bk + (p1 - (m_fed bk sh p0))), .long (fr + (Int32.toInt64 ((m_fib p0) - (m_fed bk sh p0)))), .long (pa + (Int32.toInt64 (p0 - p1))), .long (lo + (Int32.toInt64 (p0 / 50))), .long (st + (f_cost li fp sp (p0 / 2))), .long (ma + (Int32.toInt64 p0)), .int ph, .int tr, .int bs, .ref z7, .ref z8]))]) rfl rfl (by decide) k_f127 rfl rfl rfl (Nat.le_of_ble_eq_true rfl) rfl dX5_makes_152 (fun H locs hw => ?_)
      exact k_vret () hx hb hr hlocks hw trivial dX5_makes_155
