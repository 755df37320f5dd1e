set_option maxRecDepth 100000 in
set_option maxHeartbeats 4000000 in
/-- J7_fill_53178 -/
theorem c_J7_fill_53178 (l : Launch) (D : va_G) (cI cC cJ cG : ClassId) (h0 : Nat) (sz : Nat) (n : Nat) (f : Nat → Int32) (p0 : Int32) (hn : n ≤ 1000) : kMv l yJ7_fill_53178 wsJ7_fill_53178 ({ frames := 0, cells := 0, slots := 0, locals := 0 }) D (kty cI cC cJ cG) [.ref h0, .int p0] [(h0, .inl (cI, n, .inl f))] sz 0 0 (fun (_ : Unit) => True) (fun (_ : Unit) => [(h0, .inl (cI, n, .inl (f_fill p0 n f)))]) := by
  unfold kMv
  refine k_ofW (cc := cJ7_fill_53178) (maxL := 4) (ret := none) (lv := [(0, .ref h0), (1, .int p0)]) (by decide) rfl (Nat.le_of_ble_eq_true rfl) rfl ?_
  intro p e s m args below meth c ls H locs hE hsz hw hl
  obtain ⟨hx, hb, hr, hml, hown, hts, hlocks⟩ := hE
  subst hsz
  have hown : s.vm.findClass RJ7 = some m.cls := hown
  refine lv_iconst (v := 0) hx hb dJ7_fill_53178_0 (by decide) ?_
  refine lv_istore_n (lv' := [(2, .int 0), (0, .ref h0), (1, .int p0)]) hx hb dJ7_fill_53178_1 rfl hl (by decide) rfl (fun ls hl => ?_)
  refine lv_aload_n hx hb dJ7_fill_53178_2 rfl (lv_at hl 1 rfl) ?_
  refine va_alen (v := nI n) hx hb hw.2.2.2.1 hw.1 0 0 rfl rfl rfl dJ7_fill_53178_3 ?_
  refine lv_istore_n (lv' := [(3, .int (nI n)), (2, .int 0), (0, .ref h0), (1, .int p0)]) hx hb dJ7_fill_53178_4 rfl hl (by decide) rfl (fun ls hl => ?_)
  replace hl : lv_has _ 4 [(3, .int (nI n)), (2, .int (nI 0)), (0, .ref h0), (1, .int p0)] := hl
  replace hw : kW D (kty cI cC cJ cG) s (va_A [(h0, .inl (cI, n, .inl f))] s.heap.size) [(h0, .inl (cI, n, .inl f))] H locs := hw
  revert hl; revert hw; revert ls; revert locs; revert H
  refine k_loop (fun ((i, f1) : (Nat) × (Nat → Int32)) => i ≤ n ∧ f1 = f_fill p0 i f) (fun ((i, f1) : (Nat) × (Nat → Int32)) => n - i) (fun ((i, f1) : (Nat) × (Nat → Int32)) => [(h0, .inl (cI, n, .inl f1))]) (fun ((i, f1) : (Nat) × (Nat → Int32)) => [(3, .int (nI n)), (2, .int (nI i)), (0, .ref h0), (1, .int p0)]) (0, f) (show (0 : Nat) ≤ n ∧ f = f_fill p0 (0 : Nat) f from ⟨Nat.zero_le _, (f_fill_0 _ _).symm⟩) ?_
  intro ⟨i, f1⟩ hI ih5 H locs ls hw hl
  replace hI : i ≤ n ∧ f1 = f_fill p0 i f := hI
  replace hw : kW D (kty cI cC cJ cG) s (va_A [(h0, .inl (cI, n, .inl f))] s.heap.size) [(h0, .inl (cI, n, .inl f1))] H locs := hw
  replace hl : lv_has ls 4 [(3, .int (nI n)), (2, .int (nI i)), (0, .ref h0), (1, .int p0)] := hl
  refine lv_iload_n hx hb dJ7_fill_53178_5 rfl (lv_at hl 1 rfl) ?_
  refine lv_iload_n hx hb dJ7_fill_53178_6 rfl (lv_at hl 0 rfl) ?_
  refine lv_icmp_ge (tgt := 20) hx hb dJ7_fill_53178_7 (by decide) (fun c7 => ?_) (fun c7 => ?_)
  · have hi : n ≤ i := k_le c7 (by omega) (by omega)
    obtain ⟨hI1, rfl⟩ := hI
    obtain rfl : i = n := by omega
    exact k_vret () hx hb hr hlocks hw trivial dJ7_fill_53178_20
  · have hi : i < n := k_lt c7 (by omega) (by omega)
    refine lv_aload_n hx hb dJ7_fill_53178_10 rfl (lv_at hl 2 rfl) ?_
    refine lv_iload_n hx hb dJ7_fill_53178_11 rfl (lv_at hl 1 rfl) ?_
    refine lv_iload_n hx hb dJ7_fill_53178_12 rfl (lv_at hl 3 rfl) ?_
    refine k_iast (ws' := [(h0, .inl (cI, n, .inl (upd f1 i p0)))]) hx hb hw 0 0 rfl rfl i rfl (by omega) (by omega) rfl dJ7_fill_53178_13 (fun H locs hw => ?_)
    refine lv_iinc (v := nI (i + 1)) (lv' := [(2, .int (nI (i + 1))), (3, .int (nI n)), (0, .ref h0), (1, .int p0)]) hx hb dJ7_fill_53178_14 hl (k := 1) rfl (nI_1 i) (by decide) rfl (fun ls hl => ?_)
    refine lv_goto (tgt := 5) hx hb dJ7_fill_53178_17 (by decide) ?_
    exact ih5 ((i + 1), upd f1 i p0) _ _ _ (show (i + 1) ≤ n ∧ (upd f1 i p0) = f_fill p0 (i + 1) f from ⟨by omega, by rw [hI.2]; exact f_fill_s _ _ _⟩) (show n - (i + 1) < n - i from by omega) hw (lv_sub hl [1, 0, 2, 3] rfl)

set_option maxRecDepth 100000 in
set_option maxHeartbeats 4000000 in
/-- X1_keepIfGreater -/
theorem c_X1_keepIfGreater (l : Launch) (D : va_G) (cI cC cJ cG : ClassId) (h0 k1 k2 : Nat) (sz : Nat) (k3 k4 k5 k6 : Nat) (rm bs : Int32) (fb ft : Nat → Int32) (p0 : Int32) : kMv l yX1_keepIfGreater wsX1_keepIfGreater ({ frames := 1, cells := 0, slots := 0, locals := 18 }) D (kty cI cC cJ cG) [.ref h0, .int p0] [(h0, .inr (1, [.ref k1, .ref k2, .ref k3, .ref k4, .ref k5, .ref k6, .int rm, .int bs])), (k1, .inl (cI, 10, .inl fb)), (k2, .inl (cI, 10, .inl ft))] sz 0 0 (fun ((fb2, bs2) : (Nat → Int32) × Int32) => bs2 = (if bs < p0 then p0 else bs) ∧ ∀ j, j < 10 → fb2 j = if bs < p0 then ft j else fb j) (fun ((fb2, bs2) : (Nat → Int32) × Int32) => [(h0, .inr (1, [.ref k1, .ref k2, .ref k3, .ref k4, .ref k5, .ref k6, .int rm, .int bs2])), (k1, .inl (cI, 10, .inl fb2)), (k2, .inl (cI, 10, .inl ft))]) := by
  unfold kMv
  refine k_ofW (cc := cX1_keepIfGreater) (maxL := 2) (ret := none) (lv := [(0, .ref h0), (1, .int p0)]) (by decide) rfl (Nat.le_of_ble_eq_true rfl) rfl ?_
  intro p e s m args below meth c ls H locs hE hsz hw hl
  obtain ⟨hx, hb, hr, hml, hown, hts, hlocks⟩ := hE
  subst hsz
  have hown : s.vm.findClass RX1 = some m.cls := hown
  have k_f56 : (Cond.fieldLink RX1 56 "PaperMachine$Cutter" "bestSum" "I").before args s = true := hts _ (by decide +kernel)
  have k_f15 : (Cond.fieldLink RX1 15 "PaperMachine$Cutter" "trial" "[I").before args s = true := hts _ (by decide +kernel)
  have k_f9 : (Cond.fieldLink RX1 9 "PaperMachine$Cutter" "best" "[I").before args s = true := hts _ (by decide +kernel)
  have k_m73 : (Cond.methodLink RX1 73 arraycopyName).before args s = true := hts _ (by decide +kernel)
  have k_acn : (Cond.native arraycopyName).before args s = true := hts _ (by decide +kernel)
  have k_acs : (Cond.static arraycopyName).before args s = true := hts _ (by decide +kernel)
  have k_isys : (Cond.initialized "java/lang/System").before args s = true := hts _ (by decide +kernel)
  have i_X1 : ∀ w ∈ u_ws RX1 TX1 8, w ∈ wsX1_keepIfGreater := fun _ h => List.mem_cons_of_mem _ (List.mem_append_right _ h)
  refine lv_iload_n hx hb dX1_keepIfGreater_0 rfl (lv_at hl 1 rfl) ?_
  refine lv_aload_n hx hb dX1_keepIfGreater_1 rfl (lv_at hl 0 rfl) ?_
  refine k_get hx hb hts i_X1 hown hw 0 7 rfl rfl (by decide) k_f56 rfl dX1_keepIfGreater_2 ?_
  refine lv_icmp_le (tgt := 28) hx hb dX1_keepIfGreater_5 (by decide) (fun c5 => ?_) (fun c5 => ?_)
  · exact k_vret (fb, bs) hx hb hr hlocks hw ⟨by rw [if_neg (Int32.not_lt.mpr c5)], fun j _ => by rw [if_neg (Int32.not_lt.mpr c5)]⟩ dX1_keepIfGreater_28
  · refine lv_aload_n hx hb dX1_keepIfGreater_8 rfl (lv_at hl 0 rfl) ?_
    refine lv_iload_n hx hb dX1_keepIfGreater_9 rfl (lv_at hl 1 rfl) ?_
    refine k_put hx hb hts i_X1 tyX1_ok nmX1 hown hw 0 7 (ws' := [(h0, .inr (1, [.ref k1, .ref k2, .ref k3, .ref k4, .ref k5, .ref k6, .int rm, .int p0])), (k1, .inl (cI, 10, .inl fb)), (k2, .inl (cI, 10, .inl ft))]) rfl rfl (by decide) k_f56 rfl rfl rfl (Nat.le_of_ble_eq_true rfl) rfl dX1_keepIfGreater_10 (fun H locs hw => ?_)
    refine lv_aload_n hx hb dX1_keepIfGreater_13 rfl (lv_at hl 0 rfl) ?_
    refine k_get hx hb hts i_X1 hown hw 0 1 rfl rfl (by decide) k_f15 rfl dX1_keepIfGreater_14 ?_
    refine lv_iconst (v := 0) hx hb dX1_keepIfGreater_17 (by decide) ?_
    refine lv_aload_n hx hb dX1_keepIfGreater_18 rfl (lv_at hl 0 rfl) ?_
    refine k_get hx hb hts i_X1 hown hw 0 0 rfl rfl (by decide) k_f9 rfl dX1_keepIfGreater_19 ?_
    refine lv_iconst (v := 0) hx hb dX1_keepIfGreater_22 (by decide) ?_
    refine lv_bipush (v := 10) hx hb dX1_keepIfGreater_23 (by decide) ?_
    refine k_copy (ws' := [(h0, .inr (1, [.ref k1, .ref k2, .ref k3, .ref k4, .ref k5, .ref k6, .int rm, .int p0])), (k1, .inl (cI, 10, .inl (va_cpy ft fb 0 0 10))), (k2, .inl (cI, 10, .inl ft))]) hx hb (hml.trans hl.1.symm) hown k_m73 k_acn k_acs k_isys hw 2 1 0 rfl rfl rfl 10 rfl (by omega) (by omega) (by omega) rfl (Nat.le_of_ble_eq_true rfl) (by decide) dX1_keepIfGreater_25 (fun H locs hw => ?_)
    exact k_vret (va_cpy ft fb 0 0 10, p0) hx hb hr hlocks hw ⟨by rw [if_pos (Int32.not_le.mp c5)], fun j hj => by rw [if_pos (Int32.not_le.mp c5)]; exact (pk_cpy_in (Nat.zero_le j) (by omega)).trans (by rw [Nat.sub_zero, Nat.zero_add])⟩ dX1_keepIfGreater_28



set_option maxRecDepth 100000 in
set_option maxHeartbeats 4000000 in
/-- X1_load -/
theorem c_X1_load (l : Launch) (D : va_G) (cI cC cJ cG : ClassId) (h0 k3 k4 k5 b0 o1 o2 o4 : Nat) (sz : Nat) (k1 k2 k6 o3 : Nat) (rm0 bs : Int32) (fw0 fm0 ff0 : Nat → Int32) (k : Nat) (og ow ol : Nat → Int32) (p2 : Int32) (rm : Nat) (lk w : Nat → Nat) (hrm : rm ≤ 800) (hk : k ≤ 10) (how : ∀ j, j < 10 → ow j = nI (w j)) (hol : ∀ j, j < 10 → ol j = nI (lk j)) (hwb : ∀ j, j < 10 → w j ≤ 400) (hlk : ∀ j, j < 10 → lk j ≤ 1000) : kMv l yX1_load wsX1_load ({ frames := 1, cells := 0, slots := 0, locals := 21 }) D (kty cI cC cJ cG) [.ref h0, .ref b0, .int p2, .int (nI rm)] [(h0, .inr (1, [.ref k1, .ref k2, .ref k3, .ref k4, .ref k5, .ref k6, .int rm0, .int bs])), (k3, .inl (cI, 10, .inl fw0)), (k4, .inl (cI, 10, .inl fm0)), (k5, .inl (cI, 10, .inl ff0)), (b0, .inr (3, [.ref o1, .ref o2, .ref o3, .ref o4, .int (nI k)])), (o1, .inl (cI, 10, .inl og)), (o2, .inl (cI, 10, .inl ow)), (o4, .inl (cI, 10, .inl ol))] sz 0 0 (fun ((fw, fm, ff) : (Nat → Int32) × (Nat → Int32) × (Nat → Int32)) => (∀ j, j < 10 → fw j = nI (w j)) ∧ (∀ j, j < 10 → fm j = nI (f_cap og lk k p2 j)) ∧ ∀ j, j < 10 → ff j = nI (f_wf (f_cap og lk k p2) w (10 - j))) (fun ((fw, fm, ff) : (Nat → Int32) × (Nat → Int32) × (Nat → Int32)) => [(h0, .inr (1, [.ref k1, .ref k2, .ref k3, .ref k4, .ref k5, .ref k6, .int (nI rm), .int bs])), (k3, .inl (cI, 10, .inl fw)), (k4, .inl (cI, 10, .inl fm)), (k5, .inl (cI, 10, .inl ff)), (b0, .inr (3, [.ref o1, .ref o2, .ref o3, .ref o4, .int (nI k)])), (o1, .inl (cI, 10, .inl og)), (o2, .inl (cI, 10, .inl ow)), (o4, .inl (cI, 10, .inl ol))]) := by
  unfold kMv
  refine k_ofW (cc := cX1_load) (maxL := 7) (ret := none) (lv := [(0, .ref h0), (1, .ref b0), (2, .int p2), (3, .int (nI rm))]) (by decide) rfl (Nat.le_of_ble_eq_true rfl) rfl ?_
  intro p e s m args below meth c ls H locs hE hsz hw hl
  obtain ⟨hx, hb, hr, hml, hown, hts, hlocks⟩ := hE
  subst hsz
  have hown : s.vm.findClass RX1 = some m.cls := hown
  have k_m30 : (Cond.methodLink RX1 30 Lib.Math.min.name).before args s = true := hts _ (by decide +kernel)
  have k_s_min : (Cond.static Lib.Math.min.name).before args s = true := hts _ (by decide +kernel)
  have k_imath : (Cond.initialized "java/lang/Math").before args s = true := hts _ (by decide +kernel)
  have k_c_min : (Cond.code Lib.Math.min.name Lib.Math.min.code 2 (some .int)).before args s = true := hts _ (by decide +kernel)
  have k_m36 : (Cond.methodLink RX1 36 Lib.Math.max.name).before args s = true := hts _ (by decide +kernel)
  have k_s_max : (Cond.static Lib.Math.max.name).before args s = true := hts _ (by decide +kernel)
  have k_c_max : (Cond.code Lib.Math.max.name Lib.Math.max.code 2 (some .int)).before args s = true := hts _ (by decide +kernel)
  have k_f39 : (Cond.fieldLink RX1 39 "PaperMachine$Cutter" "room" "I").before args s = true := hts _ (by decide +kernel)
  have k_f49 : (Cond.fieldLink RX1 49 "PaperMachine$OrderBook" "grades" "[I").before args s = true := hts _ (by decide +kernel)
  have k_f18 : (Cond.fieldLink RX1 18 "PaperMachine$Cutter" "widths" "[I").before args s = true := hts _ (by decide +kernel)
  have k_f52 : (Cond.fieldLink RX1 52 "PaperMachine$OrderBook" "widths" "[I").before args s = true := hts _ (by decide +kernel)
  have k_f21 : (Cond.fieldLink RX1 21 "PaperMachine$Cutter" "mostRolls" "[I").before args s = true := hts _ (by decide +kernel)
  have k_f24 : (Cond.fieldLink RX1 24 "PaperMachine$Cutter" "widestFrom" "[I").before args s = true := hts _ (by decide +kernel)
  have k_f53 : (Cond.fieldLink RX1 53 "PaperMachine$OrderBook" "lacking" "[I").before args s = true := hts _ (by decide +kernel)
  have i_X1 : ∀ w ∈ u_ws RX1 TX1 8, w ∈ wsX1_load := fun _ h => List.mem_cons_of_mem _ (List.mem_append_left _ (List.mem_append_right _ h))
  have i_X3 : ∀ w ∈ u_ws RX3 TX3 5, w ∈ wsX1_load := fun _ h => List.mem_cons_of_mem _ (List.mem_append_right _ h)
  refine lv_aload_n hx hb dX1_load_0 rfl (lv_at hl 0 rfl) ?_
  refine lv_iconst (v := 0) hx hb dX1_load_1 (by decide) ?_
  refine lv_iload_n hx hb dX1_load_2 rfl (lv_at hl 3 rfl) ?_
  refine lv_sipush (v := 800) hx hb dX1_load_3 (by decide) ?_
  refine va_mmin hx hb (hml.trans hl.1.symm) hown k_m30 k_s_min k_imath k_c_min (Nat.le_of_ble_eq_true rfl) (Nat.le_of_ble_eq_true rfl) (Nat.le_of_ble_eq_true rfl) (Nat.le_of_ble_eq_true rfl) dX1_load_6 ?_
  refine va_mmax hx hb (hml.trans hl.1.symm) hown k_m36 k_s_max k_imath k_c_max (Nat.le_of_ble_eq_true rfl) (Nat.le_of_ble_eq_true rfl) (Nat.le_of_ble_eq_true rfl) (Nat.le_of_ble_eq_true rfl) dX1_load_9 ?_
  refine k_eqi (y := nI rm) (ld_room hrm) ?_
  refine k_put hx hb hts i_X1 tyX1_ok nmX1 hown hw 0 6 (ws' := [(h0, .inr (1, [.ref k1, .ref k2, .ref k3, .ref k4, .ref k5, .ref k6, .int (nI rm), .int bs])), (k3, .inl (cI, 10, .inl fw0)), (k4, .inl (cI, 10, .inl fm0)), (k5, .inl (cI, 10, .inl ff0)), (b0, .inr (3, [.ref o1, .ref o2, .ref o3, .ref o4, .int (nI k)])), (o1, .inl (cI, 10, .inl og)), (o2, .inl (cI, 10, .inl ow)), (o4, .inl (cI, 10, .inl ol))]) rfl rfl (by decide) k_f39 rfl rfl rfl (Nat.le_of_ble_eq_true rfl) rfl dX1_load_12 (fun H locs hw => ?_)
  refine lv_iconst (v := 0) hx hb dX1_load_15 (by decide) ?_
  refine lv_istore (lv' := [(4, .int 0), (0, .ref h0), (1, .ref b0), (2, .int p2), (3, .int (nI rm))]) hx hb dX1_load_16 hl (by decide) rfl (fun ls hl => ?_)
  refine lv_bipush (v := 9) hx hb dX1_load_18 (by decide) ?_
  refine lv_istore (lv' := [(5, .int 9), (4, .int 0), (0, .ref h0), (1, .ref b0), (2, .int p2), (3, .int (nI rm))]) hx hb dX1_load_20 hl (by decide) rfl (fun ls hl => ?_)
  replace hl : lv_has _ 7 [(5, .int 9), (4, .int 0), (0, .ref h0), (1, .ref b0), (2, .int p2), (3, .int (nI rm))] := hl
  replace hw : kW D (kty cI cC cJ cG) s (va_A [(h0, .inr (1, [.ref k1, .ref k2, .ref k3, .ref k4, .ref k5, .ref k6, .int rm0, .int bs])), (k3, .inl (cI, 10, .inl fw0)), (k4, .inl (cI, 10, .inl fm0)), (k5, .inl (cI, 10, .inl ff0)), (b0, .inr (3, [.ref o1, .ref o2, .ref o3, .ref o4, .int (nI k)])), (o1, .inl (cI, 10, .inl og)), (o2, .inl (cI, 10, .inl ow)), (o4, .inl (cI, 10, .inl ol))] s.heap.size) [(h0, .inr (1, [.ref k1, .ref k2, .ref k3, .ref k4, .ref k5, .ref k6, .int (nI rm), .int bs])), (k3, .inl (cI, 10, .inl fw0)), (k4, .inl (cI, 10, .inl fm0)), (k5, .inl (cI, 10, .inl ff0)), (b0, .inr (3, [.ref o1, .ref o2, .ref o3, .ref o4, .int (nI k)])), (o1, .inl (cI, 10, .inl og)), (o2, .inl (cI, 10, .inl ow)), (o4, .inl (cI, 10, .inl ol))] H locs := hw
  revert hl; revert hw; revert ls; revert locs; revert H
  refine k_loop (fun ((q, x, fw, fm, ff, wi) : (Nat) × (Int32) × (Nat → Int32) × (Nat → Int32) × (Nat → Int32) × (Int32)) => q ≤ 10 ∧ x = nI q - 1 ∧ wi = nI (f_wf (f_cap og lk k p2) w (10 - q)) ∧ (∀ j, q ≤ j → j < 10 → fw j = nI (w j)) ∧ (∀ j, q ≤ j → j < 10 → fm j = nI (f_cap og lk k p2 j)) ∧ ∀ j, q ≤ j → j < 10 → ff j = nI (f_wf (f_cap og lk k p2) w (10 - j))) (fun ((q, x, fw, fm, ff, wi) : (Nat) × (Int32) × (Nat → Int32) × (Nat → Int32) × (Nat → Int32) × (Int32)) => q) (fun ((q, x, fw, fm, ff, wi) : (Nat) × (Int32) × (Nat → Int32) × (Nat → Int32) × (Nat → Int32) × (Int32)) => [(h0, .inr (1, [.ref k1, .ref k2, .ref k3, .ref k4, .ref k5, .ref k6, .int (nI rm), .int bs])), (k3, .inl (cI, 10, .inl fw)), (k4, .inl (cI, 10, .inl fm)), (k5, .inl (cI, 10, .inl ff)), (b0, .inr (3, [.ref o1, .ref o2, .ref o3, .ref o4, .int (nI k)])), (o1, .inl (cI, 10, .inl og)), (o2, .inl (cI, 10, .inl ow)), (o4, .inl (cI, 10, .inl ol))]) (fun ((q, x, fw, fm, ff, wi) : (Nat) × (Int32) × (Nat → Int32) × (Nat → Int32) × (Nat → Int32) × (Int32)) => [(5, .int x), (4, .int wi), (0, .ref h0), (1, .ref b0), (2, .int p2), (3, .int (nI rm))]) (10, 9, fw0, fm0, ff0, 0) (show (10 : Nat) ≤ 10 ∧ (9 : Int32) = nI (10 : Nat) - 1 ∧ (0 : Int32) = nI (f_wf (f_cap og lk k p2) w (10 - (10 : Nat))) ∧ (∀ j, (10 : Nat) ≤ j → j < 10 → fw0 j = nI (w j)) ∧ (∀ j, (10 : Nat) ≤ j → j < 10 → fm0 j = nI (f_cap og lk k p2 j)) ∧ ∀ j, (10 : Nat) ≤ j → j < 10 → ff0 j = nI (f_wf (f_cap og lk k p2) w (10 - j)) from ⟨by omega, rfl, rfl, fun j h1 h2 => absurd h1 (by omega), fun j h1 h2 => absurd h1 (by omega), fun j h1 h2 => absurd h1 (by omega)⟩) ?_
  intro ⟨q, x, fw, fm, ff, wi⟩ hI ih22 H locs ls hw hl
  replace hI : q ≤ 10 ∧ x = nI q - 1 ∧ wi = nI (f_wf (f_cap og lk k p2) w (10 - q)) ∧ (∀ j, q ≤ j → j < 10 → fw j = nI (w j)) ∧ (∀ j, q ≤ j → j < 10 → fm j = nI (f_cap og lk k p2 j)) ∧ ∀ j, q ≤ j → j < 10 → ff j = nI (f_wf (f_cap og lk k p2) w (10 - j)) := hI
  replace hw : kW D (kty cI cC cJ cG) s (va_A [(h0, .inr (1, [.ref k1, .ref k2, .ref k3, .ref k4, .ref k5, .ref k6, .int rm0, .int bs])), (k3, .inl (cI, 10, .inl fw0)), (k4, .inl (cI, 10, .inl fm0)), (k5, .inl (cI, 10, .inl ff0)), (b0, .inr (3, [.ref o1, .ref o2, .ref o3, .ref o4, .int (nI k)])), (o1, .inl (cI, 10, .inl og)), (o2, .inl (cI, 10, .inl ow)), (o4, .inl (cI, 10, .inl ol))] s.heap.size) [(h0, .inr (1, [.ref k1, .ref k2, .ref k3, .ref k4, .ref k5, .ref k6, .int (nI rm), .int bs])), (k3, .inl (cI, 10, .inl fw)), (k4, .inl (cI, 10, .inl fm)), (k5, .inl (cI, 10, .inl ff)), (b0, .inr (3, [.ref o1, .ref o2, .ref o3, .ref o4, .int (nI k)])), (o1, .inl (cI, 10, .inl og)), (o2, .inl (cI, 10, .inl ow)), (o4, .inl (cI, 10, .inl ol))] H locs := hw
  replace hl : lv_has ls 7 [(5, .int x), (4, .int wi), (0, .ref h0), (1, .ref b0), (2, .int p2), (3, .int (nI rm))] := hl
  refine lv_iload hx hb dX1_load_22 (lv_at hl 0 rfl) ?_
  refine lv_if_lt (tgt := 140) hx hb dX1_load_24 (by decide) (fun c24 => ?_) (fun c24 => ?_)
  · have hq0 : q = 0 := by rcases Nat.eq_zero_or_pos q with z | z; exact z; (obtain ⟨t, rfl⟩ : ∃ t, q = t + 1 := ⟨q - 1, by omega⟩); (rw [hI.2.1, nI_pred] at c24); exact absurd c24 (Int32.not_lt.mpr (nI_pos' (by omega)))
    subst hq0
    exact k_vret (fw, fm, ff) hx hb hr hlocks hw ⟨fun j hj => hI.2.2.2.1 j (Nat.zero_le _) hj, fun j hj => hI.2.2.2.2.1 j (Nat.zero_le _) hj, fun j hj => hI.2.2.2.2.2 j (Nat.zero_le _) hj⟩ dX1_load_140
  · obtain ⟨t, rfl⟩ : ∃ t, q = t + 1 := ⟨q - 1, by rcases Nat.eq_zero_or_pos q with z | z; (subst z; exact absurd (by rw [hI.2.1]; decide) c24); omega⟩
    obtain rfl : x = nI t := by rw [hI.2.1]; exact nI_pred t
    have ht : t < 10 := by omega
    have hct : f_cap og lk k p2 t = if t < k ∧ og t = p2 then min (lk t) 6 else 0 := rfl
    refine lv_aload_n hx hb dX1_load_27 rfl (lv_at hl 3 rfl) ?_
    refine lv_iload hx hb dX1_load_28 (lv_at hl 0 rfl) ?_
    refine k_calli (wr := [(h0, .inr (1, [.ref k1, .ref k2, .ref k3, .ref k4, .ref k5, .ref k6, .int (nI rm), .int bs])), (k3, .inl (cI, 10, .inl fw)), (k4, .inl (cI, 10, .inl fm)), (k5, .inl (cI, 10, .inl ff)), (o1, .inl (cI, 10, .inl og)), (o2, .inl (cI, 10, .inl ow)), (o4, .inl (cI, 10, .inl ol))]) (k_runV (wc := [(b0, .inr (3, [.ref o1, .ref o2, .ref o3, .ref o4, .int (nI k)]))]) (As := [.int (nI t)]) (rest := []) ⟨hx, hb, hml, hown, hts⟩ (c_X3_has l D cI cC cJ cG b0 H.size o1 o2 o3 o4 (nI k) (nI t)) (cwV 1 hts gX1_load_X3_has rfl rfl rfl (by decide +kernel) ⟨Nat.le_of_ble_eq_true rfl, Nat.le_of_ble_eq_true rfl⟩) hw [4] (by decide) rfl 4 rfl rfl rfl hl.1 rfl (Nat.le_of_ble_eq_true rfl) dX1_load_30 ⟨Nat.zero_le _, Nat.zero_le _⟩) hw [4] [0, 1, 2, 3, 5, 6, 7] rfl rfl (by decide) (by decide) (fun r30 u30 H locs w30 hw => ?_)
    replace hw : kW D (kty cI cC cJ cG) s (va_A [(h0, .inr (1, [.ref k1, .ref k2, .ref k3, .ref k4, .ref k5, .ref k6, .int rm0, .int bs])), (k3, .inl (cI, 10, .inl fw0)), (k4, .inl (cI, 10, .inl fm0)), (k5, .inl (cI, 10, .inl ff0)), (b0, .inr (3, [.ref o1, .ref o2, .ref o3, .ref o4, .int (nI k)])), (o1, .inl (cI, 10, .inl og)), (o2, .inl (cI, 10, .inl ow)), (o4, .inl (cI, 10, .inl ol))] s.heap.size) [(h0, .inr (1, [.ref k1, .ref k2, .ref k3, .ref k4, .ref k5, .ref k6, .int (nI rm), .int bs])), (k3, .inl (cI, 10, .inl fw)), (k4, .inl (cI, 10, .inl fm)), (k5, .inl (cI, 10, .inl ff)), (o1, .inl (cI, 10, .inl og)), (o2, .inl (cI, 10, .inl ow)), (o4, .inl (cI, 10, .inl ol)), (b0, .inr (3, [.ref o1, .ref o2, .ref o3, .ref o4, .int (nI k)]))] H locs := hw
    replace w30 : r30 = if 0 ≤ (nI t) ∧ (nI t) < (nI k) then 1 else 0 := w30
    by_cases b30 : 0 ≤ (nI t) ∧ (nI t) < (nI k)
    · rw [if_pos b30] at w30
      subst w30
      refine lv_if_eq (tgt := 51) hx hb dX1_load_33 (by decide) (fun h => absurd h (by decide)) (fun _ => ?_)
      refine lv_aload_n hx hb dX1_load_36 rfl (lv_at hl 3 rfl) ?_
      refine k_get hx hb hts i_X3 hown hw 7 0 rfl rfl (by decide) k_f49 rfl dX1_load_37 ?_
      refine lv_iload hx hb dX1_load_40 (lv_at hl 0 rfl) ?_
      refine k_iald hx hb hw 4 0 rfl rfl t rfl (by omega) (Nat.le_of_ble_eq_true rfl) dX1_load_42 ?_
      refine lv_iload_n hx hb dX1_load_43 rfl (lv_at hl 4 rfl) ?_
      refine lv_icmp_ne (tgt := 51) hx hb dX1_load_44 (by decide) (fun c44 => ?_) (fun c44 => ?_)
      · refine lv_iconst (v := 0) hx hb dX1_load_51 (by decide) ?_
        refine lv_istore (lv' := [(6, .int 0), (5, .int (nI t)), (4, .int wi), (0, .ref h0), (1, .ref b0), (2, .int p2), (3, .int (nI rm))]) hx hb dX1_load_52 hl (by decide) rfl (fun ls hl => ?_)
        refine lv_aload_n hx hb dX1_load_54 rfl (lv_at hl 3 rfl) ?_
        refine k_get hx hb hts i_X1 hown hw 0 2 rfl rfl (by decide) k_f18 rfl dX1_load_55 ?_
        refine lv_iload hx hb dX1_load_58 (lv_at hl 1 rfl) ?_
        refine lv_aload_n hx hb dX1_load_60 rfl (lv_at hl 4 rfl) ?_
        refine k_get hx hb hts i_X3 hown hw 7 1 rfl rfl (by decide) k_f52 rfl dX1_load_61 ?_
        refine lv_iload hx hb dX1_load_64 (lv_at hl 1 rfl) ?_
        refine k_iald hx hb hw 5 0 rfl rfl t rfl (by omega) (Nat.le_of_ble_eq_true rfl) dX1_load_66 ?_
        refine k_iast (ws' := [(h0, .inr (1, [.ref k1, .ref k2, .ref k3, .ref k4, .ref k5, .ref k6, .int (nI rm), .int bs])), (k3, .inl (cI, 10, .inl (upd fw t (ow t)))), (k4, .inl (cI, 10, .inl fm)), (k5, .inl (cI, 10, .inl ff)), (o1, .inl (cI, 10, .inl og)), (o2, .inl (cI, 10, .inl ow)), (o4, .inl (cI, 10, .inl ol)), (b0, .inr (3, [.ref o1, .ref o2, .ref o3, .ref o4, .int (nI k)]))]) hx hb hw 1 0 rfl rfl t rfl (by omega) (Nat.le_of_ble_eq_true rfl) rfl dX1_load_67 (fun H locs hw => ?_)
        refine lv_aload_n hx hb dX1_load_68 rfl (lv_at hl 3 rfl) ?_
        refine k_get hx hb hts i_X1 hown hw 0 3 rfl rfl (by decide) k_f21 rfl dX1_load_69 ?_
        refine lv_iload hx hb dX1_load_72 (lv_at hl 1 rfl) ?_
        refine lv_iload hx hb dX1_load_74 (lv_at hl 0 rfl) ?_
        refine lv_if_eq (tgt := 94) hx hb dX1_load_76 (by decide) (fun _ => ?_) (fun h => absurd h (by decide))
        refine lv_iconst (v := 0) hx hb dX1_load_94 (by decide) ?_
        refine k_iast (ws' := [(h0, .inr (1, [.ref k1, .ref k2, .ref k3, .ref k4, .ref k5, .ref k6, .int (nI rm), .int bs])), (k3, .inl (cI, 10, .inl (upd fw t (ow t)))), (k4, .inl (cI, 10, .inl (upd fm t 0))), (k5, .inl (cI, 10, .inl ff)), (o1, .inl (cI, 10, .inl og)), (o2, .inl (cI, 10, .inl ow)), (o4, .inl (cI, 10, .inl ol)), (b0, .inr (3, [.ref o1, .ref o2, .ref o3, .ref o4, .int (nI k)]))]) hx hb hw 2 0 rfl rfl t rfl (by omega) (Nat.le_of_ble_eq_true rfl) rfl dX1_load_95 (fun H locs hw => ?_)
        refine lv_aload_n hx hb dX1_load_96 rfl (lv_at hl 3 rfl) ?_
        refine k_get hx hb hts i_X1 hown hw 0 3 rfl rfl (by decide) k_f21 rfl dX1_load_97 ?_
        refine lv_iload hx hb dX1_load_100 (lv_at hl 1 rfl) ?_
        refine k_iald hx hb hw 2 0 rfl rfl t rfl (by omega) (Nat.le_of_ble_eq_true rfl) dX1_load_102 ?_
        refine lv_if_le (tgt := 121) hx hb dX1_load_103 (by decide) (fun c103 => ?_) (fun c103 => ?_)
        · refine lv_iload hx hb dX1_load_121 (lv_at hl 2 rfl) ?_
          refine lv_istore (lv' := [(4, .int wi), (6, .int 0), (5, .int (nI t)), (0, .ref h0), (1, .ref b0), (2, .int p2), (3, .int (nI rm))]) hx hb dX1_load_123 hl (by decide) rfl (fun ls hl => ?_)
          refine lv_aload_n hx hb dX1_load_125 rfl (lv_at hl 3 rfl) ?_
          refine k_get hx hb hts i_X1 hown hw 0 4 rfl rfl (by decide) k_f24 rfl dX1_load_126 ?_
          refine lv_iload hx hb dX1_load_129 (lv_at hl 2 rfl) ?_
          refine lv_iload hx hb dX1_load_131 (lv_at hl 0 rfl) ?_
          refine k_iast (ws' := [(h0, .inr (1, [.ref k1, .ref k2, .ref k3, .ref k4, .ref k5, .ref k6, .int (nI rm), .int bs])), (k3, .inl (cI, 10, .inl (upd fw t (ow t)))), (k4, .inl (cI, 10, .inl (upd fm t 0))), (k5, .inl (cI, 10, .inl (upd ff t wi))), (o1, .inl (cI, 10, .inl og)), (o2, .inl (cI, 10, .inl ow)), (o4, .inl (cI, 10, .inl ol)), (b0, .inr (3, [.ref o1, .ref o2, .ref o3, .ref o4, .int (nI k)]))]) hx hb hw 3 0 rfl rfl t rfl (by omega) (Nat.le_of_ble_eq_true rfl) rfl dX1_load_133 (fun H locs hw => ?_)
          refine lv_iinc (v := (nI t) + (-1)) (lv' := [(5, .int ((nI t) + (-1))), (4, .int wi), (6, .int 0), (0, .ref h0), (1, .ref b0), (2, .int p2), (3, .int (nI rm))]) hx hb dX1_load_134 hl (k := 2) rfl rfl (by decide) rfl (fun ls hl => ?_)
          refine lv_goto (tgt := 22) hx hb dX1_load_137 (by decide) ?_
          have hnc : ¬ (t < k ∧ og t = p2) := fun h => c44 h.2
          have hfm2 : (0 : Int32) = nI (f_cap og lk k p2 t) := ld_cap0 hnc
          have hwi2 := ld_w0 ht (f_cap_le og lk k p2 t) hfm2 c103 hI.2.2.1
          replace hw := hw.pick (ws' := [(h0, .inr (1, [.ref k1, .ref k2, .ref k3, .ref k4, .ref k5, .ref k6, .int (nI rm), .int bs])), (k3, .inl (cI, 10, .inl (upd fw t (ow t)))), (k4, .inl (cI, 10, .inl (upd fm t 0))), (k5, .inl (cI, 10, .inl (upd ff t wi))), (b0, .inr (3, [.ref o1, .ref o2, .ref o3, .ref o4, .int (nI k)])), (o1, .inl (cI, 10, .inl og)), (o2, .inl (cI, 10, .inl ow)), (o4, .inl (cI, 10, .inl ol))]) [0, 1, 2, 3, 7, 4, 5, 6] (by decide) rfl
          exact ih22 (t, (nI t) + (-1), upd fw t (ow t), upd fm t 0, upd ff t wi, wi) _ _ _ (show t ≤ 10 ∧ ((nI t) + (-1)) = nI t - 1 ∧ wi = nI (f_wf (f_cap og lk k p2) w (10 - t)) ∧ (∀ j, t ≤ j → j < 10 → (upd fw t (ow t)) j = nI (w j)) ∧ (∀ j, t ≤ j → j < 10 → (upd fm t 0) j = nI (f_cap og lk k p2 j)) ∧ ∀ j, t ≤ j → j < 10 → (upd ff t wi) j = nI (f_wf (f_cap og lk k p2) w (10 - j)) from ⟨by omega, i_m1 t, hwi2, ld_row w hI.2.2.2.1 (how t ht), ld_row (f_cap og lk k p2) hI.2.2.2.2.1 hfm2, ld_row (fun j => f_wf (f_cap og lk k p2) w (10 - j)) hI.2.2.2.2.2 hwi2⟩) (show t < (t + 1) from by omega) hw (lv_sub hl [0, 1, 3, 4, 5, 6] rfl)
        · refine lv_iload hx hb dX1_load_106 (lv_at hl 2 rfl) ?_
          refine lv_aload_n hx hb dX1_load_108 rfl (lv_at hl 3 rfl) ?_
          refine k_get hx hb hts i_X1 hown hw 0 2 rfl rfl (by decide) k_f18 rfl dX1_load_109 ?_
          refine lv_iload hx hb dX1_load_112 (lv_at hl 1 rfl) ?_
          refine k_iald hx hb hw 1 0 rfl rfl t rfl (by omega) (Nat.le_of_ble_eq_true rfl) dX1_load_114 ?_
          refine va_mmax hx hb (hml.trans hl.1.symm) hown k_m36 k_s_max k_imath k_c_max (Nat.le_of_ble_eq_true rfl) (Nat.le_of_ble_eq_true rfl) (Nat.le_of_ble_eq_true rfl) (Nat.le_of_ble_eq_true rfl) dX1_load_115 ?_
          refine lv_goto (tgt := 123) hx hb dX1_load_118 (by decide) ?_
          refine lv_istore (lv' := [(4, .int (if wi < ((upd fw t (ow t)) t) then ((upd fw t (ow t)) t) else wi)), (6, .int 0), (5, .int (nI t)), (0, .ref h0), (1, .ref b0), (2, .int p2), (3, .int (nI rm))]) hx hb dX1_load_123 hl (by decide) rfl (fun ls hl => ?_)
          refine lv_aload_n hx hb dX1_load_125 rfl (lv_at hl 3 rfl) ?_
          refine k_get hx hb hts i_X1 hown hw 0 4 rfl rfl (by decide) k_f24 rfl dX1_load_126 ?_
          refine lv_iload hx hb dX1_load_129 (lv_at hl 2 rfl) ?_
          refine lv_iload hx hb dX1_load_131 (lv_at hl 0 rfl) ?_
          refine k_iast (ws' := [(h0, .inr (1, [.ref k1, .ref k2, .ref k3, .ref k4, .ref k5, .ref k6, .int (nI rm), .int bs])), (k3, .inl (cI, 10, .inl (upd fw t (ow t)))), (k4, .inl (cI, 10, .inl (upd fm t 0))), (k5, .inl (cI, 10, .inl (upd ff t (if wi < ((upd fw t (ow t)) t) then ((upd fw t (ow t)) t) else wi)))), (o1, .inl (cI, 10, .inl og)), (o2, .inl (cI, 10, .inl ow)), (o4, .inl (cI, 10, .inl ol)), (b0, .inr (3, [.ref o1, .ref o2, .ref o3, .ref o4, .int (nI k)]))]) hx hb hw 3 0 rfl rfl t rfl (by omega) (Nat.le_of_ble_eq_true rfl) rfl dX1_load_133 (fun H locs hw => ?_)
          refine lv_iinc (v := (nI t) + (-1)) (lv' := [(5, .int ((nI t) + (-1))), (4, .int (if wi < ((upd fw t (ow t)) t) then ((upd fw t (ow t)) t) else wi)), (6, .int 0), (0, .ref h0), (1, .ref b0), (2, .int p2), (3, .int (nI rm))]) hx hb dX1_load_134 hl (k := 2) rfl rfl (by decide) rfl (fun ls hl => ?_)
          refine lv_goto (tgt := 22) hx hb dX1_load_137 (by decide) ?_
          have hnc : ¬ (t < k ∧ og t = p2) := fun h => c44 h.2
          have hfm2 : (0 : Int32) = nI (f_cap og lk k p2 t) := ld_cap0 hnc
          have hwi2 := ld_w1 (fw := fw) ht (f_cap_le og lk k p2 t) hwb hfm2 c103 hI.2.2.1 (how t ht)
          replace hw := hw.pick (ws' := [(h0, .inr (1, [.ref k1, .ref k2, .ref k3, .ref k4, .ref k5, .ref k6, .int (nI rm), .int bs])), (k3, .inl (cI, 10, .inl (upd fw t (ow t)))), (k4, .inl (cI, 10, .inl (upd fm t 0))), (k5, .inl (cI, 10, .inl (upd ff t (if wi < ((upd fw t (ow t)) t) then ((upd fw t (ow t)) t) else wi)))), (b0, .inr (3, [.ref o1, .ref o2, .ref o3, .ref o4, .int (nI k)])), (o1, .inl (cI, 10, .inl og)), (o2, .inl (cI, 10, .inl ow)), (o4, .inl (cI, 10, .inl ol))]) [0, 1, 2, 3, 7, 4, 5, 6] (by decide) rfl
          exact ih22 (t, (nI t) + (-1), upd fw t (ow t), upd fm t 0, upd ff t (if wi < ((upd fw t (ow t)) t) then ((upd fw t (ow t)) t) else wi), if wi < ((upd fw t (ow t)) t) then ((upd fw t (ow t)) t) else wi) _ _ _ (show t ≤ 10 ∧ ((nI t) + (-1)) = nI t - 1 ∧ (if wi < ((upd fw t (ow t)) t) then ((upd fw t (ow t)) t) else wi) = nI (f_wf (f_cap og lk k p2) w (10 - t)) ∧ (∀ j, t ≤ j → j < 10 → (upd fw t (ow t)) j = nI (w j)) ∧ (∀ j, t ≤ j → j < 10 → (upd fm t 0) j = nI (f_cap og lk k p2 j)) ∧ ∀ j, t ≤ j → j < 10 → (upd ff t (if wi < ((upd fw t (ow t)) t) then ((upd fw t (ow t)) t) else wi)) j = nI (f_wf (f_cap og lk k p2) w (10 - j)) from ⟨by omega, i_m1 t, hwi2, ld_row w hI.2.2.2.1 (how t ht), ld_row (f_cap og lk k p2) hI.2.2.2.2.1 hfm2, ld_row (fun j => f_wf (f_cap og lk k p2) w (10 - j)) hI.2.2.2.2.2 hwi2⟩) (show t < (t + 1) from by omega) hw (lv_sub hl [0, 1, 3, 4, 5, 6] rfl)
      · refine lv_iconst (v := 1) hx hb dX1_load_47 (by decide) ?_
        refine lv_goto (tgt := 52) hx hb dX1_load_48 (by decide) ?_
        refine lv_istore (lv' := [(6, .int 1), (5, .int (nI t)), (4, .int wi), (0, .ref h0), (1, .ref b0), (2, .int p2), (3, .int (nI rm))]) hx hb dX1_load_52 hl (by decide) rfl (fun ls hl => ?_)
        refine lv_aload_n hx hb dX1_load_54 rfl (lv_at hl 3 rfl) ?_
        refine k_get hx hb hts i_X1 hown hw 0 2 rfl rfl (by decide) k_f18 rfl dX1_load_55 ?_
        refine lv_iload hx hb dX1_load_58 (lv_at hl 1 rfl) ?_
        refine lv_aload_n hx hb dX1_load_60 rfl (lv_at hl 4 rfl) ?_
        refine k_get hx hb hts i_X3 hown hw 7 1 rfl rfl (by decide) k_f52 rfl dX1_load_61 ?_
        refine lv_iload hx hb dX1_load_64 (lv_at hl 1 rfl) ?_
        refine k_iald hx hb hw 5 0 rfl rfl t rfl (by omega) (Nat.le_of_ble_eq_true rfl) dX1_load_66 ?_
        refine k_iast (ws' := [(h0, .inr (1, [.ref k1, .ref k2, .ref k3, .ref k4, .ref k5, .ref k6, .int (nI rm), .int bs])), (k3, .inl (cI, 10, .inl (upd fw t (ow t)))), (k4, .inl (cI, 10, .inl fm)), (k5, .inl (cI, 10, .inl ff)), (o1, .inl (cI, 10, .inl og)), (o2, .inl (cI, 10, .inl ow)), (o4, .inl (cI, 10, .inl ol)), (b0, .inr (3, [.ref o1, .ref o2, .ref o3, .ref o4, .int (nI k)]))]) hx hb hw 1 0 rfl rfl t rfl (by omega) (Nat.le_of_ble_eq_true rfl) rfl dX1_load_67 (fun H locs hw => ?_)
        refine lv_aload_n hx hb dX1_load_68 rfl (lv_at hl 3 rfl) ?_
        refine k_get hx hb hts i_X1 hown hw 0 3 rfl rfl (by decide) k_f21 rfl dX1_load_69 ?_
        refine lv_iload hx hb dX1_load_72 (lv_at hl 1 rfl) ?_
        refine lv_iload hx hb dX1_load_74 (lv_at hl 0 rfl) ?_
        refine lv_if_eq (tgt := 94) hx hb dX1_load_76 (by decide) (fun h => absurd h (by decide)) (fun _ => ?_)
        refine lv_aload_n hx hb dX1_load_79 rfl (lv_at hl 4 rfl) ?_
        refine k_get hx hb hts i_X3 hown hw 7 3 rfl rfl (by decide) k_f53 rfl dX1_load_80 ?_
        refine lv_iload hx hb dX1_load_83 (lv_at hl 1 rfl) ?_
        refine k_iald hx hb hw 6 0 rfl rfl t rfl (by omega) (Nat.le_of_ble_eq_true rfl) dX1_load_85 ?_
        refine lv_bipush (v := 6) hx hb dX1_load_86 (by decide) ?_
        refine va_mmin hx hb (hml.trans hl.1.symm) hown k_m30 k_s_min k_imath k_c_min (Nat.le_of_ble_eq_true rfl) (Nat.le_of_ble_eq_true rfl) (Nat.le_of_ble_eq_true rfl) (Nat.le_of_ble_eq_true rfl) dX1_load_88 ?_
        refine lv_goto (tgt := 95) hx hb dX1_load_91 (by decide) ?_
        refine k_iast (ws' := [(h0, .inr (1, [.ref k1, .ref k2, .ref k3, .ref k4, .ref k5, .ref k6, .int (nI rm), .int bs])), (k3, .inl (cI, 10, .inl (upd fw t (ow t)))), (k4, .inl (cI, 10, .inl (upd fm t (if 6 < (ol t) then 6 else (ol t))))), (k5, .inl (cI, 10, .inl ff)), (o1, .inl (cI, 10, .inl og)), (o2, .inl (cI, 10, .inl ow)), (o4, .inl (cI, 10, .inl ol)), (b0, .inr (3, [.ref o1, .ref o2, .ref o3, .ref o4, .int (nI k)]))]) hx hb hw 2 0 rfl rfl t rfl (by omega) (Nat.le_of_ble_eq_true rfl) rfl dX1_load_95 (fun H locs hw => ?_)
        refine lv_aload_n hx hb dX1_load_96 rfl (lv_at hl 3 rfl) ?_
        refine k_get hx hb hts i_X1 hown hw 0 3 rfl rfl (by decide) k_f21 rfl dX1_load_97 ?_
        refine lv_iload hx hb dX1_load_100 (lv_at hl 1 rfl) ?_
        refine k_iald hx hb hw 2 0 rfl rfl t rfl (by omega) (Nat.le_of_ble_eq_true rfl) dX1_load_102 ?_
        refine lv_if_le (tgt := 121) hx hb dX1_load_103 (by decide) (fun c103 => ?_) (fun c103 => ?_)
        · refine lv_iload hx hb dX1_load_121 (lv_at hl 2 rfl) ?_
          refine lv_istore (lv' := [(4, .int wi), (6, .int 1), (5, .int (nI t)), (0, .ref h0), (1, .ref b0), (2, .int p2), (3, .int (nI rm))]) hx hb dX1_load_123 hl (by decide) rfl (fun ls hl => ?_)
          refine lv_aload_n hx hb dX1_load_125 rfl (lv_at hl 3 rfl) ?_
          refine k_get hx hb hts i_X1 hown hw 0 4 rfl rfl (by decide) k_f24 rfl dX1_load_126 ?_
          refine lv_iload hx hb dX1_load_129 (lv_at hl 2 rfl) ?_
          refine lv_iload hx hb dX1_load_131 (lv_at hl 0 rfl) ?_
          refine k_iast (ws' := [(h0, .inr (1, [.ref k1, .ref k2, .ref k3, .ref k4, .ref k5, .ref k6, .int (nI rm), .int bs])), (k3, .inl (cI, 10, .inl (upd fw t (ow t)))), (k4, .inl (cI, 10, .inl (upd fm t (if 6 < (ol t) then 6 else (ol t))))), (k5, .inl (cI, 10, .inl (upd ff t wi))), (o1, .inl (cI, 10, .inl og)), (o2, .inl (cI, 10, .inl ow)), (o4, .inl (cI, 10, .inl ol)), (b0, .inr (3, [.ref o1, .ref o2, .ref o3, .ref o4, .int (nI k)]))]) hx hb hw 3 0 rfl rfl t rfl (by omega) (Nat.le_of_ble_eq_true rfl) rfl dX1_load_133 (fun H locs hw => ?_)
          refine lv_iinc (v := (nI t) + (-1)) (lv' := [(5, .int ((nI t) + (-1))), (4, .int wi), (6, .int 1), (0, .ref h0), (1, .ref b0), (2, .int p2), (3, .int (nI rm))]) hx hb dX1_load_134 hl (k := 2) rfl rfl (by decide) rfl (fun ls hl => ?_)
          refine lv_goto (tgt := 22) hx hb dX1_load_137 (by decide) ?_
          have hc : t < k ∧ og t = p2 := ⟨(nI_ltI (by omega) (by omega)).mp b30.2, c44⟩
          have hfm2 : (if (6 : Int32) < ol t then 6 else ol t) = nI (f_cap og lk k p2 t) := ld_cap hc (hol t ht) (hlk t ht)
          have hwi2 := ld_w0 ht (f_cap_le og lk k p2 t) hfm2 c103 hI.2.2.1
          replace hw := hw.pick (ws' := [(h0, .inr (1, [.ref k1, .ref k2, .ref k3, .ref k4, .ref k5, .ref k6, .int (nI rm), .int bs])), (k3, .inl (cI, 10, .inl (upd fw t (ow t)))), (k4, .inl (cI, 10, .inl (upd fm t (if 6 < (ol t) then 6 else (ol t))))), (k5, .inl (cI, 10, .inl (upd ff t wi))), (b0, .inr (3, [.ref o1, .ref o2, .ref o3, .ref o4, .int (nI k)])), (o1, .inl (cI, 10, .inl og)), (o2, .inl (cI, 10, .inl ow)), (o4, .inl (cI, 10, .inl ol))]) [0, 1, 2, 3, 7, 4, 5, 6] (by decide) rfl
          exact ih22 (t, (nI t) + (-1), upd fw t (ow t), upd fm t (if 6 < (ol t) then 6 else (ol t)), upd ff t wi, wi) _ _ _ (show t ≤ 10 ∧ ((nI t) + (-1)) = nI t - 1 ∧ wi = nI (f_wf (f_cap og lk k p2) w (10 - t)) ∧ (∀ j, t ≤ j → j < 10 → (upd fw t (ow t)) j = nI (w j)) ∧ (∀ j, t ≤ j → j < 10 → (upd fm t (if 6 < (ol t) then 6 else (ol t))) j = nI (f_cap og lk k p2 j)) ∧ ∀ j, t ≤ j → j < 10 → (upd ff t wi) j = nI (f_wf (f_cap og lk k p2) w (10 - j)) from ⟨by omega, i_m1 t, hwi2, ld_row w hI.2.2.2.1 (how t ht), ld_row (f_cap og lk k p2) hI.2.2.2.2.1 hfm2, ld_row (fun j => f_wf (f_cap og lk k p2) w (10 - j)) hI.2.2.2.2.2 hwi2⟩) (show t < (t + 1) from by omega) hw (lv_sub hl [0, 1, 3, 4, 5, 6] rfl)
        · refine lv_iload hx hb dX1_load_106 (lv_at hl 2 rfl) ?_
          refine lv_aload_n hx hb dX1_load_108 rfl (lv_at hl 3 rfl) ?_
          refine k_get hx hb hts i_X1 hown hw 0 2 rfl rfl (by decide) k_f18 rfl dX1_load_109 ?_
          refine lv_iload hx hb dX1_load_112 (lv_at hl 1 rfl) ?_
          refine k_iald hx hb hw 1 0 rfl rfl t rfl (by omega) (Nat.le_of_ble_eq_true rfl) dX1_load_114 ?_
          refine va_mmax hx hb (hml.trans hl.1.symm) hown k_m36 k_s_max k_imath k_c_max (Nat.le_of_ble_eq_true rfl) (Nat.le_of_ble_eq_true rfl) (Nat.le_of_ble_eq_true rfl) (Nat.le_of_ble_eq_true rfl) dX1_load_115 ?_
          refine lv_goto (tgt := 123) hx hb dX1_load_118 (by decide) ?_
          refine lv_istore (lv' := [(4, .int (if wi < ((upd fw t (ow t)) t) then ((upd fw t (ow t)) t) else wi)), (6, .int 1), (5, .int (nI t)), (0, .ref h0), (1, .ref b0), (2, .int p2), (3, .int (nI rm))]) hx hb dX1_load_123 hl (by decide) rfl (fun ls hl => ?_)
          refine lv_aload_n hx hb dX1_load_125 rfl (lv_at hl 3 rfl) ?_
          refine k_get hx hb hts i_X1 hown hw 0 4 rfl rfl (by decide) k_f24 rfl dX1_load_126 ?_
          refine lv_iload hx hb dX1_load_129 (lv_at hl 2 rfl) ?_
          refine lv_iload hx hb dX1_load_131 (lv_at hl 0 rfl) ?_
          refine k_iast (ws' := [(h0, .inr (1, [.ref k1, .ref k2, .ref k3, .ref k4, .ref k5, .ref k6, .int (nI rm), .int bs])), (k3, .inl (cI, 10, .inl (upd fw t (ow t)))), (k4, .inl (cI, 10, .inl (upd fm t (if 6 < (ol t) then 6 else (ol t))))), (k5, .inl (cI, 10, .inl (upd ff t (if wi < ((upd fw t (ow t)) t) then ((upd fw t (ow t)) t) else wi)))), (o1, .inl (cI, 10, .inl og)), (o2, .inl (cI, 10, .inl ow)), (o4, .inl (cI, 10, .inl ol)), (b0, .inr (3, [.ref o1, .ref o2, .ref o3, .ref o4, .int (nI k)]))]) hx hb hw 3 0 rfl rfl t rfl (by omega) (Nat.le_of_ble_eq_true rfl) rfl dX1_load_133 (fun H locs hw => ?_)
          refine lv_iinc (v := (nI t) + (-1)) (lv' := [(5, .int ((nI t) + (-1))), (4, .int (if wi < ((upd fw t (ow t)) t) then ((upd fw t (ow t)) t) else wi)), (6, .int 1), (0, .ref h0), (1, .ref b0), (2, .int p2), (3, .int (nI rm))]) hx hb dX1_load_134 hl (k := 2) rfl rfl (by decide) rfl (fun ls hl => ?_)
          refine lv_goto (tgt := 22) hx hb dX1_load_137 (by decide) ?_
          have hc : t < k ∧ og t = p2 := ⟨(nI_ltI (by omega) (by omega)).mp b30.2, c44⟩
          have hfm2 : (if (6 : Int32) < ol t then 6 else ol t) = nI (f_cap og lk k p2 t) := ld_cap hc (hol t ht) (hlk t ht)
          have hwi2 := ld_w1 (fw := fw) ht (f_cap_le og lk k p2 t) hwb hfm2 c103 hI.2.2.1 (how t ht)
          replace hw := hw.pick (ws' := [(h0, .inr (1, [.ref k1, .ref k2, .ref k3, .ref k4, .ref k5, .ref k6, .int (nI rm), .int bs])), (k3, .inl (cI, 10, .inl (upd fw t (ow t)))), (k4, .inl (cI, 10, .inl (upd fm t (if 6 < (ol t) then 6 else (ol t))))), (k5, .inl (cI, 10, .inl (upd ff t (if wi < ((upd fw t (ow t)) t) then ((upd fw t (ow t)) t) else wi)))), (b0, .inr (3, [.ref o1, .ref o2, .ref o3, .ref o4, .int (nI k)])), (o1, .inl (cI, 10, .inl og)), (o2, .inl (cI, 10, .inl ow)), (o4, .inl (cI, 10, .inl ol))]) [0, 1, 2, 3, 7, 4, 5, 6] (by decide) rfl
          exact ih22 (t, (nI t) + (-1), upd fw t (ow t), upd fm t (if 6 < (ol t) then 6 else (ol t)), upd ff t (if wi < ((upd fw t (ow t)) t) then ((upd fw t (ow t)) t) else wi), if wi < ((upd fw t (ow t)) t) then ((upd fw t (ow t)) t) else wi) _ _ _ (show t ≤ 10 ∧ ((nI t) + (-1)) = nI t - 1 ∧ (if wi < ((upd fw t (ow t)) t) then ((upd fw t (ow t)) t) else wi) = nI (f_wf (f_cap og lk k p2) w (10 - t)) ∧ (∀ j, t ≤ j → j < 10 → (upd fw t (ow t)) j = nI (w j)) ∧ (∀ j, t ≤ j → j < 10 → (upd fm t (if 6 < (ol t) then 6 else (ol t))) j = nI (f_cap og lk k p2 j)) ∧ ∀ j, t ≤ j → j < 10 → (upd ff t (if wi < ((upd fw t (ow t)) t) then ((upd fw t (ow t)) t) else wi)) j = nI (f_wf (f_cap og lk k p2) w (10 - j)) from ⟨by omega, i_m1 t, hwi2, ld_row w hI.2.2.2.1 (how t ht), ld_row (f_cap og lk k p2) hI.2.2.2.2.1 hfm2, ld_row (fun j => f_wf (f_cap og lk k p2) w (10 - j)) hI.2.2.2.2.2 hwi2⟩) (show t < (t + 1) from by omega) hw (lv_sub hl [0, 1, 3, 4, 5, 6] rfl)
    · rw [if_neg b30] at w30
      subst w30
      refine lv_if_eq (tgt := 51) hx hb dX1_load_33 (by decide) (fun _ => ?_) (fun h => absurd h (by decide))
      refine lv_iconst (v := 0) hx hb dX1_load_51 (by decide) ?_
      refine lv_istore (lv' := [(6, .int 0), (5, .int (nI t)), (4, .int wi), (0, .ref h0), (1, .ref b0), (2, .int p2), (3, .int (nI rm))]) hx hb dX1_load_52 hl (by decide) rfl (fun ls hl => ?_)
      refine lv_aload_n hx hb dX1_load_54 rfl (lv_at hl 3 rfl) ?_
      refine k_get hx hb hts i_X1 hown hw 0 2 rfl rfl (by decide) k_f18 rfl dX1_load_55 ?_
      refine lv_iload hx hb dX1_load_58 (lv_at hl 1 rfl) ?_
      refine lv_aload_n hx hb dX1_load_60 rfl (lv_at hl 4 rfl) ?_
      refine k_get hx hb hts i_X3 hown hw 7 1 rfl rfl (by decide) k_f52 rfl dX1_load_61 ?_
      refine lv_iload hx hb dX1_load_64 (lv_at hl 1 rfl) ?_
      refine k_iald hx hb hw 5 0 rfl rfl t rfl (by omega) (Nat.le_of_ble_eq_true rfl) dX1_load_66 ?_
      refine k_iast (ws' := [(h0, .inr (1, [.ref k1, .ref k2, .ref k3, .ref k4, .ref k5, .ref k6, .int (nI rm), .int bs])), (k3, .inl (cI, 10, .inl (upd fw t (ow t)))), (k4, .inl (cI, 10, .inl fm)), (k5, .inl (cI, 10, .inl ff)), (o1, .inl (cI, 10, .inl og)), (o2, .inl (cI, 10, .inl ow)), (o4, .inl (cI, 10, .inl ol)), (b0, .inr (3, [.ref o1, .ref o2, .ref o3, .ref o4, .int (nI k)]))]) hx hb hw 1 0 rfl rfl t rfl (by omega) (Nat.le_of_ble_eq_true rfl) rfl dX1_load_67 (fun H locs hw => ?_)
      refine lv_aload_n hx hb dX1_load_68 rfl (lv_at hl 3 rfl) ?_
      refine k_get hx hb hts i_X1 hown hw 0 3 rfl rfl (by decide) k_f21 rfl dX1_load_69 ?_
      refine lv_iload hx hb dX1_load_72 (lv_at hl 1 rfl) ?_
      refine lv_iload hx hb dX1_load_74 (lv_at hl 0 rfl) ?_
      refine lv_if_eq (tgt := 94) hx hb dX1_load_76 (by decide) (fun _ => ?_) (fun h => absurd h (by decide))
      refine lv_iconst (v := 0) hx hb dX1_load_94 (by decide) ?_
      refine k_iast (ws' := [(h0, .inr (1, [.ref k1, .ref k2, .ref k3, .ref k4, .ref k5, .ref k6, .int (nI rm), .int bs])), (k3, .inl (cI, 10, .inl (upd fw t (ow t)))), (k4, .inl (cI, 10, .inl (upd fm t 0))), (k5, .inl (cI, 10, .inl ff)), (o1, .inl (cI, 10, .inl og)), (o2, .inl (cI, 10, .inl ow)), (o4, .inl (cI, 10, .inl ol)), (b0, .inr (3, [.ref o1, .ref o2, .ref o3, .ref o4, .int (nI k)]))]) hx hb hw 2 0 rfl rfl t rfl (by omega) (Nat.le_of_ble_eq_true rfl) rfl dX1_load_95 (fun H locs hw => ?_)
      refine lv_aload_n hx hb dX1_load_96 rfl (lv_at hl 3 rfl) ?_
      refine k_get hx hb hts i_X1 hown hw 0 3 rfl rfl (by decide) k_f21 rfl dX1_load_97 ?_
      refine lv_iload hx hb dX1_load_100 (lv_at hl 1 rfl) ?_
      refine k_iald hx hb hw 2 0 rfl rfl t rfl (by omega) (Nat.le_of_ble_eq_true rfl) dX1_load_102 ?_
      refine lv_if_le (tgt := 121) hx hb dX1_load_103 (by decide) (fun c103 => ?_) (fun c103 => ?_)
      · refine lv_iload hx hb dX1_load_121 (lv_at hl 2 rfl) ?_
        refine lv_istore (lv' := [(4, .int wi), (6, .int 0), (5, .int (nI t)), (0, .ref h0), (1, .ref b0), (2, .int p2), (3, .int (nI rm))]) hx hb dX1_load_123 hl (by decide) rfl (fun ls hl => ?_)
        refine lv_aload_n hx hb dX1_load_125 rfl (lv_at hl 3 rfl) ?_
        refine k_get hx hb hts i_X1 hown hw 0 4 rfl rfl (by decide) k_f24 rfl dX1_load_126 ?_
        refine lv_iload hx hb dX1_load_129 (lv_at hl 2 rfl) ?_
        refine lv_iload hx hb dX1_load_131 (lv_at hl 0 rfl) ?_
        refine k_iast (ws' := [(h0, .inr (1, [.ref k1, .ref k2, .ref k3, .ref k4, .ref k5, .ref k6, .int (nI rm), .int bs])), (k3, .inl (cI, 10, .inl (upd fw t (ow t)))), (k4, .inl (cI, 10, .inl (upd fm t 0))), (k5, .inl (cI, 10, .inl (upd ff t wi))), (o1, .inl (cI, 10, .inl og)), (o2, .inl (cI, 10, .inl ow)), (o4, .inl (cI, 10, .inl ol)), (b0, .inr (3, [.ref o1, .ref o2, .ref o3, .ref o4, .int (nI k)]))]) hx hb hw 3 0 rfl rfl t rfl (by omega) (Nat.le_of_ble_eq_true rfl) rfl dX1_load_133 (fun H locs hw => ?_)
        refine lv_iinc (v := (nI t) + (-1)) (lv' := [(5, .int ((nI t) + (-1))), (4, .int wi), (6, .int 0), (0, .ref h0), (1, .ref b0), (2, .int p2), (3, .int (nI rm))]) hx hb dX1_load_134 hl (k := 2) rfl rfl (by decide) rfl (fun ls hl => ?_)
        refine lv_goto (tgt := 22) hx hb dX1_load_137 (by decide) ?_
        have hnc : ¬ (t < k ∧ og t = p2) := fun h => b30 ⟨nI_pos' (by omega), (nI_ltI (by omega) (by omega)).mpr h.1⟩
        have hfm2 : (0 : Int32) = nI (f_cap og lk k p2 t) := ld_cap0 hnc
        have hwi2 := ld_w0 ht (f_cap_le og lk k p2 t) hfm2 c103 hI.2.2.1
        replace hw := hw.pick (ws' := [(h0, .inr (1, [.ref k1, .ref k2, .ref k3, .ref k4, .ref k5, .ref k6, .int (nI rm), .int bs])), (k3, .inl (cI, 10, .inl (upd fw t (ow t)))), (k4, .inl (cI, 10, .inl (upd fm t 0))), (k5, .inl (cI, 10, .inl (upd ff t wi))), (b0, .inr (3, [.ref o1, .ref o2, .ref o3, .ref o4, .int (nI k)])), (o1, .inl (cI, 10, .inl og)), (o2, .inl (cI, 10, .inl ow)), (o4, .inl (cI, 10, .inl ol))]) [0, 1, 2, 3, 7, 4, 5, 6] (by decide) rfl
        exact ih22 (t, (nI t) + (-1), upd fw t (ow t), upd fm t 0, upd ff t wi, wi) _ _ _ (show t ≤ 10 ∧ ((nI t) + (-1)) = nI t - 1 ∧ wi = nI (f_wf (f_cap og lk k p2) w (10 - t)) ∧ (∀ j, t ≤ j → j < 10 → (upd fw t (ow t)) j = nI (w j)) ∧ (∀ j, t ≤ j → j < 10 → (upd fm t 0) j = nI (f_cap og lk k p2 j)) ∧ ∀ j, t ≤ j → j < 10 → (upd ff t wi) j = nI (f_wf (f_cap og lk k p2) w (10 - j)) from ⟨by omega, i_m1 t, hwi2, ld_row w hI.2.2.2.1 (how t ht), ld_row (f_cap og lk k p2) hI.2.2.2.2.1 hfm2, ld_row (fun j => f_wf (f_cap og lk k p2) w (10 - j)) hI.2.2.2.2.2 hwi2⟩) (show t < (t + 1) from by omega) hw (lv_sub hl [0, 1, 3, 4, 5, 6] rfl)
      · refine lv_iload hx hb dX1_load_106 (lv_at hl 2 rfl) ?_
        refine lv_aload_n hx hb dX1_load_108 rfl (lv_at hl 3 rfl) ?_
        refine k_get hx hb hts i_X1 hown hw 0 2 rfl rfl (by decide) k_f18 rfl dX1_load_109 ?_
        refine lv_iload hx hb dX1_load_112 (lv_at hl 1 rfl) ?_
        refine k_iald hx hb hw 1 0 rfl rfl t rfl (by omega) (Nat.le_of_ble_eq_true rfl) dX1_load_114 ?_
        refine va_mmax hx hb (hml.trans hl.1.symm) hown k_m36 k_s_max k_imath k_c_max (Nat.le_of_ble_eq_true rfl) (Nat.le_of_ble_eq_true rfl) (Nat.le_of_ble_eq_true rfl) (Nat.le_of_ble_eq_true rfl) dX1_load_115 ?_
        refine lv_goto (tgt := 123) hx hb dX1_load_118 (by decide) ?_
        refine lv_istore (lv' := [(4, .int (if wi < ((upd fw t (ow t)) t) then ((upd fw t (ow t)) t) else wi)), (6, .int 0), (5, .int (nI t)), (0, .ref h0), (1, .ref b0), (2, .int p2), (3, .int (nI rm))]) hx hb dX1_load_123 hl (by decide) rfl (fun ls hl => ?_)
        refine lv_aload_n hx hb dX1_load_125 rfl (lv_at hl 3 rfl) ?_
        refine k_get hx hb hts i_X1 hown hw 0 4 rfl rfl (by decide) k_f24 rfl dX1_load_126 ?_
        refine lv_iload hx hb dX1_load_129 (lv_at hl 2 rfl) ?_
        refine lv_iload hx hb dX1_load_131 (lv_at hl 0 rfl) ?_
        refine k_iast (ws' := [(h0, .inr (1, [.ref k1, .ref k2, .ref k3, .ref k4, .ref k5, .ref k6, .int (nI rm), .int bs])), (k3, .inl (cI, 10, .inl (upd fw t (ow t)))), (k4, .inl (cI, 10, .inl (upd fm t 0))), (k5, .inl (cI, 10, .inl (upd ff t (if wi < ((upd fw t (ow t)) t) then ((upd fw t (ow t)) t) else wi)))), (o1, .inl (cI, 10, .inl og)), (o2, .inl (cI, 10, .inl ow)), (o4, .inl (cI, 10, .inl ol)), (b0, .inr (3, [.ref o1, .ref o2, .ref o3, .ref o4, .int (nI k)]))]) hx hb hw 3 0 rfl rfl t rfl (by omega) (Nat.le_of_ble_eq_true rfl) rfl dX1_load_133 (fun H locs hw => ?_)
        refine lv_iinc (v := (nI t) + (-1)) (lv' := [(5, .int ((nI t) + (-1))), (4, .int (if wi < ((upd fw t (ow t)) t) then ((upd fw t (ow t)) t) else wi)), (6, .int 0), (0, .ref h0), (1, .ref b0), (2, .int p2), (3, .int (nI rm))]) hx hb dX1_load_134 hl (k := 2) rfl rfl (by decide) rfl (fun ls hl => ?_)
        refine lv_goto (tgt := 22) hx hb dX1_load_137 (by decide) ?_
        have hnc : ¬ (t < k ∧ og t = p2) := fun h => b30 ⟨nI_pos' (by omega), (nI_ltI (by omega) (by omega)).mpr h.1⟩
        have hfm2 : (0 : Int32) = nI (f_cap og lk k p2 t) := ld_cap0 hnc
        have hwi2 := ld_w1 (fw := fw) ht (f_cap_le og lk k p2 t) hwb hfm2 c103 hI.2.2.1 (how t ht)
        replace hw := hw.pick (ws' := [(h0, .inr (1, [.ref k1, .ref k2, .ref k3, .ref k4, .ref k5, .ref k6, .int (nI rm), .int bs])), (k3, .inl (cI, 10, .inl (upd fw t (ow t)))), (k4, .inl (cI, 10, .inl (upd fm t 0))), (k5, .inl (cI, 10, .inl (upd ff t (if wi < ((upd fw t (ow t)) t) then ((upd fw t (ow t)) t) else wi)))), (b0, .inr (3, [.ref o1, .ref o2, .ref o3, .ref o4, .int (nI k)])), (o1, .inl (cI, 10, .inl og)), (o2, .inl (cI, 10, .inl ow)), (o4, .inl (cI, 10, .inl ol))]) [0, 1, 2, 3, 7, 4, 5, 6] (by decide) rfl
        exact ih22 (t, (nI t) + (-1), upd fw t (ow t), upd fm t 0, upd ff t (if wi < ((upd fw t (ow t)) t) then ((upd fw t (ow t)) t) else wi), if wi < ((upd fw t (ow t)) t) then ((upd fw t (ow t)) t) else wi) _ _ _ (show t ≤ 10 ∧ ((nI t) + (-1)) = nI t - 1 ∧ (if wi < ((upd fw t (ow t)) t) then ((upd fw t (ow t)) t) else wi) = nI (f_wf (f_cap og lk k p2) w (10 - t)) ∧ (∀ j, t ≤ j → j < 10 → (upd fw t (ow t)) j = nI (w j)) ∧ (∀ j, t ≤ j → j < 10 → (upd fm t 0) j = nI (f_cap og lk k p2 j)) ∧ ∀ j, t ≤ j → j < 10 → (upd ff t (if wi < ((upd fw t (ow t)) t) then ((upd fw t (ow t)) t) else wi)) j = nI (f_wf (f_cap og lk k p2) w (10 - j)) from ⟨by omega, i_m1 t, hwi2, ld_row w hI.2.2.2.1 (how t ht), ld_row (f_cap og lk k p2) hI.2.2.2.2.1 hfm2, ld_row (fun j => f_wf (f_cap og lk k p2) w (10 - j)) hI.2.2.2.2.2 hwi2⟩) (show t < (t + 1) from by omega) hw (lv_sub hl [0, 1, 3, 4, 5, 6] rfl)
