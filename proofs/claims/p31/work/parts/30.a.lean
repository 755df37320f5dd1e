set_option maxRecDepth 100000 in
set_option maxHeartbeats 4000000 in
/-- X3_has -/
theorem c_X3_has (l : Launch) (D : va_G) (cI cC cJ cG : ClassId) (h0 : Nat) (sz : Nat) (h1 h2 h3 h4 : Nat) (n p0 : Int32) : kMi l yX3_has wsX3_has ({ frames := 0, cells := 0, slots := 0, locals := 0 }) D (kty cI cC cJ cG) [.ref h0, .int p0] [(h0, .inr (3, [.ref h1, .ref h2, .ref h3, .ref h4, .int n]))] sz 0 0 (fun (r : Int32) (_ : Unit) => r = if 0 ≤ p0 ∧ p0 < n then 1 else 0) (fun (_ : Unit) => [(h0, .inr (3, [.ref h1, .ref h2, .ref h3, .ref h4, .int n]))]) := by
  unfold kMi
  refine k_ofW (cc := cX3_has) (maxL := 2) (ret := (some .boolean)) (lv := [(0, .ref h0), (1, .int p0)]) (by decide) rfl (Nat.le_of_ble_eq_true rfl) rfl ?_
  intro p e s m args below meth c ls H locs hE hsz hw hl
  obtain ⟨hx, hb, hr, hml, hown, hts, hlocks⟩ := hE
  subst hsz
  have hown : s.vm.findClass RX3 = some m.cls := hown
  have k_f24 : (Cond.fieldLink RX3 24 "PaperMachine$OrderBook" "count" "I").before args s = true := hts _ (by decide +kernel)
  have i_X3 : ∀ w ∈ u_ws RX3 TX3 5, w ∈ wsX3_has := fun _ h => List.mem_cons_of_mem _ (List.mem_append_right _ h)
  refine lv_iload_n hx hb dX3_has_0 rfl (lv_at hl 1 rfl) ?_
  refine lv_if_lt (tgt := 16) hx hb dX3_has_1 (by decide) (fun c1 => ?_) (fun c1 => ?_)
  · refine lv_iconst (v := 0) hx hb dX3_has_16 (by decide) ?_
    exact k_zret () hx hb hr rfl hlocks hw (show (0 : Int32) = if 0 ≤ p0 ∧ p0 < n then 1 else 0 from by rw [if_neg (fun h => absurd h.1 (Int32.not_le.mpr c1))]) dX3_has_17
  · refine lv_iload_n hx hb dX3_has_4 rfl (lv_at hl 1 rfl) ?_
    refine lv_aload_n hx hb dX3_has_5 rfl (lv_at hl 0 rfl) ?_
    refine k_get hx hb hts i_X3 hown hw 0 4 rfl rfl (by decide) k_f24 rfl dX3_has_6 ?_
    refine lv_icmp_ge (tgt := 16) hx hb dX3_has_9 (by decide) (fun c9 => ?_) (fun c9 => ?_)
    · refine lv_iconst (v := 0) hx hb dX3_has_16 (by decide) ?_
      exact k_zret () hx hb hr rfl hlocks hw (show (0 : Int32) = if 0 ≤ p0 ∧ p0 < n then 1 else 0 from by rw [if_neg (fun h => absurd h.2 (Int32.not_lt.mpr c9))]) dX3_has_17
    · refine lv_iconst (v := 1) hx hb dX3_has_12 (by decide) ?_
      refine lv_goto (tgt := 17) hx hb dX3_has_13 (by decide) ?_
      exact k_zret () hx hb hr rfl hlocks hw (show (1 : Int32) = if 0 ≤ p0 ∧ p0 < n then 1 else 0 from by rw [if_pos ⟨Int32.not_lt.mp c1, Int32.not_le.mp c9⟩]) dX3_has_17

set_option maxRecDepth 100000 in
set_option maxHeartbeats 4000000 in
/-- X3_isFull -/
theorem c_X3_isFull (l : Launch) (D : va_G) (cI cC cJ cG : ClassId) (h0 : Nat) (sz : Nat) (h1 h2 h3 h4 : Nat) (n : Int32) : kMi l yX3_isFull wsX3_isFull ({ frames := 0, cells := 0, slots := 0, locals := 0 }) D (kty cI cC cJ cG) [.ref h0] [(h0, .inr (3, [.ref h1, .ref h2, .ref h3, .ref h4, .int n]))] sz 0 0 (fun (r : Int32) (_ : Unit) => r = if 10 ≤ n then 1 else 0) (fun (_ : Unit) => [(h0, .inr (3, [.ref h1, .ref h2, .ref h3, .ref h4, .int n]))]) := by
  unfold kMi
  refine k_ofW (cc := cX3_isFull) (maxL := 1) (ret := (some .boolean)) (lv := [(0, .ref h0)]) (by decide) rfl (Nat.le_of_ble_eq_true rfl) rfl ?_
  intro p e s m args below meth c ls H locs hE hsz hw hl
  obtain ⟨hx, hb, hr, hml, hown, hts, hlocks⟩ := hE
  subst hsz
  have hown : s.vm.findClass RX3 = some m.cls := hown
  have k_f24 : (Cond.fieldLink RX3 24 "PaperMachine$OrderBook" "count" "I").before args s = true := hts _ (by decide +kernel)
  have i_X3 : ∀ w ∈ u_ws RX3 TX3 5, w ∈ wsX3_isFull := fun _ h => List.mem_cons_of_mem _ (List.mem_append_right _ h)
  refine lv_aload_n hx hb dX3_isFull_0 rfl (lv_at hl 0 rfl) ?_
  refine k_get hx hb hts i_X3 hown hw 0 4 rfl rfl (by decide) k_f24 rfl dX3_isFull_1 ?_
  refine lv_bipush (v := 10) hx hb dX3_isFull_4 (by decide) ?_
  refine lv_icmp_lt (tgt := 13) hx hb dX3_isFull_6 (by decide) (fun c6 => ?_) (fun c6 => ?_)
  · refine lv_iconst (v := 0) hx hb dX3_isFull_13 (by decide) ?_
    exact k_zret () hx hb hr rfl hlocks hw (show (0 : Int32) = if 10 ≤ n then 1 else 0 from by rw [if_neg (Int32.not_le.mpr c6)]) dX3_isFull_14
  · refine lv_iconst (v := 1) hx hb dX3_isFull_9 (by decide) ?_
    refine lv_goto (tgt := 14) hx hb dX3_isFull_10 (by decide) ?_
    exact k_zret () hx hb hr rfl hlocks hw (show (1 : Int32) = if 10 ≤ n then 1 else 0 from by rw [if_pos (Int32.not_lt.mp c6)]) dX3_isFull_14

set_option maxRecDepth 100000 in
set_option maxHeartbeats 4000000 in
/-- X4_isWithin -/
theorem c_X4_isWithin (l : Launch) (D : va_G) (cI cC cJ cG : ClassId) (sz : Nat) (p0 p1 p2 : Int32) : kMi l yX4_isWithin wsX4_isWithin ({ frames := 0, cells := 0, slots := 0, locals := 0 }) D (kty cI cC cJ cG) [.int p0, .int p1, .int p2] [] sz 0 0 (fun (r : Int32) (_ : Unit) => r = if p1 ≤ p0 ∧ p0 ≤ p2 then 1 else 0) (fun (_ : Unit) => []) := by
  unfold kMi
  refine k_ofW (cc := cX4_isWithin) (maxL := 3) (ret := (some .boolean)) (lv := [(0, .int p0), (1, .int p1), (2, .int p2)]) (by decide) rfl (Nat.le_of_ble_eq_true rfl) rfl ?_
  intro p e s m args below meth c ls H locs hE hsz hw hl
  obtain ⟨hx, hb, hr, hml, hown, hts, hlocks⟩ := hE
  subst hsz
  have hown : s.vm.findClass RX4 = some m.cls := hown
  refine lv_iload_n hx hb dX4_isWithin_0 rfl (lv_at hl 0 rfl) ?_
  refine lv_iload_n hx hb dX4_isWithin_1 rfl (lv_at hl 1 rfl) ?_
  refine lv_icmp_lt (tgt := 14) hx hb dX4_isWithin_2 (by decide) (fun c2 => ?_) (fun c2 => ?_)
  · refine lv_iconst (v := 0) hx hb dX4_isWithin_14 (by decide) ?_
    exact k_zret () hx hb hr rfl hlocks hw (show (0 : Int32) = if p1 ≤ p0 ∧ p0 ≤ p2 then 1 else 0 from by rw [if_neg (fun h => absurd h.1 (Int32.not_le.mpr c2))]) dX4_isWithin_15
  · refine lv_iload_n hx hb dX4_isWithin_5 rfl (lv_at hl 0 rfl) ?_
    refine lv_iload_n hx hb dX4_isWithin_6 rfl (lv_at hl 2 rfl) ?_
    refine lv_icmp_gt (tgt := 14) hx hb dX4_isWithin_7 (by decide) (fun c7 => ?_) (fun c7 => ?_)
    · refine lv_iconst (v := 0) hx hb dX4_isWithin_14 (by decide) ?_
      exact k_zret () hx hb hr rfl hlocks hw (show (0 : Int32) = if p1 ≤ p0 ∧ p0 ≤ p2 then 1 else 0 from by rw [if_neg (fun h => absurd h.2 (Int32.not_le.mpr c7))]) dX4_isWithin_15
    · refine lv_iconst (v := 1) hx hb dX4_isWithin_10 (by decide) ?_
      refine lv_goto (tgt := 15) hx hb dX4_isWithin_11 (by decide) ?_
      exact k_zret () hx hb hr rfl hlocks hw (show (1 : Int32) = if p1 ≤ p0 ∧ p0 ≤ p2 then 1 else 0 from by rw [if_pos ⟨Int32.not_lt.mp c2, Int32.not_lt.mp c7⟩]) dX4_isWithin_15

set_option maxRecDepth 100000 in
set_option maxHeartbeats 4000000 in
/-- X4_quotient -/
theorem c_X4_quotient (l : Launch) (D : va_G) (cI cC cJ cG : ClassId) (sz : Nat) (p0 p1 : Int32) (hp : 0 < p1) : kMi l yX4_quotient wsX4_quotient ({ frames := 0, cells := 0, slots := 0, locals := 0 }) D (kty cI cC cJ cG) [.int p0, .int p1] [] sz 0 0 (fun (r : Int32) (_ : Unit) => r = p0 / p1) (fun (_ : Unit) => []) := by
  unfold kMi
  refine k_ofW (cc := cX4_quotient) (maxL := 2) (ret := (some .int)) (lv := [(0, .int p0), (1, .int p1)]) (by decide) rfl (Nat.le_of_ble_eq_true rfl) rfl ?_
  intro p e s m args below meth c ls H locs hE hsz hw hl
  obtain ⟨hx, hb, hr, hml, hown, hts, hlocks⟩ := hE
  subst hsz
  have hown : s.vm.findClass RX4 = some m.cls := hown
  refine lv_iload_n hx hb dX4_quotient_0 rfl (lv_at hl 1 rfl) ?_
  refine lv_if_le (tgt := 10) hx hb dX4_quotient_1 (by decide) (fun c1 => False.elim (absurd hp (Int32.not_lt.mpr c1))) (fun c1 => ?_)
  refine lv_iload_n hx hb dX4_quotient_4 rfl (lv_at hl 0 rfl) ?_
  refine lv_iload_n hx hb dX4_quotient_5 rfl (lv_at hl 1 rfl) ?_
  refine lv_idiv hx hb dX4_quotient_6 (fun h => absurd (h ▸ hp) (by decide)) ?_
  refine lv_goto (tgt := 11) hx hb dX4_quotient_7 (by decide) ?_
  exact k_iret () hx hb hr hlocks hw (by first | rfl | trivial | simp_all) dX4_quotient_11


set_option maxRecDepth 100000 in
set_option maxHeartbeats 4000000 in
/-- X3_write -/
theorem c_X3_write (l : Launch) (D : va_G) (cI cC cJ cG : ClassId) (h0 h1 h2 h3 h4 : Nat) (sz : Nat) (k : Nat) (og ow ok ol : Nat → Int32) (p0 p1 p2 : Int32) (hk : k < 10) : kMi l yX3_write wsX3_write ({ frames := 1, cells := 0, slots := 0, locals := 20 }) D (kty cI cC cJ cG) [.ref h0, .int p0, .int p1, .int p2] [(h0, .inr (3, [.ref h1, .ref h2, .ref h3, .ref h4, .int (nI k)])), (h1, .inl (cI, 10, .inl og)), (h2, .inl (cI, 10, .inl ow)), (h3, .inl (cI, 10, .inl ok)), (h4, .inl (cI, 10, .inl ol))] sz 0 0 (fun (r : Int32) (_ : Unit) => r = nI k) (fun (_ : Unit) => [(h0, .inr (3, [.ref h1, .ref h2, .ref h3, .ref h4, .int (nI (k + 1))])), (h1, .inl (cI, 10, .inl (upd og k p0))), (h2, .inl (cI, 10, .inl (upd ow k p1))), (h3, .inl (cI, 10, .inl (upd ok k 0))), (h4, .inl (cI, 10, .inl (upd ol k p2)))]) := by
  unfold kMi
  refine k_ofW (cc := cX3_write) (maxL := 5) (ret := (some .int)) (lv := [(0, .ref h0), (1, .int p0), (2, .int p1), (3, .int p2)]) (by decide) rfl (Nat.le_of_ble_eq_true rfl) rfl ?_
  intro p e s m args below meth c ls H locs hE hsz hw hl
  obtain ⟨hx, hb, hr, hml, hown, hts, hlocks⟩ := hE
  subst hsz
  have hown : s.vm.findClass RX3 = some m.cls := hown
  have k_f24 : (Cond.fieldLink RX3 24 "PaperMachine$OrderBook" "count" "I").before args s = true := hts _ (by decide +kernel)
  have k_f9 : (Cond.fieldLink RX3 9 "PaperMachine$OrderBook" "grades" "[I").before args s = true := hts _ (by decide +kernel)
  have k_f15 : (Cond.fieldLink RX3 15 "PaperMachine$OrderBook" "widths" "[I").before args s = true := hts _ (by decide +kernel)
  have k_f18 : (Cond.fieldLink RX3 18 "PaperMachine$OrderBook" "rollsCut" "[I").before args s = true := hts _ (by decide +kernel)
  have k_f21 : (Cond.fieldLink RX3 21 "PaperMachine$OrderBook" "lacking" "[I").before args s = true := hts _ (by decide +kernel)
  have i_X3 : ∀ w ∈ u_ws RX3 TX3 5, w ∈ wsX3_write := fun _ h => List.mem_cons_of_mem _ (List.mem_append_right _ h)
  refine lv_aload_n hx hb dX3_write_0 rfl (lv_at hl 0 rfl) ?_
  refine k_calli (wr := [(h1, .inl (cI, 10, .inl og)), (h2, .inl (cI, 10, .inl ow)), (h3, .inl (cI, 10, .inl ok)), (h4, .inl (cI, 10, .inl ol))]) (k_runV (wc := [(h0, .inr (3, [.ref h1, .ref h2, .ref h3, .ref h4, .int (nI k)]))]) (As := []) (rest := []) ⟨hx, hb, hml, hown, hts⟩ (c_X3_isFull l D cI cC cJ cG h0 H.size h1 h2 h3 h4 (nI k)) (cwV 0 hts gX3_write_X3_isFull rfl rfl rfl (by decide +kernel) ⟨Nat.le_of_ble_eq_true rfl, Nat.le_of_ble_eq_true rfl⟩) hw [0] (by decide) rfl 0 rfl rfl rfl hl.1 rfl (Nat.le_of_ble_eq_true rfl) dX3_write_1 ⟨Nat.zero_le _, Nat.zero_le _⟩) hw [0] [1, 2, 3, 4] rfl rfl (by decide) (by decide) (fun r1 u1 H locs w1 hw => ?_)
  replace hw : kW D (kty cI cC cJ cG) s (va_A [(h0, .inr (3, [.ref h1, .ref h2, .ref h3, .ref h4, .int (nI k)])), (h1, .inl (cI, 10, .inl og)), (h2, .inl (cI, 10, .inl ow)), (h3, .inl (cI, 10, .inl ok)), (h4, .inl (cI, 10, .inl ol))] s.heap.size) [(h1, .inl (cI, 10, .inl og)), (h2, .inl (cI, 10, .inl ow)), (h3, .inl (cI, 10, .inl ok)), (h4, .inl (cI, 10, .inl ol)), (h0, .inr (3, [.ref h1, .ref h2, .ref h3, .ref h4, .int (nI k)]))] H locs := hw
  replace w1 : r1 = if 10 ≤ (nI k) then 1 else 0 := w1
  by_cases b1 : 10 ≤ (nI k)
  · rw [if_pos b1] at w1
    subst w1
    exact absurd (k_le (a := k) (b := 10) b1 (by omega) (by omega)) (by omega)
  · rw [if_neg b1] at w1
    subst w1
    refine lv_if_eq (tgt := 9) hx hb dX3_write_4 (by decide) (fun _ => ?_) (fun h => absurd h (by decide))
    refine lv_aload_n hx hb dX3_write_9 rfl (lv_at hl 0 rfl) ?_
    refine k_get hx hb hts i_X3 hown hw 4 4 rfl rfl (by decide) k_f24 rfl dX3_write_10 ?_
    refine lv_istore (lv' := [(4, .int (nI k)), (0, .ref h0), (1, .int p0), (2, .int p1), (3, .int p2)]) hx hb dX3_write_13 hl (by decide) rfl (fun ls hl => ?_)
    refine lv_aload_n hx hb dX3_write_15 rfl (lv_at hl 1 rfl) ?_
    refine k_get hx hb hts i_X3 hown hw 4 0 rfl rfl (by decide) k_f9 rfl dX3_write_16 ?_
    refine lv_iload hx hb dX3_write_19 (lv_at hl 0 rfl) ?_
    refine lv_iload_n hx hb dX3_write_21 rfl (lv_at hl 2 rfl) ?_
    refine k_iast (ws' := [(h1, .inl (cI, 10, .inl (upd og k p0))), (h2, .inl (cI, 10, .inl ow)), (h3, .inl (cI, 10, .inl ok)), (h4, .inl (cI, 10, .inl ol)), (h0, .inr (3, [.ref h1, .ref h2, .ref h3, .ref h4, .int (nI k)]))]) hx hb hw 0 0 rfl rfl k rfl (by omega) (Nat.le_of_ble_eq_true rfl) rfl dX3_write_22 (fun H locs hw => ?_)
    refine lv_aload_n hx hb dX3_write_23 rfl (lv_at hl 1 rfl) ?_
    refine k_get hx hb hts i_X3 hown hw 4 1 rfl rfl (by decide) k_f15 rfl dX3_write_24 ?_
    refine lv_iload hx hb dX3_write_27 (lv_at hl 0 rfl) ?_
    refine lv_iload_n hx hb dX3_write_29 rfl (lv_at hl 3 rfl) ?_
    refine k_iast (ws' := [(h1, .inl (cI, 10, .inl (upd og k p0))), (h2, .inl (cI, 10, .inl (upd ow k p1))), (h3, .inl (cI, 10, .inl ok)), (h4, .inl (cI, 10, .inl ol)), (h0, .inr (3, [.ref h1, .ref h2, .ref h3, .ref h4, .int (nI k)]))]) hx hb hw 1 0 rfl rfl k rfl (by omega) (Nat.le_of_ble_eq_true rfl) rfl dX3_write_30 (fun H locs hw => ?_)
    refine lv_aload_n hx hb dX3_write_31 rfl (lv_at hl 1 rfl) ?_
    refine k_get hx hb hts i_X3 hown hw 4 2 rfl rfl (by decide) k_f18 rfl dX3_write_32 ?_
    refine lv_iload hx hb dX3_write_35 (lv_at hl 0 rfl) ?_
    refine lv_iconst (v := 0) hx hb dX3_write_37 (by decide) ?_
    refine k_iast (ws' := [(h1, .inl (cI, 10, .inl (upd og k p0))), (h2, .inl (cI, 10, .inl (upd ow k p1))), (h3, .inl (cI, 10, .inl (upd ok k 0))), (h4, .inl (cI, 10, .inl ol)), (h0, .inr (3, [.ref h1, .ref h2, .ref h3, .ref h4, .int (nI k)]))]) hx hb hw 2 0 rfl rfl k rfl (by omega) (Nat.le_of_ble_eq_true rfl) rfl dX3_write_38 (fun H locs hw => ?_)
    refine lv_aload_n hx hb dX3_write_39 rfl (lv_at hl 1 rfl) ?_
    refine k_get hx hb hts i_X3 hown hw 4 3 rfl rfl (by decide) k_f21 rfl dX3_write_40 ?_
    refine lv_iload hx hb dX3_write_43 (lv_at hl 0 rfl) ?_
    refine lv_iload_n hx hb dX3_write_45 rfl (lv_at hl 4 rfl) ?_
    refine k_iast (ws' := [(h1, .inl (cI, 10, .inl (upd og k p0))), (h2, .inl (cI, 10, .inl (upd ow k p1))), (h3, .inl (cI, 10, .inl (upd ok k 0))), (h4, .inl (cI, 10, .inl (upd ol k p2))), (h0, .inr (3, [.ref h1, .ref h2, .ref h3, .ref h4, .int (nI k)]))]) hx hb hw 3 0 rfl rfl k rfl (by omega) (Nat.le_of_ble_eq_true rfl) rfl dX3_write_46 (fun H locs hw => ?_)
    refine lv_aload_n hx hb dX3_write_47 rfl (lv_at hl 1 rfl) ?_
    refine lv_dup hx hb dX3_write_48 rfl ?_
    refine k_get hx hb hts i_X3 hown hw 4 4 rfl rfl (by decide) k_f24 rfl dX3_write_49 ?_
    refine lv_iconst (v := 1) hx hb dX3_write_52 (by decide) ?_
    refine lv_iadd hx hb dX3_write_53 ?_
    refine k_eqi (nI_1 k) ?_
    refine k_put hx hb hts i_X3 tyX3_ok nmX3 hown hw 4 4 (ws' := [(h1, .inl (cI, 10, .inl (upd og k p0))), (h2, .inl (cI, 10, .inl (upd ow k p1))), (h3, .inl (cI, 10, .inl (upd ok k 0))), (h4, .inl (cI, 10, .inl (upd ol k p2))), (h0, .inr (3, [.ref h1, .ref h2, .ref h3, .ref h4, .int (nI (k + 1))]))]) rfl rfl (by decide) k_f24 rfl rfl rfl (Nat.le_of_ble_eq_true rfl) rfl dX3_write_54 (fun H locs hw => ?_)
    refine lv_iload hx hb dX3_write_57 (lv_at hl 0 rfl) ?_
    replace hw := hw.pick (ws' := [(h0, .inr (3, [.ref h1, .ref h2, .ref h3, .ref h4, .int (nI (k + 1))])), (h1, .inl (cI, 10, .inl (upd og k p0))), (h2, .inl (cI, 10, .inl (upd ow k p1))), (h3, .inl (cI, 10, .inl (upd ok k 0))), (h4, .inl (cI, 10, .inl (upd ol k p2)))]) [4, 0, 1, 2, 3] (by decide) rfl
    exact k_iret () hx hb hr hlocks hw (by first | rfl | trivial | simp_all) dX3_write_59

set_option maxRecDepth 100000 in
set_option maxHeartbeats 4000000 in
/-- X3_widestOpen -/
theorem c_X3_widestOpen (l : Launch) (D : va_G) (cI cC cJ cG : ClassId) (h0 h2 h4 : Nat) (sz : Nat) (h1 h3 k : Nat) (ow ol : Nat → Int32) (hk : k ≤ 10) : kMi l yX3_widestOpen wsX3_widestOpen ({ frames := 1, cells := 0, slots := 0, locals := 13 }) D (kty cI cC cJ cG) [.ref h0] [(h0, .inr (3, [.ref h1, .ref h2, .ref h3, .ref h4, .int (nI k)])), (h2, .inl (cI, 10, .inl ow)), (h4, .inl (cI, 10, .inl ol))] sz 0 0 (fun (r : Int32) (_ : Unit) => r = f_wo ol ow k) (fun (_ : Unit) => [(h0, .inr (3, [.ref h1, .ref h2, .ref h3, .ref h4, .int (nI k)])), (h2, .inl (cI, 10, .inl ow)), (h4, .inl (cI, 10, .inl ol))]) := by
  unfold kMi
  refine k_ofW (cc := cX3_widestOpen) (maxL := 3) (ret := (some .int)) (lv := [(0, .ref h0)]) (by decide) rfl (Nat.le_of_ble_eq_true rfl) rfl ?_
  intro p e s m args below meth c ls H locs hE hsz hw hl
  obtain ⟨hx, hb, hr, hml, hown, hts, hlocks⟩ := hE
  subst hsz
  have hown : s.vm.findClass RX3 = some m.cls := hown
  have k_f24 : (Cond.fieldLink RX3 24 "PaperMachine$OrderBook" "count" "I").before args s = true := hts _ (by decide +kernel)
  have k_f21 : (Cond.fieldLink RX3 21 "PaperMachine$OrderBook" "lacking" "[I").before args s = true := hts _ (by decide +kernel)
  have k_f15 : (Cond.fieldLink RX3 15 "PaperMachine$OrderBook" "widths" "[I").before args s = true := hts _ (by decide +kernel)
  have k_m32 : (Cond.methodLink RX3 32 Lib.Math.max.name).before args s = true := hts _ (by decide +kernel)
  have k_s_max : (Cond.static Lib.Math.max.name).before args s = true := hts _ (by decide +kernel)
  have k_imath : (Cond.initialized "java/lang/Math").before args s = true := hts _ (by decide +kernel)
  have k_c_max : (Cond.code Lib.Math.max.name Lib.Math.max.code 2 (some .int)).before args s = true := hts _ (by decide +kernel)
  have i_X3 : ∀ w ∈ u_ws RX3 TX3 5, w ∈ wsX3_widestOpen := fun _ h => List.mem_cons_of_mem _ (List.mem_append_right _ h)
  refine lv_iconst (v := 0) hx hb dX3_widestOpen_0 (by decide) ?_
  refine lv_istore_n (lv' := [(1, .int 0), (0, .ref h0)]) hx hb dX3_widestOpen_1 rfl hl (by decide) rfl (fun ls hl => ?_)
  refine lv_iconst (v := 0) hx hb dX3_widestOpen_2 (by decide) ?_
  refine lv_istore_n (lv' := [(2, .int 0), (1, .int 0), (0, .ref h0)]) hx hb dX3_widestOpen_3 rfl hl (by decide) rfl (fun ls hl => ?_)
  replace hl : lv_has _ 3 [(2, .int (nI 0)), (1, .int 0), (0, .ref h0)] := hl
  replace hw : kW D (kty cI cC cJ cG) s (va_A [(h0, .inr (3, [.ref h1, .ref h2, .ref h3, .ref h4, .int (nI k)])), (h2, .inl (cI, 10, .inl ow)), (h4, .inl (cI, 10, .inl ol))] s.heap.size) [(h0, .inr (3, [.ref h1, .ref h2, .ref h3, .ref h4, .int (nI k)])), (h2, .inl (cI, 10, .inl ow)), (h4, .inl (cI, 10, .inl ol))] H locs := hw
  revert hl; revert hw; revert ls; revert locs; revert H
  refine k_loop (fun ((i, x) : (Nat) × (Int32)) => i ≤ k ∧ x = f_wo ol ow i) (fun ((i, x) : (Nat) × (Int32)) => k - i) (fun ((i, x) : (Nat) × (Int32)) => [(h0, .inr (3, [.ref h1, .ref h2, .ref h3, .ref h4, .int (nI k)])), (h2, .inl (cI, 10, .inl ow)), (h4, .inl (cI, 10, .inl ol))]) (fun ((i, x) : (Nat) × (Int32)) => [(2, .int (nI i)), (1, .int x), (0, .ref h0)]) (0, 0) (show (0 : Nat) ≤ k ∧ (0 : Int32) = f_wo ol ow (0 : Nat) from ⟨Nat.zero_le _, rfl⟩) ?_
  intro ⟨i, x⟩ hI ih4 H locs ls hw hl
  replace hI : i ≤ k ∧ x = f_wo ol ow i := hI
  replace hw : kW D (kty cI cC cJ cG) s (va_A [(h0, .inr (3, [.ref h1, .ref h2, .ref h3, .ref h4, .int (nI k)])), (h2, .inl (cI, 10, .inl ow)), (h4, .inl (cI, 10, .inl ol))] s.heap.size) [(h0, .inr (3, [.ref h1, .ref h2, .ref h3, .ref h4, .int (nI k)])), (h2, .inl (cI, 10, .inl ow)), (h4, .inl (cI, 10, .inl ol))] H locs := hw
  replace hl : lv_has ls 3 [(2, .int (nI i)), (1, .int x), (0, .ref h0)] := hl
  refine lv_iload_n hx hb dX3_widestOpen_4 rfl (lv_at hl 0 rfl) ?_
  refine lv_aload_n hx hb dX3_widestOpen_5 rfl (lv_at hl 2 rfl) ?_
  refine k_get hx hb hts i_X3 hown hw 0 4 rfl rfl (by decide) k_f24 rfl dX3_widestOpen_6 ?_
  refine lv_icmp_ge (tgt := 38) hx hb dX3_widestOpen_9 (by decide) (fun c9 => ?_) (fun c9 => ?_)
  · have hi : k ≤ i := k_le c9 (by omega) (by omega)
    refine lv_iload_n hx hb dX3_widestOpen_38 rfl (lv_at hl 1 rfl) ?_
    exact k_iret () hx hb hr hlocks hw (show x = f_wo ol ow k from by rw [hI.2, show i = k by omega]) dX3_widestOpen_39
  · have hi : i < k := k_lt c9 (by omega) (by omega)
    refine lv_aload_n hx hb dX3_widestOpen_12 rfl (lv_at hl 2 rfl) ?_
    refine k_get hx hb hts i_X3 hown hw 0 3 rfl rfl (by decide) k_f21 rfl dX3_widestOpen_13 ?_
    refine lv_iload_n hx hb dX3_widestOpen_16 rfl (lv_at hl 0 rfl) ?_
    refine k_iald hx hb hw 2 0 rfl rfl i rfl (by omega) (Nat.le_of_ble_eq_true rfl) dX3_widestOpen_17 ?_
    refine lv_if_le (tgt := 32) hx hb dX3_widestOpen_18 (by decide) (fun c18 => ?_) (fun c18 => ?_)
    · refine lv_iinc (v := nI (i + 1)) (lv' := [(2, .int (nI (i + 1))), (1, .int x), (0, .ref h0)]) hx hb dX3_widestOpen_32 hl (k := 0) rfl (nI_1 i) (by decide) rfl (fun ls hl => ?_)
      refine lv_goto (tgt := 4) hx hb dX3_widestOpen_35 (by decide) ?_
      exact ih4 ((i + 1), x) _ _ _ (show (i + 1) ≤ k ∧ x = f_wo ol ow (i + 1) from ⟨by omega, by rw [f_wo, if_neg (Int32.not_lt.mpr c18)]; exact hI.2⟩) (show k - (i + 1) < k - i from by omega) hw (lv_sub hl [0, 1, 2] rfl)
    · refine lv_iload_n hx hb dX3_widestOpen_21 rfl (lv_at hl 1 rfl) ?_
      refine lv_aload_n hx hb dX3_widestOpen_22 rfl (lv_at hl 2 rfl) ?_
      refine k_get hx hb hts i_X3 hown hw 0 1 rfl rfl (by decide) k_f15 rfl dX3_widestOpen_23 ?_
      refine lv_iload_n hx hb dX3_widestOpen_26 rfl (lv_at hl 0 rfl) ?_
      refine k_iald hx hb hw 1 0 rfl rfl i rfl (by omega) (Nat.le_of_ble_eq_true rfl) dX3_widestOpen_27 ?_
      refine va_mmax hx hb (hml.trans hl.1.symm) hown k_m32 k_s_max k_imath k_c_max (Nat.le_of_ble_eq_true rfl) (Nat.le_of_ble_eq_true rfl) (Nat.le_of_ble_eq_true rfl) (Nat.le_of_ble_eq_true rfl) dX3_widestOpen_28 ?_
      refine lv_istore_n (lv' := [(1, .int (if x < (ow i) then (ow i) else x)), (2, .int (nI i)), (0, .ref h0)]) hx hb dX3_widestOpen_31 rfl hl (by decide) rfl (fun ls hl => ?_)
      refine lv_iinc (v := nI (i + 1)) (lv' := [(2, .int (nI (i + 1))), (1, .int (if x < (ow i) then (ow i) else x)), (0, .ref h0)]) hx hb dX3_widestOpen_32 hl (k := 1) rfl (nI_1 i) (by decide) rfl (fun ls hl => ?_)
      refine lv_goto (tgt := 4) hx hb dX3_widestOpen_35 (by decide) ?_
      exact ih4 ((i + 1), if x < (ow i) then (ow i) else x) _ _ _ (show (i + 1) ≤ k ∧ (if x < (ow i) then (ow i) else x) = f_wo ol ow (i + 1) from ⟨by omega, by rw [f_wo, if_pos (Int32.not_le.mp c18), hI.2]⟩) (show k - (i + 1) < k - i from by omega) hw (lv_sub hl [0, 1, 2] rfl)

set_option maxRecDepth 100000 in
set_option maxHeartbeats 4000000 in
/-- X3_rollsLacking -/
theorem c_X3_rollsLacking (l : Launch) (D : va_G) (cI cC cJ cG : ClassId) (h0 h1 h4 : Nat) (sz : Nat) (h2 h3 k : Nat) (og ol : Nat → Int32) (p0 : Int32) (hk : k ≤ 10) : kMi l yX3_rollsLacking wsX3_rollsLacking ({ frames := 0, cells := 0, slots := 0, locals := 0 }) D (kty cI cC cJ cG) [.ref h0, .int p0] [(h0, .inr (3, [.ref h1, .ref h2, .ref h3, .ref h4, .int (nI k)])), (h1, .inl (cI, 10, .inl og)), (h4, .inl (cI, 10, .inl ol))] sz 0 0 (fun (r : Int32) (_ : Unit) => r = f_rl og ol p0 k) (fun (_ : Unit) => [(h0, .inr (3, [.ref h1, .ref h2, .ref h3, .ref h4, .int (nI k)])), (h1, .inl (cI, 10, .inl og)), (h4, .inl (cI, 10, .inl ol))]) := by
  unfold kMi
  refine k_ofW (cc := cX3_rollsLacking) (maxL := 4) (ret := (some .int)) (lv := [(0, .ref h0), (1, .int p0)]) (by decide) rfl (Nat.le_of_ble_eq_true rfl) rfl ?_
  intro p e s m args below meth c ls H locs hE hsz hw hl
  obtain ⟨hx, hb, hr, hml, hown, hts, hlocks⟩ := hE
  subst hsz
  have hown : s.vm.findClass RX3 = some m.cls := hown
  have k_f24 : (Cond.fieldLink RX3 24 "PaperMachine$OrderBook" "count" "I").before args s = true := hts _ (by decide +kernel)
  have k_f9 : (Cond.fieldLink RX3 9 "PaperMachine$OrderBook" "grades" "[I").before args s = true := hts _ (by decide +kernel)
  have k_f21 : (Cond.fieldLink RX3 21 "PaperMachine$OrderBook" "lacking" "[I").before args s = true := hts _ (by decide +kernel)
  have i_X3 : ∀ w ∈ u_ws RX3 TX3 5, w ∈ wsX3_rollsLacking := fun _ h => List.mem_cons_of_mem _ (List.mem_append_right _ h)
  refine lv_iconst (v := 0) hx hb dX3_rollsLacking_0 (by decide) ?_
  refine lv_istore_n (lv' := [(2, .int 0), (0, .ref h0), (1, .int p0)]) hx hb dX3_rollsLacking_1 rfl hl (by decide) rfl (fun ls hl => ?_)
  refine lv_iconst (v := 0) hx hb dX3_rollsLacking_2 (by decide) ?_
  refine lv_istore_n (lv' := [(3, .int 0), (2, .int 0), (0, .ref h0), (1, .int p0)]) hx hb dX3_rollsLacking_3 rfl hl (by decide) rfl (fun ls hl => ?_)
  replace hl : lv_has _ 4 [(3, .int (nI 0)), (2, .int 0), (0, .ref h0), (1, .int p0)] := hl
  replace hw : kW D (kty cI cC cJ cG) s (va_A [(h0, .inr (3, [.ref h1, .ref h2, .ref h3, .ref h4, .int (nI k)])), (h1, .inl (cI, 10, .inl og)), (h4, .inl (cI, 10, .inl ol))] s.heap.size) [(h0, .inr (3, [.ref h1, .ref h2, .ref h3, .ref h4, .int (nI k)])), (h1, .inl (cI, 10, .inl og)), (h4, .inl (cI, 10, .inl ol))] H locs := hw
  revert hl; revert hw; revert ls; revert locs; revert H
  refine k_loop (fun ((i, x) : (Nat) × (Int32)) => i ≤ k ∧ x = f_rl og ol p0 i) (fun ((i, x) : (Nat) × (Int32)) => k - i) (fun ((i, x) : (Nat) × (Int32)) => [(h0, .inr (3, [.ref h1, .ref h2, .ref h3, .ref h4, .int (nI k)])), (h1, .inl (cI, 10, .inl og)), (h4, .inl (cI, 10, .inl ol))]) (fun ((i, x) : (Nat) × (Int32)) => [(3, .int (nI i)), (2, .int x), (0, .ref h0), (1, .int p0)]) (0, 0) (show (0 : Nat) ≤ k ∧ (0 : Int32) = f_rl og ol p0 (0 : Nat) from ⟨Nat.zero_le _, rfl⟩) ?_
  intro ⟨i, x⟩ hI ih4 H locs ls hw hl
  replace hI : i ≤ k ∧ x = f_rl og ol p0 i := hI
  replace hw : kW D (kty cI cC cJ cG) s (va_A [(h0, .inr (3, [.ref h1, .ref h2, .ref h3, .ref h4, .int (nI k)])), (h1, .inl (cI, 10, .inl og)), (h4, .inl (cI, 10, .inl ol))] s.heap.size) [(h0, .inr (3, [.ref h1, .ref h2, .ref h3, .ref h4, .int (nI k)])), (h1, .inl (cI, 10, .inl og)), (h4, .inl (cI, 10, .inl ol))] H locs := hw
  replace hl : lv_has ls 4 [(3, .int (nI i)), (2, .int x), (0, .ref h0), (1, .int p0)] := hl
  refine lv_iload_n hx hb dX3_rollsLacking_4 rfl (lv_at hl 0 rfl) ?_
  refine lv_aload_n hx hb dX3_rollsLacking_5 rfl (lv_at hl 2 rfl) ?_
  refine k_get hx hb hts i_X3 hown hw 0 4 rfl rfl (by decide) k_f24 rfl dX3_rollsLacking_6 ?_
  refine lv_icmp_ge (tgt := 37) hx hb dX3_rollsLacking_9 (by decide) (fun c9 => ?_) (fun c9 => ?_)
  · have hi : k ≤ i := k_le c9 (by omega) (by omega)
    refine lv_iload_n hx hb dX3_rollsLacking_37 rfl (lv_at hl 1 rfl) ?_
    exact k_iret () hx hb hr hlocks hw (show x = f_rl og ol p0 k from by rw [hI.2, show i = k by omega]) dX3_rollsLacking_38
  · have hi : i < k := k_lt c9 (by omega) (by omega)
    refine lv_aload_n hx hb dX3_rollsLacking_12 rfl (lv_at hl 2 rfl) ?_
    refine k_get hx hb hts i_X3 hown hw 0 0 rfl rfl (by decide) k_f9 rfl dX3_rollsLacking_13 ?_
    refine lv_iload_n hx hb dX3_rollsLacking_16 rfl (lv_at hl 0 rfl) ?_
    refine k_iald hx hb hw 1 0 rfl rfl i rfl (by omega) (Nat.le_of_ble_eq_true rfl) dX3_rollsLacking_17 ?_
    refine lv_iload_n hx hb dX3_rollsLacking_18 rfl (lv_at hl 3 rfl) ?_
    refine lv_icmp_ne (tgt := 31) hx hb dX3_rollsLacking_19 (by decide) (fun c19 => ?_) (fun c19 => ?_)
    · refine lv_iinc (v := nI (i + 1)) (lv' := [(3, .int (nI (i + 1))), (2, .int x), (0, .ref h0), (1, .int p0)]) hx hb dX3_rollsLacking_31 hl (k := 0) rfl (nI_1 i) (by decide) rfl (fun ls hl => ?_)
      refine lv_goto (tgt := 4) hx hb dX3_rollsLacking_34 (by decide) ?_
      exact ih4 ((i + 1), x) _ _ _ (show (i + 1) ≤ k ∧ x = f_rl og ol p0 (i + 1) from ⟨by omega, by rw [f_rl, if_neg c19]; exact hI.2⟩) (show k - (i + 1) < k - i from by omega) hw (lv_sub hl [0, 1, 2, 3] rfl)
    · refine lv_iload_n hx hb dX3_rollsLacking_22 rfl (lv_at hl 1 rfl) ?_
      refine lv_aload_n hx hb dX3_rollsLacking_23 rfl (lv_at hl 2 rfl) ?_
      refine k_get hx hb hts i_X3 hown hw 0 3 rfl rfl (by decide) k_f21 rfl dX3_rollsLacking_24 ?_
      refine lv_iload_n hx hb dX3_rollsLacking_27 rfl (lv_at hl 0 rfl) ?_
      refine k_iald hx hb hw 2 0 rfl rfl i rfl (by omega) (Nat.le_of_ble_eq_true rfl) dX3_rollsLacking_28 ?_
      refine lv_iadd hx hb dX3_rollsLacking_29 ?_
      refine lv_istore_n (lv' := [(2, .int (x + (ol i))), (3, .int (nI i)), (0, .ref h0), (1, .int p0)]) hx hb dX3_rollsLacking_30 rfl hl (by decide) rfl (fun ls hl => ?_)
      refine lv_iinc (v := nI (i + 1)) (lv' := [(3, .int (nI (i + 1))), (2, .int (x + (ol i))), (0, .ref h0), (1, .int p0)]) hx hb dX3_rollsLacking_31 hl (k := 1) rfl (nI_1 i) (by decide) rfl (fun ls hl => ?_)
      refine lv_goto (tgt := 4) hx hb dX3_rollsLacking_34 (by decide) ?_
      exact ih4 ((i + 1), x + (ol i)) _ _ _ (show (i + 1) ≤ k ∧ (x + (ol i)) = f_rl og ol p0 (i + 1) from ⟨by omega, by rw [f_rl, if_pos c19, hI.2]⟩) (show k - (i + 1) < k - i from by omega) hw (lv_sub hl [0, 1, 2, 3] rfl)


set_option maxRecDepth 100000 in
set_option maxHeartbeats 4000000 in
/-- X3_takeOff -/
theorem c_X3_takeOff (l : Launch) (D : va_G) (cI cC cJ cG : ClassId) (h0 h3 h4 a1 : Nat) (sz : Nat) (h1 h2 k : Nat) (ok ol ro : Nat → Int32) (hk : k ≤ 10) : kMi l yX3_takeOff wsX3_takeOff ({ frames := 0, cells := 0, slots := 0, locals := 0 }) D (kty cI cC cJ cG) [.ref h0, .ref a1] [(h0, .inr (3, [.ref h1, .ref h2, .ref h3, .ref h4, .int (nI k)])), (h3, .inl (cI, 10, .inl ok)), (h4, .inl (cI, 10, .inl ol)), (a1, .inl (cI, 10, .inl ro))] sz 0 0 (fun (r : Int32) (_ : Unit) => r = f_sum ro k) (fun (_ : Unit) => [(h0, .inr (3, [.ref h1, .ref h2, .ref h3, .ref h4, .int (nI k)])), (h3, .inl (cI, 10, .inl (f_addN ok ro k))), (h4, .inl (cI, 10, .inl (f_subN ol ro k))), (a1, .inl (cI, 10, .inl ro))]) := by
  unfold kMi
  refine k_ofW (cc := cX3_takeOff) (maxL := 4) (ret := (some .int)) (lv := [(0, .ref h0), (1, .ref a1)]) (by decide) rfl (Nat.le_of_ble_eq_true rfl) rfl ?_
  intro p e s m args below meth c ls H locs hE hsz hw hl
  obtain ⟨hx, hb, hr, hml, hown, hts, hlocks⟩ := hE
  subst hsz
  have hown : s.vm.findClass RX3 = some m.cls := hown
  have k_f24 : (Cond.fieldLink RX3 24 "PaperMachine$OrderBook" "count" "I").before args s = true := hts _ (by decide +kernel)
  have k_f18 : (Cond.fieldLink RX3 18 "PaperMachine$OrderBook" "rollsCut" "[I").before args s = true := hts _ (by decide +kernel)
  have k_f21 : (Cond.fieldLink RX3 21 "PaperMachine$OrderBook" "lacking" "[I").before args s = true := hts _ (by decide +kernel)
  have i_X3 : ∀ w ∈ u_ws RX3 TX3 5, w ∈ wsX3_takeOff := fun _ h => List.mem_cons_of_mem _ (List.mem_append_right _ h)
  refine lv_iconst (v := 0) hx hb dX3_takeOff_0 (by decide) ?_
  refine lv_istore_n (lv' := [(2, .int 0), (0, .ref h0), (1, .ref a1)]) hx hb dX3_takeOff_1 rfl hl (by decide) rfl (fun ls hl => ?_)
  refine lv_iconst (v := 0) hx hb dX3_takeOff_2 (by decide) ?_
  refine lv_istore_n (lv' := [(3, .int 0), (2, .int 0), (0, .ref h0), (1, .ref a1)]) hx hb dX3_takeOff_3 rfl hl (by decide) rfl (fun ls hl => ?_)
  replace hl : lv_has _ 4 [(3, .int (nI 0)), (2, .int 0), (0, .ref h0), (1, .ref a1)] := hl
  replace hw : kW D (kty cI cC cJ cG) s (va_A [(h0, .inr (3, [.ref h1, .ref h2, .ref h3, .ref h4, .int (nI k)])), (h3, .inl (cI, 10, .inl ok)), (h4, .inl (cI, 10, .inl ol)), (a1, .inl (cI, 10, .inl ro))] s.heap.size) [(h0, .inr (3, [.ref h1, .ref h2, .ref h3, .ref h4, .int (nI k)])), (h3, .inl (cI, 10, .inl ok)), (h4, .inl (cI, 10, .inl ol)), (a1, .inl (cI, 10, .inl ro))] H locs := hw
  revert hl; revert hw; revert ls; revert locs; revert H
  refine k_loop (fun ((i, x, ok1, ol1) : (Nat) × (Int32) × (Nat → Int32) × (Nat → Int32)) => i ≤ k ∧ x = f_sum ro i ∧ ok1 = f_addN ok ro i ∧ ol1 = f_subN ol ro i) (fun ((i, x, ok1, ol1) : (Nat) × (Int32) × (Nat → Int32) × (Nat → Int32)) => k - i) (fun ((i, x, ok1, ol1) : (Nat) × (Int32) × (Nat → Int32) × (Nat → Int32)) => [(h0, .inr (3, [.ref h1, .ref h2, .ref h3, .ref h4, .int (nI k)])), (h3, .inl (cI, 10, .inl ok1)), (h4, .inl (cI, 10, .inl ol1)), (a1, .inl (cI, 10, .inl ro))]) (fun ((i, x, ok1, ol1) : (Nat) × (Int32) × (Nat → Int32) × (Nat → Int32)) => [(3, .int (nI i)), (2, .int x), (0, .ref h0), (1, .ref a1)]) (0, 0, ok, ol) (show (0 : Nat) ≤ k ∧ (0 : Int32) = f_sum ro (0 : Nat) ∧ ok = f_addN ok ro (0 : Nat) ∧ ol = f_subN ol ro (0 : Nat) from ⟨Nat.zero_le _, rfl, (f_addN_0 _ _).symm, (f_subN_0 _ _).symm⟩) ?_
  intro ⟨i, x, ok1, ol1⟩ hI ih4 H locs ls hw hl
  replace hI : i ≤ k ∧ x = f_sum ro i ∧ ok1 = f_addN ok ro i ∧ ol1 = f_subN ol ro i := hI
  replace hw : kW D (kty cI cC cJ cG) s (va_A [(h0, .inr (3, [.ref h1, .ref h2, .ref h3, .ref h4, .int (nI k)])), (h3, .inl (cI, 10, .inl ok)), (h4, .inl (cI, 10, .inl ol)), (a1, .inl (cI, 10, .inl ro))] s.heap.size) [(h0, .inr (3, [.ref h1, .ref h2, .ref h3, .ref h4, .int (nI k)])), (h3, .inl (cI, 10, .inl ok1)), (h4, .inl (cI, 10, .inl ol1)), (a1, .inl (cI, 10, .inl ro))] H locs := hw
  replace hl : lv_has ls 4 [(3, .int (nI i)), (2, .int x), (0, .ref h0), (1, .ref a1)] := hl
  refine lv_iload_n hx hb dX3_takeOff_4 rfl (lv_at hl 0 rfl) ?_
  refine lv_aload_n hx hb dX3_takeOff_5 rfl (lv_at hl 2 rfl) ?_
  refine k_get hx hb hts i_X3 hown hw 0 4 rfl rfl (by decide) k_f24 rfl dX3_takeOff_6 ?_
  refine lv_icmp_ge (tgt := 54) hx hb dX3_takeOff_9 (by decide) (fun c9 => ?_) (fun c9 => ?_)
  · have hi : k ≤ i := k_le c9 (by omega) (by omega)
    obtain ⟨hI1, rfl, rfl, rfl⟩ := hI
    obtain rfl : i = k := by omega
    refine lv_iload_n hx hb dX3_takeOff_54 rfl (lv_at hl 1 rfl) ?_
    exact k_iret () hx hb hr hlocks hw rfl dX3_takeOff_55
  · have hi : i < k := k_lt c9 (by omega) (by omega)
    refine lv_iload_n hx hb dX3_takeOff_12 rfl (lv_at hl 0 rfl) ?_
    refine lv_aload_n hx hb dX3_takeOff_13 rfl (lv_at hl 3 rfl) ?_
    refine va_alen (v := 10) hx hb hw.2.2.2.1 hw.1 3 0 rfl rfl rfl dX3_takeOff_14 ?_
    refine lv_icmp_ge (tgt := 54) hx hb dX3_takeOff_15 (by decide) (fun c15 => False.elim (by have := k_le (a := i) (b := 10) c15 (by omega) (by omega); omega)) (fun c15 => ?_)
    refine lv_aload_n hx hb dX3_takeOff_18 rfl (lv_at hl 2 rfl) ?_
    refine k_get hx hb hts i_X3 hown hw 0 2 rfl rfl (by decide) k_f18 rfl dX3_takeOff_19 ?_
    refine lv_iload_n hx hb dX3_takeOff_22 rfl (lv_at hl 0 rfl) ?_
    refine lv_dup2_11 hx hb dX3_takeOff_23 rfl rfl ?_
    refine k_iald hx hb hw 1 0 rfl rfl i rfl (by omega) (Nat.le_of_ble_eq_true rfl) dX3_takeOff_24 ?_
    refine lv_aload_n hx hb dX3_takeOff_25 rfl (lv_at hl 3 rfl) ?_
    refine lv_iload_n hx hb dX3_takeOff_26 rfl (lv_at hl 0 rfl) ?_
    refine k_iald hx hb hw 3 0 rfl rfl i rfl (by omega) (Nat.le_of_ble_eq_true rfl) dX3_takeOff_27 ?_
    refine lv_iadd hx hb dX3_takeOff_28 ?_
    refine k_iast (ws' := [(h0, .inr (3, [.ref h1, .ref h2, .ref h3, .ref h4, .int (nI k)])), (h3, .inl (cI, 10, .inl (upd ok1 i ((ok1 i) + (ro i))))), (h4, .inl (cI, 10, .inl ol1)), (a1, .inl (cI, 10, .inl ro))]) hx hb hw 1 0 rfl rfl i rfl (by omega) (Nat.le_of_ble_eq_true rfl) rfl dX3_takeOff_29 (fun H locs hw => ?_)
    refine lv_aload_n hx hb dX3_takeOff_30 rfl (lv_at hl 2 rfl) ?_
    refine k_get hx hb hts i_X3 hown hw 0 3 rfl rfl (by decide) k_f21 rfl dX3_takeOff_31 ?_
    refine lv_iload_n hx hb dX3_takeOff_34 rfl (lv_at hl 0 rfl) ?_
    refine lv_dup2_11 hx hb dX3_takeOff_35 rfl rfl ?_
    refine k_iald hx hb hw 2 0 rfl rfl i rfl (by omega) (Nat.le_of_ble_eq_true rfl) dX3_takeOff_36 ?_
    refine lv_aload_n hx hb dX3_takeOff_37 rfl (lv_at hl 3 rfl) ?_
    refine lv_iload_n hx hb dX3_takeOff_38 rfl (lv_at hl 0 rfl) ?_
    refine k_iald hx hb hw 3 0 rfl rfl i rfl (by omega) (Nat.le_of_ble_eq_true rfl) dX3_takeOff_39 ?_
    refine lv_isub hx hb dX3_takeOff_40 ?_
    refine k_iast (ws' := [(h0, .inr (3, [.ref h1, .ref h2, .ref h3, .ref h4, .int (nI k)])), (h3, .inl (cI, 10, .inl (upd ok1 i ((ok1 i) + (ro i))))), (h4, .inl (cI, 10, .inl (upd ol1 i ((ol1 i) - (ro i))))), (a1, .inl (cI, 10, .inl ro))]) hx hb hw 2 0 rfl rfl i rfl (by omega) (Nat.le_of_ble_eq_true rfl) rfl dX3_takeOff_41 (fun H locs hw => ?_)
    refine lv_iload_n hx hb dX3_takeOff_42 rfl (lv_at hl 1 rfl) ?_
    refine lv_aload_n hx hb dX3_takeOff_43 rfl (lv_at hl 3 rfl) ?_
    refine lv_iload_n hx hb dX3_takeOff_44 rfl (lv_at hl 0 rfl) ?_
    refine k_iald hx hb hw 3 0 rfl rfl i rfl (by omega) (Nat.le_of_ble_eq_true rfl) dX3_takeOff_45 ?_
    refine lv_iadd hx hb dX3_takeOff_46 ?_
    refine lv_istore_n (lv' := [(2, .int (x + (ro i))), (3, .int (nI i)), (0, .ref h0), (1, .ref a1)]) hx hb dX3_takeOff_47 rfl hl (by decide) rfl (fun ls hl => ?_)
    refine lv_iinc (v := nI (i + 1)) (lv' := [(3, .int (nI (i + 1))), (2, .int (x + (ro i))), (0, .ref h0), (1, .ref a1)]) hx hb dX3_takeOff_48 hl (k := 1) rfl (nI_1 i) (by decide) rfl (fun ls hl => ?_)
    refine lv_goto (tgt := 4) hx hb dX3_takeOff_51 (by decide) ?_
    exact ih4 ((i + 1), x + (ro i), upd ok1 i ((ok1 i) + (ro i)), upd ol1 i ((ol1 i) - (ro i))) _ _ _ (show (i + 1) ≤ k ∧ (x + (ro i)) = f_sum ro (i + 1) ∧ (upd ok1 i ((ok1 i) + (ro i))) = f_addN ok ro (i + 1) ∧ (upd ol1 i ((ol1 i) - (ro i))) = f_subN ol ro (i + 1) from ⟨by omega, by rw [f_sum, hI.2.1], by rw [hI.2.2.1, f_addN_i]; exact f_addN_s _ _ _, by rw [hI.2.2.2, f_subN_i]; exact f_subN_s _ _ _⟩) (show k - (i + 1) < k - i from by omega) hw (lv_sub hl [0, 1, 2, 3] rfl)

set_option maxRecDepth 100000 in
set_option maxHeartbeats 4000000 in
/-- X0_cost -/
theorem c_X0_cost (l : Launch) (D : va_G) (cI cC cJ cG : ClassId) (h0 : Nat) (sz : Nat) (li fp sp p0 : Int32) : kMl l yX0_cost wsX0_cost ({ frames := 1, cells := 0, slots := 0, locals := 13 }) D (kty cI cC cJ cG) [.ref h0, .int p0] [(h0, .inr (0, [.int li, .int fp, .int sp]))] sz 0 0 (fun (r : Int64) (_ : Unit) => r = f_cost li fp sp p0) (fun (_ : Unit) => [(h0, .inr (0, [.int li, .int fp, .int sp]))]) := by
  unfold kMl
  refine k_ofW (cc := cX0_cost) (maxL := 3) (ret := (some .long)) (lv := [(0, .ref h0), (1, .int p0)]) (by decide) rfl (Nat.le_of_ble_eq_true rfl) rfl ?_
  intro p e s m args below meth c ls H locs hE hsz hw hl
  obtain ⟨hx, hb, hr, hml, hown, hts, hlocks⟩ := hE
  subst hsz
  have hown : s.vm.findClass RX0 = some m.cls := hown
  have k_f7 : (Cond.fieldLink RX0 7 "PaperMachine$Contract" "limit" "I").before args s = true := hts _ (by decide +kernel)
  have k_m19 : (Cond.methodLink RX0 19 Lib.Math.min.name).before args s = true := hts _ (by decide +kernel)
  have k_s_min : (Cond.static Lib.Math.min.name).before args s = true := hts _ (by decide +kernel)
  have k_imath : (Cond.initialized "java/lang/Math").before args s = true := hts _ (by decide +kernel)
  have k_c_min : (Cond.code Lib.Math.min.name Lib.Math.min.code 2 (some .int)).before args s = true := hts _ (by decide +kernel)
  have k_f13 : (Cond.fieldLink RX0 13 "PaperMachine$Contract" "firstPrice" "I").before args s = true := hts _ (by decide +kernel)
  have k_f16 : (Cond.fieldLink RX0 16 "PaperMachine$Contract" "secondPrice" "I").before args s = true := hts _ (by decide +kernel)
  have i_X0 : ∀ w ∈ u_ws RX0 TX0 3, w ∈ wsX0_cost := fun _ h => List.mem_cons_of_mem _ (List.mem_append_right _ h)
  refine lv_iload_n hx hb dX0_cost_0 rfl (lv_at hl 1 rfl) ?_
  refine lv_aload_n hx hb dX0_cost_1 rfl (lv_at hl 0 rfl) ?_
  refine k_get hx hb hts i_X0 hown hw 0 0 rfl rfl (by decide) k_f7 rfl dX0_cost_2 ?_
  refine va_mmin hx hb (hml.trans hl.1.symm) hown k_m19 k_s_min k_imath k_c_min (Nat.le_of_ble_eq_true rfl) (Nat.le_of_ble_eq_true rfl) (Nat.le_of_ble_eq_true rfl) (Nat.le_of_ble_eq_true rfl) dX0_cost_5 ?_
  refine lv_istore_n (lv' := [(2, .int (if li < p0 then li else p0)), (0, .ref h0), (1, .int p0)]) hx hb dX0_cost_8 rfl hl (by decide) rfl (fun ls hl => ?_)
  refine lv_iload_n hx hb dX0_cost_9 rfl (lv_at hl 0 rfl) ?_
  refine lv_i2l (v := Int32.toInt64 (if li < p0 then li else p0)) hx hb dX0_cost_10 rfl ?_
  refine lv_aload_n hx hb dX0_cost_11 rfl (lv_at hl 1 rfl) ?_
  refine k_get hx hb hts i_X0 hown hw 0 1 rfl rfl (by decide) k_f13 rfl dX0_cost_12 ?_
  refine lv_i2l (v := Int32.toInt64 fp) hx hb dX0_cost_15 rfl ?_
  refine lv_lmul hx hb dX0_cost_16 ?_
  refine lv_iload_n hx hb dX0_cost_17 rfl (lv_at hl 2 rfl) ?_
  refine lv_iload_n hx hb dX0_cost_18 rfl (lv_at hl 0 rfl) ?_
  refine lv_isub hx hb dX0_cost_19 ?_
  refine lv_i2l (v := Int32.toInt64 (p0 - (if li < p0 then li else p0))) hx hb dX0_cost_20 rfl ?_
  refine lv_aload_n hx hb dX0_cost_21 rfl (lv_at hl 1 rfl) ?_
  refine k_get hx hb hts i_X0 hown hw 0 2 rfl rfl (by decide) k_f16 rfl dX0_cost_22 ?_
  refine lv_i2l (v := Int32.toInt64 sp) hx hb dX0_cost_25 rfl ?_
  refine lv_lmul hx hb dX0_cost_26 ?_
  refine lv_ladd hx hb dX0_cost_27 ?_
  exact k_lret () hx hb hr hlocks hw rfl dX0_cost_28

set_option maxRecDepth 100000 in
set_option maxHeartbeats 4000000 in
/-- X2_has -/
theorem c_X2_has (l : Launch) (D : va_G) (cI cC cJ cG : ClassId) (h0 : Nat) (sz : Nat) (h1 h2 h3 h4 : Nat) (n : Int32) (fr pa lo ma ts : Int64) (ph : Int32) (p0 : Int32) : kMi l yX2_has wsX2_has ({ frames := 0, cells := 0, slots := 0, locals := 0 }) D (kty cI cC cJ cG) [.ref h0, .int p0] [(h0, .inr (2, [.ref h1, .ref h2, .ref h3, .ref h4, .int n, .long fr, .long pa, .long lo, .long ma, .long ts, .int ph]))] sz 0 0 (fun (r : Int32) (_ : Unit) => r = if 0 ≤ p0 ∧ p0 < n then 1 else 0) (fun (_ : Unit) => [(h0, .inr (2, [.ref h1, .ref h2, .ref h3, .ref h4, .int n, .long fr, .long pa, .long lo, .long ma, .long ts, .int ph]))]) := by
  unfold kMi
  refine k_ofW (cc := cX2_has) (maxL := 2) (ret := (some .boolean)) (lv := [(0, .ref h0), (1, .int p0)]) (by decide) rfl (Nat.le_of_ble_eq_true rfl) rfl ?_
  intro p e s m args below meth c ls H locs hE hsz hw hl
  obtain ⟨hx, hb, hr, hml, hown, hts, hlocks⟩ := hE
  subst hsz
  have hown : s.vm.findClass RX2 = some m.cls := hown
  have k_f25 : (Cond.fieldLink RX2 25 "PaperMachine$HourBook" "count" "I").before args s = true := hts _ (by decide +kernel)
  have i_X2 : ∀ w ∈ u_ws RX2 TX2 11, w ∈ wsX2_has := fun _ h => List.mem_cons_of_mem _ (List.mem_append_right _ h)
  refine lv_iload_n hx hb dX2_has_0 rfl (lv_at hl 1 rfl) ?_
  refine lv_if_lt (tgt := 16) hx hb dX2_has_1 (by decide) (fun c1 => ?_) (fun c1 => ?_)
  · refine lv_iconst (v := 0) hx hb dX2_has_16 (by decide) ?_
    exact k_zret () hx hb hr rfl hlocks hw (show (0 : Int32) = if 0 ≤ p0 ∧ p0 < n then 1 else 0 from by rw [if_neg (fun h => absurd h.1 (Int32.not_le.mpr c1))]) dX2_has_17
  · refine lv_iload_n hx hb dX2_has_4 rfl (lv_at hl 1 rfl) ?_
    refine lv_aload_n hx hb dX2_has_5 rfl (lv_at hl 0 rfl) ?_
    refine k_get hx hb hts i_X2 hown hw 0 4 rfl rfl (by decide) k_f25 rfl dX2_has_6 ?_
    refine lv_icmp_ge (tgt := 16) hx hb dX2_has_9 (by decide) (fun c9 => ?_) (fun c9 => ?_)
    · refine lv_iconst (v := 0) hx hb dX2_has_16 (by decide) ?_
      exact k_zret () hx hb hr rfl hlocks hw (show (0 : Int32) = if 0 ≤ p0 ∧ p0 < n then 1 else 0 from by rw [if_neg (fun h => absurd h.2 (Int32.not_lt.mpr c9))]) dX2_has_17
    · refine lv_iconst (v := 1) hx hb dX2_has_12 (by decide) ?_
      refine lv_goto (tgt := 17) hx hb dX2_has_13 (by decide) ?_
      exact k_zret () hx hb hr rfl hlocks hw (show (1 : Int32) = if 0 ≤ p0 ∧ p0 < n then 1 else 0 from by rw [if_pos ⟨Int32.not_lt.mp c1, Int32.not_le.mp c9⟩]) dX2_has_17

set_option maxRecDepth 100000 in
set_option maxHeartbeats 4000000 in
/-- X2_writeMade -/
theorem c_X2_writeMade (l : Launch) (D : va_G) (cI cC cJ cG : ClassId) (h0 h1 h2 h3 h4 : Nat) (sz : Nat) (k : Nat) (fr pa lo ma ts : Int64) (ph : Int32) (kd fi po lt : Nat → Int32) (p0 p1 p2 p3 : Int32) (hk : k < 400) (hc : vp_nar .char p0 = p0) : kMv l yX2_writeMade wsX2_writeMade ({ frames := 0, cells := 0, slots := 0, locals := 0 }) D (kty cI cC cJ cG) [.ref h0, .int p0, .int p1, .int p2, .int p3] [(h0, .inr (2, [.ref h1, .ref h2, .ref h3, .ref h4, .int (nI k), .long fr, .long pa, .long lo, .long ma, .long ts, .int ph])), (h1, .inl (cC, 400, .inl kd)), (h2, .inl (cI, 400, .inl fi)), (h3, .inl (cI, 400, .inl po)), (h4, .inl (cI, 400, .inl lt))] sz 0 0 (fun (_ : Unit) => True) (fun (_ : Unit) => [(h0, .inr (2, [.ref h1, .ref h2, .ref h3, .ref h4, .int (nI (k + 1)), .long (fr + Int32.toInt64 p1), .long (pa + Int32.toInt64 p2), .long (lo + Int32.toInt64 p3), .long ma, .long ts, .int ph])), (h1, .inl (cC, 400, .inl (upd kd k p0))), (h2, .inl (cI, 400, .inl (upd fi k p1))), (h3, .inl (cI, 400, .inl (upd po k p2))), (h4, .inl (cI, 400, .inl (upd lt k p3)))]) := by
  unfold kMv
  refine k_ofW (cc := cX2_writeMade) (maxL := 5) (ret := none) (lv := [(0, .ref h0), (1, .int p0), (2, .int p1), (3, .int p2), (4, .int p3)]) (by decide) rfl (Nat.le_of_ble_eq_true rfl) rfl ?_
  intro p e s m args below meth c ls H locs hE hsz hw hl
  obtain ⟨hx, hb, hr, hml, hown, hts, hlocks⟩ := hE
  subst hsz
  have hown : s.vm.findClass RX2 = some m.cls := hown
  have k_f25 : (Cond.fieldLink RX2 25 "PaperMachine$HourBook" "count" "I").before args s = true := hts _ (by decide +kernel)
  have k_f9 : (Cond.fieldLink RX2 9 "PaperMachine$HourBook" "kinds" "[C").before args s = true := hts _ (by decide +kernel)
  have k_f15 : (Cond.fieldLink RX2 15 "PaperMachine$HourBook" "freshIn" "[I").before args s = true := hts _ (by decide +kernel)
  have k_f19 : (Cond.fieldLink RX2 19 "PaperMachine$HourBook" "paperOut" "[I").before args s = true := hts _ (by decide +kernel)
  have k_f22 : (Cond.fieldLink RX2 22 "PaperMachine$HourBook" "lossOut" "[I").before args s = true := hts _ (by decide +kernel)
  have k_f33 : (Cond.fieldLink RX2 33 "PaperMachine$HourBook" "freshSum" "J").before args s = true := hts _ (by decide +kernel)
  have k_f37 : (Cond.fieldLink RX2 37 "PaperMachine$HourBook" "paperSum" "J").before args s = true := hts _ (by decide +kernel)
  have k_f40 : (Cond.fieldLink RX2 40 "PaperMachine$HourBook" "lossSum" "J").before args s = true := hts _ (by decide +kernel)
  have i_X2 : ∀ w ∈ u_ws RX2 TX2 11, w ∈ wsX2_writeMade := fun _ h => List.mem_cons_of_mem _ (List.mem_append_right _ h)
  refine lv_aload_n hx hb dX2_writeMade_0 rfl (lv_at hl 0 rfl) ?_
  refine k_get hx hb hts i_X2 hown hw 0 4 rfl rfl (by decide) k_f25 rfl dX2_writeMade_1 ?_
  refine lv_if_lt (tgt := 17) hx hb dX2_writeMade_4 (by decide) (fun c4 => False.elim (absurd c4 (Int32.not_lt.mpr (nI_pos' (by omega))))) (fun c4 => ?_)
  refine lv_aload_n hx hb dX2_writeMade_7 rfl (lv_at hl 0 rfl) ?_
  refine k_get hx hb hts i_X2 hown hw 0 4 rfl rfl (by decide) k_f25 rfl dX2_writeMade_8 ?_
  refine lv_sipush (v := 400) hx hb dX2_writeMade_11 (by decide) ?_
  refine lv_icmp_lt (tgt := 18) hx hb dX2_writeMade_14 (by decide) (fun c14 => ?_) (fun c14 => False.elim (c14 ((nI_ltI (b := 400) (by omega) (by omega)).mpr hk)))
  refine lv_aload_n hx hb dX2_writeMade_18 rfl (lv_at hl 0 rfl) ?_
  refine k_get hx hb hts i_X2 hown hw 0 0 rfl rfl (by decide) k_f9 rfl dX2_writeMade_19 ?_
  refine lv_aload_n hx hb dX2_writeMade_22 rfl (lv_at hl 0 rfl) ?_
  refine k_get hx hb hts i_X2 hown hw 0 4 rfl rfl (by decide) k_f25 rfl dX2_writeMade_23 ?_
  refine lv_iload_n hx hb dX2_writeMade_26 rfl (lv_at hl 1 rfl) ?_
  refine k_cast (ws' := [(h0, .inr (2, [.ref h1, .ref h2, .ref h3, .ref h4, .int (nI k), .long fr, .long pa, .long lo, .long ma, .long ts, .int ph])), (h1, .inl (cC, 400, .inl (upd kd k p0))), (h2, .inl (cI, 400, .inl fi)), (h3, .inl (cI, 400, .inl po)), (h4, .inl (cI, 400, .inl lt))]) hx hb hw 1 1 rfl rfl k rfl (by omega) (Nat.le_of_ble_eq_true rfl) hc rfl dX2_writeMade_27 (fun H locs hw => ?_)
  refine lv_aload_n hx hb dX2_writeMade_28 rfl (lv_at hl 0 rfl) ?_
  refine k_get hx hb hts i_X2 hown hw 0 1 rfl rfl (by decide) k_f15 rfl dX2_writeMade_29 ?_
  refine lv_aload_n hx hb dX2_writeMade_32 rfl (lv_at hl 0 rfl) ?_
  refine k_get hx hb hts i_X2 hown hw 0 4 rfl rfl (by decide) k_f25 rfl dX2_writeMade_33 ?_
  refine lv_iload_n hx hb dX2_writeMade_36 rfl (lv_at hl 2 rfl) ?_
  refine k_iast (ws' := [(h0, .inr (2, [.ref h1, .ref h2, .ref h3, .ref h4, .int (nI k), .long fr, .long pa, .long lo, .long ma, .long ts, .int ph])), (h1, .inl (cC, 400, .inl (upd kd k p0))), (h2, .inl (cI, 400, .inl (upd fi k p1))), (h3, .inl (cI, 400, .inl po)), (h4, .inl (cI, 400, .inl lt))]) hx hb hw 2 0 rfl rfl k rfl (by omega) (Nat.le_of_ble_eq_true rfl) rfl dX2_writeMade_37 (fun H locs hw => ?_)
  refine lv_aload_n hx hb dX2_writeMade_38 rfl (lv_at hl 0 rfl) ?_
  refine k_get hx hb hts i_X2 hown hw 0 2 rfl rfl (by decide) k_f19 rfl dX2_writeMade_39 ?_
  refine lv_aload_n hx hb dX2_writeMade_42 rfl (lv_at hl 0 rfl) ?_
  refine k_get hx hb hts i_X2 hown hw 0 4 rfl rfl (by decide) k_f25 rfl dX2_writeMade_43 ?_
  refine lv_iload_n hx hb dX2_writeMade_46 rfl (lv_at hl 3 rfl) ?_
  refine k_iast (ws' := [(h0, .inr (2, [.ref h1, .ref h2, .ref h3, .ref h4, .int (nI k), .long fr, .long pa, .long lo, .long ma, .long ts, .int ph])), (h1, .inl (cC, 400, .inl (upd kd k p0))), (h2, .inl (cI, 400, .inl (upd fi k p1))), (h3, .inl (cI, 400, .inl (upd po k p2))), (h4, .inl (cI, 400, .inl lt))]) hx hb hw 3 0 rfl rfl k rfl (by omega) (Nat.le_of_ble_eq_true rfl) rfl dX2_writeMade_47 (fun H locs hw => ?_)
  refine lv_aload_n hx hb dX2_writeMade_48 rfl (lv_at hl 0 rfl) ?_
  refine k_get hx hb hts i_X2 hown hw 0 3 rfl rfl (by decide) k_f22 rfl dX2_writeMade_49 ?_
  refine lv_aload_n hx hb dX2_writeMade_52 rfl (lv_at hl 0 rfl) ?_
  refine k_get hx hb hts i_X2 hown hw 0 4 rfl rfl (by decide) k_f25 rfl dX2_writeMade_53 ?_
  refine lv_iload hx hb dX2_writeMade_56 (lv_at hl 4 rfl) ?_
  refine k_iast (ws' := [(h0, .inr (2, [.ref h1, .ref h2, .ref h3, .ref h4, .int (nI k), .long fr, .long pa, .long lo, .long ma, .long ts, .int ph])), (h1, .inl (cC, 400, .inl (upd kd k p0))), (h2, .inl (cI, 400, .inl (upd fi k p1))), (h3, .inl (cI, 400, .inl (upd po k p2))), (h4, .inl (cI, 400, .inl (upd lt k p3)))]) hx hb hw 4 0 rfl rfl k rfl (by omega) (Nat.le_of_ble_eq_true rfl) rfl dX2_writeMade_58 (fun H locs hw => ?_)
  refine lv_aload_n hx hb dX2_writeMade_59 rfl (lv_at hl 0 rfl) ?_
  refine lv_dup hx hb dX2_writeMade_60 rfl ?_
  refine k_get hx hb hts i_X2 hown hw 0 4 rfl rfl (by decide) k_f25 rfl dX2_writeMade_61 ?_
  refine lv_iconst (v := 1) hx hb dX2_writeMade_64 (by decide) ?_
  refine lv_iadd hx hb dX2_writeMade_65 ?_
  refine k_eqi (nI_1 k) ?_
  refine k_put hx hb hts i_X2 tyX2_ok nmX2 hown hw 0 4 (ws' := [(h0, .inr (2, [.ref h1, .ref h2, .ref h3, .ref h4, .int (nI (k + 1)), .long fr, .long pa, .long lo, .long ma, .long ts, .int ph])), (h1, .inl (cC, 400, .inl (upd kd k p0))), (h2, .inl (cI, 400, .inl (upd fi k p1))), (h3, .inl (cI, 400, .inl (upd po k p2))), (h4, .inl (cI, 400, .inl (upd lt k p3)))]) rfl rfl (by decide) k_f25 rfl rfl rfl (Nat.le_of_ble_eq_true rfl) rfl dX2_writeMade_66 (fun H locs hw => ?_)
  refine lv_aload_n hx hb dX2_writeMade_69 rfl (lv_at hl 0 rfl) ?_
  refine lv_dup hx hb dX2_writeMade_70 rfl ?_
  refine k_get hx hb hts i_X2 hown hw 0 5 rfl rfl (by decide) k_f33 rfl dX2_writeMade_71 ?_
  refine lv_iload_n hx hb dX2_writeMade_74 rfl (lv_at hl 2 rfl) ?_
  refine lv_i2l (v := Int32.toInt64 p1) hx hb dX2_writeMade_75 rfl ?_
  refine lv_ladd hx hb dX2_writeMade_76 ?_
  refine k_put hx hb hts i_X2 tyX2_ok nmX2 hown hw 0 5 (ws' := [(h0, .inr (2, [.ref h1, .ref h2, .ref h3, .ref h4, .int (nI (k + 1)), .long (fr + (Int32.toInt64 p1)), .long pa, .long lo, .long ma, .long ts, .int ph])), (h1, .inl (cC, 400, .inl (upd kd k p0))), (h2, .inl (cI, 400, .inl (upd fi k p1))), (h3, .inl (cI, 400, .inl (upd po k p2))), (h4, .inl (cI, 400, .inl (upd lt k p3)))]) rfl rfl (by decide) k_f33 rfl rfl rfl (Nat.le_of_ble_eq_true rfl) rfl dX2_writeMade_77 (fun H locs hw => ?_)
  refine lv_aload_n hx hb dX2_writeMade_80 rfl (lv_at hl 0 rfl) ?_
  refine lv_dup hx hb dX2_writeMade_81 rfl ?_
  refine k_get hx hb hts i_X2 hown hw 0 6 rfl rfl (by decide) k_f37 rfl dX2_writeMade_82 ?_
  refine lv_iload_n hx hb dX2_writeMade_85 rfl (lv_at hl 3 rfl) ?_
  refine lv_i2l (v := Int32.toInt64 p2) hx hb dX2_writeMade_86 rfl ?_
  refine lv_ladd hx hb dX2_writeMade_87 ?_
  refine k_put hx hb hts i_X2 tyX2_ok nmX2 hown hw 0 6 (ws' := [(h0, .inr (2, [.ref h1, .ref h2, .ref h3, .ref h4, .int (nI (k + 1)), .long (fr + (Int32.toInt64 p1)), .long (pa + (Int32.toInt64 p2)), .long lo, .long ma, .long ts, .int ph])), (h1, .inl (cC, 400, .inl (upd kd k p0))), (h2, .inl (cI, 400, .inl (upd fi k p1))), (h3, .inl (cI, 400, .inl (upd po k p2))), (h4, .inl (cI, 400, .inl (upd lt k p3)))]) rfl rfl (by decide) k_f37 rfl rfl rfl (Nat.le_of_ble_eq_true rfl) rfl dX2_writeMade_88 (fun H locs hw => ?_)
  refine lv_aload_n hx hb dX2_writeMade_91 rfl (lv_at hl 0 rfl) ?_
  refine lv_dup hx hb dX2_writeMade_92 rfl ?_
  refine k_get hx hb hts i_X2 hown hw 0 7 rfl rfl (by decide) k_f40 rfl dX2_writeMade_93 ?_
  refine lv_iload hx hb dX2_writeMade_96 (lv_at hl 4 rfl) ?_
  refine lv_i2l (v := Int32.toInt64 p3) hx hb dX2_writeMade_98 rfl ?_
  refine lv_ladd hx hb dX2_writeMade_99 ?_
  refine k_put hx hb hts i_X2 tyX2_ok nmX2 hown hw 0 7 (ws' := [(h0, .inr (2, [.ref h1, .ref h2, .ref h3, .ref h4, .int (nI (k + 1)), .long (fr + (Int32.toInt64 p1)), .long (pa + (Int32.toInt64 p2)), .long (lo + (Int32.toInt64 p3)), .long ma, .long ts, .int ph])), (h1, .inl (cC, 400, .inl (upd kd k p0))), (h2, .inl (cI, 400, .inl (upd fi k p1))), (h3, .inl (cI, 400, .inl (upd po k p2))), (h4, .inl (cI, 400, .inl (upd lt k p3)))]) rfl rfl (by decide) k_f40 rfl rfl rfl (Nat.le_of_ble_eq_true rfl) rfl dX2_writeMade_100 (fun H locs hw => ?_)
  exact k_vret () hx hb hr hlocks hw trivial dX2_writeMade_103

set_option maxRecDepth 100000 in
set_option maxHeartbeats 4000000 in
/-- X2_writeNothing -/
theorem c_X2_writeNothing (l : Launch) (D : va_G) (cI cC cJ cG : ClassId) (h0 h1 h2 h3 h4 : Nat) (sz : Nat) (k : Nat) (fr pa lo ma ts : Int64) (ph : Int32) (kd fi po lt : Nat → Int32) (hk : k < 400) : kMv l yX2_writeNothing wsX2_writeNothing ({ frames := 1, cells := 0, slots := 0, locals := 24 }) D (kty cI cC cJ cG) [.ref h0] [(h0, .inr (2, [.ref h1, .ref h2, .ref h3, .ref h4, .int (nI k), .long fr, .long pa, .long lo, .long ma, .long ts, .int ph])), (h1, .inl (cC, 400, .inl kd)), (h2, .inl (cI, 400, .inl fi)), (h3, .inl (cI, 400, .inl po)), (h4, .inl (cI, 400, .inl lt))] sz 0 0 (fun (_ : Unit) => True) (fun (_ : Unit) => [(h0, .inr (2, [.ref h1, .ref h2, .ref h3, .ref h4, .int (nI (k + 1)), .long (fr + Int32.toInt64 0), .long (pa + Int32.toInt64 0), .long (lo + Int32.toInt64 0), .long ma, .long ts, .int ph])), (h1, .inl (cC, 400, .inl (upd kd k 110))), (h2, .inl (cI, 400, .inl (upd fi k 0))), (h3, .inl (cI, 400, .inl (upd po k 0))), (h4, .inl (cI, 400, .inl (upd lt k 0)))]) := by
  unfold kMv
  refine k_ofW (cc := cX2_writeNothing) (maxL := 1) (ret := none) (lv := [(0, .ref h0)]) (by decide) rfl (Nat.le_of_ble_eq_true rfl) rfl ?_
  intro p e s m args below meth c ls H locs hE hsz hw hl
  obtain ⟨hx, hb, hr, hml, hown, hts, hlocks⟩ := hE
  subst hsz
  have hown : s.vm.findClass RX2 = some m.cls := hown
  refine lv_aload_n hx hb dX2_writeNothing_0 rfl (lv_at hl 0 rfl) ?_
  refine lv_bipush (v := 110) hx hb dX2_writeNothing_1 (by decide) ?_
  refine lv_iconst (v := 0) hx hb dX2_writeNothing_3 (by decide) ?_
  refine lv_iconst (v := 0) hx hb dX2_writeNothing_4 (by decide) ?_
  refine lv_iconst (v := 0) hx hb dX2_writeNothing_5 (by decide) ?_
  refine k_callv (wr := []) (k_runV (wc := [(h0, .inr (2, [.ref h1, .ref h2, .ref h3, .ref h4, .int (nI k), .long fr, .long pa, .long lo, .long ma, .long ts, .int ph])), (h1, .inl (cC, 400, .inl kd)), (h2, .inl (cI, 400, .inl fi)), (h3, .inl (cI, 400, .inl po)), (h4, .inl (cI, 400, .inl lt))]) (As := [.int 110, .int 0, .int 0, .int 0]) (rest := []) ⟨hx, hb, hml, hown, hts⟩ (c_X2_writeMade l D cI cC cJ cG h0 h1 h2 h3 h4 H.size k fr pa lo ma ts ph kd fi po lt 110 0 0 0 hk rfl) (cwV 4 hts gX2_writeNothing_X2_writeMade rfl rfl rfl (by decide +kernel) ⟨Nat.le_of_ble_eq_true rfl, Nat.le_of_ble_eq_true rfl⟩) hw [0, 1, 2, 3, 4] (by decide) rfl 0 rfl rfl rfl hl.1 rfl (Nat.le_of_ble_eq_true rfl) dX2_writeNothing_6 ⟨Nat.zero_le _, Nat.zero_le _⟩) hw [0, 1, 2, 3, 4] [] rfl rfl (by decide) (by decide) (fun u6 H locs w6 hw => ?_)
  replace hw : kW D (kty cI cC cJ cG) s (va_A [(h0, .inr (2, [.ref h1, .ref h2, .ref h3, .ref h4, .int (nI k), .long fr, .long pa, .long lo, .long ma, .long ts, .int ph])), (h1, .inl (cC, 400, .inl kd)), (h2, .inl (cI, 400, .inl fi)), (h3, .inl (cI, 400, .inl po)), (h4, .inl (cI, 400, .inl lt))] s.heap.size) [(h0, .inr (2, [.ref h1, .ref h2, .ref h3, .ref h4, .int (nI (k + 1)), .long (fr + Int32.toInt64 0), .long (pa + Int32.toInt64 0), .long (lo + Int32.toInt64 0), .long ma, .long ts, .int ph])), (h1, .inl (cC, 400, .inl (upd kd k 110))), (h2, .inl (cI, 400, .inl (upd fi k 0))), (h3, .inl (cI, 400, .inl (upd po k 0))), (h4, .inl (cI, 400, .inl (upd lt k 0)))] H locs := hw
  replace w6 : True := w6
  exact k_vret () hx hb hr hlocks hw trivial dX2_writeNothing_9

set_option maxRecDepth 100000 in
set_option maxHeartbeats 4000000 in
/-- X2_writeTrim -/
theorem c_X2_writeTrim (l : Launch) (D : va_G) (cI cC cJ cG : ClassId) (h0 : Nat) (sz : Nat) (h1 h2 h3 h4 : Nat) (n : Int32) (fr pa lo ma ts : Int64) (ph : Int32) (p0 : Int32) : kMv l yX2_writeTrim wsX2_writeTrim ({ frames := 0, cells := 0, slots := 0, locals := 0 }) D (kty cI cC cJ cG) [.ref h0, .int p0] [(h0, .inr (2, [.ref h1, .ref h2, .ref h3, .ref h4, .int n, .long fr, .long pa, .long lo, .long ma, .long ts, .int ph]))] sz 0 0 (fun (_ : Unit) => True) (fun (_ : Unit) => [(h0, .inr (2, [.ref h1, .ref h2, .ref h3, .ref h4, .int n, .long fr, .long pa, .long lo, .long ma, .long (ts + Int32.toInt64 p0), .int (ph + 1)]))]) := by
  unfold kMv
  refine k_ofW (cc := cX2_writeTrim) (maxL := 2) (ret := none) (lv := [(0, .ref h0), (1, .int p0)]) (by decide) rfl (Nat.le_of_ble_eq_true rfl) rfl ?_
  intro p e s m args below meth c ls H locs hE hsz hw hl
  obtain ⟨hx, hb, hr, hml, hown, hts, hlocks⟩ := hE
  subst hsz
  have hown : s.vm.findClass RX2 = some m.cls := hown
  have k_f43 : (Cond.fieldLink RX2 43 "PaperMachine$HourBook" "trimSum" "J").before args s = true := hts _ (by decide +kernel)
  have k_f46 : (Cond.fieldLink RX2 46 "PaperMachine$HourBook" "paperHours" "I").before args s = true := hts _ (by decide +kernel)
  have i_X2 : ∀ w ∈ u_ws RX2 TX2 11, w ∈ wsX2_writeTrim := fun _ h => List.mem_cons_of_mem _ (List.mem_append_right _ h)
  refine lv_aload_n hx hb dX2_writeTrim_0 rfl (lv_at hl 0 rfl) ?_
  refine lv_dup hx hb dX2_writeTrim_1 rfl ?_
  refine k_get hx hb hts i_X2 hown hw 0 9 rfl rfl (by decide) k_f43 rfl dX2_writeTrim_2 ?_
  refine lv_iload_n hx hb dX2_writeTrim_5 rfl (lv_at hl 1 rfl) ?_
  refine lv_i2l (v := Int32.toInt64 p0) hx hb dX2_writeTrim_6 rfl ?_
  refine lv_ladd hx hb dX2_writeTrim_7 ?_
  refine k_put hx hb hts i_X2 tyX2_ok nmX2 hown hw 0 9 (ws' := [(h0, .inr (2, [.ref h1, .ref h2, .ref h3, .ref h4, .int n, .long fr, .long pa, .long lo, .long ma, .long (ts + (Int32.toInt64 p0)), .int ph]))]) rfl rfl (by decide) k_f43 rfl rfl rfl (Nat.le_of_ble_eq_true rfl) rfl dX2_writeTrim_8 (fun H locs hw => ?_)
  refine lv_aload_n hx hb dX2_writeTrim_11 rfl (lv_at hl 0 rfl) ?_
  refine lv_dup hx hb dX2_writeTrim_12 rfl ?_
  refine k_get hx hb hts i_X2 hown hw 0 10 rfl rfl (by decide) k_f46 rfl dX2_writeTrim_13 ?_
  refine lv_iconst (v := 1) hx hb dX2_writeTrim_16 (by decide) ?_
  refine lv_iadd hx hb dX2_writeTrim_17 ?_
  refine k_put hx hb hts i_X2 tyX2_ok nmX2 hown hw 0 10 (ws' := [(h0, .inr (2, [.ref h1, .ref h2, .ref h3, .ref h4, .int n, .long fr, .long pa, .long lo, .long ma, .long (ts + (Int32.toInt64 p0)), .int (ph + 1)]))]) rfl rfl (by decide) k_f46 rfl rfl rfl (Nat.le_of_ble_eq_true rfl) rfl dX2_writeTrim_18 (fun H locs hw => ?_)
  exact k_vret () hx hb hr hlocks hw trivial dX2_writeTrim_21

set_option maxRecDepth 100000 in
set_option maxHeartbeats 4000000 in
/-- X2_fibreStillThere -/
theorem c_X2_fibreStillThere (l : Launch) (D : va_G) (cI cC cJ cG : ClassId) (h0 h2 h3 h4 : Nat) (sz : Nat) (h1 k : Nat) (fr pa lo ma ts : Int64) (ph : Int32) (fi po lt : Nat → Int32) (hk : k ≤ 400) : kMi l yX2_fibreStillThere wsX2_fibreStillThere ({ frames := 0, cells := 0, slots := 0, locals := 0 }) D (kty cI cC cJ cG) [.ref h0] [(h0, .inr (2, [.ref h1, .ref h2, .ref h3, .ref h4, .int (nI k), .long fr, .long pa, .long lo, .long ma, .long ts, .int ph])), (h2, .inl (cI, 400, .inl fi)), (h3, .inl (cI, 400, .inl po)), (h4, .inl (cI, 400, .inl lt))] sz 0 0 (fun (r : Int32) (_ : Unit) => r = f_fs fi po lt k) (fun (_ : Unit) => [(h0, .inr (2, [.ref h1, .ref h2, .ref h3, .ref h4, .int (nI k), .long fr, .long pa, .long lo, .long ma, .long ts, .int ph])), (h2, .inl (cI, 400, .inl fi)), (h3, .inl (cI, 400, .inl po)), (h4, .inl (cI, 400, .inl lt))]) := by
  unfold kMi
  refine k_ofW (cc := cX2_fibreStillThere) (maxL := 3) (ret := (some .int)) (lv := [(0, .ref h0)]) (by decide) rfl (Nat.le_of_ble_eq_true rfl) rfl ?_
  intro p e s m args below meth c ls H locs hE hsz hw hl
  obtain ⟨hx, hb, hr, hml, hown, hts, hlocks⟩ := hE
  subst hsz
  have hown : s.vm.findClass RX2 = some m.cls := hown
  have k_f25 : (Cond.fieldLink RX2 25 "PaperMachine$HourBook" "count" "I").before args s = true := hts _ (by decide +kernel)
  have k_f15 : (Cond.fieldLink RX2 15 "PaperMachine$HourBook" "freshIn" "[I").before args s = true := hts _ (by decide +kernel)
  have k_f19 : (Cond.fieldLink RX2 19 "PaperMachine$HourBook" "paperOut" "[I").before args s = true := hts _ (by decide +kernel)
  have k_f22 : (Cond.fieldLink RX2 22 "PaperMachine$HourBook" "lossOut" "[I").before args s = true := hts _ (by decide +kernel)
  have i_X2 : ∀ w ∈ u_ws RX2 TX2 11, w ∈ wsX2_fibreStillThere := fun _ h => List.mem_cons_of_mem _ (List.mem_append_right _ h)
  refine lv_iconst (v := 0) hx hb dX2_fibreStillThere_0 (by decide) ?_
  refine lv_istore_n (lv' := [(1, .int 0), (0, .ref h0)]) hx hb dX2_fibreStillThere_1 rfl hl (by decide) rfl (fun ls hl => ?_)
  refine lv_iconst (v := 0) hx hb dX2_fibreStillThere_2 (by decide) ?_
  refine lv_istore_n (lv' := [(2, .int 0), (1, .int 0), (0, .ref h0)]) hx hb dX2_fibreStillThere_3 rfl hl (by decide) rfl (fun ls hl => ?_)
  replace hl : lv_has _ 3 [(2, .int (nI 0)), (1, .int 0), (0, .ref h0)] := hl
  replace hw : kW D (kty cI cC cJ cG) s (va_A [(h0, .inr (2, [.ref h1, .ref h2, .ref h3, .ref h4, .int (nI k), .long fr, .long pa, .long lo, .long ma, .long ts, .int ph])), (h2, .inl (cI, 400, .inl fi)), (h3, .inl (cI, 400, .inl po)), (h4, .inl (cI, 400, .inl lt))] s.heap.size) [(h0, .inr (2, [.ref h1, .ref h2, .ref h3, .ref h4, .int (nI k), .long fr, .long pa, .long lo, .long ma, .long ts, .int ph])), (h2, .inl (cI, 400, .inl fi)), (h3, .inl (cI, 400, .inl po)), (h4, .inl (cI, 400, .inl lt))] H locs := hw
  revert hl; revert hw; revert ls; revert locs; revert H
  refine k_loop (fun ((i, x) : (Nat) × (Int32)) => i ≤ k ∧ x = f_fs fi po lt i) (fun ((i, x) : (Nat) × (Int32)) => k - i) (fun ((i, x) : (Nat) × (Int32)) => [(h0, .inr (2, [.ref h1, .ref h2, .ref h3, .ref h4, .int (nI k), .long fr, .long pa, .long lo, .long ma, .long ts, .int ph])), (h2, .inl (cI, 400, .inl fi)), (h3, .inl (cI, 400, .inl po)), (h4, .inl (cI, 400, .inl lt))]) (fun ((i, x) : (Nat) × (Int32)) => [(2, .int (nI i)), (1, .int x), (0, .ref h0)]) (0, 0) (show (0 : Nat) ≤ k ∧ (0 : Int32) = f_fs fi po lt (0 : Nat) from ⟨Nat.zero_le _, rfl⟩) ?_
  intro ⟨i, x⟩ hI ih4 H locs ls hw hl
  replace hI : i ≤ k ∧ x = f_fs fi po lt i := hI
  replace hw : kW D (kty cI cC cJ cG) s (va_A [(h0, .inr (2, [.ref h1, .ref h2, .ref h3, .ref h4, .int (nI k), .long fr, .long pa, .long lo, .long ma, .long ts, .int ph])), (h2, .inl (cI, 400, .inl fi)), (h3, .inl (cI, 400, .inl po)), (h4, .inl (cI, 400, .inl lt))] s.heap.size) [(h0, .inr (2, [.ref h1, .ref h2, .ref h3, .ref h4, .int (nI k), .long fr, .long pa, .long lo, .long ma, .long ts, .int ph])), (h2, .inl (cI, 400, .inl fi)), (h3, .inl (cI, 400, .inl po)), (h4, .inl (cI, 400, .inl lt))] H locs := hw
  replace hl : lv_has ls 3 [(2, .int (nI i)), (1, .int x), (0, .ref h0)] := hl
  refine lv_iload_n hx hb dX2_fibreStillThere_4 rfl (lv_at hl 0 rfl) ?_
  refine lv_aload_n hx hb dX2_fibreStillThere_5 rfl (lv_at hl 2 rfl) ?_
  refine k_get hx hb hts i_X2 hown hw 0 4 rfl rfl (by decide) k_f25 rfl dX2_fibreStillThere_6 ?_
  refine lv_icmp_ge (tgt := 41) hx hb dX2_fibreStillThere_9 (by decide) (fun c9 => ?_) (fun c9 => ?_)
  · have hi : k ≤ i := k_le c9 (by omega) (by omega)
    refine lv_iload_n hx hb dX2_fibreStillThere_41 rfl (lv_at hl 1 rfl) ?_
    exact k_iret () hx hb hr hlocks hw (show x = f_fs fi po lt k from by rw [hI.2, show i = k by omega]) dX2_fibreStillThere_42
  · have hi : i < k := k_lt c9 (by omega) (by omega)
    refine lv_iload_n hx hb dX2_fibreStillThere_12 rfl (lv_at hl 1 rfl) ?_
    refine lv_aload_n hx hb dX2_fibreStillThere_13 rfl (lv_at hl 2 rfl) ?_
    refine k_get hx hb hts i_X2 hown hw 0 1 rfl rfl (by decide) k_f15 rfl dX2_fibreStillThere_14 ?_
    refine lv_iload_n hx hb dX2_fibreStillThere_17 rfl (lv_at hl 0 rfl) ?_
    refine k_iald hx hb hw 1 0 rfl rfl i rfl (by omega) (Nat.le_of_ble_eq_true rfl) dX2_fibreStillThere_18 ?_
    refine lv_aload_n hx hb dX2_fibreStillThere_19 rfl (lv_at hl 2 rfl) ?_
    refine k_get hx hb hts i_X2 hown hw 0 2 rfl rfl (by decide) k_f19 rfl dX2_fibreStillThere_20 ?_
    refine lv_iload_n hx hb dX2_fibreStillThere_23 rfl (lv_at hl 0 rfl) ?_
    refine k_iald hx hb hw 2 0 rfl rfl i rfl (by omega) (Nat.le_of_ble_eq_true rfl) dX2_fibreStillThere_24 ?_
    refine lv_isub hx hb dX2_fibreStillThere_25 ?_
    refine lv_aload_n hx hb dX2_fibreStillThere_26 rfl (lv_at hl 2 rfl) ?_
    refine k_get hx hb hts i_X2 hown hw 0 3 rfl rfl (by decide) k_f22 rfl dX2_fibreStillThere_27 ?_
    refine lv_iload_n hx hb dX2_fibreStillThere_30 rfl (lv_at hl 0 rfl) ?_
    refine k_iald hx hb hw 3 0 rfl rfl i rfl (by omega) (Nat.le_of_ble_eq_true rfl) dX2_fibreStillThere_31 ?_
    refine lv_isub hx hb dX2_fibreStillThere_32 ?_
    refine lv_iadd hx hb dX2_fibreStillThere_33 ?_
    refine lv_istore_n (lv' := [(1, .int (x + (((fi i) - (po i)) - (lt i)))), (2, .int (nI i)), (0, .ref h0)]) hx hb dX2_fibreStillThere_34 rfl hl (by decide) rfl (fun ls hl => ?_)
    refine lv_iinc (v := nI (i + 1)) (lv' := [(2, .int (nI (i + 1))), (1, .int (x + (((fi i) - (po i)) - (lt i)))), (0, .ref h0)]) hx hb dX2_fibreStillThere_35 hl (k := 1) rfl (nI_1 i) (by decide) rfl (fun ls hl => ?_)
    refine lv_goto (tgt := 4) hx hb dX2_fibreStillThere_38 (by decide) ?_
    exact ih4 ((i + 1), x + (((fi i) - (po i)) - (lt i))) _ _ _ (show (i + 1) ≤ k ∧ (x + (((fi i) - (po i)) - (lt i))) = f_fs fi po lt (i + 1) from ⟨by omega, by rw [f_fs, hI.2]⟩) (show k - (i + 1) < k - i from by omega) hw (lv_sub hl [0, 1, 2] rfl)

set_option maxRecDepth 100000 in
set_option maxHeartbeats 4000000 in
/-- X4_isGrade -/
theorem c_X4_isGrade (l : Launch) (D : va_G) (cI cC cJ cG : ClassId) (h0 : Nat) (sz : Nat) (q1 q2 q3 q4 q5 G : Nat) (mw mg ch up sh bk : Int32) (st : Int64) (p0 : Int32) : kMi l yX4_isGrade wsX4_isGrade ({ frames := 0, cells := 0, slots := 0, locals := 0 }) D (kty cI cC cJ cG) [.ref h0, .int p0] [(h0, .inr (4, [.ref q1, .int (nI G), .int mw, .int mg, .int ch, .int up, .ref q2, .ref q3, .ref q4, .ref q5, .int sh, .int bk, .long st]))] sz 0 0 (fun (r : Int32) (_ : Unit) => r = if 0 ≤ p0 ∧ p0 < nI G then 1 else 0) (fun (_ : Unit) => [(h0, .inr (4, [.ref q1, .int (nI G), .int mw, .int mg, .int ch, .int up, .ref q2, .ref q3, .ref q4, .ref q5, .int sh, .int bk, .long st]))]) := by
  unfold kMi
  refine k_ofW (cc := cX4_isGrade) (maxL := 2) (ret := (some .boolean)) (lv := [(0, .ref h0), (1, .int p0)]) (by decide) rfl (Nat.le_of_ble_eq_true rfl) rfl ?_
  intro p e s m args below meth c ls H locs hE hsz hw hl
  obtain ⟨hx, hb, hr, hml, hown, hts, hlocks⟩ := hE
  subst hsz
  have hown : s.vm.findClass RX4 = some m.cls := hown
  have k_f70 : (Cond.fieldLink RX4 70 "PaperMachine" "gradeCount" "I").before args s = true := hts _ (by decide +kernel)
  have i_X4 : ∀ w ∈ u_ws RX4 TX4 13, w ∈ wsX4_isGrade := fun _ h => List.mem_cons_of_mem _ (List.mem_append_right _ h)
  refine lv_iload_n hx hb dX4_isGrade_0 rfl (lv_at hl 1 rfl) ?_
  refine lv_if_lt (tgt := 16) hx hb dX4_isGrade_1 (by decide) (fun c1 => ?_) (fun c1 => ?_)
  · refine lv_iconst (v := 0) hx hb dX4_isGrade_16 (by decide) ?_
    exact k_zret () hx hb hr rfl hlocks hw (show (0 : Int32) = if 0 ≤ p0 ∧ p0 < nI G then 1 else 0 from by rw [if_neg (fun h => absurd h.1 (Int32.not_le.mpr c1))]) dX4_isGrade_17
  · refine lv_iload_n hx hb dX4_isGrade_4 rfl (lv_at hl 1 rfl) ?_
    refine lv_aload_n hx hb dX4_isGrade_5 rfl (lv_at hl 0 rfl) ?_
    refine k_get hx hb hts i_X4 hown hw 0 1 rfl rfl (by decide) k_f70 rfl dX4_isGrade_6 ?_
    refine lv_icmp_ge (tgt := 16) hx hb dX4_isGrade_9 (by decide) (fun c9 => ?_) (fun c9 => ?_)
    · refine lv_iconst (v := 0) hx hb dX4_isGrade_16 (by decide) ?_
      exact k_zret () hx hb hr rfl hlocks hw (show (0 : Int32) = if 0 ≤ p0 ∧ p0 < nI G then 1 else 0 from by rw [if_neg (fun h => absurd h.2 (Int32.not_lt.mpr c9))]) dX4_isGrade_17
    · refine lv_iconst (v := 1) hx hb dX4_isGrade_12 (by decide) ?_
      refine lv_goto (tgt := 17) hx hb dX4_isGrade_13 (by decide) ?_
      exact k_zret () hx hb hr rfl hlocks hw (show (1 : Int32) = if 0 ≤ p0 ∧ p0 < nI G then 1 else 0 from by rw [if_pos ⟨Int32.not_lt.mp c1, Int32.not_le.mp c9⟩]) dX4_isGrade_17

set_option maxRecDepth 100000 in
set_option maxHeartbeats 4000000 in
/-- X4_isWeightTaken -/
theorem c_X4_isWeightTaken (l : Launch) (D : va_G) (cI cC cJ cG : ClassId) (h0 q1 : Nat) (sz : Nat) (q2 q3 q4 q5 G : Nat) (mw mg ch up sh bk : Int32) (st : Int64) (we : Nat → Int32) (p0 : Int32) (hG : G ≤ 6) : kMi l yX4_isWeightTaken wsX4_isWeightTaken ({ frames := 0, cells := 0, slots := 0, locals := 0 }) D (kty cI cC cJ cG) [.ref h0, .int p0] [(h0, .inr (4, [.ref q1, .int (nI G), .int mw, .int mg, .int ch, .int up, .ref q2, .ref q3, .ref q4, .ref q5, .int sh, .int bk, .long st])), (q1, .inl (cI, 6, .inl we))] sz 0 0 (fun (r : Int32) (_ : Unit) => r = if f_tk we p0 G = true then 1 else 0) (fun (_ : Unit) => [(h0, .inr (4, [.ref q1, .int (nI G), .int mw, .int mg, .int ch, .int up, .ref q2, .ref q3, .ref q4, .ref q5, .int sh, .int bk, .long st])), (q1, .inl (cI, 6, .inl we))]) := by
  unfold kMi
  refine k_ofW (cc := cX4_isWeightTaken) (maxL := 3) (ret := (some .boolean)) (lv := [(0, .ref h0), (1, .int p0)]) (by decide) rfl (Nat.le_of_ble_eq_true rfl) rfl ?_
  intro p e s m args below meth c ls H locs hE hsz hw hl
  obtain ⟨hx, hb, hr, hml, hown, hts, hlocks⟩ := hE
  subst hsz
  have hown : s.vm.findClass RX4 = some m.cls := hown
  have k_f70 : (Cond.fieldLink RX4 70 "PaperMachine" "gradeCount" "I").before args s = true := hts _ (by decide +kernel)
  have k_f9 : (Cond.fieldLink RX4 9 "PaperMachine" "weights" "[I").before args s = true := hts _ (by decide +kernel)
  have i_X4 : ∀ w ∈ u_ws RX4 TX4 13, w ∈ wsX4_isWeightTaken := fun _ h => List.mem_cons_of_mem _ (List.mem_append_right _ h)
  refine lv_iconst (v := 0) hx hb dX4_isWeightTaken_0 (by decide) ?_
  refine lv_istore_n (lv' := [(2, .int 0), (0, .ref h0), (1, .int p0)]) hx hb dX4_isWeightTaken_1 rfl hl (by decide) rfl (fun ls hl => ?_)
  replace hl : lv_has _ 3 [(2, .int (nI 0)), (0, .ref h0), (1, .int p0)] := hl
  replace hw : kW D (kty cI cC cJ cG) s (va_A [(h0, .inr (4, [.ref q1, .int (nI G), .int mw, .int mg, .int ch, .int up, .ref q2, .ref q3, .ref q4, .ref q5, .int sh, .int bk, .long st])), (q1, .inl (cI, 6, .inl we))] s.heap.size) [(h0, .inr (4, [.ref q1, .int (nI G), .int mw, .int mg, .int ch, .int up, .ref q2, .ref q3, .ref q4, .ref q5, .int sh, .int bk, .long st])), (q1, .inl (cI, 6, .inl we))] H locs := hw
  revert hl; revert hw; revert ls; revert locs; revert H
  refine k_loop (fun (i : (Nat)) => i ≤ G ∧ f_tk we p0 i = false) (fun (i : (Nat)) => G - i) (fun (i : (Nat)) => [(h0, .inr (4, [.ref q1, .int (nI G), .int mw, .int mg, .int ch, .int up, .ref q2, .ref q3, .ref q4, .ref q5, .int sh, .int bk, .long st])), (q1, .inl (cI, 6, .inl we))]) (fun (i : (Nat)) => [(2, .int (nI i)), (0, .ref h0), (1, .int p0)]) 0 (show (0 : Nat) ≤ G ∧ f_tk we p0 (0 : Nat) = false from ⟨Nat.zero_le _, rfl⟩) ?_
  intro i hI ih2 H locs ls hw hl
  replace hI : i ≤ G ∧ f_tk we p0 i = false := hI
  replace hw : kW D (kty cI cC cJ cG) s (va_A [(h0, .inr (4, [.ref q1, .int (nI G), .int mw, .int mg, .int ch, .int up, .ref q2, .ref q3, .ref q4, .ref q5, .int sh, .int bk, .long st])), (q1, .inl (cI, 6, .inl we))] s.heap.size) [(h0, .inr (4, [.ref q1, .int (nI G), .int mw, .int mg, .int ch, .int up, .ref q2, .ref q3, .ref q4, .ref q5, .int sh, .int bk, .long st])), (q1, .inl (cI, 6, .inl we))] H locs := hw
  replace hl : lv_has ls 3 [(2, .int (nI i)), (0, .ref h0), (1, .int p0)] := hl
  refine lv_iload_n hx hb dX4_isWeightTaken_2 rfl (lv_at hl 0 rfl) ?_
  refine lv_aload_n hx hb dX4_isWeightTaken_3 rfl (lv_at hl 1 rfl) ?_
  refine k_get hx hb hts i_X4 hown hw 0 1 rfl rfl (by decide) k_f70 rfl dX4_isWeightTaken_4 ?_
  refine lv_icmp_ge (tgt := 28) hx hb dX4_isWeightTaken_7 (by decide) (fun c7 => ?_) (fun c7 => ?_)
  · have hi : G ≤ i := k_le c7 (by omega) (by omega)
    refine lv_iconst (v := 0) hx hb dX4_isWeightTaken_28 (by decide) ?_
    exact k_zret () hx hb hr rfl hlocks hw (show (0 : Int32) = if f_tk we p0 G = true then 1 else 0 from by rw [if_neg (by rw [← show i = G by omega, hI.2]; exact Bool.false_ne_true)]) dX4_isWeightTaken_29
  · have hi : i < G := k_lt c7 (by omega) (by omega)
    refine lv_aload_n hx hb dX4_isWeightTaken_10 rfl (lv_at hl 1 rfl) ?_
    refine k_get hx hb hts i_X4 hown hw 0 0 rfl rfl (by decide) k_f9 rfl dX4_isWeightTaken_11 ?_
    refine lv_iload_n hx hb dX4_isWeightTaken_14 rfl (lv_at hl 0 rfl) ?_
    refine k_iald hx hb hw 1 0 rfl rfl i rfl (by omega) (Nat.le_of_ble_eq_true rfl) dX4_isWeightTaken_15 ?_
    refine lv_iload_n hx hb dX4_isWeightTaken_16 rfl (lv_at hl 2 rfl) ?_
    refine lv_icmp_ne (tgt := 22) hx hb dX4_isWeightTaken_17 (by decide) (fun c17 => ?_) (fun c17 => ?_)
    · refine lv_iinc (v := nI (i + 1)) (lv' := [(2, .int (nI (i + 1))), (0, .ref h0), (1, .int p0)]) hx hb dX4_isWeightTaken_22 hl (k := 0) rfl (nI_1 i) (by decide) rfl (fun ls hl => ?_)
      refine lv_goto (tgt := 2) hx hb dX4_isWeightTaken_25 (by decide) ?_
      exact ih2 (i + 1) _ _ _ (show (i + 1) ≤ G ∧ f_tk we p0 (i + 1) = false from ⟨by omega, by rw [f_tk, hI.2, Bool.false_or]; exact beq_false_of_ne c17⟩) (show G - (i + 1) < G - i from by omega) hw (lv_sub hl [0, 1, 2] rfl)
    · refine lv_iconst (v := 1) hx hb dX4_isWeightTaken_20 (by decide) ?_
      exact k_zret () hx hb hr rfl hlocks hw (show (1 : Int32) = if f_tk we p0 G = true then 1 else 0 from by rw [if_pos (f_tk_mono (i := i) (by rw [f_tk, c17, beq_self_eq_true, Bool.or_true]) G hi)]) dX4_isWeightTaken_21

set_option maxRecDepth 100000 in
set_option maxHeartbeats 4000000 in
/-- X4_massOfAnHour -/
theorem c_X4_massOfAnHour (l : Launch) (D : va_G) (cI cC cJ cG : ClassId) (h0 q1 : Nat) (sz : Nat) (q2 q3 q4 q5 G : Nat) (mw mg ch up sh bk : Int32) (st : Int64) (we : Nat → Int32) (g : Nat) (hg : g < G) (hG : G ≤ 6) : kMi l yX4_massOfAnHour wsX4_massOfAnHour ({ frames := 1, cells := 0, slots := 0, locals := 21 }) D (kty cI cC cJ cG) [.ref h0, .int (nI g)] [(h0, .inr (4, [.ref q1, .int (nI G), .int mw, .int mg, .int ch, .int up, .ref q2, .ref q3, .ref q4, .ref q5, .int sh, .int bk, .long st])), (q1, .inl (cI, 6, .inl we))] sz 0 0 (fun (r : Int32) (_ : Unit) => r = we g * mw / 10) (fun (_ : Unit) => [(h0, .inr (4, [.ref q1, .int (nI G), .int mw, .int mg, .int ch, .int up, .ref q2, .ref q3, .ref q4, .ref q5, .int sh, .int bk, .long st])), (q1, .inl (cI, 6, .inl we))]) := by
  unfold kMi
  refine k_ofW (cc := cX4_massOfAnHour) (maxL := 2) (ret := (some .int)) (lv := [(0, .ref h0), (1, .int (nI g))]) (by decide) rfl (Nat.le_of_ble_eq_true rfl) rfl ?_
  intro p e s m args below meth c ls H locs hE hsz hw hl
  obtain ⟨hx, hb, hr, hml, hown, hts, hlocks⟩ := hE
  subst hsz
  have hown : s.vm.findClass RX4 = some m.cls := hown
  have k_f9 : (Cond.fieldLink RX4 9 "PaperMachine" "weights" "[I").before args s = true := hts _ (by decide +kernel)
  have k_f13 : (Cond.fieldLink RX4 13 "PaperMachine" "machineWidth" "I").before args s = true := hts _ (by decide +kernel)
  have i_X4 : ∀ w ∈ u_ws RX4 TX4 13, w ∈ wsX4_massOfAnHour := fun _ h => List.mem_cons_of_mem _ (List.mem_append_right _ h)
  refine lv_aload_n hx hb dX4_massOfAnHour_0 rfl (lv_at hl 0 rfl) ?_
  refine lv_iload_n hx hb dX4_massOfAnHour_1 rfl (lv_at hl 1 rfl) ?_
  refine k_calli (wr := [(q1, .inl (cI, 6, .inl we))]) (k_runV (wc := [(h0, .inr (4, [.ref q1, .int (nI G), .int mw, .int mg, .int ch, .int up, .ref q2, .ref q3, .ref q4, .ref q5, .int sh, .int bk, .long st]))]) (As := [.int (nI g)]) (rest := []) ⟨hx, hb, hml, hown, hts⟩ (c_X4_isGrade l D cI cC cJ cG h0 H.size q1 q2 q3 q4 q5 G mw mg ch up sh bk st (nI g)) (cwV 1 hts gX4_massOfAnHour_X4_isGrade rfl rfl rfl (by decide +kernel) ⟨Nat.le_of_ble_eq_true rfl, Nat.le_of_ble_eq_true rfl⟩) hw [0] (by decide) rfl 0 rfl rfl rfl hl.1 rfl (Nat.le_of_ble_eq_true rfl) dX4_massOfAnHour_2 ⟨Nat.zero_le _, Nat.zero_le _⟩) hw [0] [1] rfl rfl (by decide) (by decide) (fun r2 u2 H locs w2 hw => ?_)
  replace hw : kW D (kty cI cC cJ cG) s (va_A [(h0, .inr (4, [.ref q1, .int (nI G), .int mw, .int mg, .int ch, .int up, .ref q2, .ref q3, .ref q4, .ref q5, .int sh, .int bk, .long st])), (q1, .inl (cI, 6, .inl we))] s.heap.size) [(q1, .inl (cI, 6, .inl we)), (h0, .inr (4, [.ref q1, .int (nI G), .int mw, .int mg, .int ch, .int up, .ref q2, .ref q3, .ref q4, .ref q5, .int sh, .int bk, .long st]))] H locs := hw
  replace w2 : r2 = if 0 ≤ (nI g) ∧ (nI g) < nI G then 1 else 0 := w2
  by_cases b2 : 0 ≤ (nI g) ∧ (nI g) < nI G
  · rw [if_pos b2] at w2
    subst w2
    refine lv_if_eq (tgt := 25) hx hb dX4_massOfAnHour_5 (by decide) (fun h => absurd h (by decide)) (fun _ => ?_)
    refine lv_aload_n hx hb dX4_massOfAnHour_8 rfl (lv_at hl 0 rfl) ?_
    refine k_get hx hb hts i_X4 hown hw 1 0 rfl rfl (by decide) k_f9 rfl dX4_massOfAnHour_9 ?_
    refine lv_iload_n hx hb dX4_massOfAnHour_12 rfl (lv_at hl 1 rfl) ?_
    refine k_iald hx hb hw 0 0 rfl rfl g rfl (by omega) (Nat.le_of_ble_eq_true rfl) dX4_massOfAnHour_13 ?_
    refine lv_aload_n hx hb dX4_massOfAnHour_14 rfl (lv_at hl 0 rfl) ?_
    refine k_get hx hb hts i_X4 hown hw 1 2 rfl rfl (by decide) k_f13 rfl dX4_massOfAnHour_15 ?_
    refine lv_imul hx hb dX4_massOfAnHour_18 ?_
    refine lv_bipush (v := 10) hx hb dX4_massOfAnHour_19 (by decide) ?_
    refine lv_idiv hx hb dX4_massOfAnHour_21 (by decide) ?_
    refine lv_goto (tgt := 26) hx hb dX4_massOfAnHour_22 (by decide) ?_
    replace hw := hw.pick (ws' := [(h0, .inr (4, [.ref q1, .int (nI G), .int mw, .int mg, .int ch, .int up, .ref q2, .ref q3, .ref q4, .ref q5, .int sh, .int bk, .long st])), (q1, .inl (cI, 6, .inl we))]) [1, 0] (by decide) rfl
    exact k_iret () hx hb hr hlocks hw rfl dX4_massOfAnHour_26
  · rw [if_neg b2] at w2
    subst w2
    exact absurd ⟨nI_pos' (by omega), (nI_ltI (by omega) (by omega)).mpr hg⟩ b2
