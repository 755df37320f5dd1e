set_option maxRecDepth 100000 in
set_option maxHeartbeats 4000000 in
/-- X5_broke -/
theorem c_X5_broke (l : Launch) (D : va_G) (cI cC cJ cG : ClassId) (h0 : Nat) (sz : Nat) (z1 z2 z3 z4 z5 : Nat) (k mw : Nat) (mg ch up sh li fp sp hc : Int32) (inn pa lo ma st : Int64) (ph tr la : Int32) : kMi l yX5_broke wsX5_broke ({ frames := 0, cells := 0, slots := 0, locals := 0 }) D (kty cI cC cJ cG) [.ref h0] [(h0, .inr (5, [.ref z1, .ref z2, .ref z3, .ref z4, .ref z5, .int (nI k), .int (nI mw), .int mg, .int ch, .int up, .int sh, .int li, .int fp, .int sp, .int hc, .long inn, .long pa, .long lo, .long ma, .long st, .int ph, .int tr, .int la]))] sz 0 0 (fun (r : Int32) (_ : Unit) => r = Int64.toInt32 (inn - pa - lo)) (fun (_ : Unit) => [(h0, .inr (5, [.ref z1, .ref z2, .ref z3, .ref z4, .ref z5, .int (nI k), .int (nI mw), .int mg, .int ch, .int up, .int sh, .int li, .int fp, .int sp, .int hc, .long inn, .long pa, .long lo, .long ma, .long st, .int ph, .int tr, .int la]))]) := by
  unfold kMi
  refine k_ofW (cc := cX5_broke) (maxL := 1) (ret := (some .int)) (lv := [(0, .ref h0)]) (by decide) rfl (Nat.le_of_ble_eq_true rfl) rfl ?_
  intro p e s m args below meth c ls H locs hE hsz hw hl
  obtain ⟨hx, hb, hr, hml, hown, hts, hlocks⟩ := hE
  subst hsz
  have hown : s.vm.findClass RX5 = some m.cls := hown
  have k_f48 : (Cond.fieldLink RX5 48 "PaperMachineLaw$Mill" "in" "J").before args s = true := hts _ (by decide +kernel)
  have k_f52 : (Cond.fieldLink RX5 52 "PaperMachineLaw$Mill" "paper" "J").before args s = true := hts _ (by decide +kernel)
  have k_f55 : (Cond.fieldLink RX5 55 "PaperMachineLaw$Mill" "lost" "J").before args s = true := hts _ (by decide +kernel)
  have i_X5 : ∀ w ∈ u_ws RX5 TX5 23, w ∈ wsX5_broke := fun _ h => List.mem_cons_of_mem _ (List.mem_append_right _ h)
  refine lv_aload_n hx hb dX5_broke_0 rfl (lv_at hl 0 rfl) ?_
  refine k_get hx hb hts i_X5 hown hw 0 15 rfl rfl (by decide) k_f48 rfl dX5_broke_1 ?_
  refine lv_aload_n hx hb dX5_broke_4 rfl (lv_at hl 0 rfl) ?_
  refine k_get hx hb hts i_X5 hown hw 0 16 rfl rfl (by decide) k_f52 rfl dX5_broke_5 ?_
  refine lv_lsub hx hb dX5_broke_8 ?_
  refine lv_aload_n hx hb dX5_broke_9 rfl (lv_at hl 0 rfl) ?_
  refine k_get hx hb hts i_X5 hown hw 0 17 rfl rfl (by decide) k_f55 rfl dX5_broke_10 ?_
  refine lv_lsub hx hb dX5_broke_13 ?_
  refine lv_l2i (v := Int64.toInt32 ((inn - pa) - lo)) hx hb dX5_broke_14 rfl ?_
  exact k_iret () hx hb hr hlocks hw rfl dX5_broke_15

set_option maxRecDepth 100000 in
set_option maxHeartbeats 4000000 in
/-- X5_makes -/
theorem c_X5_makes (l : Launch) (D : va_G) (cI cC cJ cG : ClassId) (h0 z1 : Nat) (sz : Nat) (z2 z3 z4 z5 : Nat) (k mw : Nat) (mg ch up sh li fp sp hc : Int32) (inn pa lo ma st : Int64) (ph tr la : Int32) (we : Nat → Int32) (g : Nat) (ms bk p0 p1 : Int32) (hg : g < 3) (hmg : mg = nI g) (hmw : 0 < mw ∧ mw ≤ 800) (hms : we g * nI mw / 10 = ms) (hbk : Int64.toInt32 (inn - pa - lo) = bk) (hcost : Int32.toInt64 ((if ms / 2 < li then ms / 2 else li) * fp + (if 0 < ms / 2 - li then ms / 2 - li else 0) * sp) = f_cost li fp sp (ms / 2)) : kMv l yX5_makes wsX5_makes ({ frames := 1, cells := 0, slots := 0, locals := 20 }) D (kty cI cC cJ cG) [.ref h0, .int p0, .int p1] [(h0, .inr (5, [.ref z1, .ref z2, .ref z3, .ref z4, .ref z5, .int (nI k), .int (nI mw), .int mg, .int ch, .int up, .int sh, .int li, .int fp, .int sp, .int hc, .long inn, .long pa, .long lo, .long ma, .long st, .int ph, .int tr, .int la])), (z1, .inl (cI, 3, .inl we))] sz 0 0 (fun (_ : Unit) => True) (fun (_ : Unit) => [(h0, .inr (5, [.ref z1, .ref z2, .ref z3, .ref z4, .ref z5, .int (nI k), .int (nI mw), .int mg, .int ch, .int up, .int sh, .int li, .int fp, .int sp, .int hc, .long (inn + Int32.toInt64 (m_fib ms - m_fed bk sh ms)), .long (pa + (if p1 = (0 : Int32) then 0 else Int32.toInt64 (ms - ms * p0 / nI mw))), .long (lo + Int32.toInt64 (ms / 50)), .long (ma + Int32.toInt64 ms), .long (st + f_cost li fp sp (ms / 2)), .int ph, .int tr, .int la])), (z1, .inl (cI, 3, .inl we))]) := by
  unfold kMv
  refine k_ofW (cc := cX5_makes) (maxL := 6) (ret := none) (lv := [(0, .ref h0), (1, .int p0), (2, .int p1)]) (by decide) rfl (Nat.le_of_ble_eq_true rfl) rfl ?_
  intro p e s m args below meth c ls H locs hE hsz hw hl
  obtain ⟨hx, hb, hr, hml, hown, hts, hlocks⟩ := hE
  subst hsz
  have hown : s.vm.findClass RX5 = some m.cls := hown
  have k_f7 : (Cond.fieldLink RX5 7 "PaperMachineLaw$Mill" "weight" "[I").before args s = true := hts _ (by decide +kernel)
  have k_f29 : (Cond.fieldLink RX5 29 "PaperMachineLaw$Mill" "now" "I").before args s = true := hts _ (by decide +kernel)
  have k_f25 : (Cond.fieldLink RX5 25 "PaperMachineLaw$Mill" "machine" "I").before args s = true := hts _ (by decide +kernel)
  have k_f36 : (Cond.fieldLink RX5 36 "PaperMachineLaw$Mill" "share" "I").before args s = true := hts _ (by decide +kernel)
  have k_m71 : (Cond.methodLink RX5 71 Lib.Math.min.name).before args s = true := hts _ (by decide +kernel)
  have k_s_min : (Cond.static Lib.Math.min.name).before args s = true := hts _ (by decide +kernel)
  have k_imath : (Cond.initialized "java/lang/Math").before args s = true := hts _ (by decide +kernel)
  have k_c_min : (Cond.code Lib.Math.min.name Lib.Math.min.code 2 (some .int)).before args s = true := hts _ (by decide +kernel)
  have k_f77 : (Cond.fieldLink RX5 77 "PaperMachineLaw$Mill" "made" "J").before args s = true := hts _ (by decide +kernel)
  have k_f55 : (Cond.fieldLink RX5 55 "PaperMachineLaw$Mill" "lost" "J").before args s = true := hts _ (by decide +kernel)
  have k_f48 : (Cond.fieldLink RX5 48 "PaperMachineLaw$Mill" "in" "J").before args s = true := hts _ (by decide +kernel)
  have k_f52 : (Cond.fieldLink RX5 52 "PaperMachineLaw$Mill" "paper" "J").before args s = true := hts _ (by decide +kernel)
  have k_f80 : (Cond.fieldLink RX5 80 "PaperMachineLaw$Mill" "steam" "J").before args s = true := hts _ (by decide +kernel)
  have k_f39 : (Cond.fieldLink RX5 39 "PaperMachineLaw$Mill" "limit" "I").before args s = true := hts _ (by decide +kernel)
  have k_f42 : (Cond.fieldLink RX5 42 "PaperMachineLaw$Mill" "first" "I").before args s = true := hts _ (by decide +kernel)
  have k_m83 : (Cond.methodLink RX5 83 Lib.Math.max.name).before args s = true := hts _ (by decide +kernel)
  have k_s_max : (Cond.static Lib.Math.max.name).before args s = true := hts _ (by decide +kernel)
  have k_c_max : (Cond.code Lib.Math.max.name Lib.Math.max.code 2 (some .int)).before args s = true := hts _ (by decide +kernel)
  have k_f45 : (Cond.fieldLink RX5 45 "PaperMachineLaw$Mill" "second" "I").before args s = true := hts _ (by decide +kernel)
  have i_X5 : ∀ w ∈ u_ws RX5 TX5 23, w ∈ wsX5_makes := fun _ h => List.mem_cons_of_mem _ (List.mem_append_right _ h)
  refine lv_aload_n hx hb dX5_makes_0 rfl (lv_at hl 0 rfl) ?_
  refine k_get hx hb hts i_X5 hown hw 0 0 rfl rfl (by decide) k_f7 rfl dX5_makes_1 ?_
  refine lv_aload_n hx hb dX5_makes_4 rfl (lv_at hl 0 rfl) ?_
  refine k_get hx hb hts i_X5 hown hw 0 7 rfl rfl (by decide) k_f29 rfl dX5_makes_5 ?_
  refine k_eqi (y := nI g) hmg ?_
  refine k_iald hx hb hw 1 0 rfl rfl g rfl (by omega) (Nat.le_of_ble_eq_true rfl) dX5_makes_8 ?_
  refine lv_aload_n hx hb dX5_makes_9 rfl (lv_at hl 0 rfl) ?_
  refine k_get hx hb hts i_X5 hown hw 0 6 rfl rfl (by decide) k_f25 rfl dX5_makes_10 ?_
  refine lv_imul hx hb dX5_makes_13 ?_
  refine lv_bipush (v := 10) hx hb dX5_makes_14 (by decide) ?_
  refine lv_idiv hx hb dX5_makes_16 (by decide) ?_
  refine k_eqi (y := ms) hms ?_
  refine lv_istore_n (lv' := [(3, .int ms), (0, .ref h0), (1, .int p0), (2, .int p1)]) hx hb dX5_makes_17 rfl hl (by decide) rfl (fun ls hl => ?_)
  refine lv_iload_n hx hb dX5_makes_18 rfl (lv_at hl 0 rfl) ?_
  refine lv_bipush (v := 50) hx hb dX5_makes_19 (by decide) ?_
  refine lv_idiv hx hb dX5_makes_21 (by decide) ?_
  refine lv_istore (lv' := [(4, .int (ms / 50)), (3, .int ms), (0, .ref h0), (1, .int p0), (2, .int p1)]) hx hb dX5_makes_22 hl (by decide) rfl (fun ls hl => ?_)
  refine lv_aload_n hx hb dX5_makes_24 rfl (lv_at hl 2 rfl) ?_
  refine k_calli (wr := [(z1, .inl (cI, 3, .inl we))]) (k_runV (wc := [(h0, .inr (5, [.ref z1, .ref z2, .ref z3, .ref z4, .ref z5, .int (nI k), .int (nI mw), .int mg, .int ch, .int up, .int sh, .int li, .int fp, .int sp, .int hc, .long inn, .long pa, .long lo, .long ma, .long st, .int ph, .int tr, .int la]))]) (As := []) (rest := []) ⟨hx, hb, hml, hown, hts⟩ (c_X5_broke l D cI cC cJ cG h0 H.size z1 z2 z3 z4 z5 k mw mg ch up sh li fp sp hc inn pa lo ma st ph tr la) (cwV 0 hts gX5_makes_X5_broke rfl rfl rfl (by decide +kernel) ⟨Nat.le_of_ble_eq_true rfl, Nat.le_of_ble_eq_true rfl⟩) hw [0] (by decide) rfl 0 rfl rfl rfl hl.1 rfl (Nat.le_of_ble_eq_true rfl) dX5_makes_25 ⟨Nat.zero_le _, Nat.zero_le _⟩) hw [0] [1] rfl rfl (by decide) (by decide) (fun r25 u25 H locs w25 hw => ?_)
  replace hw : kW D (kty cI cC cJ cG) s (va_A [(h0, .inr (5, [.ref z1, .ref z2, .ref z3, .ref z4, .ref z5, .int (nI k), .int (nI mw), .int mg, .int ch, .int up, .int sh, .int li, .int fp, .int sp, .int hc, .long inn, .long pa, .long lo, .long ma, .long st, .int ph, .int tr, .int la])), (z1, .inl (cI, 3, .inl we))] s.heap.size) [(z1, .inl (cI, 3, .inl we)), (h0, .inr (5, [.ref z1, .ref z2, .ref z3, .ref z4, .ref z5, .int (nI k), .int (nI mw), .int mg, .int ch, .int up, .int sh, .int li, .int fp, .int sp, .int hc, .long inn, .long pa, .long lo, .long ma, .long st, .int ph, .int tr, .int la]))] H locs := hw
  refine k_eqi (y := bk) (w25.trans hbk) ?_
  refine lv_iload_n hx hb dX5_makes_28 rfl (lv_at hl 1 rfl) ?_
  refine lv_iload hx hb dX5_makes_29 (lv_at hl 0 rfl) ?_
  refine lv_iadd hx hb dX5_makes_31 ?_
  refine k_eqi (y := m_fib ms) rfl ?_
  refine lv_aload_n hx hb dX5_makes_32 rfl (lv_at hl 2 rfl) ?_
  refine k_get hx hb hts i_X5 hown hw 1 10 rfl rfl (by decide) k_f36 rfl dX5_makes_33 ?_
  refine lv_imul hx hb dX5_makes_36 ?_
  refine lv_bipush (v := 100) hx hb dX5_makes_37 (by decide) ?_
  refine lv_idiv hx hb dX5_makes_39 (by decide) ?_
  refine va_mmin hx hb (hml.trans hl.1.symm) hown k_m71 k_s_min k_imath k_c_min (Nat.le_of_ble_eq_true rfl) (Nat.le_of_ble_eq_true rfl) (Nat.le_of_ble_eq_true rfl) (Nat.le_of_ble_eq_true rfl) dX5_makes_40 ?_
  refine k_eqi (y := m_fed bk sh ms) rfl ?_
  refine lv_istore (lv' := [(5, .int (m_fed bk sh ms)), (4, .int (ms / 50)), (3, .int ms), (0, .ref h0), (1, .int p0), (2, .int p1)]) hx hb dX5_makes_43 hl (by decide) rfl (fun ls hl => ?_)
  refine lv_aload_n hx hb dX5_makes_45 rfl (lv_at hl 3 rfl) ?_
  refine lv_dup hx hb dX5_makes_46 rfl ?_
  refine k_get hx hb hts i_X5 hown hw 1 18 rfl rfl (by decide) k_f77 rfl dX5_makes_47 ?_
  refine lv_iload_n hx hb dX5_makes_50 rfl (lv_at hl 2 rfl) ?_
  refine lv_i2l (v := Int32.toInt64 ms) hx hb dX5_makes_51 rfl ?_
  refine lv_ladd hx hb dX5_makes_52 ?_
  refine k_put hx hb hts i_X5 tyX5_ok nmX5 hown hw 1 18 (ws' := [(z1, .inl (cI, 3, .inl we)), (h0, .inr (5, [.ref z1, .ref z2, .ref z3, .ref z4, .ref z5, .int (nI k), .int (nI mw), .int mg, .int ch, .int up, .int sh, .int li, .int fp, .int sp, .int hc, .long inn, .long pa, .long lo, .long (ma + (Int32.toInt64 ms)), .long st, .int ph, .int tr, .int la]))]) rfl rfl (by decide) k_f77 rfl rfl rfl (Nat.le_of_ble_eq_true rfl) rfl dX5_makes_53 (fun H locs hw => ?_)
  refine lv_aload_n hx hb dX5_makes_56 rfl (lv_at hl 3 rfl) ?_
  refine lv_dup hx hb dX5_makes_57 rfl ?_
  refine k_get hx hb hts i_X5 hown hw 1 17 rfl rfl (by decide) k_f55 rfl dX5_makes_58 ?_
  refine lv_iload hx hb dX5_makes_61 (lv_at hl 1 rfl) ?_
  refine lv_i2l (v := Int32.toInt64 (ms / 50)) hx hb dX5_makes_63 rfl ?_
  refine lv_ladd hx hb dX5_makes_64 ?_
  refine k_put hx hb hts i_X5 tyX5_ok nmX5 hown hw 1 17 (ws' := [(z1, .inl (cI, 3, .inl we)), (h0, .inr (5, [.ref z1, .ref z2, .ref z3, .ref z4, .ref z5, .int (nI k), .int (nI mw), .int mg, .int ch, .int up, .int sh, .int li, .int fp, .int sp, .int hc, .long inn, .long pa, .long (lo + (Int32.toInt64 (ms / 50))), .long (ma + (Int32.toInt64 ms)), .long st, .int ph, .int tr, .int la]))]) rfl rfl (by decide) k_f55 rfl rfl rfl (Nat.le_of_ble_eq_true rfl) rfl dX5_makes_65 (fun H locs hw => ?_)
  refine lv_aload_n hx hb dX5_makes_68 rfl (lv_at hl 3 rfl) ?_
  refine lv_dup hx hb dX5_makes_69 rfl ?_
  refine k_get hx hb hts i_X5 hown hw 1 15 rfl rfl (by decide) k_f48 rfl dX5_makes_70 ?_
  refine lv_iload_n hx hb dX5_makes_73 rfl (lv_at hl 2 rfl) ?_
  refine lv_iload hx hb dX5_makes_74 (lv_at hl 1 rfl) ?_
  refine lv_iadd hx hb dX5_makes_76 ?_
  refine k_eqi (y := m_fib ms) rfl ?_
  refine lv_iload hx hb dX5_makes_77 (lv_at hl 0 rfl) ?_
  refine lv_isub hx hb dX5_makes_79 ?_
  refine lv_i2l (v := Int32.toInt64 ((m_fib ms) - (m_fed bk sh ms))) hx hb dX5_makes_80 rfl ?_
  refine lv_ladd hx hb dX5_makes_81 ?_
  refine k_put hx hb hts i_X5 tyX5_ok nmX5 hown hw 1 15 (ws' := [(z1, .inl (cI, 3, .inl we)), (h0, .inr (5, [.ref z1, .ref z2, .ref z3, .ref z4, .ref z5, .int (nI k), .int (nI mw), .int mg, .int ch, .int up, .int sh, .int li, .int fp, .int sp, .int hc, .long (inn + (Int32.toInt64 ((m_fib ms) - (m_fed bk sh ms)))), .long pa, .long (lo + (Int32.toInt64 (ms / 50))), .long (ma + (Int32.toInt64 ms)), .long st, .int ph, .int tr, .int la]))]) rfl rfl (by decide) k_f48 rfl rfl rfl (Nat.le_of_ble_eq_true rfl) rfl dX5_makes_82 (fun H locs hw => ?_)
  refine lv_aload_n hx hb dX5_makes_85 rfl (lv_at hl 3 rfl) ?_
  refine lv_dup hx hb dX5_makes_86 rfl ?_
  refine k_get hx hb hts i_X5 hown hw 1 16 rfl rfl (by decide) k_f52 rfl dX5_makes_87 ?_
  refine lv_iload_n hx hb dX5_makes_90 rfl (lv_at hl 5 rfl) ?_
  refine lv_if_eq (tgt := 108) hx hb dX5_makes_91 (by decide) (fun c91 => ?_) (fun c91 => ?_)
  · refine lv_lconst (v := 0) hx hb dX5_makes_108 rfl ?_
    refine lv_ladd hx hb dX5_makes_109 ?_
    refine k_put hx hb hts i_X5 tyX5_ok nmX5 hown hw 1 16 (ws' := [(z1, .inl (cI, 3, .inl we)), (h0, .inr (5, [.ref z1, .ref z2, .ref z3, .ref z4, .ref z5, .int (nI k), .int (nI mw), .int mg, .int ch, .int up, .int sh, .int li, .int fp, .int sp, .int hc, .long (inn + (Int32.toInt64 ((m_fib ms) - (m_fed bk sh ms)))), .long (pa + 0), .long (lo + (Int32.toInt64 (ms / 50))), .long (ma + (Int32.toInt64 ms)), .long st, .int ph, .int tr, .int la]))]) rfl rfl (by decide) k_f52 rfl rfl rfl (Nat.le_of_ble_eq_true rfl) rfl dX5_makes_110 (fun H locs hw => ?_)
    refine lv_aload_n hx hb dX5_makes_113 rfl (lv_at hl 3 rfl) ?_
    refine lv_dup hx hb dX5_makes_114 rfl ?_
    refine k_get hx hb hts i_X5 hown hw 1 19 rfl rfl (by decide) k_f80 rfl dX5_makes_115 ?_
    refine lv_aload_n hx hb dX5_makes_118 rfl (lv_at hl 3 rfl) ?_
    refine k_get hx hb hts i_X5 hown hw 1 11 rfl rfl (by decide) k_f39 rfl dX5_makes_119 ?_
    refine lv_iload_n hx hb dX5_makes_122 rfl (lv_at hl 2 rfl) ?_
    refine lv_iconst (v := 2) hx hb dX5_makes_123 (by decide) ?_
    refine lv_idiv hx hb dX5_makes_124 (by decide) ?_
    refine va_mmin hx hb (hml.trans hl.1.symm) hown k_m71 k_s_min k_imath k_c_min (Nat.le_of_ble_eq_true rfl) (Nat.le_of_ble_eq_true rfl) (Nat.le_of_ble_eq_true rfl) (Nat.le_of_ble_eq_true rfl) dX5_makes_125 ?_
    refine lv_aload_n hx hb dX5_makes_128 rfl (lv_at hl 3 rfl) ?_
    refine k_get hx hb hts i_X5 hown hw 1 12 rfl rfl (by decide) k_f42 rfl dX5_makes_129 ?_
    refine lv_imul hx hb dX5_makes_132 ?_
    refine lv_iconst (v := 0) hx hb dX5_makes_133 (by decide) ?_
    refine lv_iload_n hx hb dX5_makes_134 rfl (lv_at hl 2 rfl) ?_
    refine lv_iconst (v := 2) hx hb dX5_makes_135 (by decide) ?_
    refine lv_idiv hx hb dX5_makes_136 (by decide) ?_
    refine lv_aload_n hx hb dX5_makes_137 rfl (lv_at hl 3 rfl) ?_
    refine k_get hx hb hts i_X5 hown hw 1 11 rfl rfl (by decide) k_f39 rfl dX5_makes_138 ?_
    refine lv_isub hx hb dX5_makes_141 ?_
    refine va_mmax hx hb (hml.trans hl.1.symm) hown k_m83 k_s_max k_imath k_c_max (Nat.le_of_ble_eq_true rfl) (Nat.le_of_ble_eq_true rfl) (Nat.le_of_ble_eq_true rfl) (Nat.le_of_ble_eq_true rfl) dX5_makes_142 ?_
    refine lv_aload_n hx hb dX5_makes_145 rfl (lv_at hl 3 rfl) ?_
    refine k_get hx hb hts i_X5 hown hw 1 13 rfl rfl (by decide) k_f45 rfl dX5_makes_146 ?_
    refine lv_imul hx hb dX5_makes_149 ?_
    refine lv_iadd hx hb dX5_makes_150 ?_
    refine lv_i2l (v := Int32.toInt64 (((if (ms / 2) < li then (ms / 2) else li) * fp) + ((if 0 < ((ms / 2) - li) then ((ms / 2) - li) else 0) * sp))) hx hb dX5_makes_151 rfl ?_
    refine k_eql (y := f_cost li fp sp (ms / 2)) hcost ?_
    refine lv_ladd hx hb dX5_makes_152 ?_
    refine k_put hx hb hts i_X5 tyX5_ok nmX5 hown hw 1 19 (ws' := [(z1, .inl (cI, 3, .inl we)), (h0, .inr (5, [.ref z1, .ref z2, .ref z3, .ref z4, .ref z5, .int (nI k), .int (nI mw), .int mg, .int ch, .int up, .int sh, .int li, .int fp, .int sp, .int hc, .long (inn + (Int32.toInt64 ((m_fib ms) - (m_fed bk sh ms)))), .long (pa + 0), .long (lo + (Int32.toInt64 (ms / 50))), .long (ma + (Int32.toInt64 ms)), .long (st + (f_cost li fp sp (ms / 2))), .int ph, .int tr, .int la]))]) rfl rfl (by decide) k_f80 rfl rfl rfl (Nat.le_of_ble_eq_true rfl) rfl dX5_makes_153 (fun H locs hw => ?_)
    replace hw := hw.pick (ws' := [(h0, .inr (5, [.ref z1, .ref z2, .ref z3, .ref z4, .ref z5, .int (nI k), .int (nI mw), .int mg, .int ch, .int up, .int sh, .int li, .int fp, .int sp, .int hc, .long (inn + (Int32.toInt64 ((m_fib ms) - (m_fed bk sh ms)))), .long (pa + 0), .long (lo + (Int32.toInt64 (ms / 50))), .long (ma + (Int32.toInt64 ms)), .long (st + (f_cost li fp sp (ms / 2))), .int ph, .int tr, .int la])), (z1, .inl (cI, 3, .inl we))]) [1, 0] (by decide) rfl
    exact k_vret () hx hb hr hlocks (by rw [if_pos c91]; exact hw) trivial dX5_makes_156
  · refine lv_iload_n hx hb dX5_makes_94 rfl (lv_at hl 2 rfl) ?_
    refine lv_iload_n hx hb dX5_makes_95 rfl (lv_at hl 2 rfl) ?_
    refine lv_iload_n hx hb dX5_makes_96 rfl (lv_at hl 4 rfl) ?_
    refine lv_imul hx hb dX5_makes_97 ?_
    refine lv_aload_n hx hb dX5_makes_98 rfl (lv_at hl 3 rfl) ?_
    refine k_get hx hb hts i_X5 hown hw 1 6 rfl rfl (by decide) k_f25 rfl dX5_makes_99 ?_
    refine lv_idiv hx hb dX5_makes_102 (nI_ne0 hmw.1 (by omega)) ?_
    refine lv_isub hx hb dX5_makes_103 ?_
    refine lv_i2l (v := Int32.toInt64 (ms - ((ms * p0) / (nI mw)))) hx hb dX5_makes_104 rfl ?_
    refine lv_goto (tgt := 109) hx hb dX5_makes_105 (by decide) ?_
    refine lv_ladd hx hb dX5_makes_109 ?_
    refine k_put hx hb hts i_X5 tyX5_ok nmX5 hown hw 1 16 (ws' := [(z1, .inl (cI, 3, .inl we)), (h0, .inr (5, [.ref z1, .ref z2, .ref z3, .ref z4, .ref z5, .int (nI k), .int (nI mw), .int mg, .int ch, .int up, .int sh, .int li, .int fp, .int sp, .int hc, .long (inn + (Int32.toInt64 ((m_fib ms) - (m_fed bk sh ms)))), .long (pa + (Int32.toInt64 (ms - ((ms * p0) / (nI mw))))), .long (lo + (Int32.toInt64 (ms / 50))), .long (ma + (Int32.toInt64 ms)), .long st, .int ph, .int tr, .int la]))]) rfl rfl (by decide) k_f52 rfl rfl rfl (Nat.le_of_ble_eq_true rfl) rfl dX5_makes_110 (fun H locs hw => ?_)
    refine lv_aload_n hx hb dX5_makes_113 rfl (lv_at hl 3 rfl) ?_
    refine lv_dup hx hb dX5_makes_114 rfl ?_
    refine k_get hx hb hts i_X5 hown hw 1 19 rfl rfl (by decide) k_f80 rfl dX5_makes_115 ?_
    refine lv_aload_n hx hb dX5_makes_118 rfl (lv_at hl 3 rfl) ?_
    refine k_get hx hb hts i_X5 hown hw 1 11 rfl rfl (by decide) k_f39 rfl dX5_makes_119 ?_
    refine lv_iload_n hx hb dX5_makes_122 rfl (lv_at hl 2 rfl) ?_
    refine lv_iconst (v := 2) hx hb dX5_makes_123 (by decide) ?_
    refine lv_idiv hx hb dX5_makes_124 (by decide) ?_
    refine va_mmin hx hb (hml.trans hl.1.symm) hown k_m71 k_s_min k_imath k_c_min (Nat.le_of_ble_eq_true rfl) (Nat.le_of_ble_eq_true rfl) (Nat.le_of_ble_eq_true rfl) (Nat.le_of_ble_eq_true rfl) dX5_makes_125 ?_
    refine lv_aload_n hx hb dX5_makes_128 rfl (lv_at hl 3 rfl) ?_
    refine k_get hx hb hts i_X5 hown hw 1 12 rfl rfl (by decide) k_f42 rfl dX5_makes_129 ?_
    refine lv_imul hx hb dX5_makes_132 ?_
    refine lv_iconst (v := 0) hx hb dX5_makes_133 (by decide) ?_
    refine lv_iload_n hx hb dX5_makes_134 rfl (lv_at hl 2 rfl) ?_
    refine lv_iconst (v := 2) hx hb dX5_makes_135 (by decide) ?_
    refine lv_idiv hx hb dX5_makes_136 (by decide) ?_
    refine lv_aload_n hx hb dX5_makes_137 rfl (lv_at hl 3 rfl) ?_
    refine k_get hx hb hts i_X5 hown hw 1 11 rfl rfl (by decide) k_f39 rfl dX5_makes_138 ?_
    refine lv_isub hx hb dX5_makes_141 ?_
    refine va_mmax hx hb (hml.trans hl.1.symm) hown k_m83 k_s_max k_imath k_c_max (Nat.le_of_ble_eq_true rfl) (Nat.le_of_ble_eq_true rfl) (Nat.le_of_ble_eq_true rfl) (Nat.le_of_ble_eq_true rfl) dX5_makes_142 ?_
    refine lv_aload_n hx hb dX5_makes_145 rfl (lv_at hl 3 rfl) ?_
    refine k_get hx hb hts i_X5 hown hw 1 13 rfl rfl (by decide) k_f45 rfl dX5_makes_146 ?_
    refine lv_imul hx hb dX5_makes_149 ?_
    refine lv_iadd hx hb dX5_makes_150 ?_
    refine lv_i2l (v := Int32.toInt64 (((if (ms / 2) < li then (ms / 2) else li) * fp) + ((if 0 < ((ms / 2) - li) then ((ms / 2) - li) else 0) * sp))) hx hb dX5_makes_151 rfl ?_
    refine k_eql (y := f_cost li fp sp (ms / 2)) hcost ?_
    refine lv_ladd hx hb dX5_makes_152 ?_
    refine k_put hx hb hts i_X5 tyX5_ok nmX5 hown hw 1 19 (ws' := [(z1, .inl (cI, 3, .inl we)), (h0, .inr (5, [.ref z1, .ref z2, .ref z3, .ref z4, .ref z5, .int (nI k), .int (nI mw), .int mg, .int ch, .int up, .int sh, .int li, .int fp, .int sp, .int hc, .long (inn + (Int32.toInt64 ((m_fib ms) - (m_fed bk sh ms)))), .long (pa + (Int32.toInt64 (ms - ((ms * p0) / (nI mw))))), .long (lo + (Int32.toInt64 (ms / 50))), .long (ma + (Int32.toInt64 ms)), .long (st + (f_cost li fp sp (ms / 2))), .int ph, .int tr, .int la]))]) rfl rfl (by decide) k_f80 rfl rfl rfl (Nat.le_of_ble_eq_true rfl) rfl dX5_makes_153 (fun H locs hw => ?_)
    replace hw := hw.pick (ws' := [(h0, .inr (5, [.ref z1, .ref z2, .ref z3, .ref z4, .ref z5, .int (nI k), .int (nI mw), .int mg, .int ch, .int up, .int sh, .int li, .int fp, .int sp, .int hc, .long (inn + (Int32.toInt64 ((m_fib ms) - (m_fed bk sh ms)))), .long (pa + (Int32.toInt64 (ms - ((ms * p0) / (nI mw))))), .long (lo + (Int32.toInt64 (ms / 50))), .long (ma + (Int32.toInt64 ms)), .long (st + (f_cost li fp sp (ms / 2))), .int ph, .int tr, .int la])), (z1, .inl (cI, 3, .inl we))]) [1, 0] (by decide) rfl
    exact k_vret () hx hb hr hlocks (by rw [if_neg c91]; exact hw) trivial dX5_makes_156
